theorem dX3_next_0 : decode cX3_next 0 = .ok (.aload_n 0, 1) := by decide +kernel
theorem dX3_next_1 : decode cX3_next 1 = .ok (.getfield 20, 3) := by decide +kernel
theorem dX3_next_4 : decode cX3_next 4 = .ok (.iload_n 1, 1) := by decide +kernel
theorem dX3_next_5 : decode cX3_next 5 = .ok (.invokevirtual 69, 3) := by decide +kernel
theorem dX3_next_8 : decode cX3_next 8 = .ok (.ifCond .ne 9, 3) := by decide +kernel
theorem dX3_next_11 : decode cX3_next 11 = .ok (.aload_n 0, 1) := by decide +kernel
theorem dX3_next_12 : decode cX3_next 12 = .ok (.iconst (-1), 1) := by decide +kernel
theorem dX3_next_13 : decode cX3_next 13 = .ok (.invokevirtual 54, 3) := by decide +kernel
theorem dX3_next_16 : decode cX3_next 16 = .ok (.ireturn, 1) := by decide +kernel
theorem dX3_next_17 : decode cX3_next 17 = .ok (.aload_n 0, 1) := by decide +kernel
theorem dX3_next_18 : decode cX3_next 18 = .ok (.getfield 12, 3) := by decide +kernel
theorem dX3_next_21 : decode cX3_next 21 = .ok (.iconst 1, 1) := by decide +kernel
theorem dX3_next_22 : decode cX3_next 22 = .ok (.iconst 0, 1) := by decide +kernel
theorem dX3_next_23 : decode cX3_next 23 = .ok (.iconst 0, 1) := by decide +kernel
theorem dX3_next_24 : decode cX3_next 24 = .ok (.invokevirtual 89, 3) := by decide +kernel
theorem dX3_next_27 : decode cX3_next 27 = .ok (.aload_n 0, 1) := by decide +kernel
theorem dX3_next_28 : decode cX3_next 28 = .ok (.getfield 12, 3) := by decide +kernel
theorem dX3_next_31 : decode cX3_next 31 = .ok (.aload_n 0, 1) := by decide +kernel
theorem dX3_next_32 : decode cX3_next 32 = .ok (.getfield 20, 3) := by decide +kernel
theorem dX3_next_35 : decode cX3_next 35 = .ok (.getfield 86, 3) := by decide +kernel
theorem dX3_next_38 : decode cX3_next 38 = .ok (.invokevirtual 93, 3) := by decide +kernel
theorem dX3_next_41 : decode cX3_next 41 = .ok (.aload_n 0, 1) := by decide +kernel
theorem dX3_next_42 : decode cX3_next 42 = .ok (.getfield 12, 3) := by decide +kernel
theorem dX3_next_45 : decode cX3_next 45 = .ok (.iload_n 1, 1) := by decide +kernel
theorem dX3_next_46 : decode cX3_next 46 = .ok (.invokevirtual 97, 3) := by decide +kernel
theorem dX3_next_49 : decode cX3_next 49 = .ok (.ireturn, 1) := by decide +kernel
set_option maxRecDepth 20000 in
theorem ggX3_next_X0_has : GoodIn wsX3_next wsX0_has := goodIn_r _ [7, 8, 80, 81, 82, 83, 84, 85, 86, 87] (by decide +kernel) (by decide +kernel)
set_option maxRecDepth 20000 in
theorem gX3_next_X0_has : GoodIn wsX3_next (wsV RX3 69 RX0 yX0_has wsX0_has) := goodIn_app (goodIn_of _ (by decide +kernel)) ggX3_next_X0_has
set_option maxRecDepth 20000 in
theorem ggX3_next_X3_refuse : GoodIn wsX3_next wsX3_refuse := goodIn_r _ [13, 14, 71, 72, 73, 74, 75, 76, 77, 78, 79] (by decide +kernel) (by decide +kernel)
set_option maxRecDepth 20000 in
theorem gX3_next_X3_refuse : GoodIn wsX3_next (wsV RX3 54 RX3 yX3_refuse wsX3_refuse) := goodIn_app (goodIn_of _ (by decide +kernel)) ggX3_next_X3_refuse
set_option maxRecDepth 20000 in
theorem ggX3_next_X2_begin : GoodIn wsX3_next wsX2_begin := goodIn_r _ [19, 20, 21, 22, 88, 89, 90, 91, 92, 93, 94, 95, 96] (by decide +kernel) (by decide +kernel)
set_option maxRecDepth 20000 in
theorem gX3_next_X2_begin : GoodIn wsX3_next (wsV RX3 89 RX2 yX2_begin wsX2_begin) := goodIn_app (goodIn_of _ (by decide +kernel)) ggX3_next_X2_begin
set_option maxRecDepth 20000 in
theorem ggX3_next_X2_look : GoodIn wsX3_next wsX2_look := goodIn_r _ [26, 27, 22, 28, 29, 30, 21, 20, 31, 32, 33, 6, 34, 35, 36, 4, 5, 7, 8, 37, 38, 39, 40, 41, 42, 43, 44, 45, 46, 47, 48, 49, 50, 51, 52, 53, 54, 55, 56, 57, 58, 59, 60, 88, 89, 90, 91, 92, 93, 94, 95, 96, 80, 81, 82, 83, 84, 85, 86, 87] (by decide +kernel) (by decide +kernel)
set_option maxRecDepth 20000 in
theorem gX3_next_X2_look : GoodIn wsX3_next (wsV RX3 93 RX2 yX2_look wsX2_look) := goodIn_app (goodIn_of _ (by decide +kernel)) ggX3_next_X2_look
set_option maxRecDepth 20000 in
theorem ggX3_next_X2_floesBeside : GoodIn wsX3_next wsX2_floesBeside := goodIn_r _ [64, 29, 30, 28, 65, 66, 59, 67, 51, 4, 5, 6, 7, 8, 68, 69, 18, 70, 88, 89, 90, 91, 92, 93, 94, 95, 96, 80, 81, 82, 83, 84, 85, 86, 87] (by decide +kernel) (by decide +kernel)
set_option maxRecDepth 20000 in
theorem gX3_next_X2_floesBeside : GoodIn wsX3_next (wsV RX3 97 RX2 yX2_floesBeside wsX2_floesBeside) := goodIn_app (goodIn_of _ (by decide +kernel)) ggX3_next_X2_floesBeside
set_option maxHeartbeats 4000000 in
set_option maxRecDepth 100000 in
theorem mX3_next (l : Launch) (dC : Nat → ClassId) (dI : Nat → Nat → Nat) (cI cC : ClassId) (sk : (Nat → Nat) × (Nat → Nat)) (f : Nat → Nat) (sz : Nat) (p1 : Int32) (c_lanes : AR) (c_spots : AR) (c_byLeaps : AR) (c_load : Int32) (c_gone : Int32) (c_held : Int32) (c_strong : Int32) (c_done : Int32) (c_rn : RT) (c_rt : RT) (c_letters : AR) (c_size : Int32) (c_rp : RT) (c_seen : AR) (c_refs : AR) (c_inRow : Int32) (c_isPic : Int32) (z : Int32 × AR × AR × Int32 × Int32 × Int32 × Int32 × AR) (h : fX3_next p1 c_lanes c_spots c_load c_gone c_held c_strong c_rn c_refs = some z) : cRW l yX3_next wsX3_next (RMk 4 93) sk (dC, dI) (tyz cI cC) sz (zwX cI cC f c_lanes c_spots c_byLeaps c_load c_gone c_held c_strong c_done c_rn c_rt c_letters c_size c_rp c_seen c_refs c_inRow c_isPic) (zwX cI cC f z.2.1 z.2.2.1 c_byLeaps z.2.2.2.1 z.2.2.2.2.1 z.2.2.2.2.2.1 z.2.2.2.2.2.2.1 c_done c_rn c_rt c_letters c_size c_rp c_seen z.2.2.2.2.2.2.2 c_inRow c_isPic) [.ref (f 0), .int p1] z.1 := by
  refine ofRW (cc := cX3_next) (maxL := 2) (ret := (some .int)) (own := RX3) (plainFor_of_name (by decide)) rfl rfl (Nat.le_of_ble_eq_true rfl) ?_
  intro p e s m args below meth c A hA hx hb hml hr hts hown hlocks hE hK hP hD hS ls hl
  generalize hQ : qRW _ _ _ _ _ _ _ = Q
  have hl : lv_has ls 2 [(0, .ref (f 0)), (1, .int p1)] := hl
  have hiX0 : ∀ w ∈ wsX00, w ∈ wsX3_next := fun w h => List.mem_cons_of_mem _ (List.mem_append_left _ (List.mem_append_right _ h))
  have hiX3 : ∀ w ∈ wsX30, w ∈ wsX3_next := fun w h => List.mem_cons_of_mem _ (List.mem_append_left _ (List.mem_append_left _ (List.mem_append_right _ h)))
  have hw1 := hts (Cond.fieldLink RX3 20 "FloeToFloe" "now" "LFloeToFloe$River;") (List.mem_of_getElem? (i := 1) rfl)
  have hw2 := hts (Cond.fieldLink RX3 12 "FloeToFloe" "walk" "LFloeToFloe$Walk;") (List.mem_of_getElem? (i := 2) rfl)
  have hnw4 : (Cond.fieldLinkNest "FloeToFloe" 86 "FloeToFloe$River" "minute" "I" "FloeToFloe").before args s = true := va_Nw.use rfl (hE.1 4 _ rfl)
  rw [fX3_next] at h
  refine lv_aload_n hx hb dX3_next_0 rfl (lv_at hl 0 rfl) ?_
  refine va_get (D := (dC, dI)) (ci := 3) (v := .ref (f 5)) (C := RX3) (T := TX3) (N := 9) hx hb hts hiX3 hown hK hP 0 rfl rfl 1 (by decide) hw1 (fun _ h9 => h9) rfl dX3_next_1 ?_
  refine lv_iload_n hx hb dX3_next_4 rfl (lv_at hl 1 rfl) ?_
  obtain ⟨q5, e5, h⟩ := bd_some h
  refine g_roV (wc := (zwR cI cC (fun k => f (k + 5)) c_rn)) ⟨hx, hb, hml, hown, hts⟩ hE hK hP hS [5, 6, 7, 8, 9, 10] rfl (mX0_has l dC dI cI cC sk (fun k => f (k + 5)) p1 c_rn q5 e5) (cwV 1 hts gX3_next_X0_has rfl rfl rfl (by decide +kernel) ⟨Nat.le_of_ble_eq_true rfl, Nat.le_of_ble_eq_true rfl⟩) (va_recv hK hP (ci := 0) (q0 := 5) rfl rfl) (As := [.int p1]) (rest := []) rfl hl.1 rfl (Nat.le_of_ble_eq_true rfl) dX3_next_5 ⟨Nat.zero_le _, Nat.zero_le _⟩ (fun H locs hP hS => ?_)
  refine lv_if_ne (tgt := 17) hx hb dX3_next_8 (by decide) (fun c8 => ?_) (fun c8 => ?_)
  · have h := itF c8 h
    refine lv_aload_n hx hb dX3_next_17 rfl (lv_at hl 0 rfl) ?_
    refine va_get (D := (dC, dI)) (ci := 3) (v := .ref (f 1)) (C := RX3) (T := TX3) (N := 9) hx hb hts hiX3 hown hK hP 0 rfl rfl 0 (by decide) hw2 (fun _ h9 => h9) rfl dX3_next_18 ?_
    refine lv_iconst (v := (1 : Int32)) hx hb dX3_next_21 (by decide) ?_
    refine lv_iconst (v := (0 : Int32)) hx hb dX3_next_22 (by decide) ?_
    refine lv_iconst (v := (0 : Int32)) hx hb dX3_next_23 (by decide) ?_
    obtain ⟨q24, e24, h⟩ := bd_some h
    refine g_rvV (wc := (zwV cI cC (fun k => f (k + 1)) c_lanes c_spots c_byLeaps c_load c_gone c_held c_strong c_done c_rn)) (wc' := (zwV cI cC (fun k => f (k + 1)) c_lanes c_spots c_byLeaps q24.1 q24.2.1 q24.2.2 c_strong c_done c_rn)) (ws' := (zwX cI cC f c_lanes c_spots c_byLeaps q24.1 q24.2.1 q24.2.2 c_strong c_done c_rn c_rt c_letters c_size c_rp c_seen c_refs c_inRow c_isPic)) (wr := [(f 0, .inr (3, [.ref (f 1), .ref (f 5), .ref (f 11), .ref (f 19), .ref (f 17), .ref (f 25), .ref (f 26), .int c_inRow, .int c_isPic])), (f 11, .inr (0, [.ref (f 12), .ref (f 13), .ref (f 14), .ref (f 15), .ref (f 16), .int (R_lanes c_rt), .int (R_floes c_rt), .int (R_minute c_rt)])), (f 12, .inl (cI, 8, .inl (R_kinds c_rt))), (f 13, .inl (cI, 8, .inl (R_homes c_rt))), (f 14, .inl (cI, 8, .inl (R_cells c_rt))), (f 15, .inl (cI, 8, .inl (R_paces c_rt))), (f 16, .inl (cI, 8, .inl (R_strengths c_rt))), (f 17, .inr (1, [.ref (f 18), .int c_size])), (f 18, .inl (cC, 80, .inl c_letters)), (f 19, .inr (0, [.ref (f 20), .ref (f 21), .ref (f 22), .ref (f 23), .ref (f 24), .int (R_lanes c_rp), .int (R_floes c_rp), .int (R_minute c_rp)])), (f 20, .inl (cI, 8, .inl (R_kinds c_rp))), (f 21, .inl (cI, 8, .inl (R_homes c_rp))), (f 22, .inl (cI, 8, .inl (R_cells c_rp))), (f 23, .inl (cI, 8, .inl (R_paces c_rp))), (f 24, .inl (cI, 8, .inl (R_strengths c_rp))), (f 25, .inl (cI, 12, .inl c_seen)), (f 26, .inl (cI, 7, .inl c_refs))]) (nw := 27) ⟨hx, hb, hml, hown, hts⟩ hE hK hA hP hD hS [1, 2, 3, 4, 5, 6, 7, 8, 9, 10] [0, 11, 12, 13, 14, 15, 16, 17, 18, 19, 20, 21, 22, 23, 24, 25, 26] rfl rfl rfl rfl rfl rfl (by decide +kernel) rfl (mX2_begin l dC dI cI cC sk (fun k => f (k + 1)) H.size (1 : Int32) (0 : Int32) (0 : Int32) c_lanes c_spots c_byLeaps c_load c_gone c_held c_strong c_done c_rn q24 e24) (cwV 3 hts gX3_next_X2_begin rfl rfl rfl (by decide +kernel) ⟨Nat.le_of_ble_eq_true rfl, Nat.le_of_ble_eq_true rfl⟩) (va_recv hK hP (ci := 2) (q0 := 1) rfl rfl) (As := [.int (1 : Int32), .int (0 : Int32), .int (0 : Int32)]) (rest := []) rfl hl.1 rfl (Nat.le_of_ble_eq_true rfl) dX3_next_24 ⟨Nat.zero_le _, Nat.zero_le _⟩ (fun H locs hP hD hS => ?_)
    refine lv_aload_n hx hb dX3_next_27 rfl (lv_at hl 0 rfl) ?_
    refine va_get (D := (dC, dI)) (ci := 3) (v := .ref (f 1)) (C := RX3) (T := TX3) (N := 9) hx hb hts hiX3 hown hK hP 0 rfl rfl 0 (by decide) hw2 (fun _ h9 => h9) rfl dX3_next_28 ?_
    refine lv_aload_n hx hb dX3_next_31 rfl (lv_at hl 0 rfl) ?_
    refine va_get (D := (dC, dI)) (ci := 3) (v := .ref (f 5)) (C := RX3) (T := TX3) (N := 9) hx hb hts hiX3 hown hK hP 0 rfl rfl 1 (by decide) hw1 (fun _ h9 => h9) rfl dX3_next_32 ?_
    refine va_getN (D := (dC, dI)) (ci := 0) (v := .int (R_minute c_rn)) (C := RX0) (T := TX0) (N := 8) hx hb hts hiX0 hown hK hP 5 rfl rfl 7 (by decide) hnw4 (fun _ h9 => h9) rfl dX3_next_35 ?_
    obtain ⟨q38, e38, h⟩ := bd_some h
    refine g_rvV (wc := (zwV cI cC (fun k => f (k + 1)) c_lanes c_spots c_byLeaps q24.1 q24.2.1 q24.2.2 c_strong c_done c_rn)) (wc' := (zwV cI cC (fun k => f (k + 1)) q38.1 q38.2.1 c_byLeaps q24.1 q24.2.1 q24.2.2 q38.2.2 c_done c_rn)) (ws' := (zwX cI cC f q38.1 q38.2.1 c_byLeaps q24.1 q24.2.1 q24.2.2 q38.2.2 c_done c_rn c_rt c_letters c_size c_rp c_seen c_refs c_inRow c_isPic)) (wr := [(f 0, .inr (3, [.ref (f 1), .ref (f 5), .ref (f 11), .ref (f 19), .ref (f 17), .ref (f 25), .ref (f 26), .int c_inRow, .int c_isPic])), (f 11, .inr (0, [.ref (f 12), .ref (f 13), .ref (f 14), .ref (f 15), .ref (f 16), .int (R_lanes c_rt), .int (R_floes c_rt), .int (R_minute c_rt)])), (f 12, .inl (cI, 8, .inl (R_kinds c_rt))), (f 13, .inl (cI, 8, .inl (R_homes c_rt))), (f 14, .inl (cI, 8, .inl (R_cells c_rt))), (f 15, .inl (cI, 8, .inl (R_paces c_rt))), (f 16, .inl (cI, 8, .inl (R_strengths c_rt))), (f 17, .inr (1, [.ref (f 18), .int c_size])), (f 18, .inl (cC, 80, .inl c_letters)), (f 19, .inr (0, [.ref (f 20), .ref (f 21), .ref (f 22), .ref (f 23), .ref (f 24), .int (R_lanes c_rp), .int (R_floes c_rp), .int (R_minute c_rp)])), (f 20, .inl (cI, 8, .inl (R_kinds c_rp))), (f 21, .inl (cI, 8, .inl (R_homes c_rp))), (f 22, .inl (cI, 8, .inl (R_cells c_rp))), (f 23, .inl (cI, 8, .inl (R_paces c_rp))), (f 24, .inl (cI, 8, .inl (R_strengths c_rp))), (f 25, .inl (cI, 12, .inl c_seen)), (f 26, .inl (cI, 7, .inl c_refs))]) (nw := 27) ⟨hx, hb, hml, hown, hts⟩ hE hK hA hP hD hS [1, 2, 3, 4, 5, 6, 7, 8, 9, 10] [0, 11, 12, 13, 14, 15, 16, 17, 18, 19, 20, 21, 22, 23, 24, 25, 26] rfl rfl rfl rfl rfl rfl (by decide +kernel) rfl (mX2_look l dC dI cI cC sk (fun k => f (k + 1)) H.size (R_minute c_rn) c_lanes c_spots c_byLeaps q24.1 q24.2.1 q24.2.2 c_strong c_done c_rn q38 e38) (cwV 1 hts gX3_next_X2_look rfl rfl rfl (by decide +kernel) ⟨Nat.le_of_ble_eq_true rfl, Nat.le_of_ble_eq_true rfl⟩) (va_recv hK hP (ci := 2) (q0 := 1) rfl rfl) (As := [.int (R_minute c_rn)]) (rest := []) rfl hl.1 rfl (Nat.le_of_ble_eq_true rfl) dX3_next_38 ⟨Nat.zero_le _, Nat.zero_le _⟩ (fun H locs hP hD hS => ?_)
    refine lv_aload_n hx hb dX3_next_41 rfl (lv_at hl 0 rfl) ?_
    refine va_get (D := (dC, dI)) (ci := 3) (v := .ref (f 1)) (C := RX3) (T := TX3) (N := 9) hx hb hts hiX3 hown hK hP 0 rfl rfl 0 (by decide) hw2 (fun _ h9 => h9) rfl dX3_next_42 ?_
    refine lv_iload_n hx hb dX3_next_45 rfl (lv_at hl 1 rfl) ?_
    obtain ⟨q46, e46, h⟩ := bd_some h
    refine g_roV (wc := (zwV cI cC (fun k => f (k + 1)) q38.1 q38.2.1 c_byLeaps q24.1 q24.2.1 q24.2.2 q38.2.2 c_done c_rn)) ⟨hx, hb, hml, hown, hts⟩ hE hK hP hS [1, 2, 3, 4, 5, 6, 7, 8, 9, 10] rfl (mX2_floesBeside l dC dI cI cC sk (fun k => f (k + 1)) p1 q38.1 q38.2.1 c_byLeaps q24.1 q24.2.1 q24.2.2 q38.2.2 c_done c_rn q46 e46) (cwV 1 hts gX3_next_X2_floesBeside rfl rfl rfl (by decide +kernel) ⟨Nat.le_of_ble_eq_true rfl, Nat.le_of_ble_eq_true rfl⟩) (va_recv hK hP (ci := 2) (q0 := 1) rfl rfl) (As := [.int p1]) (rest := []) rfl hl.1 rfl (Nat.le_of_ble_eq_true rfl) dX3_next_46 ⟨Nat.zero_le _, Nat.zero_le _⟩ (fun H locs hP hS => ?_)
    subst hQ
    exact retRW (zz := ((q46, q38.1, q38.2.1, q24.1, q24.2.1, q24.2.2, q38.2.2, c_refs) : Int32 × AR × AR × Int32 × Int32 × Int32 × Int32 × AR)) (fun z => z.1) (fun z => (zwX cI cC f z.2.1 z.2.2.1 c_byLeaps z.2.2.2.1 z.2.2.2.2.1 z.2.2.2.2.2.1 z.2.2.2.2.2.2.1 c_done c_rn c_rt c_letters c_size c_rp c_seen z.2.2.2.2.2.2.2 c_inRow c_isPic)) hx hb hr hlocks rfl hS h rfl hP dX3_next_49
  have h := itT c8 h
  refine lv_aload_n hx hb dX3_next_11 rfl (lv_at hl 0 rfl) ?_
  refine lv_iconst (v := (-1 : Int32)) hx hb dX3_next_12 (by decide) ?_
  obtain ⟨q13, e13, h⟩ := bd_some h
  refine g_rwA (wc := (zwX cI cC f c_lanes c_spots c_byLeaps c_load c_gone c_held c_strong c_done c_rn c_rt c_letters c_size c_rp c_seen c_refs c_inRow c_isPic)) (wc' := (zwX cI cC f c_lanes c_spots c_byLeaps c_load c_gone c_held c_strong c_done c_rn c_rt c_letters c_size c_rp c_seen q13.2 c_inRow c_isPic)) ⟨hx, hb, hml, hown, hts⟩ hE hK hA hP hD hS rfl (mX3_refuse l dC dI cI cC sk f H.size (-1 : Int32) c_lanes c_spots c_byLeaps c_load c_gone c_held c_strong c_done c_rn c_rt c_letters c_size c_rp c_seen c_refs c_inRow c_isPic q13 e13) (cwV 1 hts gX3_next_X3_refuse rfl rfl rfl (by decide +kernel) ⟨Nat.le_of_ble_eq_true rfl, Nat.le_of_ble_eq_true rfl⟩) (va_recv hK hP (ci := 3) (q0 := 0) rfl rfl) (As := [.int (-1 : Int32)]) (rest := []) rfl hl.1 rfl (Nat.le_of_ble_eq_true rfl) dX3_next_13 ⟨Nat.zero_le _, Nat.zero_le _⟩ (fun H locs hP hD hS => ?_)
  have hP : va_P (dC, dI) vwCl (zwX cI cC f c_lanes c_spots c_byLeaps c_load c_gone c_held c_strong c_done c_rn c_rt c_letters c_size c_rp c_seen q13.2 c_inRow c_isPic) H := hP
  have hD : va_D A (zwX cI cC f c_lanes c_spots c_byLeaps c_load c_gone c_held c_strong c_done c_rn c_rt c_letters c_size c_rp c_seen q13.2 c_inRow c_isPic) := hD
  subst hQ
  exact retRW (zz := ((q13.1, c_lanes, c_spots, c_load, c_gone, c_held, c_strong, q13.2) : Int32 × AR × AR × Int32 × Int32 × Int32 × Int32 × AR)) (fun z => z.1) (fun z => (zwX cI cC f z.2.1 z.2.2.1 c_byLeaps z.2.2.2.1 z.2.2.2.2.1 z.2.2.2.2.2.1 z.2.2.2.2.2.2.1 c_done c_rn c_rt c_letters c_size c_rp c_seen z.2.2.2.2.2.2.2 c_inRow c_isPic)) hx hb hr hlocks rfl hS h rfl hP dX3_next_16
