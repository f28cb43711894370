theorem dX3_soonest_0 : decode cX3_soonest 0 = .ok (.iload_n 1, 1) := by decide +kernel
theorem dX3_soonest_1 : decode cX3_soonest 1 = .ok (.iload_n 2, 1) := by decide +kernel
theorem dX3_soonest_2 : decode cX3_soonest 2 = .ok (.invokestatic 107, 3) := by decide +kernel
theorem dX3_soonest_5 : decode cX3_soonest 5 = .ok (.istore_n 3, 1) := by decide +kernel
theorem dX3_soonest_6 : decode cX3_soonest 6 = .ok (.iload_n 3, 1) := by decide +kernel
theorem dX3_soonest_7 : decode cX3_soonest 7 = .ok (.ifCond .eq 9, 3) := by decide +kernel
theorem dX3_soonest_10 : decode cX3_soonest 10 = .ok (.aload_n 0, 1) := by decide +kernel
theorem dX3_soonest_11 : decode cX3_soonest 11 = .ok (.iload_n 3, 1) := by decide +kernel
theorem dX3_soonest_12 : decode cX3_soonest 12 = .ok (.invokevirtual 54, 3) := by decide +kernel
theorem dX3_soonest_15 : decode cX3_soonest 15 = .ok (.ireturn, 1) := by decide +kernel
theorem dX3_soonest_16 : decode cX3_soonest 16 = .ok (.aload_n 0, 1) := by decide +kernel
theorem dX3_soonest_17 : decode cX3_soonest 17 = .ok (.getfield 12, 3) := by decide +kernel
theorem dX3_soonest_20 : decode cX3_soonest 20 = .ok (.iload_n 1, 1) := by decide +kernel
theorem dX3_soonest_21 : decode cX3_soonest 21 = .ok (.iconst 0, 1) := by decide +kernel
theorem dX3_soonest_22 : decode cX3_soonest 22 = .ok (.iconst 0, 1) := by decide +kernel
theorem dX3_soonest_23 : decode cX3_soonest 23 = .ok (.invokevirtual 89, 3) := by decide +kernel
theorem dX3_soonest_26 : decode cX3_soonest 26 = .ok (.aload_n 0, 1) := by decide +kernel
theorem dX3_soonest_27 : decode cX3_soonest 27 = .ok (.getfield 12, 3) := by decide +kernel
theorem dX3_soonest_30 : decode cX3_soonest 30 = .ok (.iload_n 2, 1) := by decide +kernel
theorem dX3_soonest_31 : decode cX3_soonest 31 = .ok (.aload_n 0, 1) := by decide +kernel
theorem dX3_soonest_32 : decode cX3_soonest 32 = .ok (.getfield 20, 3) := by decide +kernel
theorem dX3_soonest_35 : decode cX3_soonest 35 = .ok (.getfield 86, 3) := by decide +kernel
theorem dX3_soonest_38 : decode cX3_soonest 38 = .ok (.invokevirtual 110, 3) := by decide +kernel
theorem dX3_soonest_41 : decode cX3_soonest 41 = .ok (.ireturn, 1) := by decide +kernel
set_option maxRecDepth 20000 in
theorem ggX3_soonest_X3_faultOfWalker : GoodIn wsX3_soonest wsX3_faultOfWalker := goodIn_r _ [6, 7, 8, 5, 9, 10, 11, 12] (by decide +kernel) (by decide +kernel)
set_option maxRecDepth 20000 in
theorem gX3_soonest_X3_faultOfWalker : GoodIn wsX3_soonest (va_wsS RX3 107 yX3_faultOfWalker wsX3_faultOfWalker) := goodIn_app (goodIn_of _ (by decide +kernel)) ggX3_soonest_X3_faultOfWalker
set_option maxRecDepth 20000 in
theorem ggX3_soonest_X3_refuse : GoodIn wsX3_soonest wsX3_refuse := goodIn_r _ [16, 17, 108, 109, 110, 111, 112, 113, 114, 115, 116] (by decide +kernel) (by decide +kernel)
set_option maxRecDepth 20000 in
theorem gX3_soonest_X3_refuse : GoodIn wsX3_soonest (wsV RX3 54 RX3 yX3_refuse wsX3_refuse) := goodIn_app (goodIn_of _ (by decide +kernel)) ggX3_soonest_X3_refuse
set_option maxRecDepth 20000 in
theorem ggX3_soonest_X2_begin : GoodIn wsX3_soonest wsX2_begin := goodIn_r _ [22, 23, 24, 25, 125, 126, 127, 128, 129, 130, 131, 132, 133] (by decide +kernel) (by decide +kernel)
set_option maxRecDepth 20000 in
theorem gX3_soonest_X2_begin : GoodIn wsX3_soonest (wsV RX3 89 RX2 yX2_begin wsX2_begin) := goodIn_app (goodIn_of _ (by decide +kernel)) ggX3_soonest_X2_begin
set_option maxRecDepth 20000 in
theorem ggX3_soonest_X2_minutesOver : GoodIn wsX3_soonest wsX2_minutesOver := goodIn_r _ [29, 30, 5, 31, 32, 33, 34, 21, 35, 36, 25, 37, 38, 39, 24, 23, 40, 41, 42, 43, 44, 45, 46, 47, 48, 49, 50, 51, 52, 53, 54, 55, 56, 57, 58, 59, 60, 61, 62, 63, 64, 65, 66, 67, 68, 69, 70, 71, 72, 73, 74, 75, 76, 77, 78, 79, 80, 81, 82, 83, 84, 85, 86, 87, 88, 89, 90, 91, 92, 93, 94, 95, 96, 97, 98, 99, 100, 101, 102, 103, 104, 105, 106, 107, 125, 126, 127, 128, 129, 130, 131, 132, 133, 117, 118, 119, 120, 121, 122, 123, 124] (by decide +kernel) (by decide +kernel)
set_option maxRecDepth 20000 in
theorem gX3_soonest_X2_minutesOver : GoodIn wsX3_soonest (wsV RX3 110 RX2 yX2_minutesOver wsX2_minutesOver) := goodIn_app (goodIn_of _ (by decide +kernel)) ggX3_soonest_X2_minutesOver
set_option maxHeartbeats 4000000 in
set_option maxRecDepth 100000 in
theorem mX3_soonest (l : Launch) (dC : Nat → ClassId) (dI : Nat → Nat → Nat) (cI cC : ClassId) (sk : (Nat → Nat) × (Nat → Nat)) (f : Nat → Nat) (sz : Nat) (p1 : Int32) (p2 : Int32) (c_lanes : AR) (c_spots : AR) (c_byLeaps : AR) (c_load : Int32) (c_gone : Int32) (c_held : Int32) (c_strong : Int32) (c_done : Int32) (c_rn : RT) (c_rt : RT) (c_letters : AR) (c_size : Int32) (c_rp : RT) (c_seen : AR) (c_refs : AR) (c_inRow : Int32) (c_isPic : Int32) (z : Int32 × AR × AR × Int32 × Int32 × Int32 × Int32 × AR) (h : fX3_soonest p1 p2 c_lanes c_spots c_load c_gone c_held c_strong c_rn c_refs = some z) : cRW l yX3_soonest wsX3_soonest (RMk 5 117) sk (dC, dI) (tyz cI cC) sz (zwX cI cC f c_lanes c_spots c_byLeaps c_load c_gone c_held c_strong c_done c_rn c_rt c_letters c_size c_rp c_seen c_refs c_inRow c_isPic) (zwX cI cC f z.2.1 z.2.2.1 c_byLeaps z.2.2.2.1 z.2.2.2.2.1 z.2.2.2.2.2.1 z.2.2.2.2.2.2.1 c_done c_rn c_rt c_letters c_size c_rp c_seen z.2.2.2.2.2.2.2 c_inRow c_isPic) [.ref (f 0), .int p1, .int p2] z.1 := by
  refine ofRW (cc := cX3_soonest) (maxL := 4) (ret := (some .int)) (own := RX3) (plainFor_of_name (by decide)) rfl rfl (Nat.le_of_ble_eq_true rfl) ?_
  intro p e s m args below meth c A hA hx hb hml hr hts hown hlocks hE hK hP hD hS ls hl
  generalize hQ : qRW _ _ _ _ _ _ _ = Q
  have hl : lv_has ls 4 [(0, .ref (f 0)), (1, .int p1), (2, .int p2)] := hl
  have hiX0 : ∀ w ∈ wsX00, w ∈ wsX3_soonest := fun w h => List.mem_cons_of_mem _ (List.mem_append_left _ (List.mem_append_right _ h))
  have hiX3 : ∀ w ∈ wsX30, w ∈ wsX3_soonest := fun w h => List.mem_cons_of_mem _ (List.mem_append_left _ (List.mem_append_left _ (List.mem_append_right _ h)))
  have hw1 := hts (Cond.fieldLink RX3 12 "FloeToFloe" "walk" "LFloeToFloe$Walk;") (List.mem_of_getElem? (i := 1) rfl)
  have hw2 := hts (Cond.fieldLink RX3 20 "FloeToFloe" "now" "LFloeToFloe$River;") (List.mem_of_getElem? (i := 2) rfl)
  have hnw4 : (Cond.fieldLinkNest "FloeToFloe" 86 "FloeToFloe$River" "minute" "I" "FloeToFloe").before args s = true := va_Nw.use rfl (hE.1 4 _ rfl)
  rw [fX3_soonest] at h
  refine lv_iload_n hx hb dX3_soonest_0 rfl (lv_at hl 1 rfl) ?_
  refine lv_iload_n hx hb dX3_soonest_1 rfl (lv_at hl 2 rfl) ?_
  obtain ⟨q2, e2, h⟩ := bd_some h
  refine g_roS (wc := ([] : va_W)) ⟨hx, hb, hml, hown, hts⟩ hE hK hP hS [] rfl (mX3_faultOfWalker l dC dI cI cC sk  p1 p2 q2 e2) (va_cwS 2 hts gX3_soonest_X3_faultOfWalker rfl rfl rfl (by decide +kernel) ⟨Nat.le_of_ble_eq_true rfl, Nat.le_of_ble_eq_true rfl⟩) (As := [.int p1, .int p2]) (rest := []) rfl hl.1 rfl (Nat.le_of_ble_eq_true rfl) dX3_soonest_2 ⟨Nat.zero_le _, Nat.zero_le _⟩ (fun H locs hP hS => ?_)
  refine lv_istore_n (lv' := [(3, .int q2), (0, .ref (f 0)), (1, .int p1), (2, .int p2)]) hx hb dX3_soonest_5 rfl hl (by decide) rfl (fun ls hl => ?_)
  refine lv_iload_n hx hb dX3_soonest_6 rfl (lv_at hl 0 rfl) ?_
  refine lv_if_eq (tgt := 16) hx hb dX3_soonest_7 (by decide) (fun c7 => ?_) (fun c7 => ?_)
  · have h := itT c7 h
    refine lv_aload_n hx hb dX3_soonest_16 rfl (lv_at hl 1 rfl) ?_
    refine va_get (D := (dC, dI)) (ci := 3) (v := .ref (f 1)) (C := RX3) (T := TX3) (N := 9) hx hb hts hiX3 hown hK hP 0 rfl rfl 0 (by decide) hw1 (fun _ h9 => h9) rfl dX3_soonest_17 ?_
    refine lv_iload_n hx hb dX3_soonest_20 rfl (lv_at hl 2 rfl) ?_
    refine lv_iconst (v := (0 : Int32)) hx hb dX3_soonest_21 (by decide) ?_
    refine lv_iconst (v := (0 : Int32)) hx hb dX3_soonest_22 (by decide) ?_
    obtain ⟨q23, e23, h⟩ := bd_some h
    refine g_rvV (wc := (zwV cI cC (fun k => f (k + 1)) c_lanes c_spots c_byLeaps c_load c_gone c_held c_strong c_done c_rn)) (wc' := (zwV cI cC (fun k => f (k + 1)) c_lanes c_spots c_byLeaps q23.1 q23.2.1 q23.2.2 c_strong c_done c_rn)) (ws' := (zwX cI cC f c_lanes c_spots c_byLeaps q23.1 q23.2.1 q23.2.2 c_strong c_done c_rn c_rt c_letters c_size c_rp c_seen c_refs c_inRow c_isPic)) (wr := [(f 0, .inr (3, [.ref (f 1), .ref (f 5), .ref (f 11), .ref (f 19), .ref (f 17), .ref (f 25), .ref (f 26), .int c_inRow, .int c_isPic])), (f 11, .inr (0, [.ref (f 12), .ref (f 13), .ref (f 14), .ref (f 15), .ref (f 16), .int (R_lanes c_rt), .int (R_floes c_rt), .int (R_minute c_rt)])), (f 12, .inl (cI, 8, .inl (R_kinds c_rt))), (f 13, .inl (cI, 8, .inl (R_homes c_rt))), (f 14, .inl (cI, 8, .inl (R_cells c_rt))), (f 15, .inl (cI, 8, .inl (R_paces c_rt))), (f 16, .inl (cI, 8, .inl (R_strengths c_rt))), (f 17, .inr (1, [.ref (f 18), .int c_size])), (f 18, .inl (cC, 80, .inl c_letters)), (f 19, .inr (0, [.ref (f 20), .ref (f 21), .ref (f 22), .ref (f 23), .ref (f 24), .int (R_lanes c_rp), .int (R_floes c_rp), .int (R_minute c_rp)])), (f 20, .inl (cI, 8, .inl (R_kinds c_rp))), (f 21, .inl (cI, 8, .inl (R_homes c_rp))), (f 22, .inl (cI, 8, .inl (R_cells c_rp))), (f 23, .inl (cI, 8, .inl (R_paces c_rp))), (f 24, .inl (cI, 8, .inl (R_strengths c_rp))), (f 25, .inl (cI, 12, .inl c_seen)), (f 26, .inl (cI, 7, .inl c_refs))]) (nw := 27) ⟨hx, hb, hml, hown, hts⟩ hE hK hA hP hD hS [1, 2, 3, 4, 5, 6, 7, 8, 9, 10] [0, 11, 12, 13, 14, 15, 16, 17, 18, 19, 20, 21, 22, 23, 24, 25, 26] rfl rfl rfl rfl rfl rfl (by decide +kernel) rfl (mX2_begin l dC dI cI cC sk (fun k => f (k + 1)) H.size p1 (0 : Int32) (0 : Int32) c_lanes c_spots c_byLeaps c_load c_gone c_held c_strong c_done c_rn q23 e23) (cwV 3 hts gX3_soonest_X2_begin rfl rfl rfl (by decide +kernel) ⟨Nat.le_of_ble_eq_true rfl, Nat.le_of_ble_eq_true rfl⟩) (va_recv hK hP (ci := 2) (q0 := 1) rfl rfl) (As := [.int p1, .int (0 : Int32), .int (0 : Int32)]) (rest := []) rfl hl.1 rfl (Nat.le_of_ble_eq_true rfl) dX3_soonest_23 ⟨Nat.zero_le _, Nat.zero_le _⟩ (fun H locs hP hD hS => ?_)
    refine lv_aload_n hx hb dX3_soonest_26 rfl (lv_at hl 1 rfl) ?_
    refine va_get (D := (dC, dI)) (ci := 3) (v := .ref (f 1)) (C := RX3) (T := TX3) (N := 9) hx hb hts hiX3 hown hK hP 0 rfl rfl 0 (by decide) hw1 (fun _ h9 => h9) rfl dX3_soonest_27 ?_
    refine lv_iload_n hx hb dX3_soonest_30 rfl (lv_at hl 3 rfl) ?_
    refine lv_aload_n hx hb dX3_soonest_31 rfl (lv_at hl 1 rfl) ?_
    refine va_get (D := (dC, dI)) (ci := 3) (v := .ref (f 5)) (C := RX3) (T := TX3) (N := 9) hx hb hts hiX3 hown hK hP 0 rfl rfl 1 (by decide) hw2 (fun _ h9 => h9) rfl dX3_soonest_32 ?_
    refine va_getN (D := (dC, dI)) (ci := 0) (v := .int (R_minute c_rn)) (C := RX0) (T := TX0) (N := 8) hx hb hts hiX0 hown hK hP 5 rfl rfl 7 (by decide) hnw4 (fun _ h9 => h9) rfl dX3_soonest_35 ?_
    obtain ⟨q38, e38, h⟩ := bd_some h
    refine g_rwV (wc := (zwV cI cC (fun k => f (k + 1)) c_lanes c_spots c_byLeaps q23.1 q23.2.1 q23.2.2 c_strong c_done c_rn)) (wc' := (zwV cI cC (fun k => f (k + 1)) q38.2.1 q38.2.2.1 c_byLeaps q23.1 q23.2.1 q23.2.2 q38.2.2.2 c_done c_rn)) (ws' := (zwX cI cC f q38.2.1 q38.2.2.1 c_byLeaps q23.1 q23.2.1 q23.2.2 q38.2.2.2 c_done c_rn c_rt c_letters c_size c_rp c_seen c_refs c_inRow c_isPic)) (wr := [(f 0, .inr (3, [.ref (f 1), .ref (f 5), .ref (f 11), .ref (f 19), .ref (f 17), .ref (f 25), .ref (f 26), .int c_inRow, .int c_isPic])), (f 11, .inr (0, [.ref (f 12), .ref (f 13), .ref (f 14), .ref (f 15), .ref (f 16), .int (R_lanes c_rt), .int (R_floes c_rt), .int (R_minute c_rt)])), (f 12, .inl (cI, 8, .inl (R_kinds c_rt))), (f 13, .inl (cI, 8, .inl (R_homes c_rt))), (f 14, .inl (cI, 8, .inl (R_cells c_rt))), (f 15, .inl (cI, 8, .inl (R_paces c_rt))), (f 16, .inl (cI, 8, .inl (R_strengths c_rt))), (f 17, .inr (1, [.ref (f 18), .int c_size])), (f 18, .inl (cC, 80, .inl c_letters)), (f 19, .inr (0, [.ref (f 20), .ref (f 21), .ref (f 22), .ref (f 23), .ref (f 24), .int (R_lanes c_rp), .int (R_floes c_rp), .int (R_minute c_rp)])), (f 20, .inl (cI, 8, .inl (R_kinds c_rp))), (f 21, .inl (cI, 8, .inl (R_homes c_rp))), (f 22, .inl (cI, 8, .inl (R_cells c_rp))), (f 23, .inl (cI, 8, .inl (R_paces c_rp))), (f 24, .inl (cI, 8, .inl (R_strengths c_rp))), (f 25, .inl (cI, 12, .inl c_seen)), (f 26, .inl (cI, 7, .inl c_refs))]) (nw := 27) ⟨hx, hb, hml, hown, hts⟩ hE hK hA hP hD hS [1, 2, 3, 4, 5, 6, 7, 8, 9, 10] [0, 11, 12, 13, 14, 15, 16, 17, 18, 19, 20, 21, 22, 23, 24, 25, 26] rfl rfl rfl rfl rfl rfl (by decide +kernel) rfl (mX2_minutesOver l dC dI cI cC sk (fun k => f (k + 1)) H.size p2 (R_minute c_rn) c_lanes c_spots c_byLeaps q23.1 q23.2.1 q23.2.2 c_strong c_done c_rn q38 e38) (cwV 2 hts gX3_soonest_X2_minutesOver rfl rfl rfl (by decide +kernel) ⟨Nat.le_of_ble_eq_true rfl, Nat.le_of_ble_eq_true rfl⟩) (va_recv hK hP (ci := 2) (q0 := 1) rfl rfl) (As := [.int p2, .int (R_minute c_rn)]) (rest := []) rfl hl.1 rfl (Nat.le_of_ble_eq_true rfl) dX3_soonest_38 ⟨Nat.zero_le _, Nat.zero_le _⟩ (fun H locs hP hD hS => ?_)
    subst hQ
    exact retRW (zz := ((q38.1, q38.2.1, q38.2.2.1, q23.1, q23.2.1, q23.2.2, q38.2.2.2, c_refs) : Int32 × AR × AR × Int32 × Int32 × Int32 × Int32 × AR)) (fun z => z.1) (fun z => (zwX cI cC f z.2.1 z.2.2.1 c_byLeaps z.2.2.2.1 z.2.2.2.2.1 z.2.2.2.2.2.1 z.2.2.2.2.2.2.1 c_done c_rn c_rt c_letters c_size c_rp c_seen z.2.2.2.2.2.2.2 c_inRow c_isPic)) hx hb hr hlocks rfl hS h rfl hP dX3_soonest_41
  have h := itF c7 h
  refine lv_aload_n hx hb dX3_soonest_10 rfl (lv_at hl 1 rfl) ?_
  refine lv_iload_n hx hb dX3_soonest_11 rfl (lv_at hl 0 rfl) ?_
  obtain ⟨q12, e12, h⟩ := bd_some h
  refine g_rwA (wc := (zwX cI cC f c_lanes c_spots c_byLeaps c_load c_gone c_held c_strong c_done c_rn c_rt c_letters c_size c_rp c_seen c_refs c_inRow c_isPic)) (wc' := (zwX cI cC f c_lanes c_spots c_byLeaps c_load c_gone c_held c_strong c_done c_rn c_rt c_letters c_size c_rp c_seen q12.2 c_inRow c_isPic)) ⟨hx, hb, hml, hown, hts⟩ hE hK hA hP hD hS rfl (mX3_refuse l dC dI cI cC sk f H.size q2 c_lanes c_spots c_byLeaps c_load c_gone c_held c_strong c_done c_rn c_rt c_letters c_size c_rp c_seen c_refs c_inRow c_isPic q12 e12) (cwV 1 hts gX3_soonest_X3_refuse rfl rfl rfl (by decide +kernel) ⟨Nat.le_of_ble_eq_true rfl, Nat.le_of_ble_eq_true rfl⟩) (va_recv hK hP (ci := 3) (q0 := 0) rfl rfl) (As := [.int q2]) (rest := []) rfl hl.1 rfl (Nat.le_of_ble_eq_true rfl) dX3_soonest_12 ⟨Nat.zero_le _, Nat.zero_le _⟩ (fun H locs hP hD hS => ?_)
  have hP : va_P (dC, dI) vwCl (zwX cI cC f c_lanes c_spots c_byLeaps c_load c_gone c_held c_strong c_done c_rn c_rt c_letters c_size c_rp c_seen q12.2 c_inRow c_isPic) H := hP
  have hD : va_D A (zwX cI cC f c_lanes c_spots c_byLeaps c_load c_gone c_held c_strong c_done c_rn c_rt c_letters c_size c_rp c_seen q12.2 c_inRow c_isPic) := hD
  subst hQ
  exact retRW (zz := ((q12.1, c_lanes, c_spots, c_load, c_gone, c_held, c_strong, q12.2) : Int32 × AR × AR × Int32 × Int32 × Int32 × Int32 × AR)) (fun z => z.1) (fun z => (zwX cI cC f z.2.1 z.2.2.1 c_byLeaps z.2.2.2.1 z.2.2.2.2.1 z.2.2.2.2.2.1 z.2.2.2.2.2.2.1 c_done c_rn c_rt c_letters c_size c_rp c_seen z.2.2.2.2.2.2.2 c_inRow c_isPic)) hx hb hr hlocks rfl hS h rfl hP dX3_soonest_15
