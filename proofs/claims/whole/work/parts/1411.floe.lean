theorem dX3_comesOver_0 : decode cX3_comesOver 0 = .ok (.aload_n 0, 1) := by decide +kernel
theorem dX3_comesOver_1 : decode cX3_comesOver 1 = .ok (.getfield 12, 3) := by decide +kernel
theorem dX3_comesOver_4 : decode cX3_comesOver 4 = .ok (.iload_n 1, 1) := by decide +kernel
theorem dX3_comesOver_5 : decode cX3_comesOver 5 = .ok (.iload_n 3, 1) := by decide +kernel
theorem dX3_comesOver_6 : decode cX3_comesOver 6 = .ok (.iload 4, 2) := by decide +kernel
theorem dX3_comesOver_8 : decode cX3_comesOver 8 = .ok (.invokevirtual 89, 3) := by decide +kernel
theorem dX3_comesOver_11 : decode cX3_comesOver 11 = .ok (.aload_n 0, 1) := by decide +kernel
theorem dX3_comesOver_12 : decode cX3_comesOver 12 = .ok (.getfield 12, 3) := by decide +kernel
theorem dX3_comesOver_15 : decode cX3_comesOver 15 = .ok (.iload_n 2, 1) := by decide +kernel
theorem dX3_comesOver_16 : decode cX3_comesOver 16 = .ok (.aload_n 0, 1) := by decide +kernel
theorem dX3_comesOver_17 : decode cX3_comesOver 17 = .ok (.getfield 20, 3) := by decide +kernel
theorem dX3_comesOver_20 : decode cX3_comesOver 20 = .ok (.getfield 86, 3) := by decide +kernel
theorem dX3_comesOver_23 : decode cX3_comesOver 23 = .ok (.invokevirtual 110, 3) := by decide +kernel
theorem dX3_comesOver_26 : decode cX3_comesOver 26 = .ok (.bipush (-9), 2) := by decide +kernel
theorem dX3_comesOver_28 : decode cX3_comesOver 28 = .ok (.if_icmp .eq 7, 3) := by decide +kernel
theorem dX3_comesOver_31 : decode cX3_comesOver 31 = .ok (.iconst 1, 1) := by decide +kernel
theorem dX3_comesOver_32 : decode cX3_comesOver 32 = .ok (.goto 4, 3) := by decide +kernel
theorem dX3_comesOver_35 : decode cX3_comesOver 35 = .ok (.iconst 0, 1) := by decide +kernel
theorem dX3_comesOver_36 : decode cX3_comesOver 36 = .ok (.ireturn, 1) := by decide +kernel
set_option maxRecDepth 20000 in
theorem ggX3_comesOver_X2_begin : GoodIn wsX3_comesOver wsX2_begin := goodIn_r _ [7, 8, 9, 10, 111, 112, 113, 114, 115, 116, 117, 118, 119] (by decide +kernel) (by decide +kernel)
set_option maxRecDepth 20000 in
theorem gX3_comesOver_X2_begin : GoodIn wsX3_comesOver (wsV RX3 89 RX2 yX2_begin wsX2_begin) := goodIn_app (goodIn_of _ (by decide +kernel)) ggX3_comesOver_X2_begin
set_option maxRecDepth 20000 in
theorem ggX3_comesOver_X2_minutesOver : GoodIn wsX3_comesOver wsX2_minutesOver := goodIn_r _ [14, 15, 16, 17, 18, 19, 20, 6, 21, 22, 10, 23, 24, 25, 9, 8, 26, 27, 28, 29, 30, 31, 32, 33, 34, 35, 36, 37, 38, 39, 40, 41, 42, 43, 44, 45, 46, 47, 48, 49, 50, 51, 52, 53, 54, 55, 56, 57, 58, 59, 60, 61, 62, 63, 64, 65, 66, 67, 68, 69, 70, 71, 72, 73, 74, 75, 76, 77, 78, 79, 80, 81, 82, 83, 84, 85, 86, 87, 88, 89, 90, 91, 92, 93, 111, 112, 113, 114, 115, 116, 117, 118, 119, 103, 104, 105, 106, 107, 108, 109, 110] (by decide +kernel) (by decide +kernel)
set_option maxRecDepth 20000 in
theorem gX3_comesOver_X2_minutesOver : GoodIn wsX3_comesOver (wsV RX3 110 RX2 yX2_minutesOver wsX2_minutesOver) := goodIn_app (goodIn_of _ (by decide +kernel)) ggX3_comesOver_X2_minutesOver
set_option maxHeartbeats 4000000 in
set_option maxRecDepth 100000 in
theorem mX3_comesOver (l : Launch) (dC : Nat → ClassId) (dI : Nat → Nat → Nat) (cI cC : ClassId) (sk : (Nat → Nat) × (Nat → Nat)) (f : Nat → Nat) (sz : Nat) (p1 : Int32) (p2 : Int32) (p3 : Int32) (p4 : Int32) (c_lanes : AR) (c_spots : AR) (c_byLeaps : AR) (c_load : Int32) (c_gone : Int32) (c_held : Int32) (c_strong : Int32) (c_done : Int32) (c_rn : RT) (c_rt : RT) (c_letters : AR) (c_size : Int32) (c_rp : RT) (c_seen : AR) (c_refs : AR) (c_inRow : Int32) (c_isPic : Int32) (z : Int32 × AR × AR × Int32 × Int32 × Int32 × Int32) (h : fX3_comesOver p1 p2 p3 p4 c_lanes c_spots c_strong c_rn = some z) : cRW l yX3_comesOver wsX3_comesOver (RMk 5 117) sk (dC, dI) (tyz cI cC) sz (zwX cI cC f c_lanes c_spots c_byLeaps c_load c_gone c_held c_strong c_done c_rn c_rt c_letters c_size c_rp c_seen c_refs c_inRow c_isPic) (zwX cI cC f z.2.1 z.2.2.1 c_byLeaps z.2.2.2.1 z.2.2.2.2.1 z.2.2.2.2.2.1 z.2.2.2.2.2.2 c_done c_rn c_rt c_letters c_size c_rp c_seen c_refs c_inRow c_isPic) [.ref (f 0), .int p1, .int p2, .int p3, .int p4] z.1 := by
  refine ofRW (cc := cX3_comesOver) (maxL := 5) (ret := (some .boolean)) (own := RX3) (plainFor_of_name (by decide)) rfl rfl (Nat.le_of_ble_eq_true rfl) ?_
  intro p e s m args below meth c A hA hx hb hml hr hts hown hlocks hE hK hP hD hS ls hl
  generalize hQ : qRW _ _ _ _ _ _ _ = Q
  have hl : lv_has ls 5 [(0, .ref (f 0)), (1, .int p1), (2, .int p2), (3, .int p3), (4, .int p4)] := hl
  have hiX0 : ∀ w ∈ wsX00, w ∈ wsX3_comesOver := fun w h => List.mem_cons_of_mem _ (List.mem_append_left _ (List.mem_append_right _ h))
  have hiX3 : ∀ w ∈ wsX30, w ∈ wsX3_comesOver := fun w h => List.mem_cons_of_mem _ (List.mem_append_left _ (List.mem_append_left _ (List.mem_append_right _ h)))
  have hw1 := hts (Cond.fieldLink RX3 12 "FloeToFloe" "walk" "LFloeToFloe$Walk;") (List.mem_of_getElem? (i := 1) rfl)
  have hw2 := hts (Cond.fieldLink RX3 20 "FloeToFloe" "now" "LFloeToFloe$River;") (List.mem_of_getElem? (i := 2) rfl)
  have hnw4 : (Cond.fieldLinkNest "FloeToFloe" 86 "FloeToFloe$River" "minute" "I" "FloeToFloe").before args s = true := va_Nw.use rfl (hE.1 4 _ rfl)
  rw [fX3_comesOver] at h
  refine lv_aload_n hx hb dX3_comesOver_0 rfl (lv_at hl 0 rfl) ?_
  refine va_get (D := (dC, dI)) (ci := 3) (v := .ref (f 1)) (C := RX3) (T := TX3) (N := 9) hx hb hts hiX3 hown hK hP 0 rfl rfl 0 (by decide) hw1 (fun _ h9 => h9) rfl dX3_comesOver_1 ?_
  refine lv_iload_n hx hb dX3_comesOver_4 rfl (lv_at hl 1 rfl) ?_
  refine lv_iload_n hx hb dX3_comesOver_5 rfl (lv_at hl 3 rfl) ?_
  refine lv_iload hx hb dX3_comesOver_6 (lv_at hl 4 rfl) ?_
  obtain ⟨q8, e8, h⟩ := bd_some h
  refine g_rvV (wc := (zwV cI cC (fun k => f (k + 1)) c_lanes c_spots c_byLeaps c_load c_gone c_held c_strong c_done c_rn)) (wc' := (zwV cI cC (fun k => f (k + 1)) c_lanes c_spots c_byLeaps q8.1 q8.2.1 q8.2.2 c_strong c_done c_rn)) (ws' := (zwX cI cC f c_lanes c_spots c_byLeaps q8.1 q8.2.1 q8.2.2 c_strong c_done c_rn c_rt c_letters c_size c_rp c_seen c_refs c_inRow c_isPic)) (wr := [(f 0, .inr (3, [.ref (f 1), .ref (f 5), .ref (f 11), .ref (f 19), .ref (f 17), .ref (f 25), .ref (f 26), .int c_inRow, .int c_isPic])), (f 11, .inr (0, [.ref (f 12), .ref (f 13), .ref (f 14), .ref (f 15), .ref (f 16), .int (R_lanes c_rt), .int (R_floes c_rt), .int (R_minute c_rt)])), (f 12, .inl (cI, 8, .inl (R_kinds c_rt))), (f 13, .inl (cI, 8, .inl (R_homes c_rt))), (f 14, .inl (cI, 8, .inl (R_cells c_rt))), (f 15, .inl (cI, 8, .inl (R_paces c_rt))), (f 16, .inl (cI, 8, .inl (R_strengths c_rt))), (f 17, .inr (1, [.ref (f 18), .int c_size])), (f 18, .inl (cC, 80, .inl c_letters)), (f 19, .inr (0, [.ref (f 20), .ref (f 21), .ref (f 22), .ref (f 23), .ref (f 24), .int (R_lanes c_rp), .int (R_floes c_rp), .int (R_minute c_rp)])), (f 20, .inl (cI, 8, .inl (R_kinds c_rp))), (f 21, .inl (cI, 8, .inl (R_homes c_rp))), (f 22, .inl (cI, 8, .inl (R_cells c_rp))), (f 23, .inl (cI, 8, .inl (R_paces c_rp))), (f 24, .inl (cI, 8, .inl (R_strengths c_rp))), (f 25, .inl (cI, 12, .inl c_seen)), (f 26, .inl (cI, 7, .inl c_refs))]) (nw := 27) ⟨hx, hb, hml, hown, hts⟩ hE hK hA hP hD hS [1, 2, 3, 4, 5, 6, 7, 8, 9, 10] [0, 11, 12, 13, 14, 15, 16, 17, 18, 19, 20, 21, 22, 23, 24, 25, 26] rfl rfl rfl rfl rfl rfl (by decide +kernel) rfl (mX2_begin l dC dI cI cC sk (fun k => f (k + 1)) s.heap.size p1 p3 p4 c_lanes c_spots c_byLeaps c_load c_gone c_held c_strong c_done c_rn q8 e8) (cwV 3 hts gX3_comesOver_X2_begin rfl rfl rfl (by decide +kernel) ⟨Nat.le_of_ble_eq_true rfl, Nat.le_of_ble_eq_true rfl⟩) (va_recv hK hP (ci := 2) (q0 := 1) rfl rfl) (As := [.int p1, .int p3, .int p4]) (rest := []) rfl hl.1 rfl (Nat.le_of_ble_eq_true rfl) dX3_comesOver_8 ⟨Nat.zero_le _, Nat.zero_le _⟩ (fun H locs hP hD hS => ?_)
  refine lv_aload_n hx hb dX3_comesOver_11 rfl (lv_at hl 0 rfl) ?_
  refine va_get (D := (dC, dI)) (ci := 3) (v := .ref (f 1)) (C := RX3) (T := TX3) (N := 9) hx hb hts hiX3 hown hK hP 0 rfl rfl 0 (by decide) hw1 (fun _ h9 => h9) rfl dX3_comesOver_12 ?_
  refine lv_iload_n hx hb dX3_comesOver_15 rfl (lv_at hl 2 rfl) ?_
  refine lv_aload_n hx hb dX3_comesOver_16 rfl (lv_at hl 0 rfl) ?_
  refine va_get (D := (dC, dI)) (ci := 3) (v := .ref (f 5)) (C := RX3) (T := TX3) (N := 9) hx hb hts hiX3 hown hK hP 0 rfl rfl 1 (by decide) hw2 (fun _ h9 => h9) rfl dX3_comesOver_17 ?_
  refine va_getN (D := (dC, dI)) (ci := 0) (v := .int (R_minute c_rn)) (C := RX0) (T := TX0) (N := 8) hx hb hts hiX0 hown hK hP 5 rfl rfl 7 (by decide) hnw4 (fun _ h9 => h9) rfl dX3_comesOver_20 ?_
  obtain ⟨q23, e23, h⟩ := bd_some h
  refine g_rwV (wc := (zwV cI cC (fun k => f (k + 1)) c_lanes c_spots c_byLeaps q8.1 q8.2.1 q8.2.2 c_strong c_done c_rn)) (wc' := (zwV cI cC (fun k => f (k + 1)) q23.2.1 q23.2.2.1 c_byLeaps q8.1 q8.2.1 q8.2.2 q23.2.2.2 c_done c_rn)) (ws' := (zwX cI cC f q23.2.1 q23.2.2.1 c_byLeaps q8.1 q8.2.1 q8.2.2 q23.2.2.2 c_done c_rn c_rt c_letters c_size c_rp c_seen c_refs c_inRow c_isPic)) (wr := [(f 0, .inr (3, [.ref (f 1), .ref (f 5), .ref (f 11), .ref (f 19), .ref (f 17), .ref (f 25), .ref (f 26), .int c_inRow, .int c_isPic])), (f 11, .inr (0, [.ref (f 12), .ref (f 13), .ref (f 14), .ref (f 15), .ref (f 16), .int (R_lanes c_rt), .int (R_floes c_rt), .int (R_minute c_rt)])), (f 12, .inl (cI, 8, .inl (R_kinds c_rt))), (f 13, .inl (cI, 8, .inl (R_homes c_rt))), (f 14, .inl (cI, 8, .inl (R_cells c_rt))), (f 15, .inl (cI, 8, .inl (R_paces c_rt))), (f 16, .inl (cI, 8, .inl (R_strengths c_rt))), (f 17, .inr (1, [.ref (f 18), .int c_size])), (f 18, .inl (cC, 80, .inl c_letters)), (f 19, .inr (0, [.ref (f 20), .ref (f 21), .ref (f 22), .ref (f 23), .ref (f 24), .int (R_lanes c_rp), .int (R_floes c_rp), .int (R_minute c_rp)])), (f 20, .inl (cI, 8, .inl (R_kinds c_rp))), (f 21, .inl (cI, 8, .inl (R_homes c_rp))), (f 22, .inl (cI, 8, .inl (R_cells c_rp))), (f 23, .inl (cI, 8, .inl (R_paces c_rp))), (f 24, .inl (cI, 8, .inl (R_strengths c_rp))), (f 25, .inl (cI, 12, .inl c_seen)), (f 26, .inl (cI, 7, .inl c_refs))]) (nw := 27) ⟨hx, hb, hml, hown, hts⟩ hE hK hA hP hD hS [1, 2, 3, 4, 5, 6, 7, 8, 9, 10] [0, 11, 12, 13, 14, 15, 16, 17, 18, 19, 20, 21, 22, 23, 24, 25, 26] rfl rfl rfl rfl rfl rfl (by decide +kernel) rfl (mX2_minutesOver l dC dI cI cC sk (fun k => f (k + 1)) H.size p2 (R_minute c_rn) c_lanes c_spots c_byLeaps q8.1 q8.2.1 q8.2.2 c_strong c_done c_rn q23 e23) (cwV 2 hts gX3_comesOver_X2_minutesOver rfl rfl rfl (by decide +kernel) ⟨Nat.le_of_ble_eq_true rfl, Nat.le_of_ble_eq_true rfl⟩) (va_recv hK hP (ci := 2) (q0 := 1) rfl rfl) (As := [.int p2, .int (R_minute c_rn)]) (rest := []) rfl hl.1 rfl (Nat.le_of_ble_eq_true rfl) dX3_comesOver_23 ⟨Nat.zero_le _, Nat.zero_le _⟩ (fun H locs hP hD hS => ?_)
  refine lv_bipush (v := (-9 : Int32)) hx hb dX3_comesOver_26 (by decide) ?_
  refine lv_icmp_eq (tgt := 35) hx hb dX3_comesOver_28 (by decide) (fun c28 => ?_) (fun c28 => ?_)
  · have h := itT c28 h
    refine lv_iconst (v := (0 : Int32)) hx hb dX3_comesOver_35 (by decide) ?_
    subst hQ
    exact retRW (zz := (((0 : Int32), q23.2.1, q23.2.2.1, q8.1, q8.2.1, q8.2.2, q23.2.2.2) : Int32 × AR × AR × Int32 × Int32 × Int32 × Int32)) (fun z => z.1) (fun z => (zwX cI cC f z.2.1 z.2.2.1 c_byLeaps z.2.2.2.1 z.2.2.2.2.1 z.2.2.2.2.2.1 z.2.2.2.2.2.2 c_done c_rn c_rt c_letters c_size c_rp c_seen c_refs c_inRow c_isPic)) hx hb hr hlocks rfl hS h rfl hP dX3_comesOver_36
  have h := itF c28 h
  refine lv_iconst (v := (1 : Int32)) hx hb dX3_comesOver_31 (by decide) ?_
  refine lv_goto (tgt := 36) hx hb dX3_comesOver_32 (by decide) ?_
  subst hQ
  exact retRW (zz := (((1 : Int32), q23.2.1, q23.2.2.1, q8.1, q8.2.1, q8.2.2, q23.2.2.2) : Int32 × AR × AR × Int32 × Int32 × Int32 × Int32)) (fun z => z.1) (fun z => (zwX cI cC f z.2.1 z.2.2.1 c_byLeaps z.2.2.2.1 z.2.2.2.2.1 z.2.2.2.2.2.1 z.2.2.2.2.2.2 c_done c_rn c_rt c_letters c_size c_rp c_seen c_refs c_inRow c_isPic)) hx hb hr hlocks rfl hS h rfl hP dX3_comesOver_36
