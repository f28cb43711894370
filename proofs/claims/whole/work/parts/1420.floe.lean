theorem dX3_judge_0 : decode cX3_judge 0 = .ok (.iload_n 1, 1) := by decide +kernel
theorem dX3_judge_1 : decode cX3_judge 1 = .ok (.iload_n 2, 1) := by decide +kernel
theorem dX3_judge_2 : decode cX3_judge 2 = .ok (.invokestatic 107, 3) := by decide +kernel
theorem dX3_judge_5 : decode cX3_judge 5 = .ok (.istore_n 3, 1) := by decide +kernel
theorem dX3_judge_6 : decode cX3_judge 6 = .ok (.iload_n 3, 1) := by decide +kernel
theorem dX3_judge_7 : decode cX3_judge 7 = .ok (.ifCond .eq 9, 3) := by decide +kernel
theorem dX3_judge_10 : decode cX3_judge 10 = .ok (.aload_n 0, 1) := by decide +kernel
theorem dX3_judge_11 : decode cX3_judge 11 = .ok (.iload_n 3, 1) := by decide +kernel
theorem dX3_judge_12 : decode cX3_judge 12 = .ok (.invokevirtual 54, 3) := by decide +kernel
theorem dX3_judge_15 : decode cX3_judge 15 = .ok (.ireturn, 1) := by decide +kernel
theorem dX3_judge_16 : decode cX3_judge 16 = .ok (.aload_n 0, 1) := by decide +kernel
theorem dX3_judge_17 : decode cX3_judge 17 = .ok (.getfield 12, 3) := by decide +kernel
theorem dX3_judge_20 : decode cX3_judge 20 = .ok (.iload_n 1, 1) := by decide +kernel
theorem dX3_judge_21 : decode cX3_judge 21 = .ok (.iconst 0, 1) := by decide +kernel
theorem dX3_judge_22 : decode cX3_judge 22 = .ok (.iconst 0, 1) := by decide +kernel
theorem dX3_judge_23 : decode cX3_judge 23 = .ok (.invokevirtual 89, 3) := by decide +kernel
theorem dX3_judge_26 : decode cX3_judge 26 = .ok (.aload_n 0, 1) := by decide +kernel
theorem dX3_judge_27 : decode cX3_judge 27 = .ok (.getfield 12, 3) := by decide +kernel
theorem dX3_judge_30 : decode cX3_judge 30 = .ok (.aload_n 0, 1) := by decide +kernel
theorem dX3_judge_31 : decode cX3_judge 31 = .ok (.getfield 39, 3) := by decide +kernel
theorem dX3_judge_34 : decode cX3_judge 34 = .ok (.aload_n 0, 1) := by decide +kernel
theorem dX3_judge_35 : decode cX3_judge 35 = .ok (.getfield 138, 3) := by decide +kernel
theorem dX3_judge_38 : decode cX3_judge 38 = .ok (.iload_n 2, 1) := by decide +kernel
theorem dX3_judge_39 : decode cX3_judge 39 = .ok (.invokestatic 122, 3) := by decide +kernel
theorem dX3_judge_42 : decode cX3_judge 42 = .ok (.invokevirtual 144, 3) := by decide +kernel
theorem dX3_judge_45 : decode cX3_judge 45 = .ok (.pop, 1) := by decide +kernel
theorem dX3_judge_46 : decode cX3_judge 46 = .ok (.aload_n 0, 1) := by decide +kernel
theorem dX3_judge_47 : decode cX3_judge 47 = .ok (.getfield 12, 3) := by decide +kernel
theorem dX3_judge_50 : decode cX3_judge 50 = .ok (.getfield 148, 3) := by decide +kernel
theorem dX3_judge_53 : decode cX3_judge 53 = .ok (.aload_n 0, 1) := by decide +kernel
theorem dX3_judge_54 : decode cX3_judge 54 = .ok (.getfield 138, 3) := by decide +kernel
theorem dX3_judge_57 : decode cX3_judge 57 = .ok (.if_icmp .ge 13, 3) := by decide +kernel
theorem dX3_judge_60 : decode cX3_judge 60 = .ok (.aload_n 0, 1) := by decide +kernel
theorem dX3_judge_61 : decode cX3_judge 61 = .ok (.getfield 12, 3) := by decide +kernel
theorem dX3_judge_64 : decode cX3_judge 64 = .ok (.getfield 148, 3) := by decide +kernel
theorem dX3_judge_67 : decode cX3_judge 67 = .ok (.goto 5, 3) := by decide +kernel
theorem dX3_judge_70 : decode cX3_judge 70 = .ok (.bipush (-9), 2) := by decide +kernel
theorem dX3_judge_72 : decode cX3_judge 72 = .ok (.ireturn, 1) := by decide +kernel
set_option maxRecDepth 20000 in
theorem ggX3_judge_X3_faultOfWalker : GoodIn wsX3_judge wsX3_faultOfWalker := goodIn_r _ [7, 8, 9, 6, 10, 11, 12, 13] (by decide +kernel) (by decide +kernel)
set_option maxRecDepth 20000 in
theorem gX3_judge_X3_faultOfWalker : GoodIn wsX3_judge (va_wsS RX3 107 yX3_faultOfWalker wsX3_faultOfWalker) := goodIn_app (goodIn_of _ (by decide +kernel)) ggX3_judge_X3_faultOfWalker
set_option maxRecDepth 20000 in
theorem ggX3_judge_X3_refuse : GoodIn wsX3_judge wsX3_refuse := goodIn_r _ [17, 18, 112, 113, 114, 115, 116, 117, 118, 119, 120] (by decide +kernel) (by decide +kernel)
set_option maxRecDepth 20000 in
theorem gX3_judge_X3_refuse : GoodIn wsX3_judge (wsV RX3 54 RX3 yX3_refuse wsX3_refuse) := goodIn_app (goodIn_of _ (by decide +kernel)) ggX3_judge_X3_refuse
set_option maxRecDepth 20000 in
theorem ggX3_judge_X2_begin : GoodIn wsX3_judge wsX2_begin := goodIn_r _ [23, 24, 25, 26, 121, 122, 123, 124, 125, 126, 127, 128, 129] (by decide +kernel) (by decide +kernel)
set_option maxRecDepth 20000 in
theorem gX3_judge_X2_begin : GoodIn wsX3_judge (wsV RX3 89 RX2 yX2_begin wsX2_begin) := goodIn_app (goodIn_of _ (by decide +kernel)) ggX3_judge_X2_begin
set_option maxRecDepth 20000 in
theorem ggX3_judge_X3_southCell : GoodIn wsX3_judge wsX3_southCell := goodIn_r _ [29] (by decide +kernel) (by decide +kernel)
set_option maxRecDepth 20000 in
theorem gX3_judge_X3_southCell : GoodIn wsX3_judge (va_wsS RX3 122 yX3_southCell wsX3_southCell) := goodIn_app (goodIn_of _ (by decide +kernel)) ggX3_judge_X3_southCell
set_option maxRecDepth 20000 in
theorem ggX3_judge_X2_follow : GoodIn wsX3_judge wsX2_follow := goodIn_r _ [33, 34, 35, 36, 37, 38, 22, 39, 40, 26, 41, 42, 25, 24, 43, 44, 45, 46, 47, 48, 49, 50, 51, 52, 53, 54, 55, 56, 57, 58, 59, 60, 61, 62, 63, 64, 65, 66, 67, 68, 69, 70, 71, 72, 73, 74, 75, 76, 77, 78, 79, 80, 81, 82, 83, 84, 85, 86, 87, 88, 89, 90, 91, 92, 93, 94, 95, 96, 97, 98, 99, 100, 101, 102, 103, 104, 105, 106, 107, 108, 109, 110, 111, 28, 6, 29, 121, 122, 123, 124, 125, 126, 127, 128, 129, 130, 131, 132, 133, 134, 135, 136, 137] (by decide +kernel) (by decide +kernel)
set_option maxRecDepth 20000 in
theorem gX3_judge_X2_follow : GoodIn wsX3_judge (wsV RX3 144 RX2 yX2_follow wsX2_follow) := goodIn_app (goodIn_of _ (by decide +kernel)) ggX3_judge_X2_follow
set_option maxHeartbeats 4000000 in
set_option maxRecDepth 100000 in
theorem mX3_judge (l : Launch) (dC : Nat → ClassId) (dI : Nat → Nat → Nat) (cI cC : ClassId) (sk : (Nat → Nat) × (Nat → Nat)) (f : Nat → Nat) (sz : Nat) (p1 : Int32) (p2 : Int32) (c_lanes : AR) (c_spots : AR) (c_byLeaps : AR) (c_load : Int32) (c_gone : Int32) (c_held : Int32) (c_strong : Int32) (c_done : Int32) (c_rn : RT) (c_rt : RT) (c_letters : AR) (c_size : Int32) (c_rp : RT) (c_seen : AR) (c_refs : AR) (c_inRow : Int32) (c_isPic : Int32) (z : Int32 × AR × AR × Int32 × Int32 × Int32 × Int32 × Int32 × AR) (h : fX3_judge p1 p2 c_lanes c_spots c_load c_gone c_held c_strong c_done c_rn c_seen c_refs c_inRow = some z) : cRW l yX3_judge wsX3_judge (RMk 5 118) sk (dC, dI) (tyz cI cC) sz (zwX cI cC f c_lanes c_spots c_byLeaps c_load c_gone c_held c_strong c_done c_rn c_rt c_letters c_size c_rp c_seen c_refs c_inRow c_isPic) (zwX cI cC f z.2.1 z.2.2.1 c_byLeaps z.2.2.2.1 z.2.2.2.2.1 z.2.2.2.2.2.1 z.2.2.2.2.2.2.1 z.2.2.2.2.2.2.2.1 c_rn c_rt c_letters c_size c_rp c_seen z.2.2.2.2.2.2.2.2 c_inRow c_isPic) [.ref (f 0), .int p1, .int p2] z.1 := by
  refine ofRW (cc := cX3_judge) (maxL := 4) (ret := (some .int)) (own := RX3) (plainFor_of_name (by decide)) rfl rfl (Nat.le_of_ble_eq_true rfl) ?_
  intro p e s m args below meth c A hA hx hb hml hr hts hown hlocks hE hK hP hD hS ls hl
  generalize hQ : qRW _ _ _ _ _ _ _ = Q
  have hl : lv_has ls 4 [(0, .ref (f 0)), (1, .int p1), (2, .int p2)] := hl
  have hiX2 : ∀ w ∈ wsX20, w ∈ wsX3_judge := fun w h => List.mem_cons_of_mem _ (List.mem_append_left _ (List.mem_append_right _ h))
  have hiX3 : ∀ w ∈ wsX30, w ∈ wsX3_judge := fun w h => List.mem_cons_of_mem _ (List.mem_append_left _ (List.mem_append_left _ (List.mem_append_right _ h)))
  have hw1 := hts (Cond.fieldLink RX3 12 "FloeToFloe" "walk" "LFloeToFloe$Walk;") (List.mem_of_getElem? (i := 1) rfl)
  have hw2 := hts (Cond.fieldLink RX3 39 "FloeToFloe" "seen" "[I") (List.mem_of_getElem? (i := 2) rfl)
  have hw3 := hts (Cond.fieldLink RX3 138 "FloeToFloe" "inRow" "I") (List.mem_of_getElem? (i := 3) rfl)
  have hnw6 : (Cond.fieldLinkNest "FloeToFloe" 148 "FloeToFloe$Walk" "done" "I" "FloeToFloe").before args s = true := va_Nw.use rfl (hE.1 6 _ rfl)
  rw [fX3_judge] at h
  refine lv_iload_n hx hb dX3_judge_0 rfl (lv_at hl 1 rfl) ?_
  refine lv_iload_n hx hb dX3_judge_1 rfl (lv_at hl 2 rfl) ?_
  obtain ⟨q2, e2, h⟩ := bd_some h
  refine g_roS (wc := ([] : va_W)) ⟨hx, hb, hml, hown, hts⟩ hE hK hP hS [] rfl (mX3_faultOfWalker l dC dI cI cC sk  p1 p2 q2 e2) (va_cwS 2 hts gX3_judge_X3_faultOfWalker rfl rfl rfl (by decide +kernel) ⟨Nat.le_of_ble_eq_true rfl, Nat.le_of_ble_eq_true rfl⟩) (As := [.int p1, .int p2]) (rest := []) rfl hl.1 rfl (Nat.le_of_ble_eq_true rfl) dX3_judge_2 ⟨Nat.zero_le _, Nat.zero_le _⟩ (fun H locs hP hS => ?_)
  refine lv_istore_n (lv' := [(3, .int q2), (0, .ref (f 0)), (1, .int p1), (2, .int p2)]) hx hb dX3_judge_5 rfl hl (by decide) rfl (fun ls hl => ?_)
  refine lv_iload_n hx hb dX3_judge_6 rfl (lv_at hl 0 rfl) ?_
  refine lv_if_eq (tgt := 16) hx hb dX3_judge_7 (by decide) (fun c7 => ?_) (fun c7 => ?_)
  · have h := itT c7 h
    refine lv_aload_n hx hb dX3_judge_16 rfl (lv_at hl 1 rfl) ?_
    refine va_get (D := (dC, dI)) (ci := 3) (v := .ref (f 1)) (C := RX3) (T := TX3) (N := 9) hx hb hts hiX3 hown hK hP 0 rfl rfl 0 (by decide) hw1 (fun _ h9 => h9) rfl dX3_judge_17 ?_
    refine lv_iload_n hx hb dX3_judge_20 rfl (lv_at hl 2 rfl) ?_
    refine lv_iconst (v := (0 : Int32)) hx hb dX3_judge_21 (by decide) ?_
    refine lv_iconst (v := (0 : Int32)) hx hb dX3_judge_22 (by decide) ?_
    obtain ⟨q23, e23, h⟩ := bd_some h
    refine g_rvV (wc := (zwV cI cC (fun k => f (k + 1)) c_lanes c_spots c_byLeaps c_load c_gone c_held c_strong c_done c_rn)) (wc' := (zwV cI cC (fun k => f (k + 1)) c_lanes c_spots c_byLeaps q23.1 q23.2.1 q23.2.2 c_strong c_done c_rn)) (ws' := (zwX cI cC f c_lanes c_spots c_byLeaps q23.1 q23.2.1 q23.2.2 c_strong c_done c_rn c_rt c_letters c_size c_rp c_seen c_refs c_inRow c_isPic)) (wr := [(f 0, .inr (3, [.ref (f 1), .ref (f 5), .ref (f 11), .ref (f 19), .ref (f 17), .ref (f 25), .ref (f 26), .int c_inRow, .int c_isPic])), (f 11, .inr (0, [.ref (f 12), .ref (f 13), .ref (f 14), .ref (f 15), .ref (f 16), .int (R_lanes c_rt), .int (R_floes c_rt), .int (R_minute c_rt)])), (f 12, .inl (cI, 8, .inl (R_kinds c_rt))), (f 13, .inl (cI, 8, .inl (R_homes c_rt))), (f 14, .inl (cI, 8, .inl (R_cells c_rt))), (f 15, .inl (cI, 8, .inl (R_paces c_rt))), (f 16, .inl (cI, 8, .inl (R_strengths c_rt))), (f 17, .inr (1, [.ref (f 18), .int c_size])), (f 18, .inl (cC, 80, .inl c_letters)), (f 19, .inr (0, [.ref (f 20), .ref (f 21), .ref (f 22), .ref (f 23), .ref (f 24), .int (R_lanes c_rp), .int (R_floes c_rp), .int (R_minute c_rp)])), (f 20, .inl (cI, 8, .inl (R_kinds c_rp))), (f 21, .inl (cI, 8, .inl (R_homes c_rp))), (f 22, .inl (cI, 8, .inl (R_cells c_rp))), (f 23, .inl (cI, 8, .inl (R_paces c_rp))), (f 24, .inl (cI, 8, .inl (R_strengths c_rp))), (f 25, .inl (cI, 12, .inl c_seen)), (f 26, .inl (cI, 7, .inl c_refs))]) (nw := 27) ⟨hx, hb, hml, hown, hts⟩ hE hK hA hP hD hS [1, 2, 3, 4, 5, 6, 7, 8, 9, 10] [0, 11, 12, 13, 14, 15, 16, 17, 18, 19, 20, 21, 22, 23, 24, 25, 26] rfl rfl rfl rfl rfl rfl (by decide +kernel) rfl (mX2_begin l dC dI cI cC sk (fun k => f (k + 1)) H.size p1 (0 : Int32) (0 : Int32) c_lanes c_spots c_byLeaps c_load c_gone c_held c_strong c_done c_rn q23 e23) (cwV 3 hts gX3_judge_X2_begin rfl rfl rfl (by decide +kernel) ⟨Nat.le_of_ble_eq_true rfl, Nat.le_of_ble_eq_true rfl⟩) (va_recv hK hP (ci := 2) (q0 := 1) rfl rfl) (As := [.int p1, .int (0 : Int32), .int (0 : Int32)]) (rest := []) rfl hl.1 rfl (Nat.le_of_ble_eq_true rfl) dX3_judge_23 ⟨Nat.zero_le _, Nat.zero_le _⟩ (fun H locs hP hD hS => ?_)
    refine lv_aload_n hx hb dX3_judge_26 rfl (lv_at hl 1 rfl) ?_
    refine va_get (D := (dC, dI)) (ci := 3) (v := .ref (f 1)) (C := RX3) (T := TX3) (N := 9) hx hb hts hiX3 hown hK hP 0 rfl rfl 0 (by decide) hw1 (fun _ h9 => h9) rfl dX3_judge_27 ?_
    refine lv_aload_n hx hb dX3_judge_30 rfl (lv_at hl 1 rfl) ?_
    refine va_get (D := (dC, dI)) (ci := 3) (v := .ref (f 25)) (C := RX3) (T := TX3) (N := 9) hx hb hts hiX3 hown hK hP 0 rfl rfl 5 (by decide) hw2 (fun _ h9 => h9) rfl dX3_judge_31 ?_
    refine lv_aload_n hx hb dX3_judge_34 rfl (lv_at hl 1 rfl) ?_
    refine va_get (D := (dC, dI)) (ci := 3) (v := .int c_inRow) (C := RX3) (T := TX3) (N := 9) hx hb hts hiX3 hown hK hP 0 rfl rfl 7 (by decide) hw3 (fun _ h9 => h9) rfl dX3_judge_35 ?_
    refine lv_iload_n hx hb dX3_judge_38 rfl (lv_at hl 3 rfl) ?_
    obtain ⟨q39, e39, h⟩ := bd_some h
    refine g_roS (wc := ([] : va_W)) ⟨hx, hb, hml, hown, hts⟩ hE hK hP hS [] rfl (mX3_southCell l dC dI cI cC sk  p2 q39 e39) (va_cwS 1 hts gX3_judge_X3_southCell rfl rfl rfl (by decide +kernel) ⟨Nat.le_of_ble_eq_true rfl, Nat.le_of_ble_eq_true rfl⟩) (As := [.int p2]) (rest := [.int c_inRow, .ref (f 25), .ref (f 1)]) rfl hl.1 rfl (Nat.le_of_ble_eq_true rfl) dX3_judge_39 ⟨Nat.zero_le _, Nat.zero_le _⟩ (fun H locs hP hS => ?_)
    obtain ⟨q42, e42, h⟩ := bd_some h
    refine g_rwV (wc := (zwVA cI cC (fun k => f (k + 1)) (fun k => f (k + 25)) c_lanes c_spots c_byLeaps q23.1 q23.2.1 q23.2.2 c_strong c_done c_rn c_seen)) (wc' := (zwVA cI cC (fun k => f (k + 1)) (fun k => f (k + 25)) q42.2.1 q42.2.2.1 c_byLeaps q23.1 q23.2.1 q23.2.2 q42.2.2.2.1 q42.2.2.2.2 c_rn c_seen)) (ws' := (zwX cI cC f q42.2.1 q42.2.2.1 c_byLeaps q23.1 q23.2.1 q23.2.2 q42.2.2.2.1 q42.2.2.2.2 c_rn c_rt c_letters c_size c_rp c_seen c_refs c_inRow c_isPic)) (wr := [(f 0, .inr (3, [.ref (f 1), .ref (f 5), .ref (f 11), .ref (f 19), .ref (f 17), .ref (f 25), .ref (f 26), .int c_inRow, .int c_isPic])), (f 11, .inr (0, [.ref (f 12), .ref (f 13), .ref (f 14), .ref (f 15), .ref (f 16), .int (R_lanes c_rt), .int (R_floes c_rt), .int (R_minute c_rt)])), (f 12, .inl (cI, 8, .inl (R_kinds c_rt))), (f 13, .inl (cI, 8, .inl (R_homes c_rt))), (f 14, .inl (cI, 8, .inl (R_cells c_rt))), (f 15, .inl (cI, 8, .inl (R_paces c_rt))), (f 16, .inl (cI, 8, .inl (R_strengths c_rt))), (f 17, .inr (1, [.ref (f 18), .int c_size])), (f 18, .inl (cC, 80, .inl c_letters)), (f 19, .inr (0, [.ref (f 20), .ref (f 21), .ref (f 22), .ref (f 23), .ref (f 24), .int (R_lanes c_rp), .int (R_floes c_rp), .int (R_minute c_rp)])), (f 20, .inl (cI, 8, .inl (R_kinds c_rp))), (f 21, .inl (cI, 8, .inl (R_homes c_rp))), (f 22, .inl (cI, 8, .inl (R_cells c_rp))), (f 23, .inl (cI, 8, .inl (R_paces c_rp))), (f 24, .inl (cI, 8, .inl (R_strengths c_rp))), (f 26, .inl (cI, 7, .inl c_refs))]) (nw := 27) ⟨hx, hb, hml, hown, hts⟩ hE hK hA hP hD hS [1, 2, 3, 4, 5, 6, 7, 8, 9, 10, 25] [0, 11, 12, 13, 14, 15, 16, 17, 18, 19, 20, 21, 22, 23, 24, 26] rfl rfl rfl rfl rfl rfl (by decide +kernel) rfl (mX2_follow l dC dI cI cC sk (fun k => f (k + 1)) (fun k => f (k + 25)) H.size c_inRow q39 c_lanes c_spots c_byLeaps q23.1 q23.2.1 q23.2.2 c_strong c_done c_rn c_seen q42 e42) (cwV 3 hts gX3_judge_X2_follow rfl rfl rfl (by decide +kernel) ⟨Nat.le_of_ble_eq_true rfl, Nat.le_of_ble_eq_true rfl⟩) (va_recv hK hP (ci := 2) (q0 := 1) rfl rfl) (As := [.ref (f 25), .int c_inRow, .int q39]) (rest := []) rfl hl.1 rfl (Nat.le_of_ble_eq_true rfl) dX3_judge_42 ⟨Nat.zero_le _, Nat.zero_le _⟩ (fun H locs hP hD hS => ?_)
    refine lv_pop hx hb dX3_judge_45 rfl ?_
    refine lv_aload_n hx hb dX3_judge_46 rfl (lv_at hl 1 rfl) ?_
    refine va_get (D := (dC, dI)) (ci := 3) (v := .ref (f 1)) (C := RX3) (T := TX3) (N := 9) hx hb hts hiX3 hown hK hP 0 rfl rfl 0 (by decide) hw1 (fun _ h9 => h9) rfl dX3_judge_47 ?_
    refine va_getN (D := (dC, dI)) (ci := 2) (v := .int q42.2.2.2.2) (C := RX2) (T := TX2) (N := 9) hx hb hts hiX2 hown hK hP 1 rfl rfl 8 (by decide) hnw6 (fun _ h9 => h9) rfl dX3_judge_50 ?_
    refine lv_aload_n hx hb dX3_judge_53 rfl (lv_at hl 1 rfl) ?_
    refine va_get (D := (dC, dI)) (ci := 3) (v := .int c_inRow) (C := RX3) (T := TX3) (N := 9) hx hb hts hiX3 hown hK hP 0 rfl rfl 7 (by decide) hw3 (fun _ h9 => h9) rfl dX3_judge_54 ?_
    refine lv_icmp_ge (tgt := 70) hx hb dX3_judge_57 (by decide) (fun c57 => ?_) (fun c57 => ?_)
    · have h := itT c57 h
      refine lv_bipush (v := (-9 : Int32)) hx hb dX3_judge_70 (by decide) ?_
      subst hQ
      exact retRW (zz := (((-9 : Int32), q42.2.1, q42.2.2.1, q23.1, q23.2.1, q23.2.2, q42.2.2.2.1, q42.2.2.2.2, c_refs) : Int32 × AR × AR × Int32 × Int32 × Int32 × Int32 × Int32 × AR)) (fun z => z.1) (fun z => (zwX cI cC f z.2.1 z.2.2.1 c_byLeaps z.2.2.2.1 z.2.2.2.2.1 z.2.2.2.2.2.1 z.2.2.2.2.2.2.1 z.2.2.2.2.2.2.2.1 c_rn c_rt c_letters c_size c_rp c_seen z.2.2.2.2.2.2.2.2 c_inRow c_isPic)) hx hb hr hlocks rfl hS h rfl hP dX3_judge_72
    have h := itF c57 h
    refine lv_aload_n hx hb dX3_judge_60 rfl (lv_at hl 1 rfl) ?_
    refine va_get (D := (dC, dI)) (ci := 3) (v := .ref (f 1)) (C := RX3) (T := TX3) (N := 9) hx hb hts hiX3 hown hK hP 0 rfl rfl 0 (by decide) hw1 (fun _ h9 => h9) rfl dX3_judge_61 ?_
    refine va_getN (D := (dC, dI)) (ci := 2) (v := .int q42.2.2.2.2) (C := RX2) (T := TX2) (N := 9) hx hb hts hiX2 hown hK hP 1 rfl rfl 8 (by decide) hnw6 (fun _ h9 => h9) rfl dX3_judge_64 ?_
    refine lv_goto (tgt := 72) hx hb dX3_judge_67 (by decide) ?_
    subst hQ
    exact retRW (zz := ((q42.2.2.2.2, q42.2.1, q42.2.2.1, q23.1, q23.2.1, q23.2.2, q42.2.2.2.1, q42.2.2.2.2, c_refs) : Int32 × AR × AR × Int32 × Int32 × Int32 × Int32 × Int32 × AR)) (fun z => z.1) (fun z => (zwX cI cC f z.2.1 z.2.2.1 c_byLeaps z.2.2.2.1 z.2.2.2.2.1 z.2.2.2.2.2.1 z.2.2.2.2.2.2.1 z.2.2.2.2.2.2.2.1 c_rn c_rt c_letters c_size c_rp c_seen z.2.2.2.2.2.2.2.2 c_inRow c_isPic)) hx hb hr hlocks rfl hS h rfl hP dX3_judge_72
  have h := itF c7 h
  refine lv_aload_n hx hb dX3_judge_10 rfl (lv_at hl 1 rfl) ?_
  refine lv_iload_n hx hb dX3_judge_11 rfl (lv_at hl 0 rfl) ?_
  obtain ⟨q12, e12, h⟩ := bd_some h
  refine g_rwA (wc := (zwX cI cC f c_lanes c_spots c_byLeaps c_load c_gone c_held c_strong c_done c_rn c_rt c_letters c_size c_rp c_seen c_refs c_inRow c_isPic)) (wc' := (zwX cI cC f c_lanes c_spots c_byLeaps c_load c_gone c_held c_strong c_done c_rn c_rt c_letters c_size c_rp c_seen q12.2 c_inRow c_isPic)) ⟨hx, hb, hml, hown, hts⟩ hE hK hA hP hD hS rfl (mX3_refuse l dC dI cI cC sk f H.size q2 c_lanes c_spots c_byLeaps c_load c_gone c_held c_strong c_done c_rn c_rt c_letters c_size c_rp c_seen c_refs c_inRow c_isPic q12 e12) (cwV 1 hts gX3_judge_X3_refuse rfl rfl rfl (by decide +kernel) ⟨Nat.le_of_ble_eq_true rfl, Nat.le_of_ble_eq_true rfl⟩) (va_recv hK hP (ci := 3) (q0 := 0) rfl rfl) (As := [.int q2]) (rest := []) rfl hl.1 rfl (Nat.le_of_ble_eq_true rfl) dX3_judge_12 ⟨Nat.zero_le _, Nat.zero_le _⟩ (fun H locs hP hD hS => ?_)
  have hP : va_P (dC, dI) vwCl (zwX cI cC f c_lanes c_spots c_byLeaps c_load c_gone c_held c_strong c_done c_rn c_rt c_letters c_size c_rp c_seen q12.2 c_inRow c_isPic) H := hP
  have hD : va_D A (zwX cI cC f c_lanes c_spots c_byLeaps c_load c_gone c_held c_strong c_done c_rn c_rt c_letters c_size c_rp c_seen q12.2 c_inRow c_isPic) := hD
  subst hQ
  exact retRW (zz := ((q12.1, c_lanes, c_spots, c_load, c_gone, c_held, c_strong, c_done, q12.2) : Int32 × AR × AR × Int32 × Int32 × Int32 × Int32 × Int32 × AR)) (fun z => z.1) (fun z => (zwX cI cC f z.2.1 z.2.2.1 c_byLeaps z.2.2.2.1 z.2.2.2.2.1 z.2.2.2.2.2.1 z.2.2.2.2.2.2.1 z.2.2.2.2.2.2.2.1 c_rn c_rt c_letters c_size c_rp c_seen z.2.2.2.2.2.2.2.2 c_inRow c_isPic)) hx hb hr hlocks rfl hS h rfl hP dX3_judge_15
theorem dX3_placeOf_0 : decode cX3_placeOf 0 = .ok (.iconst 0, 1) := by decide +kernel
theorem dX3_placeOf_1 : decode cX3_placeOf 1 = .ok (.istore_n 1, 1) := by decide +kernel
theorem dX3_placeOf_2 : decode cX3_placeOf 2 = .ok (.iload_n 1, 1) := by decide +kernel
theorem dX3_placeOf_3 : decode cX3_placeOf 3 = .ok (.bipush 20, 2) := by decide +kernel
theorem dX3_placeOf_5 : decode cX3_placeOf 5 = .ok (.if_icmp .ge 20, 3) := by decide +kernel
theorem dX3_placeOf_8 : decode cX3_placeOf 8 = .ok (.iload_n 0, 1) := by decide +kernel
theorem dX3_placeOf_9 : decode cX3_placeOf 9 = .ok (.iload_n 1, 1) := by decide +kernel
theorem dX3_placeOf_10 : decode cX3_placeOf 10 = .ok (.ishr, 1) := by decide +kernel
theorem dX3_placeOf_11 : decode cX3_placeOf 11 = .ok (.iconst 1, 1) := by decide +kernel
theorem dX3_placeOf_12 : decode cX3_placeOf 12 = .ok (.iand, 1) := by decide +kernel
theorem dX3_placeOf_13 : decode cX3_placeOf 13 = .ok (.iconst 1, 1) := by decide +kernel
theorem dX3_placeOf_14 : decode cX3_placeOf 14 = .ok (.if_icmp .ne 5, 3) := by decide +kernel
theorem dX3_placeOf_17 : decode cX3_placeOf 17 = .ok (.iload_n 1, 1) := by decide +kernel
theorem dX3_placeOf_18 : decode cX3_placeOf 18 = .ok (.ireturn, 1) := by decide +kernel
theorem dX3_placeOf_19 : decode cX3_placeOf 19 = .ok (.iinc 1 1, 3) := by decide +kernel
theorem dX3_placeOf_22 : decode cX3_placeOf 22 = .ok (.goto (-20), 3) := by decide +kernel
theorem dX3_placeOf_25 : decode cX3_placeOf 25 = .ok (.bipush (-9), 2) := by decide +kernel
theorem dX3_placeOf_27 : decode cX3_placeOf 27 = .ok (.ireturn, 1) := by decide +kernel
set_option maxHeartbeats 4000000 in
set_option maxRecDepth 100000 in
theorem mX3_placeOf (l : Launch) (dC : Nat → ClassId) (dI : Nat → Nat → Nat) (cI cC : ClassId) (sk : (Nat → Nat) × (Nat → Nat))  (p0 : Int32)  (z : Int32) (h : fX3_placeOf p0 = some z) : cRO l yX3_placeOf wsX3_placeOf (RMk 0 0) sk (dC, dI) (tyz cI cC) ([] : va_W) [.int p0] z := by
  refine ofRO (cc := cX3_placeOf) (maxL := 2) (ret := (some .int)) (own := RX3) (plainFor_of_name (by decide)) rfl rfl (Nat.le_of_ble_eq_true rfl) ?_
  intro p e s m args below meth c hx hb hml hr hts hown hlocks hE hK hP hS ls hl
  generalize hQ : qRO _ _ _ _ = Q
  have hl : lv_has ls 2 [(0, .int p0)] := hl
  rw [fX3_placeOf] at h
  refine lv_iconst (v := (0 : Int32)) hx hb dX3_placeOf_0 (by decide) ?_
  refine lv_istore_n (lv' := [(1, .int (0 : Int32)), (0, .int p0)]) hx hb dX3_placeOf_1 rfl hl (by decide) rfl (fun ls hl => ?_)
  have L2 : ∀ (K2 : Unit → Option (Int32)), (∀ (_ : Unit), K2 () = some z → ∀ (H : Heap) (locs : List Loc) (ls : Array Slot), va_P (dC, dI) vwCl ([] : va_W) H → va_S noA s.heap H locs → lv_has ls 2 [] → W p l e (RMk 0 0) s m args below meth c H locs 0 0 Q (F0 m 25 ls [])) → ∀ (n : Nat) (x2_1 : Int32), fX3_placeOf_L2 p0 K2 n x2_1 = some z → ∀ (H : Heap) (locs : List Loc) (ls : Array Slot), va_P (dC, dI) vwCl ([] : va_W) H → va_S noA s.heap H locs → lv_has ls 2 [(0, .int p0), (1, .int x2_1)] → W p l e (RMk 0 0) s m args below meth c H locs 0 0 Q (F0 m 2 ls []) := by
    intro K2 kx2 n
    induction n with
    | zero => intro x2_1 h; rw [fX3_placeOf_L2] at h; cases h
    | succ n ih2 =>
      intro x2_1 h H locs ls hP hS hl
      rw [fX3_placeOf_L2] at h
      refine lv_iload_n hx hb dX3_placeOf_2 rfl (lv_at hl 1 rfl) ?_
      refine lv_bipush (v := (20 : Int32)) hx hb dX3_placeOf_3 (by decide) ?_
      refine lv_icmp_ge (tgt := 25) hx hb dX3_placeOf_5 (by decide) (fun c5 => ?_) (fun c5 => ?_)
      · have h := itT c5 h
        exact kx2 () h _ _ _ hP hS (lv_sub hl [] rfl)
      have h := itF c5 h
      refine lv_iload_n hx hb dX3_placeOf_8 rfl (lv_at hl 0 rfl) ?_
      refine lv_iload_n hx hb dX3_placeOf_9 rfl (lv_at hl 1 rfl) ?_
      refine lv_ishr hx hb dX3_placeOf_10 ?_
      refine lv_iconst (v := (1 : Int32)) hx hb dX3_placeOf_11 (by decide) ?_
      refine lv_iand hx hb dX3_placeOf_12 ?_
      refine lv_iconst (v := (1 : Int32)) hx hb dX3_placeOf_13 (by decide) ?_
      refine lv_icmp_ne (tgt := 19) hx hb dX3_placeOf_14 (by decide) (fun c14 => ?_) (fun c14 => ?_)
      · have h := itF c14 h
        refine lv_iinc (v := (x2_1 + (1 : Int32))) (lv' := [(1, .int (x2_1 + (1 : Int32))), (0, .int p0)]) hx hb dX3_placeOf_19 hl (k := 1) rfl rfl (by decide) rfl (fun ls hl => ?_)
        refine lv_goto (tgt := 2) hx hb dX3_placeOf_22 (by decide) ?_
        exact ih2 _ h _ _ _ hP hS (lv_sub hl [1, 0] rfl)
      have h := itT c14 h
      refine lv_iload_n hx hb dX3_placeOf_17 rfl (lv_at hl 1 rfl) ?_
      subst hQ
      exact retRO hx hb hr hlocks rfl hS h dX3_placeOf_18
  refine L2 _ (fun _ h H locs ls hP hS hl => ?_) _ _ h _ _ _ hP hS (lv_sub hl [1, 0] rfl)
  refine lv_bipush (v := (-9 : Int32)) hx hb dX3_placeOf_25 (by decide) ?_
  subst hQ
  exact retRO hx hb hr hlocks rfl hS h dX3_placeOf_27
