theorem dX3_judge_0 : decode cX3_judge 0 = .ok (.iload_n 1, 1) := by decide +kernel
theorem dX3_judge_1 : decode cX3_judge 1 = .ok (.iload_n 2, 1) := by decide +kernel
theorem dX3_judge_2 : decode cX3_judge 2 = .ok (.invokestatic 105, 3) := by decide +kernel
theorem dX3_judge_5 : decode cX3_judge 5 = .ok (.istore_n 3, 1) := by decide +kernel
theorem dX3_judge_6 : decode cX3_judge 6 = .ok (.iload_n 3, 1) := by decide +kernel
theorem dX3_judge_7 : decode cX3_judge 7 = .ok (.ifCond .eq 9, 3) := by decide +kernel
theorem dX3_judge_10 : decode cX3_judge 10 = .ok (.aload_n 0, 1) := by decide +kernel
theorem dX3_judge_11 : decode cX3_judge 11 = .ok (.iload_n 3, 1) := by decide +kernel
theorem dX3_judge_12 : decode cX3_judge 12 = .ok (.invokevirtual 53, 3) := by decide +kernel
theorem dX3_judge_15 : decode cX3_judge 15 = .ok (.ireturn, 1) := by decide +kernel
theorem dX3_judge_16 : decode cX3_judge 16 = .ok (.aload_n 0, 1) := by decide +kernel
theorem dX3_judge_17 : decode cX3_judge 17 = .ok (.getfield 34, 3) := by decide +kernel
theorem dX3_judge_20 : decode cX3_judge 20 = .ok (.iload_n 1, 1) := by decide +kernel
theorem dX3_judge_21 : decode cX3_judge 21 = .ok (.iconst 0, 1) := by decide +kernel
theorem dX3_judge_22 : decode cX3_judge 22 = .ok (.iconst 0, 1) := by decide +kernel
theorem dX3_judge_23 : decode cX3_judge 23 = .ok (.invokevirtual 87, 3) := by decide +kernel
theorem dX3_judge_26 : decode cX3_judge 26 = .ok (.aload_n 0, 1) := by decide +kernel
theorem dX3_judge_27 : decode cX3_judge 27 = .ok (.getfield 34, 3) := by decide +kernel
theorem dX3_judge_30 : decode cX3_judge 30 = .ok (.aload_n 0, 1) := by decide +kernel
theorem dX3_judge_31 : decode cX3_judge 31 = .ok (.getfield 38, 3) := by decide +kernel
theorem dX3_judge_34 : decode cX3_judge 34 = .ok (.aload_n 0, 1) := by decide +kernel
theorem dX3_judge_35 : decode cX3_judge 35 = .ok (.getfield 136, 3) := by decide +kernel
theorem dX3_judge_38 : decode cX3_judge 38 = .ok (.iload_n 2, 1) := by decide +kernel
theorem dX3_judge_39 : decode cX3_judge 39 = .ok (.invokestatic 120, 3) := by decide +kernel
theorem dX3_judge_42 : decode cX3_judge 42 = .ok (.invokevirtual 142, 3) := by decide +kernel
theorem dX3_judge_45 : decode cX3_judge 45 = .ok (.pop, 1) := by decide +kernel
theorem dX3_judge_46 : decode cX3_judge 46 = .ok (.aload_n 0, 1) := by decide +kernel
theorem dX3_judge_47 : decode cX3_judge 47 = .ok (.getfield 34, 3) := by decide +kernel
theorem dX3_judge_50 : decode cX3_judge 50 = .ok (.getfield 146, 3) := by decide +kernel
theorem dX3_judge_53 : decode cX3_judge 53 = .ok (.aload_n 0, 1) := by decide +kernel
theorem dX3_judge_54 : decode cX3_judge 54 = .ok (.getfield 136, 3) := by decide +kernel
theorem dX3_judge_57 : decode cX3_judge 57 = .ok (.if_icmp .ge 13, 3) := by decide +kernel
theorem dX3_judge_60 : decode cX3_judge 60 = .ok (.aload_n 0, 1) := by decide +kernel
theorem dX3_judge_61 : decode cX3_judge 61 = .ok (.getfield 34, 3) := by decide +kernel
theorem dX3_judge_64 : decode cX3_judge 64 = .ok (.getfield 146, 3) := by decide +kernel
theorem dX3_judge_67 : decode cX3_judge 67 = .ok (.goto 5, 3) := by decide +kernel
theorem dX3_judge_70 : decode cX3_judge 70 = .ok (.bipush (-9), 2) := by decide +kernel
theorem dX3_judge_72 : decode cX3_judge 72 = .ok (.ireturn, 1) := by decide +kernel
set_option maxRecDepth 20000 in
theorem ggX3_judge_X3_faultOfWalker : GoodIn wsX3_judge wsX3_faultOfWalker := goodIn_r _ [7, 8, 9, 6, 10, 11, 12, 13] (by decide +kernel) (by decide +kernel)
set_option maxRecDepth 20000 in
theorem gX3_judge_X3_faultOfWalker : GoodIn wsX3_judge (va_wsS RX3 105 yX3_faultOfWalker wsX3_faultOfWalker) := goodIn_app (goodIn_of _ (by decide +kernel)) ggX3_judge_X3_faultOfWalker
set_option maxRecDepth 20000 in
theorem ggX3_judge_X3_refuse : GoodIn wsX3_judge wsX3_refuse := goodIn_r _ [17, 18, 112, 113, 114, 115, 116, 117, 118, 119, 120] (by decide +kernel) (by decide +kernel)
set_option maxRecDepth 20000 in
theorem gX3_judge_X3_refuse : GoodIn wsX3_judge (wsV RX3 53 RX3 yX3_refuse wsX3_refuse) := goodIn_app (goodIn_of _ (by decide +kernel)) ggX3_judge_X3_refuse
set_option maxRecDepth 20000 in
theorem ggX3_judge_X2_begin : GoodIn wsX3_judge wsX2_begin := goodIn_r _ [23, 24, 25, 26, 121, 122, 123, 124, 125, 126, 127, 128, 129] (by decide +kernel) (by decide +kernel)
set_option maxRecDepth 20000 in
theorem gX3_judge_X2_begin : GoodIn wsX3_judge (wsV RX3 87 RX2 yX2_begin wsX2_begin) := goodIn_app (goodIn_of _ (by decide +kernel)) ggX3_judge_X2_begin
set_option maxRecDepth 20000 in
theorem ggX3_judge_X3_southCell : GoodIn wsX3_judge wsX3_southCell := goodIn_r _ [29] (by decide +kernel) (by decide +kernel)
set_option maxRecDepth 20000 in
theorem gX3_judge_X3_southCell : GoodIn wsX3_judge (va_wsS RX3 120 yX3_southCell wsX3_southCell) := goodIn_app (goodIn_of _ (by decide +kernel)) ggX3_judge_X3_southCell
set_option maxRecDepth 20000 in
theorem ggX3_judge_X2_follow : GoodIn wsX3_judge wsX2_follow := goodIn_r _ [33, 34, 35, 36, 37, 38, 22, 39, 40, 26, 41, 42, 25, 24, 43, 44, 45, 46, 47, 48, 49, 50, 51, 52, 53, 54, 55, 56, 57, 58, 59, 60, 61, 62, 63, 64, 65, 66, 67, 68, 69, 70, 71, 72, 73, 74, 75, 76, 77, 78, 79, 80, 81, 82, 83, 84, 85, 86, 87, 88, 89, 90, 91, 92, 93, 94, 95, 96, 97, 98, 99, 100, 101, 102, 103, 104, 105, 106, 107, 108, 109, 110, 111, 28, 6, 29, 121, 122, 123, 124, 125, 126, 127, 128, 129, 130, 131, 132, 133, 134, 135, 136, 137] (by decide +kernel) (by decide +kernel)
set_option maxRecDepth 20000 in
theorem gX3_judge_X2_follow : GoodIn wsX3_judge (wsV RX3 142 RX2 yX2_follow wsX2_follow) := goodIn_app (goodIn_of _ (by decide +kernel)) ggX3_judge_X2_follow
set_option maxHeartbeats 4000000 in
set_option maxRecDepth 100000 in
theorem mX3_judge (l : Launch) (dC : Nat → ClassId) (dI : Nat → Nat → Nat) (cI cC : ClassId) (sk : (Nat → Nat) × (Nat → Nat)) (f : Nat → Nat) (sz : Nat) (p1 : Int32) (p2 : Int32) (c_lanes : AR) (c_spots : AR) (c_byLeaps : AR) (c_load : Int32) (c_gone : Int32) (c_held : Int32) (c_strong : Int32) (c_done : Int32) (c_rn : RT) (c_rt : RT) (c_letters : AR) (c_size : Int32) (c_rp : RT) (c_seen : AR) (c_refs : AR) (c_inRow : Int32) (c_isPic : Int32) (z : Int32 × AR × AR × Int32 × Int32 × Int32 × Int32 × Int32 × AR) (h : fX3_judge p1 p2 c_lanes c_spots c_load c_gone c_held c_strong c_done c_rn c_seen c_refs c_inRow = some z) : cRW l yX3_judge wsX3_judge (RMk 5 118) sk (dC, dI) (tyz cI cC) sz (zwX cI cC f c_lanes c_spots c_byLeaps c_load c_gone c_held c_strong c_done c_rn c_rt c_letters c_size c_rp c_seen c_refs c_inRow c_isPic) (zwX cI cC f z.2.1 z.2.2.1 c_byLeaps z.2.2.2.1 z.2.2.2.2.1 z.2.2.2.2.2.1 z.2.2.2.2.2.2.1 z.2.2.2.2.2.2.2.1 c_rn c_rt c_letters c_size c_rp c_seen z.2.2.2.2.2.2.2.2 c_inRow c_isPic) [.ref (f 0), .int p1, .int p2] z.1 := by
  refine ofRW (cc := cX3_judge) (maxL := 4) (ret := (some .int)) (own := RX3) (plainFor_of_name (by decide)) rfl rfl (Nat.le_of_ble_eq_true rfl) ?_
  intro p e s m args below meth c A hA hx hb hml hr hts hown hlocks hE hK hP hD hS ls hl
  generalize hQ : qRW _ _ _ _ _ _ _ = Q
  have hl : lv_has ls 4 [(0, .ref (f 0)), (1, .int p1), (2, .int p2)] := hl
  have hiX2 : ∀ w ∈ wsX20, w ∈ wsX3_judge := fun w h => List.mem_cons_of_mem _ (List.mem_append_left _ (List.mem_append_right _ h))
  have hiX3 : ∀ w ∈ wsX30, w ∈ wsX3_judge := fun w h => List.mem_cons_of_mem _ (List.mem_append_left _ (List.mem_append_left _ (List.mem_append_right _ h)))
  have hw1 := hts (Cond.fieldLink RX3 34 "FloeToFloe" "walk" "LFloeToFloe$Walk;") (List.mem_of_getElem? (i := 1) rfl)
  have hw2 := hts (Cond.fieldLink RX3 38 "FloeToFloe" "seen" "[I") (List.mem_of_getElem? (i := 2) rfl)
  have hw3 := hts (Cond.fieldLink RX3 136 "FloeToFloe" "inRow" "I") (List.mem_of_getElem? (i := 3) rfl)
  have hnw6 : (Cond.fieldLinkNest "FloeToFloe" 146 "FloeToFloe$Walk" "done" "I" "FloeToFloe").before args s = true := va_Nw.use rfl (hE.1 6 _ rfl)
  rw [fX3_judge] at h
  refine lv_iload_n hx hb dX3_judge_0 rfl (lv_at hl 1 rfl) ?_
  refine lv_iload_n hx hb dX3_judge_1 rfl (lv_at hl 2 rfl) ?_
  obtain ⟨q2, e2, h⟩ := bd_some h
  refine g_roS (wc := ([] : va_W)) ⟨hx, hb, hml, hown, hts⟩ hE hK hP hS [] rfl (mX3_faultOfWalker l dC dI cI cC sk  p1 p2 q2 e2) (va_cwS 2 hts gX3_judge_X3_faultOfWalker rfl rfl rfl (by decide +kernel) ⟨Nat.le_of_ble_eq_true rfl, Nat.le_of_ble_eq_true rfl⟩) (As := [.int p1, .int p2]) (rest := []) rfl hl.1 rfl (Nat.le_of_ble_eq_true rfl) dX3_judge_2 ⟨Nat.zero_le _, Nat.zero_le _⟩ (fun H locs hP hS => ?_)
  refine lv_istore_n (lv' := [(3, .int q2), (0, .ref (f 0)), (1, .int p1), (2, .int p2)]) hx hb dX3_judge_5 rfl hl (by decide) rfl (fun ls hl => ?_)
  refine lv_iload_n hx hb dX3_judge_6 rfl (lv_at hl 0 rfl) ?_
  refine lv_if_eq (tgt := 16) hx hb dX3_judge_7 (by decide) (fun c7 => ?_) (fun c7 => ?_)
  · have h := itT c7 h
    refine lv_aload_n hx hb dX3_judge_16 rfl (lv_at hl 1 rfl) ?_
    refine va_get (D := (dC, dI)) (ci := 3) (v := .ref (f 1)) (C := RX3) (T := TX3) (N := 9) hx hb hts hiX3 hown hK hP 0 rfl rfl 4 (by decide) hw1 (fun _ h9 => h9) rfl dX3_judge_17 ?_
    refine lv_iload_n hx hb dX3_judge_20 rfl (lv_at hl 2 rfl) ?_
    refine lv_iconst (v := (0 : Int32)) hx hb dX3_judge_21 (by decide) ?_
    refine lv_iconst (v := (0 : Int32)) hx hb dX3_judge_22 (by decide) ?_
    obtain ⟨q23, e23, h⟩ := bd_some h
    refine g_rvV (wc := (zwV cI cC (fun k => f (k + 1)) c_lanes c_spots c_byLeaps c_load c_gone c_held c_strong c_done c_rn)) (wc' := (zwV cI cC (fun k => f (k + 1)) c_lanes c_spots c_byLeaps q23.1 q23.2.1 q23.2.2 c_strong c_done c_rn)) ⟨hx, hb, hml, hown, hts⟩ hE hK hA hP hD hS [1, 2, 3, 4, 5, 6, 7, 8, 9, 10] rfl rfl rfl (mX2_begin l dC dI cI cC sk (fun k => f (k + 1)) H.size p1 (0 : Int32) (0 : Int32) c_lanes c_spots c_byLeaps c_load c_gone c_held c_strong c_done c_rn q23 e23) (cwV 3 hts gX3_judge_X2_begin rfl rfl rfl (by decide +kernel) ⟨Nat.le_of_ble_eq_true rfl, Nat.le_of_ble_eq_true rfl⟩) (va_recv hK hP (ci := 2) (q0 := 1) rfl rfl) (As := [.int p1, .int (0 : Int32), .int (0 : Int32)]) (rest := []) rfl hl.1 rfl (Nat.le_of_ble_eq_true rfl) dX3_judge_23 ⟨Nat.zero_le _, Nat.zero_le _⟩ (fun H locs hP hD hS => ?_)
    have hP : va_P (dC, dI) vwCl (zwX cI cC f c_lanes c_spots c_byLeaps q23.1 q23.2.1 q23.2.2 c_strong c_done c_rn c_rt c_letters c_size c_rp c_seen c_refs c_inRow c_isPic) H := hP
    have hD : va_D A (zwX cI cC f c_lanes c_spots c_byLeaps q23.1 q23.2.1 q23.2.2 c_strong c_done c_rn c_rt c_letters c_size c_rp c_seen c_refs c_inRow c_isPic) := hD
    refine lv_aload_n hx hb dX3_judge_26 rfl (lv_at hl 1 rfl) ?_
    refine va_get (D := (dC, dI)) (ci := 3) (v := .ref (f 1)) (C := RX3) (T := TX3) (N := 9) hx hb hts hiX3 hown hK hP 0 rfl rfl 4 (by decide) hw1 (fun _ h9 => h9) rfl dX3_judge_27 ?_
    refine lv_aload_n hx hb dX3_judge_30 rfl (lv_at hl 1 rfl) ?_
    refine va_get (D := (dC, dI)) (ci := 3) (v := .ref (f 25)) (C := RX3) (T := TX3) (N := 9) hx hb hts hiX3 hown hK hP 0 rfl rfl 5 (by decide) hw2 (fun _ h9 => h9) rfl dX3_judge_31 ?_
    refine lv_aload_n hx hb dX3_judge_34 rfl (lv_at hl 1 rfl) ?_
    refine va_get (D := (dC, dI)) (ci := 3) (v := .int c_inRow) (C := RX3) (T := TX3) (N := 9) hx hb hts hiX3 hown hK hP 0 rfl rfl 7 (by decide) hw3 (fun _ h9 => h9) rfl dX3_judge_35 ?_
    refine lv_iload_n hx hb dX3_judge_38 rfl (lv_at hl 3 rfl) ?_
    obtain ⟨q39, e39, h⟩ := bd_some h
    refine g_roS (wc := ([] : va_W)) ⟨hx, hb, hml, hown, hts⟩ hE hK hP hS [] rfl (mX3_southCell l dC dI cI cC sk  p2 q39 e39) (va_cwS 1 hts gX3_judge_X3_southCell rfl rfl rfl (by decide +kernel) ⟨Nat.le_of_ble_eq_true rfl, Nat.le_of_ble_eq_true rfl⟩) (As := [.int p2]) (rest := [.int c_inRow, .ref (f 25), .ref (f 1)]) rfl hl.1 rfl (Nat.le_of_ble_eq_true rfl) dX3_judge_39 ⟨Nat.zero_le _, Nat.zero_le _⟩ (fun H locs hP hS => ?_)
    obtain ⟨q42, e42, h⟩ := bd_some h
    refine g_rwV (wc := (zwVA cI cC (fun k => f (k + 1)) (fun k => f (k + 25)) c_lanes c_spots c_byLeaps q23.1 q23.2.1 q23.2.2 c_strong c_done c_rn c_seen)) (wc' := (zwVA cI cC (fun k => f (k + 1)) (fun k => f (k + 25)) q42.2.1 q42.2.2.1 c_byLeaps q23.1 q23.2.1 q23.2.2 q42.2.2.2.1 q42.2.2.2.2 c_rn c_seen)) ⟨hx, hb, hml, hown, hts⟩ hE hK hA hP hD hS [1, 2, 3, 4, 5, 6, 7, 8, 9, 10, 25] rfl rfl rfl (mX2_follow l dC dI cI cC sk (fun k => f (k + 1)) (fun k => f (k + 25)) H.size c_inRow q39 c_lanes c_spots c_byLeaps q23.1 q23.2.1 q23.2.2 c_strong c_done c_rn c_seen q42 e42) (cwV 3 hts gX3_judge_X2_follow rfl rfl rfl (by decide +kernel) ⟨Nat.le_of_ble_eq_true rfl, Nat.le_of_ble_eq_true rfl⟩) (va_recv hK hP (ci := 2) (q0 := 1) rfl rfl) (As := [.ref (f 25), .int c_inRow, .int q39]) (rest := []) rfl hl.1 rfl (Nat.le_of_ble_eq_true rfl) dX3_judge_42 ⟨Nat.zero_le _, Nat.zero_le _⟩ (fun H locs hP hD hS => ?_)
    have hP : va_P (dC, dI) vwCl (zwX cI cC f q42.2.1 q42.2.2.1 c_byLeaps q23.1 q23.2.1 q23.2.2 q42.2.2.2.1 q42.2.2.2.2 c_rn c_rt c_letters c_size c_rp c_seen c_refs c_inRow c_isPic) H := hP
    have hD : va_D A (zwX cI cC f q42.2.1 q42.2.2.1 c_byLeaps q23.1 q23.2.1 q23.2.2 q42.2.2.2.1 q42.2.2.2.2 c_rn c_rt c_letters c_size c_rp c_seen c_refs c_inRow c_isPic) := hD
    refine lv_pop hx hb dX3_judge_45 rfl ?_
    refine lv_aload_n hx hb dX3_judge_46 rfl (lv_at hl 1 rfl) ?_
    refine va_get (D := (dC, dI)) (ci := 3) (v := .ref (f 1)) (C := RX3) (T := TX3) (N := 9) hx hb hts hiX3 hown hK hP 0 rfl rfl 4 (by decide) hw1 (fun _ h9 => h9) rfl dX3_judge_47 ?_
    refine va_getN (D := (dC, dI)) (ci := 2) (v := .int q42.2.2.2.2) (C := RX2) (T := TX2) (N := 9) hx hb hts hiX2 hown hK hP 1 rfl rfl 8 (by decide) hnw6 (fun _ h9 => h9) rfl dX3_judge_50 ?_
    refine lv_aload_n hx hb dX3_judge_53 rfl (lv_at hl 1 rfl) ?_
    refine va_get (D := (dC, dI)) (ci := 3) (v := .int c_inRow) (C := RX3) (T := TX3) (N := 9) hx hb hts hiX3 hown hK hP 0 rfl rfl 7 (by decide) hw3 (fun _ h9 => h9) rfl dX3_judge_54 ?_
    refine lv_icmp_ge (tgt := 70) hx hb dX3_judge_57 (by decide) (fun c57 => ?_) (fun c57 => ?_)
    · have h := itT c57 h
      refine lv_bipush (v := (-9 : Int32)) hx hb dX3_judge_70 (by decide) ?_
      subst hQ
      exact retRW (zz := (((-9 : Int32), q42.2.1, q42.2.2.1, q23.1, q23.2.1, q23.2.2, q42.2.2.2.1, q42.2.2.2.2, c_refs) : Int32 × AR × AR × Int32 × Int32 × Int32 × Int32 × Int32 × AR)) (fun z => z.1) (fun z => (zwX cI cC f z.2.1 z.2.2.1 c_byLeaps z.2.2.2.1 z.2.2.2.2.1 z.2.2.2.2.2.1 z.2.2.2.2.2.2.1 z.2.2.2.2.2.2.2.1 c_rn c_rt c_letters c_size c_rp c_seen z.2.2.2.2.2.2.2.2 c_inRow c_isPic)) hx hb hr hlocks rfl hS h rfl hP dX3_judge_72
    have h := itF c57 h
    refine lv_aload_n hx hb dX3_judge_60 rfl (lv_at hl 1 rfl) ?_
    refine va_get (D := (dC, dI)) (ci := 3) (v := .ref (f 1)) (C := RX3) (T := TX3) (N := 9) hx hb hts hiX3 hown hK hP 0 rfl rfl 4 (by decide) hw1 (fun _ h9 => h9) rfl dX3_judge_61 ?_
    refine va_getN (D := (dC, dI)) (ci := 2) (v := .int q42.2.2.2.2) (C := RX2) (T := TX2) (N := 9) hx hb hts hiX2 hown hK hP 1 rfl rfl 8 (by decide) hnw6 (fun _ h9 => h9) rfl dX3_judge_64 ?_
    refine lv_goto (tgt := 72) hx hb dX3_judge_67 (by decide) ?_
    subst hQ
    exact retRW (zz := ((q42.2.2.2.2, q42.2.1, q42.2.2.1, q23.1, q23.2.1, q23.2.2, q42.2.2.2.1, q42.2.2.2.2, c_refs) : Int32 × AR × AR × Int32 × Int32 × Int32 × Int32 × Int32 × AR)) (fun z => z.1) (fun z => (zwX cI cC f z.2.1 z.2.2.1 c_byLeaps z.2.2.2.1 z.2.2.2.2.1 z.2.2.2.2.2.1 z.2.2.2.2.2.2.1 z.2.2.2.2.2.2.2.1 c_rn c_rt c_letters c_size c_rp c_seen z.2.2.2.2.2.2.2.2 c_inRow c_isPic)) hx hb hr hlocks rfl hS h rfl hP dX3_judge_72
  have h := itF c7 h
  refine lv_aload_n hx hb dX3_judge_10 rfl (lv_at hl 1 rfl) ?_
  refine lv_iload_n hx hb dX3_judge_11 rfl (lv_at hl 0 rfl) ?_
  obtain ⟨q12, e12, h⟩ := bd_some h
  refine g_rwV (wc := (zwX cI cC f c_lanes c_spots c_byLeaps c_load c_gone c_held c_strong c_done c_rn c_rt c_letters c_size c_rp c_seen c_refs c_inRow c_isPic)) (wc' := (zwX cI cC f c_lanes c_spots c_byLeaps c_load c_gone c_held c_strong c_done c_rn c_rt c_letters c_size c_rp c_seen q12.2 c_inRow c_isPic)) ⟨hx, hb, hml, hown, hts⟩ hE hK hA hP hD hS [0, 1, 2, 3, 4, 5, 6, 7, 8, 9, 10, 11, 12, 13, 14, 15, 16, 17, 18, 19, 20, 21, 22, 23, 24, 25, 26] rfl rfl rfl (mX3_refuse l dC dI cI cC sk f H.size q2 c_lanes c_spots c_byLeaps c_load c_gone c_held c_strong c_done c_rn c_rt c_letters c_size c_rp c_seen c_refs c_inRow c_isPic q12 e12) (cwV 1 hts gX3_judge_X3_refuse rfl rfl rfl (by decide +kernel) ⟨Nat.le_of_ble_eq_true rfl, Nat.le_of_ble_eq_true rfl⟩) (va_recv hK hP (ci := 3) (q0 := 0) rfl rfl) (As := [.int q2]) (rest := []) rfl hl.1 rfl (Nat.le_of_ble_eq_true rfl) dX3_judge_12 ⟨Nat.zero_le _, Nat.zero_le _⟩ (fun H locs hP hD hS => ?_)
  have hP : va_P (dC, dI) vwCl (zwX cI cC f c_lanes c_spots c_byLeaps c_load c_gone c_held c_strong c_done c_rn c_rt c_letters c_size c_rp c_seen q12.2 c_inRow c_isPic) H := hP
  have hD : va_D A (zwX cI cC f c_lanes c_spots c_byLeaps c_load c_gone c_held c_strong c_done c_rn c_rt c_letters c_size c_rp c_seen q12.2 c_inRow c_isPic) := hD
  subst hQ
  exact retRW (zz := ((q12.1, c_lanes, c_spots, c_load, c_gone, c_held, c_strong, c_done, q12.2) : Int32 × AR × AR × Int32 × Int32 × Int32 × Int32 × Int32 × AR)) (fun z => z.1) (fun z => (zwX cI cC f z.2.1 z.2.2.1 c_byLeaps z.2.2.2.1 z.2.2.2.2.1 z.2.2.2.2.2.1 z.2.2.2.2.2.2.1 z.2.2.2.2.2.2.2.1 c_rn c_rt c_letters c_size c_rp c_seen z.2.2.2.2.2.2.2.2 c_inRow c_isPic)) hx hb hr hlocks rfl hS h rfl hP dX3_judge_15
theorem dX3_placeOf_0 : decode cX3_placeOf 0 = .ok (.iconst 0, 1) := by decide +kernel
theorem dX3_placeOf_1 : decode cX3_placeOf 1 = .ok (.istore_n 1, 1) := by decide +kernel
theorem dX3_placeOf_2 : decode cX3_placeOf 2 = .ok (.iload_n 1, 1) := by decide +kernel
theorem dX3_placeOf_3 : decode cX3_placeOf 3 = .ok (.bipush 20, 2) := by decide +kernel
theorem dX3_placeOf_5 : decode cX3_placeOf 5 = .ok (.if_icmp .ge 20, 3) := by decide +kernel
theorem dX3_placeOf_8 : decode cX3_placeOf 8 = .ok (.iload_n 0, 1) := by decide +kernel
theorem dX3_placeOf_9 : decode cX3_placeOf 9 = .ok (.iload_n 1, 1) := by decide +kernel
theorem dX3_placeOf_10 : decode cX3_placeOf 10 = .ok (.ishr, 1) := by decide +kernel
theorem dX3_placeOf_11 : decode cX3_placeOf 11 = .ok (.iconst 1, 1) := by decide +kernel
theorem dX3_placeOf_12 : decode cX3_placeOf 12 = .ok (.iand, 1) := by decide +kernel
theorem dX3_placeOf_13 : decode cX3_placeOf 13 = .ok (.iconst 1, 1) := by decide +kernel
theorem dX3_placeOf_14 : decode cX3_placeOf 14 = .ok (.if_icmp .ne 5, 3) := by decide +kernel
theorem dX3_placeOf_17 : decode cX3_placeOf 17 = .ok (.iload_n 1, 1) := by decide +kernel
theorem dX3_placeOf_18 : decode cX3_placeOf 18 = .ok (.ireturn, 1) := by decide +kernel
theorem dX3_placeOf_19 : decode cX3_placeOf 19 = .ok (.iinc 1 1, 3) := by decide +kernel
theorem dX3_placeOf_22 : decode cX3_placeOf 22 = .ok (.goto (-20), 3) := by decide +kernel
theorem dX3_placeOf_25 : decode cX3_placeOf 25 = .ok (.bipush (-9), 2) := by decide +kernel
theorem dX3_placeOf_27 : decode cX3_placeOf 27 = .ok (.ireturn, 1) := by decide +kernel
set_option maxHeartbeats 4000000 in
set_option maxRecDepth 100000 in
theorem mX3_placeOf (l : Launch) (dC : Nat → ClassId) (dI : Nat → Nat → Nat) (cI cC : ClassId) (sk : (Nat → Nat) × (Nat → Nat))  (p0 : Int32)  (z : Int32) (h : fX3_placeOf p0 = some z) : cRO l yX3_placeOf wsX3_placeOf (RMk 0 0) sk (dC, dI) (tyz cI cC) ([] : va_W) [.int p0] z := by
  refine ofRO (cc := cX3_placeOf) (maxL := 2) (ret := (some .int)) (own := RX3) (plainFor_of_name (by decide)) rfl rfl (Nat.le_of_ble_eq_true rfl) ?_
  intro p e s m args below meth c hx hb hml hr hts hown hlocks hE hK hP hS ls hl
  generalize hQ : qRO _ _ _ _ = Q
  have hl : lv_has ls 2 [(0, .int p0)] := hl
  rw [fX3_placeOf] at h
  refine lv_iconst (v := (0 : Int32)) hx hb dX3_placeOf_0 (by decide) ?_
  refine lv_istore_n (lv' := [(1, .int (0 : Int32)), (0, .int p0)]) hx hb dX3_placeOf_1 rfl hl (by decide) rfl (fun ls hl => ?_)
  have L2 : ∀ (K2 : Unit → Option (Int32)), (∀ (_ : Unit), K2 () = some z → ∀ (H : Heap) (locs : List Loc) (ls : Array Slot), va_P (dC, dI) vwCl ([] : va_W) H → va_S noA s.heap H locs → lv_has ls 2 [] → W p l e (RMk 0 0) s m args below meth c H locs 0 0 Q (F0 m 25 ls [])) → ∀ (n : Nat) (x2_1 : Int32), fX3_placeOf_L2 p0 K2 n x2_1 = some z → ∀ (H : Heap) (locs : List Loc) (ls : Array Slot), va_P (dC, dI) vwCl ([] : va_W) H → va_S noA s.heap H locs → lv_has ls 2 [(0, .int p0), (1, .int x2_1)] → W p l e (RMk 0 0) s m args below meth c H locs 0 0 Q (F0 m 2 ls []) := by
    intro K2 kx2 n
    induction n with
    | zero => intro x2_1 h; rw [fX3_placeOf_L2] at h; cases h
    | succ n ih2 =>
      intro x2_1 h H locs ls hP hS hl
      rw [fX3_placeOf_L2] at h
      refine lv_iload_n hx hb dX3_placeOf_2 rfl (lv_at hl 1 rfl) ?_
      refine lv_bipush (v := (20 : Int32)) hx hb dX3_placeOf_3 (by decide) ?_
      refine lv_icmp_ge (tgt := 25) hx hb dX3_placeOf_5 (by decide) (fun c5 => ?_) (fun c5 => ?_)
      · have h := itT c5 h
        exact kx2 () h _ _ _ hP hS (lv_sub hl [] rfl)
      have h := itF c5 h
      refine lv_iload_n hx hb dX3_placeOf_8 rfl (lv_at hl 0 rfl) ?_
      refine lv_iload_n hx hb dX3_placeOf_9 rfl (lv_at hl 1 rfl) ?_
      refine lv_ishr hx hb dX3_placeOf_10 ?_
      refine lv_iconst (v := (1 : Int32)) hx hb dX3_placeOf_11 (by decide) ?_
      refine lv_iand hx hb dX3_placeOf_12 ?_
      refine lv_iconst (v := (1 : Int32)) hx hb dX3_placeOf_13 (by decide) ?_
      refine lv_icmp_ne (tgt := 19) hx hb dX3_placeOf_14 (by decide) (fun c14 => ?_) (fun c14 => ?_)
      · have h := itF c14 h
        refine lv_iinc (v := (x2_1 + (1 : Int32))) (lv' := [(1, .int (x2_1 + (1 : Int32))), (0, .int p0)]) hx hb dX3_placeOf_19 hl (k := 1) rfl rfl (by decide) rfl (fun ls hl => ?_)
        refine lv_goto (tgt := 2) hx hb dX3_placeOf_22 (by decide) ?_
        exact ih2 _ h _ _ _ hP hS (lv_sub hl [1, 0] rfl)
      have h := itT c14 h
      refine lv_iload_n hx hb dX3_placeOf_17 rfl (lv_at hl 1 rfl) ?_
      subst hQ
      exact retRO hx hb hr hlocks rfl hS h dX3_placeOf_18
  refine L2 _ (fun _ h H locs ls hP hS hl => ?_) _ _ h _ _ _ hP hS (lv_sub hl [1, 0] rfl)
  refine lv_bipush (v := (-9 : Int32)) hx hb dX3_placeOf_25 (by decide) ?_
  subst hQ
  exact retRO hx hb hr hlocks rfl hS h dX3_placeOf_27
theorem dX3_ends_0 : decode cX3_ends 0 = .ok (.iload_n 1, 1) := by decide +kernel
theorem dX3_ends_1 : decode cX3_ends 1 = .ok (.iload_n 2, 1) := by decide +kernel
theorem dX3_ends_2 : decode cX3_ends 2 = .ok (.invokestatic 105, 3) := by decide +kernel
theorem dX3_ends_5 : decode cX3_ends 5 = .ok (.istore_n 3, 1) := by decide +kernel
theorem dX3_ends_6 : decode cX3_ends 6 = .ok (.iload_n 3, 1) := by decide +kernel
theorem dX3_ends_7 : decode cX3_ends 7 = .ok (.ifCond .eq 9, 3) := by decide +kernel
theorem dX3_ends_10 : decode cX3_ends 10 = .ok (.aload_n 0, 1) := by decide +kernel
theorem dX3_ends_11 : decode cX3_ends 11 = .ok (.iload_n 3, 1) := by decide +kernel
theorem dX3_ends_12 : decode cX3_ends 12 = .ok (.invokevirtual 53, 3) := by decide +kernel
theorem dX3_ends_15 : decode cX3_ends 15 = .ok (.ireturn, 1) := by decide +kernel
theorem dX3_ends_16 : decode cX3_ends 16 = .ok (.aload_n 0, 1) := by decide +kernel
theorem dX3_ends_17 : decode cX3_ends 17 = .ok (.getfield 34, 3) := by decide +kernel
theorem dX3_ends_20 : decode cX3_ends 20 = .ok (.iload_n 1, 1) := by decide +kernel
theorem dX3_ends_21 : decode cX3_ends 21 = .ok (.iconst 0, 1) := by decide +kernel
theorem dX3_ends_22 : decode cX3_ends 22 = .ok (.iconst 0, 1) := by decide +kernel
theorem dX3_ends_23 : decode cX3_ends 23 = .ok (.invokevirtual 87, 3) := by decide +kernel
theorem dX3_ends_26 : decode cX3_ends 26 = .ok (.aload_n 0, 1) := by decide +kernel
theorem dX3_ends_27 : decode cX3_ends 27 = .ok (.getfield 34, 3) := by decide +kernel
theorem dX3_ends_30 : decode cX3_ends 30 = .ok (.aload_n 0, 1) := by decide +kernel
theorem dX3_ends_31 : decode cX3_ends 31 = .ok (.getfield 38, 3) := by decide +kernel
theorem dX3_ends_34 : decode cX3_ends 34 = .ok (.aload_n 0, 1) := by decide +kernel
theorem dX3_ends_35 : decode cX3_ends 35 = .ok (.getfield 136, 3) := by decide +kernel
theorem dX3_ends_38 : decode cX3_ends 38 = .ok (.iload_n 2, 1) := by decide +kernel
theorem dX3_ends_39 : decode cX3_ends 39 = .ok (.invokestatic 120, 3) := by decide +kernel
theorem dX3_ends_42 : decode cX3_ends 42 = .ok (.invokevirtual 142, 3) := by decide +kernel
theorem dX3_ends_45 : decode cX3_ends 45 = .ok (.invokestatic 149, 3) := by decide +kernel
theorem dX3_ends_48 : decode cX3_ends 48 = .ok (.ireturn, 1) := by decide +kernel
set_option maxRecDepth 20000 in
theorem ggX3_ends_X3_faultOfWalker : GoodIn wsX3_ends wsX3_faultOfWalker := goodIn_r _ [7, 8, 9, 6, 10, 11, 12, 13] (by decide +kernel) (by decide +kernel)
set_option maxRecDepth 20000 in
theorem gX3_ends_X3_faultOfWalker : GoodIn wsX3_ends (va_wsS RX3 105 yX3_faultOfWalker wsX3_faultOfWalker) := goodIn_app (goodIn_of _ (by decide +kernel)) ggX3_ends_X3_faultOfWalker
set_option maxRecDepth 20000 in
theorem ggX3_ends_X3_refuse : GoodIn wsX3_ends wsX3_refuse := goodIn_r _ [17, 18, 115, 116, 117, 118, 119, 120, 121, 122, 123] (by decide +kernel) (by decide +kernel)
set_option maxRecDepth 20000 in
theorem gX3_ends_X3_refuse : GoodIn wsX3_ends (wsV RX3 53 RX3 yX3_refuse wsX3_refuse) := goodIn_app (goodIn_of _ (by decide +kernel)) ggX3_ends_X3_refuse
set_option maxRecDepth 20000 in
theorem ggX3_ends_X2_begin : GoodIn wsX3_ends wsX2_begin := goodIn_r _ [23, 24, 25, 26, 124, 125, 126, 127, 128, 129, 130, 131, 132] (by decide +kernel) (by decide +kernel)
set_option maxRecDepth 20000 in
theorem gX3_ends_X2_begin : GoodIn wsX3_ends (wsV RX3 87 RX2 yX2_begin wsX2_begin) := goodIn_app (goodIn_of _ (by decide +kernel)) ggX3_ends_X2_begin
set_option maxRecDepth 20000 in
theorem ggX3_ends_X3_southCell : GoodIn wsX3_ends wsX3_southCell := goodIn_r _ [29] (by decide +kernel) (by decide +kernel)
set_option maxRecDepth 20000 in
theorem gX3_ends_X3_southCell : GoodIn wsX3_ends (va_wsS RX3 120 yX3_southCell wsX3_southCell) := goodIn_app (goodIn_of _ (by decide +kernel)) ggX3_ends_X3_southCell
set_option maxRecDepth 20000 in
theorem ggX3_ends_X2_follow : GoodIn wsX3_ends wsX2_follow := goodIn_r _ [33, 34, 35, 36, 37, 38, 22, 39, 40, 26, 41, 42, 25, 24, 43, 44, 45, 46, 47, 48, 49, 50, 51, 52, 53, 54, 55, 56, 57, 58, 59, 60, 61, 62, 63, 64, 65, 66, 67, 68, 69, 70, 71, 72, 73, 74, 75, 76, 77, 78, 79, 80, 81, 82, 83, 84, 85, 86, 87, 88, 89, 90, 91, 92, 93, 94, 95, 96, 97, 98, 99, 100, 101, 102, 103, 104, 105, 106, 107, 108, 109, 110, 111, 28, 6, 29, 124, 125, 126, 127, 128, 129, 130, 131, 132, 133, 134, 135, 136, 137, 138, 139, 140] (by decide +kernel) (by decide +kernel)
set_option maxRecDepth 20000 in
theorem gX3_ends_X2_follow : GoodIn wsX3_ends (wsV RX3 142 RX2 yX2_follow wsX2_follow) := goodIn_app (goodIn_of _ (by decide +kernel)) ggX3_ends_X2_follow
set_option maxRecDepth 20000 in
theorem ggX3_ends_X3_placeOf : GoodIn wsX3_ends wsX3_placeOf := goodIn_r _ [114] (by decide +kernel) (by decide +kernel)
set_option maxRecDepth 20000 in
theorem gX3_ends_X3_placeOf : GoodIn wsX3_ends (va_wsS RX3 149 yX3_placeOf wsX3_placeOf) := goodIn_app (goodIn_of _ (by decide +kernel)) ggX3_ends_X3_placeOf
set_option maxHeartbeats 4000000 in
set_option maxRecDepth 100000 in
theorem mX3_ends (l : Launch) (dC : Nat → ClassId) (dI : Nat → Nat → Nat) (cI cC : ClassId) (sk : (Nat → Nat) × (Nat → Nat)) (f : Nat → Nat) (sz : Nat) (p1 : Int32) (p2 : Int32) (c_lanes : AR) (c_spots : AR) (c_byLeaps : AR) (c_load : Int32) (c_gone : Int32) (c_held : Int32) (c_strong : Int32) (c_done : Int32) (c_rn : RT) (c_rt : RT) (c_letters : AR) (c_size : Int32) (c_rp : RT) (c_seen : AR) (c_refs : AR) (c_inRow : Int32) (c_isPic : Int32) (z : Int32 × AR × AR × Int32 × Int32 × Int32 × Int32 × Int32 × AR) (h : fX3_ends p1 p2 c_lanes c_spots c_load c_gone c_held c_strong c_done c_rn c_seen c_refs c_inRow = some z) : cRW l yX3_ends wsX3_ends (RMk 5 118) sk (dC, dI) (tyz cI cC) sz (zwX cI cC f c_lanes c_spots c_byLeaps c_load c_gone c_held c_strong c_done c_rn c_rt c_letters c_size c_rp c_seen c_refs c_inRow c_isPic) (zwX cI cC f z.2.1 z.2.2.1 c_byLeaps z.2.2.2.1 z.2.2.2.2.1 z.2.2.2.2.2.1 z.2.2.2.2.2.2.1 z.2.2.2.2.2.2.2.1 c_rn c_rt c_letters c_size c_rp c_seen z.2.2.2.2.2.2.2.2 c_inRow c_isPic) [.ref (f 0), .int p1, .int p2] z.1 := by
  refine ofRW (cc := cX3_ends) (maxL := 4) (ret := (some .int)) (own := RX3) (plainFor_of_name (by decide)) rfl rfl (Nat.le_of_ble_eq_true rfl) ?_
  intro p e s m args below meth c A hA hx hb hml hr hts hown hlocks hE hK hP hD hS ls hl
  generalize hQ : qRW _ _ _ _ _ _ _ = Q
  have hl : lv_has ls 4 [(0, .ref (f 0)), (1, .int p1), (2, .int p2)] := hl
  have hiX3 : ∀ w ∈ wsX30, w ∈ wsX3_ends := fun w h => List.mem_cons_of_mem _ (List.mem_append_left _ (List.mem_append_left _ (List.mem_append_right _ h)))
  have hw1 := hts (Cond.fieldLink RX3 34 "FloeToFloe" "walk" "LFloeToFloe$Walk;") (List.mem_of_getElem? (i := 1) rfl)
  have hw2 := hts (Cond.fieldLink RX3 38 "FloeToFloe" "seen" "[I") (List.mem_of_getElem? (i := 2) rfl)
  have hw3 := hts (Cond.fieldLink RX3 136 "FloeToFloe" "inRow" "I") (List.mem_of_getElem? (i := 3) rfl)
  rw [fX3_ends] at h
  refine lv_iload_n hx hb dX3_ends_0 rfl (lv_at hl 1 rfl) ?_
  refine lv_iload_n hx hb dX3_ends_1 rfl (lv_at hl 2 rfl) ?_
  obtain ⟨q2, e2, h⟩ := bd_some h
  refine g_roS (wc := ([] : va_W)) ⟨hx, hb, hml, hown, hts⟩ hE hK hP hS [] rfl (mX3_faultOfWalker l dC dI cI cC sk  p1 p2 q2 e2) (va_cwS 2 hts gX3_ends_X3_faultOfWalker rfl rfl rfl (by decide +kernel) ⟨Nat.le_of_ble_eq_true rfl, Nat.le_of_ble_eq_true rfl⟩) (As := [.int p1, .int p2]) (rest := []) rfl hl.1 rfl (Nat.le_of_ble_eq_true rfl) dX3_ends_2 ⟨Nat.zero_le _, Nat.zero_le _⟩ (fun H locs hP hS => ?_)
  refine lv_istore_n (lv' := [(3, .int q2), (0, .ref (f 0)), (1, .int p1), (2, .int p2)]) hx hb dX3_ends_5 rfl hl (by decide) rfl (fun ls hl => ?_)
  refine lv_iload_n hx hb dX3_ends_6 rfl (lv_at hl 0 rfl) ?_
  refine lv_if_eq (tgt := 16) hx hb dX3_ends_7 (by decide) (fun c7 => ?_) (fun c7 => ?_)
  · have h := itT c7 h
    refine lv_aload_n hx hb dX3_ends_16 rfl (lv_at hl 1 rfl) ?_
    refine va_get (D := (dC, dI)) (ci := 3) (v := .ref (f 1)) (C := RX3) (T := TX3) (N := 9) hx hb hts hiX3 hown hK hP 0 rfl rfl 4 (by decide) hw1 (fun _ h9 => h9) rfl dX3_ends_17 ?_
    refine lv_iload_n hx hb dX3_ends_20 rfl (lv_at hl 2 rfl) ?_
    refine lv_iconst (v := (0 : Int32)) hx hb dX3_ends_21 (by decide) ?_
    refine lv_iconst (v := (0 : Int32)) hx hb dX3_ends_22 (by decide) ?_
    obtain ⟨q23, e23, h⟩ := bd_some h
    refine g_rvV (wc := (zwV cI cC (fun k => f (k + 1)) c_lanes c_spots c_byLeaps c_load c_gone c_held c_strong c_done c_rn)) (wc' := (zwV cI cC (fun k => f (k + 1)) c_lanes c_spots c_byLeaps q23.1 q23.2.1 q23.2.2 c_strong c_done c_rn)) ⟨hx, hb, hml, hown, hts⟩ hE hK hA hP hD hS [1, 2, 3, 4, 5, 6, 7, 8, 9, 10] rfl rfl rfl (mX2_begin l dC dI cI cC sk (fun k => f (k + 1)) H.size p1 (0 : Int32) (0 : Int32) c_lanes c_spots c_byLeaps c_load c_gone c_held c_strong c_done c_rn q23 e23) (cwV 3 hts gX3_ends_X2_begin rfl rfl rfl (by decide +kernel) ⟨Nat.le_of_ble_eq_true rfl, Nat.le_of_ble_eq_true rfl⟩) (va_recv hK hP (ci := 2) (q0 := 1) rfl rfl) (As := [.int p1, .int (0 : Int32), .int (0 : Int32)]) (rest := []) rfl hl.1 rfl (Nat.le_of_ble_eq_true rfl) dX3_ends_23 ⟨Nat.zero_le _, Nat.zero_le _⟩ (fun H locs hP hD hS => ?_)
    have hP : va_P (dC, dI) vwCl (zwX cI cC f c_lanes c_spots c_byLeaps q23.1 q23.2.1 q23.2.2 c_strong c_done c_rn c_rt c_letters c_size c_rp c_seen c_refs c_inRow c_isPic) H := hP
    have hD : va_D A (zwX cI cC f c_lanes c_spots c_byLeaps q23.1 q23.2.1 q23.2.2 c_strong c_done c_rn c_rt c_letters c_size c_rp c_seen c_refs c_inRow c_isPic) := hD
    refine lv_aload_n hx hb dX3_ends_26 rfl (lv_at hl 1 rfl) ?_
    refine va_get (D := (dC, dI)) (ci := 3) (v := .ref (f 1)) (C := RX3) (T := TX3) (N := 9) hx hb hts hiX3 hown hK hP 0 rfl rfl 4 (by decide) hw1 (fun _ h9 => h9) rfl dX3_ends_27 ?_
    refine lv_aload_n hx hb dX3_ends_30 rfl (lv_at hl 1 rfl) ?_
    refine va_get (D := (dC, dI)) (ci := 3) (v := .ref (f 25)) (C := RX3) (T := TX3) (N := 9) hx hb hts hiX3 hown hK hP 0 rfl rfl 5 (by decide) hw2 (fun _ h9 => h9) rfl dX3_ends_31 ?_
    refine lv_aload_n hx hb dX3_ends_34 rfl (lv_at hl 1 rfl) ?_
    refine va_get (D := (dC, dI)) (ci := 3) (v := .int c_inRow) (C := RX3) (T := TX3) (N := 9) hx hb hts hiX3 hown hK hP 0 rfl rfl 7 (by decide) hw3 (fun _ h9 => h9) rfl dX3_ends_35 ?_
    refine lv_iload_n hx hb dX3_ends_38 rfl (lv_at hl 3 rfl) ?_
    obtain ⟨q39, e39, h⟩ := bd_some h
    refine g_roS (wc := ([] : va_W)) ⟨hx, hb, hml, hown, hts⟩ hE hK hP hS [] rfl (mX3_southCell l dC dI cI cC sk  p2 q39 e39) (va_cwS 1 hts gX3_ends_X3_southCell rfl rfl rfl (by decide +kernel) ⟨Nat.le_of_ble_eq_true rfl, Nat.le_of_ble_eq_true rfl⟩) (As := [.int p2]) (rest := [.int c_inRow, .ref (f 25), .ref (f 1)]) rfl hl.1 rfl (Nat.le_of_ble_eq_true rfl) dX3_ends_39 ⟨Nat.zero_le _, Nat.zero_le _⟩ (fun H locs hP hS => ?_)
    obtain ⟨q42, e42, h⟩ := bd_some h
    refine g_rwV (wc := (zwVA cI cC (fun k => f (k + 1)) (fun k => f (k + 25)) c_lanes c_spots c_byLeaps q23.1 q23.2.1 q23.2.2 c_strong c_done c_rn c_seen)) (wc' := (zwVA cI cC (fun k => f (k + 1)) (fun k => f (k + 25)) q42.2.1 q42.2.2.1 c_byLeaps q23.1 q23.2.1 q23.2.2 q42.2.2.2.1 q42.2.2.2.2 c_rn c_seen)) ⟨hx, hb, hml, hown, hts⟩ hE hK hA hP hD hS [1, 2, 3, 4, 5, 6, 7, 8, 9, 10, 25] rfl rfl rfl (mX2_follow l dC dI cI cC sk (fun k => f (k + 1)) (fun k => f (k + 25)) H.size c_inRow q39 c_lanes c_spots c_byLeaps q23.1 q23.2.1 q23.2.2 c_strong c_done c_rn c_seen q42 e42) (cwV 3 hts gX3_ends_X2_follow rfl rfl rfl (by decide +kernel) ⟨Nat.le_of_ble_eq_true rfl, Nat.le_of_ble_eq_true rfl⟩) (va_recv hK hP (ci := 2) (q0 := 1) rfl rfl) (As := [.ref (f 25), .int c_inRow, .int q39]) (rest := []) rfl hl.1 rfl (Nat.le_of_ble_eq_true rfl) dX3_ends_42 ⟨Nat.zero_le _, Nat.zero_le _⟩ (fun H locs hP hD hS => ?_)
    have hP : va_P (dC, dI) vwCl (zwX cI cC f q42.2.1 q42.2.2.1 c_byLeaps q23.1 q23.2.1 q23.2.2 q42.2.2.2.1 q42.2.2.2.2 c_rn c_rt c_letters c_size c_rp c_seen c_refs c_inRow c_isPic) H := hP
    have hD : va_D A (zwX cI cC f q42.2.1 q42.2.2.1 c_byLeaps q23.1 q23.2.1 q23.2.2 q42.2.2.2.1 q42.2.2.2.2 c_rn c_rt c_letters c_size c_rp c_seen c_refs c_inRow c_isPic) := hD
    obtain ⟨q45, e45, h⟩ := bd_some h
    refine g_roS (wc := ([] : va_W)) ⟨hx, hb, hml, hown, hts⟩ hE hK hP hS [] rfl (mX3_placeOf l dC dI cI cC sk  q42.1 q45 e45) (va_cwS 1 hts gX3_ends_X3_placeOf rfl rfl rfl (by decide +kernel) ⟨Nat.le_of_ble_eq_true rfl, Nat.le_of_ble_eq_true rfl⟩) (As := [.int q42.1]) (rest := []) rfl hl.1 rfl (Nat.le_of_ble_eq_true rfl) dX3_ends_45 ⟨Nat.zero_le _, Nat.zero_le _⟩ (fun H locs hP hS => ?_)
    subst hQ
    exact retRW (zz := ((q45, q42.2.1, q42.2.2.1, q23.1, q23.2.1, q23.2.2, q42.2.2.2.1, q42.2.2.2.2, c_refs) : Int32 × AR × AR × Int32 × Int32 × Int32 × Int32 × Int32 × AR)) (fun z => z.1) (fun z => (zwX cI cC f z.2.1 z.2.2.1 c_byLeaps z.2.2.2.1 z.2.2.2.2.1 z.2.2.2.2.2.1 z.2.2.2.2.2.2.1 z.2.2.2.2.2.2.2.1 c_rn c_rt c_letters c_size c_rp c_seen z.2.2.2.2.2.2.2.2 c_inRow c_isPic)) hx hb hr hlocks rfl hS h rfl hP dX3_ends_48
  have h := itF c7 h
  refine lv_aload_n hx hb dX3_ends_10 rfl (lv_at hl 1 rfl) ?_
  refine lv_iload_n hx hb dX3_ends_11 rfl (lv_at hl 0 rfl) ?_
  obtain ⟨q12, e12, h⟩ := bd_some h
  refine g_rwV (wc := (zwX cI cC f c_lanes c_spots c_byLeaps c_load c_gone c_held c_strong c_done c_rn c_rt c_letters c_size c_rp c_seen c_refs c_inRow c_isPic)) (wc' := (zwX cI cC f c_lanes c_spots c_byLeaps c_load c_gone c_held c_strong c_done c_rn c_rt c_letters c_size c_rp c_seen q12.2 c_inRow c_isPic)) ⟨hx, hb, hml, hown, hts⟩ hE hK hA hP hD hS [0, 1, 2, 3, 4, 5, 6, 7, 8, 9, 10, 11, 12, 13, 14, 15, 16, 17, 18, 19, 20, 21, 22, 23, 24, 25, 26] rfl rfl rfl (mX3_refuse l dC dI cI cC sk f H.size q2 c_lanes c_spots c_byLeaps c_load c_gone c_held c_strong c_done c_rn c_rt c_letters c_size c_rp c_seen c_refs c_inRow c_isPic q12 e12) (cwV 1 hts gX3_ends_X3_refuse rfl rfl rfl (by decide +kernel) ⟨Nat.le_of_ble_eq_true rfl, Nat.le_of_ble_eq_true rfl⟩) (va_recv hK hP (ci := 3) (q0 := 0) rfl rfl) (As := [.int q2]) (rest := []) rfl hl.1 rfl (Nat.le_of_ble_eq_true rfl) dX3_ends_12 ⟨Nat.zero_le _, Nat.zero_le _⟩ (fun H locs hP hD hS => ?_)
  have hP : va_P (dC, dI) vwCl (zwX cI cC f c_lanes c_spots c_byLeaps c_load c_gone c_held c_strong c_done c_rn c_rt c_letters c_size c_rp c_seen q12.2 c_inRow c_isPic) H := hP
  have hD : va_D A (zwX cI cC f c_lanes c_spots c_byLeaps c_load c_gone c_held c_strong c_done c_rn c_rt c_letters c_size c_rp c_seen q12.2 c_inRow c_isPic) := hD
  subst hQ
  exact retRW (zz := ((q12.1, c_lanes, c_spots, c_load, c_gone, c_held, c_strong, c_done, q12.2) : Int32 × AR × AR × Int32 × Int32 × Int32 × Int32 × Int32 × AR)) (fun z => z.1) (fun z => (zwX cI cC f z.2.1 z.2.2.1 c_byLeaps z.2.2.2.1 z.2.2.2.2.1 z.2.2.2.2.2.1 z.2.2.2.2.2.2.1 z.2.2.2.2.2.2.2.1 c_rn c_rt c_letters c_size c_rp c_seen z.2.2.2.2.2.2.2.2 c_inRow c_isPic)) hx hb hr hlocks rfl hS h rfl hP dX3_ends_15
theorem dX3_clear_0 : decode cX3_clear 0 = .ok (.aload_n 0, 1) := by decide +kernel
theorem dX3_clear_1 : decode cX3_clear 1 = .ok (.getfield 136, 3) := by decide +kernel
theorem dX3_clear_4 : decode cX3_clear 4 = .ok (.istore_n 1, 1) := by decide +kernel
theorem dX3_clear_5 : decode cX3_clear 5 = .ok (.aload_n 0, 1) := by decide +kernel
theorem dX3_clear_6 : decode cX3_clear 6 = .ok (.iconst 0, 1) := by decide +kernel
theorem dX3_clear_7 : decode cX3_clear 7 = .ok (.putfield 136, 3) := by decide +kernel
theorem dX3_clear_10 : decode cX3_clear 10 = .ok (.iload_n 1, 1) := by decide +kernel
theorem dX3_clear_11 : decode cX3_clear 11 = .ok (.ireturn, 1) := by decide +kernel
set_option maxHeartbeats 4000000 in
set_option maxRecDepth 100000 in
theorem mX3_clear (l : Launch) (dC : Nat → ClassId) (dI : Nat → Nat → Nat) (cI cC : ClassId) (sk : (Nat → Nat) × (Nat → Nat)) (f : Nat → Nat) (sz : Nat)  (c_lanes : AR) (c_spots : AR) (c_byLeaps : AR) (c_load : Int32) (c_gone : Int32) (c_held : Int32) (c_strong : Int32) (c_done : Int32) (c_rn : RT) (c_rt : RT) (c_letters : AR) (c_size : Int32) (c_rp : RT) (c_seen : AR) (c_refs : AR) (c_inRow : Int32) (c_isPic : Int32) (z : Int32 × Int32) (h : fX3_clear c_inRow = some z) : cRW l yX3_clear wsX3_clear (RMk 0 0) sk (dC, dI) (tyz cI cC) sz (zwX cI cC f c_lanes c_spots c_byLeaps c_load c_gone c_held c_strong c_done c_rn c_rt c_letters c_size c_rp c_seen c_refs c_inRow c_isPic) (zwX cI cC f c_lanes c_spots c_byLeaps c_load c_gone c_held c_strong c_done c_rn c_rt c_letters c_size c_rp c_seen c_refs z.2 c_isPic) [.ref (f 0)] z.1 := by
  refine ofRW (cc := cX3_clear) (maxL := 2) (ret := (some .int)) (own := RX3) (plainFor_of_name (by decide)) rfl rfl (Nat.le_of_ble_eq_true rfl) ?_
  intro p e s m args below meth c A hA hx hb hml hr hts hown hlocks hE hK hP hD hS ls hl
  generalize hQ : qRW _ _ _ _ _ _ _ = Q
  have hl : lv_has ls 2 [(0, .ref (f 0))] := hl
  have hiX3 : ∀ w ∈ wsX30, w ∈ wsX3_clear := fun w h => List.mem_cons_of_mem _ (List.mem_append_right _ h)
  have hw1 := hts (Cond.fieldLink RX3 136 "FloeToFloe" "inRow" "I") (List.mem_of_getElem? (i := 1) rfl)
  rw [fX3_clear] at h
  refine lv_aload_n hx hb dX3_clear_0 rfl (lv_at hl 0 rfl) ?_
  refine va_get (D := (dC, dI)) (ci := 3) (v := .int c_inRow) (C := RX3) (T := TX3) (N := 9) hx hb hts hiX3 hown hK hP 0 rfl rfl 7 (by decide) hw1 (fun _ h9 => h9) rfl dX3_clear_1 ?_
  refine lv_istore_n (lv' := [(1, .int c_inRow), (0, .ref (f 0))]) hx hb dX3_clear_4 rfl hl (by decide) rfl (fun ls hl => ?_)
  refine lv_aload_n hx hb dX3_clear_5 rfl (lv_at hl 1 rfl) ?_
  refine lv_iconst (v := (0 : Int32)) hx hb dX3_clear_6 (by decide) ?_
  refine va_put (D := (dC, dI)) (ci := 3) (v := .int (0 : Int32)) (ty := .int) (C := RX3) (T := TX3) (N := 9) hx hb hts hiX3 tyX3 tyX3_ok nmX3 hown hK hP hD hS 0 rfl rfl 7 (by decide) hw1 (fun _ h9 => h9) rfl (by decide +kernel) rfl rfl (Nat.le_of_ble_eq_true rfl) dX3_clear_7 (fun H locs hP hD hS => ?_)
  have hP : va_P (dC, dI) vwCl (zwX cI cC f c_lanes c_spots c_byLeaps c_load c_gone c_held c_strong c_done c_rn c_rt c_letters c_size c_rp c_seen c_refs (0 : Int32) c_isPic) H := hP
  have hD : va_D A (zwX cI cC f c_lanes c_spots c_byLeaps c_load c_gone c_held c_strong c_done c_rn c_rt c_letters c_size c_rp c_seen c_refs (0 : Int32) c_isPic) := hD
  refine lv_iload_n hx hb dX3_clear_10 rfl (lv_at hl 0 rfl) ?_
  subst hQ
  exact retRW (zz := ((c_inRow, (0 : Int32)) : Int32 × Int32)) (fun z => z.1) (fun z => (zwX cI cC f c_lanes c_spots c_byLeaps c_load c_gone c_held c_strong c_done c_rn c_rt c_letters c_size c_rp c_seen c_refs z.2 c_isPic)) hx hb hr hlocks rfl hS h rfl hP dX3_clear_11
theorem dX3_seedBehind_0 : decode cX3_seedBehind 0 = .ok (.iload_n 0, 1) := by decide +kernel
theorem dX3_seedBehind_1 : decode cX3_seedBehind 1 = .ok (.ldc 173, 2) := by decide +kernel
theorem dX3_seedBehind_3 : decode cX3_seedBehind 3 = .ok (.imul, 1) := by decide +kernel
theorem dX3_seedBehind_4 : decode cX3_seedBehind 4 = .ok (.ldc 174, 2) := by decide +kernel
theorem dX3_seedBehind_6 : decode cX3_seedBehind 6 = .ok (.iadd, 1) := by decide +kernel
theorem dX3_seedBehind_7 : decode cX3_seedBehind 7 = .ok (.ireturn, 1) := by decide +kernel
set_option maxHeartbeats 4000000 in
set_option maxRecDepth 100000 in
theorem mX3_seedBehind (l : Launch) (dC : Nat → ClassId) (dI : Nat → Nat → Nat) (cI cC : ClassId) (sk : (Nat → Nat) × (Nat → Nat))  (p0 : Int32)  (z : Int32) (h : fX3_seedBehind p0 = some z) : cRO l yX3_seedBehind wsX3_seedBehind (RMk 0 0) sk (dC, dI) (tyz cI cC) ([] : va_W) [.int p0] z := by
  refine ofRO (cc := cX3_seedBehind) (maxL := 1) (ret := (some .int)) (own := RX3) (plainFor_of_name (by decide)) rfl rfl (Nat.le_of_ble_eq_true rfl) ?_
  intro p e s m args below meth c hx hb hml hr hts hown hlocks hE hK hP hS ls hl
  generalize hQ : qRO _ _ _ _ = Q
  have hl : lv_has ls 1 [(0, .int p0)] := hl
  have hw1 := hts (Cond.constant RX3 173 (1664525)) (List.mem_of_getElem? (i := 1) rfl)
  have hw2 := hts (Cond.constant RX3 174 (1013904223)) (List.mem_of_getElem? (i := 2) rfl)
  rw [fX3_seedBehind] at h
  refine lv_iload_n hx hb dX3_seedBehind_0 rfl (lv_at hl 0 rfl) ?_
  refine lv_ldc hx hb hown hw1 dX3_seedBehind_1 ?_
  refine lv_imul hx hb dX3_seedBehind_3 ?_
  refine lv_ldc hx hb hown hw2 dX3_seedBehind_4 ?_
  refine lv_iadd hx hb dX3_seedBehind_6 ?_
  subst hQ
  exact retRO hx hb hr hlocks rfl hS h dX3_seedBehind_7
theorem dX3_drawOf_0 : decode cX3_drawOf 0 = .ok (.iload_n 0, 1) := by decide +kernel
theorem dX3_drawOf_1 : decode cX3_drawOf 1 = .ok (.ldc 175, 2) := by decide +kernel
theorem dX3_drawOf_3 : decode cX3_drawOf 3 = .ok (.iand, 1) := by decide +kernel
theorem dX3_drawOf_4 : decode cX3_drawOf 4 = .ok (.sipush 256, 3) := by decide +kernel
theorem dX3_drawOf_7 : decode cX3_drawOf 7 = .ok (.idiv, 1) := by decide +kernel
theorem dX3_drawOf_8 : decode cX3_drawOf 8 = .ok (.ireturn, 1) := by decide +kernel
set_option maxHeartbeats 4000000 in
set_option maxRecDepth 100000 in
theorem mX3_drawOf (l : Launch) (dC : Nat → ClassId) (dI : Nat → Nat → Nat) (cI cC : ClassId) (sk : (Nat → Nat) × (Nat → Nat))  (p0 : Int32)  (z : Int32) (h : fX3_drawOf p0 = some z) : cRO l yX3_drawOf wsX3_drawOf (RMk 0 0) sk (dC, dI) (tyz cI cC) ([] : va_W) [.int p0] z := by
  refine ofRO (cc := cX3_drawOf) (maxL := 1) (ret := (some .int)) (own := RX3) (plainFor_of_name (by decide)) rfl rfl (Nat.le_of_ble_eq_true rfl) ?_
  intro p e s m args below meth c hx hb hml hr hts hown hlocks hE hK hP hS ls hl
  generalize hQ : qRO _ _ _ _ = Q
  have hl : lv_has ls 1 [(0, .int p0)] := hl
  have hw1 := hts (Cond.constant RX3 175 (2147483647)) (List.mem_of_getElem? (i := 1) rfl)
  rw [fX3_drawOf] at h
  refine lv_iload_n hx hb dX3_drawOf_0 rfl (lv_at hl 0 rfl) ?_
  refine lv_ldc hx hb hown hw1 dX3_drawOf_1 ?_
  refine lv_iand hx hb dX3_drawOf_3 ?_
  refine lv_sipush (v := (256 : Int32)) hx hb dX3_drawOf_4 (by decide) ?_
  refine lv_idiv hx hb dX3_drawOf_7 (by decide) ?_
  subst hQ
  exact retRO hx hb hr hlocks rfl hS h dX3_drawOf_8
theorem dX3_seeds_0 : decode cX3_seeds 0 = .ok (.iload_n 1, 1) := by decide +kernel
theorem dX3_seeds_1 : decode cX3_seeds 1 = .ok (.iconst 1, 1) := by decide +kernel
theorem dX3_seeds_2 : decode cX3_seeds 2 = .ok (.bipush 20, 2) := by decide +kernel
theorem dX3_seeds_4 : decode cX3_seeds 4 = .ok (.invokestatic 45, 3) := by decide +kernel
theorem dX3_seeds_7 : decode cX3_seeds 7 = .ok (.istore_n 3, 1) := by decide +kernel
theorem dX3_seeds_8 : decode cX3_seeds 8 = .ok (.iload_n 3, 1) := by decide +kernel
theorem dX3_seeds_9 : decode cX3_seeds 9 = .ok (.ifCond .eq 9, 3) := by decide +kernel
theorem dX3_seeds_12 : decode cX3_seeds 12 = .ok (.aload_n 0, 1) := by decide +kernel
theorem dX3_seeds_13 : decode cX3_seeds 13 = .ok (.iload_n 3, 1) := by decide +kernel
theorem dX3_seeds_14 : decode cX3_seeds 14 = .ok (.invokevirtual 53, 3) := by decide +kernel
theorem dX3_seeds_17 : decode cX3_seeds 17 = .ok (.ireturn, 1) := by decide +kernel
theorem dX3_seeds_18 : decode cX3_seeds 18 = .ok (.iconst 0, 1) := by decide +kernel
theorem dX3_seeds_19 : decode cX3_seeds 19 = .ok (.istore 4, 2) := by decide +kernel
theorem dX3_seeds_21 : decode cX3_seeds 21 = .ok (.iload_n 2, 1) := by decide +kernel
theorem dX3_seeds_22 : decode cX3_seeds 22 = .ok (.istore 5, 2) := by decide +kernel
theorem dX3_seeds_24 : decode cX3_seeds 24 = .ok (.iconst 0, 1) := by decide +kernel
theorem dX3_seeds_25 : decode cX3_seeds 25 = .ok (.istore 6, 2) := by decide +kernel
theorem dX3_seeds_27 : decode cX3_seeds 27 = .ok (.iload 6, 2) := by decide +kernel
theorem dX3_seeds_29 : decode cX3_seeds 29 = .ok (.iload_n 1, 1) := by decide +kernel
theorem dX3_seeds_30 : decode cX3_seeds 30 = .ok (.if_icmp .ge 61, 3) := by decide +kernel
theorem dX3_seeds_33 : decode cX3_seeds 33 = .ok (.iload 5, 2) := by decide +kernel
theorem dX3_seeds_35 : decode cX3_seeds 35 = .ok (.invokestatic 152, 3) := by decide +kernel
theorem dX3_seeds_38 : decode cX3_seeds 38 = .ok (.istore 5, 2) := by decide +kernel
theorem dX3_seeds_40 : decode cX3_seeds 40 = .ok (.iload 5, 2) := by decide +kernel
theorem dX3_seeds_42 : decode cX3_seeds 42 = .ok (.invokestatic 155, 3) := by decide +kernel
theorem dX3_seeds_45 : decode cX3_seeds 45 = .ok (.bipush 10, 2) := by decide +kernel
theorem dX3_seeds_47 : decode cX3_seeds 47 = .ok (.irem, 1) := by decide +kernel
theorem dX3_seeds_48 : decode cX3_seeds 48 = .ok (.istore 7, 2) := by decide +kernel
theorem dX3_seeds_50 : decode cX3_seeds 50 = .ok (.iload 5, 2) := by decide +kernel
theorem dX3_seeds_52 : decode cX3_seeds 52 = .ok (.invokestatic 152, 3) := by decide +kernel
theorem dX3_seeds_55 : decode cX3_seeds 55 = .ok (.istore 5, 2) := by decide +kernel
theorem dX3_seeds_57 : decode cX3_seeds 57 = .ok (.iload 5, 2) := by decide +kernel
theorem dX3_seeds_59 : decode cX3_seeds 59 = .ok (.invokestatic 155, 3) := by decide +kernel
theorem dX3_seeds_62 : decode cX3_seeds 62 = .ok (.bipush 9, 2) := by decide +kernel
theorem dX3_seeds_64 : decode cX3_seeds 64 = .ok (.irem, 1) := by decide +kernel
theorem dX3_seeds_65 : decode cX3_seeds 65 = .ok (.iconst 1, 1) := by decide +kernel
theorem dX3_seeds_66 : decode cX3_seeds 66 = .ok (.iadd, 1) := by decide +kernel
theorem dX3_seeds_67 : decode cX3_seeds 67 = .ok (.istore 8, 2) := by decide +kernel
theorem dX3_seeds_69 : decode cX3_seeds 69 = .ok (.aload_n 0, 1) := by decide +kernel
theorem dX3_seeds_70 : decode cX3_seeds 70 = .ok (.iload 8, 2) := by decide +kernel
theorem dX3_seeds_72 : decode cX3_seeds 72 = .ok (.iload 7, 2) := by decide +kernel
theorem dX3_seeds_74 : decode cX3_seeds 74 = .ok (.iconst 0, 1) := by decide +kernel
theorem dX3_seeds_75 : decode cX3_seeds 75 = .ok (.iconst 0, 1) := by decide +kernel
theorem dX3_seeds_76 : decode cX3_seeds 76 = .ok (.invokevirtual 127, 3) := by decide +kernel
theorem dX3_seeds_79 : decode cX3_seeds 79 = .ok (.ifCond .eq 6, 3) := by decide +kernel
theorem dX3_seeds_82 : decode cX3_seeds 82 = .ok (.iinc 4 1, 3) := by decide +kernel
theorem dX3_seeds_85 : decode cX3_seeds 85 = .ok (.iinc 6 1, 3) := by decide +kernel
theorem dX3_seeds_88 : decode cX3_seeds 88 = .ok (.goto (-61), 3) := by decide +kernel
theorem dX3_seeds_91 : decode cX3_seeds 91 = .ok (.iload 4, 2) := by decide +kernel
theorem dX3_seeds_93 : decode cX3_seeds 93 = .ok (.ireturn, 1) := by decide +kernel
set_option maxRecDepth 20000 in
theorem ggX3_seeds_X3_outOf : GoodIn wsX3_seeds wsX3_outOf := goodIn_r _ [4] (by decide +kernel) (by decide +kernel)
set_option maxRecDepth 20000 in
theorem gX3_seeds_X3_outOf : GoodIn wsX3_seeds (va_wsS RX3 45 yX3_outOf wsX3_outOf) := goodIn_app (goodIn_of _ (by decide +kernel)) ggX3_seeds_X3_outOf
set_option maxRecDepth 20000 in
theorem ggX3_seeds_X3_refuse : GoodIn wsX3_seeds wsX3_refuse := goodIn_r _ [8, 9, 115, 116, 117, 118, 119, 120, 121, 122, 123] (by decide +kernel) (by decide +kernel)
set_option maxRecDepth 20000 in
theorem gX3_seeds_X3_refuse : GoodIn wsX3_seeds (wsV RX3 53 RX3 yX3_refuse wsX3_refuse) := goodIn_app (goodIn_of _ (by decide +kernel)) ggX3_seeds_X3_refuse
set_option maxRecDepth 20000 in
theorem ggX3_seeds_X3_seedBehind : GoodIn wsX3_seeds wsX3_seedBehind := goodIn_r _ [12, 13, 14] (by decide +kernel) (by decide +kernel)
set_option maxRecDepth 20000 in
theorem gX3_seeds_X3_seedBehind : GoodIn wsX3_seeds (va_wsS RX3 152 yX3_seedBehind wsX3_seedBehind) := goodIn_app (goodIn_of _ (by decide +kernel)) ggX3_seeds_X3_seedBehind
set_option maxRecDepth 20000 in
theorem ggX3_seeds_X3_drawOf : GoodIn wsX3_seeds wsX3_drawOf := goodIn_r _ [17, 18] (by decide +kernel) (by decide +kernel)
set_option maxRecDepth 20000 in
theorem gX3_seeds_X3_drawOf : GoodIn wsX3_seeds (va_wsS RX3 155 yX3_drawOf wsX3_drawOf) := goodIn_app (goodIn_of _ (by decide +kernel)) ggX3_seeds_X3_drawOf
set_option maxRecDepth 20000 in
theorem ggX3_seeds_X3_comesOver : GoodIn wsX3_seeds wsX3_comesOver := goodIn_r _ [22, 23, 24, 25, 26, 27, 28, 29, 30, 31, 32, 33, 34, 35, 36, 37, 3, 38, 39, 40, 41, 42, 43, 44, 45, 46, 47, 48, 49, 50, 51, 52, 53, 54, 55, 56, 57, 58, 59, 60, 61, 62, 63, 64, 65, 66, 67, 68, 69, 70, 71, 72, 73, 74, 75, 76, 77, 78, 79, 80, 81, 82, 83, 84, 85, 86, 87, 88, 89, 90, 91, 92, 93, 94, 95, 96, 97, 98, 99, 100, 101, 102, 103, 104, 105, 106, 107, 108, 109, 110, 111, 112, 113, 114, 115, 116, 117, 118, 119, 120, 121, 122, 123, 124, 125, 126, 127, 128, 129, 130, 131, 132, 133, 134, 135, 136, 137, 138, 139, 140] (by decide +kernel) (by decide +kernel)
set_option maxRecDepth 20000 in
theorem gX3_seeds_X3_comesOver : GoodIn wsX3_seeds (wsV RX3 127 RX3 yX3_comesOver wsX3_comesOver) := goodIn_app (goodIn_of _ (by decide +kernel)) ggX3_seeds_X3_comesOver
set_option maxHeartbeats 4000000 in
set_option maxRecDepth 100000 in
theorem mX3_seeds (l : Launch) (dC : Nat → ClassId) (dI : Nat → Nat → Nat) (cI cC : ClassId) (sk : (Nat → Nat) × (Nat → Nat)) (f : Nat → Nat) (sz : Nat) (p1 : Int32) (p2 : Int32) (c_lanes : AR) (c_spots : AR) (c_byLeaps : AR) (c_load : Int32) (c_gone : Int32) (c_held : Int32) (c_strong : Int32) (c_done : Int32) (c_rn : RT) (c_rt : RT) (c_letters : AR) (c_size : Int32) (c_rp : RT) (c_seen : AR) (c_refs : AR) (c_inRow : Int32) (c_isPic : Int32) (z : Int32 × AR × AR × Int32 × Int32 × Int32 × Int32 × AR) (h : fX3_seeds p1 p2 c_lanes c_spots c_load c_gone c_held c_strong c_rn c_refs = some z) : cRW l yX3_seeds wsX3_seeds (RMk 6 141) sk (dC, dI) (tyz cI cC) sz (zwX cI cC f c_lanes c_spots c_byLeaps c_load c_gone c_held c_strong c_done c_rn c_rt c_letters c_size c_rp c_seen c_refs c_inRow c_isPic) (zwX cI cC f z.2.1 z.2.2.1 c_byLeaps z.2.2.2.1 z.2.2.2.2.1 z.2.2.2.2.2.1 z.2.2.2.2.2.2.1 c_done c_rn c_rt c_letters c_size c_rp c_seen z.2.2.2.2.2.2.2 c_inRow c_isPic) [.ref (f 0), .int p1, .int p2] z.1 := by
  refine ofRW (cc := cX3_seeds) (maxL := 9) (ret := (some .int)) (own := RX3) (plainFor_of_name (by decide)) rfl rfl (Nat.le_of_ble_eq_true rfl) ?_
  intro p e s m args below meth c A hA hx hb hml hr hts hown hlocks hE hK hP hD hS ls hl
  generalize hQ : qRW _ _ _ _ _ _ _ = Q
  have hl : lv_has ls 9 [(0, .ref (f 0)), (1, .int p1), (2, .int p2)] := hl
  rw [fX3_seeds] at h
  refine lv_iload_n hx hb dX3_seeds_0 rfl (lv_at hl 1 rfl) ?_
  refine lv_iconst (v := (1 : Int32)) hx hb dX3_seeds_1 (by decide) ?_
  refine lv_bipush (v := (20 : Int32)) hx hb dX3_seeds_2 (by decide) ?_
  obtain ⟨q4, e4, h⟩ := bd_some h
  refine g_roS (wc := ([] : va_W)) ⟨hx, hb, hml, hown, hts⟩ hE hK hP hS [] rfl (mX3_outOf l dC dI cI cC sk  p1 (1 : Int32) (20 : Int32) q4 e4) (va_cwS 3 hts gX3_seeds_X3_outOf rfl rfl rfl (by decide +kernel) ⟨Nat.le_of_ble_eq_true rfl, Nat.le_of_ble_eq_true rfl⟩) (As := [.int p1, .int (1 : Int32), .int (20 : Int32)]) (rest := []) rfl hl.1 rfl (Nat.le_of_ble_eq_true rfl) dX3_seeds_4 ⟨Nat.zero_le _, Nat.zero_le _⟩ (fun H locs hP hS => ?_)
  refine lv_istore_n (lv' := [(3, .int q4), (0, .ref (f 0)), (1, .int p1), (2, .int p2)]) hx hb dX3_seeds_7 rfl hl (by decide) rfl (fun ls hl => ?_)
  refine lv_iload_n hx hb dX3_seeds_8 rfl (lv_at hl 0 rfl) ?_
  refine lv_if_eq (tgt := 18) hx hb dX3_seeds_9 (by decide) (fun c9 => ?_) (fun c9 => ?_)
  · have h := itT c9 h
    refine lv_iconst (v := (0 : Int32)) hx hb dX3_seeds_18 (by decide) ?_
    refine lv_istore (lv' := [(4, .int (0 : Int32)), (3, .int q4), (0, .ref (f 0)), (1, .int p1), (2, .int p2)]) hx hb dX3_seeds_19 hl (by decide) rfl (fun ls hl => ?_)
    refine lv_iload_n hx hb dX3_seeds_21 rfl (lv_at hl 4 rfl) ?_
    refine lv_istore (lv' := [(5, .int p2), (4, .int (0 : Int32)), (3, .int q4), (0, .ref (f 0)), (1, .int p1), (2, .int p2)]) hx hb dX3_seeds_22 hl (by decide) rfl (fun ls hl => ?_)
    refine lv_iconst (v := (0 : Int32)) hx hb dX3_seeds_24 (by decide) ?_
    refine lv_istore (lv' := [(6, .int (0 : Int32)), (5, .int p2), (4, .int (0 : Int32)), (3, .int q4), (0, .ref (f 0)), (1, .int p1), (2, .int p2)]) hx hb dX3_seeds_25 hl (by decide) rfl (fun ls hl => ?_)
    have L27 : ∀ (K27 : Int32 → AR → AR → Int32 → Int32 → Int32 → Int32 → Option (Int32 × AR × AR × Int32 × Int32 × Int32 × Int32 × AR)), (∀ (k27_4 : Int32) (k27_lanes : AR) (k27_spots : AR) (k27_load : Int32) (k27_gone : Int32) (k27_held : Int32) (k27_strong : Int32), K27 k27_4 k27_lanes k27_spots k27_load k27_gone k27_held k27_strong = some z → ∀ (H : Heap) (locs : List Loc) (ls : Array Slot), va_P (dC, dI) vwCl (zwX cI cC f k27_lanes k27_spots c_byLeaps k27_load k27_gone k27_held k27_strong c_done c_rn c_rt c_letters c_size c_rp c_seen c_refs c_inRow c_isPic) H → va_D A (zwX cI cC f k27_lanes k27_spots c_byLeaps k27_load k27_gone k27_held k27_strong c_done c_rn c_rt c_letters c_size c_rp c_seen c_refs c_inRow c_isPic) → va_S A s.heap H locs → lv_has ls 9 [(4, .int k27_4)] → W p l e (RMk 6 141) s m args below meth c H locs 0 0 Q (F0 m 91 ls [])) → ∀ (n : Nat) (x27_4 : Int32) (x27_5 : Int32) (x27_6 : Int32) (x27_lanes : AR) (x27_spots : AR) (x27_load : Int32) (x27_gone : Int32) (x27_held : Int32) (x27_strong : Int32), fX3_seeds_L27 c_rn p1 K27 n x27_4 x27_5 x27_6 x27_lanes x27_spots x27_load x27_gone x27_held x27_strong = some z → ∀ (H : Heap) (locs : List Loc) (ls : Array Slot), va_P (dC, dI) vwCl (zwX cI cC f x27_lanes x27_spots c_byLeaps x27_load x27_gone x27_held x27_strong c_done c_rn c_rt c_letters c_size c_rp c_seen c_refs c_inRow c_isPic) H → va_D A (zwX cI cC f x27_lanes x27_spots c_byLeaps x27_load x27_gone x27_held x27_strong c_done c_rn c_rt c_letters c_size c_rp c_seen c_refs c_inRow c_isPic) → va_S A s.heap H locs → lv_has ls 9 [(0, .ref (f 0)), (1, .int p1), (4, .int x27_4), (5, .int x27_5), (6, .int x27_6)] → W p l e (RMk 6 141) s m args below meth c H locs 0 0 Q (F0 m 27 ls []) := by
      intro K27 kx27 n
      induction n with
      | zero => intro x27_4 x27_5 x27_6 x27_lanes x27_spots x27_load x27_gone x27_held x27_strong h; rw [fX3_seeds_L27] at h; cases h
      | succ n ih27 =>
        intro x27_4 x27_5 x27_6 x27_lanes x27_spots x27_load x27_gone x27_held x27_strong h H locs ls hP hD hS hl
        rw [fX3_seeds_L27] at h
        refine lv_iload hx hb dX3_seeds_27 (lv_at hl 4 rfl) ?_
        refine lv_iload_n hx hb dX3_seeds_29 rfl (lv_at hl 1 rfl) ?_
        refine lv_icmp_ge (tgt := 91) hx hb dX3_seeds_30 (by decide) (fun c30 => ?_) (fun c30 => ?_)
        · have h := itT c30 h
          exact kx27 _ _ _ _ _ _ _ h _ _ _ hP hD hS (lv_sub hl [2] rfl)
        have h := itF c30 h
        refine lv_iload hx hb dX3_seeds_33 (lv_at hl 3 rfl) ?_
        obtain ⟨q35, e35, h⟩ := bd_some h
        refine g_roS (wc := ([] : va_W)) ⟨hx, hb, hml, hown, hts⟩ hE hK hP hS [] rfl (mX3_seedBehind l dC dI cI cC sk  x27_5 q35 e35) (va_cwS 1 hts gX3_seeds_X3_seedBehind rfl rfl rfl (by decide +kernel) ⟨Nat.le_of_ble_eq_true rfl, Nat.le_of_ble_eq_true rfl⟩) (As := [.int x27_5]) (rest := []) rfl hl.1 rfl (Nat.le_of_ble_eq_true rfl) dX3_seeds_35 ⟨Nat.zero_le _, Nat.zero_le _⟩ (fun H locs hP hS => ?_)
        refine lv_istore (lv' := [(5, .int q35), (0, .ref (f 0)), (1, .int p1), (4, .int x27_4), (6, .int x27_6)]) hx hb dX3_seeds_38 hl (by decide) rfl (fun ls hl => ?_)
        refine lv_iload hx hb dX3_seeds_40 (lv_at hl 0 rfl) ?_
        obtain ⟨q42, e42, h⟩ := bd_some h
        refine g_roS (wc := ([] : va_W)) ⟨hx, hb, hml, hown, hts⟩ hE hK hP hS [] rfl (mX3_drawOf l dC dI cI cC sk  q35 q42 e42) (va_cwS 1 hts gX3_seeds_X3_drawOf rfl rfl rfl (by decide +kernel) ⟨Nat.le_of_ble_eq_true rfl, Nat.le_of_ble_eq_true rfl⟩) (As := [.int q35]) (rest := []) rfl hl.1 rfl (Nat.le_of_ble_eq_true rfl) dX3_seeds_42 ⟨Nat.zero_le _, Nat.zero_le _⟩ (fun H locs hP hS => ?_)
        refine lv_bipush (v := (10 : Int32)) hx hb dX3_seeds_45 (by decide) ?_
        refine lv_irem hx hb dX3_seeds_47 (by decide) ?_
        refine lv_istore (lv' := [(7, .int (q42 - q42 / (10 : Int32) * (10 : Int32))), (5, .int q35), (0, .ref (f 0)), (1, .int p1), (4, .int x27_4), (6, .int x27_6)]) hx hb dX3_seeds_48 hl (by decide) rfl (fun ls hl => ?_)
        refine lv_iload hx hb dX3_seeds_50 (lv_at hl 1 rfl) ?_
        obtain ⟨q52, e52, h⟩ := bd_some h
        refine g_roS (wc := ([] : va_W)) ⟨hx, hb, hml, hown, hts⟩ hE hK hP hS [] rfl (mX3_seedBehind l dC dI cI cC sk  q35 q52 e52) (va_cwS 1 hts gX3_seeds_X3_seedBehind rfl rfl rfl (by decide +kernel) ⟨Nat.le_of_ble_eq_true rfl, Nat.le_of_ble_eq_true rfl⟩) (As := [.int q35]) (rest := []) rfl hl.1 rfl (Nat.le_of_ble_eq_true rfl) dX3_seeds_52 ⟨Nat.zero_le _, Nat.zero_le _⟩ (fun H locs hP hS => ?_)
        refine lv_istore (lv' := [(5, .int q52), (7, .int (q42 - q42 / (10 : Int32) * (10 : Int32))), (0, .ref (f 0)), (1, .int p1), (4, .int x27_4), (6, .int x27_6)]) hx hb dX3_seeds_55 hl (by decide) rfl (fun ls hl => ?_)
        refine lv_iload hx hb dX3_seeds_57 (lv_at hl 0 rfl) ?_
        obtain ⟨q59, e59, h⟩ := bd_some h
        refine g_roS (wc := ([] : va_W)) ⟨hx, hb, hml, hown, hts⟩ hE hK hP hS [] rfl (mX3_drawOf l dC dI cI cC sk  q52 q59 e59) (va_cwS 1 hts gX3_seeds_X3_drawOf rfl rfl rfl (by decide +kernel) ⟨Nat.le_of_ble_eq_true rfl, Nat.le_of_ble_eq_true rfl⟩) (As := [.int q52]) (rest := []) rfl hl.1 rfl (Nat.le_of_ble_eq_true rfl) dX3_seeds_59 ⟨Nat.zero_le _, Nat.zero_le _⟩ (fun H locs hP hS => ?_)
        refine lv_bipush (v := (9 : Int32)) hx hb dX3_seeds_62 (by decide) ?_
        refine lv_irem hx hb dX3_seeds_64 (by decide) ?_
        refine lv_iconst (v := (1 : Int32)) hx hb dX3_seeds_65 (by decide) ?_
        refine lv_iadd hx hb dX3_seeds_66 ?_
        refine lv_istore (lv' := [(8, .int ((q59 - q59 / (9 : Int32) * (9 : Int32)) + (1 : Int32))), (5, .int q52), (7, .int (q42 - q42 / (10 : Int32) * (10 : Int32))), (0, .ref (f 0)), (1, .int p1), (4, .int x27_4), (6, .int x27_6)]) hx hb dX3_seeds_67 hl (by decide) rfl (fun ls hl => ?_)
        refine lv_aload_n hx hb dX3_seeds_69 rfl (lv_at hl 3 rfl) ?_
        refine lv_iload hx hb dX3_seeds_70 (lv_at hl 0 rfl) ?_
        refine lv_iload hx hb dX3_seeds_72 (lv_at hl 2 rfl) ?_
        refine lv_iconst (v := (0 : Int32)) hx hb dX3_seeds_74 (by decide) ?_
        refine lv_iconst (v := (0 : Int32)) hx hb dX3_seeds_75 (by decide) ?_
        obtain ⟨q76, e76, h⟩ := bd_some h
        refine g_rwV (wc := (zwX cI cC f x27_lanes x27_spots c_byLeaps x27_load x27_gone x27_held x27_strong c_done c_rn c_rt c_letters c_size c_rp c_seen c_refs c_inRow c_isPic)) (wc' := (zwX cI cC f q76.2.1 q76.2.2.1 c_byLeaps q76.2.2.2.1 q76.2.2.2.2.1 q76.2.2.2.2.2.1 q76.2.2.2.2.2.2 c_done c_rn c_rt c_letters c_size c_rp c_seen c_refs c_inRow c_isPic)) ⟨hx, hb, hml, hown, hts⟩ hE hK hA hP hD hS [0, 1, 2, 3, 4, 5, 6, 7, 8, 9, 10, 11, 12, 13, 14, 15, 16, 17, 18, 19, 20, 21, 22, 23, 24, 25, 26] rfl rfl rfl (mX3_comesOver l dC dI cI cC sk f H.size ((q59 - q59 / (9 : Int32) * (9 : Int32)) + (1 : Int32)) (q42 - q42 / (10 : Int32) * (10 : Int32)) (0 : Int32) (0 : Int32) x27_lanes x27_spots c_byLeaps x27_load x27_gone x27_held x27_strong c_done c_rn c_rt c_letters c_size c_rp c_seen c_refs c_inRow c_isPic q76 e76) (cwV 4 hts gX3_seeds_X3_comesOver rfl rfl rfl (by decide +kernel) ⟨Nat.le_of_ble_eq_true rfl, Nat.le_of_ble_eq_true rfl⟩) (va_recv hK hP (ci := 3) (q0 := 0) rfl rfl) (As := [.int ((q59 - q59 / (9 : Int32) * (9 : Int32)) + (1 : Int32)), .int (q42 - q42 / (10 : Int32) * (10 : Int32)), .int (0 : Int32), .int (0 : Int32)]) (rest := []) rfl hl.1 rfl (Nat.le_of_ble_eq_true rfl) dX3_seeds_76 ⟨Nat.zero_le _, Nat.zero_le _⟩ (fun H locs hP hD hS => ?_)
        have hP : va_P (dC, dI) vwCl (zwX cI cC f q76.2.1 q76.2.2.1 c_byLeaps q76.2.2.2.1 q76.2.2.2.2.1 q76.2.2.2.2.2.1 q76.2.2.2.2.2.2 c_done c_rn c_rt c_letters c_size c_rp c_seen c_refs c_inRow c_isPic) H := hP
        have hD : va_D A (zwX cI cC f q76.2.1 q76.2.2.1 c_byLeaps q76.2.2.2.1 q76.2.2.2.2.1 q76.2.2.2.2.2.1 q76.2.2.2.2.2.2 c_done c_rn c_rt c_letters c_size c_rp c_seen c_refs c_inRow c_isPic) := hD
        refine lv_if_eq (tgt := 85) hx hb dX3_seeds_79 (by decide) (fun c79 => ?_) (fun c79 => ?_)
        · have h := itT c79 h
          refine lv_iinc (v := (x27_6 + (1 : Int32))) (lv' := [(6, .int (x27_6 + (1 : Int32))), (8, .int ((q59 - q59 / (9 : Int32) * (9 : Int32)) + (1 : Int32))), (5, .int q52), (7, .int (q42 - q42 / (10 : Int32) * (10 : Int32))), (0, .ref (f 0)), (1, .int p1), (4, .int x27_4)]) hx hb dX3_seeds_85 hl (k := 6) rfl rfl (by decide) rfl (fun ls hl => ?_)
          refine lv_goto (tgt := 27) hx hb dX3_seeds_88 (by decide) ?_
          exact ih27 _ _ _ _ _ _ _ _ _ h _ _ _ hP hD hS (lv_sub hl [4, 5, 6, 2, 0] rfl)
        have h := itF c79 h
        refine lv_iinc (v := (x27_4 + (1 : Int32))) (lv' := [(4, .int (x27_4 + (1 : Int32))), (8, .int ((q59 - q59 / (9 : Int32) * (9 : Int32)) + (1 : Int32))), (5, .int q52), (7, .int (q42 - q42 / (10 : Int32) * (10 : Int32))), (0, .ref (f 0)), (1, .int p1), (6, .int x27_6)]) hx hb dX3_seeds_82 hl (k := 5) rfl rfl (by decide) rfl (fun ls hl => ?_)
        refine lv_iinc (v := (x27_6 + (1 : Int32))) (lv' := [(6, .int (x27_6 + (1 : Int32))), (4, .int (x27_4 + (1 : Int32))), (8, .int ((q59 - q59 / (9 : Int32) * (9 : Int32)) + (1 : Int32))), (5, .int q52), (7, .int (q42 - q42 / (10 : Int32) * (10 : Int32))), (0, .ref (f 0)), (1, .int p1)]) hx hb dX3_seeds_85 hl (k := 6) rfl rfl (by decide) rfl (fun ls hl => ?_)
        refine lv_goto (tgt := 27) hx hb dX3_seeds_88 (by decide) ?_
        exact ih27 _ _ _ _ _ _ _ _ _ h _ _ _ hP hD hS (lv_sub hl [5, 6, 1, 3, 0] rfl)
    refine L27 _ (fun k27_4 k27_lanes k27_spots k27_load k27_gone k27_held k27_strong h H locs ls hP hD hS hl => ?_) _ _ _ _ _ _ _ _ _ _ h _ _ _ hP hD hS (lv_sub hl [4, 5, 2, 1, 0] rfl)
    refine lv_iload hx hb dX3_seeds_91 (lv_at hl 0 rfl) ?_
    subst hQ
    exact retRW (zz := ((k27_4, k27_lanes, k27_spots, k27_load, k27_gone, k27_held, k27_strong, c_refs) : Int32 × AR × AR × Int32 × Int32 × Int32 × Int32 × AR)) (fun z => z.1) (fun z => (zwX cI cC f z.2.1 z.2.2.1 c_byLeaps z.2.2.2.1 z.2.2.2.2.1 z.2.2.2.2.2.1 z.2.2.2.2.2.2.1 c_done c_rn c_rt c_letters c_size c_rp c_seen z.2.2.2.2.2.2.2 c_inRow c_isPic)) hx hb hr hlocks rfl hS h rfl hP dX3_seeds_93
  have h := itF c9 h
  refine lv_aload_n hx hb dX3_seeds_12 rfl (lv_at hl 1 rfl) ?_
  refine lv_iload_n hx hb dX3_seeds_13 rfl (lv_at hl 0 rfl) ?_
  obtain ⟨q14, e14, h⟩ := bd_some h
  refine g_rwV (wc := (zwX cI cC f c_lanes c_spots c_byLeaps c_load c_gone c_held c_strong c_done c_rn c_rt c_letters c_size c_rp c_seen c_refs c_inRow c_isPic)) (wc' := (zwX cI cC f c_lanes c_spots c_byLeaps c_load c_gone c_held c_strong c_done c_rn c_rt c_letters c_size c_rp c_seen q14.2 c_inRow c_isPic)) ⟨hx, hb, hml, hown, hts⟩ hE hK hA hP hD hS [0, 1, 2, 3, 4, 5, 6, 7, 8, 9, 10, 11, 12, 13, 14, 15, 16, 17, 18, 19, 20, 21, 22, 23, 24, 25, 26] rfl rfl rfl (mX3_refuse l dC dI cI cC sk f H.size q4 c_lanes c_spots c_byLeaps c_load c_gone c_held c_strong c_done c_rn c_rt c_letters c_size c_rp c_seen c_refs c_inRow c_isPic q14 e14) (cwV 1 hts gX3_seeds_X3_refuse rfl rfl rfl (by decide +kernel) ⟨Nat.le_of_ble_eq_true rfl, Nat.le_of_ble_eq_true rfl⟩) (va_recv hK hP (ci := 3) (q0 := 0) rfl rfl) (As := [.int q4]) (rest := []) rfl hl.1 rfl (Nat.le_of_ble_eq_true rfl) dX3_seeds_14 ⟨Nat.zero_le _, Nat.zero_le _⟩ (fun H locs hP hD hS => ?_)
  have hP : va_P (dC, dI) vwCl (zwX cI cC f c_lanes c_spots c_byLeaps c_load c_gone c_held c_strong c_done c_rn c_rt c_letters c_size c_rp c_seen q14.2 c_inRow c_isPic) H := hP
  have hD : va_D A (zwX cI cC f c_lanes c_spots c_byLeaps c_load c_gone c_held c_strong c_done c_rn c_rt c_letters c_size c_rp c_seen q14.2 c_inRow c_isPic) := hD
  subst hQ
  exact retRW (zz := ((q14.1, c_lanes, c_spots, c_load, c_gone, c_held, c_strong, q14.2) : Int32 × AR × AR × Int32 × Int32 × Int32 × Int32 × AR)) (fun z => z.1) (fun z => (zwX cI cC f z.2.1 z.2.2.1 c_byLeaps z.2.2.2.1 z.2.2.2.2.1 z.2.2.2.2.2.1 z.2.2.2.2.2.2.1 c_done c_rn c_rt c_letters c_size c_rp c_seen z.2.2.2.2.2.2.2 c_inRow c_isPic)) hx hb hr hlocks rfl hS h rfl hP dX3_seeds_17
theorem dX3_image_0 : decode cX3_image 0 = .ok (.aload_n 0, 1) := by decide +kernel
theorem dX3_image_1 : decode cX3_image 1 = .ok (.getfield 19, 3) := by decide +kernel
theorem dX3_image_4 : decode cX3_image 4 = .ok (.aload_n 0, 1) := by decide +kernel
theorem dX3_image_5 : decode cX3_image 5 = .ok (.getfield 12, 3) := by decide +kernel
theorem dX3_image_8 : decode cX3_image 8 = .ok (.invokevirtual 60, 3) := by decide +kernel
theorem dX3_image_11 : decode cX3_image 11 = .ok (.aload_n 0, 1) := by decide +kernel
theorem dX3_image_12 : decode cX3_image 12 = .ok (.iconst 1, 1) := by decide +kernel
theorem dX3_image_13 : decode cX3_image 13 = .ok (.putfield 158, 3) := by decide +kernel
theorem dX3_image_16 : decode cX3_image 16 = .ok (.aload_n 0, 1) := by decide +kernel
theorem dX3_image_17 : decode cX3_image 17 = .ok (.getfield 12, 3) := by decide +kernel
theorem dX3_image_20 : decode cX3_image 20 = .ok (.getfield 84, 3) := by decide +kernel
theorem dX3_image_23 : decode cX3_image 23 = .ok (.ireturn, 1) := by decide +kernel
set_option maxRecDepth 20000 in
theorem ggX3_image_X0_become : GoodIn wsX3_image wsX0_become := goodIn_r _ [8, 9, 10, 11, 12, 13, 14, 15, 16, 26, 27, 28, 29, 30, 31, 32, 33] (by decide +kernel) (by decide +kernel)
set_option maxRecDepth 20000 in
theorem gX3_image_X0_become : GoodIn wsX3_image (wsV RX3 60 RX0 yX0_become wsX0_become) := goodIn_app (goodIn_of _ (by decide +kernel)) ggX3_image_X0_become
set_option maxHeartbeats 4000000 in
set_option maxRecDepth 100000 in
theorem mX3_image (l : Launch) (dC : Nat → ClassId) (dI : Nat → Nat → Nat) (cI cC : ClassId) (sk : (Nat → Nat) × (Nat → Nat)) (f : Nat → Nat) (sz : Nat)  (c_lanes : AR) (c_spots : AR) (c_byLeaps : AR) (c_load : Int32) (c_gone : Int32) (c_held : Int32) (c_strong : Int32) (c_done : Int32) (c_rn : RT) (c_rt : RT) (c_letters : AR) (c_size : Int32) (c_rp : RT) (c_seen : AR) (c_refs : AR) (c_inRow : Int32) (c_isPic : Int32) (z : Int32 × RT × Int32) (h : fX3_image c_rn c_rp = some z) : cRW l yX3_image wsX3_image (RMk 1 22) sk (dC, dI) (tyz cI cC) sz (zwX cI cC f c_lanes c_spots c_byLeaps c_load c_gone c_held c_strong c_done c_rn c_rt c_letters c_size c_rp c_seen c_refs c_inRow c_isPic) (zwX cI cC f c_lanes c_spots c_byLeaps c_load c_gone c_held c_strong c_done c_rn c_rt c_letters c_size z.2.1 c_seen c_refs c_inRow z.2.2) [.ref (f 0)] z.1 := by
  refine ofRW (cc := cX3_image) (maxL := 1) (ret := (some .int)) (own := RX3) (plainFor_of_name (by decide)) rfl rfl (Nat.le_of_ble_eq_true rfl) ?_
  intro p e s m args below meth c A hA hx hb hml hr hts hown hlocks hE hK hP hD hS ls hl
  generalize hQ : qRW _ _ _ _ _ _ _ = Q
  have hl : lv_has ls 1 [(0, .ref (f 0))] := hl
  have hiX0 : ∀ w ∈ wsX00, w ∈ wsX3_image := fun w h => List.mem_cons_of_mem _ (List.mem_append_right _ h)
  have hiX3 : ∀ w ∈ wsX30, w ∈ wsX3_image := fun w h => List.mem_cons_of_mem _ (List.mem_append_left _ (List.mem_append_right _ h))
  have hw1 := hts (Cond.fieldLink RX3 19 "FloeToFloe" "pictured" "LFloeToFloe$River;") (List.mem_of_getElem? (i := 1) rfl)
  have hw2 := hts (Cond.fieldLink RX3 12 "FloeToFloe" "now" "LFloeToFloe$River;") (List.mem_of_getElem? (i := 2) rfl)
  have hw3 := hts (Cond.fieldLink RX3 158 "FloeToFloe" "isPictured" "Z") (List.mem_of_getElem? (i := 3) rfl)
  have hnw4 : (Cond.fieldLinkNest "FloeToFloe" 84 "FloeToFloe$River" "minute" "I" "FloeToFloe").before args s = true := va_Nw.use rfl (hE.1 4 _ rfl)
  rw [fX3_image] at h
  refine lv_aload_n hx hb dX3_image_0 rfl (lv_at hl 0 rfl) ?_
  refine va_get (D := (dC, dI)) (ci := 3) (v := .ref (f 19)) (C := RX3) (T := TX3) (N := 9) hx hb hts hiX3 hown hK hP 0 rfl rfl 2 (by decide) hw1 (fun _ h9 => h9) rfl dX3_image_1 ?_
  refine lv_aload_n hx hb dX3_image_4 rfl (lv_at hl 0 rfl) ?_
  refine va_get (D := (dC, dI)) (ci := 3) (v := .ref (f 5)) (C := RX3) (T := TX3) (N := 9) hx hb hts hiX3 hown hK hP 0 rfl rfl 0 (by decide) hw2 (fun _ h9 => h9) rfl dX3_image_5 ?_
  obtain ⟨q8, e8, h⟩ := bd_some h
  refine g_rvV (wc := (zwRR cI cC (fun k => f (k + 19)) (fun k => f (k + 5)) c_rp c_rn)) (wc' := (zwRR cI cC (fun k => f (k + 19)) (fun k => f (k + 5)) q8 c_rn)) ⟨hx, hb, hml, hown, hts⟩ hE hK hA hP hD hS [19, 20, 21, 22, 23, 24, 5, 6, 7, 8, 9, 10] rfl rfl rfl (mX0_become l dC dI cI cC sk (fun k => f (k + 19)) (fun k => f (k + 5)) H.size c_rp c_rn q8 e8) (cwV 1 hts gX3_image_X0_become rfl rfl rfl (by decide +kernel) ⟨Nat.le_of_ble_eq_true rfl, Nat.le_of_ble_eq_true rfl⟩) (va_recv hK hP (ci := 0) (q0 := 19) rfl rfl) (As := [.ref (f 5)]) (rest := []) rfl hl.1 rfl (Nat.le_of_ble_eq_true rfl) dX3_image_8 ⟨Nat.zero_le _, Nat.zero_le _⟩ (fun H locs hP hD hS => ?_)
  have hP : va_P (dC, dI) vwCl (zwX cI cC f c_lanes c_spots c_byLeaps c_load c_gone c_held c_strong c_done c_rn c_rt c_letters c_size q8 c_seen c_refs c_inRow c_isPic) H := hP
  have hD : va_D A (zwX cI cC f c_lanes c_spots c_byLeaps c_load c_gone c_held c_strong c_done c_rn c_rt c_letters c_size q8 c_seen c_refs c_inRow c_isPic) := hD
  refine lv_aload_n hx hb dX3_image_11 rfl (lv_at hl 0 rfl) ?_
  refine lv_iconst (v := (1 : Int32)) hx hb dX3_image_12 (by decide) ?_
  refine va_put (D := (dC, dI)) (ci := 3) (v := .int (1 : Int32)) (ty := .boolean) (C := RX3) (T := TX3) (N := 9) hx hb hts hiX3 tyX3 tyX3_ok nmX3 hown hK hP hD hS 0 rfl rfl 8 (by decide) hw3 (fun _ h9 => h9) rfl (by decide +kernel) rfl rfl (Nat.le_of_ble_eq_true rfl) dX3_image_13 (fun H locs hP hD hS => ?_)
  have hP : va_P (dC, dI) vwCl (zwX cI cC f c_lanes c_spots c_byLeaps c_load c_gone c_held c_strong c_done c_rn c_rt c_letters c_size q8 c_seen c_refs c_inRow (1 : Int32)) H := hP
  have hD : va_D A (zwX cI cC f c_lanes c_spots c_byLeaps c_load c_gone c_held c_strong c_done c_rn c_rt c_letters c_size q8 c_seen c_refs c_inRow (1 : Int32)) := hD
  refine lv_aload_n hx hb dX3_image_16 rfl (lv_at hl 0 rfl) ?_
  refine va_get (D := (dC, dI)) (ci := 3) (v := .ref (f 5)) (C := RX3) (T := TX3) (N := 9) hx hb hts hiX3 hown hK hP 0 rfl rfl 0 (by decide) hw2 (fun _ h9 => h9) rfl dX3_image_17 ?_
  refine va_getN (D := (dC, dI)) (ci := 0) (v := .int (R_minute c_rn)) (C := RX0) (T := TX0) (N := 8) hx hb hts hiX0 hown hK hP 5 rfl rfl 7 (by decide) hnw4 (fun _ h9 => h9) rfl dX3_image_20 ?_
  subst hQ
  exact retRW (zz := (((R_minute c_rn), q8, (1 : Int32)) : Int32 × RT × Int32)) (fun z => z.1) (fun z => (zwX cI cC f c_lanes c_spots c_byLeaps c_load c_gone c_held c_strong c_done c_rn c_rt c_letters c_size z.2.1 c_seen c_refs c_inRow z.2.2)) hx hb hr hlocks rfl hS h rfl hP dX3_image_23
theorem dX3_on_0 : decode cX3_on 0 = .ok (.aload_n 0, 1) := by decide +kernel
theorem dX3_on_1 : decode cX3_on 1 = .ok (.getfield 158, 3) := by decide +kernel
theorem dX3_on_4 : decode cX3_on 4 = .ok (.ifCond .ne 10, 3) := by decide +kernel
theorem dX3_on_7 : decode cX3_on 7 = .ok (.aload_n 0, 1) := by decide +kernel
theorem dX3_on_8 : decode cX3_on 8 = .ok (.bipush (-3), 2) := by decide +kernel
theorem dX3_on_10 : decode cX3_on 10 = .ok (.invokevirtual 53, 3) := by decide +kernel
theorem dX3_on_13 : decode cX3_on 13 = .ok (.ireturn, 1) := by decide +kernel
theorem dX3_on_14 : decode cX3_on 14 = .ok (.aload_n 0, 1) := by decide +kernel
theorem dX3_on_15 : decode cX3_on 15 = .ok (.getfield 12, 3) := by decide +kernel
theorem dX3_on_18 : decode cX3_on 18 = .ok (.aload_n 0, 1) := by decide +kernel
theorem dX3_on_19 : decode cX3_on 19 = .ok (.getfield 19, 3) := by decide +kernel
theorem dX3_on_22 : decode cX3_on 22 = .ok (.invokevirtual 60, 3) := by decide +kernel
theorem dX3_on_25 : decode cX3_on 25 = .ok (.aload_n 0, 1) := by decide +kernel
theorem dX3_on_26 : decode cX3_on 26 = .ok (.getfield 12, 3) := by decide +kernel
theorem dX3_on_29 : decode cX3_on 29 = .ok (.getfield 84, 3) := by decide +kernel
theorem dX3_on_32 : decode cX3_on 32 = .ok (.ireturn, 1) := by decide +kernel
set_option maxRecDepth 20000 in
theorem ggX3_on_X3_refuse : GoodIn wsX3_on wsX3_refuse := goodIn_r _ [8, 9, 23, 24, 25, 26, 27, 28, 29, 30, 31] (by decide +kernel) (by decide +kernel)
set_option maxRecDepth 20000 in
theorem gX3_on_X3_refuse : GoodIn wsX3_on (wsV RX3 53 RX3 yX3_refuse wsX3_refuse) := goodIn_app (goodIn_of _ (by decide +kernel)) ggX3_on_X3_refuse
set_option maxRecDepth 20000 in
theorem ggX3_on_X0_become : GoodIn wsX3_on wsX0_become := goodIn_r _ [14, 15, 16, 17, 18, 19, 20, 21, 22, 32, 33, 34, 35, 36, 37, 38, 39] (by decide +kernel) (by decide +kernel)
set_option maxRecDepth 20000 in
theorem gX3_on_X0_become : GoodIn wsX3_on (wsV RX3 60 RX0 yX0_become wsX0_become) := goodIn_app (goodIn_of _ (by decide +kernel)) ggX3_on_X0_become
set_option maxHeartbeats 4000000 in
set_option maxRecDepth 100000 in
theorem mX3_on (l : Launch) (dC : Nat → ClassId) (dI : Nat → Nat → Nat) (cI cC : ClassId) (sk : (Nat → Nat) × (Nat → Nat)) (f : Nat → Nat) (sz : Nat)  (c_lanes : AR) (c_spots : AR) (c_byLeaps : AR) (c_load : Int32) (c_gone : Int32) (c_held : Int32) (c_strong : Int32) (c_done : Int32) (c_rn : RT) (c_rt : RT) (c_letters : AR) (c_size : Int32) (c_rp : RT) (c_seen : AR) (c_refs : AR) (c_inRow : Int32) (c_isPic : Int32) (z : Int32 × RT × AR) (h : fX3_on c_rn c_rp c_refs c_isPic = some z) : cRW l yX3_on wsX3_on (RMk 1 22) sk (dC, dI) (tyz cI cC) sz (zwX cI cC f c_lanes c_spots c_byLeaps c_load c_gone c_held c_strong c_done c_rn c_rt c_letters c_size c_rp c_seen c_refs c_inRow c_isPic) (zwX cI cC f c_lanes c_spots c_byLeaps c_load c_gone c_held c_strong c_done z.2.1 c_rt c_letters c_size c_rp c_seen z.2.2 c_inRow c_isPic) [.ref (f 0)] z.1 := by
  refine ofRW (cc := cX3_on) (maxL := 1) (ret := (some .int)) (own := RX3) (plainFor_of_name (by decide)) rfl rfl (Nat.le_of_ble_eq_true rfl) ?_
  intro p e s m args below meth c A hA hx hb hml hr hts hown hlocks hE hK hP hD hS ls hl
  generalize hQ : qRW _ _ _ _ _ _ _ = Q
  have hl : lv_has ls 1 [(0, .ref (f 0))] := hl
  have hiX0 : ∀ w ∈ wsX00, w ∈ wsX3_on := fun w h => List.mem_cons_of_mem _ (List.mem_append_right _ h)
  have hiX3 : ∀ w ∈ wsX30, w ∈ wsX3_on := fun w h => List.mem_cons_of_mem _ (List.mem_append_left _ (List.mem_append_right _ h))
  have hw1 := hts (Cond.fieldLink RX3 158 "FloeToFloe" "isPictured" "Z") (List.mem_of_getElem? (i := 1) rfl)
  have hw2 := hts (Cond.fieldLink RX3 12 "FloeToFloe" "now" "LFloeToFloe$River;") (List.mem_of_getElem? (i := 2) rfl)
  have hw3 := hts (Cond.fieldLink RX3 19 "FloeToFloe" "pictured" "LFloeToFloe$River;") (List.mem_of_getElem? (i := 3) rfl)
  have hnw4 : (Cond.fieldLinkNest "FloeToFloe" 84 "FloeToFloe$River" "minute" "I" "FloeToFloe").before args s = true := va_Nw.use rfl (hE.1 4 _ rfl)
  rw [fX3_on] at h
  refine lv_aload_n hx hb dX3_on_0 rfl (lv_at hl 0 rfl) ?_
  refine va_get (D := (dC, dI)) (ci := 3) (v := .int c_isPic) (C := RX3) (T := TX3) (N := 9) hx hb hts hiX3 hown hK hP 0 rfl rfl 8 (by decide) hw1 (fun _ h9 => h9) rfl dX3_on_1 ?_
  refine lv_if_ne (tgt := 14) hx hb dX3_on_4 (by decide) (fun c4 => ?_) (fun c4 => ?_)
  · have h := itF c4 h
    refine lv_aload_n hx hb dX3_on_14 rfl (lv_at hl 0 rfl) ?_
    refine va_get (D := (dC, dI)) (ci := 3) (v := .ref (f 5)) (C := RX3) (T := TX3) (N := 9) hx hb hts hiX3 hown hK hP 0 rfl rfl 0 (by decide) hw2 (fun _ h9 => h9) rfl dX3_on_15 ?_
    refine lv_aload_n hx hb dX3_on_18 rfl (lv_at hl 0 rfl) ?_
    refine va_get (D := (dC, dI)) (ci := 3) (v := .ref (f 19)) (C := RX3) (T := TX3) (N := 9) hx hb hts hiX3 hown hK hP 0 rfl rfl 2 (by decide) hw3 (fun _ h9 => h9) rfl dX3_on_19 ?_
    obtain ⟨q22, e22, h⟩ := bd_some h
    refine g_rvV (wc := (zwRR cI cC (fun k => f (k + 5)) (fun k => f (k + 19)) c_rn c_rp)) (wc' := (zwRR cI cC (fun k => f (k + 5)) (fun k => f (k + 19)) q22 c_rp)) ⟨hx, hb, hml, hown, hts⟩ hE hK hA hP hD hS [5, 6, 7, 8, 9, 10, 19, 20, 21, 22, 23, 24] rfl rfl rfl (mX0_become l dC dI cI cC sk (fun k => f (k + 5)) (fun k => f (k + 19)) H.size c_rn c_rp q22 e22) (cwV 1 hts gX3_on_X0_become rfl rfl rfl (by decide +kernel) ⟨Nat.le_of_ble_eq_true rfl, Nat.le_of_ble_eq_true rfl⟩) (va_recv hK hP (ci := 0) (q0 := 5) rfl rfl) (As := [.ref (f 19)]) (rest := []) rfl hl.1 rfl (Nat.le_of_ble_eq_true rfl) dX3_on_22 ⟨Nat.zero_le _, Nat.zero_le _⟩ (fun H locs hP hD hS => ?_)
    have hP : va_P (dC, dI) vwCl (zwX cI cC f c_lanes c_spots c_byLeaps c_load c_gone c_held c_strong c_done q22 c_rt c_letters c_size c_rp c_seen c_refs c_inRow c_isPic) H := hP
    have hD : va_D A (zwX cI cC f c_lanes c_spots c_byLeaps c_load c_gone c_held c_strong c_done q22 c_rt c_letters c_size c_rp c_seen c_refs c_inRow c_isPic) := hD
    refine lv_aload_n hx hb dX3_on_25 rfl (lv_at hl 0 rfl) ?_
    refine va_get (D := (dC, dI)) (ci := 3) (v := .ref (f 5)) (C := RX3) (T := TX3) (N := 9) hx hb hts hiX3 hown hK hP 0 rfl rfl 0 (by decide) hw2 (fun _ h9 => h9) rfl dX3_on_26 ?_
    refine va_getN (D := (dC, dI)) (ci := 0) (v := .int (R_minute q22)) (C := RX0) (T := TX0) (N := 8) hx hb hts hiX0 hown hK hP 5 rfl rfl 7 (by decide) hnw4 (fun _ h9 => h9) rfl dX3_on_29 ?_
    subst hQ
    exact retRW (zz := (((R_minute q22), q22, c_refs) : Int32 × RT × AR)) (fun z => z.1) (fun z => (zwX cI cC f c_lanes c_spots c_byLeaps c_load c_gone c_held c_strong c_done z.2.1 c_rt c_letters c_size c_rp c_seen z.2.2 c_inRow c_isPic)) hx hb hr hlocks rfl hS h rfl hP dX3_on_32
  have h := itT c4 h
  refine lv_aload_n hx hb dX3_on_7 rfl (lv_at hl 0 rfl) ?_
  refine lv_bipush (v := (-3 : Int32)) hx hb dX3_on_8 (by decide) ?_
  obtain ⟨q10, e10, h⟩ := bd_some h
  refine g_rwV (wc := (zwX cI cC f c_lanes c_spots c_byLeaps c_load c_gone c_held c_strong c_done c_rn c_rt c_letters c_size c_rp c_seen c_refs c_inRow c_isPic)) (wc' := (zwX cI cC f c_lanes c_spots c_byLeaps c_load c_gone c_held c_strong c_done c_rn c_rt c_letters c_size c_rp c_seen q10.2 c_inRow c_isPic)) ⟨hx, hb, hml, hown, hts⟩ hE hK hA hP hD hS [0, 1, 2, 3, 4, 5, 6, 7, 8, 9, 10, 11, 12, 13, 14, 15, 16, 17, 18, 19, 20, 21, 22, 23, 24, 25, 26] rfl rfl rfl (mX3_refuse l dC dI cI cC sk f H.size (-3 : Int32) c_lanes c_spots c_byLeaps c_load c_gone c_held c_strong c_done c_rn c_rt c_letters c_size c_rp c_seen c_refs c_inRow c_isPic q10 e10) (cwV 1 hts gX3_on_X3_refuse rfl rfl rfl (by decide +kernel) ⟨Nat.le_of_ble_eq_true rfl, Nat.le_of_ble_eq_true rfl⟩) (va_recv hK hP (ci := 3) (q0 := 0) rfl rfl) (As := [.int (-3 : Int32)]) (rest := []) rfl hl.1 rfl (Nat.le_of_ble_eq_true rfl) dX3_on_10 ⟨Nat.zero_le _, Nat.zero_le _⟩ (fun H locs hP hD hS => ?_)
  have hP : va_P (dC, dI) vwCl (zwX cI cC f c_lanes c_spots c_byLeaps c_load c_gone c_held c_strong c_done c_rn c_rt c_letters c_size c_rp c_seen q10.2 c_inRow c_isPic) H := hP
  have hD : va_D A (zwX cI cC f c_lanes c_spots c_byLeaps c_load c_gone c_held c_strong c_done c_rn c_rt c_letters c_size c_rp c_seen q10.2 c_inRow c_isPic) := hD
  subst hQ
  exact retRW (zz := ((q10.1, c_rn, q10.2) : Int32 × RT × AR)) (fun z => z.1) (fun z => (zwX cI cC f c_lanes c_spots c_byLeaps c_load c_gone c_held c_strong c_done z.2.1 c_rt c_letters c_size c_rp c_seen z.2.2 c_inRow c_isPic)) hx hb hr hlocks rfl hS h rfl hP dX3_on_13
theorem dX3_count_0 : decode cX3_count 0 = .ok (.iload_n 1, 1) := by decide +kernel
theorem dX3_count_1 : decode cX3_count 1 = .ok (.bipush 10, 2) := by decide +kernel
theorem dX3_count_3 : decode cX3_count 3 = .ok (.isub, 1) := by decide +kernel
theorem dX3_count_4 : decode cX3_count 4 = .ok (.istore_n 2, 1) := by decide +kernel
theorem dX3_count_5 : decode cX3_count 5 = .ok (.iload_n 2, 1) := by decide +kernel
theorem dX3_count_6 : decode cX3_count 6 = .ok (.iconst 1, 1) := by decide +kernel
theorem dX3_count_7 : decode cX3_count 7 = .ok (.if_icmp .lt 19, 3) := by decide +kernel
theorem dX3_count_10 : decode cX3_count 10 = .ok (.iload_n 2, 1) := by decide +kernel
theorem dX3_count_11 : decode cX3_count 11 = .ok (.aload_n 0, 1) := by decide +kernel
theorem dX3_count_12 : decode cX3_count 12 = .ok (.getfield 42, 3) := by decide +kernel
theorem dX3_count_15 : decode cX3_count 15 = .ok (.arraylength, 1) := by decide +kernel
theorem dX3_count_16 : decode cX3_count 16 = .ok (.if_icmp .ge 10, 3) := by decide +kernel
theorem dX3_count_19 : decode cX3_count 19 = .ok (.aload_n 0, 1) := by decide +kernel
theorem dX3_count_20 : decode cX3_count 20 = .ok (.getfield 42, 3) := by decide +kernel
theorem dX3_count_23 : decode cX3_count 23 = .ok (.iload_n 2, 1) := by decide +kernel
theorem dX3_count_24 : decode cX3_count 24 = .ok (.iaload, 1) := by decide +kernel
theorem dX3_count_25 : decode cX3_count 25 = .ok (.ireturn, 1) := by decide +kernel
theorem dX3_count_26 : decode cX3_count 26 = .ok (.iload_n 1, 1) := by decide +kernel
theorem dX3_count_27 : decode cX3_count 27 = .ok (.tableswitch 82 0 5 #[37, 45, 53, 61, 66, 74], 37) := by decide +kernel
theorem dX3_count_64 : decode cX3_count 64 = .ok (.aload_n 0, 1) := by decide +kernel
theorem dX3_count_65 : decode cX3_count 65 = .ok (.getfield 12, 3) := by decide +kernel
theorem dX3_count_68 : decode cX3_count 68 = .ok (.getfield 162, 3) := by decide +kernel
theorem dX3_count_71 : decode cX3_count 71 = .ok (.ireturn, 1) := by decide +kernel
theorem dX3_count_72 : decode cX3_count 72 = .ok (.aload_n 0, 1) := by decide +kernel
theorem dX3_count_73 : decode cX3_count 73 = .ok (.getfield 12, 3) := by decide +kernel
theorem dX3_count_76 : decode cX3_count 76 = .ok (.getfield 98, 3) := by decide +kernel
theorem dX3_count_79 : decode cX3_count 79 = .ok (.ireturn, 1) := by decide +kernel
theorem dX3_count_80 : decode cX3_count 80 = .ok (.aload_n 0, 1) := by decide +kernel
theorem dX3_count_81 : decode cX3_count 81 = .ok (.getfield 12, 3) := by decide +kernel
theorem dX3_count_84 : decode cX3_count 84 = .ok (.getfield 84, 3) := by decide +kernel
theorem dX3_count_87 : decode cX3_count 87 = .ok (.ireturn, 1) := by decide +kernel
theorem dX3_count_88 : decode cX3_count 88 = .ok (.aload_n 0, 1) := by decide +kernel
theorem dX3_count_89 : decode cX3_count 89 = .ok (.getfield 136, 3) := by decide +kernel
theorem dX3_count_92 : decode cX3_count 92 = .ok (.ireturn, 1) := by decide +kernel
theorem dX3_count_93 : decode cX3_count 93 = .ok (.aload_n 0, 1) := by decide +kernel
theorem dX3_count_94 : decode cX3_count 94 = .ok (.getfield 25, 3) := by decide +kernel
theorem dX3_count_97 : decode cX3_count 97 = .ok (.getfield 49, 3) := by decide +kernel
theorem dX3_count_100 : decode cX3_count 100 = .ok (.ireturn, 1) := by decide +kernel
theorem dX3_count_101 : decode cX3_count 101 = .ok (.aload_n 0, 1) := by decide +kernel
theorem dX3_count_102 : decode cX3_count 102 = .ok (.getfield 12, 3) := by decide +kernel
theorem dX3_count_105 : decode cX3_count 105 = .ok (.invokevirtual 165, 3) := by decide +kernel
theorem dX3_count_108 : decode cX3_count 108 = .ok (.ireturn, 1) := by decide +kernel
theorem dX3_count_109 : decode cX3_count 109 = .ok (.bipush (-9), 2) := by decide +kernel
theorem dX3_count_111 : decode cX3_count 111 = .ok (.ireturn, 1) := by decide +kernel
set_option maxRecDepth 20000 in
theorem ggX3_count_X0_allStrength : GoodIn wsX3_count wsX0_allStrength := goodIn_r _ [9, 10, 11, 12, 13, 14, 8, 15, 16, 17, 18, 19, 20, 21, 22, 23, 24, 25, 35, 36, 37, 38, 39, 40, 41, 42] (by decide +kernel) (by decide +kernel)
set_option maxRecDepth 20000 in
theorem gX3_count_X0_allStrength : GoodIn wsX3_count (wsV RX3 165 RX0 yX0_allStrength wsX0_allStrength) := goodIn_app (goodIn_of _ (by decide +kernel)) ggX3_count_X0_allStrength
set_option maxHeartbeats 4000000 in
set_option maxRecDepth 100000 in
theorem mX3_count (l : Launch) (dC : Nat → ClassId) (dI : Nat → Nat → Nat) (cI cC : ClassId) (sk : (Nat → Nat) × (Nat → Nat)) (f : Nat → Nat) (p1 : Int32) (c_lanes : AR) (c_spots : AR) (c_byLeaps : AR) (c_load : Int32) (c_gone : Int32) (c_held : Int32) (c_strong : Int32) (c_done : Int32) (c_rn : RT) (c_rt : RT) (c_letters : AR) (c_size : Int32) (c_rp : RT) (c_seen : AR) (c_refs : AR) (c_inRow : Int32) (c_isPic : Int32) (z : Int32) (h : fX3_count p1 c_rn c_size c_refs c_inRow = some z) : cRO l yX3_count wsX3_count (RMk 3 66) sk (dC, dI) (tyz cI cC) (zwX cI cC f c_lanes c_spots c_byLeaps c_load c_gone c_held c_strong c_done c_rn c_rt c_letters c_size c_rp c_seen c_refs c_inRow c_isPic) [.ref (f 0), .int p1] z := by
  refine ofRO (cc := cX3_count) (maxL := 3) (ret := (some .int)) (own := RX3) (plainFor_of_name (by decide)) rfl rfl (Nat.le_of_ble_eq_true rfl) ?_
  intro p e s m args below meth c hx hb hml hr hts hown hlocks hE hK hP hS ls hl
  generalize hQ : qRO _ _ _ _ = Q
  have hl : lv_has ls 3 [(0, .ref (f 0)), (1, .int p1)] := hl
  have hiX0 : ∀ w ∈ wsX00, w ∈ wsX3_count := fun w h => List.mem_cons_of_mem _ (List.mem_append_left _ (List.mem_append_right _ h))
  have hiX1 : ∀ w ∈ wsX10, w ∈ wsX3_count := fun w h => List.mem_cons_of_mem _ (List.mem_append_right _ h)
  have hiX3 : ∀ w ∈ wsX30, w ∈ wsX3_count := fun w h => List.mem_cons_of_mem _ (List.mem_append_left _ (List.mem_append_left _ (List.mem_append_right _ h)))
  have hw1 := hts (Cond.fieldLink RX3 42 "FloeToFloe" "refusals" "[I") (List.mem_of_getElem? (i := 1) rfl)
  have hw2 := hts (Cond.fieldLink RX3 12 "FloeToFloe" "now" "LFloeToFloe$River;") (List.mem_of_getElem? (i := 2) rfl)
  have hw3 := hts (Cond.fieldLink RX3 136 "FloeToFloe" "inRow" "I") (List.mem_of_getElem? (i := 3) rfl)
  have hw4 := hts (Cond.fieldLink RX3 25 "FloeToFloe" "telling" "LFloeToFloe$Telling;") (List.mem_of_getElem? (i := 4) rfl)
  have hnw1 : (Cond.fieldLinkNest "FloeToFloe" 162 "FloeToFloe$River" "lanes" "I" "FloeToFloe").before args s = true := va_Nw.use rfl (hE.1 1 _ rfl)
  have hnw2 : (Cond.fieldLinkNest "FloeToFloe" 98 "FloeToFloe$River" "floes" "I" "FloeToFloe").before args s = true := va_Nw.use rfl (hE.1 2 _ rfl)
  have hnw4 : (Cond.fieldLinkNest "FloeToFloe" 84 "FloeToFloe$River" "minute" "I" "FloeToFloe").before args s = true := va_Nw.use rfl (hE.1 4 _ rfl)
  have hnw5 : (Cond.fieldLinkNest "FloeToFloe" 49 "FloeToFloe$Telling" "size" "I" "FloeToFloe").before args s = true := va_Nw.use rfl (hE.1 5 _ rfl)
  rw [fX3_count] at h
  refine lv_iload_n hx hb dX3_count_0 rfl (lv_at hl 1 rfl) ?_
  refine lv_bipush (v := (10 : Int32)) hx hb dX3_count_1 (by decide) ?_
  refine lv_isub hx hb dX3_count_3 ?_
  refine lv_istore_n (lv' := [(2, .int (p1 - (10 : Int32))), (0, .ref (f 0)), (1, .int p1)]) hx hb dX3_count_4 rfl hl (by decide) rfl (fun ls hl => ?_)
  refine lv_iload_n hx hb dX3_count_5 rfl (lv_at hl 0 rfl) ?_
  refine lv_iconst (v := (1 : Int32)) hx hb dX3_count_6 (by decide) ?_
  refine jnW (fun (v26 : Unit) => ∀ (H : Heap) (locs : List Loc) (ls : Array Slot), va_P (dC, dI) vwCl (zwX cI cC f c_lanes c_spots c_byLeaps c_load c_gone c_held c_strong c_done c_rn c_rt c_letters c_size c_rp c_seen c_refs c_inRow c_isPic) H → va_S noA s.heap H locs → lv_has ls 3 [(0, .ref (f 0)), (1, .int p1)] → W p l e (RMk 3 66) s m args below meth c H locs 0 0 Q (F0 m 26 ls [])) h (fun v26 h H locs ls hP hS hl => ?_) (fun J26 j26 h => ?_)
  · refine lv_iload_n hx hb dX3_count_26 rfl (lv_at hl 1 rfl) ?_
    by_cases n0 : p1 = (0 : Int32)
    · have h := itT n0 h
      refine lv_tableIn (off := 37) (tgt := 64) hx hb dX3_count_27 (by rw [n0]; decide) (by rw [n0]; decide) (by rw [n0]; decide) (by decide) ?_
      refine lv_aload_n hx hb dX3_count_64 rfl (lv_at hl 0 rfl) ?_
      refine va_get (D := (dC, dI)) (ci := 3) (v := .ref (f 5)) (C := RX3) (T := TX3) (N := 9) hx hb hts hiX3 hown hK hP 0 rfl rfl 0 (by decide) hw2 (fun _ h9 => h9) rfl dX3_count_65 ?_
      refine va_getN (D := (dC, dI)) (ci := 0) (v := .int (R_lanes c_rn)) (C := RX0) (T := TX0) (N := 8) hx hb hts hiX0 hown hK hP 5 rfl rfl 5 (by decide) hnw1 (fun _ h9 => h9) rfl dX3_count_68 ?_
      subst hQ
      exact retRO hx hb hr hlocks rfl hS h dX3_count_71
    have h := itF n0 h
    by_cases n1 : p1 = (1 : Int32)
    · have h := itT n1 h
      refine lv_tableIn (off := 45) (tgt := 72) hx hb dX3_count_27 (by rw [n1]; decide) (by rw [n1]; decide) (by rw [n1]; decide) (by decide) ?_
      refine lv_aload_n hx hb dX3_count_72 rfl (lv_at hl 0 rfl) ?_
      refine va_get (D := (dC, dI)) (ci := 3) (v := .ref (f 5)) (C := RX3) (T := TX3) (N := 9) hx hb hts hiX3 hown hK hP 0 rfl rfl 0 (by decide) hw2 (fun _ h9 => h9) rfl dX3_count_73 ?_
      refine va_getN (D := (dC, dI)) (ci := 0) (v := .int (R_floes c_rn)) (C := RX0) (T := TX0) (N := 8) hx hb hts hiX0 hown hK hP 5 rfl rfl 6 (by decide) hnw2 (fun _ h9 => h9) rfl dX3_count_76 ?_
      subst hQ
      exact retRO hx hb hr hlocks rfl hS h dX3_count_79
    have h := itF n1 h
    by_cases n2 : p1 = (2 : Int32)
    · have h := itT n2 h
      refine lv_tableIn (off := 53) (tgt := 80) hx hb dX3_count_27 (by rw [n2]; decide) (by rw [n2]; decide) (by rw [n2]; decide) (by decide) ?_
      refine lv_aload_n hx hb dX3_count_80 rfl (lv_at hl 0 rfl) ?_
      refine va_get (D := (dC, dI)) (ci := 3) (v := .ref (f 5)) (C := RX3) (T := TX3) (N := 9) hx hb hts hiX3 hown hK hP 0 rfl rfl 0 (by decide) hw2 (fun _ h9 => h9) rfl dX3_count_81 ?_
      refine va_getN (D := (dC, dI)) (ci := 0) (v := .int (R_minute c_rn)) (C := RX0) (T := TX0) (N := 8) hx hb hts hiX0 hown hK hP 5 rfl rfl 7 (by decide) hnw4 (fun _ h9 => h9) rfl dX3_count_84 ?_
      subst hQ
      exact retRO hx hb hr hlocks rfl hS h dX3_count_87
    have h := itF n2 h
    by_cases n3 : p1 = (3 : Int32)
    · have h := itT n3 h
      refine lv_tableIn (off := 61) (tgt := 88) hx hb dX3_count_27 (by rw [n3]; decide) (by rw [n3]; decide) (by rw [n3]; decide) (by decide) ?_
      refine lv_aload_n hx hb dX3_count_88 rfl (lv_at hl 0 rfl) ?_
      refine va_get (D := (dC, dI)) (ci := 3) (v := .int c_inRow) (C := RX3) (T := TX3) (N := 9) hx hb hts hiX3 hown hK hP 0 rfl rfl 7 (by decide) hw3 (fun _ h9 => h9) rfl dX3_count_89 ?_
      subst hQ
      exact retRO hx hb hr hlocks rfl hS h dX3_count_92
    have h := itF n3 h
    by_cases n4 : p1 = (4 : Int32)
    · have h := itT n4 h
      refine lv_tableIn (off := 66) (tgt := 93) hx hb dX3_count_27 (by rw [n4]; decide) (by rw [n4]; decide) (by rw [n4]; decide) (by decide) ?_
      refine lv_aload_n hx hb dX3_count_93 rfl (lv_at hl 0 rfl) ?_
      refine va_get (D := (dC, dI)) (ci := 3) (v := .ref (f 17)) (C := RX3) (T := TX3) (N := 9) hx hb hts hiX3 hown hK hP 0 rfl rfl 3 (by decide) hw4 (fun _ h9 => h9) rfl dX3_count_94 ?_
      refine va_getN (D := (dC, dI)) (ci := 1) (v := .int c_size) (C := RX1) (T := TX1) (N := 2) hx hb hts hiX1 hown hK hP 17 rfl rfl 1 (by decide) hnw5 (fun _ h9 => h9) rfl dX3_count_97 ?_
      subst hQ
      exact retRO hx hb hr hlocks rfl hS h dX3_count_100
    have h := itF n4 h
    by_cases n5 : p1 = (5 : Int32)
    · have h := itT n5 h
      refine lv_tableIn (off := 74) (tgt := 101) hx hb dX3_count_27 (by rw [n5]; decide) (by rw [n5]; decide) (by rw [n5]; decide) (by decide) ?_
      refine lv_aload_n hx hb dX3_count_101 rfl (lv_at hl 0 rfl) ?_
      refine va_get (D := (dC, dI)) (ci := 3) (v := .ref (f 5)) (C := RX3) (T := TX3) (N := 9) hx hb hts hiX3 hown hK hP 0 rfl rfl 0 (by decide) hw2 (fun _ h9 => h9) rfl dX3_count_102 ?_
      obtain ⟨q105, e105, h⟩ := bd_some h
      refine g_roV (wc := (zwR cI cC (fun k => f (k + 5)) c_rn)) ⟨hx, hb, hml, hown, hts⟩ hE hK hP hS [5, 6, 7, 8, 9, 10] rfl (mX0_allStrength l dC dI cI cC sk (fun k => f (k + 5)) c_rn q105 e105) (cwV 0 hts gX3_count_X0_allStrength rfl rfl rfl (by decide +kernel) ⟨Nat.le_of_ble_eq_true rfl, Nat.le_of_ble_eq_true rfl⟩) (va_recv hK hP (ci := 0) (q0 := 5) rfl rfl) (As := []) (rest := []) rfl hl.1 rfl (Nat.le_of_ble_eq_true rfl) dX3_count_105 ⟨Nat.zero_le _, Nat.zero_le _⟩ (fun H locs hP hS => ?_)
      subst hQ
      exact retRO hx hb hr hlocks rfl hS h dX3_count_108
    have h := itF n5 h
    have m0 := neI n0 (i := 0) rfl
    have m1 := neI n1 (i := 1) rfl
    have m2 := neI n2 (i := 2) rfl
    have m3 := neI n3 (i := 3) rfl
    have m4 := neI n4 (i := 4) rfl
    have m5 := neI n5 (i := 5) rfl
    refine lv_tableOut (tgt := 109) hx hb dX3_count_27 (by omega) (by decide) ?_
    refine lv_bipush (v := (-9 : Int32)) hx hb dX3_count_109 (by decide) ?_
    subst hQ
    exact retRO hx hb hr hlocks rfl hS h dX3_count_111
  refine lv_icmp_lt (tgt := 26) hx hb dX3_count_7 (by decide) (fun c7 => ?_) (fun c7 => ?_)
  · have h := itT c7 h
    exact j26 _ h _ _ _ hP hS (lv_sub hl [1, 2] rfl)
  have h := itF c7 h
  refine lv_iload_n hx hb dX3_count_10 rfl (lv_at hl 0 rfl) ?_
  refine lv_aload_n hx hb dX3_count_11 rfl (lv_at hl 1 rfl) ?_
  refine va_get (D := (dC, dI)) (ci := 3) (v := .ref (f 26)) (C := RX3) (T := TX3) (N := 9) hx hb hts hiX3 hown hK hP 0 rfl rfl 6 (by decide) hw1 (fun _ h9 => h9) rfl dX3_count_12 ?_
  refine va_alen hx hb hK hP 26 0 rfl rfl (v := (7 : Int32)) rfl dX3_count_15 ?_
  refine lv_icmp_ge (tgt := 26) hx hb dX3_count_16 (by decide) (fun c16 => ?_) (fun c16 => ?_)
  · have h := itT c16 h
    exact j26 _ h _ _ _ hP hS (lv_sub hl [1, 2] rfl)
  have h := itF c16 h
  refine lv_aload_n hx hb dX3_count_19 rfl (lv_at hl 1 rfl) ?_
  refine va_get (D := (dC, dI)) (ci := 3) (v := .ref (f 26)) (C := RX3) (T := TX3) (N := 9) hx hb hts hiX3 hown hK hP 0 rfl rfl 6 (by decide) hw1 (fun _ h9 => h9) rfl dX3_count_20 ?_
  refine lv_iload_n hx hb dX3_count_23 rfl (lv_at hl 0 rfl) ?_
  obtain ⟨hin, h⟩ := ck_some h
  refine va_iald hx hb hK hP 26 0 rfl rfl hin dX3_count_24 ?_
  subst hQ
  exact retRO hx hb hr hlocks rfl hS h dX3_count_25
