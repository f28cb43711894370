theorem dX3_reach_0 : decode cX3_reach 0 = .ok (.iload_n 2, 1) := by decide +kernel
theorem dX3_reach_1 : decode cX3_reach 1 = .ok (.invokestatic 116, 3) := by decide +kernel
theorem dX3_reach_4 : decode cX3_reach 4 = .ok (.ifCond .ne 9, 3) := by decide +kernel
theorem dX3_reach_7 : decode cX3_reach 7 = .ok (.aload_n 0, 1) := by decide +kernel
theorem dX3_reach_8 : decode cX3_reach 8 = .ok (.iconst (-1), 1) := by decide +kernel
theorem dX3_reach_9 : decode cX3_reach 9 = .ok (.invokevirtual 54, 3) := by decide +kernel
theorem dX3_reach_12 : decode cX3_reach 12 = .ok (.ireturn, 1) := by decide +kernel
theorem dX3_reach_13 : decode cX3_reach 13 = .ok (.iload_n 1, 1) := by decide +kernel
theorem dX3_reach_14 : decode cX3_reach 14 = .ok (.iload_n 3, 1) := by decide +kernel
theorem dX3_reach_15 : decode cX3_reach 15 = .ok (.bipush 40, 2) := by decide +kernel
theorem dX3_reach_17 : decode cX3_reach 17 = .ok (.invokestatic 119, 3) := by decide +kernel
theorem dX3_reach_20 : decode cX3_reach 20 = .ok (.istore 4, 2) := by decide +kernel
theorem dX3_reach_22 : decode cX3_reach 22 = .ok (.iload 4, 2) := by decide +kernel
theorem dX3_reach_24 : decode cX3_reach 24 = .ok (.ifCond .eq 10, 3) := by decide +kernel
theorem dX3_reach_27 : decode cX3_reach 27 = .ok (.aload_n 0, 1) := by decide +kernel
theorem dX3_reach_28 : decode cX3_reach 28 = .ok (.iload 4, 2) := by decide +kernel
theorem dX3_reach_30 : decode cX3_reach 30 = .ok (.invokevirtual 54, 3) := by decide +kernel
theorem dX3_reach_33 : decode cX3_reach 33 = .ok (.ireturn, 1) := by decide +kernel
theorem dX3_reach_34 : decode cX3_reach 34 = .ok (.aload_n 0, 1) := by decide +kernel
theorem dX3_reach_35 : decode cX3_reach 35 = .ok (.getfield 12, 3) := by decide +kernel
theorem dX3_reach_38 : decode cX3_reach 38 = .ok (.iload_n 1, 1) := by decide +kernel
theorem dX3_reach_39 : decode cX3_reach 39 = .ok (.iconst 0, 1) := by decide +kernel
theorem dX3_reach_40 : decode cX3_reach 40 = .ok (.iconst 0, 1) := by decide +kernel
theorem dX3_reach_41 : decode cX3_reach 41 = .ok (.invokevirtual 89, 3) := by decide +kernel
theorem dX3_reach_44 : decode cX3_reach 44 = .ok (.aload_n 0, 1) := by decide +kernel
theorem dX3_reach_45 : decode cX3_reach 45 = .ok (.getfield 12, 3) := by decide +kernel
theorem dX3_reach_48 : decode cX3_reach 48 = .ok (.iload_n 2, 1) := by decide +kernel
theorem dX3_reach_49 : decode cX3_reach 49 = .ok (.invokestatic 122, 3) := by decide +kernel
theorem dX3_reach_52 : decode cX3_reach 52 = .ok (.aload_n 0, 1) := by decide +kernel
theorem dX3_reach_53 : decode cX3_reach 53 = .ok (.getfield 20, 3) := by decide +kernel
theorem dX3_reach_56 : decode cX3_reach 56 = .ok (.getfield 86, 3) := by decide +kernel
theorem dX3_reach_59 : decode cX3_reach 59 = .ok (.iload_n 3, 1) := by decide +kernel
theorem dX3_reach_60 : decode cX3_reach 60 = .ok (.invokevirtual 125, 3) := by decide +kernel
theorem dX3_reach_63 : decode cX3_reach 63 = .ok (.istore 5, 2) := by decide +kernel
theorem dX3_reach_65 : decode cX3_reach 65 = .ok (.iload 5, 2) := by decide +kernel
theorem dX3_reach_67 : decode cX3_reach 67 = .ok (.sipush 511, 3) := by decide +kernel
theorem dX3_reach_70 : decode cX3_reach 70 = .ok (.iand, 1) := by decide +kernel
theorem dX3_reach_71 : decode cX3_reach 71 = .ok (.istore 6, 2) := by decide +kernel
theorem dX3_reach_73 : decode cX3_reach 73 = .ok (.iload 5, 2) := by decide +kernel
theorem dX3_reach_75 : decode cX3_reach 75 = .ok (.ldc 128, 2) := by decide +kernel
theorem dX3_reach_77 : decode cX3_reach 77 = .ok (.iand, 1) := by decide +kernel
theorem dX3_reach_78 : decode cX3_reach 78 = .ok (.ifCond .eq 12, 3) := by decide +kernel
theorem dX3_reach_81 : decode cX3_reach 81 = .ok (.iload 6, 2) := by decide +kernel
theorem dX3_reach_83 : decode cX3_reach 83 = .ok (.sipush 512, 3) := by decide +kernel
theorem dX3_reach_86 : decode cX3_reach 86 = .ok (.ior, 1) := by decide +kernel
theorem dX3_reach_87 : decode cX3_reach 87 = .ok (.goto 5, 3) := by decide +kernel
theorem dX3_reach_90 : decode cX3_reach 90 = .ok (.iload 6, 2) := by decide +kernel
theorem dX3_reach_92 : decode cX3_reach 92 = .ok (.ireturn, 1) := by decide +kernel
set_option maxRecDepth 20000 in
theorem ggX3_reach_X3_isCell : GoodIn wsX3_reach wsX3_isCell := goodIn_r _ [7] (by decide +kernel) (by decide +kernel)
set_option maxRecDepth 20000 in
theorem gX3_reach_X3_isCell : GoodIn wsX3_reach (va_wsS RX3 116 yX3_isCell wsX3_isCell) := goodIn_app (goodIn_of _ (by decide +kernel)) ggX3_reach_X3_isCell
set_option maxRecDepth 20000 in
theorem ggX3_reach_X3_refuse : GoodIn wsX3_reach wsX3_refuse := goodIn_r _ [11, 12, 107, 108, 109, 110, 111, 112, 113, 114, 115] (by decide +kernel) (by decide +kernel)
set_option maxRecDepth 20000 in
theorem gX3_reach_X3_refuse : GoodIn wsX3_reach (wsV RX3 54 RX3 yX3_refuse wsX3_refuse) := goodIn_app (goodIn_of _ (by decide +kernel)) ggX3_reach_X3_refuse
set_option maxRecDepth 20000 in
theorem ggX3_reach_X3_outOfEither : GoodIn wsX3_reach wsX3_outOfEither := goodIn_r _ [15] (by decide +kernel) (by decide +kernel)
set_option maxRecDepth 20000 in
theorem gX3_reach_X3_outOfEither : GoodIn wsX3_reach (va_wsS RX3 119 yX3_outOfEither wsX3_outOfEither) := goodIn_app (goodIn_of _ (by decide +kernel)) ggX3_reach_X3_outOfEither
set_option maxRecDepth 20000 in
theorem ggX3_reach_X2_begin : GoodIn wsX3_reach wsX2_begin := goodIn_r _ [20, 21, 22, 23, 124, 125, 126, 127, 128, 129, 130, 131, 132] (by decide +kernel) (by decide +kernel)
set_option maxRecDepth 20000 in
theorem gX3_reach_X2_begin : GoodIn wsX3_reach (wsV RX3 89 RX2 yX2_begin wsX2_begin) := goodIn_app (goodIn_of _ (by decide +kernel)) ggX3_reach_X2_begin
set_option maxRecDepth 20000 in
theorem ggX3_reach_X3_southCell : GoodIn wsX3_reach wsX3_southCell := goodIn_r _ [26] (by decide +kernel) (by decide +kernel)
set_option maxRecDepth 20000 in
theorem gX3_reach_X3_southCell : GoodIn wsX3_reach (va_wsS RX3 122 yX3_southCell wsX3_southCell) := goodIn_app (goodIn_of _ (by decide +kernel)) ggX3_reach_X3_southCell
set_option maxRecDepth 20000 in
theorem ggX3_reach_X2_placesBehind : GoodIn wsX3_reach wsX2_placesBehind := goodIn_r _ [30, 31, 32, 33, 19, 34, 35, 23, 36, 37, 38, 22, 21, 39, 40, 41, 42, 43, 44, 45, 46, 47, 48, 49, 50, 51, 52, 53, 54, 55, 56, 57, 58, 59, 60, 61, 62, 63, 64, 65, 66, 67, 68, 69, 70, 71, 72, 73, 74, 75, 76, 77, 78, 79, 80, 81, 82, 83, 84, 85, 86, 87, 88, 89, 90, 91, 92, 93, 94, 95, 96, 97, 98, 99, 100, 101, 102, 103, 104, 105, 106, 25, 6, 26, 124, 125, 126, 127, 128, 129, 130, 131, 132, 116, 117, 118, 119, 120, 121, 122, 123] (by decide +kernel) (by decide +kernel)
set_option maxRecDepth 20000 in
theorem gX3_reach_X2_placesBehind : GoodIn wsX3_reach (wsV RX3 125 RX2 yX2_placesBehind wsX2_placesBehind) := goodIn_app (goodIn_of _ (by decide +kernel)) ggX3_reach_X2_placesBehind
set_option maxHeartbeats 4000000 in
set_option maxRecDepth 100000 in
theorem mX3_reach (l : Launch) (dC : Nat → ClassId) (dI : Nat → Nat → Nat) (cI cC : ClassId) (sk : (Nat → Nat) × (Nat → Nat)) (f : Nat → Nat) (sz : Nat) (p1 : Int32) (p2 : Int32) (p3 : Int32) (c_lanes : AR) (c_spots : AR) (c_byLeaps : AR) (c_load : Int32) (c_gone : Int32) (c_held : Int32) (c_strong : Int32) (c_done : Int32) (c_rn : RT) (c_rt : RT) (c_letters : AR) (c_size : Int32) (c_rp : RT) (c_seen : AR) (c_refs : AR) (c_inRow : Int32) (c_isPic : Int32) (z : Int32 × AR × AR × Int32 × Int32 × Int32 × Int32 × AR) (h : fX3_reach p1 p2 p3 c_lanes c_spots c_load c_gone c_held c_strong c_rn c_refs = some z) : cRW l yX3_reach wsX3_reach (RMk 5 118) sk (dC, dI) (tyz cI cC) sz (zwX cI cC f c_lanes c_spots c_byLeaps c_load c_gone c_held c_strong c_done c_rn c_rt c_letters c_size c_rp c_seen c_refs c_inRow c_isPic) (zwX cI cC f z.2.1 z.2.2.1 c_byLeaps z.2.2.2.1 z.2.2.2.2.1 z.2.2.2.2.2.1 z.2.2.2.2.2.2.1 c_done c_rn c_rt c_letters c_size c_rp c_seen z.2.2.2.2.2.2.2 c_inRow c_isPic) [.ref (f 0), .int p1, .int p2, .int p3] z.1 := by
  refine ofRW (cc := cX3_reach) (maxL := 7) (ret := (some .int)) (own := RX3) (plainFor_of_name (by decide)) rfl rfl (Nat.le_of_ble_eq_true rfl) ?_
  intro p e s m args below meth c A hA hx hb hml hr hts hown hlocks hE hK hP hD hS ls hl
  generalize hQ : qRW _ _ _ _ _ _ _ = Q
  have hl : lv_has ls 7 [(0, .ref (f 0)), (1, .int p1), (2, .int p2), (3, .int p3)] := hl
  have hiX0 : ∀ w ∈ wsX00, w ∈ wsX3_reach := fun w h => List.mem_cons_of_mem _ (List.mem_append_left _ (List.mem_append_right _ h))
  have hiX3 : ∀ w ∈ wsX30, w ∈ wsX3_reach := fun w h => List.mem_cons_of_mem _ (List.mem_append_left _ (List.mem_append_left _ (List.mem_append_right _ h)))
  have hw1 := hts (Cond.fieldLink RX3 12 "FloeToFloe" "walk" "LFloeToFloe$Walk;") (List.mem_of_getElem? (i := 1) rfl)
  have hw2 := hts (Cond.fieldLink RX3 20 "FloeToFloe" "now" "LFloeToFloe$River;") (List.mem_of_getElem? (i := 2) rfl)
  have hw3 := hts (Cond.constant RX3 128 (1047552)) (List.mem_of_getElem? (i := 3) rfl)
  have hnw4 : (Cond.fieldLinkNest "FloeToFloe" 86 "FloeToFloe$River" "minute" "I" "FloeToFloe").before args s = true := va_Nw.use rfl (hE.1 4 _ rfl)
  rw [fX3_reach] at h
  refine lv_iload_n hx hb dX3_reach_0 rfl (lv_at hl 2 rfl) ?_
  obtain ⟨q1, e1, h⟩ := bd_some h
  refine g_roS (wc := ([] : va_W)) ⟨hx, hb, hml, hown, hts⟩ hE hK hP hS [] rfl (mX3_isCell l dC dI cI cC sk  p2 q1 e1) (va_cwS 1 hts gX3_reach_X3_isCell rfl rfl rfl (by decide +kernel) ⟨Nat.le_of_ble_eq_true rfl, Nat.le_of_ble_eq_true rfl⟩) (As := [.int p2]) (rest := []) rfl hl.1 rfl (Nat.le_of_ble_eq_true rfl) dX3_reach_1 ⟨Nat.zero_le _, Nat.zero_le _⟩ (fun H locs hP hS => ?_)
  refine lv_if_ne (tgt := 13) hx hb dX3_reach_4 (by decide) (fun c4 => ?_) (fun c4 => ?_)
  · have h := itF c4 h
    refine lv_iload_n hx hb dX3_reach_13 rfl (lv_at hl 1 rfl) ?_
    refine lv_iload_n hx hb dX3_reach_14 rfl (lv_at hl 3 rfl) ?_
    refine lv_bipush (v := (40 : Int32)) hx hb dX3_reach_15 (by decide) ?_
    obtain ⟨q17, e17, h⟩ := bd_some h
    refine g_roS (wc := ([] : va_W)) ⟨hx, hb, hml, hown, hts⟩ hE hK hP hS [] rfl (mX3_outOfEither l dC dI cI cC sk  p1 p3 (40 : Int32) q17 e17) (va_cwS 3 hts gX3_reach_X3_outOfEither rfl rfl rfl (by decide +kernel) ⟨Nat.le_of_ble_eq_true rfl, Nat.le_of_ble_eq_true rfl⟩) (As := [.int p1, .int p3, .int (40 : Int32)]) (rest := []) rfl hl.1 rfl (Nat.le_of_ble_eq_true rfl) dX3_reach_17 ⟨Nat.zero_le _, Nat.zero_le _⟩ (fun H locs hP hS => ?_)
    refine lv_istore (lv' := [(4, .int q17), (0, .ref (f 0)), (1, .int p1), (2, .int p2), (3, .int p3)]) hx hb dX3_reach_20 hl (by decide) rfl (fun ls hl => ?_)
    refine lv_iload hx hb dX3_reach_22 (lv_at hl 0 rfl) ?_
    refine lv_if_eq (tgt := 34) hx hb dX3_reach_24 (by decide) (fun c24 => ?_) (fun c24 => ?_)
    · have h := itT c24 h
      refine lv_aload_n hx hb dX3_reach_34 rfl (lv_at hl 1 rfl) ?_
      refine va_get (D := (dC, dI)) (ci := 3) (v := .ref (f 1)) (C := RX3) (T := TX3) (N := 9) hx hb hts hiX3 hown hK hP 0 rfl rfl 0 (by decide) hw1 (fun _ h9 => h9) rfl dX3_reach_35 ?_
      refine lv_iload_n hx hb dX3_reach_38 rfl (lv_at hl 2 rfl) ?_
      refine lv_iconst (v := (0 : Int32)) hx hb dX3_reach_39 (by decide) ?_
      refine lv_iconst (v := (0 : Int32)) hx hb dX3_reach_40 (by decide) ?_
      obtain ⟨q41, e41, h⟩ := bd_some h
      refine g_rvV (wc := (zwV cI cC (fun k => f (k + 1)) c_lanes c_spots c_byLeaps c_load c_gone c_held c_strong c_done c_rn)) (wc' := (zwV cI cC (fun k => f (k + 1)) c_lanes c_spots c_byLeaps q41.1 q41.2.1 q41.2.2 c_strong c_done c_rn)) (ws' := (zwX cI cC f c_lanes c_spots c_byLeaps q41.1 q41.2.1 q41.2.2 c_strong c_done c_rn c_rt c_letters c_size c_rp c_seen c_refs c_inRow c_isPic)) (wr := [(f 0, .inr (3, [.ref (f 1), .ref (f 5), .ref (f 11), .ref (f 19), .ref (f 17), .ref (f 25), .ref (f 26), .int c_inRow, .int c_isPic])), (f 11, .inr (0, [.ref (f 12), .ref (f 13), .ref (f 14), .ref (f 15), .ref (f 16), .int (R_lanes c_rt), .int (R_floes c_rt), .int (R_minute c_rt)])), (f 12, .inl (cI, 8, .inl (R_kinds c_rt))), (f 13, .inl (cI, 8, .inl (R_homes c_rt))), (f 14, .inl (cI, 8, .inl (R_cells c_rt))), (f 15, .inl (cI, 8, .inl (R_paces c_rt))), (f 16, .inl (cI, 8, .inl (R_strengths c_rt))), (f 17, .inr (1, [.ref (f 18), .int c_size])), (f 18, .inl (cC, 80, .inl c_letters)), (f 19, .inr (0, [.ref (f 20), .ref (f 21), .ref (f 22), .ref (f 23), .ref (f 24), .int (R_lanes c_rp), .int (R_floes c_rp), .int (R_minute c_rp)])), (f 20, .inl (cI, 8, .inl (R_kinds c_rp))), (f 21, .inl (cI, 8, .inl (R_homes c_rp))), (f 22, .inl (cI, 8, .inl (R_cells c_rp))), (f 23, .inl (cI, 8, .inl (R_paces c_rp))), (f 24, .inl (cI, 8, .inl (R_strengths c_rp))), (f 25, .inl (cI, 12, .inl c_seen)), (f 26, .inl (cI, 7, .inl c_refs))]) (nw := 27) ⟨hx, hb, hml, hown, hts⟩ hE hK hA hP hD hS [1, 2, 3, 4, 5, 6, 7, 8, 9, 10] [0, 11, 12, 13, 14, 15, 16, 17, 18, 19, 20, 21, 22, 23, 24, 25, 26] rfl rfl rfl rfl rfl rfl (by decide +kernel) rfl (mX2_begin l dC dI cI cC sk (fun k => f (k + 1)) H.size p1 (0 : Int32) (0 : Int32) c_lanes c_spots c_byLeaps c_load c_gone c_held c_strong c_done c_rn q41 e41) (cwV 3 hts gX3_reach_X2_begin rfl rfl rfl (by decide +kernel) ⟨Nat.le_of_ble_eq_true rfl, Nat.le_of_ble_eq_true rfl⟩) (va_recv hK hP (ci := 2) (q0 := 1) rfl rfl) (As := [.int p1, .int (0 : Int32), .int (0 : Int32)]) (rest := []) rfl hl.1 rfl (Nat.le_of_ble_eq_true rfl) dX3_reach_41 ⟨Nat.zero_le _, Nat.zero_le _⟩ (fun H locs hP hD hS => ?_)
      refine lv_aload_n hx hb dX3_reach_44 rfl (lv_at hl 1 rfl) ?_
      refine va_get (D := (dC, dI)) (ci := 3) (v := .ref (f 1)) (C := RX3) (T := TX3) (N := 9) hx hb hts hiX3 hown hK hP 0 rfl rfl 0 (by decide) hw1 (fun _ h9 => h9) rfl dX3_reach_45 ?_
      refine lv_iload_n hx hb dX3_reach_48 rfl (lv_at hl 3 rfl) ?_
      obtain ⟨q49, e49, h⟩ := bd_some h
      refine g_roS (wc := ([] : va_W)) ⟨hx, hb, hml, hown, hts⟩ hE hK hP hS [] rfl (mX3_southCell l dC dI cI cC sk  p2 q49 e49) (va_cwS 1 hts gX3_reach_X3_southCell rfl rfl rfl (by decide +kernel) ⟨Nat.le_of_ble_eq_true rfl, Nat.le_of_ble_eq_true rfl⟩) (As := [.int p2]) (rest := [.ref (f 1)]) rfl hl.1 rfl (Nat.le_of_ble_eq_true rfl) dX3_reach_49 ⟨Nat.zero_le _, Nat.zero_le _⟩ (fun H locs hP hS => ?_)
      refine lv_aload_n hx hb dX3_reach_52 rfl (lv_at hl 1 rfl) ?_
      refine va_get (D := (dC, dI)) (ci := 3) (v := .ref (f 5)) (C := RX3) (T := TX3) (N := 9) hx hb hts hiX3 hown hK hP 0 rfl rfl 1 (by decide) hw2 (fun _ h9 => h9) rfl dX3_reach_53 ?_
      refine va_getN (D := (dC, dI)) (ci := 0) (v := .int (R_minute c_rn)) (C := RX0) (T := TX0) (N := 8) hx hb hts hiX0 hown hK hP 5 rfl rfl 7 (by decide) hnw4 (fun _ h9 => h9) rfl dX3_reach_56 ?_
      refine lv_iload_n hx hb dX3_reach_59 rfl (lv_at hl 4 rfl) ?_
      obtain ⟨q60, e60, h⟩ := bd_some h
      refine g_rwV (wc := (zwV cI cC (fun k => f (k + 1)) c_lanes c_spots c_byLeaps q41.1 q41.2.1 q41.2.2 c_strong c_done c_rn)) (wc' := (zwV cI cC (fun k => f (k + 1)) q60.2.1 q60.2.2.1 c_byLeaps q41.1 q41.2.1 q41.2.2 q60.2.2.2 c_done c_rn)) (ws' := (zwX cI cC f q60.2.1 q60.2.2.1 c_byLeaps q41.1 q41.2.1 q41.2.2 q60.2.2.2 c_done c_rn c_rt c_letters c_size c_rp c_seen c_refs c_inRow c_isPic)) (wr := [(f 0, .inr (3, [.ref (f 1), .ref (f 5), .ref (f 11), .ref (f 19), .ref (f 17), .ref (f 25), .ref (f 26), .int c_inRow, .int c_isPic])), (f 11, .inr (0, [.ref (f 12), .ref (f 13), .ref (f 14), .ref (f 15), .ref (f 16), .int (R_lanes c_rt), .int (R_floes c_rt), .int (R_minute c_rt)])), (f 12, .inl (cI, 8, .inl (R_kinds c_rt))), (f 13, .inl (cI, 8, .inl (R_homes c_rt))), (f 14, .inl (cI, 8, .inl (R_cells c_rt))), (f 15, .inl (cI, 8, .inl (R_paces c_rt))), (f 16, .inl (cI, 8, .inl (R_strengths c_rt))), (f 17, .inr (1, [.ref (f 18), .int c_size])), (f 18, .inl (cC, 80, .inl c_letters)), (f 19, .inr (0, [.ref (f 20), .ref (f 21), .ref (f 22), .ref (f 23), .ref (f 24), .int (R_lanes c_rp), .int (R_floes c_rp), .int (R_minute c_rp)])), (f 20, .inl (cI, 8, .inl (R_kinds c_rp))), (f 21, .inl (cI, 8, .inl (R_homes c_rp))), (f 22, .inl (cI, 8, .inl (R_cells c_rp))), (f 23, .inl (cI, 8, .inl (R_paces c_rp))), (f 24, .inl (cI, 8, .inl (R_strengths c_rp))), (f 25, .inl (cI, 12, .inl c_seen)), (f 26, .inl (cI, 7, .inl c_refs))]) (nw := 27) ⟨hx, hb, hml, hown, hts⟩ hE hK hA hP hD hS [1, 2, 3, 4, 5, 6, 7, 8, 9, 10] [0, 11, 12, 13, 14, 15, 16, 17, 18, 19, 20, 21, 22, 23, 24, 25, 26] rfl rfl rfl rfl rfl rfl (by decide +kernel) rfl (mX2_placesBehind l dC dI cI cC sk (fun k => f (k + 1)) H.size q49 (R_minute c_rn) p3 c_lanes c_spots c_byLeaps q41.1 q41.2.1 q41.2.2 c_strong c_done c_rn q60 e60) (cwV 3 hts gX3_reach_X2_placesBehind rfl rfl rfl (by decide +kernel) ⟨Nat.le_of_ble_eq_true rfl, Nat.le_of_ble_eq_true rfl⟩) (va_recv hK hP (ci := 2) (q0 := 1) rfl rfl) (As := [.int q49, .int (R_minute c_rn), .int p3]) (rest := []) rfl hl.1 rfl (Nat.le_of_ble_eq_true rfl) dX3_reach_60 ⟨Nat.zero_le _, Nat.zero_le _⟩ (fun H locs hP hD hS => ?_)
      refine lv_istore (lv' := [(5, .int q60.1), (4, .int q17), (0, .ref (f 0)), (1, .int p1), (2, .int p2), (3, .int p3)]) hx hb dX3_reach_63 hl (by decide) rfl (fun ls hl => ?_)
      refine lv_iload hx hb dX3_reach_65 (lv_at hl 0 rfl) ?_
      refine lv_sipush (v := (511 : Int32)) hx hb dX3_reach_67 (by decide) ?_
      refine lv_iand hx hb dX3_reach_70 ?_
      refine lv_istore (lv' := [(6, .int (q60.1 &&& (511 : Int32))), (5, .int q60.1), (4, .int q17), (0, .ref (f 0)), (1, .int p1), (2, .int p2), (3, .int p3)]) hx hb dX3_reach_71 hl (by decide) rfl (fun ls hl => ?_)
      refine lv_iload hx hb dX3_reach_73 (lv_at hl 1 rfl) ?_
      refine lv_ldc hx hb hown hw3 dX3_reach_75 ?_
      refine lv_iand hx hb dX3_reach_77 ?_
      refine lv_if_eq (tgt := 90) hx hb dX3_reach_78 (by decide) (fun c78 => ?_) (fun c78 => ?_)
      · have h := itT c78 h
        refine lv_iload hx hb dX3_reach_90 (lv_at hl 0 rfl) ?_
        subst hQ
        exact retRW (zz := (((q60.1 &&& (511 : Int32)), q60.2.1, q60.2.2.1, q41.1, q41.2.1, q41.2.2, q60.2.2.2, c_refs) : Int32 × AR × AR × Int32 × Int32 × Int32 × Int32 × AR)) (fun z => z.1) (fun z => (zwX cI cC f z.2.1 z.2.2.1 c_byLeaps z.2.2.2.1 z.2.2.2.2.1 z.2.2.2.2.2.1 z.2.2.2.2.2.2.1 c_done c_rn c_rt c_letters c_size c_rp c_seen z.2.2.2.2.2.2.2 c_inRow c_isPic)) hx hb hr hlocks rfl hS h rfl hP dX3_reach_92
      have h := itF c78 h
      refine lv_iload hx hb dX3_reach_81 (lv_at hl 0 rfl) ?_
      refine lv_sipush (v := (512 : Int32)) hx hb dX3_reach_83 (by decide) ?_
      refine lv_ior hx hb dX3_reach_86 ?_
      refine lv_goto (tgt := 92) hx hb dX3_reach_87 (by decide) ?_
      subst hQ
      exact retRW (zz := ((((q60.1 &&& (511 : Int32)) ||| (512 : Int32)), q60.2.1, q60.2.2.1, q41.1, q41.2.1, q41.2.2, q60.2.2.2, c_refs) : Int32 × AR × AR × Int32 × Int32 × Int32 × Int32 × AR)) (fun z => z.1) (fun z => (zwX cI cC f z.2.1 z.2.2.1 c_byLeaps z.2.2.2.1 z.2.2.2.2.1 z.2.2.2.2.2.1 z.2.2.2.2.2.2.1 c_done c_rn c_rt c_letters c_size c_rp c_seen z.2.2.2.2.2.2.2 c_inRow c_isPic)) hx hb hr hlocks rfl hS h rfl hP dX3_reach_92
    have h := itF c24 h
    refine lv_aload_n hx hb dX3_reach_27 rfl (lv_at hl 1 rfl) ?_
    refine lv_iload hx hb dX3_reach_28 (lv_at hl 0 rfl) ?_
    obtain ⟨q30, e30, h⟩ := bd_some h
    refine g_rwA (wc := (zwX cI cC f c_lanes c_spots c_byLeaps c_load c_gone c_held c_strong c_done c_rn c_rt c_letters c_size c_rp c_seen c_refs c_inRow c_isPic)) (wc' := (zwX cI cC f c_lanes c_spots c_byLeaps c_load c_gone c_held c_strong c_done c_rn c_rt c_letters c_size c_rp c_seen q30.2 c_inRow c_isPic)) ⟨hx, hb, hml, hown, hts⟩ hE hK hA hP hD hS rfl (mX3_refuse l dC dI cI cC sk f H.size q17 c_lanes c_spots c_byLeaps c_load c_gone c_held c_strong c_done c_rn c_rt c_letters c_size c_rp c_seen c_refs c_inRow c_isPic q30 e30) (cwV 1 hts gX3_reach_X3_refuse rfl rfl rfl (by decide +kernel) ⟨Nat.le_of_ble_eq_true rfl, Nat.le_of_ble_eq_true rfl⟩) (va_recv hK hP (ci := 3) (q0 := 0) rfl rfl) (As := [.int q17]) (rest := []) rfl hl.1 rfl (Nat.le_of_ble_eq_true rfl) dX3_reach_30 ⟨Nat.zero_le _, Nat.zero_le _⟩ (fun H locs hP hD hS => ?_)
    have hP : va_P (dC, dI) vwCl (zwX cI cC f c_lanes c_spots c_byLeaps c_load c_gone c_held c_strong c_done c_rn c_rt c_letters c_size c_rp c_seen q30.2 c_inRow c_isPic) H := hP
    have hD : va_D A (zwX cI cC f c_lanes c_spots c_byLeaps c_load c_gone c_held c_strong c_done c_rn c_rt c_letters c_size c_rp c_seen q30.2 c_inRow c_isPic) := hD
    subst hQ
    exact retRW (zz := ((q30.1, c_lanes, c_spots, c_load, c_gone, c_held, c_strong, q30.2) : Int32 × AR × AR × Int32 × Int32 × Int32 × Int32 × AR)) (fun z => z.1) (fun z => (zwX cI cC f z.2.1 z.2.2.1 c_byLeaps z.2.2.2.1 z.2.2.2.2.1 z.2.2.2.2.2.1 z.2.2.2.2.2.2.1 c_done c_rn c_rt c_letters c_size c_rp c_seen z.2.2.2.2.2.2.2 c_inRow c_isPic)) hx hb hr hlocks rfl hS h rfl hP dX3_reach_33
  have h := itT c4 h
  refine lv_aload_n hx hb dX3_reach_7 rfl (lv_at hl 0 rfl) ?_
  refine lv_iconst (v := (-1 : Int32)) hx hb dX3_reach_8 (by decide) ?_
  obtain ⟨q9, e9, h⟩ := bd_some h
  refine g_rwA (wc := (zwX cI cC f c_lanes c_spots c_byLeaps c_load c_gone c_held c_strong c_done c_rn c_rt c_letters c_size c_rp c_seen c_refs c_inRow c_isPic)) (wc' := (zwX cI cC f c_lanes c_spots c_byLeaps c_load c_gone c_held c_strong c_done c_rn c_rt c_letters c_size c_rp c_seen q9.2 c_inRow c_isPic)) ⟨hx, hb, hml, hown, hts⟩ hE hK hA hP hD hS rfl (mX3_refuse l dC dI cI cC sk f H.size (-1 : Int32) c_lanes c_spots c_byLeaps c_load c_gone c_held c_strong c_done c_rn c_rt c_letters c_size c_rp c_seen c_refs c_inRow c_isPic q9 e9) (cwV 1 hts gX3_reach_X3_refuse rfl rfl rfl (by decide +kernel) ⟨Nat.le_of_ble_eq_true rfl, Nat.le_of_ble_eq_true rfl⟩) (va_recv hK hP (ci := 3) (q0 := 0) rfl rfl) (As := [.int (-1 : Int32)]) (rest := []) rfl hl.1 rfl (Nat.le_of_ble_eq_true rfl) dX3_reach_9 ⟨Nat.zero_le _, Nat.zero_le _⟩ (fun H locs hP hD hS => ?_)
  have hP : va_P (dC, dI) vwCl (zwX cI cC f c_lanes c_spots c_byLeaps c_load c_gone c_held c_strong c_done c_rn c_rt c_letters c_size c_rp c_seen q9.2 c_inRow c_isPic) H := hP
  have hD : va_D A (zwX cI cC f c_lanes c_spots c_byLeaps c_load c_gone c_held c_strong c_done c_rn c_rt c_letters c_size c_rp c_seen q9.2 c_inRow c_isPic) := hD
  subst hQ
  exact retRW (zz := ((q9.1, c_lanes, c_spots, c_load, c_gone, c_held, c_strong, q9.2) : Int32 × AR × AR × Int32 × Int32 × Int32 × Int32 × AR)) (fun z => z.1) (fun z => (zwX cI cC f z.2.1 z.2.2.1 c_byLeaps z.2.2.2.1 z.2.2.2.2.1 z.2.2.2.2.2.1 z.2.2.2.2.2.2.1 c_done c_rn c_rt c_letters c_size c_rp c_seen z.2.2.2.2.2.2.2 c_inRow c_isPic)) hx hb hr hlocks rfl hS h rfl hP dX3_reach_12
