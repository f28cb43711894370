theorem dX3_byNow_0 : decode cX3_byNow 0 = .ok (.aload_n 0, 1) := by decide +kernel
theorem dX3_byNow_1 : decode cX3_byNow 1 = .ok (.getfield 20, 3) := by decide +kernel
theorem dX3_byNow_4 : decode cX3_byNow 4 = .ok (.iload_n 2, 1) := by decide +kernel
theorem dX3_byNow_5 : decode cX3_byNow 5 = .ok (.invokevirtual 69, 3) := by decide +kernel
theorem dX3_byNow_8 : decode cX3_byNow 8 = .ok (.ifCond .ne 9, 3) := by decide +kernel
theorem dX3_byNow_11 : decode cX3_byNow 11 = .ok (.aload_n 0, 1) := by decide +kernel
theorem dX3_byNow_12 : decode cX3_byNow 12 = .ok (.iconst (-1), 1) := by decide +kernel
theorem dX3_byNow_13 : decode cX3_byNow 13 = .ok (.invokevirtual 54, 3) := by decide +kernel
theorem dX3_byNow_16 : decode cX3_byNow 16 = .ok (.ireturn, 1) := by decide +kernel
theorem dX3_byNow_17 : decode cX3_byNow 17 = .ok (.iload_n 1, 1) := by decide +kernel
theorem dX3_byNow_18 : decode cX3_byNow 18 = .ok (.iload_n 3, 1) := by decide +kernel
theorem dX3_byNow_19 : decode cX3_byNow 19 = .ok (.aload_n 0, 1) := by decide +kernel
theorem dX3_byNow_20 : decode cX3_byNow 20 = .ok (.getfield 20, 3) := by decide +kernel
theorem dX3_byNow_23 : decode cX3_byNow 23 = .ok (.getfield 86, 3) := by decide +kernel
theorem dX3_byNow_26 : decode cX3_byNow 26 = .ok (.invokestatic 119, 3) := by decide +kernel
theorem dX3_byNow_29 : decode cX3_byNow 29 = .ok (.istore 4, 2) := by decide +kernel
theorem dX3_byNow_31 : decode cX3_byNow 31 = .ok (.iload 4, 2) := by decide +kernel
theorem dX3_byNow_33 : decode cX3_byNow 33 = .ok (.ifCond .eq 10, 3) := by decide +kernel
theorem dX3_byNow_36 : decode cX3_byNow 36 = .ok (.aload_n 0, 1) := by decide +kernel
theorem dX3_byNow_37 : decode cX3_byNow 37 = .ok (.iload 4, 2) := by decide +kernel
theorem dX3_byNow_39 : decode cX3_byNow 39 = .ok (.invokevirtual 54, 3) := by decide +kernel
theorem dX3_byNow_42 : decode cX3_byNow 42 = .ok (.ireturn, 1) := by decide +kernel
theorem dX3_byNow_43 : decode cX3_byNow 43 = .ok (.aload_n 0, 1) := by decide +kernel
theorem dX3_byNow_44 : decode cX3_byNow 44 = .ok (.getfield 12, 3) := by decide +kernel
theorem dX3_byNow_47 : decode cX3_byNow 47 = .ok (.iload_n 1, 1) := by decide +kernel
theorem dX3_byNow_48 : decode cX3_byNow 48 = .ok (.iconst 0, 1) := by decide +kernel
theorem dX3_byNow_49 : decode cX3_byNow 49 = .ok (.iconst 0, 1) := by decide +kernel
theorem dX3_byNow_50 : decode cX3_byNow 50 = .ok (.invokevirtual 89, 3) := by decide +kernel
theorem dX3_byNow_53 : decode cX3_byNow 53 = .ok (.aload_n 0, 1) := by decide +kernel
theorem dX3_byNow_54 : decode cX3_byNow 54 = .ok (.getfield 12, 3) := by decide +kernel
theorem dX3_byNow_57 : decode cX3_byNow 57 = .ok (.iconst 1, 1) := by decide +kernel
theorem dX3_byNow_58 : decode cX3_byNow 58 = .ok (.iload_n 2, 1) := by decide +kernel
theorem dX3_byNow_59 : decode cX3_byNow 59 = .ok (.ishl, 1) := by decide +kernel
theorem dX3_byNow_60 : decode cX3_byNow 60 = .ok (.aload_n 0, 1) := by decide +kernel
theorem dX3_byNow_61 : decode cX3_byNow 61 = .ok (.getfield 20, 3) := by decide +kernel
theorem dX3_byNow_64 : decode cX3_byNow 64 = .ok (.getfield 86, 3) := by decide +kernel
theorem dX3_byNow_67 : decode cX3_byNow 67 = .ok (.iload_n 3, 1) := by decide +kernel
theorem dX3_byNow_68 : decode cX3_byNow 68 = .ok (.isub, 1) := by decide +kernel
theorem dX3_byNow_69 : decode cX3_byNow 69 = .ok (.iload_n 3, 1) := by decide +kernel
theorem dX3_byNow_70 : decode cX3_byNow 70 = .ok (.invokevirtual 125, 3) := by decide +kernel
theorem dX3_byNow_73 : decode cX3_byNow 73 = .ok (.sipush 255, 3) := by decide +kernel
theorem dX3_byNow_76 : decode cX3_byNow 76 = .ok (.iand, 1) := by decide +kernel
theorem dX3_byNow_77 : decode cX3_byNow 77 = .ok (.ireturn, 1) := by decide +kernel
set_option maxRecDepth 20000 in
theorem ggX3_byNow_X0_has : GoodIn wsX3_byNow wsX0_has := goodIn_r _ [7, 8, 112, 113, 114, 115, 116, 117, 118, 119] (by decide +kernel) (by decide +kernel)
set_option maxRecDepth 20000 in
theorem gX3_byNow_X0_has : GoodIn wsX3_byNow (wsV RX3 69 RX0 yX0_has wsX0_has) := goodIn_app (goodIn_of _ (by decide +kernel)) ggX3_byNow_X0_has
set_option maxRecDepth 20000 in
theorem ggX3_byNow_X3_refuse : GoodIn wsX3_byNow wsX3_refuse := goodIn_r _ [13, 14, 103, 104, 105, 106, 107, 108, 109, 110, 111] (by decide +kernel) (by decide +kernel)
set_option maxRecDepth 20000 in
theorem gX3_byNow_X3_refuse : GoodIn wsX3_byNow (wsV RX3 54 RX3 yX3_refuse wsX3_refuse) := goodIn_app (goodIn_of _ (by decide +kernel)) ggX3_byNow_X3_refuse
set_option maxRecDepth 20000 in
theorem ggX3_byNow_X3_outOfEither : GoodIn wsX3_byNow wsX3_outOfEither := goodIn_r _ [17] (by decide +kernel) (by decide +kernel)
set_option maxRecDepth 20000 in
theorem gX3_byNow_X3_outOfEither : GoodIn wsX3_byNow (va_wsS RX3 119 yX3_outOfEither wsX3_outOfEither) := goodIn_app (goodIn_of _ (by decide +kernel)) ggX3_byNow_X3_outOfEither
set_option maxRecDepth 20000 in
theorem ggX3_byNow_X2_begin : GoodIn wsX3_byNow wsX2_begin := goodIn_r _ [22, 23, 24, 25, 120, 121, 122, 123, 124, 125, 126, 127, 128] (by decide +kernel) (by decide +kernel)
set_option maxRecDepth 20000 in
theorem gX3_byNow_X2_begin : GoodIn wsX3_byNow (wsV RX3 89 RX2 yX2_begin wsX2_begin) := goodIn_app (goodIn_of _ (by decide +kernel)) ggX3_byNow_X2_begin
set_option maxRecDepth 20000 in
theorem ggX3_byNow_X2_placesBehind : GoodIn wsX3_byNow wsX2_placesBehind := goodIn_r _ [29, 30, 31, 32, 21, 33, 34, 25, 35, 36, 37, 24, 23, 38, 39, 40, 6, 41, 42, 43, 4, 5, 7, 8, 44, 45, 46, 47, 48, 49, 50, 51, 52, 53, 54, 55, 56, 57, 58, 59, 60, 61, 62, 63, 64, 65, 66, 67, 68, 69, 70, 71, 72, 73, 74, 75, 76, 77, 78, 79, 80, 81, 82, 83, 84, 85, 86, 87, 88, 89, 90, 91, 92, 93, 94, 95, 96, 97, 98, 99, 100, 101, 12, 102, 120, 121, 122, 123, 124, 125, 126, 127, 128, 112, 113, 114, 115, 116, 117, 118, 119] (by decide +kernel) (by decide +kernel)
set_option maxRecDepth 20000 in
theorem gX3_byNow_X2_placesBehind : GoodIn wsX3_byNow (wsV RX3 125 RX2 yX2_placesBehind wsX2_placesBehind) := goodIn_app (goodIn_of _ (by decide +kernel)) ggX3_byNow_X2_placesBehind
set_option maxHeartbeats 4000000 in
set_option maxRecDepth 100000 in
theorem mX3_byNow (l : Launch) (dC : Nat → ClassId) (dI : Nat → Nat → Nat) (cI cC : ClassId) (sk : (Nat → Nat) × (Nat → Nat)) (f : Nat → Nat) (sz : Nat) (p1 : Int32) (p2 : Int32) (p3 : Int32) (c_lanes : AR) (c_spots : AR) (c_byLeaps : AR) (c_load : Int32) (c_gone : Int32) (c_held : Int32) (c_strong : Int32) (c_done : Int32) (c_rn : RT) (c_rt : RT) (c_letters : AR) (c_size : Int32) (c_rp : RT) (c_seen : AR) (c_refs : AR) (c_inRow : Int32) (c_isPic : Int32) (z : Int32 × AR × AR × Int32 × Int32 × Int32 × Int32 × AR) (h : fX3_byNow p1 p2 p3 c_lanes c_spots c_load c_gone c_held c_strong c_rn c_refs = some z) : cRW l yX3_byNow wsX3_byNow (RMk 5 118) sk (dC, dI) (tyz cI cC) sz (zwX cI cC f c_lanes c_spots c_byLeaps c_load c_gone c_held c_strong c_done c_rn c_rt c_letters c_size c_rp c_seen c_refs c_inRow c_isPic) (zwX cI cC f z.2.1 z.2.2.1 c_byLeaps z.2.2.2.1 z.2.2.2.2.1 z.2.2.2.2.2.1 z.2.2.2.2.2.2.1 c_done c_rn c_rt c_letters c_size c_rp c_seen z.2.2.2.2.2.2.2 c_inRow c_isPic) [.ref (f 0), .int p1, .int p2, .int p3] z.1 := by
  refine ofRW (cc := cX3_byNow) (maxL := 5) (ret := (some .int)) (own := RX3) (plainFor_of_name (by decide)) rfl rfl (Nat.le_of_ble_eq_true rfl) ?_
  intro p e s m args below meth c A hA hx hb hml hr hts hown hlocks hE hK hP hD hS ls hl
  generalize hQ : qRW _ _ _ _ _ _ _ = Q
  have hl : lv_has ls 5 [(0, .ref (f 0)), (1, .int p1), (2, .int p2), (3, .int p3)] := hl
  have hiX0 : ∀ w ∈ wsX00, w ∈ wsX3_byNow := fun w h => List.mem_cons_of_mem _ (List.mem_append_left _ (List.mem_append_right _ h))
  have hiX3 : ∀ w ∈ wsX30, w ∈ wsX3_byNow := fun w h => List.mem_cons_of_mem _ (List.mem_append_left _ (List.mem_append_left _ (List.mem_append_right _ h)))
  have hw1 := hts (Cond.fieldLink RX3 20 "FloeToFloe" "now" "LFloeToFloe$River;") (List.mem_of_getElem? (i := 1) rfl)
  have hw2 := hts (Cond.fieldLink RX3 12 "FloeToFloe" "walk" "LFloeToFloe$Walk;") (List.mem_of_getElem? (i := 2) rfl)
  have hnw4 : (Cond.fieldLinkNest "FloeToFloe" 86 "FloeToFloe$River" "minute" "I" "FloeToFloe").before args s = true := va_Nw.use rfl (hE.1 4 _ rfl)
  rw [fX3_byNow] at h
  refine lv_aload_n hx hb dX3_byNow_0 rfl (lv_at hl 0 rfl) ?_
  refine va_get (D := (dC, dI)) (ci := 3) (v := .ref (f 5)) (C := RX3) (T := TX3) (N := 9) hx hb hts hiX3 hown hK hP 0 rfl rfl 1 (by decide) hw1 (fun _ h9 => h9) rfl dX3_byNow_1 ?_
  refine lv_iload_n hx hb dX3_byNow_4 rfl (lv_at hl 2 rfl) ?_
  obtain ⟨q5, e5, h⟩ := bd_some h
  refine g_roV (wc := (zwR cI cC (fun k => f (k + 5)) c_rn)) ⟨hx, hb, hml, hown, hts⟩ hE hK hP hS [5, 6, 7, 8, 9, 10] rfl (mX0_has l dC dI cI cC sk (fun k => f (k + 5)) p2 c_rn q5 e5) (cwV 1 hts gX3_byNow_X0_has rfl rfl rfl (by decide +kernel) ⟨Nat.le_of_ble_eq_true rfl, Nat.le_of_ble_eq_true rfl⟩) (va_recv hK hP (ci := 0) (q0 := 5) rfl rfl) (As := [.int p2]) (rest := []) rfl hl.1 rfl (Nat.le_of_ble_eq_true rfl) dX3_byNow_5 ⟨Nat.zero_le _, Nat.zero_le _⟩ (fun H locs hP hS => ?_)
  refine lv_if_ne (tgt := 17) hx hb dX3_byNow_8 (by decide) (fun c8 => ?_) (fun c8 => ?_)
  · have h := itF c8 h
    refine lv_iload_n hx hb dX3_byNow_17 rfl (lv_at hl 1 rfl) ?_
    refine lv_iload_n hx hb dX3_byNow_18 rfl (lv_at hl 3 rfl) ?_
    refine lv_aload_n hx hb dX3_byNow_19 rfl (lv_at hl 0 rfl) ?_
    refine va_get (D := (dC, dI)) (ci := 3) (v := .ref (f 5)) (C := RX3) (T := TX3) (N := 9) hx hb hts hiX3 hown hK hP 0 rfl rfl 1 (by decide) hw1 (fun _ h9 => h9) rfl dX3_byNow_20 ?_
    refine va_getN (D := (dC, dI)) (ci := 0) (v := .int (R_minute c_rn)) (C := RX0) (T := TX0) (N := 8) hx hb hts hiX0 hown hK hP 5 rfl rfl 7 (by decide) hnw4 (fun _ h9 => h9) rfl dX3_byNow_23 ?_
    obtain ⟨q26, e26, h⟩ := bd_some h
    refine g_roS (wc := ([] : va_W)) ⟨hx, hb, hml, hown, hts⟩ hE hK hP hS [] rfl (mX3_outOfEither l dC dI cI cC sk  p1 p3 (R_minute c_rn) q26 e26) (va_cwS 3 hts gX3_byNow_X3_outOfEither rfl rfl rfl (by decide +kernel) ⟨Nat.le_of_ble_eq_true rfl, Nat.le_of_ble_eq_true rfl⟩) (As := [.int p1, .int p3, .int (R_minute c_rn)]) (rest := []) rfl hl.1 rfl (Nat.le_of_ble_eq_true rfl) dX3_byNow_26 ⟨Nat.zero_le _, Nat.zero_le _⟩ (fun H locs hP hS => ?_)
    refine lv_istore (lv' := [(4, .int q26), (0, .ref (f 0)), (1, .int p1), (2, .int p2), (3, .int p3)]) hx hb dX3_byNow_29 hl (by decide) rfl (fun ls hl => ?_)
    refine lv_iload hx hb dX3_byNow_31 (lv_at hl 0 rfl) ?_
    refine lv_if_eq (tgt := 43) hx hb dX3_byNow_33 (by decide) (fun c33 => ?_) (fun c33 => ?_)
    · have h := itT c33 h
      refine lv_aload_n hx hb dX3_byNow_43 rfl (lv_at hl 1 rfl) ?_
      refine va_get (D := (dC, dI)) (ci := 3) (v := .ref (f 1)) (C := RX3) (T := TX3) (N := 9) hx hb hts hiX3 hown hK hP 0 rfl rfl 0 (by decide) hw2 (fun _ h9 => h9) rfl dX3_byNow_44 ?_
      refine lv_iload_n hx hb dX3_byNow_47 rfl (lv_at hl 2 rfl) ?_
      refine lv_iconst (v := (0 : Int32)) hx hb dX3_byNow_48 (by decide) ?_
      refine lv_iconst (v := (0 : Int32)) hx hb dX3_byNow_49 (by decide) ?_
      obtain ⟨q50, e50, h⟩ := bd_some h
      refine g_rvV (wc := (zwV cI cC (fun k => f (k + 1)) c_lanes c_spots c_byLeaps c_load c_gone c_held c_strong c_done c_rn)) (wc' := (zwV cI cC (fun k => f (k + 1)) c_lanes c_spots c_byLeaps q50.1 q50.2.1 q50.2.2 c_strong c_done c_rn)) (ws' := (zwX cI cC f c_lanes c_spots c_byLeaps q50.1 q50.2.1 q50.2.2 c_strong c_done c_rn c_rt c_letters c_size c_rp c_seen c_refs c_inRow c_isPic)) (wr := [(f 0, .inr (3, [.ref (f 1), .ref (f 5), .ref (f 11), .ref (f 19), .ref (f 17), .ref (f 25), .ref (f 26), .int c_inRow, .int c_isPic])), (f 11, .inr (0, [.ref (f 12), .ref (f 13), .ref (f 14), .ref (f 15), .ref (f 16), .int (R_lanes c_rt), .int (R_floes c_rt), .int (R_minute c_rt)])), (f 12, .inl (cI, 8, .inl (R_kinds c_rt))), (f 13, .inl (cI, 8, .inl (R_homes c_rt))), (f 14, .inl (cI, 8, .inl (R_cells c_rt))), (f 15, .inl (cI, 8, .inl (R_paces c_rt))), (f 16, .inl (cI, 8, .inl (R_strengths c_rt))), (f 17, .inr (1, [.ref (f 18), .int c_size])), (f 18, .inl (cC, 80, .inl c_letters)), (f 19, .inr (0, [.ref (f 20), .ref (f 21), .ref (f 22), .ref (f 23), .ref (f 24), .int (R_lanes c_rp), .int (R_floes c_rp), .int (R_minute c_rp)])), (f 20, .inl (cI, 8, .inl (R_kinds c_rp))), (f 21, .inl (cI, 8, .inl (R_homes c_rp))), (f 22, .inl (cI, 8, .inl (R_cells c_rp))), (f 23, .inl (cI, 8, .inl (R_paces c_rp))), (f 24, .inl (cI, 8, .inl (R_strengths c_rp))), (f 25, .inl (cI, 12, .inl c_seen)), (f 26, .inl (cI, 7, .inl c_refs))]) (nw := 27) ⟨hx, hb, hml, hown, hts⟩ hE hK hA hP hD hS [1, 2, 3, 4, 5, 6, 7, 8, 9, 10] [0, 11, 12, 13, 14, 15, 16, 17, 18, 19, 20, 21, 22, 23, 24, 25, 26] rfl rfl rfl rfl rfl rfl (by decide +kernel) rfl (mX2_begin l dC dI cI cC sk (fun k => f (k + 1)) H.size p1 (0 : Int32) (0 : Int32) c_lanes c_spots c_byLeaps c_load c_gone c_held c_strong c_done c_rn q50 e50) (cwV 3 hts gX3_byNow_X2_begin rfl rfl rfl (by decide +kernel) ⟨Nat.le_of_ble_eq_true rfl, Nat.le_of_ble_eq_true rfl⟩) (va_recv hK hP (ci := 2) (q0 := 1) rfl rfl) (As := [.int p1, .int (0 : Int32), .int (0 : Int32)]) (rest := []) rfl hl.1 rfl (Nat.le_of_ble_eq_true rfl) dX3_byNow_50 ⟨Nat.zero_le _, Nat.zero_le _⟩ (fun H locs hP hD hS => ?_)
      refine lv_aload_n hx hb dX3_byNow_53 rfl (lv_at hl 1 rfl) ?_
      refine va_get (D := (dC, dI)) (ci := 3) (v := .ref (f 1)) (C := RX3) (T := TX3) (N := 9) hx hb hts hiX3 hown hK hP 0 rfl rfl 0 (by decide) hw2 (fun _ h9 => h9) rfl dX3_byNow_54 ?_
      refine lv_iconst (v := (1 : Int32)) hx hb dX3_byNow_57 (by decide) ?_
      refine lv_iload_n hx hb dX3_byNow_58 rfl (lv_at hl 3 rfl) ?_
      refine lv_ishl hx hb dX3_byNow_59 ?_
      refine lv_aload_n hx hb dX3_byNow_60 rfl (lv_at hl 1 rfl) ?_
      refine va_get (D := (dC, dI)) (ci := 3) (v := .ref (f 5)) (C := RX3) (T := TX3) (N := 9) hx hb hts hiX3 hown hK hP 0 rfl rfl 1 (by decide) hw1 (fun _ h9 => h9) rfl dX3_byNow_61 ?_
      refine va_getN (D := (dC, dI)) (ci := 0) (v := .int (R_minute c_rn)) (C := RX0) (T := TX0) (N := 8) hx hb hts hiX0 hown hK hP 5 rfl rfl 7 (by decide) hnw4 (fun _ h9 => h9) rfl dX3_byNow_64 ?_
      refine lv_iload_n hx hb dX3_byNow_67 rfl (lv_at hl 4 rfl) ?_
      refine lv_isub hx hb dX3_byNow_68 ?_
      refine lv_iload_n hx hb dX3_byNow_69 rfl (lv_at hl 4 rfl) ?_
      obtain ⟨q70, e70, h⟩ := bd_some h
      refine g_rwV (wc := (zwV cI cC (fun k => f (k + 1)) c_lanes c_spots c_byLeaps q50.1 q50.2.1 q50.2.2 c_strong c_done c_rn)) (wc' := (zwV cI cC (fun k => f (k + 1)) q70.2.1 q70.2.2.1 c_byLeaps q50.1 q50.2.1 q50.2.2 q70.2.2.2 c_done c_rn)) (ws' := (zwX cI cC f q70.2.1 q70.2.2.1 c_byLeaps q50.1 q50.2.1 q50.2.2 q70.2.2.2 c_done c_rn c_rt c_letters c_size c_rp c_seen c_refs c_inRow c_isPic)) (wr := [(f 0, .inr (3, [.ref (f 1), .ref (f 5), .ref (f 11), .ref (f 19), .ref (f 17), .ref (f 25), .ref (f 26), .int c_inRow, .int c_isPic])), (f 11, .inr (0, [.ref (f 12), .ref (f 13), .ref (f 14), .ref (f 15), .ref (f 16), .int (R_lanes c_rt), .int (R_floes c_rt), .int (R_minute c_rt)])), (f 12, .inl (cI, 8, .inl (R_kinds c_rt))), (f 13, .inl (cI, 8, .inl (R_homes c_rt))), (f 14, .inl (cI, 8, .inl (R_cells c_rt))), (f 15, .inl (cI, 8, .inl (R_paces c_rt))), (f 16, .inl (cI, 8, .inl (R_strengths c_rt))), (f 17, .inr (1, [.ref (f 18), .int c_size])), (f 18, .inl (cC, 80, .inl c_letters)), (f 19, .inr (0, [.ref (f 20), .ref (f 21), .ref (f 22), .ref (f 23), .ref (f 24), .int (R_lanes c_rp), .int (R_floes c_rp), .int (R_minute c_rp)])), (f 20, .inl (cI, 8, .inl (R_kinds c_rp))), (f 21, .inl (cI, 8, .inl (R_homes c_rp))), (f 22, .inl (cI, 8, .inl (R_cells c_rp))), (f 23, .inl (cI, 8, .inl (R_paces c_rp))), (f 24, .inl (cI, 8, .inl (R_strengths c_rp))), (f 25, .inl (cI, 12, .inl c_seen)), (f 26, .inl (cI, 7, .inl c_refs))]) (nw := 27) ⟨hx, hb, hml, hown, hts⟩ hE hK hA hP hD hS [1, 2, 3, 4, 5, 6, 7, 8, 9, 10] [0, 11, 12, 13, 14, 15, 16, 17, 18, 19, 20, 21, 22, 23, 24, 25, 26] rfl rfl rfl rfl rfl rfl (by decide +kernel) rfl (mX2_placesBehind l dC dI cI cC sk (fun k => f (k + 1)) H.size ((1 : Int32) <<< (p2 &&& 31)) ((R_minute c_rn) - p3) p3 c_lanes c_spots c_byLeaps q50.1 q50.2.1 q50.2.2 c_strong c_done c_rn q70 e70) (cwV 3 hts gX3_byNow_X2_placesBehind rfl rfl rfl (by decide +kernel) ⟨Nat.le_of_ble_eq_true rfl, Nat.le_of_ble_eq_true rfl⟩) (va_recv hK hP (ci := 2) (q0 := 1) rfl rfl) (As := [.int ((1 : Int32) <<< (p2 &&& 31)), .int ((R_minute c_rn) - p3), .int p3]) (rest := []) rfl hl.1 rfl (Nat.le_of_ble_eq_true rfl) dX3_byNow_70 ⟨Nat.zero_le _, Nat.zero_le _⟩ (fun H locs hP hD hS => ?_)
      refine lv_sipush (v := (255 : Int32)) hx hb dX3_byNow_73 (by decide) ?_
      refine lv_iand hx hb dX3_byNow_76 ?_
      subst hQ
      exact retRW (zz := (((q70.1 &&& (255 : Int32)), q70.2.1, q70.2.2.1, q50.1, q50.2.1, q50.2.2, q70.2.2.2, c_refs) : Int32 × AR × AR × Int32 × Int32 × Int32 × Int32 × AR)) (fun z => z.1) (fun z => (zwX cI cC f z.2.1 z.2.2.1 c_byLeaps z.2.2.2.1 z.2.2.2.2.1 z.2.2.2.2.2.1 z.2.2.2.2.2.2.1 c_done c_rn c_rt c_letters c_size c_rp c_seen z.2.2.2.2.2.2.2 c_inRow c_isPic)) hx hb hr hlocks rfl hS h rfl hP dX3_byNow_77
    have h := itF c33 h
    refine lv_aload_n hx hb dX3_byNow_36 rfl (lv_at hl 1 rfl) ?_
    refine lv_iload hx hb dX3_byNow_37 (lv_at hl 0 rfl) ?_
    obtain ⟨q39, e39, h⟩ := bd_some h
    refine g_rwA (wc := (zwX cI cC f c_lanes c_spots c_byLeaps c_load c_gone c_held c_strong c_done c_rn c_rt c_letters c_size c_rp c_seen c_refs c_inRow c_isPic)) (wc' := (zwX cI cC f c_lanes c_spots c_byLeaps c_load c_gone c_held c_strong c_done c_rn c_rt c_letters c_size c_rp c_seen q39.2 c_inRow c_isPic)) ⟨hx, hb, hml, hown, hts⟩ hE hK hA hP hD hS rfl (mX3_refuse l dC dI cI cC sk f H.size q26 c_lanes c_spots c_byLeaps c_load c_gone c_held c_strong c_done c_rn c_rt c_letters c_size c_rp c_seen c_refs c_inRow c_isPic q39 e39) (cwV 1 hts gX3_byNow_X3_refuse rfl rfl rfl (by decide +kernel) ⟨Nat.le_of_ble_eq_true rfl, Nat.le_of_ble_eq_true rfl⟩) (va_recv hK hP (ci := 3) (q0 := 0) rfl rfl) (As := [.int q26]) (rest := []) rfl hl.1 rfl (Nat.le_of_ble_eq_true rfl) dX3_byNow_39 ⟨Nat.zero_le _, Nat.zero_le _⟩ (fun H locs hP hD hS => ?_)
    have hP : va_P (dC, dI) vwCl (zwX cI cC f c_lanes c_spots c_byLeaps c_load c_gone c_held c_strong c_done c_rn c_rt c_letters c_size c_rp c_seen q39.2 c_inRow c_isPic) H := hP
    have hD : va_D A (zwX cI cC f c_lanes c_spots c_byLeaps c_load c_gone c_held c_strong c_done c_rn c_rt c_letters c_size c_rp c_seen q39.2 c_inRow c_isPic) := hD
    subst hQ
    exact retRW (zz := ((q39.1, c_lanes, c_spots, c_load, c_gone, c_held, c_strong, q39.2) : Int32 × AR × AR × Int32 × Int32 × Int32 × Int32 × AR)) (fun z => z.1) (fun z => (zwX cI cC f z.2.1 z.2.2.1 c_byLeaps z.2.2.2.1 z.2.2.2.2.1 z.2.2.2.2.2.1 z.2.2.2.2.2.2.1 c_done c_rn c_rt c_letters c_size c_rp c_seen z.2.2.2.2.2.2.2 c_inRow c_isPic)) hx hb hr hlocks rfl hS h rfl hP dX3_byNow_42
  have h := itT c8 h
  refine lv_aload_n hx hb dX3_byNow_11 rfl (lv_at hl 0 rfl) ?_
  refine lv_iconst (v := (-1 : Int32)) hx hb dX3_byNow_12 (by decide) ?_
  obtain ⟨q13, e13, h⟩ := bd_some h
  refine g_rwA (wc := (zwX cI cC f c_lanes c_spots c_byLeaps c_load c_gone c_held c_strong c_done c_rn c_rt c_letters c_size c_rp c_seen c_refs c_inRow c_isPic)) (wc' := (zwX cI cC f c_lanes c_spots c_byLeaps c_load c_gone c_held c_strong c_done c_rn c_rt c_letters c_size c_rp c_seen q13.2 c_inRow c_isPic)) ⟨hx, hb, hml, hown, hts⟩ hE hK hA hP hD hS rfl (mX3_refuse l dC dI cI cC sk f H.size (-1 : Int32) c_lanes c_spots c_byLeaps c_load c_gone c_held c_strong c_done c_rn c_rt c_letters c_size c_rp c_seen c_refs c_inRow c_isPic q13 e13) (cwV 1 hts gX3_byNow_X3_refuse rfl rfl rfl (by decide +kernel) ⟨Nat.le_of_ble_eq_true rfl, Nat.le_of_ble_eq_true rfl⟩) (va_recv hK hP (ci := 3) (q0 := 0) rfl rfl) (As := [.int (-1 : Int32)]) (rest := []) rfl hl.1 rfl (Nat.le_of_ble_eq_true rfl) dX3_byNow_13 ⟨Nat.zero_le _, Nat.zero_le _⟩ (fun H locs hP hD hS => ?_)
  have hP : va_P (dC, dI) vwCl (zwX cI cC f c_lanes c_spots c_byLeaps c_load c_gone c_held c_strong c_done c_rn c_rt c_letters c_size c_rp c_seen q13.2 c_inRow c_isPic) H := hP
  have hD : va_D A (zwX cI cC f c_lanes c_spots c_byLeaps c_load c_gone c_held c_strong c_done c_rn c_rt c_letters c_size c_rp c_seen q13.2 c_inRow c_isPic) := hD
  subst hQ
  exact retRW (zz := ((q13.1, c_lanes, c_spots, c_load, c_gone, c_held, c_strong, q13.2) : Int32 × AR × AR × Int32 × Int32 × Int32 × Int32 × AR)) (fun z => z.1) (fun z => (zwX cI cC f z.2.1 z.2.2.1 c_byLeaps z.2.2.2.1 z.2.2.2.2.1 z.2.2.2.2.2.1 z.2.2.2.2.2.2.1 c_done c_rn c_rt c_letters c_size c_rp c_seen z.2.2.2.2.2.2.2 c_inRow c_isPic)) hx hb hr hlocks rfl hS h rfl hP dX3_byNow_16
