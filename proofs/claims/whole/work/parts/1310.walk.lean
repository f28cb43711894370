theorem dX2_follow_0 : decode cX2_follow 0 = .ok (.iload_n 3, 1) := by decide +kernel
theorem dX2_follow_1 : decode cX2_follow 1 = .ok (.istore 4, 2) := by decide +kernel
theorem dX2_follow_3 : decode cX2_follow 3 = .ok (.aload_n 0, 1) := by decide +kernel
theorem dX2_follow_4 : decode cX2_follow 4 = .ok (.iconst 0, 1) := by decide +kernel
theorem dX2_follow_5 : decode cX2_follow 5 = .ok (.putfield 72, 3) := by decide +kernel
theorem dX2_follow_8 : decode cX2_follow 8 = .ok (.aload_n 0, 1) := by decide +kernel
theorem dX2_follow_9 : decode cX2_follow 9 = .ok (.getfield 72, 3) := by decide +kernel
theorem dX2_follow_12 : decode cX2_follow 12 = .ok (.iload_n 2, 1) := by decide +kernel
theorem dX2_follow_13 : decode cX2_follow 13 = .ok (.if_icmp .ge 67, 3) := by decide +kernel
theorem dX2_follow_16 : decode cX2_follow 16 = .ok (.aload_n 0, 1) := by decide +kernel
theorem dX2_follow_17 : decode cX2_follow 17 = .ok (.getfield 72, 3) := by decide +kernel
theorem dX2_follow_20 : decode cX2_follow 20 = .ok (.aload_n 1, 1) := by decide +kernel
theorem dX2_follow_21 : decode cX2_follow 21 = .ok (.arraylength, 1) := by decide +kernel
theorem dX2_follow_22 : decode cX2_follow 22 = .ok (.if_icmp .ge 58, 3) := by decide +kernel
theorem dX2_follow_25 : decode cX2_follow 25 = .ok (.aload_n 0, 1) := by decide +kernel
theorem dX2_follow_26 : decode cX2_follow 26 = .ok (.aload_n 0, 1) := by decide +kernel
theorem dX2_follow_27 : decode cX2_follow 27 = .ok (.getfield 12, 3) := by decide +kernel
theorem dX2_follow_30 : decode cX2_follow 30 = .ok (.getfield 45, 3) := by decide +kernel
theorem dX2_follow_33 : decode cX2_follow 33 = .ok (.aload_n 0, 1) := by decide +kernel
theorem dX2_follow_34 : decode cX2_follow 34 = .ok (.getfield 72, 3) := by decide +kernel
theorem dX2_follow_37 : decode cX2_follow 37 = .ok (.iadd, 1) := by decide +kernel
theorem dX2_follow_38 : decode cX2_follow 38 = .ok (.invokevirtual 62, 3) := by decide +kernel
theorem dX2_follow_41 : decode cX2_follow 41 = .ok (.aload_n 0, 1) := by decide +kernel
theorem dX2_follow_42 : decode cX2_follow 42 = .ok (.iload 4, 2) := by decide +kernel
theorem dX2_follow_44 : decode cX2_follow 44 = .ok (.aload_n 1, 1) := by decide +kernel
theorem dX2_follow_45 : decode cX2_follow 45 = .ok (.aload_n 0, 1) := by decide +kernel
theorem dX2_follow_46 : decode cX2_follow 46 = .ok (.getfield 72, 3) := by decide +kernel
theorem dX2_follow_49 : decode cX2_follow 49 = .ok (.iaload, 1) := by decide +kernel
theorem dX2_follow_50 : decode cX2_follow 50 = .ok (.invokevirtual 75, 3) := by decide +kernel
theorem dX2_follow_53 : decode cX2_follow 53 = .ok (.istore 5, 2) := by decide +kernel
theorem dX2_follow_55 : decode cX2_follow 55 = .ok (.iload 5, 2) := by decide +kernel
theorem dX2_follow_57 : decode cX2_follow 57 = .ok (.ifCond .ne 6, 3) := by decide +kernel
theorem dX2_follow_60 : decode cX2_follow 60 = .ok (.iload 4, 2) := by decide +kernel
theorem dX2_follow_62 : decode cX2_follow 62 = .ok (.ireturn, 1) := by decide +kernel
theorem dX2_follow_63 : decode cX2_follow 63 = .ok (.iload 5, 2) := by decide +kernel
theorem dX2_follow_65 : decode cX2_follow 65 = .ok (.istore 4, 2) := by decide +kernel
theorem dX2_follow_67 : decode cX2_follow 67 = .ok (.aload_n 0, 1) := by decide +kernel
theorem dX2_follow_68 : decode cX2_follow 68 = .ok (.dup, 1) := by decide +kernel
theorem dX2_follow_69 : decode cX2_follow 69 = .ok (.getfield 72, 3) := by decide +kernel
theorem dX2_follow_72 : decode cX2_follow 72 = .ok (.iconst 1, 1) := by decide +kernel
theorem dX2_follow_73 : decode cX2_follow 73 = .ok (.iadd, 1) := by decide +kernel
theorem dX2_follow_74 : decode cX2_follow 74 = .ok (.putfield 72, 3) := by decide +kernel
theorem dX2_follow_77 : decode cX2_follow 77 = .ok (.goto (-69), 3) := by decide +kernel
theorem dX2_follow_80 : decode cX2_follow 80 = .ok (.iload 4, 2) := by decide +kernel
theorem dX2_follow_82 : decode cX2_follow 82 = .ok (.ireturn, 1) := by decide +kernel
set_option maxRecDepth 20000 in
theorem ggX2_follow_X2_look : GoodIn wsX2_follow wsX2_look := goodIn_r _ [7, 8, 9, 10, 2, 11, 12, 13, 14, 15, 16, 17, 18, 19, 20, 21, 22, 23, 24, 25, 26, 27, 28, 29, 30, 31, 32, 33, 34, 35, 36, 37, 38, 39, 40, 41, 42, 43, 44, 45, 46, 47, 48, 86, 87, 88, 89, 90, 91, 92, 93, 94, 95, 96, 97, 98, 99, 100, 101, 102] (by decide +kernel) (by decide +kernel)
set_option maxRecDepth 20000 in
theorem gX2_follow_X2_look : GoodIn wsX2_follow (wsV RX2 62 RX2 yX2_look wsX2_look) := goodIn_app (goodIn_of _ (by decide +kernel)) ggX2_follow_X2_look
set_option maxRecDepth 20000 in
theorem ggX2_follow_X2_placeBehindAct : GoodIn wsX2_follow wsX2_placeBehindAct := goodIn_r _ [52, 53, 54, 55, 56, 6, 57, 58, 8, 59, 60, 61, 62, 63, 64, 65, 66, 67, 68, 10, 11, 69, 70, 71, 72, 73, 74, 75, 2, 76, 77, 47, 78, 39, 21, 22, 17, 23, 24, 79, 80, 81, 82, 83, 84, 85, 86, 87, 88, 89, 90, 91, 92, 93, 94, 95, 96, 97, 98, 99, 100, 101, 102] (by decide +kernel) (by decide +kernel)
set_option maxRecDepth 20000 in
theorem gX2_follow_X2_placeBehindAct : GoodIn wsX2_follow (wsV RX2 75 RX2 yX2_placeBehindAct wsX2_placeBehindAct) := goodIn_app (goodIn_of _ (by decide +kernel)) ggX2_follow_X2_placeBehindAct
set_option maxHeartbeats 4000000 in
set_option maxRecDepth 100000 in
theorem mX2_follow (l : Launch) (dC : Nat → ClassId) (dI : Nat → Nat → Nat) (cI cC : ClassId) (sk : (Nat → Nat) × (Nat → Nat)) (f : Nat → Nat) (g : Nat → Nat) (sz : Nat) (p2 : Int32) (p3 : Int32) (c_lanes : AR) (c_spots : AR) (c_byLeaps : AR) (c_load : Int32) (c_gone : Int32) (c_held : Int32) (c_strong : Int32) (c_done : Int32) (c_r : RT) (c_acts : AR) (z : Int32 × AR × AR × Int32 × Int32) (h : fX2_follow p2 p3 c_lanes c_spots c_load c_gone c_held c_strong c_r c_acts = some z) : cRW l yX2_follow wsX2_follow (RMk 4 93) sk (dC, dI) (tyz cI cC) sz (zwVA cI cC f g c_lanes c_spots c_byLeaps c_load c_gone c_held c_strong c_done c_r c_acts) (zwVA cI cC f g z.2.1 z.2.2.1 c_byLeaps c_load c_gone c_held z.2.2.2.1 z.2.2.2.2 c_r c_acts) [.ref (f 0), .ref (g 0), .int p2, .int p3] z.1 := by
  refine ofRW (cc := cX2_follow) (maxL := 6) (ret := (some .int)) (own := RX2) (plainFor_of_name (by decide)) rfl rfl (Nat.le_of_ble_eq_true rfl) ?_
  intro p e s m args below meth c A hA hx hb hml hr hts hown hlocks hE hK hP hD hS ls hl
  generalize hQ : qRW _ _ _ _ _ _ _ = Q
  have hl : lv_has ls 6 [(0, .ref (f 0)), (1, .ref (g 0)), (2, .int p2), (3, .int p3)] := hl
  have hiX0 : ∀ w ∈ wsX00, w ∈ wsX2_follow := fun w h => List.mem_cons_of_mem _ (List.mem_append_right _ h)
  have hiX2 : ∀ w ∈ wsX20, w ∈ wsX2_follow := fun w h => List.mem_cons_of_mem _ (List.mem_append_left _ (List.mem_append_right _ h))
  have hw1 := hts (Cond.fieldLink RX2 72 "FloeToFloe$Walk" "done" "I") (List.mem_of_getElem? (i := 1) rfl)
  have hw2 := hts (Cond.fieldLink RX2 12 "FloeToFloe$Walk" "river" "LFloeToFloe$River;") (List.mem_of_getElem? (i := 2) rfl)
  have hnw3 : (Cond.fieldLinkNest "FloeToFloe$Walk" 45 "FloeToFloe$River" "minute" "I" "FloeToFloe").before args s = true := va_Nw.use rfl (hE.1 3 _ rfl)
  rw [fX2_follow] at h
  refine lv_iload_n hx hb dX2_follow_0 rfl (lv_at hl 3 rfl) ?_
  refine lv_istore (lv' := [(4, .int p3), (0, .ref (f 0)), (1, .ref (g 0)), (2, .int p2), (3, .int p3)]) hx hb dX2_follow_1 hl (by decide) rfl (fun ls hl => ?_)
  refine lv_aload_n hx hb dX2_follow_3 rfl (lv_at hl 1 rfl) ?_
  refine lv_iconst (v := (0 : Int32)) hx hb dX2_follow_4 (by decide) ?_
  refine va_put (D := (dC, dI)) (ci := 2) (v := .int (0 : Int32)) (ty := .int) (C := RX2) (T := TX2) (N := 9) hx hb hts hiX2 tyX2 tyX2_ok nmX2 hown hK hP hD hS 0 rfl rfl 8 (by decide) hw1 (fun _ h9 => h9) rfl (by decide +kernel) rfl rfl (Nat.le_of_ble_eq_true rfl) dX2_follow_5 (fun H locs hP hD hS => ?_)
  have hP : va_P (dC, dI) vwCl (zwVA cI cC f g c_lanes c_spots c_byLeaps c_load c_gone c_held c_strong (0 : Int32) c_r c_acts) H := hP
  have hD : va_D A (zwVA cI cC f g c_lanes c_spots c_byLeaps c_load c_gone c_held c_strong (0 : Int32) c_r c_acts) := hD
  have L8 : ∀ (K8 : Int32 → AR → AR → Int32 → Int32 → Option (Int32 × AR × AR × Int32 × Int32)), (∀ (k8_4 : Int32) (k8_lanes : AR) (k8_spots : AR) (k8_strong : Int32) (k8_done : Int32), K8 k8_4 k8_lanes k8_spots k8_strong k8_done = some z → ∀ (H : Heap) (locs : List Loc) (ls : Array Slot), va_P (dC, dI) vwCl (zwVA cI cC f g k8_lanes k8_spots c_byLeaps c_load c_gone c_held k8_strong k8_done c_r c_acts) H → va_D A (zwVA cI cC f g k8_lanes k8_spots c_byLeaps c_load c_gone c_held k8_strong k8_done c_r c_acts) → va_S A s.heap H locs → lv_has ls 6 [(4, .int k8_4)] → W p l e (RMk 4 93) s m args below meth c H locs 0 0 Q (F0 m 80 ls [])) → ∀ (n : Nat) (x8_4 : Int32) (x8_lanes : AR) (x8_spots : AR) (x8_strong : Int32) (x8_done : Int32), fX2_follow_L8 c_acts c_gone c_held c_load c_r p2 K8 n x8_4 x8_lanes x8_spots x8_strong x8_done = some z → ∀ (H : Heap) (locs : List Loc) (ls : Array Slot), va_P (dC, dI) vwCl (zwVA cI cC f g x8_lanes x8_spots c_byLeaps c_load c_gone c_held x8_strong x8_done c_r c_acts) H → va_D A (zwVA cI cC f g x8_lanes x8_spots c_byLeaps c_load c_gone c_held x8_strong x8_done c_r c_acts) → va_S A s.heap H locs → lv_has ls 6 [(0, .ref (f 0)), (1, .ref (g 0)), (2, .int p2), (4, .int x8_4)] → W p l e (RMk 4 93) s m args below meth c H locs 0 0 Q (F0 m 8 ls []) := by
    intro K8 kx8 n
    induction n with
    | zero => intro x8_4 x8_lanes x8_spots x8_strong x8_done h; rw [fX2_follow_L8] at h; cases h
    | succ n ih8 =>
      intro x8_4 x8_lanes x8_spots x8_strong x8_done h H locs ls hP hD hS hl
      rw [fX2_follow_L8] at h
      refine lv_aload_n hx hb dX2_follow_8 rfl (lv_at hl 0 rfl) ?_
      refine va_get (D := (dC, dI)) (ci := 2) (v := .int x8_done) (C := RX2) (T := TX2) (N := 9) hx hb hts hiX2 hown hK hP 0 rfl rfl 8 (by decide) hw1 (fun _ h9 => h9) rfl dX2_follow_9 ?_
      refine lv_iload_n hx hb dX2_follow_12 rfl (lv_at hl 2 rfl) ?_
      refine lv_icmp_ge (tgt := 80) hx hb dX2_follow_13 (by decide) (fun c13 => ?_) (fun c13 => ?_)
      · have h := itT c13 h
        exact kx8 _ _ _ _ _ h _ _ _ hP hD hS (lv_sub hl [3] rfl)
      have h := itF c13 h
      refine lv_aload_n hx hb dX2_follow_16 rfl (lv_at hl 0 rfl) ?_
      refine va_get (D := (dC, dI)) (ci := 2) (v := .int x8_done) (C := RX2) (T := TX2) (N := 9) hx hb hts hiX2 hown hK hP 0 rfl rfl 8 (by decide) hw1 (fun _ h9 => h9) rfl dX2_follow_17 ?_
      refine lv_aload_n hx hb dX2_follow_20 rfl (lv_at hl 1 rfl) ?_
      refine va_alen hx hb hK hP 10 0 rfl rfl (v := (12 : Int32)) rfl dX2_follow_21 ?_
      refine lv_icmp_ge (tgt := 80) hx hb dX2_follow_22 (by decide) (fun c22 => ?_) (fun c22 => ?_)
      · have h := itT c22 h
        exact kx8 _ _ _ _ _ h _ _ _ hP hD hS (lv_sub hl [3] rfl)
      have h := itF c22 h
      refine lv_aload_n hx hb dX2_follow_25 rfl (lv_at hl 0 rfl) ?_
      refine lv_aload_n hx hb dX2_follow_26 rfl (lv_at hl 0 rfl) ?_
      refine va_get (D := (dC, dI)) (ci := 2) (v := .ref (f 4)) (C := RX2) (T := TX2) (N := 9) hx hb hts hiX2 hown hK hP 0 rfl rfl 0 (by decide) hw2 (fun _ h9 => h9) rfl dX2_follow_27 ?_
      refine va_getN (D := (dC, dI)) (ci := 0) (v := .int (R_minute c_r)) (C := RX0) (T := TX0) (N := 8) hx hb hts hiX0 hown hK hP 4 rfl rfl 7 (by decide) hnw3 (fun _ h9 => h9) rfl dX2_follow_30 ?_
      refine lv_aload_n hx hb dX2_follow_33 rfl (lv_at hl 0 rfl) ?_
      refine va_get (D := (dC, dI)) (ci := 2) (v := .int x8_done) (C := RX2) (T := TX2) (N := 9) hx hb hts hiX2 hown hK hP 0 rfl rfl 8 (by decide) hw1 (fun _ h9 => h9) rfl dX2_follow_34 ?_
      refine lv_iadd hx hb dX2_follow_37 ?_
      obtain ⟨q38, e38, h⟩ := bd_some h
      refine g_rvV (wc := (zwV cI cC f x8_lanes x8_spots c_byLeaps c_load c_gone c_held x8_strong x8_done c_r)) (wc' := (zwV cI cC f q38.1 q38.2.1 c_byLeaps c_load c_gone c_held q38.2.2 x8_done c_r)) (ws' := (zwVA cI cC f g q38.1 q38.2.1 c_byLeaps c_load c_gone c_held q38.2.2 x8_done c_r c_acts)) (wr := [(g 0, .inl (cI, 12, .inl c_acts))]) (nw := 11) ⟨hx, hb, hml, hown, hts⟩ hE hK hA hP hD hS [0, 1, 2, 3, 4, 5, 6, 7, 8, 9] [10] rfl rfl rfl rfl rfl rfl (by decide +kernel) rfl (mX2_look l dC dI cI cC sk f H.size ((R_minute c_r) + x8_done) x8_lanes x8_spots c_byLeaps c_load c_gone c_held x8_strong x8_done c_r q38 e38) (cwV 1 hts gX2_follow_X2_look rfl rfl rfl (by decide +kernel) ⟨Nat.le_of_ble_eq_true rfl, Nat.le_of_ble_eq_true rfl⟩) (va_recv hK hP (ci := 2) (q0 := 0) rfl rfl) (As := [.int ((R_minute c_r) + x8_done)]) (rest := []) rfl hl.1 rfl (Nat.le_of_ble_eq_true rfl) dX2_follow_38 ⟨Nat.zero_le _, Nat.zero_le _⟩ (fun H locs hP hD hS => ?_)
      refine lv_aload_n hx hb dX2_follow_41 rfl (lv_at hl 0 rfl) ?_
      refine lv_iload hx hb dX2_follow_42 (lv_at hl 3 rfl) ?_
      refine lv_aload_n hx hb dX2_follow_44 rfl (lv_at hl 1 rfl) ?_
      refine lv_aload_n hx hb dX2_follow_45 rfl (lv_at hl 0 rfl) ?_
      refine va_get (D := (dC, dI)) (ci := 2) (v := .int x8_done) (C := RX2) (T := TX2) (N := 9) hx hb hts hiX2 hown hK hP 0 rfl rfl 8 (by decide) hw1 (fun _ h9 => h9) rfl dX2_follow_46 ?_
      obtain ⟨hin, h⟩ := ck_some h
      refine va_iald hx hb hK hP 10 0 rfl rfl hin dX2_follow_49 ?_
      obtain ⟨q50, e50, h⟩ := bd_some h
      refine g_roV (wc := (zwV cI cC f q38.1 q38.2.1 c_byLeaps c_load c_gone c_held q38.2.2 x8_done c_r)) ⟨hx, hb, hml, hown, hts⟩ hE hK hP hS [0, 1, 2, 3, 4, 5, 6, 7, 8, 9] rfl (mX2_placeBehindAct l dC dI cI cC sk f x8_4 (c_acts (x8_done).toNatClampNeg) q38.1 q38.2.1 c_byLeaps c_load c_gone c_held q38.2.2 x8_done c_r q50 e50) (cwV 2 hts gX2_follow_X2_placeBehindAct rfl rfl rfl (by decide +kernel) ⟨Nat.le_of_ble_eq_true rfl, Nat.le_of_ble_eq_true rfl⟩) (va_recv hK hP (ci := 2) (q0 := 0) rfl rfl) (As := [.int x8_4, .int (c_acts (x8_done).toNatClampNeg)]) (rest := []) rfl hl.1 rfl (Nat.le_of_ble_eq_true rfl) dX2_follow_50 ⟨Nat.zero_le _, Nat.zero_le _⟩ (fun H locs hP hS => ?_)
      refine lv_istore (lv' := [(5, .int q50), (0, .ref (f 0)), (1, .ref (g 0)), (2, .int p2), (4, .int x8_4)]) hx hb dX2_follow_53 hl (by decide) rfl (fun ls hl => ?_)
      refine lv_iload hx hb dX2_follow_55 (lv_at hl 0 rfl) ?_
      refine lv_if_ne (tgt := 63) hx hb dX2_follow_57 (by decide) (fun c57 => ?_) (fun c57 => ?_)
      · have h := itF c57 h
        refine lv_iload hx hb dX2_follow_63 (lv_at hl 0 rfl) ?_
        refine lv_istore (lv' := [(4, .int q50), (5, .int q50), (0, .ref (f 0)), (1, .ref (g 0)), (2, .int p2)]) hx hb dX2_follow_65 hl (by decide) rfl (fun ls hl => ?_)
        refine lv_aload_n hx hb dX2_follow_67 rfl (lv_at hl 2 rfl) ?_
        refine lv_dup hx hb dX2_follow_68 rfl ?_
        refine va_get (D := (dC, dI)) (ci := 2) (v := .int x8_done) (C := RX2) (T := TX2) (N := 9) hx hb hts hiX2 hown hK hP 0 rfl rfl 8 (by decide) hw1 (fun _ h9 => h9) rfl dX2_follow_69 ?_
        refine lv_iconst (v := (1 : Int32)) hx hb dX2_follow_72 (by decide) ?_
        refine lv_iadd hx hb dX2_follow_73 ?_
        refine va_put (D := (dC, dI)) (ci := 2) (v := .int (x8_done + (1 : Int32))) (ty := .int) (C := RX2) (T := TX2) (N := 9) hx hb hts hiX2 tyX2 tyX2_ok nmX2 hown hK hP hD hS 0 rfl rfl 8 (by decide) hw1 (fun _ h9 => h9) rfl (by decide +kernel) rfl rfl (Nat.le_of_ble_eq_true rfl) dX2_follow_74 (fun H locs hP hD hS => ?_)
        have hP : va_P (dC, dI) vwCl (zwVA cI cC f g q38.1 q38.2.1 c_byLeaps c_load c_gone c_held q38.2.2 (x8_done + (1 : Int32)) c_r c_acts) H := hP
        have hD : va_D A (zwVA cI cC f g q38.1 q38.2.1 c_byLeaps c_load c_gone c_held q38.2.2 (x8_done + (1 : Int32)) c_r c_acts) := hD
        refine lv_goto (tgt := 8) hx hb dX2_follow_77 (by decide) ?_
        exact ih8 _ _ _ _ _ h _ _ _ hP hD hS (lv_sub hl [2, 3, 4, 0] rfl)
      have h := itT c57 h
      refine lv_iload hx hb dX2_follow_60 (lv_at hl 4 rfl) ?_
      subst hQ
      exact retRW (zz := ((x8_4, q38.1, q38.2.1, q38.2.2, x8_done) : Int32 × AR × AR × Int32 × Int32)) (fun z => z.1) (fun z => (zwVA cI cC f g z.2.1 z.2.2.1 c_byLeaps c_load c_gone c_held z.2.2.2.1 z.2.2.2.2 c_r c_acts)) hx hb hr hlocks rfl hS h rfl hP dX2_follow_62
  refine L8 _ (fun k8_4 k8_lanes k8_spots k8_strong k8_done h H locs ls hP hD hS hl => ?_) _ _ _ _ _ _ h _ _ _ hP hD hS (lv_sub hl [1, 2, 3, 0] rfl)
  refine lv_iload hx hb dX2_follow_80 (lv_at hl 0 rfl) ?_
  subst hQ
  exact retRW (zz := ((k8_4, k8_lanes, k8_spots, k8_strong, k8_done) : Int32 × AR × AR × Int32 × Int32)) (fun z => z.1) (fun z => (zwVA cI cC f g z.2.1 z.2.2.1 c_byLeaps c_load c_gone c_held z.2.2.2.1 z.2.2.2.2 c_r c_acts)) hx hb hr hlocks rfl hS h rfl hP dX2_follow_82
