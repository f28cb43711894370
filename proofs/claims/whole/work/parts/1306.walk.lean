theorem dX2_minutesOver_0 : decode cX2_minutesOver 0 = .ok (.iload_n 1, 1) := by decide +kernel
theorem dX2_minutesOver_1 : decode cX2_minutesOver 1 = .ok (.invokestatic 59, 3) := by decide +kernel
theorem dX2_minutesOver_4 : decode cX2_minutesOver 4 = .ok (.istore_n 3, 1) := by decide +kernel
theorem dX2_minutesOver_5 : decode cX2_minutesOver 5 = .ok (.iconst 0, 1) := by decide +kernel
theorem dX2_minutesOver_6 : decode cX2_minutesOver 6 = .ok (.istore 4, 2) := by decide +kernel
theorem dX2_minutesOver_8 : decode cX2_minutesOver 8 = .ok (.iload 4, 2) := by decide +kernel
theorem dX2_minutesOver_10 : decode cX2_minutesOver 10 = .ok (.bipush 40, 2) := by decide +kernel
theorem dX2_minutesOver_12 : decode cX2_minutesOver 12 = .ok (.if_icmp .ge 42, 3) := by decide +kernel
theorem dX2_minutesOver_15 : decode cX2_minutesOver 15 = .ok (.aload_n 0, 1) := by decide +kernel
theorem dX2_minutesOver_16 : decode cX2_minutesOver 16 = .ok (.iload_n 2, 1) := by decide +kernel
theorem dX2_minutesOver_17 : decode cX2_minutesOver 17 = .ok (.iload 4, 2) := by decide +kernel
theorem dX2_minutesOver_19 : decode cX2_minutesOver 19 = .ok (.iadd, 1) := by decide +kernel
theorem dX2_minutesOver_20 : decode cX2_minutesOver 20 = .ok (.invokevirtual 62, 3) := by decide +kernel
theorem dX2_minutesOver_23 : decode cX2_minutesOver 23 = .ok (.aload_n 0, 1) := by decide +kernel
theorem dX2_minutesOver_24 : decode cX2_minutesOver 24 = .ok (.iload_n 3, 1) := by decide +kernel
theorem dX2_minutesOver_25 : decode cX2_minutesOver 25 = .ok (.invokevirtual 66, 3) := by decide +kernel
theorem dX2_minutesOver_28 : decode cX2_minutesOver 28 = .ok (.aload_n 0, 1) := by decide +kernel
theorem dX2_minutesOver_29 : decode cX2_minutesOver 29 = .ok (.iload_n 3, 1) := by decide +kernel
theorem dX2_minutesOver_30 : decode cX2_minutesOver 30 = .ok (.invokevirtual 69, 3) := by decide +kernel
theorem dX2_minutesOver_33 : decode cX2_minutesOver 33 = .ok (.ior, 1) := by decide +kernel
theorem dX2_minutesOver_34 : decode cX2_minutesOver 34 = .ok (.istore_n 3, 1) := by decide +kernel
theorem dX2_minutesOver_35 : decode cX2_minutesOver 35 = .ok (.iload_n 3, 1) := by decide +kernel
theorem dX2_minutesOver_36 : decode cX2_minutesOver 36 = .ok (.sipush 256, 3) := by decide +kernel
theorem dX2_minutesOver_39 : decode cX2_minutesOver 39 = .ok (.iand, 1) := by decide +kernel
theorem dX2_minutesOver_40 : decode cX2_minutesOver 40 = .ok (.ifCond .eq 8, 3) := by decide +kernel
theorem dX2_minutesOver_43 : decode cX2_minutesOver 43 = .ok (.iload 4, 2) := by decide +kernel
theorem dX2_minutesOver_45 : decode cX2_minutesOver 45 = .ok (.iconst 1, 1) := by decide +kernel
theorem dX2_minutesOver_46 : decode cX2_minutesOver 46 = .ok (.iadd, 1) := by decide +kernel
theorem dX2_minutesOver_47 : decode cX2_minutesOver 47 = .ok (.ireturn, 1) := by decide +kernel
theorem dX2_minutesOver_48 : decode cX2_minutesOver 48 = .ok (.iinc 4 1, 3) := by decide +kernel
theorem dX2_minutesOver_51 : decode cX2_minutesOver 51 = .ok (.goto (-43), 3) := by decide +kernel
theorem dX2_minutesOver_54 : decode cX2_minutesOver 54 = .ok (.bipush (-9), 2) := by decide +kernel
theorem dX2_minutesOver_56 : decode cX2_minutesOver 56 = .ok (.ireturn, 1) := by decide +kernel
set_option maxRecDepth 20000 in
theorem ggX2_minutesOver_X3_southCell : GoodIn wsX2_minutesOver wsX3_southCell := goodIn_r _ [3] (by decide +kernel) (by decide +kernel)
set_option maxRecDepth 20000 in
theorem gX2_minutesOver_X3_southCell_n59 : GoodIn wsX2_minutesOver (wsX3_southCell) := ggX2_minutesOver_X3_southCell
set_option maxRecDepth 20000 in
theorem ggX2_minutesOver_X2_look : GoodIn wsX2_minutesOver wsX2_look := goodIn_r _ [8, 9, 10, 11, 12, 13, 14, 15, 16, 17, 18, 19, 20, 21, 22, 23, 24, 25, 26, 27, 28, 29, 30, 31, 32, 33, 34, 35, 36, 37, 38, 39, 40, 41, 42, 43, 44, 45, 46, 47, 48, 49, 50, 84, 85, 86, 87, 88, 89, 90, 91, 92, 93, 94, 95, 96, 97, 98, 99, 100] (by decide +kernel) (by decide +kernel)
set_option maxRecDepth 20000 in
theorem gX2_minutesOver_X2_look : GoodIn wsX2_minutesOver (wsV RX2 62 RX2 yX2_look wsX2_look) := goodIn_app (goodIn_of _ (by decide +kernel)) ggX2_minutesOver_X2_look
set_option maxRecDepth 20000 in
theorem ggX2_minutesOver_X2_placesUnleaped : GoodIn wsX2_minutesOver wsX2_placesUnleaped := goodIn_r _ [54, 55, 56, 57, 7, 58, 59, 9, 60, 61, 62, 63, 64, 65, 84, 85, 86, 87, 88, 89, 90, 91, 92] (by decide +kernel) (by decide +kernel)
set_option maxRecDepth 20000 in
theorem gX2_minutesOver_X2_placesUnleaped : GoodIn wsX2_minutesOver (wsV RX2 66 RX2 yX2_placesUnleaped wsX2_placesUnleaped) := goodIn_app (goodIn_of _ (by decide +kernel)) ggX2_minutesOver_X2_placesUnleaped
set_option maxRecDepth 20000 in
theorem ggX2_minutesOver_X2_placesLeaped : GoodIn wsX2_minutesOver wsX2_placesLeaped := goodIn_r _ [69, 11, 13, 9, 70, 71, 7, 72, 73, 74, 75, 76, 12, 77, 78, 49, 79, 41, 23, 24, 19, 25, 26, 80, 81, 82, 83, 1, 2, 3, 84, 85, 86, 87, 88, 89, 90, 91, 92, 93, 94, 95, 96, 97, 98, 99, 100] (by decide +kernel) (by decide +kernel)
set_option maxRecDepth 20000 in
theorem gX2_minutesOver_X2_placesLeaped : GoodIn wsX2_minutesOver (wsV RX2 69 RX2 yX2_placesLeaped wsX2_placesLeaped) := goodIn_app (goodIn_of _ (by decide +kernel)) ggX2_minutesOver_X2_placesLeaped
set_option maxHeartbeats 4000000 in
set_option maxRecDepth 100000 in
theorem mX2_minutesOver (l : Launch) (dC : Nat → ClassId) (dI : Nat → Nat → Nat) (cI cC : ClassId) (sk : (Nat → Nat) × (Nat → Nat)) (f : Nat → Nat) (sz : Nat) (p1 : Int32) (p2 : Int32) (c_lanes : AR) (c_spots : AR) (c_byLeaps : AR) (c_load : Int32) (c_gone : Int32) (c_held : Int32) (c_strong : Int32) (c_done : Int32) (c_r : RT) (z : Int32 × AR × AR × Int32) (h : fX2_minutesOver p1 p2 c_lanes c_spots c_load c_gone c_held c_strong c_r = some z) : cRW l yX2_minutesOver wsX2_minutesOver (RMk 4 93) sk (dC, dI) (tyz cI cC) sz (zwV cI cC f c_lanes c_spots c_byLeaps c_load c_gone c_held c_strong c_done c_r) (zwV cI cC f z.2.1 z.2.2.1 c_byLeaps c_load c_gone c_held z.2.2.2 c_done c_r) [.ref (f 0), .int p1, .int p2] z.1 := by
  refine ofRW (cc := cX2_minutesOver) (maxL := 5) (ret := (some .int)) (own := RX2) (plainFor_of_name (by decide)) rfl rfl (Nat.le_of_ble_eq_true rfl) ?_
  intro p e s m args below meth c A hA hx hb hml hr hts hown hlocks hE hK hP hD hS ls hl
  generalize hQ : qRW _ _ _ _ _ _ _ = Q
  have hl : lv_has ls 5 [(0, .ref (f 0)), (1, .int p1), (2, .int p2)] := hl
  have hw2 := hts (Cond.initialized RX3) (List.mem_of_getElem? (i := 2) rfl)
  have hw1 := hts (Cond.static yX3_southCell) (List.mem_of_getElem? (i := 1) rfl)
  rw [fX2_minutesOver] at h
  refine lv_iload_n hx hb dX2_minutesOver_0 rfl (lv_at hl 1 rfl) ?_
  obtain ⟨q1, e1, h⟩ := bd_some h
  refine g_roN (wc := ([] : va_W)) ⟨hx, hb, hml, hown, hts⟩ hE hK hP hS [] rfl (mX3_southCell l dC dI cI cC sk  p1 q1 e1) ⟨va_cnB 1 hts gX2_minutesOver_X3_southCell_n59 rfl rfl rfl (hE.1 10 _ rfl) hw2 (by decide +kernel) ⟨Nat.le_of_ble_eq_true rfl, Nat.le_of_ble_eq_true rfl⟩, hw1, trivial⟩ (As := [.int p1]) (rest := []) rfl hl.1 rfl (Nat.le_of_ble_eq_true rfl) dX2_minutesOver_1 ⟨Nat.zero_le _, Nat.zero_le _⟩ (fun H locs hP hS => ?_)
  refine lv_istore_n (lv' := [(3, .int q1), (0, .ref (f 0)), (1, .int p1), (2, .int p2)]) hx hb dX2_minutesOver_4 rfl hl (by decide) rfl (fun ls hl => ?_)
  refine lv_iconst (v := (0 : Int32)) hx hb dX2_minutesOver_5 (by decide) ?_
  refine lv_istore (lv' := [(4, .int (0 : Int32)), (3, .int q1), (0, .ref (f 0)), (1, .int p1), (2, .int p2)]) hx hb dX2_minutesOver_6 hl (by decide) rfl (fun ls hl => ?_)
  have L8 : ∀ (K8 : AR → AR → Int32 → Option (Int32 × AR × AR × Int32)), (∀ (k8_lanes : AR) (k8_spots : AR) (k8_strong : Int32), K8 k8_lanes k8_spots k8_strong = some z → ∀ (H : Heap) (locs : List Loc) (ls : Array Slot), va_P (dC, dI) vwCl (zwV cI cC f k8_lanes k8_spots c_byLeaps c_load c_gone c_held k8_strong c_done c_r) H → va_D A (zwV cI cC f k8_lanes k8_spots c_byLeaps c_load c_gone c_held k8_strong c_done c_r) → va_S A s.heap H locs → lv_has ls 5 [] → W p l e (RMk 4 93) s m args below meth c H locs 0 0 Q (F0 m 54 ls [])) → ∀ (n : Nat) (x8_3 : Int32) (x8_4 : Int32) (x8_lanes : AR) (x8_spots : AR) (x8_strong : Int32), fX2_minutesOver_L8 c_gone c_held c_load c_r p2 K8 n x8_3 x8_4 x8_lanes x8_spots x8_strong = some z → ∀ (H : Heap) (locs : List Loc) (ls : Array Slot), va_P (dC, dI) vwCl (zwV cI cC f x8_lanes x8_spots c_byLeaps c_load c_gone c_held x8_strong c_done c_r) H → va_D A (zwV cI cC f x8_lanes x8_spots c_byLeaps c_load c_gone c_held x8_strong c_done c_r) → va_S A s.heap H locs → lv_has ls 5 [(0, .ref (f 0)), (2, .int p2), (3, .int x8_3), (4, .int x8_4)] → W p l e (RMk 4 93) s m args below meth c H locs 0 0 Q (F0 m 8 ls []) := by
    intro K8 kx8 n
    induction n with
    | zero => intro x8_3 x8_4 x8_lanes x8_spots x8_strong h; rw [fX2_minutesOver_L8] at h; cases h
    | succ n ih8 =>
      intro x8_3 x8_4 x8_lanes x8_spots x8_strong h H locs ls hP hD hS hl
      rw [fX2_minutesOver_L8] at h
      refine lv_iload hx hb dX2_minutesOver_8 (lv_at hl 3 rfl) ?_
      refine lv_bipush (v := (40 : Int32)) hx hb dX2_minutesOver_10 (by decide) ?_
      refine lv_icmp_ge (tgt := 54) hx hb dX2_minutesOver_12 (by decide) (fun c12 => ?_) (fun c12 => ?_)
      · have h := itT c12 h
        exact kx8 _ _ _ h _ _ _ hP hD hS (lv_sub hl [] rfl)
      have h := itF c12 h
      refine lv_aload_n hx hb dX2_minutesOver_15 rfl (lv_at hl 0 rfl) ?_
      refine lv_iload_n hx hb dX2_minutesOver_16 rfl (lv_at hl 1 rfl) ?_
      refine lv_iload hx hb dX2_minutesOver_17 (lv_at hl 3 rfl) ?_
      refine lv_iadd hx hb dX2_minutesOver_19 ?_
      obtain ⟨q20, e20, h⟩ := bd_some h
      refine g_rvA (wc := (zwV cI cC f x8_lanes x8_spots c_byLeaps c_load c_gone c_held x8_strong c_done c_r)) (wc' := (zwV cI cC f q20.1 q20.2.1 c_byLeaps c_load c_gone c_held q20.2.2 c_done c_r)) ⟨hx, hb, hml, hown, hts⟩ hE hK hA hP hD hS rfl (mX2_look l dC dI cI cC sk f H.size (p2 + x8_4) x8_lanes x8_spots c_byLeaps c_load c_gone c_held x8_strong c_done c_r q20 e20) (cwV 1 hts gX2_minutesOver_X2_look rfl rfl rfl (by decide +kernel) ⟨Nat.le_of_ble_eq_true rfl, Nat.le_of_ble_eq_true rfl⟩) (va_recv hK hP (ci := 2) (q0 := 0) rfl rfl) (As := [.int (p2 + x8_4)]) (rest := []) rfl hl.1 rfl (Nat.le_of_ble_eq_true rfl) dX2_minutesOver_20 ⟨Nat.zero_le _, Nat.zero_le _⟩ (fun H locs hP hD hS => ?_)
      have hP : va_P (dC, dI) vwCl (zwV cI cC f q20.1 q20.2.1 c_byLeaps c_load c_gone c_held q20.2.2 c_done c_r) H := hP
      have hD : va_D A (zwV cI cC f q20.1 q20.2.1 c_byLeaps c_load c_gone c_held q20.2.2 c_done c_r) := hD
      refine lv_aload_n hx hb dX2_minutesOver_23 rfl (lv_at hl 0 rfl) ?_
      refine lv_iload_n hx hb dX2_minutesOver_24 rfl (lv_at hl 2 rfl) ?_
      obtain ⟨q25, e25, h⟩ := bd_some h
      refine g_roV (wc := (zwV cI cC f q20.1 q20.2.1 c_byLeaps c_load c_gone c_held q20.2.2 c_done c_r)) ⟨hx, hb, hml, hown, hts⟩ hE hK hP hS [0, 1, 2, 3, 4, 5, 6, 7, 8, 9] rfl (mX2_placesUnleaped l dC dI cI cC sk f x8_3 q20.1 q20.2.1 c_byLeaps c_load c_gone c_held q20.2.2 c_done c_r q25 e25) (cwV 1 hts gX2_minutesOver_X2_placesUnleaped rfl rfl rfl (by decide +kernel) ⟨Nat.le_of_ble_eq_true rfl, Nat.le_of_ble_eq_true rfl⟩) (va_recv hK hP (ci := 2) (q0 := 0) rfl rfl) (As := [.int x8_3]) (rest := []) rfl hl.1 rfl (Nat.le_of_ble_eq_true rfl) dX2_minutesOver_25 ⟨Nat.zero_le _, Nat.zero_le _⟩ (fun H locs hP hS => ?_)
      refine lv_aload_n hx hb dX2_minutesOver_28 rfl (lv_at hl 0 rfl) ?_
      refine lv_iload_n hx hb dX2_minutesOver_29 rfl (lv_at hl 2 rfl) ?_
      obtain ⟨q30, e30, h⟩ := bd_some h
      refine g_roV (wc := (zwV cI cC f q20.1 q20.2.1 c_byLeaps c_load c_gone c_held q20.2.2 c_done c_r)) ⟨hx, hb, hml, hown, hts⟩ hE hK hP hS [0, 1, 2, 3, 4, 5, 6, 7, 8, 9] rfl (mX2_placesLeaped l dC dI cI cC sk f x8_3 q20.1 q20.2.1 c_byLeaps c_load c_gone c_held q20.2.2 c_done c_r q30 e30) (cwV 1 hts gX2_minutesOver_X2_placesLeaped rfl rfl rfl (by decide +kernel) ⟨Nat.le_of_ble_eq_true rfl, Nat.le_of_ble_eq_true rfl⟩) (va_recv hK hP (ci := 2) (q0 := 0) rfl rfl) (As := [.int x8_3]) (rest := [.int q25]) rfl hl.1 rfl (Nat.le_of_ble_eq_true rfl) dX2_minutesOver_30 ⟨Nat.zero_le _, Nat.zero_le _⟩ (fun H locs hP hS => ?_)
      refine lv_ior hx hb dX2_minutesOver_33 ?_
      refine lv_istore_n (lv' := [(3, .int (q25 ||| q30)), (0, .ref (f 0)), (2, .int p2), (4, .int x8_4)]) hx hb dX2_minutesOver_34 rfl hl (by decide) rfl (fun ls hl => ?_)
      refine lv_iload_n hx hb dX2_minutesOver_35 rfl (lv_at hl 0 rfl) ?_
      refine lv_sipush (v := (256 : Int32)) hx hb dX2_minutesOver_36 (by decide) ?_
      refine lv_iand hx hb dX2_minutesOver_39 ?_
      refine lv_if_eq (tgt := 48) hx hb dX2_minutesOver_40 (by decide) (fun c40 => ?_) (fun c40 => ?_)
      · have h := itT c40 h
        refine lv_iinc (v := (x8_4 + (1 : Int32))) (lv' := [(4, .int (x8_4 + (1 : Int32))), (3, .int (q25 ||| q30)), (0, .ref (f 0)), (2, .int p2)]) hx hb dX2_minutesOver_48 hl (k := 3) rfl rfl (by decide) rfl (fun ls hl => ?_)
        refine lv_goto (tgt := 8) hx hb dX2_minutesOver_51 (by decide) ?_
        exact ih8 _ _ _ _ _ h _ _ _ hP hD hS (lv_sub hl [2, 3, 1, 0] rfl)
      have h := itF c40 h
      refine lv_iload hx hb dX2_minutesOver_43 (lv_at hl 3 rfl) ?_
      refine lv_iconst (v := (1 : Int32)) hx hb dX2_minutesOver_45 (by decide) ?_
      refine lv_iadd hx hb dX2_minutesOver_46 ?_
      subst hQ
      exact retRW (zz := (((x8_4 + (1 : Int32)), q20.1, q20.2.1, q20.2.2) : Int32 × AR × AR × Int32)) (fun z => z.1) (fun z => (zwV cI cC f z.2.1 z.2.2.1 c_byLeaps c_load c_gone c_held z.2.2.2 c_done c_r)) hx hb hr hlocks rfl hS h rfl hP dX2_minutesOver_47
  refine L8 _ (fun k8_lanes k8_spots k8_strong h H locs ls hP hD hS hl => ?_) _ _ _ _ _ _ h _ _ _ hP hD hS (lv_sub hl [2, 4, 1, 0] rfl)
  refine lv_bipush (v := (-9 : Int32)) hx hb dX2_minutesOver_54 (by decide) ?_
  subst hQ
  exact retRW (zz := (((-9 : Int32), k8_lanes, k8_spots, k8_strong) : Int32 × AR × AR × Int32)) (fun z => z.1) (fun z => (zwV cI cC f z.2.1 z.2.2.1 c_byLeaps c_load c_gone c_held z.2.2.2 c_done c_r)) hx hb hr hlocks rfl hS h rfl hP dX2_minutesOver_56
