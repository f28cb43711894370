theorem dX2_placesBehind_0 : decode cX2_placesBehind 0 = .ok (.iload_n 1, 1) := by decide +kernel
theorem dX2_placesBehind_1 : decode cX2_placesBehind 1 = .ok (.istore 4, 2) := by decide +kernel
theorem dX2_placesBehind_3 : decode cX2_placesBehind 3 = .ok (.iconst 0, 1) := by decide +kernel
theorem dX2_placesBehind_4 : decode cX2_placesBehind 4 = .ok (.istore 5, 2) := by decide +kernel
theorem dX2_placesBehind_6 : decode cX2_placesBehind 6 = .ok (.iload 5, 2) := by decide +kernel
theorem dX2_placesBehind_8 : decode cX2_placesBehind 8 = .ok (.iload_n 3, 1) := by decide +kernel
theorem dX2_placesBehind_9 : decode cX2_placesBehind 9 = .ok (.if_icmp .ge 32, 3) := by decide +kernel
theorem dX2_placesBehind_12 : decode cX2_placesBehind 12 = .ok (.aload_n 0, 1) := by decide +kernel
theorem dX2_placesBehind_13 : decode cX2_placesBehind 13 = .ok (.iload_n 2, 1) := by decide +kernel
theorem dX2_placesBehind_14 : decode cX2_placesBehind 14 = .ok (.iload 5, 2) := by decide +kernel
theorem dX2_placesBehind_16 : decode cX2_placesBehind 16 = .ok (.iadd, 1) := by decide +kernel
theorem dX2_placesBehind_17 : decode cX2_placesBehind 17 = .ok (.invokevirtual 62, 3) := by decide +kernel
theorem dX2_placesBehind_20 : decode cX2_placesBehind 20 = .ok (.aload_n 0, 1) := by decide +kernel
theorem dX2_placesBehind_21 : decode cX2_placesBehind 21 = .ok (.iload 4, 2) := by decide +kernel
theorem dX2_placesBehind_23 : decode cX2_placesBehind 23 = .ok (.invokevirtual 66, 3) := by decide +kernel
theorem dX2_placesBehind_26 : decode cX2_placesBehind 26 = .ok (.aload_n 0, 1) := by decide +kernel
theorem dX2_placesBehind_27 : decode cX2_placesBehind 27 = .ok (.iload 4, 2) := by decide +kernel
theorem dX2_placesBehind_29 : decode cX2_placesBehind 29 = .ok (.invokevirtual 69, 3) := by decide +kernel
theorem dX2_placesBehind_32 : decode cX2_placesBehind 32 = .ok (.ior, 1) := by decide +kernel
theorem dX2_placesBehind_33 : decode cX2_placesBehind 33 = .ok (.istore 4, 2) := by decide +kernel
theorem dX2_placesBehind_35 : decode cX2_placesBehind 35 = .ok (.iinc 5 1, 3) := by decide +kernel
theorem dX2_placesBehind_38 : decode cX2_placesBehind 38 = .ok (.goto (-32), 3) := by decide +kernel
theorem dX2_placesBehind_41 : decode cX2_placesBehind 41 = .ok (.iload 4, 2) := by decide +kernel
theorem dX2_placesBehind_43 : decode cX2_placesBehind 43 = .ok (.ireturn, 1) := by decide +kernel
set_option maxRecDepth 20000 in
theorem ggX2_placesBehind_X2_look : GoodIn wsX2_placesBehind wsX2_look := goodIn_r _ [5, 6, 7, 8, 9, 10, 11, 12, 13, 14, 15, 16, 17, 18, 19, 20, 21, 22, 23, 24, 25, 26, 27, 28, 29, 30, 31, 32, 33, 34, 35, 36, 37, 38, 39, 40, 41, 42, 43, 44, 45, 46, 47, 84, 85, 86, 87, 88, 89, 90, 91, 92, 93, 94, 95, 96, 97, 98, 99, 100] (by decide +kernel) (by decide +kernel)
set_option maxRecDepth 20000 in
theorem gX2_placesBehind_X2_look : GoodIn wsX2_placesBehind (wsV RX2 62 RX2 yX2_look wsX2_look) := goodIn_app (goodIn_of _ (by decide +kernel)) ggX2_placesBehind_X2_look
set_option maxRecDepth 20000 in
theorem ggX2_placesBehind_X2_placesUnleaped : GoodIn wsX2_placesBehind wsX2_placesUnleaped := goodIn_r _ [51, 52, 53, 54, 4, 55, 56, 6, 57, 58, 59, 60, 61, 62, 84, 85, 86, 87, 88, 89, 90, 91, 92] (by decide +kernel) (by decide +kernel)
set_option maxRecDepth 20000 in
theorem gX2_placesBehind_X2_placesUnleaped : GoodIn wsX2_placesBehind (wsV RX2 66 RX2 yX2_placesUnleaped wsX2_placesUnleaped) := goodIn_app (goodIn_of _ (by decide +kernel)) ggX2_placesBehind_X2_placesUnleaped
set_option maxRecDepth 20000 in
theorem ggX2_placesBehind_X2_placesLeaped : GoodIn wsX2_placesBehind wsX2_placesLeaped := goodIn_r _ [66, 8, 10, 6, 67, 68, 4, 69, 70, 71, 72, 73, 9, 74, 75, 46, 76, 38, 20, 21, 16, 22, 23, 77, 78, 79, 80, 81, 82, 83, 84, 85, 86, 87, 88, 89, 90, 91, 92, 93, 94, 95, 96, 97, 98, 99, 100] (by decide +kernel) (by decide +kernel)
set_option maxRecDepth 20000 in
theorem gX2_placesBehind_X2_placesLeaped : GoodIn wsX2_placesBehind (wsV RX2 69 RX2 yX2_placesLeaped wsX2_placesLeaped) := goodIn_app (goodIn_of _ (by decide +kernel)) ggX2_placesBehind_X2_placesLeaped
set_option maxHeartbeats 4000000 in
set_option maxRecDepth 100000 in
theorem mX2_placesBehind (l : Launch) (dC : Nat → ClassId) (dI : Nat → Nat → Nat) (cI cC : ClassId) (sk : (Nat → Nat) × (Nat → Nat)) (f : Nat → Nat) (sz : Nat) (p1 : Int32) (p2 : Int32) (p3 : Int32) (c_lanes : AR) (c_spots : AR) (c_byLeaps : AR) (c_load : Int32) (c_gone : Int32) (c_held : Int32) (c_strong : Int32) (c_done : Int32) (c_r : RT) (z : Int32 × AR × AR × Int32) (h : fX2_placesBehind p1 p2 p3 c_lanes c_spots c_load c_gone c_held c_strong c_r = some z) : cRW l yX2_placesBehind wsX2_placesBehind (RMk 4 93) sk (dC, dI) (tyz cI cC) sz (zwV cI cC f c_lanes c_spots c_byLeaps c_load c_gone c_held c_strong c_done c_r) (zwV cI cC f z.2.1 z.2.2.1 c_byLeaps c_load c_gone c_held z.2.2.2 c_done c_r) [.ref (f 0), .int p1, .int p2, .int p3] z.1 := by
  refine ofRW (cc := cX2_placesBehind) (maxL := 6) (ret := (some .int)) (own := RX2) (plainFor_of_name (by decide)) rfl rfl (Nat.le_of_ble_eq_true rfl) ?_
  intro p e s m args below meth c A hA hx hb hml hr hts hown hlocks hE hK hP hD hS ls hl
  generalize hQ : qRW _ _ _ _ _ _ _ = Q
  have hl : lv_has ls 6 [(0, .ref (f 0)), (1, .int p1), (2, .int p2), (3, .int p3)] := hl
  rw [fX2_placesBehind] at h
  refine lv_iload_n hx hb dX2_placesBehind_0 rfl (lv_at hl 1 rfl) ?_
  refine lv_istore (lv' := [(4, .int p1), (0, .ref (f 0)), (1, .int p1), (2, .int p2), (3, .int p3)]) hx hb dX2_placesBehind_1 hl (by decide) rfl (fun ls hl => ?_)
  refine lv_iconst (v := (0 : Int32)) hx hb dX2_placesBehind_3 (by decide) ?_
  refine lv_istore (lv' := [(5, .int (0 : Int32)), (4, .int p1), (0, .ref (f 0)), (1, .int p1), (2, .int p2), (3, .int p3)]) hx hb dX2_placesBehind_4 hl (by decide) rfl (fun ls hl => ?_)
  have L6 : ∀ (K6 : Int32 → AR → AR → Int32 → Option (Int32 × AR × AR × Int32)), (∀ (k6_4 : Int32) (k6_lanes : AR) (k6_spots : AR) (k6_strong : Int32), K6 k6_4 k6_lanes k6_spots k6_strong = some z → ∀ (H : Heap) (locs : List Loc) (ls : Array Slot), va_P (dC, dI) vwCl (zwV cI cC f k6_lanes k6_spots c_byLeaps c_load c_gone c_held k6_strong c_done c_r) H → va_D A (zwV cI cC f k6_lanes k6_spots c_byLeaps c_load c_gone c_held k6_strong c_done c_r) → va_S A s.heap H locs → lv_has ls 6 [(4, .int k6_4)] → W p l e (RMk 4 93) s m args below meth c H locs 0 0 Q (F0 m 41 ls [])) → ∀ (n : Nat) (x6_4 : Int32) (x6_5 : Int32) (x6_lanes : AR) (x6_spots : AR) (x6_strong : Int32), fX2_placesBehind_L6 c_gone c_held c_load c_r p2 p3 K6 n x6_4 x6_5 x6_lanes x6_spots x6_strong = some z → ∀ (H : Heap) (locs : List Loc) (ls : Array Slot), va_P (dC, dI) vwCl (zwV cI cC f x6_lanes x6_spots c_byLeaps c_load c_gone c_held x6_strong c_done c_r) H → va_D A (zwV cI cC f x6_lanes x6_spots c_byLeaps c_load c_gone c_held x6_strong c_done c_r) → va_S A s.heap H locs → lv_has ls 6 [(0, .ref (f 0)), (2, .int p2), (3, .int p3), (4, .int x6_4), (5, .int x6_5)] → W p l e (RMk 4 93) s m args below meth c H locs 0 0 Q (F0 m 6 ls []) := by
    intro K6 kx6 n
    induction n with
    | zero => intro x6_4 x6_5 x6_lanes x6_spots x6_strong h; rw [fX2_placesBehind_L6] at h; cases h
    | succ n ih6 =>
      intro x6_4 x6_5 x6_lanes x6_spots x6_strong h H locs ls hP hD hS hl
      rw [fX2_placesBehind_L6] at h
      refine lv_iload hx hb dX2_placesBehind_6 (lv_at hl 4 rfl) ?_
      refine lv_iload_n hx hb dX2_placesBehind_8 rfl (lv_at hl 2 rfl) ?_
      refine lv_icmp_ge (tgt := 41) hx hb dX2_placesBehind_9 (by decide) (fun c9 => ?_) (fun c9 => ?_)
      · have h := itT c9 h
        exact kx6 _ _ _ _ h _ _ _ hP hD hS (lv_sub hl [3] rfl)
      have h := itF c9 h
      refine lv_aload_n hx hb dX2_placesBehind_12 rfl (lv_at hl 0 rfl) ?_
      refine lv_iload_n hx hb dX2_placesBehind_13 rfl (lv_at hl 1 rfl) ?_
      refine lv_iload hx hb dX2_placesBehind_14 (lv_at hl 4 rfl) ?_
      refine lv_iadd hx hb dX2_placesBehind_16 ?_
      obtain ⟨q17, e17, h⟩ := bd_some h
      refine g_rvA (wc := (zwV cI cC f x6_lanes x6_spots c_byLeaps c_load c_gone c_held x6_strong c_done c_r)) (wc' := (zwV cI cC f q17.1 q17.2.1 c_byLeaps c_load c_gone c_held q17.2.2 c_done c_r)) ⟨hx, hb, hml, hown, hts⟩ hE hK hA hP hD hS rfl (mX2_look l dC dI cI cC sk f H.size (p2 + x6_5) x6_lanes x6_spots c_byLeaps c_load c_gone c_held x6_strong c_done c_r q17 e17) (cwV 1 hts gX2_placesBehind_X2_look rfl rfl rfl (by decide +kernel) ⟨Nat.le_of_ble_eq_true rfl, Nat.le_of_ble_eq_true rfl⟩) (va_recv hK hP (ci := 2) (q0 := 0) rfl rfl) (As := [.int (p2 + x6_5)]) (rest := []) rfl hl.1 rfl (Nat.le_of_ble_eq_true rfl) dX2_placesBehind_17 ⟨Nat.zero_le _, Nat.zero_le _⟩ (fun H locs hP hD hS => ?_)
      have hP : va_P (dC, dI) vwCl (zwV cI cC f q17.1 q17.2.1 c_byLeaps c_load c_gone c_held q17.2.2 c_done c_r) H := hP
      have hD : va_D A (zwV cI cC f q17.1 q17.2.1 c_byLeaps c_load c_gone c_held q17.2.2 c_done c_r) := hD
      refine lv_aload_n hx hb dX2_placesBehind_20 rfl (lv_at hl 0 rfl) ?_
      refine lv_iload hx hb dX2_placesBehind_21 (lv_at hl 3 rfl) ?_
      obtain ⟨q23, e23, h⟩ := bd_some h
      refine g_roV (wc := (zwV cI cC f q17.1 q17.2.1 c_byLeaps c_load c_gone c_held q17.2.2 c_done c_r)) ⟨hx, hb, hml, hown, hts⟩ hE hK hP hS [0, 1, 2, 3, 4, 5, 6, 7, 8, 9] rfl (mX2_placesUnleaped l dC dI cI cC sk f x6_4 q17.1 q17.2.1 c_byLeaps c_load c_gone c_held q17.2.2 c_done c_r q23 e23) (cwV 1 hts gX2_placesBehind_X2_placesUnleaped rfl rfl rfl (by decide +kernel) ⟨Nat.le_of_ble_eq_true rfl, Nat.le_of_ble_eq_true rfl⟩) (va_recv hK hP (ci := 2) (q0 := 0) rfl rfl) (As := [.int x6_4]) (rest := []) rfl hl.1 rfl (Nat.le_of_ble_eq_true rfl) dX2_placesBehind_23 ⟨Nat.zero_le _, Nat.zero_le _⟩ (fun H locs hP hS => ?_)
      refine lv_aload_n hx hb dX2_placesBehind_26 rfl (lv_at hl 0 rfl) ?_
      refine lv_iload hx hb dX2_placesBehind_27 (lv_at hl 3 rfl) ?_
      obtain ⟨q29, e29, h⟩ := bd_some h
      refine g_roV (wc := (zwV cI cC f q17.1 q17.2.1 c_byLeaps c_load c_gone c_held q17.2.2 c_done c_r)) ⟨hx, hb, hml, hown, hts⟩ hE hK hP hS [0, 1, 2, 3, 4, 5, 6, 7, 8, 9] rfl (mX2_placesLeaped l dC dI cI cC sk f x6_4 q17.1 q17.2.1 c_byLeaps c_load c_gone c_held q17.2.2 c_done c_r q29 e29) (cwV 1 hts gX2_placesBehind_X2_placesLeaped rfl rfl rfl (by decide +kernel) ⟨Nat.le_of_ble_eq_true rfl, Nat.le_of_ble_eq_true rfl⟩) (va_recv hK hP (ci := 2) (q0 := 0) rfl rfl) (As := [.int x6_4]) (rest := [.int q23]) rfl hl.1 rfl (Nat.le_of_ble_eq_true rfl) dX2_placesBehind_29 ⟨Nat.zero_le _, Nat.zero_le _⟩ (fun H locs hP hS => ?_)
      refine lv_ior hx hb dX2_placesBehind_32 ?_
      refine lv_istore (lv' := [(4, .int (q23 ||| q29)), (0, .ref (f 0)), (2, .int p2), (3, .int p3), (5, .int x6_5)]) hx hb dX2_placesBehind_33 hl (by decide) rfl (fun ls hl => ?_)
      refine lv_iinc (v := (x6_5 + (1 : Int32))) (lv' := [(5, .int (x6_5 + (1 : Int32))), (4, .int (q23 ||| q29)), (0, .ref (f 0)), (2, .int p2), (3, .int p3)]) hx hb dX2_placesBehind_35 hl (k := 4) rfl rfl (by decide) rfl (fun ls hl => ?_)
      refine lv_goto (tgt := 6) hx hb dX2_placesBehind_38 (by decide) ?_
      exact ih6 _ _ _ _ _ h _ _ _ hP hD hS (lv_sub hl [2, 3, 4, 1, 0] rfl)
  refine L6 _ (fun k6_4 k6_lanes k6_spots k6_strong h H locs ls hP hD hS hl => ?_) _ _ _ _ _ _ h _ _ _ hP hD hS (lv_sub hl [2, 4, 5, 1, 0] rfl)
  refine lv_iload hx hb dX2_placesBehind_41 (lv_at hl 0 rfl) ?_
  subst hQ
  exact retRW (zz := ((k6_4, k6_lanes, k6_spots, k6_strong) : Int32 × AR × AR × Int32)) (fun z => z.1) (fun z => (zwV cI cC f z.2.1 z.2.2.1 c_byLeaps c_load c_gone c_held z.2.2.2 c_done c_r)) hx hb hr hlocks rfl hS h rfl hP dX2_placesBehind_43
