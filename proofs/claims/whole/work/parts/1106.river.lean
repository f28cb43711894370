theorem dX0_allStrength_0 : decode cX0_allStrength 0 = .ok (.iconst 0, 1) := by decide +kernel
theorem dX0_allStrength_1 : decode cX0_allStrength 1 = .ok (.istore_n 1, 1) := by decide +kernel
theorem dX0_allStrength_2 : decode cX0_allStrength 2 = .ok (.iconst 0, 1) := by decide +kernel
theorem dX0_allStrength_3 : decode cX0_allStrength 3 = .ok (.istore_n 2, 1) := by decide +kernel
theorem dX0_allStrength_4 : decode cX0_allStrength 4 = .ok (.iload_n 2, 1) := by decide +kernel
theorem dX0_allStrength_5 : decode cX0_allStrength 5 = .ok (.aload_n 0, 1) := by decide +kernel
theorem dX0_allStrength_6 : decode cX0_allStrength 6 = .ok (.getfield 31, 3) := by decide +kernel
theorem dX0_allStrength_9 : decode cX0_allStrength 9 = .ok (.if_icmp .ge 21, 3) := by decide +kernel
theorem dX0_allStrength_12 : decode cX0_allStrength 12 = .ok (.iload_n 1, 1) := by decide +kernel
theorem dX0_allStrength_13 : decode cX0_allStrength 13 = .ok (.aload_n 0, 1) := by decide +kernel
theorem dX0_allStrength_14 : decode cX0_allStrength 14 = .ok (.iload_n 2, 1) := by decide +kernel
theorem dX0_allStrength_15 : decode cX0_allStrength 15 = .ok (.aload_n 0, 1) := by decide +kernel
theorem dX0_allStrength_16 : decode cX0_allStrength 16 = .ok (.getfield 34, 3) := by decide +kernel
theorem dX0_allStrength_19 : decode cX0_allStrength 19 = .ok (.invokevirtual 64, 3) := by decide +kernel
theorem dX0_allStrength_22 : decode cX0_allStrength 22 = .ok (.iadd, 1) := by decide +kernel
theorem dX0_allStrength_23 : decode cX0_allStrength 23 = .ok (.istore_n 1, 1) := by decide +kernel
theorem dX0_allStrength_24 : decode cX0_allStrength 24 = .ok (.iinc 2 1, 3) := by decide +kernel
theorem dX0_allStrength_27 : decode cX0_allStrength 27 = .ok (.goto (-23), 3) := by decide +kernel
theorem dX0_allStrength_30 : decode cX0_allStrength 30 = .ok (.iload_n 1, 1) := by decide +kernel
theorem dX0_allStrength_31 : decode cX0_allStrength 31 = .ok (.ireturn, 1) := by decide +kernel
set_option maxRecDepth 20000 in
theorem ggX0_allStrength_X0_strengthOf : GoodIn wsX0_allStrength wsX0_strengthOf := goodIn_r _ [7, 8, 9, 10, 11, 12, 13, 14, 15, 16, 6, 17, 1, 18, 19, 20, 21, 22, 23, 24, 25] (by decide +kernel) (by decide +kernel)
set_option maxRecDepth 20000 in
theorem gX0_allStrength_X0_strengthOf : GoodIn wsX0_allStrength (wsV RX0 64 RX0 yX0_strengthOf wsX0_strengthOf) := goodIn_app (goodIn_of _ (by decide +kernel)) ggX0_allStrength_X0_strengthOf
set_option maxHeartbeats 4000000 in
set_option maxRecDepth 100000 in
theorem mX0_allStrength (l : Launch) (dC : Nat → ClassId) (dI : Nat → Nat → Nat) (cI cC : ClassId) (sk : (Nat → Nat) × (Nat → Nat)) (f : Nat → Nat)  (c_r : RT) (z : Int32) (h : fX0_allStrength c_r = some z) : cRO l yX0_allStrength wsX0_allStrength (RMk 2 44) sk (dC, dI) (tyz cI cC) (zwR cI cC f c_r) [.ref (f 0)] z := by
  refine ofRO (cc := cX0_allStrength) (maxL := 3) (ret := (some .int)) (own := RX0) (plainFor_of_name (by decide)) rfl rfl (Nat.le_of_ble_eq_true rfl) ?_
  intro p e s m args below meth c hx hb hml hr hts hown hlocks hE hK hP hS ls hl
  generalize hQ : qRO _ _ _ _ = Q
  have hl : lv_has ls 3 [(0, .ref (f 0))] := hl
  have hiX0 : ∀ w ∈ wsX00, w ∈ wsX0_allStrength := fun w h => List.mem_cons_of_mem _ (List.mem_append_right _ h)
  have hw1 := hts (Cond.fieldLink RX0 31 "FloeToFloe$River" "floes" "I") (List.mem_of_getElem? (i := 1) rfl)
  have hw2 := hts (Cond.fieldLink RX0 34 "FloeToFloe$River" "minute" "I") (List.mem_of_getElem? (i := 2) rfl)
  rw [fX0_allStrength] at h
  refine lv_iconst (v := (0 : Int32)) hx hb dX0_allStrength_0 (by decide) ?_
  refine lv_istore_n (lv' := [(1, .int (0 : Int32)), (0, .ref (f 0))]) hx hb dX0_allStrength_1 rfl hl (by decide) rfl (fun ls hl => ?_)
  refine lv_iconst (v := (0 : Int32)) hx hb dX0_allStrength_2 (by decide) ?_
  refine lv_istore_n (lv' := [(2, .int (0 : Int32)), (1, .int (0 : Int32)), (0, .ref (f 0))]) hx hb dX0_allStrength_3 rfl hl (by decide) rfl (fun ls hl => ?_)
  have L4 : ∀ (K4 : Int32 → Option (Int32)), (∀ (k4_1 : Int32), K4 k4_1 = some z → ∀ (H : Heap) (locs : List Loc) (ls : Array Slot), va_P (dC, dI) vwCl (zwR cI cC f c_r) H → va_S noA s.heap H locs → lv_has ls 3 [(1, .int k4_1)] → W p l e (RMk 2 44) s m args below meth c H locs 0 0 Q (F0 m 30 ls [])) → ∀ (n : Nat) (x4_1 : Int32) (x4_2 : Int32), fX0_allStrength_L4 c_r K4 n x4_1 x4_2 = some z → ∀ (H : Heap) (locs : List Loc) (ls : Array Slot), va_P (dC, dI) vwCl (zwR cI cC f c_r) H → va_S noA s.heap H locs → lv_has ls 3 [(0, .ref (f 0)), (1, .int x4_1), (2, .int x4_2)] → W p l e (RMk 2 44) s m args below meth c H locs 0 0 Q (F0 m 4 ls []) := by
    intro K4 kx4 n
    induction n with
    | zero => intro x4_1 x4_2 h; rw [fX0_allStrength_L4] at h; cases h
    | succ n ih4 =>
      intro x4_1 x4_2 h H locs ls hP hS hl
      rw [fX0_allStrength_L4] at h
      refine lv_iload_n hx hb dX0_allStrength_4 rfl (lv_at hl 2 rfl) ?_
      refine lv_aload_n hx hb dX0_allStrength_5 rfl (lv_at hl 0 rfl) ?_
      refine va_get (D := (dC, dI)) (ci := 0) (v := .int (R_floes c_r)) (C := RX0) (T := TX0) (N := 8) hx hb hts hiX0 hown hK hP 0 rfl rfl 6 (by decide) hw1 (fun _ h9 => h9) rfl dX0_allStrength_6 ?_
      refine lv_icmp_ge (tgt := 30) hx hb dX0_allStrength_9 (by decide) (fun c9 => ?_) (fun c9 => ?_)
      · have h := itT c9 h
        exact kx4 _ h _ _ _ hP hS (lv_sub hl [1] rfl)
      have h := itF c9 h
      refine lv_iload_n hx hb dX0_allStrength_12 rfl (lv_at hl 1 rfl) ?_
      refine lv_aload_n hx hb dX0_allStrength_13 rfl (lv_at hl 0 rfl) ?_
      refine lv_iload_n hx hb dX0_allStrength_14 rfl (lv_at hl 2 rfl) ?_
      refine lv_aload_n hx hb dX0_allStrength_15 rfl (lv_at hl 0 rfl) ?_
      refine va_get (D := (dC, dI)) (ci := 0) (v := .int (R_minute c_r)) (C := RX0) (T := TX0) (N := 8) hx hb hts hiX0 hown hK hP 0 rfl rfl 7 (by decide) hw2 (fun _ h9 => h9) rfl dX0_allStrength_16 ?_
      obtain ⟨q19, e19, h⟩ := bd_some h
      refine g_roV (wc := (zwR cI cC f c_r)) ⟨hx, hb, hml, hown, hts⟩ hE hK hP hS [0, 1, 2, 3, 4, 5] rfl (mX0_strengthOf l dC dI cI cC sk f x4_2 (R_minute c_r) c_r q19 e19) (cwV 2 hts gX0_allStrength_X0_strengthOf rfl rfl rfl (by decide +kernel) ⟨Nat.le_of_ble_eq_true rfl, Nat.le_of_ble_eq_true rfl⟩) (va_recv hK hP (ci := 0) (q0 := 0) rfl rfl) (As := [.int x4_2, .int (R_minute c_r)]) (rest := [.int x4_1]) rfl hl.1 rfl (Nat.le_of_ble_eq_true rfl) dX0_allStrength_19 ⟨Nat.zero_le _, Nat.zero_le _⟩ (fun H locs hP hS => ?_)
      refine lv_iadd hx hb dX0_allStrength_22 ?_
      refine lv_istore_n (lv' := [(1, .int (x4_1 + q19)), (0, .ref (f 0)), (2, .int x4_2)]) hx hb dX0_allStrength_23 rfl hl (by decide) rfl (fun ls hl => ?_)
      refine lv_iinc (v := (x4_2 + (1 : Int32))) (lv' := [(2, .int (x4_2 + (1 : Int32))), (1, .int (x4_1 + q19)), (0, .ref (f 0))]) hx hb dX0_allStrength_24 hl (k := 2) rfl rfl (by decide) rfl (fun ls hl => ?_)
      refine lv_goto (tgt := 4) hx hb dX0_allStrength_27 (by decide) ?_
      exact ih4 _ _ h _ _ _ hP hS (lv_sub hl [2, 1, 0] rfl)
  refine L4 _ (fun k4_1 h H locs ls hP hS hl => ?_) _ _ _ h _ _ _ hP hS (lv_sub hl [2, 1, 0] rfl)
  refine lv_iload_n hx hb dX0_allStrength_30 rfl (lv_at hl 0 rfl) ?_
  subst hQ
  exact retRO hx hb hr hlocks rfl hS h dX0_allStrength_31
theorem dX0_isShared_0 : decode cX0_isShared 0 = .ok (.iconst 0, 1) := by decide +kernel
theorem dX0_isShared_1 : decode cX0_isShared 1 = .ok (.istore_n 3, 1) := by decide +kernel
theorem dX0_isShared_2 : decode cX0_isShared 2 = .ok (.iload_n 3, 1) := by decide +kernel
theorem dX0_isShared_3 : decode cX0_isShared 3 = .ok (.aload_n 0, 1) := by decide +kernel
theorem dX0_isShared_4 : decode cX0_isShared 4 = .ok (.getfield 31, 3) := by decide +kernel
theorem dX0_isShared_7 : decode cX0_isShared 7 = .ok (.if_icmp .ge 44, 3) := by decide +kernel
theorem dX0_isShared_10 : decode cX0_isShared 10 = .ok (.iload_n 3, 1) := by decide +kernel
theorem dX0_isShared_11 : decode cX0_isShared 11 = .ok (.iload_n 1, 1) := by decide +kernel
theorem dX0_isShared_12 : decode cX0_isShared 12 = .ok (.if_icmp .eq 33, 3) := by decide +kernel
theorem dX0_isShared_15 : decode cX0_isShared 15 = .ok (.aload_n 0, 1) := by decide +kernel
theorem dX0_isShared_16 : decode cX0_isShared 16 = .ok (.iload_n 3, 1) := by decide +kernel
theorem dX0_isShared_17 : decode cX0_isShared 17 = .ok (.invokevirtual 37, 3) := by decide +kernel
theorem dX0_isShared_20 : decode cX0_isShared 20 = .ok (.aload_n 0, 1) := by decide +kernel
theorem dX0_isShared_21 : decode cX0_isShared 21 = .ok (.iload_n 1, 1) := by decide +kernel
theorem dX0_isShared_22 : decode cX0_isShared 22 = .ok (.invokevirtual 37, 3) := by decide +kernel
theorem dX0_isShared_25 : decode cX0_isShared 25 = .ok (.if_icmp .ne 20, 3) := by decide +kernel
theorem dX0_isShared_28 : decode cX0_isShared 28 = .ok (.aload_n 0, 1) := by decide +kernel
theorem dX0_isShared_29 : decode cX0_isShared 29 = .ok (.iload_n 3, 1) := by decide +kernel
theorem dX0_isShared_30 : decode cX0_isShared 30 = .ok (.iload_n 2, 1) := by decide +kernel
theorem dX0_isShared_31 : decode cX0_isShared 31 = .ok (.invokevirtual 67, 3) := by decide +kernel
theorem dX0_isShared_34 : decode cX0_isShared 34 = .ok (.aload_n 0, 1) := by decide +kernel
theorem dX0_isShared_35 : decode cX0_isShared 35 = .ok (.iload_n 1, 1) := by decide +kernel
theorem dX0_isShared_36 : decode cX0_isShared 36 = .ok (.iload_n 2, 1) := by decide +kernel
theorem dX0_isShared_37 : decode cX0_isShared 37 = .ok (.invokevirtual 67, 3) := by decide +kernel
theorem dX0_isShared_40 : decode cX0_isShared 40 = .ok (.if_icmp .ne 5, 3) := by decide +kernel
theorem dX0_isShared_43 : decode cX0_isShared 43 = .ok (.iconst 1, 1) := by decide +kernel
theorem dX0_isShared_44 : decode cX0_isShared 44 = .ok (.ireturn, 1) := by decide +kernel
theorem dX0_isShared_45 : decode cX0_isShared 45 = .ok (.iinc 3 1, 3) := by decide +kernel
theorem dX0_isShared_48 : decode cX0_isShared 48 = .ok (.goto (-46), 3) := by decide +kernel
theorem dX0_isShared_51 : decode cX0_isShared 51 = .ok (.iconst 0, 1) := by decide +kernel
theorem dX0_isShared_52 : decode cX0_isShared 52 = .ok (.ireturn, 1) := by decide +kernel
set_option maxRecDepth 20000 in
theorem ggX0_isShared_X0_laneOf : GoodIn wsX0_isShared wsX0_laneOf := goodIn_r _ [6, 7, 8, 9, 10, 5, 11, 1, 26, 27, 28, 29, 30, 31, 32, 33] (by decide +kernel) (by decide +kernel)
set_option maxRecDepth 20000 in
theorem gX0_isShared_X0_laneOf : GoodIn wsX0_isShared (wsV RX0 37 RX0 yX0_laneOf wsX0_laneOf) := goodIn_app (goodIn_of _ (by decide +kernel)) ggX0_isShared_X0_laneOf
set_option maxRecDepth 20000 in
theorem ggX0_isShared_X0_spotOf : GoodIn wsX0_isShared wsX0_spotOf := goodIn_r _ [15, 16, 17, 18, 8, 9, 10, 5, 11, 1, 19, 20, 21, 22, 23, 24, 25, 26, 27, 28, 29, 30, 31, 32, 33] (by decide +kernel) (by decide +kernel)
set_option maxRecDepth 20000 in
theorem gX0_isShared_X0_spotOf : GoodIn wsX0_isShared (wsV RX0 67 RX0 yX0_spotOf wsX0_spotOf) := goodIn_app (goodIn_of _ (by decide +kernel)) ggX0_isShared_X0_spotOf
set_option maxHeartbeats 4000000 in
set_option maxRecDepth 100000 in
theorem mX0_isShared (l : Launch) (dC : Nat → ClassId) (dI : Nat → Nat → Nat) (cI cC : ClassId) (sk : (Nat → Nat) × (Nat → Nat)) (f : Nat → Nat) (p1 : Int32) (p2 : Int32) (c_r : RT) (z : Int32) (h : fX0_isShared p1 p2 c_r = some z) : cRO l yX0_isShared wsX0_isShared (RMk 3 69) sk (dC, dI) (tyz cI cC) (zwR cI cC f c_r) [.ref (f 0), .int p1, .int p2] z := by
  refine ofRO (cc := cX0_isShared) (maxL := 4) (ret := (some .boolean)) (own := RX0) (plainFor_of_name (by decide)) rfl rfl (Nat.le_of_ble_eq_true rfl) ?_
  intro p e s m args below meth c hx hb hml hr hts hown hlocks hE hK hP hS ls hl
  generalize hQ : qRO _ _ _ _ = Q
  have hl : lv_has ls 4 [(0, .ref (f 0)), (1, .int p1), (2, .int p2)] := hl
  have hiX0 : ∀ w ∈ wsX00, w ∈ wsX0_isShared := fun w h => List.mem_cons_of_mem _ (List.mem_append_right _ h)
  have hw1 := hts (Cond.fieldLink RX0 31 "FloeToFloe$River" "floes" "I") (List.mem_of_getElem? (i := 1) rfl)
  rw [fX0_isShared] at h
  refine lv_iconst (v := (0 : Int32)) hx hb dX0_isShared_0 (by decide) ?_
  refine lv_istore_n (lv' := [(3, .int (0 : Int32)), (0, .ref (f 0)), (1, .int p1), (2, .int p2)]) hx hb dX0_isShared_1 rfl hl (by decide) rfl (fun ls hl => ?_)
  have L2 : ∀ (K2 : Unit → Option (Int32)), (∀ (_ : Unit), K2 () = some z → ∀ (H : Heap) (locs : List Loc) (ls : Array Slot), va_P (dC, dI) vwCl (zwR cI cC f c_r) H → va_S noA s.heap H locs → lv_has ls 4 [] → W p l e (RMk 3 69) s m args below meth c H locs 0 0 Q (F0 m 51 ls [])) → ∀ (n : Nat) (x2_3 : Int32), fX0_isShared_L2 c_r p1 p2 K2 n x2_3 = some z → ∀ (H : Heap) (locs : List Loc) (ls : Array Slot), va_P (dC, dI) vwCl (zwR cI cC f c_r) H → va_S noA s.heap H locs → lv_has ls 4 [(0, .ref (f 0)), (1, .int p1), (2, .int p2), (3, .int x2_3)] → W p l e (RMk 3 69) s m args below meth c H locs 0 0 Q (F0 m 2 ls []) := by
    intro K2 kx2 n
    induction n with
    | zero => intro x2_3 h; rw [fX0_isShared_L2] at h; cases h
    | succ n ih2 =>
      intro x2_3 h H locs ls hP hS hl
      rw [fX0_isShared_L2] at h
      refine lv_iload_n hx hb dX0_isShared_2 rfl (lv_at hl 3 rfl) ?_
      refine lv_aload_n hx hb dX0_isShared_3 rfl (lv_at hl 0 rfl) ?_
      refine va_get (D := (dC, dI)) (ci := 0) (v := .int (R_floes c_r)) (C := RX0) (T := TX0) (N := 8) hx hb hts hiX0 hown hK hP 0 rfl rfl 6 (by decide) hw1 (fun _ h9 => h9) rfl dX0_isShared_4 ?_
      refine lv_icmp_ge (tgt := 51) hx hb dX0_isShared_7 (by decide) (fun c7 => ?_) (fun c7 => ?_)
      · have h := itT c7 h
        exact kx2 () h _ _ _ hP hS (lv_sub hl [] rfl)
      have h := itF c7 h
      refine lv_iload_n hx hb dX0_isShared_10 rfl (lv_at hl 3 rfl) ?_
      refine lv_iload_n hx hb dX0_isShared_11 rfl (lv_at hl 1 rfl) ?_
      refine lv_icmp_eq (tgt := 45) hx hb dX0_isShared_12 (by decide) (fun c12 => ?_) (fun c12 => ?_)
      · have h := itT c12 h
        refine lv_iinc (v := (x2_3 + (1 : Int32))) (lv' := [(3, .int (x2_3 + (1 : Int32))), (0, .ref (f 0)), (1, .int p1), (2, .int p2)]) hx hb dX0_isShared_45 hl (k := 3) rfl rfl (by decide) rfl (fun ls hl => ?_)
        refine lv_goto (tgt := 2) hx hb dX0_isShared_48 (by decide) ?_
        exact ih2 _ h _ _ _ hP hS (lv_sub hl [1, 2, 3, 0] rfl)
      have h := itF c12 h
      refine lv_aload_n hx hb dX0_isShared_15 rfl (lv_at hl 0 rfl) ?_
      refine lv_iload_n hx hb dX0_isShared_16 rfl (lv_at hl 3 rfl) ?_
      obtain ⟨q17, e17, h⟩ := bd_some h
      refine g_roV (wc := (zwR cI cC f c_r)) ⟨hx, hb, hml, hown, hts⟩ hE hK hP hS [0, 1, 2, 3, 4, 5] rfl (mX0_laneOf l dC dI cI cC sk f x2_3 c_r q17 e17) (cwV 1 hts gX0_isShared_X0_laneOf rfl rfl rfl (by decide +kernel) ⟨Nat.le_of_ble_eq_true rfl, Nat.le_of_ble_eq_true rfl⟩) (va_recv hK hP (ci := 0) (q0 := 0) rfl rfl) (As := [.int x2_3]) (rest := []) rfl hl.1 rfl (Nat.le_of_ble_eq_true rfl) dX0_isShared_17 ⟨Nat.zero_le _, Nat.zero_le _⟩ (fun H locs hP hS => ?_)
      refine lv_aload_n hx hb dX0_isShared_20 rfl (lv_at hl 0 rfl) ?_
      refine lv_iload_n hx hb dX0_isShared_21 rfl (lv_at hl 1 rfl) ?_
      obtain ⟨q22, e22, h⟩ := bd_some h
      refine g_roV (wc := (zwR cI cC f c_r)) ⟨hx, hb, hml, hown, hts⟩ hE hK hP hS [0, 1, 2, 3, 4, 5] rfl (mX0_laneOf l dC dI cI cC sk f p1 c_r q22 e22) (cwV 1 hts gX0_isShared_X0_laneOf rfl rfl rfl (by decide +kernel) ⟨Nat.le_of_ble_eq_true rfl, Nat.le_of_ble_eq_true rfl⟩) (va_recv hK hP (ci := 0) (q0 := 0) rfl rfl) (As := [.int p1]) (rest := [.int q17]) rfl hl.1 rfl (Nat.le_of_ble_eq_true rfl) dX0_isShared_22 ⟨Nat.zero_le _, Nat.zero_le _⟩ (fun H locs hP hS => ?_)
      refine lv_icmp_ne (tgt := 45) hx hb dX0_isShared_25 (by decide) (fun c25 => ?_) (fun c25 => ?_)
      · have h := itF c25 h
        refine lv_iinc (v := (x2_3 + (1 : Int32))) (lv' := [(3, .int (x2_3 + (1 : Int32))), (0, .ref (f 0)), (1, .int p1), (2, .int p2)]) hx hb dX0_isShared_45 hl (k := 3) rfl rfl (by decide) rfl (fun ls hl => ?_)
        refine lv_goto (tgt := 2) hx hb dX0_isShared_48 (by decide) ?_
        exact ih2 _ h _ _ _ hP hS (lv_sub hl [1, 2, 3, 0] rfl)
      have h := itT c25 h
      refine lv_aload_n hx hb dX0_isShared_28 rfl (lv_at hl 0 rfl) ?_
      refine lv_iload_n hx hb dX0_isShared_29 rfl (lv_at hl 3 rfl) ?_
      refine lv_iload_n hx hb dX0_isShared_30 rfl (lv_at hl 2 rfl) ?_
      obtain ⟨q31, e31, h⟩ := bd_some h
      refine g_roV (wc := (zwR cI cC f c_r)) ⟨hx, hb, hml, hown, hts⟩ hE hK hP hS [0, 1, 2, 3, 4, 5] rfl (mX0_spotOf l dC dI cI cC sk f x2_3 p2 c_r q31 e31) (cwV 2 hts gX0_isShared_X0_spotOf rfl rfl rfl (by decide +kernel) ⟨Nat.le_of_ble_eq_true rfl, Nat.le_of_ble_eq_true rfl⟩) (va_recv hK hP (ci := 0) (q0 := 0) rfl rfl) (As := [.int x2_3, .int p2]) (rest := []) rfl hl.1 rfl (Nat.le_of_ble_eq_true rfl) dX0_isShared_31 ⟨Nat.zero_le _, Nat.zero_le _⟩ (fun H locs hP hS => ?_)
      refine lv_aload_n hx hb dX0_isShared_34 rfl (lv_at hl 0 rfl) ?_
      refine lv_iload_n hx hb dX0_isShared_35 rfl (lv_at hl 1 rfl) ?_
      refine lv_iload_n hx hb dX0_isShared_36 rfl (lv_at hl 2 rfl) ?_
      obtain ⟨q37, e37, h⟩ := bd_some h
      refine g_roV (wc := (zwR cI cC f c_r)) ⟨hx, hb, hml, hown, hts⟩ hE hK hP hS [0, 1, 2, 3, 4, 5] rfl (mX0_spotOf l dC dI cI cC sk f p1 p2 c_r q37 e37) (cwV 2 hts gX0_isShared_X0_spotOf rfl rfl rfl (by decide +kernel) ⟨Nat.le_of_ble_eq_true rfl, Nat.le_of_ble_eq_true rfl⟩) (va_recv hK hP (ci := 0) (q0 := 0) rfl rfl) (As := [.int p1, .int p2]) (rest := [.int q31]) rfl hl.1 rfl (Nat.le_of_ble_eq_true rfl) dX0_isShared_37 ⟨Nat.zero_le _, Nat.zero_le _⟩ (fun H locs hP hS => ?_)
      refine lv_icmp_ne (tgt := 45) hx hb dX0_isShared_40 (by decide) (fun c40 => ?_) (fun c40 => ?_)
      · have h := itF c40 h
        refine lv_iinc (v := (x2_3 + (1 : Int32))) (lv' := [(3, .int (x2_3 + (1 : Int32))), (0, .ref (f 0)), (1, .int p1), (2, .int p2)]) hx hb dX0_isShared_45 hl (k := 3) rfl rfl (by decide) rfl (fun ls hl => ?_)
        refine lv_goto (tgt := 2) hx hb dX0_isShared_48 (by decide) ?_
        exact ih2 _ h _ _ _ hP hS (lv_sub hl [1, 2, 3, 0] rfl)
      have h := itT c40 h
      refine lv_iconst (v := (1 : Int32)) hx hb dX0_isShared_43 (by decide) ?_
      subst hQ
      exact retRO hx hb hr hlocks rfl hS h dX0_isShared_44
  refine L2 _ (fun _ h H locs ls hP hS hl => ?_) _ _ h _ _ _ hP hS (lv_sub hl [1, 2, 3, 0] rfl)
  refine lv_iconst (v := (0 : Int32)) hx hb dX0_isShared_51 (by decide) ?_
  subst hQ
  exact retRO hx hb hr hlocks rfl hS h dX0_isShared_52
