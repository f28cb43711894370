theorem dX4_bits_0 : decode cX4_bits 0 = .ok (.iconst 0, 1) := by decide +kernel
theorem dX4_bits_1 : decode cX4_bits 1 = .ok (.istore_n 1, 1) := by decide +kernel
theorem dX4_bits_2 : decode cX4_bits 2 = .ok (.iconst 0, 1) := by decide +kernel
theorem dX4_bits_3 : decode cX4_bits 3 = .ok (.istore_n 2, 1) := by decide +kernel
theorem dX4_bits_4 : decode cX4_bits 4 = .ok (.iload_n 2, 1) := by decide +kernel
theorem dX4_bits_5 : decode cX4_bits 5 = .ok (.bipush 31, 2) := by decide +kernel
theorem dX4_bits_7 : decode cX4_bits 7 = .ok (.if_icmp .ge 17, 3) := by decide +kernel
theorem dX4_bits_10 : decode cX4_bits 10 = .ok (.iload_n 1, 1) := by decide +kernel
theorem dX4_bits_11 : decode cX4_bits 11 = .ok (.iload_n 0, 1) := by decide +kernel
theorem dX4_bits_12 : decode cX4_bits 12 = .ok (.iload_n 2, 1) := by decide +kernel
theorem dX4_bits_13 : decode cX4_bits 13 = .ok (.ishr, 1) := by decide +kernel
theorem dX4_bits_14 : decode cX4_bits 14 = .ok (.iconst 1, 1) := by decide +kernel
theorem dX4_bits_15 : decode cX4_bits 15 = .ok (.iand, 1) := by decide +kernel
theorem dX4_bits_16 : decode cX4_bits 16 = .ok (.iadd, 1) := by decide +kernel
theorem dX4_bits_17 : decode cX4_bits 17 = .ok (.istore_n 1, 1) := by decide +kernel
theorem dX4_bits_18 : decode cX4_bits 18 = .ok (.iinc 2 1, 3) := by decide +kernel
theorem dX4_bits_21 : decode cX4_bits 21 = .ok (.goto (-17), 3) := by decide +kernel
theorem dX4_bits_24 : decode cX4_bits 24 = .ok (.iload_n 1, 1) := by decide +kernel
theorem dX4_bits_25 : decode cX4_bits 25 = .ok (.ireturn, 1) := by decide +kernel
set_option maxHeartbeats 4000000 in
set_option maxRecDepth 100000 in
theorem mX4_bits (l : Launch) (dC : Nat → ClassId) (dI : Nat → Nat → Nat) (cI cC : ClassId) (sk : (Nat → Nat) × (Nat → Nat))  (p0 : Int32)  (z : Int32) (h : fX4_bits p0 = some z) : cRO l yX4_bits wsX4_bits (RMk 0 0) sk (dC, dI) (tyz cI cC) ([] : va_W) [.int p0] z := by
  refine ofRO (cc := cX4_bits) (maxL := 3) (ret := (some .int)) (own := RX4) (plainFor_of_name (by decide)) rfl rfl (Nat.le_of_ble_eq_true rfl) ?_
  intro p e s m args below meth c hx hb hml hr hts hown hlocks hE hK hP hS ls hl
  generalize hQ : qRO _ _ _ _ = Q
  have hl : lv_has ls 3 [(0, .int p0)] := hl
  rw [fX4_bits] at h
  refine lv_iconst (v := (0 : Int32)) hx hb dX4_bits_0 (by decide) ?_
  refine lv_istore_n (lv' := [(1, .int (0 : Int32)), (0, .int p0)]) hx hb dX4_bits_1 rfl hl (by decide) rfl (fun ls hl => ?_)
  refine lv_iconst (v := (0 : Int32)) hx hb dX4_bits_2 (by decide) ?_
  refine lv_istore_n (lv' := [(2, .int (0 : Int32)), (1, .int (0 : Int32)), (0, .int p0)]) hx hb dX4_bits_3 rfl hl (by decide) rfl (fun ls hl => ?_)
  have L4 : ∀ (K4 : Int32 → Option (Int32)), (∀ (k4_1 : Int32), K4 k4_1 = some z → ∀ (H : Heap) (locs : List Loc) (ls : Array Slot), va_P (dC, dI) vwCl ([] : va_W) H → va_S noA s.heap H locs → lv_has ls 3 [(1, .int k4_1)] → W p l e (RMk 0 0) s m args below meth c H locs 0 0 Q (F0 m 24 ls [])) → ∀ (n : Nat) (x4_1 : Int32) (x4_2 : Int32), fX4_bits_L4 p0 K4 n x4_1 x4_2 = some z → ∀ (H : Heap) (locs : List Loc) (ls : Array Slot), va_P (dC, dI) vwCl ([] : va_W) H → va_S noA s.heap H locs → lv_has ls 3 [(0, .int p0), (1, .int x4_1), (2, .int x4_2)] → W p l e (RMk 0 0) s m args below meth c H locs 0 0 Q (F0 m 4 ls []) := by
    intro K4 kx4 n
    induction n with
    | zero => intro x4_1 x4_2 h; rw [fX4_bits_L4] at h; cases h
    | succ n ih4 =>
      intro x4_1 x4_2 h H locs ls hP hS hl
      rw [fX4_bits_L4] at h
      refine lv_iload_n hx hb dX4_bits_4 rfl (lv_at hl 2 rfl) ?_
      refine lv_bipush (v := (31 : Int32)) hx hb dX4_bits_5 (by decide) ?_
      refine lv_icmp_ge (tgt := 24) hx hb dX4_bits_7 (by decide) (fun c7 => ?_) (fun c7 => ?_)
      · have h := itT c7 h
        exact kx4 _ h _ _ _ hP hS (lv_sub hl [1] rfl)
      have h := itF c7 h
      refine lv_iload_n hx hb dX4_bits_10 rfl (lv_at hl 1 rfl) ?_
      refine lv_iload_n hx hb dX4_bits_11 rfl (lv_at hl 0 rfl) ?_
      refine lv_iload_n hx hb dX4_bits_12 rfl (lv_at hl 2 rfl) ?_
      refine lv_ishr hx hb dX4_bits_13 ?_
      refine lv_iconst (v := (1 : Int32)) hx hb dX4_bits_14 (by decide) ?_
      refine lv_iand hx hb dX4_bits_15 ?_
      refine lv_iadd hx hb dX4_bits_16 ?_
      refine lv_istore_n (lv' := [(1, .int (x4_1 + ((p0 >>> (x4_2 &&& 31)) &&& (1 : Int32)))), (0, .int p0), (2, .int x4_2)]) hx hb dX4_bits_17 rfl hl (by decide) rfl (fun ls hl => ?_)
      refine lv_iinc (v := (x4_2 + (1 : Int32))) (lv' := [(2, .int (x4_2 + (1 : Int32))), (1, .int (x4_1 + ((p0 >>> (x4_2 &&& 31)) &&& (1 : Int32)))), (0, .int p0)]) hx hb dX4_bits_18 hl (k := 2) rfl rfl (by decide) rfl (fun ls hl => ?_)
      refine lv_goto (tgt := 4) hx hb dX4_bits_21 (by decide) ?_
      exact ih4 _ _ h _ _ _ hP hS (lv_sub hl [2, 1, 0] rfl)
  refine L4 _ (fun k4_1 h H locs ls hP hS hl => ?_) _ _ _ h _ _ _ hP hS (lv_sub hl [2, 1, 0] rfl)
  refine lv_iload_n hx hb dX4_bits_24 rfl (lv_at hl 0 rfl) ?_
  subst hQ
  exact retRO hx hb hr hlocks rfl hS h dX4_bits_25
theorem dX4_floeBit_0 : decode cX4_floeBit 0 = .ok (.iload_n 1, 1) := by decide +kernel
theorem dX4_floeBit_1 : decode cX4_floeBit 1 = .ok (.iconst 1, 1) := by decide +kernel
theorem dX4_floeBit_2 : decode cX4_floeBit 2 = .ok (.if_icmp .ne 23, 3) := by decide +kernel
theorem dX4_floeBit_5 : decode cX4_floeBit 5 = .ok (.iload_n 0, 1) := by decide +kernel
theorem dX4_floeBit_6 : decode cX4_floeBit 6 = .ok (.bipush 10, 2) := by decide +kernel
theorem dX4_floeBit_8 : decode cX4_floeBit 8 = .ok (.bipush 17, 2) := by decide +kernel
theorem dX4_floeBit_10 : decode cX4_floeBit 10 = .ok (.invokestatic 62, 3) := by decide +kernel
theorem dX4_floeBit_13 : decode cX4_floeBit 13 = .ok (.ifCond .eq 12, 3) := by decide +kernel
theorem dX4_floeBit_16 : decode cX4_floeBit 16 = .ok (.iconst 1, 1) := by decide +kernel
theorem dX4_floeBit_17 : decode cX4_floeBit 17 = .ok (.iload_n 0, 1) := by decide +kernel
theorem dX4_floeBit_18 : decode cX4_floeBit 18 = .ok (.bipush 10, 2) := by decide +kernel
theorem dX4_floeBit_20 : decode cX4_floeBit 20 = .ok (.isub, 1) := by decide +kernel
theorem dX4_floeBit_21 : decode cX4_floeBit 21 = .ok (.ishl, 1) := by decide +kernel
theorem dX4_floeBit_22 : decode cX4_floeBit 22 = .ok (.goto 4, 3) := by decide +kernel
theorem dX4_floeBit_25 : decode cX4_floeBit 25 = .ok (.iconst 0, 1) := by decide +kernel
theorem dX4_floeBit_26 : decode cX4_floeBit 26 = .ok (.ireturn, 1) := by decide +kernel
set_option maxRecDepth 20000 in
theorem ggX4_floeBit_X4_isIn : GoodIn wsX4_floeBit wsX4_isIn := goodIn_r _ [4] (by decide +kernel) (by decide +kernel)
set_option maxRecDepth 20000 in
theorem gX4_floeBit_X4_isIn : GoodIn wsX4_floeBit (va_wsS RX4 62 yX4_isIn wsX4_isIn) := goodIn_app (goodIn_of _ (by decide +kernel)) ggX4_floeBit_X4_isIn
set_option maxHeartbeats 4000000 in
set_option maxRecDepth 100000 in
theorem mX4_floeBit (l : Launch) (dC : Nat → ClassId) (dI : Nat → Nat → Nat) (cI cC : ClassId) (sk : (Nat → Nat) × (Nat → Nat))  (p0 : Int32) (p1 : Int32)  (z : Int32) (h : fX4_floeBit p0 p1 = some z) : cRO l yX4_floeBit wsX4_floeBit (RMk 1 22) sk (dC, dI) (tyz cI cC) ([] : va_W) [.int p0, .int p1] z := by
  refine ofRO (cc := cX4_floeBit) (maxL := 2) (ret := (some .int)) (own := RX4) (plainFor_of_name (by decide)) rfl rfl (Nat.le_of_ble_eq_true rfl) ?_
  intro p e s m args below meth c hx hb hml hr hts hown hlocks hE hK hP hS ls hl
  generalize hQ : qRO _ _ _ _ = Q
  have hl : lv_has ls 2 [(0, .int p0), (1, .int p1)] := hl
  rw [fX4_floeBit] at h
  refine lv_iload_n hx hb dX4_floeBit_0 rfl (lv_at hl 1 rfl) ?_
  refine lv_iconst (v := (1 : Int32)) hx hb dX4_floeBit_1 (by decide) ?_
  refine lv_icmp_ne (tgt := 25) hx hb dX4_floeBit_2 (by decide) (fun c2 => ?_) (fun c2 => ?_)
  · have h := itF c2 h
    refine lv_iconst (v := (0 : Int32)) hx hb dX4_floeBit_25 (by decide) ?_
    subst hQ
    exact retRO hx hb hr hlocks rfl hS h dX4_floeBit_26
  have h := itT c2 h
  refine lv_iload_n hx hb dX4_floeBit_5 rfl (lv_at hl 0 rfl) ?_
  refine lv_bipush (v := (10 : Int32)) hx hb dX4_floeBit_6 (by decide) ?_
  refine lv_bipush (v := (17 : Int32)) hx hb dX4_floeBit_8 (by decide) ?_
  obtain ⟨q10, e10, h⟩ := bd_some h
  refine g_roS (wc := ([] : va_W)) ⟨hx, hb, hml, hown, hts⟩ hE hK hP hS [] rfl (mX4_isIn l dC dI cI cC sk  p0 (10 : Int32) (17 : Int32) q10 e10) (va_cwS 3 hts gX4_floeBit_X4_isIn rfl rfl rfl (by decide +kernel) ⟨Nat.le_of_ble_eq_true rfl, Nat.le_of_ble_eq_true rfl⟩) (As := [.int p0, .int (10 : Int32), .int (17 : Int32)]) (rest := []) rfl hl.1 rfl (Nat.le_of_ble_eq_true rfl) dX4_floeBit_10 ⟨Nat.zero_le _, Nat.zero_le _⟩ (fun H locs hP hS => ?_)
  refine lv_if_eq (tgt := 25) hx hb dX4_floeBit_13 (by decide) (fun c13 => ?_) (fun c13 => ?_)
  · have h := itT c13 h
    refine lv_iconst (v := (0 : Int32)) hx hb dX4_floeBit_25 (by decide) ?_
    subst hQ
    exact retRO hx hb hr hlocks rfl hS h dX4_floeBit_26
  have h := itF c13 h
  refine lv_iconst (v := (1 : Int32)) hx hb dX4_floeBit_16 (by decide) ?_
  refine lv_iload_n hx hb dX4_floeBit_17 rfl (lv_at hl 0 rfl) ?_
  refine lv_bipush (v := (10 : Int32)) hx hb dX4_floeBit_18 (by decide) ?_
  refine lv_isub hx hb dX4_floeBit_20 ?_
  refine lv_ishl hx hb dX4_floeBit_21 ?_
  refine lv_goto (tgt := 26) hx hb dX4_floeBit_22 (by decide) ?_
  subst hQ
  exact retRO hx hb hr hlocks rfl hS h dX4_floeBit_26
