theorem dX0_laneOf_0 : decode cX0_laneOf 0 = .ok (.aload_n 0, 1) := by decide +kernel
theorem dX0_laneOf_1 : decode cX0_laneOf 1 = .ok (.iload_n 1, 1) := by decide +kernel
theorem dX0_laneOf_2 : decode cX0_laneOf 2 = .ok (.invokevirtual 50, 3) := by decide +kernel
theorem dX0_laneOf_5 : decode cX0_laneOf 5 = .ok (.ifCond .eq 12, 3) := by decide +kernel
theorem dX0_laneOf_8 : decode cX0_laneOf 8 = .ok (.aload_n 0, 1) := by decide +kernel
theorem dX0_laneOf_9 : decode cX0_laneOf 9 = .ok (.getfield 15, 3) := by decide +kernel
theorem dX0_laneOf_12 : decode cX0_laneOf 12 = .ok (.iload_n 1, 1) := by decide +kernel
theorem dX0_laneOf_13 : decode cX0_laneOf 13 = .ok (.iaload, 1) := by decide +kernel
theorem dX0_laneOf_14 : decode cX0_laneOf 14 = .ok (.goto 5, 3) := by decide +kernel
theorem dX0_laneOf_17 : decode cX0_laneOf 17 = .ok (.bipush (-9), 2) := by decide +kernel
theorem dX0_laneOf_19 : decode cX0_laneOf 19 = .ok (.ireturn, 1) := by decide +kernel
set_option maxRecDepth 20000 in
theorem ggX0_laneOf_X0_has : GoodIn wsX0_laneOf wsX0_has := goodIn_r _ [6, 7, 8, 9, 10, 11, 12, 13, 14, 15] (by decide +kernel) (by decide +kernel)
set_option maxRecDepth 20000 in
theorem gX0_laneOf_X0_has : GoodIn wsX0_laneOf (wsV RX0 50 RX0 yX0_has wsX0_has) := goodIn_app (goodIn_of _ (by decide +kernel)) ggX0_laneOf_X0_has
set_option maxHeartbeats 4000000 in
set_option maxRecDepth 100000 in
theorem mX0_laneOf (l : Launch) (dC : Nat → ClassId) (dI : Nat → Nat → Nat) (cI cC : ClassId) (sk : (Nat → Nat) × (Nat → Nat)) (f : Nat → Nat) (p1 : Int32) (c_r : RT) (z : Int32) (h : fX0_laneOf p1 c_r = some z) : cRO l yX0_laneOf wsX0_laneOf (RMk 1 21) sk (dC, dI) (tyz cI cC) (zwR cI cC f c_r) [.ref (f 0), .int p1] z := by
  refine ofRO (cc := cX0_laneOf) (maxL := 2) (ret := (some .int)) (own := RX0) (plainFor_of_name (by decide)) rfl rfl (Nat.le_of_ble_eq_true rfl) ?_
  intro p e s m args below meth c hx hb hml hr hts hown hlocks hE hK hP hS ls hl
  generalize hQ : qRO _ _ _ _ = Q
  have hl : lv_has ls 2 [(0, .ref (f 0)), (1, .int p1)] := hl
  have hiX0 : ∀ w ∈ wsX00, w ∈ wsX0_laneOf := fun w h => List.mem_cons_of_mem _ (List.mem_append_right _ h)
  have hw1 := hts (Cond.fieldLink RX0 15 "FloeToFloe$River" "homes" "[I") (List.mem_of_getElem? (i := 1) rfl)
  rw [fX0_laneOf] at h
  refine lv_aload_n hx hb dX0_laneOf_0 rfl (lv_at hl 0 rfl) ?_
  refine lv_iload_n hx hb dX0_laneOf_1 rfl (lv_at hl 1 rfl) ?_
  obtain ⟨q2, e2, h⟩ := bd_some h
  refine g_roV (wc := (zwR cI cC f c_r)) ⟨hx, hb, hml, hown, hts⟩ hE hK hP hS [0, 1, 2, 3, 4, 5] rfl (mX0_has l dC dI cI cC sk f p1 c_r q2 e2) (cwV 1 hts gX0_laneOf_X0_has rfl rfl rfl (by decide +kernel) ⟨Nat.le_of_ble_eq_true rfl, Nat.le_of_ble_eq_true rfl⟩) (va_recv hK hP (ci := 0) (q0 := 0) rfl rfl) (As := [.int p1]) (rest := []) rfl hl.1 rfl (Nat.le_of_ble_eq_true rfl) dX0_laneOf_2 ⟨Nat.zero_le _, Nat.zero_le _⟩ (fun H locs hP hS => ?_)
  refine lv_if_eq (tgt := 17) hx hb dX0_laneOf_5 (by decide) (fun c5 => ?_) (fun c5 => ?_)
  · have h := itT c5 h
    refine lv_bipush (v := (-9 : Int32)) hx hb dX0_laneOf_17 (by decide) ?_
    subst hQ
    exact retRO hx hb hr hlocks rfl hS h dX0_laneOf_19
  have h := itF c5 h
  refine lv_aload_n hx hb dX0_laneOf_8 rfl (lv_at hl 0 rfl) ?_
  refine va_get (D := (dC, dI)) (ci := 0) (v := .ref (f 2)) (C := RX0) (T := TX0) (N := 8) hx hb hts hiX0 hown hK hP 0 rfl rfl 1 (by decide) hw1 (fun _ h9 => h9) rfl dX0_laneOf_9 ?_
  refine lv_iload_n hx hb dX0_laneOf_12 rfl (lv_at hl 1 rfl) ?_
  obtain ⟨hin, h⟩ := ck_some h
  refine va_iald hx hb hK hP 2 0 rfl rfl hin dX0_laneOf_13 ?_
  refine lv_goto (tgt := 19) hx hb dX0_laneOf_14 (by decide) ?_
  subst hQ
  exact retRO hx hb hr hlocks rfl hS h dX0_laneOf_19
theorem dX0_widen_0 : decode cX0_widen 0 = .ok (.iload_n 1, 1) := by decide +kernel
theorem dX0_widen_1 : decode cX0_widen 1 = .ok (.iconst 1, 1) := by decide +kernel
theorem dX0_widen_2 : decode cX0_widen 2 = .ok (.if_icmp .lt 8, 3) := by decide +kernel
theorem dX0_widen_5 : decode cX0_widen 5 = .ok (.iload_n 1, 1) := by decide +kernel
theorem dX0_widen_6 : decode cX0_widen 6 = .ok (.iconst 5, 1) := by decide +kernel
theorem dX0_widen_7 : decode cX0_widen 7 = .ok (.if_icmp .le 5, 3) := by decide +kernel
theorem dX0_widen_10 : decode cX0_widen 10 = .ok (.iconst 0, 1) := by decide +kernel
theorem dX0_widen_11 : decode cX0_widen 11 = .ok (.ireturn, 1) := by decide +kernel
theorem dX0_widen_12 : decode cX0_widen 12 = .ok (.iconst 0, 1) := by decide +kernel
theorem dX0_widen_13 : decode cX0_widen 13 = .ok (.istore_n 2, 1) := by decide +kernel
theorem dX0_widen_14 : decode cX0_widen 14 = .ok (.iload_n 2, 1) := by decide +kernel
theorem dX0_widen_15 : decode cX0_widen 15 = .ok (.aload_n 0, 1) := by decide +kernel
theorem dX0_widen_16 : decode cX0_widen 16 = .ok (.getfield 31, 3) := by decide +kernel
theorem dX0_widen_19 : decode cX0_widen 19 = .ok (.if_icmp .ge 20, 3) := by decide +kernel
theorem dX0_widen_22 : decode cX0_widen 22 = .ok (.aload_n 0, 1) := by decide +kernel
theorem dX0_widen_23 : decode cX0_widen 23 = .ok (.iload_n 2, 1) := by decide +kernel
theorem dX0_widen_24 : decode cX0_widen 24 = .ok (.invokevirtual 37, 3) := by decide +kernel
theorem dX0_widen_27 : decode cX0_widen 27 = .ok (.iload_n 1, 1) := by decide +kernel
theorem dX0_widen_28 : decode cX0_widen 28 = .ok (.if_icmp .lt 5, 3) := by decide +kernel
theorem dX0_widen_31 : decode cX0_widen 31 = .ok (.iconst 0, 1) := by decide +kernel
theorem dX0_widen_32 : decode cX0_widen 32 = .ok (.ireturn, 1) := by decide +kernel
theorem dX0_widen_33 : decode cX0_widen 33 = .ok (.iinc 2 1, 3) := by decide +kernel
theorem dX0_widen_36 : decode cX0_widen 36 = .ok (.goto (-22), 3) := by decide +kernel
theorem dX0_widen_39 : decode cX0_widen 39 = .ok (.aload_n 0, 1) := by decide +kernel
theorem dX0_widen_40 : decode cX0_widen 40 = .ok (.iload_n 1, 1) := by decide +kernel
theorem dX0_widen_41 : decode cX0_widen 41 = .ok (.putfield 27, 3) := by decide +kernel
theorem dX0_widen_44 : decode cX0_widen 44 = .ok (.iconst 1, 1) := by decide +kernel
theorem dX0_widen_45 : decode cX0_widen 45 = .ok (.ireturn, 1) := by decide +kernel
set_option maxRecDepth 20000 in
theorem ggX0_widen_X0_laneOf : GoodIn wsX0_widen wsX0_laneOf := goodIn_r _ [7, 8, 9, 10, 11, 6, 12, 1, 13, 14, 15, 16, 17, 18, 19, 20] (by decide +kernel) (by decide +kernel)
set_option maxRecDepth 20000 in
theorem gX0_widen_X0_laneOf : GoodIn wsX0_widen (wsV RX0 37 RX0 yX0_laneOf wsX0_laneOf) := goodIn_app (goodIn_of _ (by decide +kernel)) ggX0_widen_X0_laneOf
set_option maxHeartbeats 4000000 in
set_option maxRecDepth 100000 in
theorem mX0_widen (l : Launch) (dC : Nat → ClassId) (dI : Nat → Nat → Nat) (cI cC : ClassId) (sk : (Nat → Nat) × (Nat → Nat)) (f : Nat → Nat) (sz : Nat) (p1 : Int32) (c_r : RT) (z : Int32 × RT) (h : fX0_widen p1 c_r = some z) : cRW l yX0_widen wsX0_widen (RMk 2 42) sk (dC, dI) (tyz cI cC) sz (zwR cI cC f c_r) (zwR cI cC f z.2) [.ref (f 0), .int p1] z.1 := by
  refine ofRW (cc := cX0_widen) (maxL := 3) (ret := (some .boolean)) (own := RX0) (plainFor_of_name (by decide)) rfl rfl (Nat.le_of_ble_eq_true rfl) ?_
  intro p e s m args below meth c A hA hx hb hml hr hts hown hlocks hE hK hP hD hS ls hl
  generalize hQ : qRW _ _ _ _ _ _ _ = Q
  have hl : lv_has ls 3 [(0, .ref (f 0)), (1, .int p1)] := hl
  have hiX0 : ∀ w ∈ wsX00, w ∈ wsX0_widen := fun w h => List.mem_cons_of_mem _ (List.mem_append_right _ h)
  have hw1 := hts (Cond.fieldLink RX0 31 "FloeToFloe$River" "floes" "I") (List.mem_of_getElem? (i := 1) rfl)
  have hw2 := hts (Cond.fieldLink RX0 27 "FloeToFloe$River" "lanes" "I") (List.mem_of_getElem? (i := 2) rfl)
  rw [fX0_widen] at h
  refine lv_iload_n hx hb dX0_widen_0 rfl (lv_at hl 1 rfl) ?_
  refine lv_iconst (v := (1 : Int32)) hx hb dX0_widen_1 (by decide) ?_
  refine lv_icmp_lt (tgt := 10) hx hb dX0_widen_2 (by decide) (fun c2 => ?_) (fun c2 => ?_)
  · have h := itT c2 h
    refine lv_iconst (v := (0 : Int32)) hx hb dX0_widen_10 (by decide) ?_
    subst hQ
    exact retRW (zz := (((0 : Int32), c_r) : Int32 × RT)) (fun z => z.1) (fun z => (zwR cI cC f z.2)) hx hb hr hlocks rfl hS h rfl hP dX0_widen_11
  have h := itF c2 h
  refine lv_iload_n hx hb dX0_widen_5 rfl (lv_at hl 1 rfl) ?_
  refine lv_iconst (v := (5 : Int32)) hx hb dX0_widen_6 (by decide) ?_
  refine lv_icmp_le (tgt := 12) hx hb dX0_widen_7 (by decide) (fun c7 => ?_) (fun c7 => ?_)
  · have h := itT c7 h
    refine lv_iconst (v := (0 : Int32)) hx hb dX0_widen_12 (by decide) ?_
    refine lv_istore_n (lv' := [(2, .int (0 : Int32)), (0, .ref (f 0)), (1, .int p1)]) hx hb dX0_widen_13 rfl hl (by decide) rfl (fun ls hl => ?_)
    have L14 : ∀ (K14 : Unit → Option (Int32 × RT)), (∀ (_ : Unit), K14 () = some z → ∀ (H : Heap) (locs : List Loc) (ls : Array Slot), va_P (dC, dI) vwCl (zwR cI cC f c_r) H → va_D A (zwR cI cC f c_r) → va_S A s.heap H locs → lv_has ls 3 [(0, .ref (f 0)), (1, .int p1)] → W p l e (RMk 2 42) s m args below meth c H locs 0 0 Q (F0 m 39 ls [])) → ∀ (n : Nat) (x14_2 : Int32), fX0_widen_L14 c_r p1 K14 n x14_2 = some z → ∀ (H : Heap) (locs : List Loc) (ls : Array Slot), va_P (dC, dI) vwCl (zwR cI cC f c_r) H → va_D A (zwR cI cC f c_r) → va_S A s.heap H locs → lv_has ls 3 [(0, .ref (f 0)), (1, .int p1), (2, .int x14_2)] → W p l e (RMk 2 42) s m args below meth c H locs 0 0 Q (F0 m 14 ls []) := by
      intro K14 kx14 n
      induction n with
      | zero => intro x14_2 h; rw [fX0_widen_L14] at h; cases h
      | succ n ih14 =>
        intro x14_2 h H locs ls hP hD hS hl
        rw [fX0_widen_L14] at h
        refine lv_iload_n hx hb dX0_widen_14 rfl (lv_at hl 2 rfl) ?_
        refine lv_aload_n hx hb dX0_widen_15 rfl (lv_at hl 0 rfl) ?_
        refine va_get (D := (dC, dI)) (ci := 0) (v := .int (R_floes c_r)) (C := RX0) (T := TX0) (N := 8) hx hb hts hiX0 hown hK hP 0 rfl rfl 6 (by decide) hw1 (fun _ h9 => h9) rfl dX0_widen_16 ?_
        refine lv_icmp_ge (tgt := 39) hx hb dX0_widen_19 (by decide) (fun c19 => ?_) (fun c19 => ?_)
        · have h := itT c19 h
          exact kx14 () h _ _ _ hP hD hS (lv_sub hl [0, 1] rfl)
        have h := itF c19 h
        refine lv_aload_n hx hb dX0_widen_22 rfl (lv_at hl 0 rfl) ?_
        refine lv_iload_n hx hb dX0_widen_23 rfl (lv_at hl 2 rfl) ?_
        obtain ⟨q24, e24, h⟩ := bd_some h
        refine g_roV (wc := (zwR cI cC f c_r)) ⟨hx, hb, hml, hown, hts⟩ hE hK hP hS [0, 1, 2, 3, 4, 5] rfl (mX0_laneOf l dC dI cI cC sk f x14_2 c_r q24 e24) (cwV 1 hts gX0_widen_X0_laneOf rfl rfl rfl (by decide +kernel) ⟨Nat.le_of_ble_eq_true rfl, Nat.le_of_ble_eq_true rfl⟩) (va_recv hK hP (ci := 0) (q0 := 0) rfl rfl) (As := [.int x14_2]) (rest := []) rfl hl.1 rfl (Nat.le_of_ble_eq_true rfl) dX0_widen_24 ⟨Nat.zero_le _, Nat.zero_le _⟩ (fun H locs hP hS => ?_)
        refine lv_iload_n hx hb dX0_widen_27 rfl (lv_at hl 1 rfl) ?_
        refine lv_icmp_lt (tgt := 33) hx hb dX0_widen_28 (by decide) (fun c28 => ?_) (fun c28 => ?_)
        · have h := itT c28 h
          refine lv_iinc (v := (x14_2 + (1 : Int32))) (lv' := [(2, .int (x14_2 + (1 : Int32))), (0, .ref (f 0)), (1, .int p1)]) hx hb dX0_widen_33 hl (k := 2) rfl rfl (by decide) rfl (fun ls hl => ?_)
          refine lv_goto (tgt := 14) hx hb dX0_widen_36 (by decide) ?_
          exact ih14 _ h _ _ _ hP hD hS (lv_sub hl [1, 2, 0] rfl)
        have h := itF c28 h
        refine lv_iconst (v := (0 : Int32)) hx hb dX0_widen_31 (by decide) ?_
        subst hQ
        exact retRW (zz := (((0 : Int32), c_r) : Int32 × RT)) (fun z => z.1) (fun z => (zwR cI cC f z.2)) hx hb hr hlocks rfl hS h rfl hP dX0_widen_32
    refine L14 _ (fun _ h H locs ls hP hD hS hl => ?_) _ _ h _ _ _ hP hD hS (lv_sub hl [1, 2, 0] rfl)
    refine lv_aload_n hx hb dX0_widen_39 rfl (lv_at hl 0 rfl) ?_
    refine lv_iload_n hx hb dX0_widen_40 rfl (lv_at hl 1 rfl) ?_
    refine va_put (D := (dC, dI)) (ci := 0) (v := .int p1) (ty := .int) (C := RX0) (T := TX0) (N := 8) hx hb hts hiX0 tyX0 tyX0_ok nmX0 hown hK hP hD hS 0 rfl rfl 5 (by decide) hw2 (fun _ h9 => h9) rfl (by decide +kernel) rfl rfl (Nat.le_of_ble_eq_true rfl) dX0_widen_41 (fun H locs hP hD hS => ?_)
    have hP : va_P (dC, dI) vwCl (zwR cI cC f (R_setLanes c_r p1)) H := hP
    have hD : va_D A (zwR cI cC f (R_setLanes c_r p1)) := hD
    refine lv_iconst (v := (1 : Int32)) hx hb dX0_widen_44 (by decide) ?_
    subst hQ
    exact retRW (zz := (((1 : Int32), (R_setLanes c_r p1)) : Int32 × RT)) (fun z => z.1) (fun z => (zwR cI cC f z.2)) hx hb hr hlocks rfl hS h rfl hP dX0_widen_45
  have h := itF c7 h
  refine lv_iconst (v := (0 : Int32)) hx hb dX0_widen_10 (by decide) ?_
  subst hQ
  exact retRW (zz := (((0 : Int32), c_r) : Int32 × RT)) (fun z => z.1) (fun z => (zwR cI cC f z.2)) hx hb hr hlocks rfl hS h rfl hP dX0_widen_11
