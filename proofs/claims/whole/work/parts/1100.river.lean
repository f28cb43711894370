theorem dX0_has_0 : decode cX0_has 0 = .ok (.iload_n 1, 1) := by decide +kernel
theorem dX0_has_1 : decode cX0_has 1 = .ok (.ifCond .lt 21, 3) := by decide +kernel
theorem dX0_has_4 : decode cX0_has 4 = .ok (.iload_n 1, 1) := by decide +kernel
theorem dX0_has_5 : decode cX0_has 5 = .ok (.aload_n 0, 1) := by decide +kernel
theorem dX0_has_6 : decode cX0_has 6 = .ok (.getfield 31, 3) := by decide +kernel
theorem dX0_has_9 : decode cX0_has 9 = .ok (.if_icmp .ge 13, 3) := by decide +kernel
theorem dX0_has_12 : decode cX0_has 12 = .ok (.iload_n 1, 1) := by decide +kernel
theorem dX0_has_13 : decode cX0_has 13 = .ok (.bipush 8, 2) := by decide +kernel
theorem dX0_has_15 : decode cX0_has 15 = .ok (.if_icmp .ge 7, 3) := by decide +kernel
theorem dX0_has_18 : decode cX0_has 18 = .ok (.iconst 1, 1) := by decide +kernel
theorem dX0_has_19 : decode cX0_has 19 = .ok (.goto 4, 3) := by decide +kernel
theorem dX0_has_22 : decode cX0_has 22 = .ok (.iconst 0, 1) := by decide +kernel
theorem dX0_has_23 : decode cX0_has 23 = .ok (.ireturn, 1) := by decide +kernel
set_option maxHeartbeats 4000000 in
set_option maxRecDepth 100000 in
theorem mX0_has (l : Launch) (dC : Nat → ClassId) (dI : Nat → Nat → Nat) (cI cC : ClassId) (sk : (Nat → Nat) × (Nat → Nat)) (f : Nat → Nat) (p1 : Int32) (c_r : RT) (z : Int32) (h : fX0_has p1 c_r = some z) : cRO l yX0_has wsX0_has (RMk 0 0) sk (dC, dI) (tyz cI cC) (zwR cI cC f c_r) [.ref (f 0), .int p1] z := by
  refine ofRO (cc := cX0_has) (maxL := 2) (ret := (some .boolean)) (own := RX0) (plainFor_of_name (by decide)) rfl rfl (Nat.le_of_ble_eq_true rfl) ?_
  intro p e s m args below meth c hx hb hml hr hts hown hlocks hE hK hP hS ls hl
  generalize hQ : qRO _ _ _ _ = Q
  have hl : lv_has ls 2 [(0, .ref (f 0)), (1, .int p1)] := hl
  have hiX0 : ∀ w ∈ wsX00, w ∈ wsX0_has := fun w h => List.mem_cons_of_mem _ (List.mem_append_right _ h)
  have hw1 := hts (Cond.fieldLink RX0 31 "FloeToFloe$River" "floes" "I") (List.mem_of_getElem? (i := 1) rfl)
  rw [fX0_has] at h
  refine lv_iload_n hx hb dX0_has_0 rfl (lv_at hl 1 rfl) ?_
  refine lv_if_lt (tgt := 22) hx hb dX0_has_1 (by decide) (fun c1 => ?_) (fun c1 => ?_)
  · have h := itT c1 h
    refine lv_iconst (v := (0 : Int32)) hx hb dX0_has_22 (by decide) ?_
    subst hQ
    exact retRO hx hb hr hlocks rfl hS h dX0_has_23
  have h := itF c1 h
  refine lv_iload_n hx hb dX0_has_4 rfl (lv_at hl 1 rfl) ?_
  refine lv_aload_n hx hb dX0_has_5 rfl (lv_at hl 0 rfl) ?_
  refine va_get (D := (dC, dI)) (ci := 0) (v := .int (R_floes c_r)) (C := RX0) (T := TX0) (N := 8) hx hb hts hiX0 hown hK hP 0 rfl rfl 6 (by decide) hw1 (fun _ h9 => h9) rfl dX0_has_6 ?_
  refine lv_icmp_ge (tgt := 22) hx hb dX0_has_9 (by decide) (fun c9 => ?_) (fun c9 => ?_)
  · have h := itT c9 h
    refine lv_iconst (v := (0 : Int32)) hx hb dX0_has_22 (by decide) ?_
    subst hQ
    exact retRO hx hb hr hlocks rfl hS h dX0_has_23
  have h := itF c9 h
  refine lv_iload_n hx hb dX0_has_12 rfl (lv_at hl 1 rfl) ?_
  refine lv_bipush (v := (8 : Int32)) hx hb dX0_has_13 (by decide) ?_
  refine lv_icmp_ge (tgt := 22) hx hb dX0_has_15 (by decide) (fun c15 => ?_) (fun c15 => ?_)
  · have h := itT c15 h
    refine lv_iconst (v := (0 : Int32)) hx hb dX0_has_22 (by decide) ?_
    subst hQ
    exact retRO hx hb hr hlocks rfl hS h dX0_has_23
  have h := itF c15 h
  refine lv_iconst (v := (1 : Int32)) hx hb dX0_has_18 (by decide) ?_
  refine lv_goto (tgt := 23) hx hb dX0_has_19 (by decide) ?_
  subst hQ
  exact retRO hx hb hr hlocks rfl hS h dX0_has_23
