theorem dX0_spotAt_0 : decode cX0_spotAt 0 = .ok (.iload_n 0, 1) := by decide +kernel
theorem dX0_spotAt_1 : decode cX0_spotAt 1 = .ok (.iconst 4, 1) := by decide +kernel
theorem dX0_spotAt_2 : decode cX0_spotAt 2 = .ok (.if_icmp .ne 5, 3) := by decide +kernel
theorem dX0_spotAt_5 : decode cX0_spotAt 5 = .ok (.iload_n 1, 1) := by decide +kernel
theorem dX0_spotAt_6 : decode cX0_spotAt 6 = .ok (.ireturn, 1) := by decide +kernel
theorem dX0_spotAt_7 : decode cX0_spotAt 7 = .ok (.iload_n 3, 1) := by decide +kernel
theorem dX0_spotAt_8 : decode cX0_spotAt 8 = .ok (.istore 4, 2) := by decide +kernel
theorem dX0_spotAt_10 : decode cX0_spotAt 10 = .ok (.iload_n 0, 1) := by decide +kernel
theorem dX0_spotAt_11 : decode cX0_spotAt 11 = .ok (.iconst 3, 1) := by decide +kernel
theorem dX0_spotAt_12 : decode cX0_spotAt 12 = .ok (.if_icmp .ne 29, 3) := by decide +kernel
theorem dX0_spotAt_15 : decode cX0_spotAt 15 = .ok (.iload_n 3, 1) := by decide +kernel
theorem dX0_spotAt_16 : decode cX0_spotAt 16 = .ok (.bipush 6, 2) := by decide +kernel
theorem dX0_spotAt_18 : decode cX0_spotAt 18 = .ok (.invokestatic 57, 3) := by decide +kernel
theorem dX0_spotAt_21 : decode cX0_spotAt 21 = .ok (.istore 5, 2) := by decide +kernel
theorem dX0_spotAt_23 : decode cX0_spotAt 23 = .ok (.iload 5, 2) := by decide +kernel
theorem dX0_spotAt_25 : decode cX0_spotAt 25 = .ok (.iconst 3, 1) := by decide +kernel
theorem dX0_spotAt_26 : decode cX0_spotAt 26 = .ok (.if_icmp .gt 8, 3) := by decide +kernel
theorem dX0_spotAt_29 : decode cX0_spotAt 29 = .ok (.iload 5, 2) := by decide +kernel
theorem dX0_spotAt_31 : decode cX0_spotAt 31 = .ok (.goto 8, 3) := by decide +kernel
theorem dX0_spotAt_34 : decode cX0_spotAt 34 = .ok (.bipush 6, 2) := by decide +kernel
theorem dX0_spotAt_36 : decode cX0_spotAt 36 = .ok (.iload 5, 2) := by decide +kernel
theorem dX0_spotAt_38 : decode cX0_spotAt 38 = .ok (.isub, 1) := by decide +kernel
theorem dX0_spotAt_39 : decode cX0_spotAt 39 = .ok (.istore 4, 2) := by decide +kernel
theorem dX0_spotAt_41 : decode cX0_spotAt 41 = .ok (.iload_n 1, 1) := by decide +kernel
theorem dX0_spotAt_42 : decode cX0_spotAt 42 = .ok (.iload_n 2, 1) := by decide +kernel
theorem dX0_spotAt_43 : decode cX0_spotAt 43 = .ok (.iload 4, 2) := by decide +kernel
theorem dX0_spotAt_45 : decode cX0_spotAt 45 = .ok (.imul, 1) := by decide +kernel
theorem dX0_spotAt_46 : decode cX0_spotAt 46 = .ok (.iadd, 1) := by decide +kernel
theorem dX0_spotAt_47 : decode cX0_spotAt 47 = .ok (.bipush 10, 2) := by decide +kernel
theorem dX0_spotAt_49 : decode cX0_spotAt 49 = .ok (.invokestatic 57, 3) := by decide +kernel
theorem dX0_spotAt_52 : decode cX0_spotAt 52 = .ok (.ireturn, 1) := by decide +kernel
set_option maxRecDepth 20000 in
theorem ggX0_spotAt_J9_floorMod_7cf53 : GoodIn wsX0_spotAt wsJ9_floorMod_7cf53 := goodIn_r _ [4] (by decide +kernel) (by decide +kernel)
set_option maxRecDepth 20000 in
theorem gX0_spotAt_J9_floorMod_7cf53 : GoodIn wsX0_spotAt (va_wsS RX0 57 yJ9_floorMod_7cf53 wsJ9_floorMod_7cf53) := goodIn_app (goodIn_of _ (by decide +kernel)) ggX0_spotAt_J9_floorMod_7cf53
set_option maxHeartbeats 4000000 in
set_option maxRecDepth 100000 in
theorem mX0_spotAt (l : Launch) (dC : Nat → ClassId) (dI : Nat → Nat → Nat) (cI cC : ClassId) (sk : (Nat → Nat) × (Nat → Nat))  (p0 : Int32) (p1 : Int32) (p2 : Int32) (p3 : Int32)  (z : Int32) (h : fX0_spotAt p0 p1 p2 p3 = some z) : cRO l yX0_spotAt wsX0_spotAt (RMk 1 22) sk (dC, dI) (tyz cI cC) ([] : va_W) [.int p0, .int p1, .int p2, .int p3] z := by
  refine ofRO (cc := cX0_spotAt) (maxL := 6) (ret := (some .int)) (own := RX0) (plainFor_of_name (by decide)) rfl rfl (Nat.le_of_ble_eq_true rfl) ?_
  intro p e s m args below meth c hx hb hml hr hts hown hlocks hE hK hP hS ls hl
  generalize hQ : qRO _ _ _ _ = Q
  have hl : lv_has ls 6 [(0, .int p0), (1, .int p1), (2, .int p2), (3, .int p3)] := hl
  rw [fX0_spotAt] at h
  refine lv_iload_n hx hb dX0_spotAt_0 rfl (lv_at hl 0 rfl) ?_
  refine lv_iconst (v := (4 : Int32)) hx hb dX0_spotAt_1 (by decide) ?_
  refine lv_icmp_ne (tgt := 7) hx hb dX0_spotAt_2 (by decide) (fun c2 => ?_) (fun c2 => ?_)
  · have h := itF c2 h
    refine lv_iload_n hx hb dX0_spotAt_7 rfl (lv_at hl 3 rfl) ?_
    refine lv_istore (lv' := [(4, .int p3), (0, .int p0), (1, .int p1), (2, .int p2), (3, .int p3)]) hx hb dX0_spotAt_8 hl (by decide) rfl (fun ls hl => ?_)
    refine lv_iload_n hx hb dX0_spotAt_10 rfl (lv_at hl 1 rfl) ?_
    refine lv_iconst (v := (3 : Int32)) hx hb dX0_spotAt_11 (by decide) ?_
    refine jnW (fun (v41 : Int32) => ∀ (H : Heap) (locs : List Loc) (ls : Array Slot), va_P (dC, dI) vwCl ([] : va_W) H → va_S noA s.heap H locs → lv_has ls 6 [(1, .int p1), (2, .int p2), (4, .int v41)] → W p l e (RMk 1 22) s m args below meth c H locs 0 0 Q (F0 m 41 ls [])) h (fun v41 h H locs ls hP hS hl => ?_) (fun J41 j41 h => ?_)
    · refine lv_iload_n hx hb dX0_spotAt_41 rfl (lv_at hl 0 rfl) ?_
      refine lv_iload_n hx hb dX0_spotAt_42 rfl (lv_at hl 1 rfl) ?_
      refine lv_iload hx hb dX0_spotAt_43 (lv_at hl 2 rfl) ?_
      refine lv_imul hx hb dX0_spotAt_45 ?_
      refine lv_iadd hx hb dX0_spotAt_46 ?_
      refine lv_bipush (v := (10 : Int32)) hx hb dX0_spotAt_47 (by decide) ?_
      obtain ⟨q49, e49, h⟩ := bd_some h
      refine g_roS (wc := ([] : va_W)) ⟨hx, hb, hml, hown, hts⟩ hE hK hP hS [] rfl (mJ9_floorMod_7cf53 l dC dI cI cC sk  (p1 + (p2 * v41)) (10 : Int32) q49 e49) (va_cwS 2 hts gX0_spotAt_J9_floorMod_7cf53 rfl rfl rfl (by decide +kernel) ⟨Nat.le_of_ble_eq_true rfl, Nat.le_of_ble_eq_true rfl⟩) (As := [.int (p1 + (p2 * v41)), .int (10 : Int32)]) (rest := []) rfl hl.1 rfl (Nat.le_of_ble_eq_true rfl) dX0_spotAt_49 ⟨Nat.zero_le _, Nat.zero_le _⟩ (fun H locs hP hS => ?_)
      subst hQ
      exact retRO hx hb hr hlocks rfl hS h dX0_spotAt_52
    refine lv_icmp_ne (tgt := 41) hx hb dX0_spotAt_12 (by decide) (fun c12 => ?_) (fun c12 => ?_)
    · have h := itF c12 h
      exact j41 _ h _ _ _ hP hS (lv_sub hl [2, 3, 0] rfl)
    have h := itT c12 h
    refine lv_iload_n hx hb dX0_spotAt_15 rfl (lv_at hl 4 rfl) ?_
    refine lv_bipush (v := (6 : Int32)) hx hb dX0_spotAt_16 (by decide) ?_
    obtain ⟨q18, e18, h⟩ := bd_some h
    refine g_roS (wc := ([] : va_W)) ⟨hx, hb, hml, hown, hts⟩ hE hK hP hS [] rfl (mJ9_floorMod_7cf53 l dC dI cI cC sk  p3 (6 : Int32) q18 e18) (va_cwS 2 hts gX0_spotAt_J9_floorMod_7cf53 rfl rfl rfl (by decide +kernel) ⟨Nat.le_of_ble_eq_true rfl, Nat.le_of_ble_eq_true rfl⟩) (As := [.int p3, .int (6 : Int32)]) (rest := []) rfl hl.1 rfl (Nat.le_of_ble_eq_true rfl) dX0_spotAt_18 ⟨Nat.zero_le _, Nat.zero_le _⟩ (fun H locs hP hS => ?_)
    refine lv_istore (lv' := [(5, .int q18), (4, .int p3), (0, .int p0), (1, .int p1), (2, .int p2), (3, .int p3)]) hx hb dX0_spotAt_21 hl (by decide) rfl (fun ls hl => ?_)
    refine lv_iload hx hb dX0_spotAt_23 (lv_at hl 0 rfl) ?_
    refine lv_iconst (v := (3 : Int32)) hx hb dX0_spotAt_25 (by decide) ?_
    refine lv_icmp_gt (tgt := 34) hx hb dX0_spotAt_26 (by decide) (fun c26 => ?_) (fun c26 => ?_)
    · have h := itT c26 h
      refine lv_bipush (v := (6 : Int32)) hx hb dX0_spotAt_34 (by decide) ?_
      refine lv_iload hx hb dX0_spotAt_36 (lv_at hl 0 rfl) ?_
      refine lv_isub hx hb dX0_spotAt_38 ?_
      refine lv_istore (lv' := [(4, .int ((6 : Int32) - q18)), (5, .int q18), (0, .int p0), (1, .int p1), (2, .int p2), (3, .int p3)]) hx hb dX0_spotAt_39 hl (by decide) rfl (fun ls hl => ?_)
      exact j41 _ h _ _ _ hP hS (lv_sub hl [3, 4, 0] rfl)
    have h := itF c26 h
    refine lv_iload hx hb dX0_spotAt_29 (lv_at hl 0 rfl) ?_
    refine lv_goto (tgt := 39) hx hb dX0_spotAt_31 (by decide) ?_
    refine lv_istore (lv' := [(4, .int q18), (5, .int q18), (0, .int p0), (1, .int p1), (2, .int p2), (3, .int p3)]) hx hb dX0_spotAt_39 hl (by decide) rfl (fun ls hl => ?_)
    exact j41 _ h _ _ _ hP hS (lv_sub hl [3, 4, 0] rfl)
  have h := itT c2 h
  refine lv_iload_n hx hb dX0_spotAt_5 rfl (lv_at hl 1 rfl) ?_
  subst hQ
  exact retRO hx hb hr hlocks rfl hS h dX0_spotAt_6
theorem dX0_spotOf_0 : decode cX0_spotOf 0 = .ok (.aload_n 0, 1) := by decide +kernel
theorem dX0_spotOf_1 : decode cX0_spotOf 1 = .ok (.iload_n 1, 1) := by decide +kernel
theorem dX0_spotOf_2 : decode cX0_spotOf 2 = .ok (.invokevirtual 50, 3) := by decide +kernel
theorem dX0_spotOf_5 : decode cX0_spotOf 5 = .ok (.ifCond .eq 28, 3) := by decide +kernel
theorem dX0_spotOf_8 : decode cX0_spotOf 8 = .ok (.aload_n 0, 1) := by decide +kernel
theorem dX0_spotOf_9 : decode cX0_spotOf 9 = .ok (.getfield 9, 3) := by decide +kernel
theorem dX0_spotOf_12 : decode cX0_spotOf 12 = .ok (.iload_n 1, 1) := by decide +kernel
theorem dX0_spotOf_13 : decode cX0_spotOf 13 = .ok (.iaload, 1) := by decide +kernel
theorem dX0_spotOf_14 : decode cX0_spotOf 14 = .ok (.aload_n 0, 1) := by decide +kernel
theorem dX0_spotOf_15 : decode cX0_spotOf 15 = .ok (.getfield 18, 3) := by decide +kernel
theorem dX0_spotOf_18 : decode cX0_spotOf 18 = .ok (.iload_n 1, 1) := by decide +kernel
theorem dX0_spotOf_19 : decode cX0_spotOf 19 = .ok (.iaload, 1) := by decide +kernel
theorem dX0_spotOf_20 : decode cX0_spotOf 20 = .ok (.aload_n 0, 1) := by decide +kernel
theorem dX0_spotOf_21 : decode cX0_spotOf 21 = .ok (.getfield 21, 3) := by decide +kernel
theorem dX0_spotOf_24 : decode cX0_spotOf 24 = .ok (.iload_n 1, 1) := by decide +kernel
theorem dX0_spotOf_25 : decode cX0_spotOf 25 = .ok (.iaload, 1) := by decide +kernel
theorem dX0_spotOf_26 : decode cX0_spotOf 26 = .ok (.iload_n 2, 1) := by decide +kernel
theorem dX0_spotOf_27 : decode cX0_spotOf 27 = .ok (.invokestatic 53, 3) := by decide +kernel
theorem dX0_spotOf_30 : decode cX0_spotOf 30 = .ok (.goto 5, 3) := by decide +kernel
theorem dX0_spotOf_33 : decode cX0_spotOf 33 = .ok (.bipush (-9), 2) := by decide +kernel
theorem dX0_spotOf_35 : decode cX0_spotOf 35 = .ok (.ireturn, 1) := by decide +kernel
set_option maxRecDepth 20000 in
theorem ggX0_spotOf_X0_has : GoodIn wsX0_spotOf wsX0_has := goodIn_r _ [8, 9, 17, 18, 19, 20, 21, 22, 23, 24] (by decide +kernel) (by decide +kernel)
set_option maxRecDepth 20000 in
theorem gX0_spotOf_X0_has : GoodIn wsX0_spotOf (wsV RX0 50 RX0 yX0_has wsX0_has) := goodIn_app (goodIn_of _ (by decide +kernel)) ggX0_spotOf_X0_has
set_option maxRecDepth 20000 in
theorem ggX0_spotOf_X0_spotAt : GoodIn wsX0_spotOf wsX0_spotAt := goodIn_r _ [12, 13, 14, 15, 16] (by decide +kernel) (by decide +kernel)
set_option maxRecDepth 20000 in
theorem gX0_spotOf_X0_spotAt : GoodIn wsX0_spotOf (va_wsS RX0 53 yX0_spotAt wsX0_spotAt) := goodIn_app (goodIn_of _ (by decide +kernel)) ggX0_spotOf_X0_spotAt
set_option maxHeartbeats 4000000 in
set_option maxRecDepth 100000 in
theorem mX0_spotOf (l : Launch) (dC : Nat → ClassId) (dI : Nat → Nat → Nat) (cI cC : ClassId) (sk : (Nat → Nat) × (Nat → Nat)) (f : Nat → Nat) (p1 : Int32) (p2 : Int32) (c_r : RT) (z : Int32) (h : fX0_spotOf p1 p2 c_r = some z) : cRO l yX0_spotOf wsX0_spotOf (RMk 2 47) sk (dC, dI) (tyz cI cC) (zwR cI cC f c_r) [.ref (f 0), .int p1, .int p2] z := by
  refine ofRO (cc := cX0_spotOf) (maxL := 3) (ret := (some .int)) (own := RX0) (plainFor_of_name (by decide)) rfl rfl (Nat.le_of_ble_eq_true rfl) ?_
  intro p e s m args below meth c hx hb hml hr hts hown hlocks hE hK hP hS ls hl
  generalize hQ : qRO _ _ _ _ = Q
  have hl : lv_has ls 3 [(0, .ref (f 0)), (1, .int p1), (2, .int p2)] := hl
  have hiX0 : ∀ w ∈ wsX00, w ∈ wsX0_spotOf := fun w h => List.mem_cons_of_mem _ (List.mem_append_right _ h)
  have hw1 := hts (Cond.fieldLink RX0 9 "FloeToFloe$River" "kinds" "[I") (List.mem_of_getElem? (i := 1) rfl)
  have hw2 := hts (Cond.fieldLink RX0 18 "FloeToFloe$River" "cells" "[I") (List.mem_of_getElem? (i := 2) rfl)
  have hw3 := hts (Cond.fieldLink RX0 21 "FloeToFloe$River" "paces" "[I") (List.mem_of_getElem? (i := 3) rfl)
  rw [fX0_spotOf] at h
  refine lv_aload_n hx hb dX0_spotOf_0 rfl (lv_at hl 0 rfl) ?_
  refine lv_iload_n hx hb dX0_spotOf_1 rfl (lv_at hl 1 rfl) ?_
  obtain ⟨q2, e2, h⟩ := bd_some h
  refine g_roV (wc := (zwR cI cC f c_r)) ⟨hx, hb, hml, hown, hts⟩ hE hK hP hS [0, 1, 2, 3, 4, 5] rfl (mX0_has l dC dI cI cC sk f p1 c_r q2 e2) (cwV 1 hts gX0_spotOf_X0_has rfl rfl rfl (by decide +kernel) ⟨Nat.le_of_ble_eq_true rfl, Nat.le_of_ble_eq_true rfl⟩) (va_recv hK hP (ci := 0) (q0 := 0) rfl rfl) (As := [.int p1]) (rest := []) rfl hl.1 rfl (Nat.le_of_ble_eq_true rfl) dX0_spotOf_2 ⟨Nat.zero_le _, Nat.zero_le _⟩ (fun H locs hP hS => ?_)
  refine lv_if_eq (tgt := 33) hx hb dX0_spotOf_5 (by decide) (fun c5 => ?_) (fun c5 => ?_)
  · have h := itT c5 h
    refine lv_bipush (v := (-9 : Int32)) hx hb dX0_spotOf_33 (by decide) ?_
    subst hQ
    exact retRO hx hb hr hlocks rfl hS h dX0_spotOf_35
  have h := itF c5 h
  refine lv_aload_n hx hb dX0_spotOf_8 rfl (lv_at hl 0 rfl) ?_
  refine va_get (D := (dC, dI)) (ci := 0) (v := .ref (f 1)) (C := RX0) (T := TX0) (N := 8) hx hb hts hiX0 hown hK hP 0 rfl rfl 0 (by decide) hw1 (fun _ h9 => h9) rfl dX0_spotOf_9 ?_
  refine lv_iload_n hx hb dX0_spotOf_12 rfl (lv_at hl 1 rfl) ?_
  obtain ⟨hin, h⟩ := ck_some h
  refine va_iald hx hb hK hP 1 0 rfl rfl hin dX0_spotOf_13 ?_
  refine lv_aload_n hx hb dX0_spotOf_14 rfl (lv_at hl 0 rfl) ?_
  refine va_get (D := (dC, dI)) (ci := 0) (v := .ref (f 3)) (C := RX0) (T := TX0) (N := 8) hx hb hts hiX0 hown hK hP 0 rfl rfl 2 (by decide) hw2 (fun _ h9 => h9) rfl dX0_spotOf_15 ?_
  refine lv_iload_n hx hb dX0_spotOf_18 rfl (lv_at hl 1 rfl) ?_
  obtain ⟨hin, h⟩ := ck_some h
  refine va_iald hx hb hK hP 3 0 rfl rfl hin dX0_spotOf_19 ?_
  refine lv_aload_n hx hb dX0_spotOf_20 rfl (lv_at hl 0 rfl) ?_
  refine va_get (D := (dC, dI)) (ci := 0) (v := .ref (f 4)) (C := RX0) (T := TX0) (N := 8) hx hb hts hiX0 hown hK hP 0 rfl rfl 3 (by decide) hw3 (fun _ h9 => h9) rfl dX0_spotOf_21 ?_
  refine lv_iload_n hx hb dX0_spotOf_24 rfl (lv_at hl 1 rfl) ?_
  obtain ⟨hin, h⟩ := ck_some h
  refine va_iald hx hb hK hP 4 0 rfl rfl hin dX0_spotOf_25 ?_
  refine lv_iload_n hx hb dX0_spotOf_26 rfl (lv_at hl 2 rfl) ?_
  obtain ⟨q27, e27, h⟩ := bd_some h
  refine g_roS (wc := ([] : va_W)) ⟨hx, hb, hml, hown, hts⟩ hE hK hP hS [] rfl (mX0_spotAt l dC dI cI cC sk  ((R_kinds c_r) (p1).toNatClampNeg) ((R_cells c_r) (p1).toNatClampNeg) ((R_paces c_r) (p1).toNatClampNeg) p2 q27 e27) (va_cwS 4 hts gX0_spotOf_X0_spotAt rfl rfl rfl (by decide +kernel) ⟨Nat.le_of_ble_eq_true rfl, Nat.le_of_ble_eq_true rfl⟩) (As := [.int ((R_kinds c_r) (p1).toNatClampNeg), .int ((R_cells c_r) (p1).toNatClampNeg), .int ((R_paces c_r) (p1).toNatClampNeg), .int p2]) (rest := []) rfl hl.1 rfl (Nat.le_of_ble_eq_true rfl) dX0_spotOf_27 ⟨Nat.zero_le _, Nat.zero_le _⟩ (fun H locs hP hS => ?_)
  refine lv_goto (tgt := 35) hx hb dX0_spotOf_30 (by decide) ?_
  subst hQ
  exact retRO hx hb hr hlocks rfl hS h dX0_spotOf_35
theorem dX0_strengthOf_0 : decode cX0_strengthOf 0 = .ok (.aload_n 0, 1) := by decide +kernel
theorem dX0_strengthOf_1 : decode cX0_strengthOf 1 = .ok (.iload_n 1, 1) := by decide +kernel
theorem dX0_strengthOf_2 : decode cX0_strengthOf 2 = .ok (.invokevirtual 50, 3) := by decide +kernel
theorem dX0_strengthOf_5 : decode cX0_strengthOf 5 = .ok (.ifCond .ne 5, 3) := by decide +kernel
theorem dX0_strengthOf_8 : decode cX0_strengthOf 8 = .ok (.iconst 0, 1) := by decide +kernel
theorem dX0_strengthOf_9 : decode cX0_strengthOf 9 = .ok (.ireturn, 1) := by decide +kernel
theorem dX0_strengthOf_10 : decode cX0_strengthOf 10 = .ok (.aload_n 0, 1) := by decide +kernel
theorem dX0_strengthOf_11 : decode cX0_strengthOf 11 = .ok (.getfield 24, 3) := by decide +kernel
theorem dX0_strengthOf_14 : decode cX0_strengthOf 14 = .ok (.iload_n 1, 1) := by decide +kernel
theorem dX0_strengthOf_15 : decode cX0_strengthOf 15 = .ok (.iaload, 1) := by decide +kernel
theorem dX0_strengthOf_16 : decode cX0_strengthOf 16 = .ok (.istore_n 3, 1) := by decide +kernel
theorem dX0_strengthOf_17 : decode cX0_strengthOf 17 = .ok (.aload_n 0, 1) := by decide +kernel
theorem dX0_strengthOf_18 : decode cX0_strengthOf 18 = .ok (.getfield 9, 3) := by decide +kernel
theorem dX0_strengthOf_21 : decode cX0_strengthOf 21 = .ok (.iload_n 1, 1) := by decide +kernel
theorem dX0_strengthOf_22 : decode cX0_strengthOf 22 = .ok (.iaload, 1) := by decide +kernel
theorem dX0_strengthOf_23 : decode cX0_strengthOf 23 = .ok (.tableswitch 64 1 5 #[33, 43, 64, 64, 57], 33) := by decide +kernel
theorem dX0_strengthOf_56 : decode cX0_strengthOf 56 = .ok (.iconst 0, 1) := by decide +kernel
theorem dX0_strengthOf_57 : decode cX0_strengthOf 57 = .ok (.iload_n 3, 1) := by decide +kernel
theorem dX0_strengthOf_58 : decode cX0_strengthOf 58 = .ok (.iload_n 2, 1) := by decide +kernel
theorem dX0_strengthOf_59 : decode cX0_strengthOf 59 = .ok (.iconst 4, 1) := by decide +kernel
theorem dX0_strengthOf_60 : decode cX0_strengthOf 60 = .ok (.idiv, 1) := by decide +kernel
theorem dX0_strengthOf_61 : decode cX0_strengthOf 61 = .ok (.isub, 1) := by decide +kernel
theorem dX0_strengthOf_62 : decode cX0_strengthOf 62 = .ok (.invokestatic 61, 3) := by decide +kernel
theorem dX0_strengthOf_65 : decode cX0_strengthOf 65 = .ok (.ireturn, 1) := by decide +kernel
theorem dX0_strengthOf_66 : decode cX0_strengthOf 66 = .ok (.iconst 0, 1) := by decide +kernel
theorem dX0_strengthOf_67 : decode cX0_strengthOf 67 = .ok (.iload_n 3, 1) := by decide +kernel
theorem dX0_strengthOf_68 : decode cX0_strengthOf 68 = .ok (.iload_n 2, 1) := by decide +kernel
theorem dX0_strengthOf_69 : decode cX0_strengthOf 69 = .ok (.iconst 4, 1) := by decide +kernel
theorem dX0_strengthOf_70 : decode cX0_strengthOf 70 = .ok (.idiv, 1) := by decide +kernel
theorem dX0_strengthOf_71 : decode cX0_strengthOf 71 = .ok (.isub, 1) := by decide +kernel
theorem dX0_strengthOf_72 : decode cX0_strengthOf 72 = .ok (.iload_n 2, 1) := by decide +kernel
theorem dX0_strengthOf_73 : decode cX0_strengthOf 73 = .ok (.iconst 2, 1) := by decide +kernel
theorem dX0_strengthOf_74 : decode cX0_strengthOf 74 = .ok (.irem, 1) := by decide +kernel
theorem dX0_strengthOf_75 : decode cX0_strengthOf 75 = .ok (.isub, 1) := by decide +kernel
theorem dX0_strengthOf_76 : decode cX0_strengthOf 76 = .ok (.invokestatic 61, 3) := by decide +kernel
theorem dX0_strengthOf_79 : decode cX0_strengthOf 79 = .ok (.ireturn, 1) := by decide +kernel
theorem dX0_strengthOf_80 : decode cX0_strengthOf 80 = .ok (.iload_n 3, 1) := by decide +kernel
theorem dX0_strengthOf_81 : decode cX0_strengthOf 81 = .ok (.iload_n 2, 1) := by decide +kernel
theorem dX0_strengthOf_82 : decode cX0_strengthOf 82 = .ok (.bipush 6, 2) := by decide +kernel
theorem dX0_strengthOf_84 : decode cX0_strengthOf 84 = .ok (.idiv, 1) := by decide +kernel
theorem dX0_strengthOf_85 : decode cX0_strengthOf 85 = .ok (.iadd, 1) := by decide +kernel
theorem dX0_strengthOf_86 : decode cX0_strengthOf 86 = .ok (.ireturn, 1) := by decide +kernel
theorem dX0_strengthOf_87 : decode cX0_strengthOf 87 = .ok (.iload_n 3, 1) := by decide +kernel
theorem dX0_strengthOf_88 : decode cX0_strengthOf 88 = .ok (.ireturn, 1) := by decide +kernel
set_option maxRecDepth 20000 in
theorem ggX0_strengthOf_X0_has : GoodIn wsX0_strengthOf wsX0_has := goodIn_r _ [11, 12, 13, 14, 15, 16, 17, 18, 19, 20] (by decide +kernel) (by decide +kernel)
set_option maxRecDepth 20000 in
theorem gX0_strengthOf_X0_has : GoodIn wsX0_strengthOf (wsV RX0 50 RX0 yX0_has wsX0_has) := goodIn_app (goodIn_of _ (by decide +kernel)) ggX0_strengthOf_X0_has
set_option maxHeartbeats 4000000 in
set_option maxRecDepth 100000 in
theorem mX0_strengthOf (l : Launch) (dC : Nat → ClassId) (dI : Nat → Nat → Nat) (cI cC : ClassId) (sk : (Nat → Nat) × (Nat → Nat)) (f : Nat → Nat) (p1 : Int32) (p2 : Int32) (c_r : RT) (z : Int32) (h : fX0_strengthOf p1 p2 c_r = some z) : cRO l yX0_strengthOf wsX0_strengthOf (RMk 1 21) sk (dC, dI) (tyz cI cC) (zwR cI cC f c_r) [.ref (f 0), .int p1, .int p2] z := by
  refine ofRO (cc := cX0_strengthOf) (maxL := 4) (ret := (some .int)) (own := RX0) (plainFor_of_name (by decide)) rfl rfl (Nat.le_of_ble_eq_true rfl) ?_
  intro p e s m args below meth c hx hb hml hr hts hown hlocks hE hK hP hS ls hl
  generalize hQ : qRO _ _ _ _ = Q
  have hl : lv_has ls 4 [(0, .ref (f 0)), (1, .int p1), (2, .int p2)] := hl
  have hiX0 : ∀ w ∈ wsX00, w ∈ wsX0_strengthOf := fun w h => List.mem_cons_of_mem _ (List.mem_append_right _ h)
  have hw1 := hts (Cond.fieldLink RX0 24 "FloeToFloe$River" "strengths" "[I") (List.mem_of_getElem? (i := 1) rfl)
  have hw2 := hts (Cond.fieldLink RX0 9 "FloeToFloe$River" "kinds" "[I") (List.mem_of_getElem? (i := 2) rfl)
  have hw3 := hts (Cond.methodLink RX0 61 Lib.Math.max.name) (List.mem_of_getElem? (i := 3) rfl)
  have hw4 := hts (Cond.static Lib.Math.max.name) (List.mem_of_getElem? (i := 4) rfl)
  have hw5 := hts (Cond.initialized "java/lang/Math") (List.mem_of_getElem? (i := 5) rfl)
  have hw6 := hts (Cond.code Lib.Math.max.name Lib.Math.max.code 2 (some .int)) (List.mem_of_getElem? (i := 6) rfl)
  rw [fX0_strengthOf] at h
  refine lv_aload_n hx hb dX0_strengthOf_0 rfl (lv_at hl 0 rfl) ?_
  refine lv_iload_n hx hb dX0_strengthOf_1 rfl (lv_at hl 1 rfl) ?_
  obtain ⟨q2, e2, h⟩ := bd_some h
  refine g_roV (wc := (zwR cI cC f c_r)) ⟨hx, hb, hml, hown, hts⟩ hE hK hP hS [0, 1, 2, 3, 4, 5] rfl (mX0_has l dC dI cI cC sk f p1 c_r q2 e2) (cwV 1 hts gX0_strengthOf_X0_has rfl rfl rfl (by decide +kernel) ⟨Nat.le_of_ble_eq_true rfl, Nat.le_of_ble_eq_true rfl⟩) (va_recv hK hP (ci := 0) (q0 := 0) rfl rfl) (As := [.int p1]) (rest := []) rfl hl.1 rfl (Nat.le_of_ble_eq_true rfl) dX0_strengthOf_2 ⟨Nat.zero_le _, Nat.zero_le _⟩ (fun H locs hP hS => ?_)
  refine lv_if_ne (tgt := 10) hx hb dX0_strengthOf_5 (by decide) (fun c5 => ?_) (fun c5 => ?_)
  · have h := itF c5 h
    refine lv_aload_n hx hb dX0_strengthOf_10 rfl (lv_at hl 0 rfl) ?_
    refine va_get (D := (dC, dI)) (ci := 0) (v := .ref (f 5)) (C := RX0) (T := TX0) (N := 8) hx hb hts hiX0 hown hK hP 0 rfl rfl 4 (by decide) hw1 (fun _ h9 => h9) rfl dX0_strengthOf_11 ?_
    refine lv_iload_n hx hb dX0_strengthOf_14 rfl (lv_at hl 1 rfl) ?_
    obtain ⟨hin, h⟩ := ck_some h
    refine va_iald hx hb hK hP 5 0 rfl rfl hin dX0_strengthOf_15 ?_
    refine lv_istore_n (lv' := [(3, .int ((R_strengths c_r) (p1).toNatClampNeg)), (0, .ref (f 0)), (1, .int p1), (2, .int p2)]) hx hb dX0_strengthOf_16 rfl hl (by decide) rfl (fun ls hl => ?_)
    refine lv_aload_n hx hb dX0_strengthOf_17 rfl (lv_at hl 1 rfl) ?_
    refine va_get (D := (dC, dI)) (ci := 0) (v := .ref (f 1)) (C := RX0) (T := TX0) (N := 8) hx hb hts hiX0 hown hK hP 0 rfl rfl 0 (by decide) hw2 (fun _ h9 => h9) rfl dX0_strengthOf_18 ?_
    refine lv_iload_n hx hb dX0_strengthOf_21 rfl (lv_at hl 2 rfl) ?_
    obtain ⟨hin, h⟩ := ck_some h
    refine va_iald hx hb hK hP 1 0 rfl rfl hin dX0_strengthOf_22 ?_
    by_cases n1 : ((R_kinds c_r) (p1).toNatClampNeg) = (1 : Int32)
    · have h := itT n1 h
      refine lv_tableIn (off := 33) (tgt := 56) hx hb dX0_strengthOf_23 (by rw [n1]; decide) (by rw [n1]; decide) (by rw [n1]; decide) (by decide) ?_
      refine lv_iconst (v := (0 : Int32)) hx hb dX0_strengthOf_56 (by decide) ?_
      refine lv_iload_n hx hb dX0_strengthOf_57 rfl (lv_at hl 0 rfl) ?_
      refine lv_iload_n hx hb dX0_strengthOf_58 rfl (lv_at hl 3 rfl) ?_
      refine lv_iconst (v := (4 : Int32)) hx hb dX0_strengthOf_59 (by decide) ?_
      refine lv_idiv hx hb dX0_strengthOf_60 (by decide) ?_
      refine lv_isub hx hb dX0_strengthOf_61 ?_
      refine va_mmax hx hb (hml.trans hl.1.symm) hown hw3 hw4 hw5 hw6 (Nat.le_of_ble_eq_true rfl) (Nat.le_of_ble_eq_true rfl) (Nat.zero_le _) (Nat.zero_le _) dX0_strengthOf_62 ?_
      subst hQ
      exact retRO hx hb hr hlocks rfl hS h dX0_strengthOf_65
    have h := itF n1 h
    by_cases n2 : ((R_kinds c_r) (p1).toNatClampNeg) = (2 : Int32)
    · have h := itT n2 h
      refine lv_tableIn (off := 43) (tgt := 66) hx hb dX0_strengthOf_23 (by rw [n2]; decide) (by rw [n2]; decide) (by rw [n2]; decide) (by decide) ?_
      refine lv_iconst (v := (0 : Int32)) hx hb dX0_strengthOf_66 (by decide) ?_
      refine lv_iload_n hx hb dX0_strengthOf_67 rfl (lv_at hl 0 rfl) ?_
      refine lv_iload_n hx hb dX0_strengthOf_68 rfl (lv_at hl 3 rfl) ?_
      refine lv_iconst (v := (4 : Int32)) hx hb dX0_strengthOf_69 (by decide) ?_
      refine lv_idiv hx hb dX0_strengthOf_70 (by decide) ?_
      refine lv_isub hx hb dX0_strengthOf_71 ?_
      refine lv_iload_n hx hb dX0_strengthOf_72 rfl (lv_at hl 3 rfl) ?_
      refine lv_iconst (v := (2 : Int32)) hx hb dX0_strengthOf_73 (by decide) ?_
      refine lv_irem hx hb dX0_strengthOf_74 (by decide) ?_
      refine lv_isub hx hb dX0_strengthOf_75 ?_
      refine va_mmax hx hb (hml.trans hl.1.symm) hown hw3 hw4 hw5 hw6 (Nat.le_of_ble_eq_true rfl) (Nat.le_of_ble_eq_true rfl) (Nat.zero_le _) (Nat.zero_le _) dX0_strengthOf_76 ?_
      subst hQ
      exact retRO hx hb hr hlocks rfl hS h dX0_strengthOf_79
    have h := itF n2 h
    by_cases n3 : ((R_kinds c_r) (p1).toNatClampNeg) = (3 : Int32)
    · have h := itT n3 h
      refine lv_tableIn (off := 64) (tgt := 87) hx hb dX0_strengthOf_23 (by rw [n3]; decide) (by rw [n3]; decide) (by rw [n3]; decide) (by decide) ?_
      refine lv_iload_n hx hb dX0_strengthOf_87 rfl (lv_at hl 0 rfl) ?_
      subst hQ
      exact retRO hx hb hr hlocks rfl hS h dX0_strengthOf_88
    have h := itF n3 h
    by_cases n4 : ((R_kinds c_r) (p1).toNatClampNeg) = (4 : Int32)
    · have h := itT n4 h
      refine lv_tableIn (off := 64) (tgt := 87) hx hb dX0_strengthOf_23 (by rw [n4]; decide) (by rw [n4]; decide) (by rw [n4]; decide) (by decide) ?_
      refine lv_iload_n hx hb dX0_strengthOf_87 rfl (lv_at hl 0 rfl) ?_
      subst hQ
      exact retRO hx hb hr hlocks rfl hS h dX0_strengthOf_88
    have h := itF n4 h
    by_cases n5 : ((R_kinds c_r) (p1).toNatClampNeg) = (5 : Int32)
    · have h := itT n5 h
      refine lv_tableIn (off := 57) (tgt := 80) hx hb dX0_strengthOf_23 (by rw [n5]; decide) (by rw [n5]; decide) (by rw [n5]; decide) (by decide) ?_
      refine lv_iload_n hx hb dX0_strengthOf_80 rfl (lv_at hl 0 rfl) ?_
      refine lv_iload_n hx hb dX0_strengthOf_81 rfl (lv_at hl 3 rfl) ?_
      refine lv_bipush (v := (6 : Int32)) hx hb dX0_strengthOf_82 (by decide) ?_
      refine lv_idiv hx hb dX0_strengthOf_84 (by decide) ?_
      refine lv_iadd hx hb dX0_strengthOf_85 ?_
      subst hQ
      exact retRO hx hb hr hlocks rfl hS h dX0_strengthOf_86
    have h := itF n5 h
    have m1 := neI n1 (i := 1) rfl
    have m2 := neI n2 (i := 2) rfl
    have m3 := neI n3 (i := 3) rfl
    have m4 := neI n4 (i := 4) rfl
    have m5 := neI n5 (i := 5) rfl
    refine lv_tableOut (tgt := 87) hx hb dX0_strengthOf_23 (by omega) (by decide) ?_
    refine lv_iload_n hx hb dX0_strengthOf_87 rfl (lv_at hl 0 rfl) ?_
    subst hQ
    exact retRO hx hb hr hlocks rfl hS h dX0_strengthOf_88
  have h := itT c5 h
  refine lv_iconst (v := (0 : Int32)) hx hb dX0_strengthOf_8 (by decide) ?_
  subst hQ
  exact retRO hx hb hr hlocks rfl hS h dX0_strengthOf_9
theorem dX0_allStrength_0 : decode cX0_allStrength 0 = .ok (.iconst 0, 1) := by decide +kernel
theorem dX0_allStrength_1 : decode cX0_allStrength 1 = .ok (.istore_n 1, 1) := by decide +kernel
theorem dX0_allStrength_2 : decode cX0_allStrength 2 = .ok (.iconst 0, 1) := by decide +kernel
theorem dX0_allStrength_3 : decode cX0_allStrength 3 = .ok (.istore_n 2, 1) := by decide +kernel
theorem dX0_allStrength_4 : decode cX0_allStrength 4 = .ok (.iload_n 2, 1) := by decide +kernel
theorem dX0_allStrength_5 : decode cX0_allStrength 5 = .ok (.aload_n 0, 1) := by decide +kernel
theorem dX0_allStrength_6 : decode cX0_allStrength 6 = .ok (.getfield 31, 3) := by decide +kernel
theorem dX0_allStrength_9 : decode cX0_allStrength 9 = .ok (.if_icmp .ge 21, 3) := by decide +kernel
theorem dX0_allStrength_12 : decode cX0_allStrength 12 = .ok (.iload_n 1, 1) := by decide +kernel
theorem dX0_allStrength_13 : decode cX0_allStrength 13 = .ok (.aload_n 0, 1) := by decide +kernel
theorem dX0_allStrength_14 : decode cX0_allStrength 14 = .ok (.iload_n 2, 1) := by decide +kernel
theorem dX0_allStrength_15 : decode cX0_allStrength 15 = .ok (.aload_n 0, 1) := by decide +kernel
theorem dX0_allStrength_16 : decode cX0_allStrength 16 = .ok (.getfield 34, 3) := by decide +kernel
theorem dX0_allStrength_19 : decode cX0_allStrength 19 = .ok (.invokevirtual 64, 3) := by decide +kernel
theorem dX0_allStrength_22 : decode cX0_allStrength 22 = .ok (.iadd, 1) := by decide +kernel
theorem dX0_allStrength_23 : decode cX0_allStrength 23 = .ok (.istore_n 1, 1) := by decide +kernel
theorem dX0_allStrength_24 : decode cX0_allStrength 24 = .ok (.iinc 2 1, 3) := by decide +kernel
theorem dX0_allStrength_27 : decode cX0_allStrength 27 = .ok (.goto (-23), 3) := by decide +kernel
theorem dX0_allStrength_30 : decode cX0_allStrength 30 = .ok (.iload_n 1, 1) := by decide +kernel
theorem dX0_allStrength_31 : decode cX0_allStrength 31 = .ok (.ireturn, 1) := by decide +kernel
set_option maxRecDepth 20000 in
theorem ggX0_allStrength_X0_strengthOf : GoodIn wsX0_allStrength wsX0_strengthOf := goodIn_r _ [7, 8, 9, 10, 11, 12, 13, 14, 15, 16, 6, 17, 1, 18, 19, 20, 21, 22, 23, 24, 25] (by decide +kernel) (by decide +kernel)
set_option maxRecDepth 20000 in
theorem gX0_allStrength_X0_strengthOf : GoodIn wsX0_allStrength (wsV RX0 64 RX0 yX0_strengthOf wsX0_strengthOf) := goodIn_app (goodIn_of _ (by decide +kernel)) ggX0_allStrength_X0_strengthOf
set_option maxHeartbeats 4000000 in
set_option maxRecDepth 100000 in
theorem mX0_allStrength (l : Launch) (dC : Nat → ClassId) (dI : Nat → Nat → Nat) (cI cC : ClassId) (sk : (Nat → Nat) × (Nat → Nat)) (f : Nat → Nat)  (c_r : RT) (z : Int32) (h : fX0_allStrength c_r = some z) : cRO l yX0_allStrength wsX0_allStrength (RMk 2 44) sk (dC, dI) (tyz cI cC) (zwR cI cC f c_r) [.ref (f 0)] z := by
  refine ofRO (cc := cX0_allStrength) (maxL := 3) (ret := (some .int)) (own := RX0) (plainFor_of_name (by decide)) rfl rfl (Nat.le_of_ble_eq_true rfl) ?_
  intro p e s m args below meth c hx hb hml hr hts hown hlocks hE hK hP hS ls hl
  generalize hQ : qRO _ _ _ _ = Q
  have hl : lv_has ls 3 [(0, .ref (f 0))] := hl
  have hiX0 : ∀ w ∈ wsX00, w ∈ wsX0_allStrength := fun w h => List.mem_cons_of_mem _ (List.mem_append_right _ h)
  have hw1 := hts (Cond.fieldLink RX0 31 "FloeToFloe$River" "floes" "I") (List.mem_of_getElem? (i := 1) rfl)
  have hw2 := hts (Cond.fieldLink RX0 34 "FloeToFloe$River" "minute" "I") (List.mem_of_getElem? (i := 2) rfl)
  rw [fX0_allStrength] at h
  refine lv_iconst (v := (0 : Int32)) hx hb dX0_allStrength_0 (by decide) ?_
  refine lv_istore_n (lv' := [(1, .int (0 : Int32)), (0, .ref (f 0))]) hx hb dX0_allStrength_1 rfl hl (by decide) rfl (fun ls hl => ?_)
  refine lv_iconst (v := (0 : Int32)) hx hb dX0_allStrength_2 (by decide) ?_
  refine lv_istore_n (lv' := [(2, .int (0 : Int32)), (1, .int (0 : Int32)), (0, .ref (f 0))]) hx hb dX0_allStrength_3 rfl hl (by decide) rfl (fun ls hl => ?_)
  have L4 : ∀ (K4 : Int32 → Option (Int32)), (∀ (k4_1 : Int32), K4 k4_1 = some z → ∀ (H : Heap) (locs : List Loc) (ls : Array Slot), va_P (dC, dI) vwCl (zwR cI cC f c_r) H → va_S noA s.heap H locs → lv_has ls 3 [(1, .int k4_1)] → W p l e (RMk 2 44) s m args below meth c H locs 0 0 Q (F0 m 30 ls [])) → ∀ (n : Nat) (x4_1 : Int32) (x4_2 : Int32), fX0_allStrength_L4 c_r K4 n x4_1 x4_2 = some z → ∀ (H : Heap) (locs : List Loc) (ls : Array Slot), va_P (dC, dI) vwCl (zwR cI cC f c_r) H → va_S noA s.heap H locs → lv_has ls 3 [(0, .ref (f 0)), (1, .int x4_1), (2, .int x4_2)] → W p l e (RMk 2 44) s m args below meth c H locs 0 0 Q (F0 m 4 ls []) := by
    intro K4 kx4 n
    induction n with
    | zero => intro x4_1 x4_2 h; rw [fX0_allStrength_L4] at h; cases h
    | succ n ih4 =>
      intro x4_1 x4_2 h H locs ls hP hS hl
      rw [fX0_allStrength_L4] at h
      refine lv_iload_n hx hb dX0_allStrength_4 rfl (lv_at hl 2 rfl) ?_
      refine lv_aload_n hx hb dX0_allStrength_5 rfl (lv_at hl 0 rfl) ?_
      refine va_get (D := (dC, dI)) (ci := 0) (v := .int (R_floes c_r)) (C := RX0) (T := TX0) (N := 8) hx hb hts hiX0 hown hK hP 0 rfl rfl 6 (by decide) hw1 (fun _ h9 => h9) rfl dX0_allStrength_6 ?_
      refine lv_icmp_ge (tgt := 30) hx hb dX0_allStrength_9 (by decide) (fun c9 => ?_) (fun c9 => ?_)
      · have h := itT c9 h
        exact kx4 _ h _ _ _ hP hS (lv_sub hl [1] rfl)
      have h := itF c9 h
      refine lv_iload_n hx hb dX0_allStrength_12 rfl (lv_at hl 1 rfl) ?_
      refine lv_aload_n hx hb dX0_allStrength_13 rfl (lv_at hl 0 rfl) ?_
      refine lv_iload_n hx hb dX0_allStrength_14 rfl (lv_at hl 2 rfl) ?_
      refine lv_aload_n hx hb dX0_allStrength_15 rfl (lv_at hl 0 rfl) ?_
      refine va_get (D := (dC, dI)) (ci := 0) (v := .int (R_minute c_r)) (C := RX0) (T := TX0) (N := 8) hx hb hts hiX0 hown hK hP 0 rfl rfl 7 (by decide) hw2 (fun _ h9 => h9) rfl dX0_allStrength_16 ?_
      obtain ⟨q19, e19, h⟩ := bd_some h
      refine g_roV (wc := (zwR cI cC f c_r)) ⟨hx, hb, hml, hown, hts⟩ hE hK hP hS [0, 1, 2, 3, 4, 5] rfl (mX0_strengthOf l dC dI cI cC sk f x4_2 (R_minute c_r) c_r q19 e19) (cwV 2 hts gX0_allStrength_X0_strengthOf rfl rfl rfl (by decide +kernel) ⟨Nat.le_of_ble_eq_true rfl, Nat.le_of_ble_eq_true rfl⟩) (va_recv hK hP (ci := 0) (q0 := 0) rfl rfl) (As := [.int x4_2, .int (R_minute c_r)]) (rest := [.int x4_1]) rfl hl.1 rfl (Nat.le_of_ble_eq_true rfl) dX0_allStrength_19 ⟨Nat.zero_le _, Nat.zero_le _⟩ (fun H locs hP hS => ?_)
      refine lv_iadd hx hb dX0_allStrength_22 ?_
      refine lv_istore_n (lv' := [(1, .int (x4_1 + q19)), (0, .ref (f 0)), (2, .int x4_2)]) hx hb dX0_allStrength_23 rfl hl (by decide) rfl (fun ls hl => ?_)
      refine lv_iinc (v := (x4_2 + (1 : Int32))) (lv' := [(2, .int (x4_2 + (1 : Int32))), (1, .int (x4_1 + q19)), (0, .ref (f 0))]) hx hb dX0_allStrength_24 hl (k := 2) rfl rfl (by decide) rfl (fun ls hl => ?_)
      refine lv_goto (tgt := 4) hx hb dX0_allStrength_27 (by decide) ?_
      exact ih4 _ _ h _ _ _ hP hS (lv_sub hl [2, 1, 0] rfl)
  refine L4 _ (fun k4_1 h H locs ls hP hS hl => ?_) _ _ _ h _ _ _ hP hS (lv_sub hl [2, 1, 0] rfl)
  refine lv_iload_n hx hb dX0_allStrength_30 rfl (lv_at hl 0 rfl) ?_
  subst hQ
  exact retRO hx hb hr hlocks rfl hS h dX0_allStrength_31
theorem dX0_isShared_0 : decode cX0_isShared 0 = .ok (.iconst 0, 1) := by decide +kernel
theorem dX0_isShared_1 : decode cX0_isShared 1 = .ok (.istore_n 3, 1) := by decide +kernel
theorem dX0_isShared_2 : decode cX0_isShared 2 = .ok (.iload_n 3, 1) := by decide +kernel
theorem dX0_isShared_3 : decode cX0_isShared 3 = .ok (.aload_n 0, 1) := by decide +kernel
theorem dX0_isShared_4 : decode cX0_isShared 4 = .ok (.getfield 31, 3) := by decide +kernel
theorem dX0_isShared_7 : decode cX0_isShared 7 = .ok (.if_icmp .ge 44, 3) := by decide +kernel
theorem dX0_isShared_10 : decode cX0_isShared 10 = .ok (.iload_n 3, 1) := by decide +kernel
theorem dX0_isShared_11 : decode cX0_isShared 11 = .ok (.iload_n 1, 1) := by decide +kernel
theorem dX0_isShared_12 : decode cX0_isShared 12 = .ok (.if_icmp .eq 33, 3) := by decide +kernel
theorem dX0_isShared_15 : decode cX0_isShared 15 = .ok (.aload_n 0, 1) := by decide +kernel
theorem dX0_isShared_16 : decode cX0_isShared 16 = .ok (.iload_n 3, 1) := by decide +kernel
theorem dX0_isShared_17 : decode cX0_isShared 17 = .ok (.invokevirtual 37, 3) := by decide +kernel
theorem dX0_isShared_20 : decode cX0_isShared 20 = .ok (.aload_n 0, 1) := by decide +kernel
theorem dX0_isShared_21 : decode cX0_isShared 21 = .ok (.iload_n 1, 1) := by decide +kernel
theorem dX0_isShared_22 : decode cX0_isShared 22 = .ok (.invokevirtual 37, 3) := by decide +kernel
theorem dX0_isShared_25 : decode cX0_isShared 25 = .ok (.if_icmp .ne 20, 3) := by decide +kernel
theorem dX0_isShared_28 : decode cX0_isShared 28 = .ok (.aload_n 0, 1) := by decide +kernel
theorem dX0_isShared_29 : decode cX0_isShared 29 = .ok (.iload_n 3, 1) := by decide +kernel
theorem dX0_isShared_30 : decode cX0_isShared 30 = .ok (.iload_n 2, 1) := by decide +kernel
theorem dX0_isShared_31 : decode cX0_isShared 31 = .ok (.invokevirtual 67, 3) := by decide +kernel
theorem dX0_isShared_34 : decode cX0_isShared 34 = .ok (.aload_n 0, 1) := by decide +kernel
theorem dX0_isShared_35 : decode cX0_isShared 35 = .ok (.iload_n 1, 1) := by decide +kernel
theorem dX0_isShared_36 : decode cX0_isShared 36 = .ok (.iload_n 2, 1) := by decide +kernel
theorem dX0_isShared_37 : decode cX0_isShared 37 = .ok (.invokevirtual 67, 3) := by decide +kernel
theorem dX0_isShared_40 : decode cX0_isShared 40 = .ok (.if_icmp .ne 5, 3) := by decide +kernel
theorem dX0_isShared_43 : decode cX0_isShared 43 = .ok (.iconst 1, 1) := by decide +kernel
theorem dX0_isShared_44 : decode cX0_isShared 44 = .ok (.ireturn, 1) := by decide +kernel
theorem dX0_isShared_45 : decode cX0_isShared 45 = .ok (.iinc 3 1, 3) := by decide +kernel
theorem dX0_isShared_48 : decode cX0_isShared 48 = .ok (.goto (-46), 3) := by decide +kernel
theorem dX0_isShared_51 : decode cX0_isShared 51 = .ok (.iconst 0, 1) := by decide +kernel
theorem dX0_isShared_52 : decode cX0_isShared 52 = .ok (.ireturn, 1) := by decide +kernel
set_option maxRecDepth 20000 in
theorem ggX0_isShared_X0_laneOf : GoodIn wsX0_isShared wsX0_laneOf := goodIn_r _ [6, 7, 8, 9, 10, 5, 11, 1, 26, 27, 28, 29, 30, 31, 32, 33] (by decide +kernel) (by decide +kernel)
set_option maxRecDepth 20000 in
theorem gX0_isShared_X0_laneOf : GoodIn wsX0_isShared (wsV RX0 37 RX0 yX0_laneOf wsX0_laneOf) := goodIn_app (goodIn_of _ (by decide +kernel)) ggX0_isShared_X0_laneOf
set_option maxRecDepth 20000 in
theorem ggX0_isShared_X0_spotOf : GoodIn wsX0_isShared wsX0_spotOf := goodIn_r _ [15, 16, 17, 18, 8, 9, 10, 5, 11, 1, 19, 20, 21, 22, 23, 24, 25, 26, 27, 28, 29, 30, 31, 32, 33] (by decide +kernel) (by decide +kernel)
set_option maxRecDepth 20000 in
theorem gX0_isShared_X0_spotOf : GoodIn wsX0_isShared (wsV RX0 67 RX0 yX0_spotOf wsX0_spotOf) := goodIn_app (goodIn_of _ (by decide +kernel)) ggX0_isShared_X0_spotOf
set_option maxHeartbeats 4000000 in
set_option maxRecDepth 100000 in
theorem mX0_isShared (l : Launch) (dC : Nat → ClassId) (dI : Nat → Nat → Nat) (cI cC : ClassId) (sk : (Nat → Nat) × (Nat → Nat)) (f : Nat → Nat) (p1 : Int32) (p2 : Int32) (c_r : RT) (z : Int32) (h : fX0_isShared p1 p2 c_r = some z) : cRO l yX0_isShared wsX0_isShared (RMk 3 69) sk (dC, dI) (tyz cI cC) (zwR cI cC f c_r) [.ref (f 0), .int p1, .int p2] z := by
  refine ofRO (cc := cX0_isShared) (maxL := 4) (ret := (some .boolean)) (own := RX0) (plainFor_of_name (by decide)) rfl rfl (Nat.le_of_ble_eq_true rfl) ?_
  intro p e s m args below meth c hx hb hml hr hts hown hlocks hE hK hP hS ls hl
  generalize hQ : qRO _ _ _ _ = Q
  have hl : lv_has ls 4 [(0, .ref (f 0)), (1, .int p1), (2, .int p2)] := hl
  have hiX0 : ∀ w ∈ wsX00, w ∈ wsX0_isShared := fun w h => List.mem_cons_of_mem _ (List.mem_append_right _ h)
  have hw1 := hts (Cond.fieldLink RX0 31 "FloeToFloe$River" "floes" "I") (List.mem_of_getElem? (i := 1) rfl)
  rw [fX0_isShared] at h
  refine lv_iconst (v := (0 : Int32)) hx hb dX0_isShared_0 (by decide) ?_
  refine lv_istore_n (lv' := [(3, .int (0 : Int32)), (0, .ref (f 0)), (1, .int p1), (2, .int p2)]) hx hb dX0_isShared_1 rfl hl (by decide) rfl (fun ls hl => ?_)
  have L2 : ∀ (K2 : Unit → Option (Int32)), (∀ (_ : Unit), K2 () = some z → ∀ (H : Heap) (locs : List Loc) (ls : Array Slot), va_P (dC, dI) vwCl (zwR cI cC f c_r) H → va_S noA s.heap H locs → lv_has ls 4 [] → W p l e (RMk 3 69) s m args below meth c H locs 0 0 Q (F0 m 51 ls [])) → ∀ (n : Nat) (x2_3 : Int32), fX0_isShared_L2 c_r p1 p2 K2 n x2_3 = some z → ∀ (H : Heap) (locs : List Loc) (ls : Array Slot), va_P (dC, dI) vwCl (zwR cI cC f c_r) H → va_S noA s.heap H locs → lv_has ls 4 [(0, .ref (f 0)), (1, .int p1), (2, .int p2), (3, .int x2_3)] → W p l e (RMk 3 69) s m args below meth c H locs 0 0 Q (F0 m 2 ls []) := by
    intro K2 kx2 n
    induction n with
    | zero => intro x2_3 h; rw [fX0_isShared_L2] at h; cases h
    | succ n ih2 =>
      intro x2_3 h H locs ls hP hS hl
      rw [fX0_isShared_L2] at h
      refine lv_iload_n hx hb dX0_isShared_2 rfl (lv_at hl 3 rfl) ?_
      refine lv_aload_n hx hb dX0_isShared_3 rfl (lv_at hl 0 rfl) ?_
      refine va_get (D := (dC, dI)) (ci := 0) (v := .int (R_floes c_r)) (C := RX0) (T := TX0) (N := 8) hx hb hts hiX0 hown hK hP 0 rfl rfl 6 (by decide) hw1 (fun _ h9 => h9) rfl dX0_isShared_4 ?_
      refine lv_icmp_ge (tgt := 51) hx hb dX0_isShared_7 (by decide) (fun c7 => ?_) (fun c7 => ?_)
      · have h := itT c7 h
        exact kx2 () h _ _ _ hP hS (lv_sub hl [] rfl)
      have h := itF c7 h
      refine lv_iload_n hx hb dX0_isShared_10 rfl (lv_at hl 3 rfl) ?_
      refine lv_iload_n hx hb dX0_isShared_11 rfl (lv_at hl 1 rfl) ?_
      refine lv_icmp_eq (tgt := 45) hx hb dX0_isShared_12 (by decide) (fun c12 => ?_) (fun c12 => ?_)
      · have h := itT c12 h
        refine lv_iinc (v := (x2_3 + (1 : Int32))) (lv' := [(3, .int (x2_3 + (1 : Int32))), (0, .ref (f 0)), (1, .int p1), (2, .int p2)]) hx hb dX0_isShared_45 hl (k := 3) rfl rfl (by decide) rfl (fun ls hl => ?_)
        refine lv_goto (tgt := 2) hx hb dX0_isShared_48 (by decide) ?_
        exact ih2 _ h _ _ _ hP hS (lv_sub hl [1, 2, 3, 0] rfl)
      have h := itF c12 h
      refine lv_aload_n hx hb dX0_isShared_15 rfl (lv_at hl 0 rfl) ?_
      refine lv_iload_n hx hb dX0_isShared_16 rfl (lv_at hl 3 rfl) ?_
      obtain ⟨q17, e17, h⟩ := bd_some h
      refine g_roV (wc := (zwR cI cC f c_r)) ⟨hx, hb, hml, hown, hts⟩ hE hK hP hS [0, 1, 2, 3, 4, 5] rfl (mX0_laneOf l dC dI cI cC sk f x2_3 c_r q17 e17) (cwV 1 hts gX0_isShared_X0_laneOf rfl rfl rfl (by decide +kernel) ⟨Nat.le_of_ble_eq_true rfl, Nat.le_of_ble_eq_true rfl⟩) (va_recv hK hP (ci := 0) (q0 := 0) rfl rfl) (As := [.int x2_3]) (rest := []) rfl hl.1 rfl (Nat.le_of_ble_eq_true rfl) dX0_isShared_17 ⟨Nat.zero_le _, Nat.zero_le _⟩ (fun H locs hP hS => ?_)
      refine lv_aload_n hx hb dX0_isShared_20 rfl (lv_at hl 0 rfl) ?_
      refine lv_iload_n hx hb dX0_isShared_21 rfl (lv_at hl 1 rfl) ?_
      obtain ⟨q22, e22, h⟩ := bd_some h
      refine g_roV (wc := (zwR cI cC f c_r)) ⟨hx, hb, hml, hown, hts⟩ hE hK hP hS [0, 1, 2, 3, 4, 5] rfl (mX0_laneOf l dC dI cI cC sk f p1 c_r q22 e22) (cwV 1 hts gX0_isShared_X0_laneOf rfl rfl rfl (by decide +kernel) ⟨Nat.le_of_ble_eq_true rfl, Nat.le_of_ble_eq_true rfl⟩) (va_recv hK hP (ci := 0) (q0 := 0) rfl rfl) (As := [.int p1]) (rest := [.int q17]) rfl hl.1 rfl (Nat.le_of_ble_eq_true rfl) dX0_isShared_22 ⟨Nat.zero_le _, Nat.zero_le _⟩ (fun H locs hP hS => ?_)
      refine lv_icmp_ne (tgt := 45) hx hb dX0_isShared_25 (by decide) (fun c25 => ?_) (fun c25 => ?_)
      · have h := itF c25 h
        refine lv_iinc (v := (x2_3 + (1 : Int32))) (lv' := [(3, .int (x2_3 + (1 : Int32))), (0, .ref (f 0)), (1, .int p1), (2, .int p2)]) hx hb dX0_isShared_45 hl (k := 3) rfl rfl (by decide) rfl (fun ls hl => ?_)
        refine lv_goto (tgt := 2) hx hb dX0_isShared_48 (by decide) ?_
        exact ih2 _ h _ _ _ hP hS (lv_sub hl [1, 2, 3, 0] rfl)
      have h := itT c25 h
      refine lv_aload_n hx hb dX0_isShared_28 rfl (lv_at hl 0 rfl) ?_
      refine lv_iload_n hx hb dX0_isShared_29 rfl (lv_at hl 3 rfl) ?_
      refine lv_iload_n hx hb dX0_isShared_30 rfl (lv_at hl 2 rfl) ?_
      obtain ⟨q31, e31, h⟩ := bd_some h
      refine g_roV (wc := (zwR cI cC f c_r)) ⟨hx, hb, hml, hown, hts⟩ hE hK hP hS [0, 1, 2, 3, 4, 5] rfl (mX0_spotOf l dC dI cI cC sk f x2_3 p2 c_r q31 e31) (cwV 2 hts gX0_isShared_X0_spotOf rfl rfl rfl (by decide +kernel) ⟨Nat.le_of_ble_eq_true rfl, Nat.le_of_ble_eq_true rfl⟩) (va_recv hK hP (ci := 0) (q0 := 0) rfl rfl) (As := [.int x2_3, .int p2]) (rest := []) rfl hl.1 rfl (Nat.le_of_ble_eq_true rfl) dX0_isShared_31 ⟨Nat.zero_le _, Nat.zero_le _⟩ (fun H locs hP hS => ?_)
      refine lv_aload_n hx hb dX0_isShared_34 rfl (lv_at hl 0 rfl) ?_
      refine lv_iload_n hx hb dX0_isShared_35 rfl (lv_at hl 1 rfl) ?_
      refine lv_iload_n hx hb dX0_isShared_36 rfl (lv_at hl 2 rfl) ?_
      obtain ⟨q37, e37, h⟩ := bd_some h
      refine g_roV (wc := (zwR cI cC f c_r)) ⟨hx, hb, hml, hown, hts⟩ hE hK hP hS [0, 1, 2, 3, 4, 5] rfl (mX0_spotOf l dC dI cI cC sk f p1 p2 c_r q37 e37) (cwV 2 hts gX0_isShared_X0_spotOf rfl rfl rfl (by decide +kernel) ⟨Nat.le_of_ble_eq_true rfl, Nat.le_of_ble_eq_true rfl⟩) (va_recv hK hP (ci := 0) (q0 := 0) rfl rfl) (As := [.int p1, .int p2]) (rest := [.int q31]) rfl hl.1 rfl (Nat.le_of_ble_eq_true rfl) dX0_isShared_37 ⟨Nat.zero_le _, Nat.zero_le _⟩ (fun H locs hP hS => ?_)
      refine lv_icmp_ne (tgt := 45) hx hb dX0_isShared_40 (by decide) (fun c40 => ?_) (fun c40 => ?_)
      · have h := itF c40 h
        refine lv_iinc (v := (x2_3 + (1 : Int32))) (lv' := [(3, .int (x2_3 + (1 : Int32))), (0, .ref (f 0)), (1, .int p1), (2, .int p2)]) hx hb dX0_isShared_45 hl (k := 3) rfl rfl (by decide) rfl (fun ls hl => ?_)
        refine lv_goto (tgt := 2) hx hb dX0_isShared_48 (by decide) ?_
        exact ih2 _ h _ _ _ hP hS (lv_sub hl [1, 2, 3, 0] rfl)
      have h := itT c40 h
      refine lv_iconst (v := (1 : Int32)) hx hb dX0_isShared_43 (by decide) ?_
      subst hQ
      exact retRO hx hb hr hlocks rfl hS h dX0_isShared_44
  refine L2 _ (fun _ h H locs ls hP hS hl => ?_) _ _ h _ _ _ hP hS (lv_sub hl [1, 2, 3, 0] rfl)
  refine lv_iconst (v := (0 : Int32)) hx hb dX0_isShared_51 (by decide) ?_
  subst hQ
  exact retRO hx hb hr hlocks rfl hS h dX0_isShared_52
