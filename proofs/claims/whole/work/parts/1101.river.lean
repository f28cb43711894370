theorem dX0_become_0 : decode cX0_become 0 = .ok (.iconst 0, 1) := by decide +kernel
theorem dX0_become_1 : decode cX0_become 1 = .ok (.istore_n 2, 1) := by decide +kernel
theorem dX0_become_2 : decode cX0_become 2 = .ok (.iload_n 2, 1) := by decide +kernel
theorem dX0_become_3 : decode cX0_become 3 = .ok (.bipush 8, 2) := by decide +kernel
theorem dX0_become_5 : decode cX0_become 5 = .ok (.if_icmp .ge 69, 3) := by decide +kernel
theorem dX0_become_8 : decode cX0_become 8 = .ok (.aload_n 0, 1) := by decide +kernel
theorem dX0_become_9 : decode cX0_become 9 = .ok (.getfield 9, 3) := by decide +kernel
theorem dX0_become_12 : decode cX0_become 12 = .ok (.iload_n 2, 1) := by decide +kernel
theorem dX0_become_13 : decode cX0_become 13 = .ok (.aload_n 1, 1) := by decide +kernel
theorem dX0_become_14 : decode cX0_become 14 = .ok (.getfield 9, 3) := by decide +kernel
theorem dX0_become_17 : decode cX0_become 17 = .ok (.iload_n 2, 1) := by decide +kernel
theorem dX0_become_18 : decode cX0_become 18 = .ok (.iaload, 1) := by decide +kernel
theorem dX0_become_19 : decode cX0_become 19 = .ok (.iastore, 1) := by decide +kernel
theorem dX0_become_20 : decode cX0_become 20 = .ok (.aload_n 0, 1) := by decide +kernel
theorem dX0_become_21 : decode cX0_become 21 = .ok (.getfield 15, 3) := by decide +kernel
theorem dX0_become_24 : decode cX0_become 24 = .ok (.iload_n 2, 1) := by decide +kernel
theorem dX0_become_25 : decode cX0_become 25 = .ok (.aload_n 1, 1) := by decide +kernel
theorem dX0_become_26 : decode cX0_become 26 = .ok (.getfield 15, 3) := by decide +kernel
theorem dX0_become_29 : decode cX0_become 29 = .ok (.iload_n 2, 1) := by decide +kernel
theorem dX0_become_30 : decode cX0_become 30 = .ok (.iaload, 1) := by decide +kernel
theorem dX0_become_31 : decode cX0_become 31 = .ok (.iastore, 1) := by decide +kernel
theorem dX0_become_32 : decode cX0_become 32 = .ok (.aload_n 0, 1) := by decide +kernel
theorem dX0_become_33 : decode cX0_become 33 = .ok (.getfield 18, 3) := by decide +kernel
theorem dX0_become_36 : decode cX0_become 36 = .ok (.iload_n 2, 1) := by decide +kernel
theorem dX0_become_37 : decode cX0_become 37 = .ok (.aload_n 1, 1) := by decide +kernel
theorem dX0_become_38 : decode cX0_become 38 = .ok (.getfield 18, 3) := by decide +kernel
theorem dX0_become_41 : decode cX0_become 41 = .ok (.iload_n 2, 1) := by decide +kernel
theorem dX0_become_42 : decode cX0_become 42 = .ok (.iaload, 1) := by decide +kernel
theorem dX0_become_43 : decode cX0_become 43 = .ok (.iastore, 1) := by decide +kernel
theorem dX0_become_44 : decode cX0_become 44 = .ok (.aload_n 0, 1) := by decide +kernel
theorem dX0_become_45 : decode cX0_become 45 = .ok (.getfield 21, 3) := by decide +kernel
theorem dX0_become_48 : decode cX0_become 48 = .ok (.iload_n 2, 1) := by decide +kernel
theorem dX0_become_49 : decode cX0_become 49 = .ok (.aload_n 1, 1) := by decide +kernel
theorem dX0_become_50 : decode cX0_become 50 = .ok (.getfield 21, 3) := by decide +kernel
theorem dX0_become_53 : decode cX0_become 53 = .ok (.iload_n 2, 1) := by decide +kernel
theorem dX0_become_54 : decode cX0_become 54 = .ok (.iaload, 1) := by decide +kernel
theorem dX0_become_55 : decode cX0_become 55 = .ok (.iastore, 1) := by decide +kernel
theorem dX0_become_56 : decode cX0_become 56 = .ok (.aload_n 0, 1) := by decide +kernel
theorem dX0_become_57 : decode cX0_become 57 = .ok (.getfield 24, 3) := by decide +kernel
theorem dX0_become_60 : decode cX0_become 60 = .ok (.iload_n 2, 1) := by decide +kernel
theorem dX0_become_61 : decode cX0_become 61 = .ok (.aload_n 1, 1) := by decide +kernel
theorem dX0_become_62 : decode cX0_become 62 = .ok (.getfield 24, 3) := by decide +kernel
theorem dX0_become_65 : decode cX0_become 65 = .ok (.iload_n 2, 1) := by decide +kernel
theorem dX0_become_66 : decode cX0_become 66 = .ok (.iaload, 1) := by decide +kernel
theorem dX0_become_67 : decode cX0_become 67 = .ok (.iastore, 1) := by decide +kernel
theorem dX0_become_68 : decode cX0_become 68 = .ok (.iinc 2 1, 3) := by decide +kernel
theorem dX0_become_71 : decode cX0_become 71 = .ok (.goto (-69), 3) := by decide +kernel
theorem dX0_become_74 : decode cX0_become 74 = .ok (.aload_n 0, 1) := by decide +kernel
theorem dX0_become_75 : decode cX0_become 75 = .ok (.aload_n 1, 1) := by decide +kernel
theorem dX0_become_76 : decode cX0_become 76 = .ok (.getfield 27, 3) := by decide +kernel
theorem dX0_become_79 : decode cX0_become 79 = .ok (.putfield 27, 3) := by decide +kernel
theorem dX0_become_82 : decode cX0_become 82 = .ok (.aload_n 0, 1) := by decide +kernel
theorem dX0_become_83 : decode cX0_become 83 = .ok (.aload_n 1, 1) := by decide +kernel
theorem dX0_become_84 : decode cX0_become 84 = .ok (.getfield 31, 3) := by decide +kernel
theorem dX0_become_87 : decode cX0_become 87 = .ok (.putfield 31, 3) := by decide +kernel
theorem dX0_become_90 : decode cX0_become 90 = .ok (.aload_n 0, 1) := by decide +kernel
theorem dX0_become_91 : decode cX0_become 91 = .ok (.aload_n 1, 1) := by decide +kernel
theorem dX0_become_92 : decode cX0_become 92 = .ok (.getfield 34, 3) := by decide +kernel
theorem dX0_become_95 : decode cX0_become 95 = .ok (.putfield 34, 3) := by decide +kernel
theorem dX0_become_98 : decode cX0_become 98 = .ok (.return_, 1) := by decide +kernel
set_option maxHeartbeats 4000000 in
set_option maxRecDepth 100000 in
theorem mX0_become (l : Launch) (dC : Nat → ClassId) (dI : Nat → Nat → Nat) (cI cC : ClassId) (sk : (Nat → Nat) × (Nat → Nat)) (f : Nat → Nat) (g : Nat → Nat) (sz : Nat)  (c_r : RT) (c_o : RT) (z : RT) (h : fX0_become c_r c_o = some z) : cRV l yX0_become wsX0_become (RMk 0 0) sk (dC, dI) (tyz cI cC) sz (zwRR cI cC f g c_r c_o) (zwRR cI cC f g z c_o) [.ref (f 0), .ref (g 0)] := by
  refine ofRV (cc := cX0_become) (maxL := 3) (ret := none) (own := RX0) (plainFor_of_name (by decide)) rfl rfl (Nat.le_of_ble_eq_true rfl) ?_
  intro p e s m args below meth c A hA hx hb hml hr hts hown hlocks hE hK hP hD hS ls hl
  generalize hQ : qRV _ _ _ _ _ _ = Q
  have hl : lv_has ls 3 [(0, .ref (f 0)), (1, .ref (g 0))] := hl
  have hiX0 : ∀ w ∈ wsX00, w ∈ wsX0_become := fun w h => List.mem_cons_of_mem _ (List.mem_append_right _ h)
  have hw1 := hts (Cond.fieldLink RX0 9 "FloeToFloe$River" "kinds" "[I") (List.mem_of_getElem? (i := 1) rfl)
  have hw2 := hts (Cond.fieldLink RX0 15 "FloeToFloe$River" "homes" "[I") (List.mem_of_getElem? (i := 2) rfl)
  have hw3 := hts (Cond.fieldLink RX0 18 "FloeToFloe$River" "cells" "[I") (List.mem_of_getElem? (i := 3) rfl)
  have hw4 := hts (Cond.fieldLink RX0 21 "FloeToFloe$River" "paces" "[I") (List.mem_of_getElem? (i := 4) rfl)
  have hw5 := hts (Cond.fieldLink RX0 24 "FloeToFloe$River" "strengths" "[I") (List.mem_of_getElem? (i := 5) rfl)
  have hw6 := hts (Cond.fieldLink RX0 27 "FloeToFloe$River" "lanes" "I") (List.mem_of_getElem? (i := 6) rfl)
  have hw7 := hts (Cond.fieldLink RX0 31 "FloeToFloe$River" "floes" "I") (List.mem_of_getElem? (i := 7) rfl)
  have hw8 := hts (Cond.fieldLink RX0 34 "FloeToFloe$River" "minute" "I") (List.mem_of_getElem? (i := 8) rfl)
  rw [fX0_become] at h
  refine lv_iconst (v := (0 : Int32)) hx hb dX0_become_0 (by decide) ?_
  refine lv_istore_n (lv' := [(2, .int (0 : Int32)), (0, .ref (f 0)), (1, .ref (g 0))]) hx hb dX0_become_1 rfl hl (by decide) rfl (fun ls hl => ?_)
  have L2 : ∀ (K2 : RT → Option (RT)), (∀ (k2_r : RT), K2 k2_r = some z → ∀ (H : Heap) (locs : List Loc) (ls : Array Slot), va_P (dC, dI) vwCl (zwRR cI cC f g k2_r c_o) H → va_D A (zwRR cI cC f g k2_r c_o) → va_S A s.heap H locs → lv_has ls 3 [(0, .ref (f 0)), (1, .ref (g 0))] → W p l e (RMk 0 0) s m args below meth c H locs 0 0 Q (F0 m 74 ls [])) → ∀ (n : Nat) (x2_2 : Int32) (x2_r : RT), fX0_become_L2 c_o K2 n x2_2 x2_r = some z → ∀ (H : Heap) (locs : List Loc) (ls : Array Slot), va_P (dC, dI) vwCl (zwRR cI cC f g x2_r c_o) H → va_D A (zwRR cI cC f g x2_r c_o) → va_S A s.heap H locs → lv_has ls 3 [(0, .ref (f 0)), (1, .ref (g 0)), (2, .int x2_2)] → W p l e (RMk 0 0) s m args below meth c H locs 0 0 Q (F0 m 2 ls []) := by
    intro K2 kx2 n
    induction n with
    | zero => intro x2_2 x2_r h; rw [fX0_become_L2] at h; cases h
    | succ n ih2 =>
      intro x2_2 x2_r h H locs ls hP hD hS hl
      rw [fX0_become_L2] at h
      refine lv_iload_n hx hb dX0_become_2 rfl (lv_at hl 2 rfl) ?_
      refine lv_bipush (v := (8 : Int32)) hx hb dX0_become_3 (by decide) ?_
      refine lv_icmp_ge (tgt := 74) hx hb dX0_become_5 (by decide) (fun c5 => ?_) (fun c5 => ?_)
      · have h := itT c5 h
        exact kx2 _ h _ _ _ hP hD hS (lv_sub hl [0, 1] rfl)
      have h := itF c5 h
      refine lv_aload_n hx hb dX0_become_8 rfl (lv_at hl 0 rfl) ?_
      refine va_get (D := (dC, dI)) (ci := 0) (v := .ref (f 1)) (C := RX0) (T := TX0) (N := 8) hx hb hts hiX0 hown hK hP 0 rfl rfl 0 (by decide) hw1 (fun _ h9 => h9) rfl dX0_become_9 ?_
      refine lv_iload_n hx hb dX0_become_12 rfl (lv_at hl 2 rfl) ?_
      refine lv_aload_n hx hb dX0_become_13 rfl (lv_at hl 1 rfl) ?_
      refine va_get (D := (dC, dI)) (ci := 0) (v := .ref (g 1)) (C := RX0) (T := TX0) (N := 8) hx hb hts hiX0 hown hK hP 6 rfl rfl 0 (by decide) hw1 (fun _ h9 => h9) rfl dX0_become_14 ?_
      refine lv_iload_n hx hb dX0_become_17 rfl (lv_at hl 2 rfl) ?_
      obtain ⟨hin, h⟩ := ck_some h
      refine va_iald hx hb hK hP 7 0 rfl rfl hin dX0_become_18 ?_
      obtain ⟨hin, h⟩ := ck_some h
      refine va_iast hx hb hK hP hD hS 1 0 rfl rfl hin dX0_become_19 (fun H locs hP hD hS => ?_)
      have hP : va_P (dC, dI) vwCl (zwRR cI cC f g (R_setKinds x2_r (upd (R_kinds x2_r) (x2_2).toNatClampNeg ((R_kinds c_o) (x2_2).toNatClampNeg))) c_o) H := hP
      have hD : va_D A (zwRR cI cC f g (R_setKinds x2_r (upd (R_kinds x2_r) (x2_2).toNatClampNeg ((R_kinds c_o) (x2_2).toNatClampNeg))) c_o) := hD
      refine lv_aload_n hx hb dX0_become_20 rfl (lv_at hl 0 rfl) ?_
      refine va_get (D := (dC, dI)) (ci := 0) (v := .ref (f 2)) (C := RX0) (T := TX0) (N := 8) hx hb hts hiX0 hown hK hP 0 rfl rfl 1 (by decide) hw2 (fun _ h9 => h9) rfl dX0_become_21 ?_
      refine lv_iload_n hx hb dX0_become_24 rfl (lv_at hl 2 rfl) ?_
      refine lv_aload_n hx hb dX0_become_25 rfl (lv_at hl 1 rfl) ?_
      refine va_get (D := (dC, dI)) (ci := 0) (v := .ref (g 2)) (C := RX0) (T := TX0) (N := 8) hx hb hts hiX0 hown hK hP 6 rfl rfl 1 (by decide) hw2 (fun _ h9 => h9) rfl dX0_become_26 ?_
      refine lv_iload_n hx hb dX0_become_29 rfl (lv_at hl 2 rfl) ?_
      obtain ⟨hin, h⟩ := ck_some h
      refine va_iald hx hb hK hP 8 0 rfl rfl hin dX0_become_30 ?_
      obtain ⟨hin, h⟩ := ck_some h
      refine va_iast hx hb hK hP hD hS 2 0 rfl rfl hin dX0_become_31 (fun H locs hP hD hS => ?_)
      have hP : va_P (dC, dI) vwCl (zwRR cI cC f g (R_setHomes (R_setKinds x2_r (upd (R_kinds x2_r) (x2_2).toNatClampNeg ((R_kinds c_o) (x2_2).toNatClampNeg))) (upd (R_homes (R_setKinds x2_r (upd (R_kinds x2_r) (x2_2).toNatClampNeg ((R_kinds c_o) (x2_2).toNatClampNeg)))) (x2_2).toNatClampNeg ((R_homes c_o) (x2_2).toNatClampNeg))) c_o) H := hP
      have hD : va_D A (zwRR cI cC f g (R_setHomes (R_setKinds x2_r (upd (R_kinds x2_r) (x2_2).toNatClampNeg ((R_kinds c_o) (x2_2).toNatClampNeg))) (upd (R_homes (R_setKinds x2_r (upd (R_kinds x2_r) (x2_2).toNatClampNeg ((R_kinds c_o) (x2_2).toNatClampNeg)))) (x2_2).toNatClampNeg ((R_homes c_o) (x2_2).toNatClampNeg))) c_o) := hD
      refine lv_aload_n hx hb dX0_become_32 rfl (lv_at hl 0 rfl) ?_
      refine va_get (D := (dC, dI)) (ci := 0) (v := .ref (f 3)) (C := RX0) (T := TX0) (N := 8) hx hb hts hiX0 hown hK hP 0 rfl rfl 2 (by decide) hw3 (fun _ h9 => h9) rfl dX0_become_33 ?_
      refine lv_iload_n hx hb dX0_become_36 rfl (lv_at hl 2 rfl) ?_
      refine lv_aload_n hx hb dX0_become_37 rfl (lv_at hl 1 rfl) ?_
      refine va_get (D := (dC, dI)) (ci := 0) (v := .ref (g 3)) (C := RX0) (T := TX0) (N := 8) hx hb hts hiX0 hown hK hP 6 rfl rfl 2 (by decide) hw3 (fun _ h9 => h9) rfl dX0_become_38 ?_
      refine lv_iload_n hx hb dX0_become_41 rfl (lv_at hl 2 rfl) ?_
      obtain ⟨hin, h⟩ := ck_some h
      refine va_iald hx hb hK hP 9 0 rfl rfl hin dX0_become_42 ?_
      obtain ⟨hin, h⟩ := ck_some h
      refine va_iast hx hb hK hP hD hS 3 0 rfl rfl hin dX0_become_43 (fun H locs hP hD hS => ?_)
      have hP : va_P (dC, dI) vwCl (zwRR cI cC f g (R_setCells (R_setHomes (R_setKinds x2_r (upd (R_kinds x2_r) (x2_2).toNatClampNeg ((R_kinds c_o) (x2_2).toNatClampNeg))) (upd (R_homes (R_setKinds x2_r (upd (R_kinds x2_r) (x2_2).toNatClampNeg ((R_kinds c_o) (x2_2).toNatClampNeg)))) (x2_2).toNatClampNeg ((R_homes c_o) (x2_2).toNatClampNeg))) (upd (R_cells (R_setHomes (R_setKinds x2_r (upd (R_kinds x2_r) (x2_2).toNatClampNeg ((R_kinds c_o) (x2_2).toNatClampNeg))) (upd (R_homes (R_setKinds x2_r (upd (R_kinds x2_r) (x2_2).toNatClampNeg ((R_kinds c_o) (x2_2).toNatClampNeg)))) (x2_2).toNatClampNeg ((R_homes c_o) (x2_2).toNatClampNeg)))) (x2_2).toNatClampNeg ((R_cells c_o) (x2_2).toNatClampNeg))) c_o) H := hP
      have hD : va_D A (zwRR cI cC f g (R_setCells (R_setHomes (R_setKinds x2_r (upd (R_kinds x2_r) (x2_2).toNatClampNeg ((R_kinds c_o) (x2_2).toNatClampNeg))) (upd (R_homes (R_setKinds x2_r (upd (R_kinds x2_r) (x2_2).toNatClampNeg ((R_kinds c_o) (x2_2).toNatClampNeg)))) (x2_2).toNatClampNeg ((R_homes c_o) (x2_2).toNatClampNeg))) (upd (R_cells (R_setHomes (R_setKinds x2_r (upd (R_kinds x2_r) (x2_2).toNatClampNeg ((R_kinds c_o) (x2_2).toNatClampNeg))) (upd (R_homes (R_setKinds x2_r (upd (R_kinds x2_r) (x2_2).toNatClampNeg ((R_kinds c_o) (x2_2).toNatClampNeg)))) (x2_2).toNatClampNeg ((R_homes c_o) (x2_2).toNatClampNeg)))) (x2_2).toNatClampNeg ((R_cells c_o) (x2_2).toNatClampNeg))) c_o) := hD
      refine lv_aload_n hx hb dX0_become_44 rfl (lv_at hl 0 rfl) ?_
      refine va_get (D := (dC, dI)) (ci := 0) (v := .ref (f 4)) (C := RX0) (T := TX0) (N := 8) hx hb hts hiX0 hown hK hP 0 rfl rfl 3 (by decide) hw4 (fun _ h9 => h9) rfl dX0_become_45 ?_
      refine lv_iload_n hx hb dX0_become_48 rfl (lv_at hl 2 rfl) ?_
      refine lv_aload_n hx hb dX0_become_49 rfl (lv_at hl 1 rfl) ?_
      refine va_get (D := (dC, dI)) (ci := 0) (v := .ref (g 4)) (C := RX0) (T := TX0) (N := 8) hx hb hts hiX0 hown hK hP 6 rfl rfl 3 (by decide) hw4 (fun _ h9 => h9) rfl dX0_become_50 ?_
      refine lv_iload_n hx hb dX0_become_53 rfl (lv_at hl 2 rfl) ?_
      obtain ⟨hin, h⟩ := ck_some h
      refine va_iald hx hb hK hP 10 0 rfl rfl hin dX0_become_54 ?_
      obtain ⟨hin, h⟩ := ck_some h
      refine va_iast hx hb hK hP hD hS 4 0 rfl rfl hin dX0_become_55 (fun H locs hP hD hS => ?_)
      have hP : va_P (dC, dI) vwCl (zwRR cI cC f g (R_setPaces (R_setCells (R_setHomes (R_setKinds x2_r (upd (R_kinds x2_r) (x2_2).toNatClampNeg ((R_kinds c_o) (x2_2).toNatClampNeg))) (upd (R_homes (R_setKinds x2_r (upd (R_kinds x2_r) (x2_2).toNatClampNeg ((R_kinds c_o) (x2_2).toNatClampNeg)))) (x2_2).toNatClampNeg ((R_homes c_o) (x2_2).toNatClampNeg))) (upd (R_cells (R_setHomes (R_setKinds x2_r (upd (R_kinds x2_r) (x2_2).toNatClampNeg ((R_kinds c_o) (x2_2).toNatClampNeg))) (upd (R_homes (R_setKinds x2_r (upd (R_kinds x2_r) (x2_2).toNatClampNeg ((R_kinds c_o) (x2_2).toNatClampNeg)))) (x2_2).toNatClampNeg ((R_homes c_o) (x2_2).toNatClampNeg)))) (x2_2).toNatClampNeg ((R_cells c_o) (x2_2).toNatClampNeg))) (upd (R_paces (R_setCells (R_setHomes (R_setKinds x2_r (upd (R_kinds x2_r) (x2_2).toNatClampNeg ((R_kinds c_o) (x2_2).toNatClampNeg))) (upd (R_homes (R_setKinds x2_r (upd (R_kinds x2_r) (x2_2).toNatClampNeg ((R_kinds c_o) (x2_2).toNatClampNeg)))) (x2_2).toNatClampNeg ((R_homes c_o) (x2_2).toNatClampNeg))) (upd (R_cells (R_setHomes (R_setKinds x2_r (upd (R_kinds x2_r) (x2_2).toNatClampNeg ((R_kinds c_o) (x2_2).toNatClampNeg))) (upd (R_homes (R_setKinds x2_r (upd (R_kinds x2_r) (x2_2).toNatClampNeg ((R_kinds c_o) (x2_2).toNatClampNeg)))) (x2_2).toNatClampNeg ((R_homes c_o) (x2_2).toNatClampNeg)))) (x2_2).toNatClampNeg ((R_cells c_o) (x2_2).toNatClampNeg)))) (x2_2).toNatClampNeg ((R_paces c_o) (x2_2).toNatClampNeg))) c_o) H := hP
      have hD : va_D A (zwRR cI cC f g (R_setPaces (R_setCells (R_setHomes (R_setKinds x2_r (upd (R_kinds x2_r) (x2_2).toNatClampNeg ((R_kinds c_o) (x2_2).toNatClampNeg))) (upd (R_homes (R_setKinds x2_r (upd (R_kinds x2_r) (x2_2).toNatClampNeg ((R_kinds c_o) (x2_2).toNatClampNeg)))) (x2_2).toNatClampNeg ((R_homes c_o) (x2_2).toNatClampNeg))) (upd (R_cells (R_setHomes (R_setKinds x2_r (upd (R_kinds x2_r) (x2_2).toNatClampNeg ((R_kinds c_o) (x2_2).toNatClampNeg))) (upd (R_homes (R_setKinds x2_r (upd (R_kinds x2_r) (x2_2).toNatClampNeg ((R_kinds c_o) (x2_2).toNatClampNeg)))) (x2_2).toNatClampNeg ((R_homes c_o) (x2_2).toNatClampNeg)))) (x2_2).toNatClampNeg ((R_cells c_o) (x2_2).toNatClampNeg))) (upd (R_paces (R_setCells (R_setHomes (R_setKinds x2_r (upd (R_kinds x2_r) (x2_2).toNatClampNeg ((R_kinds c_o) (x2_2).toNatClampNeg))) (upd (R_homes (R_setKinds x2_r (upd (R_kinds x2_r) (x2_2).toNatClampNeg ((R_kinds c_o) (x2_2).toNatClampNeg)))) (x2_2).toNatClampNeg ((R_homes c_o) (x2_2).toNatClampNeg))) (upd (R_cells (R_setHomes (R_setKinds x2_r (upd (R_kinds x2_r) (x2_2).toNatClampNeg ((R_kinds c_o) (x2_2).toNatClampNeg))) (upd (R_homes (R_setKinds x2_r (upd (R_kinds x2_r) (x2_2).toNatClampNeg ((R_kinds c_o) (x2_2).toNatClampNeg)))) (x2_2).toNatClampNeg ((R_homes c_o) (x2_2).toNatClampNeg)))) (x2_2).toNatClampNeg ((R_cells c_o) (x2_2).toNatClampNeg)))) (x2_2).toNatClampNeg ((R_paces c_o) (x2_2).toNatClampNeg))) c_o) := hD
      refine lv_aload_n hx hb dX0_become_56 rfl (lv_at hl 0 rfl) ?_
      refine va_get (D := (dC, dI)) (ci := 0) (v := .ref (f 5)) (C := RX0) (T := TX0) (N := 8) hx hb hts hiX0 hown hK hP 0 rfl rfl 4 (by decide) hw5 (fun _ h9 => h9) rfl dX0_become_57 ?_
      refine lv_iload_n hx hb dX0_become_60 rfl (lv_at hl 2 rfl) ?_
      refine lv_aload_n hx hb dX0_become_61 rfl (lv_at hl 1 rfl) ?_
      refine va_get (D := (dC, dI)) (ci := 0) (v := .ref (g 5)) (C := RX0) (T := TX0) (N := 8) hx hb hts hiX0 hown hK hP 6 rfl rfl 4 (by decide) hw5 (fun _ h9 => h9) rfl dX0_become_62 ?_
      refine lv_iload_n hx hb dX0_become_65 rfl (lv_at hl 2 rfl) ?_
      obtain ⟨hin, h⟩ := ck_some h
      refine va_iald hx hb hK hP 11 0 rfl rfl hin dX0_become_66 ?_
      obtain ⟨hin, h⟩ := ck_some h
      refine va_iast hx hb hK hP hD hS 5 0 rfl rfl hin dX0_become_67 (fun H locs hP hD hS => ?_)
      have hP : va_P (dC, dI) vwCl (zwRR cI cC f g (R_setStrengths (R_setPaces (R_setCells (R_setHomes (R_setKinds x2_r (upd (R_kinds x2_r) (x2_2).toNatClampNeg ((R_kinds c_o) (x2_2).toNatClampNeg))) (upd (R_homes (R_setKinds x2_r (upd (R_kinds x2_r) (x2_2).toNatClampNeg ((R_kinds c_o) (x2_2).toNatClampNeg)))) (x2_2).toNatClampNeg ((R_homes c_o) (x2_2).toNatClampNeg))) (upd (R_cells (R_setHomes (R_setKinds x2_r (upd (R_kinds x2_r) (x2_2).toNatClampNeg ((R_kinds c_o) (x2_2).toNatClampNeg))) (upd (R_homes (R_setKinds x2_r (upd (R_kinds x2_r) (x2_2).toNatClampNeg ((R_kinds c_o) (x2_2).toNatClampNeg)))) (x2_2).toNatClampNeg ((R_homes c_o) (x2_2).toNatClampNeg)))) (x2_2).toNatClampNeg ((R_cells c_o) (x2_2).toNatClampNeg))) (upd (R_paces (R_setCells (R_setHomes (R_setKinds x2_r (upd (R_kinds x2_r) (x2_2).toNatClampNeg ((R_kinds c_o) (x2_2).toNatClampNeg))) (upd (R_homes (R_setKinds x2_r (upd (R_kinds x2_r) (x2_2).toNatClampNeg ((R_kinds c_o) (x2_2).toNatClampNeg)))) (x2_2).toNatClampNeg ((R_homes c_o) (x2_2).toNatClampNeg))) (upd (R_cells (R_setHomes (R_setKinds x2_r (upd (R_kinds x2_r) (x2_2).toNatClampNeg ((R_kinds c_o) (x2_2).toNatClampNeg))) (upd (R_homes (R_setKinds x2_r (upd (R_kinds x2_r) (x2_2).toNatClampNeg ((R_kinds c_o) (x2_2).toNatClampNeg)))) (x2_2).toNatClampNeg ((R_homes c_o) (x2_2).toNatClampNeg)))) (x2_2).toNatClampNeg ((R_cells c_o) (x2_2).toNatClampNeg)))) (x2_2).toNatClampNeg ((R_paces c_o) (x2_2).toNatClampNeg))) (upd (R_strengths (R_setPaces (R_setCells (R_setHomes (R_setKinds x2_r (upd (R_kinds x2_r) (x2_2).toNatClampNeg ((R_kinds c_o) (x2_2).toNatClampNeg))) (upd (R_homes (R_setKinds x2_r (upd (R_kinds x2_r) (x2_2).toNatClampNeg ((R_kinds c_o) (x2_2).toNatClampNeg)))) (x2_2).toNatClampNeg ((R_homes c_o) (x2_2).toNatClampNeg))) (upd (R_cells (R_setHomes (R_setKinds x2_r (upd (R_kinds x2_r) (x2_2).toNatClampNeg ((R_kinds c_o) (x2_2).toNatClampNeg))) (upd (R_homes (R_setKinds x2_r (upd (R_kinds x2_r) (x2_2).toNatClampNeg ((R_kinds c_o) (x2_2).toNatClampNeg)))) (x2_2).toNatClampNeg ((R_homes c_o) (x2_2).toNatClampNeg)))) (x2_2).toNatClampNeg ((R_cells c_o) (x2_2).toNatClampNeg))) (upd (R_paces (R_setCells (R_setHomes (R_setKinds x2_r (upd (R_kinds x2_r) (x2_2).toNatClampNeg ((R_kinds c_o) (x2_2).toNatClampNeg))) (upd (R_homes (R_setKinds x2_r (upd (R_kinds x2_r) (x2_2).toNatClampNeg ((R_kinds c_o) (x2_2).toNatClampNeg)))) (x2_2).toNatClampNeg ((R_homes c_o) (x2_2).toNatClampNeg))) (upd (R_cells (R_setHomes (R_setKinds x2_r (upd (R_kinds x2_r) (x2_2).toNatClampNeg ((R_kinds c_o) (x2_2).toNatClampNeg))) (upd (R_homes (R_setKinds x2_r (upd (R_kinds x2_r) (x2_2).toNatClampNeg ((R_kinds c_o) (x2_2).toNatClampNeg)))) (x2_2).toNatClampNeg ((R_homes c_o) (x2_2).toNatClampNeg)))) (x2_2).toNatClampNeg ((R_cells c_o) (x2_2).toNatClampNeg)))) (x2_2).toNatClampNeg ((R_paces c_o) (x2_2).toNatClampNeg)))) (x2_2).toNatClampNeg ((R_strengths c_o) (x2_2).toNatClampNeg))) c_o) H := hP
      have hD : va_D A (zwRR cI cC f g (R_setStrengths (R_setPaces (R_setCells (R_setHomes (R_setKinds x2_r (upd (R_kinds x2_r) (x2_2).toNatClampNeg ((R_kinds c_o) (x2_2).toNatClampNeg))) (upd (R_homes (R_setKinds x2_r (upd (R_kinds x2_r) (x2_2).toNatClampNeg ((R_kinds c_o) (x2_2).toNatClampNeg)))) (x2_2).toNatClampNeg ((R_homes c_o) (x2_2).toNatClampNeg))) (upd (R_cells (R_setHomes (R_setKinds x2_r (upd (R_kinds x2_r) (x2_2).toNatClampNeg ((R_kinds c_o) (x2_2).toNatClampNeg))) (upd (R_homes (R_setKinds x2_r (upd (R_kinds x2_r) (x2_2).toNatClampNeg ((R_kinds c_o) (x2_2).toNatClampNeg)))) (x2_2).toNatClampNeg ((R_homes c_o) (x2_2).toNatClampNeg)))) (x2_2).toNatClampNeg ((R_cells c_o) (x2_2).toNatClampNeg))) (upd (R_paces (R_setCells (R_setHomes (R_setKinds x2_r (upd (R_kinds x2_r) (x2_2).toNatClampNeg ((R_kinds c_o) (x2_2).toNatClampNeg))) (upd (R_homes (R_setKinds x2_r (upd (R_kinds x2_r) (x2_2).toNatClampNeg ((R_kinds c_o) (x2_2).toNatClampNeg)))) (x2_2).toNatClampNeg ((R_homes c_o) (x2_2).toNatClampNeg))) (upd (R_cells (R_setHomes (R_setKinds x2_r (upd (R_kinds x2_r) (x2_2).toNatClampNeg ((R_kinds c_o) (x2_2).toNatClampNeg))) (upd (R_homes (R_setKinds x2_r (upd (R_kinds x2_r) (x2_2).toNatClampNeg ((R_kinds c_o) (x2_2).toNatClampNeg)))) (x2_2).toNatClampNeg ((R_homes c_o) (x2_2).toNatClampNeg)))) (x2_2).toNatClampNeg ((R_cells c_o) (x2_2).toNatClampNeg)))) (x2_2).toNatClampNeg ((R_paces c_o) (x2_2).toNatClampNeg))) (upd (R_strengths (R_setPaces (R_setCells (R_setHomes (R_setKinds x2_r (upd (R_kinds x2_r) (x2_2).toNatClampNeg ((R_kinds c_o) (x2_2).toNatClampNeg))) (upd (R_homes (R_setKinds x2_r (upd (R_kinds x2_r) (x2_2).toNatClampNeg ((R_kinds c_o) (x2_2).toNatClampNeg)))) (x2_2).toNatClampNeg ((R_homes c_o) (x2_2).toNatClampNeg))) (upd (R_cells (R_setHomes (R_setKinds x2_r (upd (R_kinds x2_r) (x2_2).toNatClampNeg ((R_kinds c_o) (x2_2).toNatClampNeg))) (upd (R_homes (R_setKinds x2_r (upd (R_kinds x2_r) (x2_2).toNatClampNeg ((R_kinds c_o) (x2_2).toNatClampNeg)))) (x2_2).toNatClampNeg ((R_homes c_o) (x2_2).toNatClampNeg)))) (x2_2).toNatClampNeg ((R_cells c_o) (x2_2).toNatClampNeg))) (upd (R_paces (R_setCells (R_setHomes (R_setKinds x2_r (upd (R_kinds x2_r) (x2_2).toNatClampNeg ((R_kinds c_o) (x2_2).toNatClampNeg))) (upd (R_homes (R_setKinds x2_r (upd (R_kinds x2_r) (x2_2).toNatClampNeg ((R_kinds c_o) (x2_2).toNatClampNeg)))) (x2_2).toNatClampNeg ((R_homes c_o) (x2_2).toNatClampNeg))) (upd (R_cells (R_setHomes (R_setKinds x2_r (upd (R_kinds x2_r) (x2_2).toNatClampNeg ((R_kinds c_o) (x2_2).toNatClampNeg))) (upd (R_homes (R_setKinds x2_r (upd (R_kinds x2_r) (x2_2).toNatClampNeg ((R_kinds c_o) (x2_2).toNatClampNeg)))) (x2_2).toNatClampNeg ((R_homes c_o) (x2_2).toNatClampNeg)))) (x2_2).toNatClampNeg ((R_cells c_o) (x2_2).toNatClampNeg)))) (x2_2).toNatClampNeg ((R_paces c_o) (x2_2).toNatClampNeg)))) (x2_2).toNatClampNeg ((R_strengths c_o) (x2_2).toNatClampNeg))) c_o) := hD
      refine lv_iinc (v := (x2_2 + (1 : Int32))) (lv' := [(2, .int (x2_2 + (1 : Int32))), (0, .ref (f 0)), (1, .ref (g 0))]) hx hb dX0_become_68 hl (k := 2) rfl rfl (by decide) rfl (fun ls hl => ?_)
      refine lv_goto (tgt := 2) hx hb dX0_become_71 (by decide) ?_
      exact ih2 _ _ h _ _ _ hP hD hS (lv_sub hl [1, 2, 0] rfl)
  refine L2 _ (fun k2_r h H locs ls hP hD hS hl => ?_) _ _ _ h _ _ _ hP hD hS (lv_sub hl [1, 2, 0] rfl)
  refine lv_aload_n hx hb dX0_become_74 rfl (lv_at hl 0 rfl) ?_
  refine lv_aload_n hx hb dX0_become_75 rfl (lv_at hl 1 rfl) ?_
  refine va_get (D := (dC, dI)) (ci := 0) (v := .int (R_lanes c_o)) (C := RX0) (T := TX0) (N := 8) hx hb hts hiX0 hown hK hP 6 rfl rfl 5 (by decide) hw6 (fun _ h9 => h9) rfl dX0_become_76 ?_
  refine va_put (D := (dC, dI)) (ci := 0) (v := .int (R_lanes c_o)) (ty := .int) (C := RX0) (T := TX0) (N := 8) hx hb hts hiX0 tyX0 tyX0_ok nmX0 hown hK hP hD hS 0 rfl rfl 5 (by decide) hw6 (fun _ h9 => h9) rfl (by decide +kernel) rfl rfl (Nat.le_of_ble_eq_true rfl) dX0_become_79 (fun H locs hP hD hS => ?_)
  have hP : va_P (dC, dI) vwCl (zwRR cI cC f g (R_setLanes k2_r (R_lanes c_o)) c_o) H := hP
  have hD : va_D A (zwRR cI cC f g (R_setLanes k2_r (R_lanes c_o)) c_o) := hD
  refine lv_aload_n hx hb dX0_become_82 rfl (lv_at hl 0 rfl) ?_
  refine lv_aload_n hx hb dX0_become_83 rfl (lv_at hl 1 rfl) ?_
  refine va_get (D := (dC, dI)) (ci := 0) (v := .int (R_floes c_o)) (C := RX0) (T := TX0) (N := 8) hx hb hts hiX0 hown hK hP 6 rfl rfl 6 (by decide) hw7 (fun _ h9 => h9) rfl dX0_become_84 ?_
  refine va_put (D := (dC, dI)) (ci := 0) (v := .int (R_floes c_o)) (ty := .int) (C := RX0) (T := TX0) (N := 8) hx hb hts hiX0 tyX0 tyX0_ok nmX0 hown hK hP hD hS 0 rfl rfl 6 (by decide) hw7 (fun _ h9 => h9) rfl (by decide +kernel) rfl rfl (Nat.le_of_ble_eq_true rfl) dX0_become_87 (fun H locs hP hD hS => ?_)
  have hP : va_P (dC, dI) vwCl (zwRR cI cC f g (R_setFloes (R_setLanes k2_r (R_lanes c_o)) (R_floes c_o)) c_o) H := hP
  have hD : va_D A (zwRR cI cC f g (R_setFloes (R_setLanes k2_r (R_lanes c_o)) (R_floes c_o)) c_o) := hD
  refine lv_aload_n hx hb dX0_become_90 rfl (lv_at hl 0 rfl) ?_
  refine lv_aload_n hx hb dX0_become_91 rfl (lv_at hl 1 rfl) ?_
  refine va_get (D := (dC, dI)) (ci := 0) (v := .int (R_minute c_o)) (C := RX0) (T := TX0) (N := 8) hx hb hts hiX0 hown hK hP 6 rfl rfl 7 (by decide) hw8 (fun _ h9 => h9) rfl dX0_become_92 ?_
  refine va_put (D := (dC, dI)) (ci := 0) (v := .int (R_minute c_o)) (ty := .int) (C := RX0) (T := TX0) (N := 8) hx hb hts hiX0 tyX0 tyX0_ok nmX0 hown hK hP hD hS 0 rfl rfl 7 (by decide) hw8 (fun _ h9 => h9) rfl (by decide +kernel) rfl rfl (Nat.le_of_ble_eq_true rfl) dX0_become_95 (fun H locs hP hD hS => ?_)
  have hP : va_P (dC, dI) vwCl (zwRR cI cC f g (R_setMinute (R_setFloes (R_setLanes k2_r (R_lanes c_o)) (R_floes c_o)) (R_minute c_o)) c_o) H := hP
  have hD : va_D A (zwRR cI cC f g (R_setMinute (R_setFloes (R_setLanes k2_r (R_lanes c_o)) (R_floes c_o)) (R_minute c_o)) c_o) := hD
  subst hQ
  exact retRV (zz := ((R_setMinute (R_setFloes (R_setLanes k2_r (R_lanes c_o)) (R_floes c_o)) (R_minute c_o)) : RT)) (fun z => (zwRR cI cC f g z c_o)) hx hb hr hlocks hS h hP dX0_become_98
