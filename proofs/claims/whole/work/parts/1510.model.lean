set_option maxHeartbeats 4000000 in
set_option maxRecDepth 100000 in
theorem mX4_passes_6 (l : Launch) (dC : Nat → ClassId) (dI : Nat → Nat → Nat) (cI cC : ClassId) (sk : (Nat → Nat) × (Nat → Nat)) (f : Nat → Nat) (sz : Nat)  (c_r : RT) (c_refused : AR) (c_tape : AR) (c_letter : AR) (c_letterAt : AR) (c_number : AR) (c_taped : Int32) (c_at : Int32) (c_statements : Int32) (c_kept : AR) (c_hasImage : Int32) (c_isKeeping : Int32) (c_cursor : Int32) (c_poled : Int32) (c_barred : Int32) (c_leapsTo : AR) (c_leapsThen : AR) (c_lands : AR) (c_row : AR) (c_rowMany : Int32) (c_endsAt : Int32) (z : RT × AR × Int32) (h : fX4_passes_6 c_r c_kept c_isKeeping c_cursor = some z) : cRV l yX4_passes wsX4_passes (RMk 0 0) sk (dC, dI) (tyz cI cC) sz (zwM cI cC f c_r c_refused c_tape c_letter c_letterAt c_number c_taped c_at c_statements c_kept c_hasImage c_isKeeping c_cursor c_poled c_barred c_leapsTo c_leapsThen c_lands c_row c_rowMany c_endsAt) (zwM cI cC f z.1 c_refused c_tape c_letter c_letterAt c_number c_taped c_at c_statements z.2.1 c_hasImage c_isKeeping z.2.2 c_poled c_barred c_leapsTo c_leapsThen c_lands c_row c_rowMany c_endsAt) [.ref (f 0), .ref (f 6)] := by
  refine ofRV (cc := cX4_passes) (maxL := 3) (ret := none) (own := RX4) (plainFor_of_name (by decide)) rfl rfl (Nat.le_of_ble_eq_true rfl) ?_
  intro p e s m args below meth c A hA hx hb hml hr hts hown hlocks hE hK hP hD hS ls hl
  generalize hQ : qRV _ _ _ _ _ _ = Q
  have hl : lv_has ls 3 [(0, .ref (f 0)), (1, .ref (f 6))] := hl
  have hiX4 : ∀ w ∈ wsX40, w ∈ wsX4_passes := fun w h => List.mem_cons_of_mem _ (List.mem_append_right _ h)
  have hw1 := hts (Cond.fieldLink RX4 115 "FloeToFloeModel" "isKeeping" "Z") (List.mem_of_getElem? (i := 1) rfl)
  have hw2 := hts (Cond.fieldLink RX4 44 "FloeToFloeModel" "kept" "[I") (List.mem_of_getElem? (i := 2) rfl)
  have hw3 := hts (Cond.fieldLink RX4 119 "FloeToFloeModel" "cursor" "I") (List.mem_of_getElem? (i := 3) rfl)
  rw [fX4_passes_6] at h
  refine lv_iconst (v := (0 : Int32)) hx hb dX4_passes_0 (by decide) ?_
  refine lv_istore_n (lv' := [(2, .int (0 : Int32)), (0, .ref (f 0)), (1, .ref (f 6))]) hx hb dX4_passes_1 rfl hl (by decide) rfl (fun ls hl => ?_)
  have L2 : ∀ (K2 : RT → AR → Int32 → Option (RT × AR × Int32)), (∀ (k2_r : RT) (k2_kept : AR) (k2_cursor : Int32), K2 k2_r k2_kept k2_cursor = some z → ∀ (H : Heap) (locs : List Loc) (ls : Array Slot), va_P (dC, dI) vwCl (zwM cI cC f k2_r c_refused c_tape c_letter c_letterAt c_number c_taped c_at c_statements k2_kept c_hasImage c_isKeeping k2_cursor c_poled c_barred c_leapsTo c_leapsThen c_lands c_row c_rowMany c_endsAt) H → va_D A (zwM cI cC f k2_r c_refused c_tape c_letter c_letterAt c_number c_taped c_at c_statements k2_kept c_hasImage c_isKeeping k2_cursor c_poled c_barred c_leapsTo c_leapsThen c_lands c_row c_rowMany c_endsAt) → va_S A s.heap H locs → lv_has ls 3 [] → W p l e (RMk 0 0) s m args below meth c H locs 0 0 Q (F0 m 58 ls [])) → ∀ (n : Nat) (x2_2 : Int32) (x2_r : RT) (x2_kept : AR) (x2_cursor : Int32), fX4_passes_6_L2 c_isKeeping K2 n x2_2 x2_r x2_kept x2_cursor = some z → ∀ (H : Heap) (locs : List Loc) (ls : Array Slot), va_P (dC, dI) vwCl (zwM cI cC f x2_r c_refused c_tape c_letter c_letterAt c_number c_taped c_at c_statements x2_kept c_hasImage c_isKeeping x2_cursor c_poled c_barred c_leapsTo c_leapsThen c_lands c_row c_rowMany c_endsAt) H → va_D A (zwM cI cC f x2_r c_refused c_tape c_letter c_letterAt c_number c_taped c_at c_statements x2_kept c_hasImage c_isKeeping x2_cursor c_poled c_barred c_leapsTo c_leapsThen c_lands c_row c_rowMany c_endsAt) → va_S A s.heap H locs → lv_has ls 3 [(0, .ref (f 0)), (1, .ref (f 6)), (2, .int x2_2)] → W p l e (RMk 0 0) s m args below meth c H locs 0 0 Q (F0 m 2 ls []) := by
    intro K2 kx2 n
    induction n with
    | zero => intro x2_2 x2_r x2_kept x2_cursor h; rw [fX4_passes_6_L2] at h; cases h
    | succ n ih2 =>
      intro x2_2 x2_r x2_kept x2_cursor h H locs ls hP hD hS hl
      rw [fX4_passes_6_L2] at h
      refine lv_iload_n hx hb dX4_passes_2 rfl (lv_at hl 2 rfl) ?_
      refine lv_aload_n hx hb dX4_passes_3 rfl (lv_at hl 1 rfl) ?_
      refine va_alen hx hb hK hP 6 0 rfl rfl (v := (8 : Int32)) rfl dX4_passes_4 ?_
      refine lv_icmp_ge (tgt := 58) hx hb dX4_passes_5 (by decide) (fun c5 => ?_) (fun c5 => ?_)
      · have h := itT c5 h
        exact kx2 _ _ _ h _ _ _ hP hD hS (lv_sub hl [] rfl)
      have h := itF c5 h
      refine lv_aload_n hx hb dX4_passes_8 rfl (lv_at hl 0 rfl) ?_
      refine va_get (D := (dC, dI)) (ci := 4) (v := .int c_isKeeping) (C := RX4) (T := TX4) (N := 28) hx hb hts hiX4 hown hK hP 0 rfl rfl 18 (by decide) hw1 (fun _ h9 => h9) rfl dX4_passes_9 ?_
      refine jnW (fun (v42 : RT × AR) => ∀ (H : Heap) (locs : List Loc) (ls : Array Slot), va_P (dC, dI) vwCl (zwM cI cC f v42.1 c_refused c_tape c_letter c_letterAt c_number c_taped c_at c_statements v42.2 c_hasImage c_isKeeping x2_cursor c_poled c_barred c_leapsTo c_leapsThen c_lands c_row c_rowMany c_endsAt) H → va_D A (zwM cI cC f v42.1 c_refused c_tape c_letter c_letterAt c_number c_taped c_at c_statements v42.2 c_hasImage c_isKeeping x2_cursor c_poled c_barred c_leapsTo c_leapsThen c_lands c_row c_rowMany c_endsAt) → va_S A s.heap H locs → lv_has ls 3 [(0, .ref (f 0)), (1, .ref (f 6)), (2, .int x2_2)] → W p l e (RMk 0 0) s m args below meth c H locs 0 0 Q (F0 m 42 ls [])) h (fun v42 h H locs ls hP hD hS hl => ?_) (fun J42 j42 h => ?_)
      · refine lv_aload_n hx hb dX4_passes_42 rfl (lv_at hl 0 rfl) ?_
        refine lv_dup hx hb dX4_passes_43 rfl ?_
        refine va_get (D := (dC, dI)) (ci := 4) (v := .int x2_cursor) (C := RX4) (T := TX4) (N := 28) hx hb hts hiX4 hown hK hP 0 rfl rfl 19 (by decide) hw3 (fun _ h9 => h9) rfl dX4_passes_44 ?_
        refine lv_iconst (v := (1 : Int32)) hx hb dX4_passes_47 (by decide) ?_
        refine lv_iadd hx hb dX4_passes_48 ?_
        refine va_put (D := (dC, dI)) (ci := 4) (v := .int (x2_cursor + (1 : Int32))) (ty := .int) (C := RX4) (T := TX4) (N := 28) hx hb hts hiX4 tyX4 tyX4_ok nmX4 hown hK hP hD hS 0 rfl rfl 19 (by decide) hw3 (fun _ h9 => h9) rfl (by decide +kernel) rfl rfl (Nat.le_of_ble_eq_true rfl) dX4_passes_49 (fun H locs hP hD hS => ?_)
        have hP : va_P (dC, dI) vwCl (zwM cI cC f v42.1 c_refused c_tape c_letter c_letterAt c_number c_taped c_at c_statements v42.2 c_hasImage c_isKeeping (x2_cursor + (1 : Int32)) c_poled c_barred c_leapsTo c_leapsThen c_lands c_row c_rowMany c_endsAt) H := hP
        have hD : va_D A (zwM cI cC f v42.1 c_refused c_tape c_letter c_letterAt c_number c_taped c_at c_statements v42.2 c_hasImage c_isKeeping (x2_cursor + (1 : Int32)) c_poled c_barred c_leapsTo c_leapsThen c_lands c_row c_rowMany c_endsAt) := hD
        refine lv_iinc (v := (x2_2 + (1 : Int32))) (lv' := [(2, .int (x2_2 + (1 : Int32))), (0, .ref (f 0)), (1, .ref (f 6))]) hx hb dX4_passes_52 hl (k := 2) rfl rfl (by decide) rfl (fun ls hl => ?_)
        refine lv_goto (tgt := 2) hx hb dX4_passes_55 (by decide) ?_
        exact ih2 _ _ _ _ h _ _ _ hP hD hS (lv_sub hl [1, 2, 0] rfl)
      refine lv_if_eq (tgt := 30) hx hb dX4_passes_12 (by decide) (fun c12 => ?_) (fun c12 => ?_)
      · have h := itT c12 h
        refine lv_aload_n hx hb dX4_passes_30 rfl (lv_at hl 1 rfl) ?_
        refine lv_iload_n hx hb dX4_passes_31 rfl (lv_at hl 2 rfl) ?_
        refine lv_aload_n hx hb dX4_passes_32 rfl (lv_at hl 0 rfl) ?_
        refine va_get (D := (dC, dI)) (ci := 4) (v := .ref (f 11)) (C := RX4) (T := TX4) (N := 28) hx hb hts hiX4 hown hK hP 0 rfl rfl 16 (by decide) hw2 (fun _ h9 => h9) rfl dX4_passes_33 ?_
        refine lv_aload_n hx hb dX4_passes_36 rfl (lv_at hl 0 rfl) ?_
        refine va_get (D := (dC, dI)) (ci := 4) (v := .int x2_cursor) (C := RX4) (T := TX4) (N := 28) hx hb hts hiX4 hown hK hP 0 rfl rfl 19 (by decide) hw3 (fun _ h9 => h9) rfl dX4_passes_37 ?_
        obtain ⟨hin, h⟩ := ck_some h
        refine va_iald hx hb hK hP 11 0 rfl rfl hin dX4_passes_40 ?_
        obtain ⟨hin, h⟩ := ck_some h
        refine va_iast hx hb hK hP hD hS 6 0 rfl rfl hin dX4_passes_41 (fun H locs hP hD hS => ?_)
        have hP : va_P (dC, dI) vwCl (zwM cI cC f (R_setStrengths x2_r (upd (R_strengths x2_r) (x2_2).toNatClampNeg (x2_kept (x2_cursor).toNatClampNeg))) c_refused c_tape c_letter c_letterAt c_number c_taped c_at c_statements x2_kept c_hasImage c_isKeeping x2_cursor c_poled c_barred c_leapsTo c_leapsThen c_lands c_row c_rowMany c_endsAt) H := hP
        have hD : va_D A (zwM cI cC f (R_setStrengths x2_r (upd (R_strengths x2_r) (x2_2).toNatClampNeg (x2_kept (x2_cursor).toNatClampNeg))) c_refused c_tape c_letter c_letterAt c_number c_taped c_at c_statements x2_kept c_hasImage c_isKeeping x2_cursor c_poled c_barred c_leapsTo c_leapsThen c_lands c_row c_rowMany c_endsAt) := hD
        exact j42 _ h _ _ _ hP hD hS (lv_sub hl [0, 1, 2] rfl)
      have h := itF c12 h
      refine lv_aload_n hx hb dX4_passes_15 rfl (lv_at hl 0 rfl) ?_
      refine va_get (D := (dC, dI)) (ci := 4) (v := .ref (f 11)) (C := RX4) (T := TX4) (N := 28) hx hb hts hiX4 hown hK hP 0 rfl rfl 16 (by decide) hw2 (fun _ h9 => h9) rfl dX4_passes_16 ?_
      refine lv_aload_n hx hb dX4_passes_19 rfl (lv_at hl 0 rfl) ?_
      refine va_get (D := (dC, dI)) (ci := 4) (v := .int x2_cursor) (C := RX4) (T := TX4) (N := 28) hx hb hts hiX4 hown hK hP 0 rfl rfl 19 (by decide) hw3 (fun _ h9 => h9) rfl dX4_passes_20 ?_
      refine lv_aload_n hx hb dX4_passes_23 rfl (lv_at hl 1 rfl) ?_
      refine lv_iload_n hx hb dX4_passes_24 rfl (lv_at hl 2 rfl) ?_
      obtain ⟨hin, h⟩ := ck_some h
      refine va_iald hx hb hK hP 6 0 rfl rfl hin dX4_passes_25 ?_
      obtain ⟨hin, h⟩ := ck_some h
      refine va_iast hx hb hK hP hD hS 11 0 rfl rfl hin dX4_passes_26 (fun H locs hP hD hS => ?_)
      have hP : va_P (dC, dI) vwCl (zwM cI cC f x2_r c_refused c_tape c_letter c_letterAt c_number c_taped c_at c_statements (upd x2_kept (x2_cursor).toNatClampNeg ((R_strengths x2_r) (x2_2).toNatClampNeg)) c_hasImage c_isKeeping x2_cursor c_poled c_barred c_leapsTo c_leapsThen c_lands c_row c_rowMany c_endsAt) H := hP
      have hD : va_D A (zwM cI cC f x2_r c_refused c_tape c_letter c_letterAt c_number c_taped c_at c_statements (upd x2_kept (x2_cursor).toNatClampNeg ((R_strengths x2_r) (x2_2).toNatClampNeg)) c_hasImage c_isKeeping x2_cursor c_poled c_barred c_leapsTo c_leapsThen c_lands c_row c_rowMany c_endsAt) := hD
      refine lv_goto (tgt := 42) hx hb dX4_passes_27 (by decide) ?_
      exact j42 _ h _ _ _ hP hD hS (lv_sub hl [0, 1, 2] rfl)
  refine L2 _ (fun k2_r k2_kept k2_cursor h H locs ls hP hD hS hl => ?_) _ _ _ _ _ h _ _ _ hP hD hS (lv_sub hl [1, 2, 0] rfl)
  subst hQ
  exact retRV (zz := ((k2_r, k2_kept, k2_cursor) : RT × AR × Int32)) (fun z => (zwM cI cC f z.1 c_refused c_tape c_letter c_letterAt c_number c_taped c_at c_statements z.2.1 c_hasImage c_isKeeping z.2.2 c_poled c_barred c_leapsTo c_leapsThen c_lands c_row c_rowMany c_endsAt)) hx hb hr hlocks hS h hP dX4_passes_58
theorem dX4_passOne_0 : decode cX4_passOne 0 = .ok (.aload_n 0, 1) := by decide +kernel
theorem dX4_passOne_1 : decode cX4_passOne 1 = .ok (.getfield 115, 3) := by decide +kernel
theorem dX4_passOne_4 : decode cX4_passOne 4 = .ok (.ifCond .eq 7, 3) := by decide +kernel
theorem dX4_passOne_7 : decode cX4_passOne 7 = .ok (.iload_n 1, 1) := by decide +kernel
theorem dX4_passOne_8 : decode cX4_passOne 8 = .ok (.goto 12, 3) := by decide +kernel
theorem dX4_passOne_11 : decode cX4_passOne 11 = .ok (.aload_n 0, 1) := by decide +kernel
theorem dX4_passOne_12 : decode cX4_passOne 12 = .ok (.getfield 44, 3) := by decide +kernel
theorem dX4_passOne_15 : decode cX4_passOne 15 = .ok (.aload_n 0, 1) := by decide +kernel
theorem dX4_passOne_16 : decode cX4_passOne 16 = .ok (.getfield 119, 3) := by decide +kernel
theorem dX4_passOne_19 : decode cX4_passOne 19 = .ok (.iaload, 1) := by decide +kernel
theorem dX4_passOne_20 : decode cX4_passOne 20 = .ok (.istore_n 2, 1) := by decide +kernel
theorem dX4_passOne_21 : decode cX4_passOne 21 = .ok (.aload_n 0, 1) := by decide +kernel
theorem dX4_passOne_22 : decode cX4_passOne 22 = .ok (.getfield 115, 3) := by decide +kernel
theorem dX4_passOne_25 : decode cX4_passOne 25 = .ok (.ifCond .eq 13, 3) := by decide +kernel
theorem dX4_passOne_28 : decode cX4_passOne 28 = .ok (.aload_n 0, 1) := by decide +kernel
theorem dX4_passOne_29 : decode cX4_passOne 29 = .ok (.getfield 44, 3) := by decide +kernel
theorem dX4_passOne_32 : decode cX4_passOne 32 = .ok (.aload_n 0, 1) := by decide +kernel
theorem dX4_passOne_33 : decode cX4_passOne 33 = .ok (.getfield 119, 3) := by decide +kernel
theorem dX4_passOne_36 : decode cX4_passOne 36 = .ok (.iload_n 1, 1) := by decide +kernel
theorem dX4_passOne_37 : decode cX4_passOne 37 = .ok (.iastore, 1) := by decide +kernel
theorem dX4_passOne_38 : decode cX4_passOne 38 = .ok (.aload_n 0, 1) := by decide +kernel
theorem dX4_passOne_39 : decode cX4_passOne 39 = .ok (.dup, 1) := by decide +kernel
theorem dX4_passOne_40 : decode cX4_passOne 40 = .ok (.getfield 119, 3) := by decide +kernel
theorem dX4_passOne_43 : decode cX4_passOne 43 = .ok (.iconst 1, 1) := by decide +kernel
theorem dX4_passOne_44 : decode cX4_passOne 44 = .ok (.iadd, 1) := by decide +kernel
theorem dX4_passOne_45 : decode cX4_passOne 45 = .ok (.putfield 119, 3) := by decide +kernel
theorem dX4_passOne_48 : decode cX4_passOne 48 = .ok (.iload_n 2, 1) := by decide +kernel
theorem dX4_passOne_49 : decode cX4_passOne 49 = .ok (.ireturn, 1) := by decide +kernel
set_option maxHeartbeats 4000000 in
set_option maxRecDepth 100000 in
theorem mX4_passOne (l : Launch) (dC : Nat → ClassId) (dI : Nat → Nat → Nat) (cI cC : ClassId) (sk : (Nat → Nat) × (Nat → Nat)) (f : Nat → Nat) (sz : Nat) (p1 : Int32) (c_r : RT) (c_refused : AR) (c_tape : AR) (c_letter : AR) (c_letterAt : AR) (c_number : AR) (c_taped : Int32) (c_at : Int32) (c_statements : Int32) (c_kept : AR) (c_hasImage : Int32) (c_isKeeping : Int32) (c_cursor : Int32) (c_poled : Int32) (c_barred : Int32) (c_leapsTo : AR) (c_leapsThen : AR) (c_lands : AR) (c_row : AR) (c_rowMany : Int32) (c_endsAt : Int32) (z : Int32 × AR × Int32) (h : fX4_passOne p1 c_kept c_isKeeping c_cursor = some z) : cRW l yX4_passOne wsX4_passOne (RMk 0 0) sk (dC, dI) (tyz cI cC) sz (zwM cI cC f c_r c_refused c_tape c_letter c_letterAt c_number c_taped c_at c_statements c_kept c_hasImage c_isKeeping c_cursor c_poled c_barred c_leapsTo c_leapsThen c_lands c_row c_rowMany c_endsAt) (zwM cI cC f c_r c_refused c_tape c_letter c_letterAt c_number c_taped c_at c_statements z.2.1 c_hasImage c_isKeeping z.2.2 c_poled c_barred c_leapsTo c_leapsThen c_lands c_row c_rowMany c_endsAt) [.ref (f 0), .int p1] z.1 := by
  refine ofRW (cc := cX4_passOne) (maxL := 3) (ret := (some .int)) (own := RX4) (plainFor_of_name (by decide)) rfl rfl (Nat.le_of_ble_eq_true rfl) ?_
  intro p e s m args below meth c A hA hx hb hml hr hts hown hlocks hE hK hP hD hS ls hl
  generalize hQ : qRW _ _ _ _ _ _ _ = Q
  have hl : lv_has ls 3 [(0, .ref (f 0)), (1, .int p1)] := hl
  have hiX4 : ∀ w ∈ wsX40, w ∈ wsX4_passOne := fun w h => List.mem_cons_of_mem _ (List.mem_append_right _ h)
  have hw1 := hts (Cond.fieldLink RX4 115 "FloeToFloeModel" "isKeeping" "Z") (List.mem_of_getElem? (i := 1) rfl)
  have hw2 := hts (Cond.fieldLink RX4 44 "FloeToFloeModel" "kept" "[I") (List.mem_of_getElem? (i := 2) rfl)
  have hw3 := hts (Cond.fieldLink RX4 119 "FloeToFloeModel" "cursor" "I") (List.mem_of_getElem? (i := 3) rfl)
  rw [fX4_passOne] at h
  refine lv_aload_n hx hb dX4_passOne_0 rfl (lv_at hl 0 rfl) ?_
  refine va_get (D := (dC, dI)) (ci := 4) (v := .int c_isKeeping) (C := RX4) (T := TX4) (N := 28) hx hb hts hiX4 hown hK hP 0 rfl rfl 18 (by decide) hw1 (fun _ h9 => h9) rfl dX4_passOne_1 ?_
  refine jnW (fun (v20 : Int32) => ∀ (H : Heap) (locs : List Loc) (ls : Array Slot), va_P (dC, dI) vwCl (zwM cI cC f c_r c_refused c_tape c_letter c_letterAt c_number c_taped c_at c_statements c_kept c_hasImage c_isKeeping c_cursor c_poled c_barred c_leapsTo c_leapsThen c_lands c_row c_rowMany c_endsAt) H → va_D A (zwM cI cC f c_r c_refused c_tape c_letter c_letterAt c_number c_taped c_at c_statements c_kept c_hasImage c_isKeeping c_cursor c_poled c_barred c_leapsTo c_leapsThen c_lands c_row c_rowMany c_endsAt) → va_S A s.heap H locs → lv_has ls 3 [(0, .ref (f 0)), (1, .int p1)] → W p l e (RMk 0 0) s m args below meth c H locs 0 0 Q (F0 m 20 ls [.int v20])) h (fun v20 h H locs ls hP hD hS hl => ?_) (fun J20 j20 h => ?_)
  · refine lv_istore_n (lv' := [(2, .int v20), (0, .ref (f 0)), (1, .int p1)]) hx hb dX4_passOne_20 rfl hl (by decide) rfl (fun ls hl => ?_)
    refine lv_aload_n hx hb dX4_passOne_21 rfl (lv_at hl 1 rfl) ?_
    refine va_get (D := (dC, dI)) (ci := 4) (v := .int c_isKeeping) (C := RX4) (T := TX4) (N := 28) hx hb hts hiX4 hown hK hP 0 rfl rfl 18 (by decide) hw1 (fun _ h9 => h9) rfl dX4_passOne_22 ?_
    refine jnW (fun (v38 : AR) => ∀ (H : Heap) (locs : List Loc) (ls : Array Slot), va_P (dC, dI) vwCl (zwM cI cC f c_r c_refused c_tape c_letter c_letterAt c_number c_taped c_at c_statements v38 c_hasImage c_isKeeping c_cursor c_poled c_barred c_leapsTo c_leapsThen c_lands c_row c_rowMany c_endsAt) H → va_D A (zwM cI cC f c_r c_refused c_tape c_letter c_letterAt c_number c_taped c_at c_statements v38 c_hasImage c_isKeeping c_cursor c_poled c_barred c_leapsTo c_leapsThen c_lands c_row c_rowMany c_endsAt) → va_S A s.heap H locs → lv_has ls 3 [(0, .ref (f 0)), (2, .int v20)] → W p l e (RMk 0 0) s m args below meth c H locs 0 0 Q (F0 m 38 ls [])) h (fun v38 h H locs ls hP hD hS hl => ?_) (fun J38 j38 h => ?_)
    · refine lv_aload_n hx hb dX4_passOne_38 rfl (lv_at hl 0 rfl) ?_
      refine lv_dup hx hb dX4_passOne_39 rfl ?_
      refine va_get (D := (dC, dI)) (ci := 4) (v := .int c_cursor) (C := RX4) (T := TX4) (N := 28) hx hb hts hiX4 hown hK hP 0 rfl rfl 19 (by decide) hw3 (fun _ h9 => h9) rfl dX4_passOne_40 ?_
      refine lv_iconst (v := (1 : Int32)) hx hb dX4_passOne_43 (by decide) ?_
      refine lv_iadd hx hb dX4_passOne_44 ?_
      refine va_put (D := (dC, dI)) (ci := 4) (v := .int (c_cursor + (1 : Int32))) (ty := .int) (C := RX4) (T := TX4) (N := 28) hx hb hts hiX4 tyX4 tyX4_ok nmX4 hown hK hP hD hS 0 rfl rfl 19 (by decide) hw3 (fun _ h9 => h9) rfl (by decide +kernel) rfl rfl (Nat.le_of_ble_eq_true rfl) dX4_passOne_45 (fun H locs hP hD hS => ?_)
      have hP : va_P (dC, dI) vwCl (zwM cI cC f c_r c_refused c_tape c_letter c_letterAt c_number c_taped c_at c_statements v38 c_hasImage c_isKeeping (c_cursor + (1 : Int32)) c_poled c_barred c_leapsTo c_leapsThen c_lands c_row c_rowMany c_endsAt) H := hP
      have hD : va_D A (zwM cI cC f c_r c_refused c_tape c_letter c_letterAt c_number c_taped c_at c_statements v38 c_hasImage c_isKeeping (c_cursor + (1 : Int32)) c_poled c_barred c_leapsTo c_leapsThen c_lands c_row c_rowMany c_endsAt) := hD
      refine lv_iload_n hx hb dX4_passOne_48 rfl (lv_at hl 1 rfl) ?_
      subst hQ
      exact retRW (zz := ((v20, v38, (c_cursor + (1 : Int32))) : Int32 × AR × Int32)) (fun z => z.1) (fun z => (zwM cI cC f c_r c_refused c_tape c_letter c_letterAt c_number c_taped c_at c_statements z.2.1 c_hasImage c_isKeeping z.2.2 c_poled c_barred c_leapsTo c_leapsThen c_lands c_row c_rowMany c_endsAt)) hx hb hr hlocks rfl hS h rfl hP dX4_passOne_49
    refine lv_if_eq (tgt := 38) hx hb dX4_passOne_25 (by decide) (fun c25 => ?_) (fun c25 => ?_)
    · have h := itT c25 h
      exact j38 _ h _ _ _ hP hD hS (lv_sub hl [1, 0] rfl)
    have h := itF c25 h
    refine lv_aload_n hx hb dX4_passOne_28 rfl (lv_at hl 1 rfl) ?_
    refine va_get (D := (dC, dI)) (ci := 4) (v := .ref (f 11)) (C := RX4) (T := TX4) (N := 28) hx hb hts hiX4 hown hK hP 0 rfl rfl 16 (by decide) hw2 (fun _ h9 => h9) rfl dX4_passOne_29 ?_
    refine lv_aload_n hx hb dX4_passOne_32 rfl (lv_at hl 1 rfl) ?_
    refine va_get (D := (dC, dI)) (ci := 4) (v := .int c_cursor) (C := RX4) (T := TX4) (N := 28) hx hb hts hiX4 hown hK hP 0 rfl rfl 19 (by decide) hw3 (fun _ h9 => h9) rfl dX4_passOne_33 ?_
    refine lv_iload_n hx hb dX4_passOne_36 rfl (lv_at hl 2 rfl) ?_
    obtain ⟨hin, h⟩ := ck_some h
    refine va_iast hx hb hK hP hD hS 11 0 rfl rfl hin dX4_passOne_37 (fun H locs hP hD hS => ?_)
    have hP : va_P (dC, dI) vwCl (zwM cI cC f c_r c_refused c_tape c_letter c_letterAt c_number c_taped c_at c_statements (upd c_kept (c_cursor).toNatClampNeg p1) c_hasImage c_isKeeping c_cursor c_poled c_barred c_leapsTo c_leapsThen c_lands c_row c_rowMany c_endsAt) H := hP
    have hD : va_D A (zwM cI cC f c_r c_refused c_tape c_letter c_letterAt c_number c_taped c_at c_statements (upd c_kept (c_cursor).toNatClampNeg p1) c_hasImage c_isKeeping c_cursor c_poled c_barred c_leapsTo c_leapsThen c_lands c_row c_rowMany c_endsAt) := hD
    exact j38 _ h _ _ _ hP hD hS (lv_sub hl [1, 0] rfl)
  refine lv_if_eq (tgt := 11) hx hb dX4_passOne_4 (by decide) (fun c4 => ?_) (fun c4 => ?_)
  · have h := itT c4 h
    refine lv_aload_n hx hb dX4_passOne_11 rfl (lv_at hl 0 rfl) ?_
    refine va_get (D := (dC, dI)) (ci := 4) (v := .ref (f 11)) (C := RX4) (T := TX4) (N := 28) hx hb hts hiX4 hown hK hP 0 rfl rfl 16 (by decide) hw2 (fun _ h9 => h9) rfl dX4_passOne_12 ?_
    refine lv_aload_n hx hb dX4_passOne_15 rfl (lv_at hl 0 rfl) ?_
    refine va_get (D := (dC, dI)) (ci := 4) (v := .int c_cursor) (C := RX4) (T := TX4) (N := 28) hx hb hts hiX4 hown hK hP 0 rfl rfl 19 (by decide) hw3 (fun _ h9 => h9) rfl dX4_passOne_16 ?_
    obtain ⟨hin, h⟩ := ck_some h
    refine va_iald hx hb hK hP 11 0 rfl rfl hin dX4_passOne_19 ?_
    exact j20 _ h _ _ _ hP hD hS (lv_sub hl [0, 1] rfl)
  have h := itF c4 h
  refine lv_iload_n hx hb dX4_passOne_7 rfl (lv_at hl 1 rfl) ?_
  refine lv_goto (tgt := 20) hx hb dX4_passOne_8 (by decide) ?_
  exact j20 _ h _ _ _ hP hD hS (lv_sub hl [0, 1] rfl)
