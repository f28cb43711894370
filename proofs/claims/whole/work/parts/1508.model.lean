theorem dX4_passes_0 : decode cX4_passes 0 = .ok (.iconst 0, 1) := by decide +kernel
theorem dX4_passes_1 : decode cX4_passes 1 = .ok (.istore_n 2, 1) := by decide +kernel
theorem dX4_passes_2 : decode cX4_passes 2 = .ok (.iload_n 2, 1) := by decide +kernel
theorem dX4_passes_3 : decode cX4_passes 3 = .ok (.aload_n 1, 1) := by decide +kernel
theorem dX4_passes_4 : decode cX4_passes 4 = .ok (.arraylength, 1) := by decide +kernel
theorem dX4_passes_5 : decode cX4_passes 5 = .ok (.if_icmp .ge 53, 3) := by decide +kernel
theorem dX4_passes_8 : decode cX4_passes 8 = .ok (.aload_n 0, 1) := by decide +kernel
theorem dX4_passes_9 : decode cX4_passes 9 = .ok (.getfield 115, 3) := by decide +kernel
theorem dX4_passes_12 : decode cX4_passes 12 = .ok (.ifCond .eq 18, 3) := by decide +kernel
theorem dX4_passes_15 : decode cX4_passes 15 = .ok (.aload_n 0, 1) := by decide +kernel
theorem dX4_passes_16 : decode cX4_passes 16 = .ok (.getfield 44, 3) := by decide +kernel
theorem dX4_passes_19 : decode cX4_passes 19 = .ok (.aload_n 0, 1) := by decide +kernel
theorem dX4_passes_20 : decode cX4_passes 20 = .ok (.getfield 119, 3) := by decide +kernel
theorem dX4_passes_23 : decode cX4_passes 23 = .ok (.aload_n 1, 1) := by decide +kernel
theorem dX4_passes_24 : decode cX4_passes 24 = .ok (.iload_n 2, 1) := by decide +kernel
theorem dX4_passes_25 : decode cX4_passes 25 = .ok (.iaload, 1) := by decide +kernel
theorem dX4_passes_26 : decode cX4_passes 26 = .ok (.iastore, 1) := by decide +kernel
theorem dX4_passes_27 : decode cX4_passes 27 = .ok (.goto 15, 3) := by decide +kernel
theorem dX4_passes_30 : decode cX4_passes 30 = .ok (.aload_n 1, 1) := by decide +kernel
theorem dX4_passes_31 : decode cX4_passes 31 = .ok (.iload_n 2, 1) := by decide +kernel
theorem dX4_passes_32 : decode cX4_passes 32 = .ok (.aload_n 0, 1) := by decide +kernel
theorem dX4_passes_33 : decode cX4_passes 33 = .ok (.getfield 44, 3) := by decide +kernel
theorem dX4_passes_36 : decode cX4_passes 36 = .ok (.aload_n 0, 1) := by decide +kernel
theorem dX4_passes_37 : decode cX4_passes 37 = .ok (.getfield 119, 3) := by decide +kernel
theorem dX4_passes_40 : decode cX4_passes 40 = .ok (.iaload, 1) := by decide +kernel
theorem dX4_passes_41 : decode cX4_passes 41 = .ok (.iastore, 1) := by decide +kernel
theorem dX4_passes_42 : decode cX4_passes 42 = .ok (.aload_n 0, 1) := by decide +kernel
theorem dX4_passes_43 : decode cX4_passes 43 = .ok (.dup, 1) := by decide +kernel
theorem dX4_passes_44 : decode cX4_passes 44 = .ok (.getfield 119, 3) := by decide +kernel
theorem dX4_passes_47 : decode cX4_passes 47 = .ok (.iconst 1, 1) := by decide +kernel
theorem dX4_passes_48 : decode cX4_passes 48 = .ok (.iadd, 1) := by decide +kernel
theorem dX4_passes_49 : decode cX4_passes 49 = .ok (.putfield 119, 3) := by decide +kernel
theorem dX4_passes_52 : decode cX4_passes 52 = .ok (.iinc 2 1, 3) := by decide +kernel
theorem dX4_passes_55 : decode cX4_passes 55 = .ok (.goto (-53), 3) := by decide +kernel
theorem dX4_passes_58 : decode cX4_passes 58 = .ok (.return_, 1) := by decide +kernel
set_option maxHeartbeats 4000000 in
set_option maxRecDepth 100000 in
theorem mX4_passes_2 (l : Launch) (dC : Nat → ClassId) (dI : Nat → Nat → Nat) (cI cC : ClassId) (sk : (Nat → Nat) × (Nat → Nat)) (f : Nat → Nat) (sz : Nat)  (c_r : RT) (c_refused : AR) (c_tape : AR) (c_letter : AR) (c_letterAt : AR) (c_number : AR) (c_taped : Int32) (c_at : Int32) (c_statements : Int32) (c_kept : AR) (c_hasImage : Int32) (c_isKeeping : Int32) (c_cursor : Int32) (c_poled : Int32) (c_barred : Int32) (c_leapsTo : AR) (c_leapsThen : AR) (c_lands : AR) (c_row : AR) (c_rowMany : Int32) (c_endsAt : Int32) (z : RT × AR × Int32) (h : fX4_passes_2 c_r c_kept c_isKeeping c_cursor = some z) : cRV l yX4_passes wsX4_passes (RMk 0 0) sk (dC, dI) (tyz cI cC) sz (zwM cI cC f c_r c_refused c_tape c_letter c_letterAt c_number c_taped c_at c_statements c_kept c_hasImage c_isKeeping c_cursor c_poled c_barred c_leapsTo c_leapsThen c_lands c_row c_rowMany c_endsAt) (zwM cI cC f z.1 c_refused c_tape c_letter c_letterAt c_number c_taped c_at c_statements z.2.1 c_hasImage c_isKeeping z.2.2 c_poled c_barred c_leapsTo c_leapsThen c_lands c_row c_rowMany c_endsAt) [.ref (f 0), .ref (f 2)] := by
  refine ofRV (cc := cX4_passes) (maxL := 3) (ret := none) (own := RX4) (plainFor_of_name (by decide)) rfl rfl (Nat.le_of_ble_eq_true rfl) ?_
  intro p e s m args below meth c A hA hx hb hml hr hts hown hlocks hE hK hP hD hS ls hl
  generalize hQ : qRV _ _ _ _ _ _ = Q
  have hl : lv_has ls 3 [(0, .ref (f 0)), (1, .ref (f 2))] := hl
  have hiX4 : ∀ w ∈ wsX40, w ∈ wsX4_passes := fun w h => List.mem_cons_of_mem _ (List.mem_append_right _ h)
  have hw1 := hts (Cond.fieldLink RX4 115 "FloeToFloeModel" "isKeeping" "Z") (List.mem_of_getElem? (i := 1) rfl)
  have hw2 := hts (Cond.fieldLink RX4 44 "FloeToFloeModel" "kept" "[I") (List.mem_of_getElem? (i := 2) rfl)
  have hw3 := hts (Cond.fieldLink RX4 119 "FloeToFloeModel" "cursor" "I") (List.mem_of_getElem? (i := 3) rfl)
  rw [fX4_passes_2] at h
  refine lv_iconst (v := (0 : Int32)) hx hb dX4_passes_0 (by decide) ?_
  refine lv_istore_n (lv' := [(2, .int (0 : Int32)), (0, .ref (f 0)), (1, .ref (f 2))]) hx hb dX4_passes_1 rfl hl (by decide) rfl (fun ls hl => ?_)
  have L2 : ∀ (K2 : RT → AR → Int32 → Option (RT × AR × Int32)), (∀ (k2_r : RT) (k2_kept : AR) (k2_cursor : Int32), K2 k2_r k2_kept k2_cursor = some z → ∀ (H : Heap) (locs : List Loc) (ls : Array Slot), va_P (dC, dI) vwCl (zwM cI cC f k2_r c_refused c_tape c_letter c_letterAt c_number c_taped c_at c_statements k2_kept c_hasImage c_isKeeping k2_cursor c_poled c_barred c_leapsTo c_leapsThen c_lands c_row c_rowMany c_endsAt) H → va_D A (zwM cI cC f k2_r c_refused c_tape c_letter c_letterAt c_number c_taped c_at c_statements k2_kept c_hasImage c_isKeeping k2_cursor c_poled c_barred c_leapsTo c_leapsThen c_lands c_row c_rowMany c_endsAt) → va_S A s.heap H locs → lv_has ls 3 [] → W p l e (RMk 0 0) s m args below meth c H locs 0 0 Q (F0 m 58 ls [])) → ∀ (n : Nat) (x2_2 : Int32) (x2_r : RT) (x2_kept : AR) (x2_cursor : Int32), fX4_passes_2_L2 c_isKeeping K2 n x2_2 x2_r x2_kept x2_cursor = some z → ∀ (H : Heap) (locs : List Loc) (ls : Array Slot), va_P (dC, dI) vwCl (zwM cI cC f x2_r c_refused c_tape c_letter c_letterAt c_number c_taped c_at c_statements x2_kept c_hasImage c_isKeeping x2_cursor c_poled c_barred c_leapsTo c_leapsThen c_lands c_row c_rowMany c_endsAt) H → va_D A (zwM cI cC f x2_r c_refused c_tape c_letter c_letterAt c_number c_taped c_at c_statements x2_kept c_hasImage c_isKeeping x2_cursor c_poled c_barred c_leapsTo c_leapsThen c_lands c_row c_rowMany c_endsAt) → va_S A s.heap H locs → lv_has ls 3 [(0, .ref (f 0)), (1, .ref (f 2)), (2, .int x2_2)] → W p l e (RMk 0 0) s m args below meth c H locs 0 0 Q (F0 m 2 ls []) := by
    intro K2 kx2 n
    induction n with
    | zero => intro x2_2 x2_r x2_kept x2_cursor h; rw [fX4_passes_2_L2] at h; cases h
    | succ n ih2 =>
      intro x2_2 x2_r x2_kept x2_cursor h H locs ls hP hD hS hl
      rw [fX4_passes_2_L2] at h
      refine lv_iload_n hx hb dX4_passes_2 rfl (lv_at hl 2 rfl) ?_
      refine lv_aload_n hx hb dX4_passes_3 rfl (lv_at hl 1 rfl) ?_
      refine va_alen hx hb hK hP 2 0 rfl rfl (v := (8 : Int32)) rfl dX4_passes_4 ?_
      refine lv_icmp_ge (tgt := 58) hx hb dX4_passes_5 (by decide) (fun c5 => ?_) (fun c5 => ?_)
      · have h := itT c5 h
        exact kx2 _ _ _ h _ _ _ hP hD hS (lv_sub hl [] rfl)
      have h := itF c5 h
      refine lv_aload_n hx hb dX4_passes_8 rfl (lv_at hl 0 rfl) ?_
      refine va_get (D := (dC, dI)) (ci := 4) (v := .int c_isKeeping) (C := RX4) (T := TX4) (N := 28) hx hb hts hiX4 hown hK hP 0 rfl rfl 18 (by decide) hw1 (fun _ h9 => h9) rfl dX4_passes_9 ?_
      refine jnW (fun (v42 : RT × AR) => ∀ (H : Heap) (locs : List Loc) (ls : Array Slot), va_P (dC, dI) vwCl (zwM cI cC f v42.1 c_refused c_tape c_letter c_letterAt c_number c_taped c_at c_statements v42.2 c_hasImage c_isKeeping x2_cursor c_poled c_barred c_leapsTo c_leapsThen c_lands c_row c_rowMany c_endsAt) H → va_D A (zwM cI cC f v42.1 c_refused c_tape c_letter c_letterAt c_number c_taped c_at c_statements v42.2 c_hasImage c_isKeeping x2_cursor c_poled c_barred c_leapsTo c_leapsThen c_lands c_row c_rowMany c_endsAt) → va_S A s.heap H locs → lv_has ls 3 [(0, .ref (f 0)), (1, .ref (f 2)), (2, .int x2_2)] → W p l e (RMk 0 0) s m args below meth c H locs 0 0 Q (F0 m 42 ls [])) h (fun v42 h H locs ls hP hD hS hl => ?_) (fun J42 j42 h => ?_)
      · refine lv_aload_n hx hb dX4_passes_42 rfl (lv_at hl 0 rfl) ?_
        refine lv_dup hx hb dX4_passes_43 rfl ?_
        refine va_get (D := (dC, dI)) (ci := 4) (v := .int x2_cursor) (C := RX4) (T := TX4) (N := 28) hx hb hts hiX4 hown hK hP 0 rfl rfl 19 (by decide) hw3 (fun _ h9 => h9) rfl dX4_passes_44 ?_
        refine lv_iconst (v := (1 : Int32)) hx hb dX4_passes_47 (by decide) ?_
        refine lv_iadd hx hb dX4_passes_48 ?_
        refine va_put (D := (dC, dI)) (ci := 4) (v := .int (x2_cursor + (1 : Int32))) (ty := .int) (C := RX4) (T := TX4) (N := 28) hx hb hts hiX4 tyX4 tyX4_ok nmX4 hown hK hP hD hS 0 rfl rfl 19 (by decide) hw3 (fun _ h9 => h9) rfl (by decide +kernel) rfl rfl (Nat.le_of_ble_eq_true rfl) dX4_passes_49 (fun H locs hP hD hS => ?_)
        have hP : va_P (dC, dI) vwCl (zwM cI cC f v42.1 c_refused c_tape c_letter c_letterAt c_number c_taped c_at c_statements v42.2 c_hasImage c_isKeeping (x2_cursor + (1 : Int32)) c_poled c_barred c_leapsTo c_leapsThen c_lands c_row c_rowMany c_endsAt) H := hP
        have hD : va_D A (zwM cI cC f v42.1 c_refused c_tape c_letter c_letterAt c_number c_taped c_at c_statements v42.2 c_hasImage c_isKeeping (x2_cursor + (1 : Int32)) c_poled c_barred c_leapsTo c_leapsThen c_lands c_row c_rowMany c_endsAt) := hD
        refine lv_iinc (v := (x2_2 + (1 : Int32))) (lv' := [(2, .int (x2_2 + (1 : Int32))), (0, .ref (f 0)), (1, .ref (f 2))]) hx hb dX4_passes_52 hl (k := 2) rfl rfl (by decide) rfl (fun ls hl => ?_)
        refine lv_goto (tgt := 2) hx hb dX4_passes_55 (by decide) ?_
        exact ih2 _ _ _ _ h _ _ _ hP hD hS (lv_sub hl [1, 2, 0] rfl)
      refine lv_if_eq (tgt := 30) hx hb dX4_passes_12 (by decide) (fun c12 => ?_) (fun c12 => ?_)
      · have h := itT c12 h
        refine lv_aload_n hx hb dX4_passes_30 rfl (lv_at hl 1 rfl) ?_
        refine lv_iload_n hx hb dX4_passes_31 rfl (lv_at hl 2 rfl) ?_
        refine lv_aload_n hx hb dX4_passes_32 rfl (lv_at hl 0 rfl) ?_
        refine va_get (D := (dC, dI)) (ci := 4) (v := .ref (f 11)) (C := RX4) (T := TX4) (N := 28) hx hb hts hiX4 hown hK hP 0 rfl rfl 16 (by decide) hw2 (fun _ h9 => h9) rfl dX4_passes_33 ?_
        refine lv_aload_n hx hb dX4_passes_36 rfl (lv_at hl 0 rfl) ?_
        refine va_get (D := (dC, dI)) (ci := 4) (v := .int x2_cursor) (C := RX4) (T := TX4) (N := 28) hx hb hts hiX4 hown hK hP 0 rfl rfl 19 (by decide) hw3 (fun _ h9 => h9) rfl dX4_passes_37 ?_
        obtain ⟨hin, h⟩ := ck_some h
        refine va_iald hx hb hK hP 11 0 rfl rfl hin dX4_passes_40 ?_
        obtain ⟨hin, h⟩ := ck_some h
        refine va_iast hx hb hK hP hD hS 2 0 rfl rfl hin dX4_passes_41 (fun H locs hP hD hS => ?_)
        have hP : va_P (dC, dI) vwCl (zwM cI cC f (R_setKinds x2_r (upd (R_kinds x2_r) (x2_2).toNatClampNeg (x2_kept (x2_cursor).toNatClampNeg))) c_refused c_tape c_letter c_letterAt c_number c_taped c_at c_statements x2_kept c_hasImage c_isKeeping x2_cursor c_poled c_barred c_leapsTo c_leapsThen c_lands c_row c_rowMany c_endsAt) H := hP
        have hD : va_D A (zwM cI cC f (R_setKinds x2_r (upd (R_kinds x2_r) (x2_2).toNatClampNeg (x2_kept (x2_cursor).toNatClampNeg))) c_refused c_tape c_letter c_letterAt c_number c_taped c_at c_statements x2_kept c_hasImage c_isKeeping x2_cursor c_poled c_barred c_leapsTo c_leapsThen c_lands c_row c_rowMany c_endsAt) := hD
        exact j42 _ h _ _ _ hP hD hS (lv_sub hl [0, 1, 2] rfl)
      have h := itF c12 h
      refine lv_aload_n hx hb dX4_passes_15 rfl (lv_at hl 0 rfl) ?_
      refine va_get (D := (dC, dI)) (ci := 4) (v := .ref (f 11)) (C := RX4) (T := TX4) (N := 28) hx hb hts hiX4 hown hK hP 0 rfl rfl 16 (by decide) hw2 (fun _ h9 => h9) rfl dX4_passes_16 ?_
      refine lv_aload_n hx hb dX4_passes_19 rfl (lv_at hl 0 rfl) ?_
      refine va_get (D := (dC, dI)) (ci := 4) (v := .int x2_cursor) (C := RX4) (T := TX4) (N := 28) hx hb hts hiX4 hown hK hP 0 rfl rfl 19 (by decide) hw3 (fun _ h9 => h9) rfl dX4_passes_20 ?_
      refine lv_aload_n hx hb dX4_passes_23 rfl (lv_at hl 1 rfl) ?_
      refine lv_iload_n hx hb dX4_passes_24 rfl (lv_at hl 2 rfl) ?_
      obtain ⟨hin, h⟩ := ck_some h
      refine va_iald hx hb hK hP 2 0 rfl rfl hin dX4_passes_25 ?_
      obtain ⟨hin, h⟩ := ck_some h
      refine va_iast hx hb hK hP hD hS 11 0 rfl rfl hin dX4_passes_26 (fun H locs hP hD hS => ?_)
      have hP : va_P (dC, dI) vwCl (zwM cI cC f x2_r c_refused c_tape c_letter c_letterAt c_number c_taped c_at c_statements (upd x2_kept (x2_cursor).toNatClampNeg ((R_kinds x2_r) (x2_2).toNatClampNeg)) c_hasImage c_isKeeping x2_cursor c_poled c_barred c_leapsTo c_leapsThen c_lands c_row c_rowMany c_endsAt) H := hP
      have hD : va_D A (zwM cI cC f x2_r c_refused c_tape c_letter c_letterAt c_number c_taped c_at c_statements (upd x2_kept (x2_cursor).toNatClampNeg ((R_kinds x2_r) (x2_2).toNatClampNeg)) c_hasImage c_isKeeping x2_cursor c_poled c_barred c_leapsTo c_leapsThen c_lands c_row c_rowMany c_endsAt) := hD
      refine lv_goto (tgt := 42) hx hb dX4_passes_27 (by decide) ?_
      exact j42 _ h _ _ _ hP hD hS (lv_sub hl [0, 1, 2] rfl)
  refine L2 _ (fun k2_r k2_kept k2_cursor h H locs ls hP hD hS hl => ?_) _ _ _ _ _ h _ _ _ hP hD hS (lv_sub hl [1, 2, 0] rfl)
  subst hQ
  exact retRV (zz := ((k2_r, k2_kept, k2_cursor) : RT × AR × Int32)) (fun z => (zwM cI cC f z.1 c_refused c_tape c_letter c_letterAt c_number c_taped c_at c_statements z.2.1 c_hasImage c_isKeeping z.2.2 c_poled c_barred c_leapsTo c_leapsThen c_lands c_row c_rowMany c_endsAt)) hx hb hr hlocks hS h hP dX4_passes_58
set_option maxHeartbeats 4000000 in
set_option maxRecDepth 100000 in
theorem mX4_passes_3 (l : Launch) (dC : Nat → ClassId) (dI : Nat → Nat → Nat) (cI cC : ClassId) (sk : (Nat → Nat) × (Nat → Nat)) (f : Nat → Nat) (sz : Nat)  (c_r : RT) (c_refused : AR) (c_tape : AR) (c_letter : AR) (c_letterAt : AR) (c_number : AR) (c_taped : Int32) (c_at : Int32) (c_statements : Int32) (c_kept : AR) (c_hasImage : Int32) (c_isKeeping : Int32) (c_cursor : Int32) (c_poled : Int32) (c_barred : Int32) (c_leapsTo : AR) (c_leapsThen : AR) (c_lands : AR) (c_row : AR) (c_rowMany : Int32) (c_endsAt : Int32) (z : RT × AR × Int32) (h : fX4_passes_3 c_r c_kept c_isKeeping c_cursor = some z) : cRV l yX4_passes wsX4_passes (RMk 0 0) sk (dC, dI) (tyz cI cC) sz (zwM cI cC f c_r c_refused c_tape c_letter c_letterAt c_number c_taped c_at c_statements c_kept c_hasImage c_isKeeping c_cursor c_poled c_barred c_leapsTo c_leapsThen c_lands c_row c_rowMany c_endsAt) (zwM cI cC f z.1 c_refused c_tape c_letter c_letterAt c_number c_taped c_at c_statements z.2.1 c_hasImage c_isKeeping z.2.2 c_poled c_barred c_leapsTo c_leapsThen c_lands c_row c_rowMany c_endsAt) [.ref (f 0), .ref (f 3)] := by
  refine ofRV (cc := cX4_passes) (maxL := 3) (ret := none) (own := RX4) (plainFor_of_name (by decide)) rfl rfl (Nat.le_of_ble_eq_true rfl) ?_
  intro p e s m args below meth c A hA hx hb hml hr hts hown hlocks hE hK hP hD hS ls hl
  generalize hQ : qRV _ _ _ _ _ _ = Q
  have hl : lv_has ls 3 [(0, .ref (f 0)), (1, .ref (f 3))] := hl
  have hiX4 : ∀ w ∈ wsX40, w ∈ wsX4_passes := fun w h => List.mem_cons_of_mem _ (List.mem_append_right _ h)
  have hw1 := hts (Cond.fieldLink RX4 115 "FloeToFloeModel" "isKeeping" "Z") (List.mem_of_getElem? (i := 1) rfl)
  have hw2 := hts (Cond.fieldLink RX4 44 "FloeToFloeModel" "kept" "[I") (List.mem_of_getElem? (i := 2) rfl)
  have hw3 := hts (Cond.fieldLink RX4 119 "FloeToFloeModel" "cursor" "I") (List.mem_of_getElem? (i := 3) rfl)
  rw [fX4_passes_3] at h
  refine lv_iconst (v := (0 : Int32)) hx hb dX4_passes_0 (by decide) ?_
  refine lv_istore_n (lv' := [(2, .int (0 : Int32)), (0, .ref (f 0)), (1, .ref (f 3))]) hx hb dX4_passes_1 rfl hl (by decide) rfl (fun ls hl => ?_)
  have L2 : ∀ (K2 : RT → AR → Int32 → Option (RT × AR × Int32)), (∀ (k2_r : RT) (k2_kept : AR) (k2_cursor : Int32), K2 k2_r k2_kept k2_cursor = some z → ∀ (H : Heap) (locs : List Loc) (ls : Array Slot), va_P (dC, dI) vwCl (zwM cI cC f k2_r c_refused c_tape c_letter c_letterAt c_number c_taped c_at c_statements k2_kept c_hasImage c_isKeeping k2_cursor c_poled c_barred c_leapsTo c_leapsThen c_lands c_row c_rowMany c_endsAt) H → va_D A (zwM cI cC f k2_r c_refused c_tape c_letter c_letterAt c_number c_taped c_at c_statements k2_kept c_hasImage c_isKeeping k2_cursor c_poled c_barred c_leapsTo c_leapsThen c_lands c_row c_rowMany c_endsAt) → va_S A s.heap H locs → lv_has ls 3 [] → W p l e (RMk 0 0) s m args below meth c H locs 0 0 Q (F0 m 58 ls [])) → ∀ (n : Nat) (x2_2 : Int32) (x2_r : RT) (x2_kept : AR) (x2_cursor : Int32), fX4_passes_3_L2 c_isKeeping K2 n x2_2 x2_r x2_kept x2_cursor = some z → ∀ (H : Heap) (locs : List Loc) (ls : Array Slot), va_P (dC, dI) vwCl (zwM cI cC f x2_r c_refused c_tape c_letter c_letterAt c_number c_taped c_at c_statements x2_kept c_hasImage c_isKeeping x2_cursor c_poled c_barred c_leapsTo c_leapsThen c_lands c_row c_rowMany c_endsAt) H → va_D A (zwM cI cC f x2_r c_refused c_tape c_letter c_letterAt c_number c_taped c_at c_statements x2_kept c_hasImage c_isKeeping x2_cursor c_poled c_barred c_leapsTo c_leapsThen c_lands c_row c_rowMany c_endsAt) → va_S A s.heap H locs → lv_has ls 3 [(0, .ref (f 0)), (1, .ref (f 3)), (2, .int x2_2)] → W p l e (RMk 0 0) s m args below meth c H locs 0 0 Q (F0 m 2 ls []) := by
    intro K2 kx2 n
    induction n with
    | zero => intro x2_2 x2_r x2_kept x2_cursor h; rw [fX4_passes_3_L2] at h; cases h
    | succ n ih2 =>
      intro x2_2 x2_r x2_kept x2_cursor h H locs ls hP hD hS hl
      rw [fX4_passes_3_L2] at h
      refine lv_iload_n hx hb dX4_passes_2 rfl (lv_at hl 2 rfl) ?_
      refine lv_aload_n hx hb dX4_passes_3 rfl (lv_at hl 1 rfl) ?_
      refine va_alen hx hb hK hP 3 0 rfl rfl (v := (8 : Int32)) rfl dX4_passes_4 ?_
      refine lv_icmp_ge (tgt := 58) hx hb dX4_passes_5 (by decide) (fun c5 => ?_) (fun c5 => ?_)
      · have h := itT c5 h
        exact kx2 _ _ _ h _ _ _ hP hD hS (lv_sub hl [] rfl)
      have h := itF c5 h
      refine lv_aload_n hx hb dX4_passes_8 rfl (lv_at hl 0 rfl) ?_
      refine va_get (D := (dC, dI)) (ci := 4) (v := .int c_isKeeping) (C := RX4) (T := TX4) (N := 28) hx hb hts hiX4 hown hK hP 0 rfl rfl 18 (by decide) hw1 (fun _ h9 => h9) rfl dX4_passes_9 ?_
      refine jnW (fun (v42 : RT × AR) => ∀ (H : Heap) (locs : List Loc) (ls : Array Slot), va_P (dC, dI) vwCl (zwM cI cC f v42.1 c_refused c_tape c_letter c_letterAt c_number c_taped c_at c_statements v42.2 c_hasImage c_isKeeping x2_cursor c_poled c_barred c_leapsTo c_leapsThen c_lands c_row c_rowMany c_endsAt) H → va_D A (zwM cI cC f v42.1 c_refused c_tape c_letter c_letterAt c_number c_taped c_at c_statements v42.2 c_hasImage c_isKeeping x2_cursor c_poled c_barred c_leapsTo c_leapsThen c_lands c_row c_rowMany c_endsAt) → va_S A s.heap H locs → lv_has ls 3 [(0, .ref (f 0)), (1, .ref (f 3)), (2, .int x2_2)] → W p l e (RMk 0 0) s m args below meth c H locs 0 0 Q (F0 m 42 ls [])) h (fun v42 h H locs ls hP hD hS hl => ?_) (fun J42 j42 h => ?_)
      · refine lv_aload_n hx hb dX4_passes_42 rfl (lv_at hl 0 rfl) ?_
        refine lv_dup hx hb dX4_passes_43 rfl ?_
        refine va_get (D := (dC, dI)) (ci := 4) (v := .int x2_cursor) (C := RX4) (T := TX4) (N := 28) hx hb hts hiX4 hown hK hP 0 rfl rfl 19 (by decide) hw3 (fun _ h9 => h9) rfl dX4_passes_44 ?_
        refine lv_iconst (v := (1 : Int32)) hx hb dX4_passes_47 (by decide) ?_
        refine lv_iadd hx hb dX4_passes_48 ?_
        refine va_put (D := (dC, dI)) (ci := 4) (v := .int (x2_cursor + (1 : Int32))) (ty := .int) (C := RX4) (T := TX4) (N := 28) hx hb hts hiX4 tyX4 tyX4_ok nmX4 hown hK hP hD hS 0 rfl rfl 19 (by decide) hw3 (fun _ h9 => h9) rfl (by decide +kernel) rfl rfl (Nat.le_of_ble_eq_true rfl) dX4_passes_49 (fun H locs hP hD hS => ?_)
        have hP : va_P (dC, dI) vwCl (zwM cI cC f v42.1 c_refused c_tape c_letter c_letterAt c_number c_taped c_at c_statements v42.2 c_hasImage c_isKeeping (x2_cursor + (1 : Int32)) c_poled c_barred c_leapsTo c_leapsThen c_lands c_row c_rowMany c_endsAt) H := hP
        have hD : va_D A (zwM cI cC f v42.1 c_refused c_tape c_letter c_letterAt c_number c_taped c_at c_statements v42.2 c_hasImage c_isKeeping (x2_cursor + (1 : Int32)) c_poled c_barred c_leapsTo c_leapsThen c_lands c_row c_rowMany c_endsAt) := hD
        refine lv_iinc (v := (x2_2 + (1 : Int32))) (lv' := [(2, .int (x2_2 + (1 : Int32))), (0, .ref (f 0)), (1, .ref (f 3))]) hx hb dX4_passes_52 hl (k := 2) rfl rfl (by decide) rfl (fun ls hl => ?_)
        refine lv_goto (tgt := 2) hx hb dX4_passes_55 (by decide) ?_
        exact ih2 _ _ _ _ h _ _ _ hP hD hS (lv_sub hl [1, 2, 0] rfl)
      refine lv_if_eq (tgt := 30) hx hb dX4_passes_12 (by decide) (fun c12 => ?_) (fun c12 => ?_)
      · have h := itT c12 h
        refine lv_aload_n hx hb dX4_passes_30 rfl (lv_at hl 1 rfl) ?_
        refine lv_iload_n hx hb dX4_passes_31 rfl (lv_at hl 2 rfl) ?_
        refine lv_aload_n hx hb dX4_passes_32 rfl (lv_at hl 0 rfl) ?_
        refine va_get (D := (dC, dI)) (ci := 4) (v := .ref (f 11)) (C := RX4) (T := TX4) (N := 28) hx hb hts hiX4 hown hK hP 0 rfl rfl 16 (by decide) hw2 (fun _ h9 => h9) rfl dX4_passes_33 ?_
        refine lv_aload_n hx hb dX4_passes_36 rfl (lv_at hl 0 rfl) ?_
        refine va_get (D := (dC, dI)) (ci := 4) (v := .int x2_cursor) (C := RX4) (T := TX4) (N := 28) hx hb hts hiX4 hown hK hP 0 rfl rfl 19 (by decide) hw3 (fun _ h9 => h9) rfl dX4_passes_37 ?_
        obtain ⟨hin, h⟩ := ck_some h
        refine va_iald hx hb hK hP 11 0 rfl rfl hin dX4_passes_40 ?_
        obtain ⟨hin, h⟩ := ck_some h
        refine va_iast hx hb hK hP hD hS 3 0 rfl rfl hin dX4_passes_41 (fun H locs hP hD hS => ?_)
        have hP : va_P (dC, dI) vwCl (zwM cI cC f (R_setHomes x2_r (upd (R_homes x2_r) (x2_2).toNatClampNeg (x2_kept (x2_cursor).toNatClampNeg))) c_refused c_tape c_letter c_letterAt c_number c_taped c_at c_statements x2_kept c_hasImage c_isKeeping x2_cursor c_poled c_barred c_leapsTo c_leapsThen c_lands c_row c_rowMany c_endsAt) H := hP
        have hD : va_D A (zwM cI cC f (R_setHomes x2_r (upd (R_homes x2_r) (x2_2).toNatClampNeg (x2_kept (x2_cursor).toNatClampNeg))) c_refused c_tape c_letter c_letterAt c_number c_taped c_at c_statements x2_kept c_hasImage c_isKeeping x2_cursor c_poled c_barred c_leapsTo c_leapsThen c_lands c_row c_rowMany c_endsAt) := hD
        exact j42 _ h _ _ _ hP hD hS (lv_sub hl [0, 1, 2] rfl)
      have h := itF c12 h
      refine lv_aload_n hx hb dX4_passes_15 rfl (lv_at hl 0 rfl) ?_
      refine va_get (D := (dC, dI)) (ci := 4) (v := .ref (f 11)) (C := RX4) (T := TX4) (N := 28) hx hb hts hiX4 hown hK hP 0 rfl rfl 16 (by decide) hw2 (fun _ h9 => h9) rfl dX4_passes_16 ?_
      refine lv_aload_n hx hb dX4_passes_19 rfl (lv_at hl 0 rfl) ?_
      refine va_get (D := (dC, dI)) (ci := 4) (v := .int x2_cursor) (C := RX4) (T := TX4) (N := 28) hx hb hts hiX4 hown hK hP 0 rfl rfl 19 (by decide) hw3 (fun _ h9 => h9) rfl dX4_passes_20 ?_
      refine lv_aload_n hx hb dX4_passes_23 rfl (lv_at hl 1 rfl) ?_
      refine lv_iload_n hx hb dX4_passes_24 rfl (lv_at hl 2 rfl) ?_
      obtain ⟨hin, h⟩ := ck_some h
      refine va_iald hx hb hK hP 3 0 rfl rfl hin dX4_passes_25 ?_
      obtain ⟨hin, h⟩ := ck_some h
      refine va_iast hx hb hK hP hD hS 11 0 rfl rfl hin dX4_passes_26 (fun H locs hP hD hS => ?_)
      have hP : va_P (dC, dI) vwCl (zwM cI cC f x2_r c_refused c_tape c_letter c_letterAt c_number c_taped c_at c_statements (upd x2_kept (x2_cursor).toNatClampNeg ((R_homes x2_r) (x2_2).toNatClampNeg)) c_hasImage c_isKeeping x2_cursor c_poled c_barred c_leapsTo c_leapsThen c_lands c_row c_rowMany c_endsAt) H := hP
      have hD : va_D A (zwM cI cC f x2_r c_refused c_tape c_letter c_letterAt c_number c_taped c_at c_statements (upd x2_kept (x2_cursor).toNatClampNeg ((R_homes x2_r) (x2_2).toNatClampNeg)) c_hasImage c_isKeeping x2_cursor c_poled c_barred c_leapsTo c_leapsThen c_lands c_row c_rowMany c_endsAt) := hD
      refine lv_goto (tgt := 42) hx hb dX4_passes_27 (by decide) ?_
      exact j42 _ h _ _ _ hP hD hS (lv_sub hl [0, 1, 2] rfl)
  refine L2 _ (fun k2_r k2_kept k2_cursor h H locs ls hP hD hS hl => ?_) _ _ _ _ _ h _ _ _ hP hD hS (lv_sub hl [1, 2, 0] rfl)
  subst hQ
  exact retRV (zz := ((k2_r, k2_kept, k2_cursor) : RT × AR × Int32)) (fun z => (zwM cI cC f z.1 c_refused c_tape c_letter c_letterAt c_number c_taped c_at c_statements z.2.1 c_hasImage c_isKeeping z.2.2 c_poled c_barred c_leapsTo c_leapsThen c_lands c_row c_rowMany c_endsAt)) hx hb hr hlocks hS h hP dX4_passes_58
