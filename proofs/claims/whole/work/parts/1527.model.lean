theorem dX4_lowers_0 : decode cX4_lowers 0 = .ok (.aload_n 0, 1) := by decide +kernel
theorem dX4_lowers_1 : decode cX4_lowers 1 = .ok (.getfield 50, 3) := by decide +kernel
theorem dX4_lowers_4 : decode cX4_lowers 4 = .ok (.iload_n 1, 1) := by decide +kernel
theorem dX4_lowers_5 : decode cX4_lowers 5 = .ok (.iaload, 1) := by decide +kernel
theorem dX4_lowers_6 : decode cX4_lowers 6 = .ok (.ifCond .lt 13, 3) := by decide +kernel
theorem dX4_lowers_9 : decode cX4_lowers 9 = .ok (.iload_n 2, 1) := by decide +kernel
theorem dX4_lowers_10 : decode cX4_lowers 10 = .ok (.aload_n 0, 1) := by decide +kernel
theorem dX4_lowers_11 : decode cX4_lowers 11 = .ok (.getfield 50, 3) := by decide +kernel
theorem dX4_lowers_14 : decode cX4_lowers 14 = .ok (.iload_n 1, 1) := by decide +kernel
theorem dX4_lowers_15 : decode cX4_lowers 15 = .ok (.iaload, 1) := by decide +kernel
theorem dX4_lowers_16 : decode cX4_lowers 16 = .ok (.if_icmp .ge 10, 3) := by decide +kernel
theorem dX4_lowers_19 : decode cX4_lowers 19 = .ok (.aload_n 0, 1) := by decide +kernel
theorem dX4_lowers_20 : decode cX4_lowers 20 = .ok (.getfield 50, 3) := by decide +kernel
theorem dX4_lowers_23 : decode cX4_lowers 23 = .ok (.iload_n 1, 1) := by decide +kernel
theorem dX4_lowers_24 : decode cX4_lowers 24 = .ok (.iload_n 2, 1) := by decide +kernel
theorem dX4_lowers_25 : decode cX4_lowers 25 = .ok (.iastore, 1) := by decide +kernel
theorem dX4_lowers_26 : decode cX4_lowers 26 = .ok (.return_, 1) := by decide +kernel
set_option maxHeartbeats 4000000 in
set_option maxRecDepth 100000 in
theorem mX4_lowers (l : Launch) (dC : Nat → ClassId) (dI : Nat → Nat → Nat) (cI cC : ClassId) (sk : (Nat → Nat) × (Nat → Nat)) (f : Nat → Nat) (sz : Nat) (p1 : Int32) (p2 : Int32) (c_r : RT) (c_refused : AR) (c_tape : AR) (c_letter : AR) (c_letterAt : AR) (c_number : AR) (c_taped : Int32) (c_at : Int32) (c_statements : Int32) (c_kept : AR) (c_hasImage : Int32) (c_isKeeping : Int32) (c_cursor : Int32) (c_poled : Int32) (c_barred : Int32) (c_leapsTo : AR) (c_leapsThen : AR) (c_lands : AR) (c_row : AR) (c_rowMany : Int32) (c_endsAt : Int32) (z : AR) (h : fX4_lowers p1 p2 c_leapsThen = some z) : cRV l yX4_lowers wsX4_lowers (RMk 0 0) sk (dC, dI) (tyz cI cC) sz (zwM cI cC f c_r c_refused c_tape c_letter c_letterAt c_number c_taped c_at c_statements c_kept c_hasImage c_isKeeping c_cursor c_poled c_barred c_leapsTo c_leapsThen c_lands c_row c_rowMany c_endsAt) (zwM cI cC f c_r c_refused c_tape c_letter c_letterAt c_number c_taped c_at c_statements c_kept c_hasImage c_isKeeping c_cursor c_poled c_barred c_leapsTo z c_lands c_row c_rowMany c_endsAt) [.ref (f 0), .int p1, .int p2] := by
  refine ofRV (cc := cX4_lowers) (maxL := 3) (ret := none) (own := RX4) (plainFor_of_name (by decide)) rfl rfl (Nat.le_of_ble_eq_true rfl) ?_
  intro p e s m args below meth c A hA hx hb hml hr hts hown hlocks hE hK hP hD hS ls hl
  generalize hQ : qRV _ _ _ _ _ _ = Q
  have hl : lv_has ls 3 [(0, .ref (f 0)), (1, .int p1), (2, .int p2)] := hl
  have hiX4 : ∀ w ∈ wsX40, w ∈ wsX4_lowers := fun w h => List.mem_cons_of_mem _ (List.mem_append_right _ h)
  have hw1 := hts (Cond.fieldLink RX4 50 "FloeToFloeModel" "leapsThen" "[I") (List.mem_of_getElem? (i := 1) rfl)
  rw [fX4_lowers] at h
  refine lv_aload_n hx hb dX4_lowers_0 rfl (lv_at hl 0 rfl) ?_
  refine va_get (D := (dC, dI)) (ci := 4) (v := .ref (f 13)) (C := RX4) (T := TX4) (N := 28) hx hb hts hiX4 hown hK hP 0 rfl rfl 23 (by decide) hw1 (fun _ h9 => h9) rfl dX4_lowers_1 ?_
  refine lv_iload_n hx hb dX4_lowers_4 rfl (lv_at hl 1 rfl) ?_
  obtain ⟨hin, h⟩ := ck_some h
  refine va_iald hx hb hK hP 13 0 rfl rfl hin dX4_lowers_5 ?_
  refine jnW (fun (v19 : Unit) => ∀ (H : Heap) (locs : List Loc) (ls : Array Slot), va_P (dC, dI) vwCl (zwM cI cC f c_r c_refused c_tape c_letter c_letterAt c_number c_taped c_at c_statements c_kept c_hasImage c_isKeeping c_cursor c_poled c_barred c_leapsTo c_leapsThen c_lands c_row c_rowMany c_endsAt) H → va_D A (zwM cI cC f c_r c_refused c_tape c_letter c_letterAt c_number c_taped c_at c_statements c_kept c_hasImage c_isKeeping c_cursor c_poled c_barred c_leapsTo c_leapsThen c_lands c_row c_rowMany c_endsAt) → va_S A s.heap H locs → lv_has ls 3 [(0, .ref (f 0)), (1, .int p1), (2, .int p2)] → W p l e (RMk 0 0) s m args below meth c H locs 0 0 Q (F0 m 19 ls [])) h (fun v19 h H locs ls hP hD hS hl => ?_) (fun J19 j19 h => ?_)
  · refine lv_aload_n hx hb dX4_lowers_19 rfl (lv_at hl 0 rfl) ?_
    refine va_get (D := (dC, dI)) (ci := 4) (v := .ref (f 13)) (C := RX4) (T := TX4) (N := 28) hx hb hts hiX4 hown hK hP 0 rfl rfl 23 (by decide) hw1 (fun _ h9 => h9) rfl dX4_lowers_20 ?_
    refine lv_iload_n hx hb dX4_lowers_23 rfl (lv_at hl 1 rfl) ?_
    refine lv_iload_n hx hb dX4_lowers_24 rfl (lv_at hl 2 rfl) ?_
    obtain ⟨hin, h⟩ := ck_some h
    refine va_iast hx hb hK hP hD hS 13 0 rfl rfl hin dX4_lowers_25 (fun H locs hP hD hS => ?_)
    have hP : va_P (dC, dI) vwCl (zwM cI cC f c_r c_refused c_tape c_letter c_letterAt c_number c_taped c_at c_statements c_kept c_hasImage c_isKeeping c_cursor c_poled c_barred c_leapsTo (upd c_leapsThen (p1).toNatClampNeg p2) c_lands c_row c_rowMany c_endsAt) H := hP
    have hD : va_D A (zwM cI cC f c_r c_refused c_tape c_letter c_letterAt c_number c_taped c_at c_statements c_kept c_hasImage c_isKeeping c_cursor c_poled c_barred c_leapsTo (upd c_leapsThen (p1).toNatClampNeg p2) c_lands c_row c_rowMany c_endsAt) := hD
    subst hQ
    exact retRV (zz := ((upd c_leapsThen (p1).toNatClampNeg p2) : AR)) (fun z => (zwM cI cC f c_r c_refused c_tape c_letter c_letterAt c_number c_taped c_at c_statements c_kept c_hasImage c_isKeeping c_cursor c_poled c_barred c_leapsTo z c_lands c_row c_rowMany c_endsAt)) hx hb hr hlocks hS h hP dX4_lowers_26
  refine lv_if_lt (tgt := 19) hx hb dX4_lowers_6 (by decide) (fun c6 => ?_) (fun c6 => ?_)
  · have h := itT c6 h
    exact j19 _ h _ _ _ hP hD hS (lv_sub hl [0, 1, 2] rfl)
  have h := itF c6 h
  refine lv_iload_n hx hb dX4_lowers_9 rfl (lv_at hl 2 rfl) ?_
  refine lv_aload_n hx hb dX4_lowers_10 rfl (lv_at hl 0 rfl) ?_
  refine va_get (D := (dC, dI)) (ci := 4) (v := .ref (f 13)) (C := RX4) (T := TX4) (N := 28) hx hb hts hiX4 hown hK hP 0 rfl rfl 23 (by decide) hw1 (fun _ h9 => h9) rfl dX4_lowers_11 ?_
  refine lv_iload_n hx hb dX4_lowers_14 rfl (lv_at hl 1 rfl) ?_
  obtain ⟨hin, h⟩ := ck_some h
  refine va_iald hx hb hK hP 13 0 rfl rfl hin dX4_lowers_15 ?_
  refine lv_icmp_ge (tgt := 26) hx hb dX4_lowers_16 (by decide) (fun c16 => ?_) (fun c16 => ?_)
  · have h := itT c16 h
    subst hQ
    exact retRV (zz := (c_leapsThen : AR)) (fun z => (zwM cI cC f c_r c_refused c_tape c_letter c_letterAt c_number c_taped c_at c_statements c_kept c_hasImage c_isKeeping c_cursor c_poled c_barred c_leapsTo z c_lands c_row c_rowMany c_endsAt)) hx hb hr hlocks hS h hP dX4_lowers_26
  have h := itF c16 h
  exact j19 _ h _ _ _ hP hD hS (lv_sub hl [0, 1, 2] rfl)
