theorem dX4_pass_0 : decode cX4_pass 0 = .ok (.iload_n 1, 1) := by decide +kernel
theorem dX4_pass_1 : decode cX4_pass 1 = .ok (.iconst 1, 1) := by decide +kernel
theorem dX4_pass_2 : decode cX4_pass 2 = .ok (.bipush 60, 2) := by decide +kernel
theorem dX4_pass_4 : decode cX4_pass 4 = .ok (.invokestatic 66, 3) := by decide +kernel
theorem dX4_pass_7 : decode cX4_pass 7 = .ok (.istore_n 2, 1) := by decide +kernel
theorem dX4_pass_8 : decode cX4_pass 8 = .ok (.iload_n 2, 1) := by decide +kernel
theorem dX4_pass_9 : decode cX4_pass 9 = .ok (.ifCond .ne 17, 3) := by decide +kernel
theorem dX4_pass_12 : decode cX4_pass 12 = .ok (.aload_n 0, 1) := by decide +kernel
theorem dX4_pass_13 : decode cX4_pass 13 = .ok (.getfield 101, 3) := by decide +kernel
theorem dX4_pass_16 : decode cX4_pass 16 = .ok (.iload_n 1, 1) := by decide +kernel
theorem dX4_pass_17 : decode cX4_pass 17 = .ok (.iadd, 1) := by decide +kernel
theorem dX4_pass_18 : decode cX4_pass 18 = .ok (.bipush 60, 2) := by decide +kernel
theorem dX4_pass_20 : decode cX4_pass 20 = .ok (.if_icmp .le 6, 3) := by decide +kernel
theorem dX4_pass_23 : decode cX4_pass 23 = .ok (.bipush (-6), 2) := by decide +kernel
theorem dX4_pass_25 : decode cX4_pass 25 = .ok (.istore_n 2, 1) := by decide +kernel
theorem dX4_pass_26 : decode cX4_pass 26 = .ok (.iload_n 2, 1) := by decide +kernel
theorem dX4_pass_27 : decode cX4_pass 27 = .ok (.ifCond .eq 9, 3) := by decide +kernel
theorem dX4_pass_30 : decode cX4_pass 30 = .ok (.aload_n 0, 1) := by decide +kernel
theorem dX4_pass_31 : decode cX4_pass 31 = .ok (.iload_n 2, 1) := by decide +kernel
theorem dX4_pass_32 : decode cX4_pass 32 = .ok (.invokevirtual 73, 3) := by decide +kernel
theorem dX4_pass_35 : decode cX4_pass 35 = .ok (.ireturn, 1) := by decide +kernel
theorem dX4_pass_36 : decode cX4_pass 36 = .ok (.aload_n 0, 1) := by decide +kernel
theorem dX4_pass_37 : decode cX4_pass 37 = .ok (.dup, 1) := by decide +kernel
theorem dX4_pass_38 : decode cX4_pass 38 = .ok (.getfield 101, 3) := by decide +kernel
theorem dX4_pass_41 : decode cX4_pass 41 = .ok (.iload_n 1, 1) := by decide +kernel
theorem dX4_pass_42 : decode cX4_pass 42 = .ok (.iadd, 1) := by decide +kernel
theorem dX4_pass_43 : decode cX4_pass 43 = .ok (.putfield 101, 3) := by decide +kernel
theorem dX4_pass_46 : decode cX4_pass 46 = .ok (.aload_n 0, 1) := by decide +kernel
theorem dX4_pass_47 : decode cX4_pass 47 = .ok (.getfield 101, 3) := by decide +kernel
theorem dX4_pass_50 : decode cX4_pass 50 = .ok (.ireturn, 1) := by decide +kernel
set_option maxRecDepth 20000 in
theorem ggX4_pass_X4_bound : GoodIn wsX4_pass wsX4_bound := goodIn_r _ [5] (by decide +kernel) (by decide +kernel)
set_option maxRecDepth 20000 in
theorem gX4_pass_X4_bound : GoodIn wsX4_pass (va_wsS RX4 66 yX4_bound wsX4_bound) := goodIn_app (goodIn_of _ (by decide +kernel)) ggX4_pass_X4_bound
set_option maxRecDepth 20000 in
theorem ggX4_pass_X4_no : GoodIn wsX4_pass wsX4_no := goodIn_r _ [9, 10, 11, 12, 13, 14, 15, 16, 17, 18, 19, 20, 21, 22, 23, 24, 25, 26, 27, 28, 29, 30, 31, 32, 33, 34, 35, 36, 37, 38] (by decide +kernel) (by decide +kernel)
set_option maxRecDepth 20000 in
theorem gX4_pass_X4_no : GoodIn wsX4_pass (wsV RX4 73 RX4 yX4_no wsX4_no) := goodIn_app (goodIn_of _ (by decide +kernel)) ggX4_pass_X4_no
set_option maxHeartbeats 4000000 in
set_option maxRecDepth 100000 in
theorem mX4_pass (l : Launch) (dC : Nat → ClassId) (dI : Nat → Nat → Nat) (cI cC : ClassId) (sk : (Nat → Nat) × (Nat → Nat)) (f : Nat → Nat) (sz : Nat) (p1 : Int32) (c_r : RT) (c_refused : AR) (c_tape : AR) (c_letter : AR) (c_letterAt : AR) (c_number : AR) (c_taped : Int32) (c_at : Int32) (c_statements : Int32) (c_kept : AR) (c_hasImage : Int32) (c_isKeeping : Int32) (c_cursor : Int32) (c_poled : Int32) (c_barred : Int32) (c_leapsTo : AR) (c_leapsThen : AR) (c_lands : AR) (c_row : AR) (c_rowMany : Int32) (c_endsAt : Int32) (z : Int32 × RT × AR) (h : fX4_pass p1 c_r c_refused = some z) : cRW l yX4_pass wsX4_pass (RMk 1 22) sk (dC, dI) (tyz cI cC) sz (zwM cI cC f c_r c_refused c_tape c_letter c_letterAt c_number c_taped c_at c_statements c_kept c_hasImage c_isKeeping c_cursor c_poled c_barred c_leapsTo c_leapsThen c_lands c_row c_rowMany c_endsAt) (zwM cI cC f z.2.1 z.2.2 c_tape c_letter c_letterAt c_number c_taped c_at c_statements c_kept c_hasImage c_isKeeping c_cursor c_poled c_barred c_leapsTo c_leapsThen c_lands c_row c_rowMany c_endsAt) [.ref (f 0), .int p1] z.1 := by
  refine ofRW (cc := cX4_pass) (maxL := 3) (ret := (some .int)) (own := RX4) (plainFor_of_name (by decide)) rfl rfl (Nat.le_of_ble_eq_true rfl) ?_
  intro p e s m args below meth c A hA hx hb hml hr hts hown hlocks hE hK hP hD hS ls hl
  generalize hQ : qRW _ _ _ _ _ _ _ = Q
  have hl : lv_has ls 3 [(0, .ref (f 0)), (1, .int p1)] := hl
  have hiX4 : ∀ w ∈ wsX40, w ∈ wsX4_pass := fun w h => List.mem_cons_of_mem _ (List.mem_append_right _ h)
  have hw1 := hts (Cond.fieldLink RX4 101 "FloeToFloeModel" "minute" "I") (List.mem_of_getElem? (i := 1) rfl)
  rw [fX4_pass] at h
  refine lv_iload_n hx hb dX4_pass_0 rfl (lv_at hl 1 rfl) ?_
  refine lv_iconst (v := (1 : Int32)) hx hb dX4_pass_1 (by decide) ?_
  refine lv_bipush (v := (60 : Int32)) hx hb dX4_pass_2 (by decide) ?_
  obtain ⟨q4, e4, h⟩ := bd_some h
  refine g_roS (wc := ([] : va_W)) ⟨hx, hb, hml, hown, hts⟩ hE hK hP hS [] rfl (mX4_bound l dC dI cI cC sk  p1 (1 : Int32) (60 : Int32) q4 e4) (va_cwS 3 hts gX4_pass_X4_bound rfl rfl rfl (by decide +kernel) ⟨Nat.le_of_ble_eq_true rfl, Nat.le_of_ble_eq_true rfl⟩) (As := [.int p1, .int (1 : Int32), .int (60 : Int32)]) (rest := []) rfl hl.1 rfl (Nat.le_of_ble_eq_true rfl) dX4_pass_4 ⟨Nat.zero_le _, Nat.zero_le _⟩ (fun H locs hP hS => ?_)
  refine lv_istore_n (lv' := [(2, .int q4), (0, .ref (f 0)), (1, .int p1)]) hx hb dX4_pass_7 rfl hl (by decide) rfl (fun ls hl => ?_)
  refine lv_iload_n hx hb dX4_pass_8 rfl (lv_at hl 0 rfl) ?_
  refine jnW (fun (v26 : Int32) => ∀ (H : Heap) (locs : List Loc) (ls : Array Slot), va_P (dC, dI) vwCl (zwM cI cC f c_r c_refused c_tape c_letter c_letterAt c_number c_taped c_at c_statements c_kept c_hasImage c_isKeeping c_cursor c_poled c_barred c_leapsTo c_leapsThen c_lands c_row c_rowMany c_endsAt) H → va_D A (zwM cI cC f c_r c_refused c_tape c_letter c_letterAt c_number c_taped c_at c_statements c_kept c_hasImage c_isKeeping c_cursor c_poled c_barred c_leapsTo c_leapsThen c_lands c_row c_rowMany c_endsAt) → va_S A s.heap H locs → lv_has ls 3 [(0, .ref (f 0)), (1, .int p1), (2, .int v26)] → W p l e (RMk 1 22) s m args below meth c H locs 0 0 Q (F0 m 26 ls [])) h (fun v26 h H locs ls hP hD hS hl => ?_) (fun J26 j26 h => ?_)
  · refine lv_iload_n hx hb dX4_pass_26 rfl (lv_at hl 2 rfl) ?_
    refine lv_if_eq (tgt := 36) hx hb dX4_pass_27 (by decide) (fun c27 => ?_) (fun c27 => ?_)
    · have h := itT c27 h
      refine lv_aload_n hx hb dX4_pass_36 rfl (lv_at hl 0 rfl) ?_
      refine lv_dup hx hb dX4_pass_37 rfl ?_
      refine va_get (D := (dC, dI)) (ci := 4) (v := .int (R_minute c_r)) (C := RX4) (T := TX4) (N := 28) hx hb hts hiX4 hown hK hP 0 rfl rfl 8 (by decide) hw1 (fun _ h9 => h9) rfl dX4_pass_38 ?_
      refine lv_iload_n hx hb dX4_pass_41 rfl (lv_at hl 1 rfl) ?_
      refine lv_iadd hx hb dX4_pass_42 ?_
      refine va_put (D := (dC, dI)) (ci := 4) (v := .int ((R_minute c_r) + p1)) (ty := .int) (C := RX4) (T := TX4) (N := 28) hx hb hts hiX4 tyX4 tyX4_ok nmX4 hown hK hP hD hS 0 rfl rfl 8 (by decide) hw1 (fun _ h9 => h9) rfl (by decide +kernel) rfl rfl (Nat.le_of_ble_eq_true rfl) dX4_pass_43 (fun H locs hP hD hS => ?_)
      have hP : va_P (dC, dI) vwCl (zwM cI cC f (R_setMinute c_r ((R_minute c_r) + p1)) c_refused c_tape c_letter c_letterAt c_number c_taped c_at c_statements c_kept c_hasImage c_isKeeping c_cursor c_poled c_barred c_leapsTo c_leapsThen c_lands c_row c_rowMany c_endsAt) H := hP
      have hD : va_D A (zwM cI cC f (R_setMinute c_r ((R_minute c_r) + p1)) c_refused c_tape c_letter c_letterAt c_number c_taped c_at c_statements c_kept c_hasImage c_isKeeping c_cursor c_poled c_barred c_leapsTo c_leapsThen c_lands c_row c_rowMany c_endsAt) := hD
      refine lv_aload_n hx hb dX4_pass_46 rfl (lv_at hl 0 rfl) ?_
      refine va_get (D := (dC, dI)) (ci := 4) (v := .int (R_minute (R_setMinute c_r ((R_minute c_r) + p1)))) (C := RX4) (T := TX4) (N := 28) hx hb hts hiX4 hown hK hP 0 rfl rfl 8 (by decide) hw1 (fun _ h9 => h9) rfl dX4_pass_47 ?_
      subst hQ
      exact retRW (zz := (((R_minute (R_setMinute c_r ((R_minute c_r) + p1))), (R_setMinute c_r ((R_minute c_r) + p1)), c_refused) : Int32 × RT × AR)) (fun z => z.1) (fun z => (zwM cI cC f z.2.1 z.2.2 c_tape c_letter c_letterAt c_number c_taped c_at c_statements c_kept c_hasImage c_isKeeping c_cursor c_poled c_barred c_leapsTo c_leapsThen c_lands c_row c_rowMany c_endsAt)) hx hb hr hlocks rfl hS h rfl hP dX4_pass_50
    have h := itF c27 h
    refine lv_aload_n hx hb dX4_pass_30 rfl (lv_at hl 0 rfl) ?_
    refine lv_iload_n hx hb dX4_pass_31 rfl (lv_at hl 2 rfl) ?_
    obtain ⟨q32, e32, h⟩ := bd_some h
    refine g_rwA (wc := (zwM cI cC f c_r c_refused c_tape c_letter c_letterAt c_number c_taped c_at c_statements c_kept c_hasImage c_isKeeping c_cursor c_poled c_barred c_leapsTo c_leapsThen c_lands c_row c_rowMany c_endsAt)) (wc' := (zwM cI cC f c_r q32.2 c_tape c_letter c_letterAt c_number c_taped c_at c_statements c_kept c_hasImage c_isKeeping c_cursor c_poled c_barred c_leapsTo c_leapsThen c_lands c_row c_rowMany c_endsAt)) ⟨hx, hb, hml, hown, hts⟩ hE hK hA hP hD hS rfl (mX4_no l dC dI cI cC sk f H.size v26 c_r c_refused c_tape c_letter c_letterAt c_number c_taped c_at c_statements c_kept c_hasImage c_isKeeping c_cursor c_poled c_barred c_leapsTo c_leapsThen c_lands c_row c_rowMany c_endsAt q32 e32) (cwV 1 hts gX4_pass_X4_no rfl rfl rfl (by decide +kernel) ⟨Nat.le_of_ble_eq_true rfl, Nat.le_of_ble_eq_true rfl⟩) (va_recv hK hP (ci := 4) (q0 := 0) rfl rfl) (As := [.int v26]) (rest := []) rfl hl.1 rfl (Nat.le_of_ble_eq_true rfl) dX4_pass_32 ⟨Nat.zero_le _, Nat.zero_le _⟩ (fun H locs hP hD hS => ?_)
    have hP : va_P (dC, dI) vwCl (zwM cI cC f c_r q32.2 c_tape c_letter c_letterAt c_number c_taped c_at c_statements c_kept c_hasImage c_isKeeping c_cursor c_poled c_barred c_leapsTo c_leapsThen c_lands c_row c_rowMany c_endsAt) H := hP
    have hD : va_D A (zwM cI cC f c_r q32.2 c_tape c_letter c_letterAt c_number c_taped c_at c_statements c_kept c_hasImage c_isKeeping c_cursor c_poled c_barred c_leapsTo c_leapsThen c_lands c_row c_rowMany c_endsAt) := hD
    subst hQ
    exact retRW (zz := ((q32.1, c_r, q32.2) : Int32 × RT × AR)) (fun z => z.1) (fun z => (zwM cI cC f z.2.1 z.2.2 c_tape c_letter c_letterAt c_number c_taped c_at c_statements c_kept c_hasImage c_isKeeping c_cursor c_poled c_barred c_leapsTo c_leapsThen c_lands c_row c_rowMany c_endsAt)) hx hb hr hlocks rfl hS h rfl hP dX4_pass_35
  refine lv_if_ne (tgt := 26) hx hb dX4_pass_9 (by decide) (fun c9 => ?_) (fun c9 => ?_)
  · have h := itF c9 h
    exact j26 _ h _ _ _ hP hD hS (lv_sub hl [1, 2, 0] rfl)
  have h := itT c9 h
  refine lv_aload_n hx hb dX4_pass_12 rfl (lv_at hl 1 rfl) ?_
  refine va_get (D := (dC, dI)) (ci := 4) (v := .int (R_minute c_r)) (C := RX4) (T := TX4) (N := 28) hx hb hts hiX4 hown hK hP 0 rfl rfl 8 (by decide) hw1 (fun _ h9 => h9) rfl dX4_pass_13 ?_
  refine lv_iload_n hx hb dX4_pass_16 rfl (lv_at hl 2 rfl) ?_
  refine lv_iadd hx hb dX4_pass_17 ?_
  refine lv_bipush (v := (60 : Int32)) hx hb dX4_pass_18 (by decide) ?_
  refine lv_icmp_le (tgt := 26) hx hb dX4_pass_20 (by decide) (fun c20 => ?_) (fun c20 => ?_)
  · have h := itT c20 h
    exact j26 _ h _ _ _ hP hD hS (lv_sub hl [1, 2, 0] rfl)
  have h := itF c20 h
  refine lv_bipush (v := (-6 : Int32)) hx hb dX4_pass_23 (by decide) ?_
  refine lv_istore_n (lv' := [(2, .int (-6 : Int32)), (0, .ref (f 0)), (1, .int p1)]) hx hb dX4_pass_25 rfl hl (by decide) rfl (fun ls hl => ?_)
  exact j26 _ h _ _ _ hP hD hS (lv_sub hl [1, 2, 0] rfl)
theorem dX4_isNear_0 : decode cX4_isNear 0 = .ok (.iload_n 0, 1) := by decide +kernel
theorem dX4_isNear_1 : decode cX4_isNear 1 = .ok (.iload_n 1, 1) := by decide +kernel
theorem dX4_isNear_2 : decode cX4_isNear 2 = .ok (.isub, 1) := by decide +kernel
theorem dX4_isNear_3 : decode cX4_isNear 3 = .ok (.invokestatic 138, 3) := by decide +kernel
theorem dX4_isNear_6 : decode cX4_isNear 6 = .ok (.iconst 2, 1) := by decide +kernel
theorem dX4_isNear_7 : decode cX4_isNear 7 = .ok (.if_icmp .lt 13, 3) := by decide +kernel
theorem dX4_isNear_10 : decode cX4_isNear 10 = .ok (.iload_n 1, 1) := by decide +kernel
theorem dX4_isNear_11 : decode cX4_isNear 11 = .ok (.iload_n 0, 1) := by decide +kernel
theorem dX4_isNear_12 : decode cX4_isNear 12 = .ok (.isub, 1) := by decide +kernel
theorem dX4_isNear_13 : decode cX4_isNear 13 = .ok (.invokestatic 138, 3) := by decide +kernel
theorem dX4_isNear_16 : decode cX4_isNear 16 = .ok (.iconst 2, 1) := by decide +kernel
theorem dX4_isNear_17 : decode cX4_isNear 17 = .ok (.if_icmp .ge 7, 3) := by decide +kernel
theorem dX4_isNear_20 : decode cX4_isNear 20 = .ok (.iconst 1, 1) := by decide +kernel
theorem dX4_isNear_21 : decode cX4_isNear 21 = .ok (.goto 4, 3) := by decide +kernel
theorem dX4_isNear_24 : decode cX4_isNear 24 = .ok (.iconst 0, 1) := by decide +kernel
theorem dX4_isNear_25 : decode cX4_isNear 25 = .ok (.ireturn, 1) := by decide +kernel
set_option maxRecDepth 20000 in
theorem ggX4_isNear_X4_round : GoodIn wsX4_isNear wsX4_round := goodIn_r _ [4] (by decide +kernel) (by decide +kernel)
set_option maxRecDepth 20000 in
theorem gX4_isNear_X4_round : GoodIn wsX4_isNear (va_wsS RX4 138 yX4_round wsX4_round) := goodIn_app (goodIn_of _ (by decide +kernel)) ggX4_isNear_X4_round
set_option maxHeartbeats 4000000 in
set_option maxRecDepth 100000 in
theorem mX4_isNear (l : Launch) (dC : Nat → ClassId) (dI : Nat → Nat → Nat) (cI cC : ClassId) (sk : (Nat → Nat) × (Nat → Nat))  (p0 : Int32) (p1 : Int32)  (z : Int32) (h : fX4_isNear p0 p1 = some z) : cRO l yX4_isNear wsX4_isNear (RMk 1 20) sk (dC, dI) (tyz cI cC) ([] : va_W) [.int p0, .int p1] z := by
  refine ofRO (cc := cX4_isNear) (maxL := 2) (ret := (some .boolean)) (own := RX4) (plainFor_of_name (by decide)) rfl rfl (Nat.le_of_ble_eq_true rfl) ?_
  intro p e s m args below meth c hx hb hml hr hts hown hlocks hE hK hP hS ls hl
  generalize hQ : qRO _ _ _ _ = Q
  have hl : lv_has ls 2 [(0, .int p0), (1, .int p1)] := hl
  rw [fX4_isNear] at h
  refine lv_iload_n hx hb dX4_isNear_0 rfl (lv_at hl 0 rfl) ?_
  refine lv_iload_n hx hb dX4_isNear_1 rfl (lv_at hl 1 rfl) ?_
  refine lv_isub hx hb dX4_isNear_2 ?_
  obtain ⟨q3, e3, h⟩ := bd_some h
  refine g_roS (wc := ([] : va_W)) ⟨hx, hb, hml, hown, hts⟩ hE hK hP hS [] rfl (mX4_round l dC dI cI cC sk  (p0 - p1) q3 e3) (va_cwS 1 hts gX4_isNear_X4_round rfl rfl rfl (by decide +kernel) ⟨Nat.le_of_ble_eq_true rfl, Nat.le_of_ble_eq_true rfl⟩) (As := [.int (p0 - p1)]) (rest := []) rfl hl.1 rfl (Nat.le_of_ble_eq_true rfl) dX4_isNear_3 ⟨Nat.zero_le _, Nat.zero_le _⟩ (fun H locs hP hS => ?_)
  refine lv_iconst (v := (2 : Int32)) hx hb dX4_isNear_6 (by decide) ?_
  refine lv_icmp_lt (tgt := 20) hx hb dX4_isNear_7 (by decide) (fun c7 => ?_) (fun c7 => ?_)
  · have h := itT c7 h
    refine lv_iconst (v := (1 : Int32)) hx hb dX4_isNear_20 (by decide) ?_
    refine lv_goto (tgt := 25) hx hb dX4_isNear_21 (by decide) ?_
    subst hQ
    exact retRO hx hb hr hlocks rfl hS h dX4_isNear_25
  have h := itF c7 h
  refine lv_iload_n hx hb dX4_isNear_10 rfl (lv_at hl 1 rfl) ?_
  refine lv_iload_n hx hb dX4_isNear_11 rfl (lv_at hl 0 rfl) ?_
  refine lv_isub hx hb dX4_isNear_12 ?_
  obtain ⟨q13, e13, h⟩ := bd_some h
  refine g_roS (wc := ([] : va_W)) ⟨hx, hb, hml, hown, hts⟩ hE hK hP hS [] rfl (mX4_round l dC dI cI cC sk  (p1 - p0) q13 e13) (va_cwS 1 hts gX4_isNear_X4_round rfl rfl rfl (by decide +kernel) ⟨Nat.le_of_ble_eq_true rfl, Nat.le_of_ble_eq_true rfl⟩) (As := [.int (p1 - p0)]) (rest := []) rfl hl.1 rfl (Nat.le_of_ble_eq_true rfl) dX4_isNear_13 ⟨Nat.zero_le _, Nat.zero_le _⟩ (fun H locs hP hS => ?_)
  refine lv_iconst (v := (2 : Int32)) hx hb dX4_isNear_16 (by decide) ?_
  refine lv_icmp_ge (tgt := 24) hx hb dX4_isNear_17 (by decide) (fun c17 => ?_) (fun c17 => ?_)
  · have h := itT c17 h
    refine lv_iconst (v := (0 : Int32)) hx hb dX4_isNear_24 (by decide) ?_
    subst hQ
    exact retRO hx hb hr hlocks rfl hS h dX4_isNear_25
  have h := itF c17 h
  refine lv_iconst (v := (1 : Int32)) hx hb dX4_isNear_20 (by decide) ?_
  refine lv_goto (tgt := 25) hx hb dX4_isNear_21 (by decide) ?_
  subst hQ
  exact retRO hx hb hr hlocks rfl hS h dX4_isNear_25
