theorem dX4_doesBear_0 : decode cX4_doesBear 0 = .ok (.aload_n 0, 1) := by decide +kernel
theorem dX4_doesBear_1 : decode cX4_doesBear 1 = .ok (.getfield 157, 3) := by decide +kernel
theorem dX4_doesBear_4 : decode cX4_doesBear 4 = .ok (.iload_n 1, 1) := by decide +kernel
theorem dX4_doesBear_5 : decode cX4_doesBear 5 = .ok (.ishr, 1) := by decide +kernel
theorem dX4_doesBear_6 : decode cX4_doesBear 6 = .ok (.iconst 1, 1) := by decide +kernel
theorem dX4_doesBear_7 : decode cX4_doesBear 7 = .ok (.iand, 1) := by decide +kernel
theorem dX4_doesBear_8 : decode cX4_doesBear 8 = .ok (.ifCond .ne 29, 3) := by decide +kernel
theorem dX4_doesBear_11 : decode cX4_doesBear 11 = .ok (.aload_n 0, 1) := by decide +kernel
theorem dX4_doesBear_12 : decode cX4_doesBear 12 = .ok (.iload_n 1, 1) := by decide +kernel
theorem dX4_doesBear_13 : decode cX4_doesBear 13 = .ok (.iload_n 3, 1) := by decide +kernel
theorem dX4_doesBear_14 : decode cX4_doesBear 14 = .ok (.invokevirtual 148, 3) := by decide +kernel
theorem dX4_doesBear_17 : decode cX4_doesBear 17 = .ok (.iload_n 2, 1) := by decide +kernel
theorem dX4_doesBear_18 : decode cX4_doesBear 18 = .ok (.if_icmp .lt 19, 3) := by decide +kernel
theorem dX4_doesBear_21 : decode cX4_doesBear 21 = .ok (.aload_n 0, 1) := by decide +kernel
theorem dX4_doesBear_22 : decode cX4_doesBear 22 = .ok (.iload_n 1, 1) := by decide +kernel
theorem dX4_doesBear_23 : decode cX4_doesBear 23 = .ok (.iload_n 3, 1) := by decide +kernel
theorem dX4_doesBear_24 : decode cX4_doesBear 24 = .ok (.iconst 1, 1) := by decide +kernel
theorem dX4_doesBear_25 : decode cX4_doesBear 25 = .ok (.iadd, 1) := by decide +kernel
theorem dX4_doesBear_26 : decode cX4_doesBear 26 = .ok (.invokevirtual 148, 3) := by decide +kernel
theorem dX4_doesBear_29 : decode cX4_doesBear 29 = .ok (.iload_n 2, 1) := by decide +kernel
theorem dX4_doesBear_30 : decode cX4_doesBear 30 = .ok (.if_icmp .lt 7, 3) := by decide +kernel
theorem dX4_doesBear_33 : decode cX4_doesBear 33 = .ok (.iconst 1, 1) := by decide +kernel
theorem dX4_doesBear_34 : decode cX4_doesBear 34 = .ok (.goto 4, 3) := by decide +kernel
theorem dX4_doesBear_37 : decode cX4_doesBear 37 = .ok (.iconst 0, 1) := by decide +kernel
theorem dX4_doesBear_38 : decode cX4_doesBear 38 = .ok (.ireturn, 1) := by decide +kernel
set_option maxRecDepth 20000 in
theorem ggX4_doesBear_X4_bearsIn : GoodIn wsX4_doesBear wsX4_bearsIn := goodIn_r _ [6, 7, 8, 9, 10, 11, 12, 13, 14, 15, 16, 17, 18, 19, 20, 21, 22, 23, 24, 25, 26, 27, 28, 29, 30, 31, 32, 33, 34, 35, 36] (by decide +kernel) (by decide +kernel)
set_option maxRecDepth 20000 in
theorem gX4_doesBear_X4_bearsIn : GoodIn wsX4_doesBear (wsV RX4 148 RX4 yX4_bearsIn wsX4_bearsIn) := goodIn_app (goodIn_of _ (by decide +kernel)) ggX4_doesBear_X4_bearsIn
set_option maxHeartbeats 4000000 in
set_option maxRecDepth 100000 in
theorem mX4_doesBear (l : Launch) (dC : Nat → ClassId) (dI : Nat → Nat → Nat) (cI cC : ClassId) (sk : (Nat → Nat) × (Nat → Nat)) (f : Nat → Nat) (p1 : Int32) (p2 : Int32) (p3 : Int32) (c_r : RT) (c_refused : AR) (c_tape : AR) (c_letter : AR) (c_letterAt : AR) (c_number : AR) (c_taped : Int32) (c_at : Int32) (c_statements : Int32) (c_kept : AR) (c_hasImage : Int32) (c_isKeeping : Int32) (c_cursor : Int32) (c_poled : Int32) (c_barred : Int32) (c_leapsTo : AR) (c_leapsThen : AR) (c_lands : AR) (c_row : AR) (c_rowMany : Int32) (c_endsAt : Int32) (z : Int32) (h : fX4_doesBear p1 p2 p3 c_r c_barred = some z) : cRO l yX4_doesBear wsX4_doesBear (RMk 1 23) sk (dC, dI) (tyz cI cC) (zwM cI cC f c_r c_refused c_tape c_letter c_letterAt c_number c_taped c_at c_statements c_kept c_hasImage c_isKeeping c_cursor c_poled c_barred c_leapsTo c_leapsThen c_lands c_row c_rowMany c_endsAt) [.ref (f 0), .int p1, .int p2, .int p3] z := by
  refine ofRO (cc := cX4_doesBear) (maxL := 4) (ret := (some .boolean)) (own := RX4) (plainFor_of_name (by decide)) rfl rfl (Nat.le_of_ble_eq_true rfl) ?_
  intro p e s m args below meth c hx hb hml hr hts hown hlocks hE hK hP hS ls hl
  generalize hQ : qRO _ _ _ _ = Q
  have hl : lv_has ls 4 [(0, .ref (f 0)), (1, .int p1), (2, .int p2), (3, .int p3)] := hl
  have hiX4 : ∀ w ∈ wsX40, w ∈ wsX4_doesBear := fun w h => List.mem_cons_of_mem _ (List.mem_append_right _ h)
  have hw1 := hts (Cond.fieldLink RX4 157 "FloeToFloeModel" "barred" "I") (List.mem_of_getElem? (i := 1) rfl)
  rw [fX4_doesBear] at h
  refine lv_aload_n hx hb dX4_doesBear_0 rfl (lv_at hl 0 rfl) ?_
  refine va_get (D := (dC, dI)) (ci := 4) (v := .int c_barred) (C := RX4) (T := TX4) (N := 28) hx hb hts hiX4 hown hK hP 0 rfl rfl 21 (by decide) hw1 (fun _ h9 => h9) rfl dX4_doesBear_1 ?_
  refine lv_iload_n hx hb dX4_doesBear_4 rfl (lv_at hl 1 rfl) ?_
  refine lv_ishr hx hb dX4_doesBear_5 ?_
  refine lv_iconst (v := (1 : Int32)) hx hb dX4_doesBear_6 (by decide) ?_
  refine lv_iand hx hb dX4_doesBear_7 ?_
  refine lv_if_ne (tgt := 37) hx hb dX4_doesBear_8 (by decide) (fun c8 => ?_) (fun c8 => ?_)
  · have h := itF c8 h
    refine lv_iconst (v := (0 : Int32)) hx hb dX4_doesBear_37 (by decide) ?_
    subst hQ
    exact retRO hx hb hr hlocks rfl hS h dX4_doesBear_38
  have h := itT c8 h
  refine lv_aload_n hx hb dX4_doesBear_11 rfl (lv_at hl 0 rfl) ?_
  refine lv_iload_n hx hb dX4_doesBear_12 rfl (lv_at hl 1 rfl) ?_
  refine lv_iload_n hx hb dX4_doesBear_13 rfl (lv_at hl 3 rfl) ?_
  obtain ⟨q14, e14, h⟩ := bd_some h
  refine g_roV (wc := (zwM cI cC f c_r c_refused c_tape c_letter c_letterAt c_number c_taped c_at c_statements c_kept c_hasImage c_isKeeping c_cursor c_poled c_barred c_leapsTo c_leapsThen c_lands c_row c_rowMany c_endsAt)) ⟨hx, hb, hml, hown, hts⟩ hE hK hP hS [0, 1, 2, 3, 4, 5, 6, 7, 8, 9, 10, 11, 12, 13, 14, 15] rfl (mX4_bearsIn l dC dI cI cC sk f p1 p3 c_r c_refused c_tape c_letter c_letterAt c_number c_taped c_at c_statements c_kept c_hasImage c_isKeeping c_cursor c_poled c_barred c_leapsTo c_leapsThen c_lands c_row c_rowMany c_endsAt q14 e14) (cwV 2 hts gX4_doesBear_X4_bearsIn rfl rfl rfl (by decide +kernel) ⟨Nat.le_of_ble_eq_true rfl, Nat.le_of_ble_eq_true rfl⟩) (va_recv hK hP (ci := 4) (q0 := 0) rfl rfl) (As := [.int p1, .int p3]) (rest := []) rfl hl.1 rfl (Nat.le_of_ble_eq_true rfl) dX4_doesBear_14 ⟨Nat.zero_le _, Nat.zero_le _⟩ (fun H locs hP hS => ?_)
  refine lv_iload_n hx hb dX4_doesBear_17 rfl (lv_at hl 2 rfl) ?_
  refine lv_icmp_lt (tgt := 37) hx hb dX4_doesBear_18 (by decide) (fun c18 => ?_) (fun c18 => ?_)
  · have h := itT c18 h
    refine lv_iconst (v := (0 : Int32)) hx hb dX4_doesBear_37 (by decide) ?_
    subst hQ
    exact retRO hx hb hr hlocks rfl hS h dX4_doesBear_38
  have h := itF c18 h
  refine lv_aload_n hx hb dX4_doesBear_21 rfl (lv_at hl 0 rfl) ?_
  refine lv_iload_n hx hb dX4_doesBear_22 rfl (lv_at hl 1 rfl) ?_
  refine lv_iload_n hx hb dX4_doesBear_23 rfl (lv_at hl 3 rfl) ?_
  refine lv_iconst (v := (1 : Int32)) hx hb dX4_doesBear_24 (by decide) ?_
  refine lv_iadd hx hb dX4_doesBear_25 ?_
  obtain ⟨q26, e26, h⟩ := bd_some h
  refine g_roV (wc := (zwM cI cC f c_r c_refused c_tape c_letter c_letterAt c_number c_taped c_at c_statements c_kept c_hasImage c_isKeeping c_cursor c_poled c_barred c_leapsTo c_leapsThen c_lands c_row c_rowMany c_endsAt)) ⟨hx, hb, hml, hown, hts⟩ hE hK hP hS [0, 1, 2, 3, 4, 5, 6, 7, 8, 9, 10, 11, 12, 13, 14, 15] rfl (mX4_bearsIn l dC dI cI cC sk f p1 (p3 + (1 : Int32)) c_r c_refused c_tape c_letter c_letterAt c_number c_taped c_at c_statements c_kept c_hasImage c_isKeeping c_cursor c_poled c_barred c_leapsTo c_leapsThen c_lands c_row c_rowMany c_endsAt q26 e26) (cwV 2 hts gX4_doesBear_X4_bearsIn rfl rfl rfl (by decide +kernel) ⟨Nat.le_of_ble_eq_true rfl, Nat.le_of_ble_eq_true rfl⟩) (va_recv hK hP (ci := 4) (q0 := 0) rfl rfl) (As := [.int p1, .int (p3 + (1 : Int32))]) (rest := []) rfl hl.1 rfl (Nat.le_of_ble_eq_true rfl) dX4_doesBear_26 ⟨Nat.zero_le _, Nat.zero_le _⟩ (fun H locs hP hS => ?_)
  refine lv_iload_n hx hb dX4_doesBear_29 rfl (lv_at hl 2 rfl) ?_
  refine lv_icmp_lt (tgt := 37) hx hb dX4_doesBear_30 (by decide) (fun c30 => ?_) (fun c30 => ?_)
  · have h := itT c30 h
    refine lv_iconst (v := (0 : Int32)) hx hb dX4_doesBear_37 (by decide) ?_
    subst hQ
    exact retRO hx hb hr hlocks rfl hS h dX4_doesBear_38
  have h := itF c30 h
  refine lv_iconst (v := (1 : Int32)) hx hb dX4_doesBear_33 (by decide) ?_
  refine lv_goto (tgt := 38) hx hb dX4_doesBear_34 (by decide) ?_
  subst hQ
  exact retRO hx hb hr hlocks rfl hS h dX4_doesBear_38
