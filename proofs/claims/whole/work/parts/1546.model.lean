theorem dX4_ends_0 : decode cX4_ends 0 = .ok (.iload_n 1, 1) := by decide +kernel
theorem dX4_ends_1 : decode cX4_ends 1 = .ok (.iload_n 2, 1) := by decide +kernel
theorem dX4_ends_2 : decode cX4_ends 2 = .ok (.invokestatic 176, 3) := by decide +kernel
theorem dX4_ends_5 : decode cX4_ends 5 = .ok (.istore_n 3, 1) := by decide +kernel
theorem dX4_ends_6 : decode cX4_ends 6 = .ok (.iload_n 3, 1) := by decide +kernel
theorem dX4_ends_7 : decode cX4_ends 7 = .ok (.ifCond .eq 9, 3) := by decide +kernel
theorem dX4_ends_10 : decode cX4_ends 10 = .ok (.aload_n 0, 1) := by decide +kernel
theorem dX4_ends_11 : decode cX4_ends 11 = .ok (.iload_n 3, 1) := by decide +kernel
theorem dX4_ends_12 : decode cX4_ends 12 = .ok (.invokevirtual 73, 3) := by decide +kernel
theorem dX4_ends_15 : decode cX4_ends 15 = .ok (.ireturn, 1) := by decide +kernel
theorem dX4_ends_16 : decode cX4_ends 16 = .ok (.aload_n 0, 1) := by decide +kernel
theorem dX4_ends_17 : decode cX4_ends 17 = .ok (.iload_n 1, 1) := by decide +kernel
theorem dX4_ends_18 : decode cX4_ends 18 = .ok (.iload_n 2, 1) := by decide +kernel
theorem dX4_ends_19 : decode cX4_ends 19 = .ok (.invokevirtual 224, 3) := by decide +kernel
theorem dX4_ends_22 : decode cX4_ends 22 = .ok (.pop, 1) := by decide +kernel
theorem dX4_ends_23 : decode cX4_ends 23 = .ok (.aload_n 0, 1) := by decide +kernel
theorem dX4_ends_24 : decode cX4_ends 24 = .ok (.getfield 218, 3) := by decide +kernel
theorem dX4_ends_27 : decode cX4_ends 27 = .ok (.bipush 18, 2) := by decide +kernel
theorem dX4_ends_29 : decode cX4_ends 29 = .ok (.if_icmp .ne 8, 3) := by decide +kernel
theorem dX4_ends_32 : decode cX4_ends 32 = .ok (.bipush 8, 2) := by decide +kernel
theorem dX4_ends_34 : decode cX4_ends 34 = .ok (.goto 29, 3) := by decide +kernel
theorem dX4_ends_37 : decode cX4_ends 37 = .ok (.aload_n 0, 1) := by decide +kernel
theorem dX4_ends_38 : decode cX4_ends 38 = .ok (.getfield 218, 3) := by decide +kernel
theorem dX4_ends_41 : decode cX4_ends 41 = .ok (.bipush 10, 2) := by decide +kernel
theorem dX4_ends_43 : decode cX4_ends 43 = .ok (.if_icmp .ge 13, 3) := by decide +kernel
theorem dX4_ends_46 : decode cX4_ends 46 = .ok (.bipush 10, 2) := by decide +kernel
theorem dX4_ends_48 : decode cX4_ends 48 = .ok (.aload_n 0, 1) := by decide +kernel
theorem dX4_ends_49 : decode cX4_ends 49 = .ok (.getfield 218, 3) := by decide +kernel
theorem dX4_ends_52 : decode cX4_ends 52 = .ok (.iadd, 1) := by decide +kernel
theorem dX4_ends_53 : decode cX4_ends 53 = .ok (.goto 10, 3) := by decide +kernel
theorem dX4_ends_56 : decode cX4_ends 56 = .ok (.aload_n 0, 1) := by decide +kernel
theorem dX4_ends_57 : decode cX4_ends 57 = .ok (.getfield 218, 3) := by decide +kernel
theorem dX4_ends_60 : decode cX4_ends 60 = .ok (.bipush 10, 2) := by decide +kernel
theorem dX4_ends_62 : decode cX4_ends 62 = .ok (.isub, 1) := by decide +kernel
theorem dX4_ends_63 : decode cX4_ends 63 = .ok (.ireturn, 1) := by decide +kernel
set_option maxRecDepth 20000 in
theorem ggX4_ends_X4_notLoad : GoodIn wsX4_ends wsX4_notLoad := goodIn_r _ [5, 6, 7, 4, 8, 9, 10, 11, 12, 13, 14] (by decide +kernel) (by decide +kernel)
set_option maxRecDepth 20000 in
theorem gX4_ends_X4_notLoad : GoodIn wsX4_ends (va_wsS RX4 176 yX4_notLoad wsX4_notLoad) := goodIn_app (goodIn_of _ (by decide +kernel)) ggX4_ends_X4_notLoad
set_option maxRecDepth 20000 in
theorem ggX4_ends_X4_no : GoodIn wsX4_ends wsX4_no := goodIn_r _ [18, 19, 73, 74, 75, 76, 77, 78, 79, 80, 81, 82, 83, 84, 85, 86, 87, 88, 89, 90, 91, 92, 93, 94, 95, 96, 97, 98, 99, 100] (by decide +kernel) (by decide +kernel)
set_option maxRecDepth 20000 in
theorem gX4_ends_X4_no : GoodIn wsX4_ends (wsV RX4 73 RX4 yX4_no wsX4_no) := goodIn_app (goodIn_of _ (by decide +kernel)) ggX4_ends_X4_no
set_option maxRecDepth 20000 in
theorem ggX4_ends_X4_firstWrong : GoodIn wsX4_ends wsX4_firstWrong := goodIn_r _ [23, 1, 24, 25, 26, 27, 28, 29, 4, 30, 31, 32, 33, 34, 35, 36, 37, 38, 39, 40, 41, 42, 43, 44, 45, 46, 47, 48, 49, 50, 51, 9, 10, 11, 52, 53, 54, 55, 56, 57, 58, 59, 60, 61, 62, 63, 64, 65, 66, 67, 68, 69, 70, 71, 72, 73, 74, 75, 76, 77, 78, 79, 80, 81, 82, 83, 84, 85, 86, 87, 88, 89, 90, 91, 92, 93, 94, 95, 96, 97, 98, 99, 100] (by decide +kernel) (by decide +kernel)
set_option maxRecDepth 20000 in
theorem gX4_ends_X4_firstWrong : GoodIn wsX4_ends (wsV RX4 224 RX4 yX4_firstWrong wsX4_firstWrong) := goodIn_app (goodIn_of _ (by decide +kernel)) ggX4_ends_X4_firstWrong
set_option maxHeartbeats 4000000 in
set_option maxRecDepth 100000 in
theorem mX4_ends (l : Launch) (dC : Nat → ClassId) (dI : Nat → Nat → Nat) (cI cC : ClassId) (sk : (Nat → Nat) × (Nat → Nat)) (f : Nat → Nat) (sz : Nat) (p1 : Int32) (p2 : Int32) (c_r : RT) (c_refused : AR) (c_tape : AR) (c_letter : AR) (c_letterAt : AR) (c_number : AR) (c_taped : Int32) (c_at : Int32) (c_statements : Int32) (c_kept : AR) (c_hasImage : Int32) (c_isKeeping : Int32) (c_cursor : Int32) (c_poled : Int32) (c_barred : Int32) (c_leapsTo : AR) (c_leapsThen : AR) (c_lands : AR) (c_row : AR) (c_rowMany : Int32) (c_endsAt : Int32) (z : Int32 × AR × Int32) (h : fX4_ends p1 p2 c_r c_refused c_poled c_barred c_row c_rowMany c_endsAt = some z) : cRW l yX4_ends wsX4_ends (RMk 6 141) sk (dC, dI) (tyz cI cC) sz (zwM cI cC f c_r c_refused c_tape c_letter c_letterAt c_number c_taped c_at c_statements c_kept c_hasImage c_isKeeping c_cursor c_poled c_barred c_leapsTo c_leapsThen c_lands c_row c_rowMany c_endsAt) (zwM cI cC f c_r z.2.1 c_tape c_letter c_letterAt c_number c_taped c_at c_statements c_kept c_hasImage c_isKeeping c_cursor c_poled c_barred c_leapsTo c_leapsThen c_lands c_row c_rowMany z.2.2) [.ref (f 0), .int p1, .int p2] z.1 := by
  refine ofRW (cc := cX4_ends) (maxL := 4) (ret := (some .int)) (own := RX4) (plainFor_of_name (by decide)) rfl rfl (Nat.le_of_ble_eq_true rfl) ?_
  intro p e s m args below meth c A hA hx hb hml hr hts hown hlocks hE hK hP hD hS ls hl
  generalize hQ : qRW _ _ _ _ _ _ _ = Q
  have hl : lv_has ls 4 [(0, .ref (f 0)), (1, .int p1), (2, .int p2)] := hl
  have hiX4 : ∀ w ∈ wsX40, w ∈ wsX4_ends := fun w h => List.mem_cons_of_mem _ (List.mem_append_right _ h)
  have hw1 := hts (Cond.fieldLink RX4 218 "FloeToFloeModel" "endsAt" "I") (List.mem_of_getElem? (i := 1) rfl)
  rw [fX4_ends] at h
  refine lv_iload_n hx hb dX4_ends_0 rfl (lv_at hl 1 rfl) ?_
  refine lv_iload_n hx hb dX4_ends_1 rfl (lv_at hl 2 rfl) ?_
  obtain ⟨q2, e2, h⟩ := bd_some h
  refine g_roS (wc := ([] : va_W)) ⟨hx, hb, hml, hown, hts⟩ hE hK hP hS [] rfl (mX4_notLoad l dC dI cI cC sk  p1 p2 q2 e2) (va_cwS 2 hts gX4_ends_X4_notLoad rfl rfl rfl (by decide +kernel) ⟨Nat.le_of_ble_eq_true rfl, Nat.le_of_ble_eq_true rfl⟩) (As := [.int p1, .int p2]) (rest := []) rfl hl.1 rfl (Nat.le_of_ble_eq_true rfl) dX4_ends_2 ⟨Nat.zero_le _, Nat.zero_le _⟩ (fun H locs hP hS => ?_)
  refine lv_istore_n (lv' := [(3, .int q2), (0, .ref (f 0)), (1, .int p1), (2, .int p2)]) hx hb dX4_ends_5 rfl hl (by decide) rfl (fun ls hl => ?_)
  refine lv_iload_n hx hb dX4_ends_6 rfl (lv_at hl 0 rfl) ?_
  refine lv_if_eq (tgt := 16) hx hb dX4_ends_7 (by decide) (fun c7 => ?_) (fun c7 => ?_)
  · have h := itT c7 h
    refine lv_aload_n hx hb dX4_ends_16 rfl (lv_at hl 1 rfl) ?_
    refine lv_iload_n hx hb dX4_ends_17 rfl (lv_at hl 2 rfl) ?_
    refine lv_iload_n hx hb dX4_ends_18 rfl (lv_at hl 3 rfl) ?_
    obtain ⟨q19, e19, h⟩ := bd_some h
    refine g_rwA (wc := (zwM cI cC f c_r c_refused c_tape c_letter c_letterAt c_number c_taped c_at c_statements c_kept c_hasImage c_isKeeping c_cursor c_poled c_barred c_leapsTo c_leapsThen c_lands c_row c_rowMany c_endsAt)) (wc' := (zwM cI cC f c_r c_refused c_tape c_letter c_letterAt c_number c_taped c_at c_statements c_kept c_hasImage c_isKeeping c_cursor c_poled c_barred c_leapsTo c_leapsThen c_lands c_row c_rowMany q19.2)) ⟨hx, hb, hml, hown, hts⟩ hE hK hA hP hD hS rfl (mX4_firstWrong l dC dI cI cC sk f H.size p1 p2 c_r c_refused c_tape c_letter c_letterAt c_number c_taped c_at c_statements c_kept c_hasImage c_isKeeping c_cursor c_poled c_barred c_leapsTo c_leapsThen c_lands c_row c_rowMany c_endsAt q19 e19) (cwV 2 hts gX4_ends_X4_firstWrong rfl rfl rfl (by decide +kernel) ⟨Nat.le_of_ble_eq_true rfl, Nat.le_of_ble_eq_true rfl⟩) (va_recv hK hP (ci := 4) (q0 := 0) rfl rfl) (As := [.int p1, .int p2]) (rest := []) rfl hl.1 rfl (Nat.le_of_ble_eq_true rfl) dX4_ends_19 ⟨Nat.zero_le _, Nat.zero_le _⟩ (fun H locs hP hD hS => ?_)
    have hP : va_P (dC, dI) vwCl (zwM cI cC f c_r c_refused c_tape c_letter c_letterAt c_number c_taped c_at c_statements c_kept c_hasImage c_isKeeping c_cursor c_poled c_barred c_leapsTo c_leapsThen c_lands c_row c_rowMany q19.2) H := hP
    have hD : va_D A (zwM cI cC f c_r c_refused c_tape c_letter c_letterAt c_number c_taped c_at c_statements c_kept c_hasImage c_isKeeping c_cursor c_poled c_barred c_leapsTo c_leapsThen c_lands c_row c_rowMany q19.2) := hD
    refine lv_pop hx hb dX4_ends_22 rfl ?_
    refine lv_aload_n hx hb dX4_ends_23 rfl (lv_at hl 1 rfl) ?_
    refine va_get (D := (dC, dI)) (ci := 4) (v := .int q19.2) (C := RX4) (T := TX4) (N := 28) hx hb hts hiX4 hown hK hP 0 rfl rfl 27 (by decide) hw1 (fun _ h9 => h9) rfl dX4_ends_24 ?_
    refine lv_bipush (v := (18 : Int32)) hx hb dX4_ends_27 (by decide) ?_
    refine lv_icmp_ne (tgt := 37) hx hb dX4_ends_29 (by decide) (fun c29 => ?_) (fun c29 => ?_)
    · have h := itF c29 h
      refine lv_aload_n hx hb dX4_ends_37 rfl (lv_at hl 1 rfl) ?_
      refine va_get (D := (dC, dI)) (ci := 4) (v := .int q19.2) (C := RX4) (T := TX4) (N := 28) hx hb hts hiX4 hown hK hP 0 rfl rfl 27 (by decide) hw1 (fun _ h9 => h9) rfl dX4_ends_38 ?_
      refine lv_bipush (v := (10 : Int32)) hx hb dX4_ends_41 (by decide) ?_
      refine lv_icmp_ge (tgt := 56) hx hb dX4_ends_43 (by decide) (fun c43 => ?_) (fun c43 => ?_)
      · have h := itT c43 h
        refine lv_aload_n hx hb dX4_ends_56 rfl (lv_at hl 1 rfl) ?_
        refine va_get (D := (dC, dI)) (ci := 4) (v := .int q19.2) (C := RX4) (T := TX4) (N := 28) hx hb hts hiX4 hown hK hP 0 rfl rfl 27 (by decide) hw1 (fun _ h9 => h9) rfl dX4_ends_57 ?_
        refine lv_bipush (v := (10 : Int32)) hx hb dX4_ends_60 (by decide) ?_
        refine lv_isub hx hb dX4_ends_62 ?_
        subst hQ
        exact retRW (zz := (((q19.2 - (10 : Int32)), c_refused, q19.2) : Int32 × AR × Int32)) (fun z => z.1) (fun z => (zwM cI cC f c_r z.2.1 c_tape c_letter c_letterAt c_number c_taped c_at c_statements c_kept c_hasImage c_isKeeping c_cursor c_poled c_barred c_leapsTo c_leapsThen c_lands c_row c_rowMany z.2.2)) hx hb hr hlocks rfl hS h rfl hP dX4_ends_63
      have h := itF c43 h
      refine lv_bipush (v := (10 : Int32)) hx hb dX4_ends_46 (by decide) ?_
      refine lv_aload_n hx hb dX4_ends_48 rfl (lv_at hl 1 rfl) ?_
      refine va_get (D := (dC, dI)) (ci := 4) (v := .int q19.2) (C := RX4) (T := TX4) (N := 28) hx hb hts hiX4 hown hK hP 0 rfl rfl 27 (by decide) hw1 (fun _ h9 => h9) rfl dX4_ends_49 ?_
      refine lv_iadd hx hb dX4_ends_52 ?_
      refine lv_goto (tgt := 63) hx hb dX4_ends_53 (by decide) ?_
      subst hQ
      exact retRW (zz := ((((10 : Int32) + q19.2), c_refused, q19.2) : Int32 × AR × Int32)) (fun z => z.1) (fun z => (zwM cI cC f c_r z.2.1 c_tape c_letter c_letterAt c_number c_taped c_at c_statements c_kept c_hasImage c_isKeeping c_cursor c_poled c_barred c_leapsTo c_leapsThen c_lands c_row c_rowMany z.2.2)) hx hb hr hlocks rfl hS h rfl hP dX4_ends_63
    have h := itT c29 h
    refine lv_bipush (v := (8 : Int32)) hx hb dX4_ends_32 (by decide) ?_
    refine lv_goto (tgt := 63) hx hb dX4_ends_34 (by decide) ?_
    subst hQ
    exact retRW (zz := (((8 : Int32), c_refused, q19.2) : Int32 × AR × Int32)) (fun z => z.1) (fun z => (zwM cI cC f c_r z.2.1 c_tape c_letter c_letterAt c_number c_taped c_at c_statements c_kept c_hasImage c_isKeeping c_cursor c_poled c_barred c_leapsTo c_leapsThen c_lands c_row c_rowMany z.2.2)) hx hb hr hlocks rfl hS h rfl hP dX4_ends_63
  have h := itF c7 h
  refine lv_aload_n hx hb dX4_ends_10 rfl (lv_at hl 1 rfl) ?_
  refine lv_iload_n hx hb dX4_ends_11 rfl (lv_at hl 0 rfl) ?_
  obtain ⟨q12, e12, h⟩ := bd_some h
  refine g_rwA (wc := (zwM cI cC f c_r c_refused c_tape c_letter c_letterAt c_number c_taped c_at c_statements c_kept c_hasImage c_isKeeping c_cursor c_poled c_barred c_leapsTo c_leapsThen c_lands c_row c_rowMany c_endsAt)) (wc' := (zwM cI cC f c_r q12.2 c_tape c_letter c_letterAt c_number c_taped c_at c_statements c_kept c_hasImage c_isKeeping c_cursor c_poled c_barred c_leapsTo c_leapsThen c_lands c_row c_rowMany c_endsAt)) ⟨hx, hb, hml, hown, hts⟩ hE hK hA hP hD hS rfl (mX4_no l dC dI cI cC sk f H.size q2 c_r c_refused c_tape c_letter c_letterAt c_number c_taped c_at c_statements c_kept c_hasImage c_isKeeping c_cursor c_poled c_barred c_leapsTo c_leapsThen c_lands c_row c_rowMany c_endsAt q12 e12) (cwV 1 hts gX4_ends_X4_no rfl rfl rfl (by decide +kernel) ⟨Nat.le_of_ble_eq_true rfl, Nat.le_of_ble_eq_true rfl⟩) (va_recv hK hP (ci := 4) (q0 := 0) rfl rfl) (As := [.int q2]) (rest := []) rfl hl.1 rfl (Nat.le_of_ble_eq_true rfl) dX4_ends_12 ⟨Nat.zero_le _, Nat.zero_le _⟩ (fun H locs hP hD hS => ?_)
  have hP : va_P (dC, dI) vwCl (zwM cI cC f c_r q12.2 c_tape c_letter c_letterAt c_number c_taped c_at c_statements c_kept c_hasImage c_isKeeping c_cursor c_poled c_barred c_leapsTo c_leapsThen c_lands c_row c_rowMany c_endsAt) H := hP
  have hD : va_D A (zwM cI cC f c_r q12.2 c_tape c_letter c_letterAt c_number c_taped c_at c_statements c_kept c_hasImage c_isKeeping c_cursor c_poled c_barred c_leapsTo c_leapsThen c_lands c_row c_rowMany c_endsAt) := hD
  subst hQ
  exact retRW (zz := ((q12.1, q12.2, c_endsAt) : Int32 × AR × Int32)) (fun z => z.1) (fun z => (zwM cI cC f c_r z.2.1 c_tape c_letter c_letterAt c_number c_taped c_at c_statements c_kept c_hasImage c_isKeeping c_cursor c_poled c_barred c_leapsTo c_leapsThen c_lands c_row c_rowMany z.2.2)) hx hb hr hlocks rfl hS h rfl hP dX4_ends_15
