theorem dX4_floe_0 : decode cX4_floe 0 = .ok (.aload_n 0, 1) := by decide +kernel
theorem dX4_floe_1 : decode cX4_floe 1 = .ok (.iload_n 1, 1) := by decide +kernel
theorem dX4_floe_2 : decode cX4_floe 2 = .ok (.invokevirtual 141, 3) := by decide +kernel
theorem dX4_floe_5 : decode cX4_floe 5 = .ok (.ifCond .ne 9, 3) := by decide +kernel
theorem dX4_floe_8 : decode cX4_floe 8 = .ok (.aload_n 0, 1) := by decide +kernel
theorem dX4_floe_9 : decode cX4_floe 9 = .ok (.iconst (-1), 1) := by decide +kernel
theorem dX4_floe_10 : decode cX4_floe 10 = .ok (.invokevirtual 73, 3) := by decide +kernel
theorem dX4_floe_13 : decode cX4_floe 13 = .ok (.ireturn, 1) := by decide +kernel
theorem dX4_floe_14 : decode cX4_floe 14 = .ok (.iload_n 2, 1) := by decide +kernel
theorem dX4_floe_15 : decode cX4_floe 15 = .ok (.tableswitch 70 0 4 #[33, 40, 47, 54, 63], 33) := by decide +kernel
theorem dX4_floe_48 : decode cX4_floe 48 = .ok (.aload_n 0, 1) := by decide +kernel
theorem dX4_floe_49 : decode cX4_floe 49 = .ok (.getfield 13, 3) := by decide +kernel
theorem dX4_floe_52 : decode cX4_floe 52 = .ok (.iload_n 1, 1) := by decide +kernel
theorem dX4_floe_53 : decode cX4_floe 53 = .ok (.iaload, 1) := by decide +kernel
theorem dX4_floe_54 : decode cX4_floe 54 = .ok (.ireturn, 1) := by decide +kernel
theorem dX4_floe_55 : decode cX4_floe 55 = .ok (.aload_n 0, 1) := by decide +kernel
theorem dX4_floe_56 : decode cX4_floe 56 = .ok (.getfield 16, 3) := by decide +kernel
theorem dX4_floe_59 : decode cX4_floe 59 = .ok (.iload_n 1, 1) := by decide +kernel
theorem dX4_floe_60 : decode cX4_floe 60 = .ok (.iaload, 1) := by decide +kernel
theorem dX4_floe_61 : decode cX4_floe 61 = .ok (.ireturn, 1) := by decide +kernel
theorem dX4_floe_62 : decode cX4_floe 62 = .ok (.aload_n 0, 1) := by decide +kernel
theorem dX4_floe_63 : decode cX4_floe 63 = .ok (.getfield 19, 3) := by decide +kernel
theorem dX4_floe_66 : decode cX4_floe 66 = .ok (.iload_n 1, 1) := by decide +kernel
theorem dX4_floe_67 : decode cX4_floe 67 = .ok (.iaload, 1) := by decide +kernel
theorem dX4_floe_68 : decode cX4_floe 68 = .ok (.ireturn, 1) := by decide +kernel
theorem dX4_floe_69 : decode cX4_floe 69 = .ok (.aload_n 0, 1) := by decide +kernel
theorem dX4_floe_70 : decode cX4_floe 70 = .ok (.getfield 22, 3) := by decide +kernel
theorem dX4_floe_73 : decode cX4_floe 73 = .ok (.iload_n 1, 1) := by decide +kernel
theorem dX4_floe_74 : decode cX4_floe 74 = .ok (.iaload, 1) := by decide +kernel
theorem dX4_floe_75 : decode cX4_floe 75 = .ok (.iconst 2, 1) := by decide +kernel
theorem dX4_floe_76 : decode cX4_floe 76 = .ok (.iadd, 1) := by decide +kernel
theorem dX4_floe_77 : decode cX4_floe 77 = .ok (.ireturn, 1) := by decide +kernel
theorem dX4_floe_78 : decode cX4_floe 78 = .ok (.aload_n 0, 1) := by decide +kernel
theorem dX4_floe_79 : decode cX4_floe 79 = .ok (.getfield 25, 3) := by decide +kernel
theorem dX4_floe_82 : decode cX4_floe 82 = .ok (.iload_n 1, 1) := by decide +kernel
theorem dX4_floe_83 : decode cX4_floe 83 = .ok (.iaload, 1) := by decide +kernel
theorem dX4_floe_84 : decode cX4_floe 84 = .ok (.ireturn, 1) := by decide +kernel
theorem dX4_floe_85 : decode cX4_floe 85 = .ok (.aload_n 0, 1) := by decide +kernel
theorem dX4_floe_86 : decode cX4_floe 86 = .ok (.bipush (-2), 2) := by decide +kernel
theorem dX4_floe_88 : decode cX4_floe 88 = .ok (.invokevirtual 73, 3) := by decide +kernel
theorem dX4_floe_91 : decode cX4_floe 91 = .ok (.ireturn, 1) := by decide +kernel
set_option maxRecDepth 20000 in
theorem ggX4_floe_X4_isFloe : GoodIn wsX4_floe wsX4_isFloe := goodIn_r _ [10, 11, 17, 18, 19, 20, 21, 22, 23, 24, 25, 26, 27, 28, 29, 30, 31, 32, 33, 34, 35, 36, 37, 38, 39, 40, 41, 42, 43, 44] (by decide +kernel) (by decide +kernel)
set_option maxRecDepth 20000 in
theorem gX4_floe_X4_isFloe : GoodIn wsX4_floe (wsV RX4 141 RX4 yX4_isFloe wsX4_isFloe) := goodIn_app (goodIn_of _ (by decide +kernel)) ggX4_floe_X4_isFloe
set_option maxRecDepth 20000 in
theorem ggX4_floe_X4_no : GoodIn wsX4_floe wsX4_no := goodIn_r _ [15, 16, 17, 18, 19, 20, 21, 22, 23, 24, 25, 26, 27, 28, 29, 30, 31, 32, 33, 34, 35, 36, 37, 38, 39, 40, 41, 42, 43, 44] (by decide +kernel) (by decide +kernel)
set_option maxRecDepth 20000 in
theorem gX4_floe_X4_no : GoodIn wsX4_floe (wsV RX4 73 RX4 yX4_no wsX4_no) := goodIn_app (goodIn_of _ (by decide +kernel)) ggX4_floe_X4_no
set_option maxHeartbeats 4000000 in
set_option maxRecDepth 100000 in
theorem mX4_floe (l : Launch) (dC : Nat → ClassId) (dI : Nat → Nat → Nat) (cI cC : ClassId) (sk : (Nat → Nat) × (Nat → Nat)) (f : Nat → Nat) (sz : Nat) (p1 : Int32) (p2 : Int32) (c_r : RT) (c_refused : AR) (c_tape : AR) (c_letter : AR) (c_letterAt : AR) (c_number : AR) (c_taped : Int32) (c_at : Int32) (c_statements : Int32) (c_kept : AR) (c_hasImage : Int32) (c_isKeeping : Int32) (c_cursor : Int32) (c_poled : Int32) (c_barred : Int32) (c_leapsTo : AR) (c_leapsThen : AR) (c_lands : AR) (c_row : AR) (c_rowMany : Int32) (c_endsAt : Int32) (z : Int32 × AR) (h : fX4_floe p1 p2 c_r c_refused = some z) : cRW l yX4_floe wsX4_floe (RMk 1 21) sk (dC, dI) (tyz cI cC) sz (zwM cI cC f c_r c_refused c_tape c_letter c_letterAt c_number c_taped c_at c_statements c_kept c_hasImage c_isKeeping c_cursor c_poled c_barred c_leapsTo c_leapsThen c_lands c_row c_rowMany c_endsAt) (zwM cI cC f c_r z.2 c_tape c_letter c_letterAt c_number c_taped c_at c_statements c_kept c_hasImage c_isKeeping c_cursor c_poled c_barred c_leapsTo c_leapsThen c_lands c_row c_rowMany c_endsAt) [.ref (f 0), .int p1, .int p2] z.1 := by
  refine ofRW (cc := cX4_floe) (maxL := 3) (ret := (some .int)) (own := RX4) (plainFor_of_name (by decide)) rfl rfl (Nat.le_of_ble_eq_true rfl) ?_
  intro p e s m args below meth c A hA hx hb hml hr hts hown hlocks hE hK hP hD hS ls hl
  generalize hQ : qRW _ _ _ _ _ _ _ = Q
  have hl : lv_has ls 3 [(0, .ref (f 0)), (1, .int p1), (2, .int p2)] := hl
  have hiX4 : ∀ w ∈ wsX40, w ∈ wsX4_floe := fun w h => List.mem_cons_of_mem _ (List.mem_append_right _ h)
  have hw1 := hts (Cond.fieldLink RX4 13 "FloeToFloeModel" "kind" "[I") (List.mem_of_getElem? (i := 1) rfl)
  have hw2 := hts (Cond.fieldLink RX4 16 "FloeToFloeModel" "laneOf" "[I") (List.mem_of_getElem? (i := 2) rfl)
  have hw3 := hts (Cond.fieldLink RX4 19 "FloeToFloeModel" "cellOf" "[I") (List.mem_of_getElem? (i := 3) rfl)
  have hw4 := hts (Cond.fieldLink RX4 22 "FloeToFloeModel" "pace" "[I") (List.mem_of_getElem? (i := 4) rfl)
  have hw5 := hts (Cond.fieldLink RX4 25 "FloeToFloeModel" "strong" "[I") (List.mem_of_getElem? (i := 5) rfl)
  rw [fX4_floe] at h
  refine lv_aload_n hx hb dX4_floe_0 rfl (lv_at hl 0 rfl) ?_
  refine lv_iload_n hx hb dX4_floe_1 rfl (lv_at hl 1 rfl) ?_
  obtain ⟨q2, e2, h⟩ := bd_some h
  refine g_roV (wc := (zwM cI cC f c_r c_refused c_tape c_letter c_letterAt c_number c_taped c_at c_statements c_kept c_hasImage c_isKeeping c_cursor c_poled c_barred c_leapsTo c_leapsThen c_lands c_row c_rowMany c_endsAt)) ⟨hx, hb, hml, hown, hts⟩ hE hK hP hS [0, 1, 2, 3, 4, 5, 6, 7, 8, 9, 10, 11, 12, 13, 14, 15] rfl (mX4_isFloe l dC dI cI cC sk f p1 c_r c_refused c_tape c_letter c_letterAt c_number c_taped c_at c_statements c_kept c_hasImage c_isKeeping c_cursor c_poled c_barred c_leapsTo c_leapsThen c_lands c_row c_rowMany c_endsAt q2 e2) (cwV 1 hts gX4_floe_X4_isFloe rfl rfl rfl (by decide +kernel) ⟨Nat.le_of_ble_eq_true rfl, Nat.le_of_ble_eq_true rfl⟩) (va_recv hK hP (ci := 4) (q0 := 0) rfl rfl) (As := [.int p1]) (rest := []) rfl hl.1 rfl (Nat.le_of_ble_eq_true rfl) dX4_floe_2 ⟨Nat.zero_le _, Nat.zero_le _⟩ (fun H locs hP hS => ?_)
  refine lv_if_ne (tgt := 14) hx hb dX4_floe_5 (by decide) (fun c5 => ?_) (fun c5 => ?_)
  · have h := itF c5 h
    refine lv_iload_n hx hb dX4_floe_14 rfl (lv_at hl 2 rfl) ?_
    by_cases n0 : p2 = (0 : Int32)
    · have h := itT n0 h
      refine lv_tableIn (off := 33) (tgt := 48) hx hb dX4_floe_15 (by rw [n0]; decide) (by rw [n0]; decide) (by rw [n0]; decide) (by decide) ?_
      refine lv_aload_n hx hb dX4_floe_48 rfl (lv_at hl 0 rfl) ?_
      refine va_get (D := (dC, dI)) (ci := 4) (v := .ref (f 2)) (C := RX4) (T := TX4) (N := 28) hx hb hts hiX4 hown hK hP 0 rfl rfl 1 (by decide) hw1 (fun _ h9 => h9) rfl dX4_floe_49 ?_
      refine lv_iload_n hx hb dX4_floe_52 rfl (lv_at hl 1 rfl) ?_
      obtain ⟨hin, h⟩ := ck_some h
      refine va_iald hx hb hK hP 2 0 rfl rfl hin dX4_floe_53 ?_
      subst hQ
      exact retRW (zz := ((((R_kinds c_r) (p1).toNatClampNeg), c_refused) : Int32 × AR)) (fun z => z.1) (fun z => (zwM cI cC f c_r z.2 c_tape c_letter c_letterAt c_number c_taped c_at c_statements c_kept c_hasImage c_isKeeping c_cursor c_poled c_barred c_leapsTo c_leapsThen c_lands c_row c_rowMany c_endsAt)) hx hb hr hlocks rfl hS h rfl hP dX4_floe_54
    have h := itF n0 h
    by_cases n1 : p2 = (1 : Int32)
    · have h := itT n1 h
      refine lv_tableIn (off := 40) (tgt := 55) hx hb dX4_floe_15 (by rw [n1]; decide) (by rw [n1]; decide) (by rw [n1]; decide) (by decide) ?_
      refine lv_aload_n hx hb dX4_floe_55 rfl (lv_at hl 0 rfl) ?_
      refine va_get (D := (dC, dI)) (ci := 4) (v := .ref (f 3)) (C := RX4) (T := TX4) (N := 28) hx hb hts hiX4 hown hK hP 0 rfl rfl 2 (by decide) hw2 (fun _ h9 => h9) rfl dX4_floe_56 ?_
      refine lv_iload_n hx hb dX4_floe_59 rfl (lv_at hl 1 rfl) ?_
      obtain ⟨hin, h⟩ := ck_some h
      refine va_iald hx hb hK hP 3 0 rfl rfl hin dX4_floe_60 ?_
      subst hQ
      exact retRW (zz := ((((R_homes c_r) (p1).toNatClampNeg), c_refused) : Int32 × AR)) (fun z => z.1) (fun z => (zwM cI cC f c_r z.2 c_tape c_letter c_letterAt c_number c_taped c_at c_statements c_kept c_hasImage c_isKeeping c_cursor c_poled c_barred c_leapsTo c_leapsThen c_lands c_row c_rowMany c_endsAt)) hx hb hr hlocks rfl hS h rfl hP dX4_floe_61
    have h := itF n1 h
    by_cases n2 : p2 = (2 : Int32)
    · have h := itT n2 h
      refine lv_tableIn (off := 47) (tgt := 62) hx hb dX4_floe_15 (by rw [n2]; decide) (by rw [n2]; decide) (by rw [n2]; decide) (by decide) ?_
      refine lv_aload_n hx hb dX4_floe_62 rfl (lv_at hl 0 rfl) ?_
      refine va_get (D := (dC, dI)) (ci := 4) (v := .ref (f 4)) (C := RX4) (T := TX4) (N := 28) hx hb hts hiX4 hown hK hP 0 rfl rfl 3 (by decide) hw3 (fun _ h9 => h9) rfl dX4_floe_63 ?_
      refine lv_iload_n hx hb dX4_floe_66 rfl (lv_at hl 1 rfl) ?_
      obtain ⟨hin, h⟩ := ck_some h
      refine va_iald hx hb hK hP 4 0 rfl rfl hin dX4_floe_67 ?_
      subst hQ
      exact retRW (zz := ((((R_cells c_r) (p1).toNatClampNeg), c_refused) : Int32 × AR)) (fun z => z.1) (fun z => (zwM cI cC f c_r z.2 c_tape c_letter c_letterAt c_number c_taped c_at c_statements c_kept c_hasImage c_isKeeping c_cursor c_poled c_barred c_leapsTo c_leapsThen c_lands c_row c_rowMany c_endsAt)) hx hb hr hlocks rfl hS h rfl hP dX4_floe_68
    have h := itF n2 h
    by_cases n3 : p2 = (3 : Int32)
    · have h := itT n3 h
      refine lv_tableIn (off := 54) (tgt := 69) hx hb dX4_floe_15 (by rw [n3]; decide) (by rw [n3]; decide) (by rw [n3]; decide) (by decide) ?_
      refine lv_aload_n hx hb dX4_floe_69 rfl (lv_at hl 0 rfl) ?_
      refine va_get (D := (dC, dI)) (ci := 4) (v := .ref (f 5)) (C := RX4) (T := TX4) (N := 28) hx hb hts hiX4 hown hK hP 0 rfl rfl 4 (by decide) hw4 (fun _ h9 => h9) rfl dX4_floe_70 ?_
      refine lv_iload_n hx hb dX4_floe_73 rfl (lv_at hl 1 rfl) ?_
      obtain ⟨hin, h⟩ := ck_some h
      refine va_iald hx hb hK hP 5 0 rfl rfl hin dX4_floe_74 ?_
      refine lv_iconst (v := (2 : Int32)) hx hb dX4_floe_75 (by decide) ?_
      refine lv_iadd hx hb dX4_floe_76 ?_
      subst hQ
      exact retRW (zz := (((((R_paces c_r) (p1).toNatClampNeg) + (2 : Int32)), c_refused) : Int32 × AR)) (fun z => z.1) (fun z => (zwM cI cC f c_r z.2 c_tape c_letter c_letterAt c_number c_taped c_at c_statements c_kept c_hasImage c_isKeeping c_cursor c_poled c_barred c_leapsTo c_leapsThen c_lands c_row c_rowMany c_endsAt)) hx hb hr hlocks rfl hS h rfl hP dX4_floe_77
    have h := itF n3 h
    by_cases n4 : p2 = (4 : Int32)
    · have h := itT n4 h
      refine lv_tableIn (off := 63) (tgt := 78) hx hb dX4_floe_15 (by rw [n4]; decide) (by rw [n4]; decide) (by rw [n4]; decide) (by decide) ?_
      refine lv_aload_n hx hb dX4_floe_78 rfl (lv_at hl 0 rfl) ?_
      refine va_get (D := (dC, dI)) (ci := 4) (v := .ref (f 6)) (C := RX4) (T := TX4) (N := 28) hx hb hts hiX4 hown hK hP 0 rfl rfl 5 (by decide) hw5 (fun _ h9 => h9) rfl dX4_floe_79 ?_
      refine lv_iload_n hx hb dX4_floe_82 rfl (lv_at hl 1 rfl) ?_
      obtain ⟨hin, h⟩ := ck_some h
      refine va_iald hx hb hK hP 6 0 rfl rfl hin dX4_floe_83 ?_
      subst hQ
      exact retRW (zz := ((((R_strengths c_r) (p1).toNatClampNeg), c_refused) : Int32 × AR)) (fun z => z.1) (fun z => (zwM cI cC f c_r z.2 c_tape c_letter c_letterAt c_number c_taped c_at c_statements c_kept c_hasImage c_isKeeping c_cursor c_poled c_barred c_leapsTo c_leapsThen c_lands c_row c_rowMany c_endsAt)) hx hb hr hlocks rfl hS h rfl hP dX4_floe_84
    have h := itF n4 h
    have m0 := neI n0 (i := 0) rfl
    have m1 := neI n1 (i := 1) rfl
    have m2 := neI n2 (i := 2) rfl
    have m3 := neI n3 (i := 3) rfl
    have m4 := neI n4 (i := 4) rfl
    refine lv_tableOut (tgt := 85) hx hb dX4_floe_15 (by omega) (by decide) ?_
    refine lv_aload_n hx hb dX4_floe_85 rfl (lv_at hl 0 rfl) ?_
    refine lv_bipush (v := (-2 : Int32)) hx hb dX4_floe_86 (by decide) ?_
    obtain ⟨q88, e88, h⟩ := bd_some h
    refine g_rwA (wc := (zwM cI cC f c_r c_refused c_tape c_letter c_letterAt c_number c_taped c_at c_statements c_kept c_hasImage c_isKeeping c_cursor c_poled c_barred c_leapsTo c_leapsThen c_lands c_row c_rowMany c_endsAt)) (wc' := (zwM cI cC f c_r q88.2 c_tape c_letter c_letterAt c_number c_taped c_at c_statements c_kept c_hasImage c_isKeeping c_cursor c_poled c_barred c_leapsTo c_leapsThen c_lands c_row c_rowMany c_endsAt)) ⟨hx, hb, hml, hown, hts⟩ hE hK hA hP hD hS rfl (mX4_no l dC dI cI cC sk f H.size (-2 : Int32) c_r c_refused c_tape c_letter c_letterAt c_number c_taped c_at c_statements c_kept c_hasImage c_isKeeping c_cursor c_poled c_barred c_leapsTo c_leapsThen c_lands c_row c_rowMany c_endsAt q88 e88) (cwV 1 hts gX4_floe_X4_no rfl rfl rfl (by decide +kernel) ⟨Nat.le_of_ble_eq_true rfl, Nat.le_of_ble_eq_true rfl⟩) (va_recv hK hP (ci := 4) (q0 := 0) rfl rfl) (As := [.int (-2 : Int32)]) (rest := []) rfl hl.1 rfl (Nat.le_of_ble_eq_true rfl) dX4_floe_88 ⟨Nat.zero_le _, Nat.zero_le _⟩ (fun H locs hP hD hS => ?_)
    have hP : va_P (dC, dI) vwCl (zwM cI cC f c_r q88.2 c_tape c_letter c_letterAt c_number c_taped c_at c_statements c_kept c_hasImage c_isKeeping c_cursor c_poled c_barred c_leapsTo c_leapsThen c_lands c_row c_rowMany c_endsAt) H := hP
    have hD : va_D A (zwM cI cC f c_r q88.2 c_tape c_letter c_letterAt c_number c_taped c_at c_statements c_kept c_hasImage c_isKeeping c_cursor c_poled c_barred c_leapsTo c_leapsThen c_lands c_row c_rowMany c_endsAt) := hD
    subst hQ
    exact retRW (zz := ((q88.1, q88.2) : Int32 × AR)) (fun z => z.1) (fun z => (zwM cI cC f c_r z.2 c_tape c_letter c_letterAt c_number c_taped c_at c_statements c_kept c_hasImage c_isKeeping c_cursor c_poled c_barred c_leapsTo c_leapsThen c_lands c_row c_rowMany c_endsAt)) hx hb hr hlocks rfl hS h rfl hP dX4_floe_91
  have h := itT c5 h
  refine lv_aload_n hx hb dX4_floe_8 rfl (lv_at hl 0 rfl) ?_
  refine lv_iconst (v := (-1 : Int32)) hx hb dX4_floe_9 (by decide) ?_
  obtain ⟨q10, e10, h⟩ := bd_some h
  refine g_rwA (wc := (zwM cI cC f c_r c_refused c_tape c_letter c_letterAt c_number c_taped c_at c_statements c_kept c_hasImage c_isKeeping c_cursor c_poled c_barred c_leapsTo c_leapsThen c_lands c_row c_rowMany c_endsAt)) (wc' := (zwM cI cC f c_r q10.2 c_tape c_letter c_letterAt c_number c_taped c_at c_statements c_kept c_hasImage c_isKeeping c_cursor c_poled c_barred c_leapsTo c_leapsThen c_lands c_row c_rowMany c_endsAt)) ⟨hx, hb, hml, hown, hts⟩ hE hK hA hP hD hS rfl (mX4_no l dC dI cI cC sk f H.size (-1 : Int32) c_r c_refused c_tape c_letter c_letterAt c_number c_taped c_at c_statements c_kept c_hasImage c_isKeeping c_cursor c_poled c_barred c_leapsTo c_leapsThen c_lands c_row c_rowMany c_endsAt q10 e10) (cwV 1 hts gX4_floe_X4_no rfl rfl rfl (by decide +kernel) ⟨Nat.le_of_ble_eq_true rfl, Nat.le_of_ble_eq_true rfl⟩) (va_recv hK hP (ci := 4) (q0 := 0) rfl rfl) (As := [.int (-1 : Int32)]) (rest := []) rfl hl.1 rfl (Nat.le_of_ble_eq_true rfl) dX4_floe_10 ⟨Nat.zero_le _, Nat.zero_le _⟩ (fun H locs hP hD hS => ?_)
  have hP : va_P (dC, dI) vwCl (zwM cI cC f c_r q10.2 c_tape c_letter c_letterAt c_number c_taped c_at c_statements c_kept c_hasImage c_isKeeping c_cursor c_poled c_barred c_leapsTo c_leapsThen c_lands c_row c_rowMany c_endsAt) H := hP
  have hD : va_D A (zwM cI cC f c_r q10.2 c_tape c_letter c_letterAt c_number c_taped c_at c_statements c_kept c_hasImage c_isKeeping c_cursor c_poled c_barred c_leapsTo c_leapsThen c_lands c_row c_rowMany c_endsAt) := hD
  subst hQ
  exact retRW (zz := ((q10.1, q10.2) : Int32 × AR)) (fun z => z.1) (fun z => (zwM cI cC f c_r z.2 c_tape c_letter c_letterAt c_number c_taped c_at c_statements c_kept c_hasImage c_isKeeping c_cursor c_poled c_barred c_leapsTo c_leapsThen c_lands c_row c_rowMany c_endsAt)) hx hb hr hlocks rfl hS h rfl hP dX4_floe_13
