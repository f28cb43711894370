theorem dX4_passesAll_0 : decode cX4_passesAll 0 = .ok (.aload_n 0, 1) := by decide +kernel
theorem dX4_passesAll_1 : decode cX4_passesAll 1 = .ok (.bipush 50, 2) := by decide +kernel
theorem dX4_passesAll_3 : decode cX4_passesAll 3 = .ok (.iload_n 1, 1) := by decide +kernel
theorem dX4_passesAll_4 : decode cX4_passesAll 4 = .ok (.imul, 1) := by decide +kernel
theorem dX4_passesAll_5 : decode cX4_passesAll 5 = .ok (.putfield 119, 3) := by decide +kernel
theorem dX4_passesAll_8 : decode cX4_passesAll 8 = .ok (.aload_n 0, 1) := by decide +kernel
theorem dX4_passesAll_9 : decode cX4_passesAll 9 = .ok (.iload_n 2, 1) := by decide +kernel
theorem dX4_passesAll_10 : decode cX4_passesAll 10 = .ok (.putfield 115, 3) := by decide +kernel
theorem dX4_passesAll_13 : decode cX4_passesAll 13 = .ok (.aload_n 0, 1) := by decide +kernel
theorem dX4_passesAll_14 : decode cX4_passesAll 14 = .ok (.aload_n 0, 1) := by decide +kernel
theorem dX4_passesAll_15 : decode cX4_passesAll 15 = .ok (.getfield 13, 3) := by decide +kernel
theorem dX4_passesAll_18 : decode cX4_passesAll 18 = .ok (.invokevirtual 122, 3) := by decide +kernel
theorem dX4_passesAll_21 : decode cX4_passesAll 21 = .ok (.aload_n 0, 1) := by decide +kernel
theorem dX4_passesAll_22 : decode cX4_passesAll 22 = .ok (.aload_n 0, 1) := by decide +kernel
theorem dX4_passesAll_23 : decode cX4_passesAll 23 = .ok (.getfield 16, 3) := by decide +kernel
theorem dX4_passesAll_26 : decode cX4_passesAll 26 = .ok (.invokevirtual 122, 3) := by decide +kernel
theorem dX4_passesAll_29 : decode cX4_passesAll 29 = .ok (.aload_n 0, 1) := by decide +kernel
theorem dX4_passesAll_30 : decode cX4_passesAll 30 = .ok (.aload_n 0, 1) := by decide +kernel
theorem dX4_passesAll_31 : decode cX4_passesAll 31 = .ok (.getfield 19, 3) := by decide +kernel
theorem dX4_passesAll_34 : decode cX4_passesAll 34 = .ok (.invokevirtual 122, 3) := by decide +kernel
theorem dX4_passesAll_37 : decode cX4_passesAll 37 = .ok (.aload_n 0, 1) := by decide +kernel
theorem dX4_passesAll_38 : decode cX4_passesAll 38 = .ok (.aload_n 0, 1) := by decide +kernel
theorem dX4_passesAll_39 : decode cX4_passesAll 39 = .ok (.getfield 22, 3) := by decide +kernel
theorem dX4_passesAll_42 : decode cX4_passesAll 42 = .ok (.invokevirtual 122, 3) := by decide +kernel
theorem dX4_passesAll_45 : decode cX4_passesAll 45 = .ok (.aload_n 0, 1) := by decide +kernel
theorem dX4_passesAll_46 : decode cX4_passesAll 46 = .ok (.aload_n 0, 1) := by decide +kernel
theorem dX4_passesAll_47 : decode cX4_passesAll 47 = .ok (.getfield 25, 3) := by decide +kernel
theorem dX4_passesAll_50 : decode cX4_passesAll 50 = .ok (.invokevirtual 122, 3) := by decide +kernel
theorem dX4_passesAll_53 : decode cX4_passesAll 53 = .ok (.aload_n 0, 1) := by decide +kernel
theorem dX4_passesAll_54 : decode cX4_passesAll 54 = .ok (.aload_n 0, 1) := by decide +kernel
theorem dX4_passesAll_55 : decode cX4_passesAll 55 = .ok (.aload_n 0, 1) := by decide +kernel
theorem dX4_passesAll_56 : decode cX4_passesAll 56 = .ok (.getfield 59, 3) := by decide +kernel
theorem dX4_passesAll_59 : decode cX4_passesAll 59 = .ok (.invokevirtual 126, 3) := by decide +kernel
theorem dX4_passesAll_62 : decode cX4_passesAll 62 = .ok (.putfield 59, 3) := by decide +kernel
theorem dX4_passesAll_65 : decode cX4_passesAll 65 = .ok (.aload_n 0, 1) := by decide +kernel
theorem dX4_passesAll_66 : decode cX4_passesAll 66 = .ok (.aload_n 0, 1) := by decide +kernel
theorem dX4_passesAll_67 : decode cX4_passesAll 67 = .ok (.aload_n 0, 1) := by decide +kernel
theorem dX4_passesAll_68 : decode cX4_passesAll 68 = .ok (.getfield 28, 3) := by decide +kernel
theorem dX4_passesAll_71 : decode cX4_passesAll 71 = .ok (.invokevirtual 126, 3) := by decide +kernel
theorem dX4_passesAll_74 : decode cX4_passesAll 74 = .ok (.putfield 28, 3) := by decide +kernel
theorem dX4_passesAll_77 : decode cX4_passesAll 77 = .ok (.aload_n 0, 1) := by decide +kernel
theorem dX4_passesAll_78 : decode cX4_passesAll 78 = .ok (.aload_n 0, 1) := by decide +kernel
theorem dX4_passesAll_79 : decode cX4_passesAll 79 = .ok (.aload_n 0, 1) := by decide +kernel
theorem dX4_passesAll_80 : decode cX4_passesAll 80 = .ok (.getfield 101, 3) := by decide +kernel
theorem dX4_passesAll_83 : decode cX4_passesAll 83 = .ok (.invokevirtual 126, 3) := by decide +kernel
theorem dX4_passesAll_86 : decode cX4_passesAll 86 = .ok (.putfield 101, 3) := by decide +kernel
theorem dX4_passesAll_89 : decode cX4_passesAll 89 = .ok (.return_, 1) := by decide +kernel
set_option maxRecDepth 20000 in
theorem ggX4_passesAll_X4_passes : GoodIn wsX4_passesAll wsX4_passes := goodIn_r _ [15, 2, 16, 1, 21, 22, 23, 24, 25, 26, 27, 28, 29, 30, 31, 32, 33, 34, 35, 36, 37, 38, 39, 40, 41, 42, 43, 44, 45, 46, 47, 48] (by decide +kernel) (by decide +kernel)
set_option maxRecDepth 20000 in
theorem gX4_passesAll_X4_passes : GoodIn wsX4_passesAll (wsV RX4 122 RX4 yX4_passes wsX4_passes) := goodIn_app (goodIn_of _ (by decide +kernel)) ggX4_passesAll_X4_passes
set_option maxRecDepth 20000 in
theorem ggX4_passesAll_X4_passOne : GoodIn wsX4_passesAll wsX4_passOne := goodIn_r _ [20, 2, 16, 1, 21, 22, 23, 24, 25, 26, 27, 28, 29, 30, 31, 32, 33, 34, 35, 36, 37, 38, 39, 40, 41, 42, 43, 44, 45, 46, 47, 48] (by decide +kernel) (by decide +kernel)
set_option maxRecDepth 20000 in
theorem gX4_passesAll_X4_passOne : GoodIn wsX4_passesAll (wsV RX4 126 RX4 yX4_passOne wsX4_passOne) := goodIn_app (goodIn_of _ (by decide +kernel)) ggX4_passesAll_X4_passOne
set_option maxHeartbeats 4000000 in
set_option maxRecDepth 100000 in
theorem mX4_passesAll (l : Launch) (dC : Nat → ClassId) (dI : Nat → Nat → Nat) (cI cC : ClassId) (sk : (Nat → Nat) × (Nat → Nat)) (f : Nat → Nat) (sz : Nat) (p1 : Int32) (p2 : Int32) (c_r : RT) (c_refused : AR) (c_tape : AR) (c_letter : AR) (c_letterAt : AR) (c_number : AR) (c_taped : Int32) (c_at : Int32) (c_statements : Int32) (c_kept : AR) (c_hasImage : Int32) (c_isKeeping : Int32) (c_cursor : Int32) (c_poled : Int32) (c_barred : Int32) (c_leapsTo : AR) (c_leapsThen : AR) (c_lands : AR) (c_row : AR) (c_rowMany : Int32) (c_endsAt : Int32) (z : RT × AR × Int32 × Int32) (h : fX4_passesAll p1 p2 c_r c_kept = some z) : cRV l yX4_passesAll wsX4_passesAll (RMk 1 22) sk (dC, dI) (tyz cI cC) sz (zwM cI cC f c_r c_refused c_tape c_letter c_letterAt c_number c_taped c_at c_statements c_kept c_hasImage c_isKeeping c_cursor c_poled c_barred c_leapsTo c_leapsThen c_lands c_row c_rowMany c_endsAt) (zwM cI cC f z.1 c_refused c_tape c_letter c_letterAt c_number c_taped c_at c_statements z.2.1 c_hasImage z.2.2.1 z.2.2.2 c_poled c_barred c_leapsTo c_leapsThen c_lands c_row c_rowMany c_endsAt) [.ref (f 0), .int p1, .int p2] := by
  refine ofRV (cc := cX4_passesAll) (maxL := 3) (ret := none) (own := RX4) (plainFor_of_name (by decide)) rfl rfl (Nat.le_of_ble_eq_true rfl) ?_
  intro p e s m args below meth c A hA hx hb hml hr hts hown hlocks hE hK hP hD hS ls hl
  generalize hQ : qRV _ _ _ _ _ _ = Q
  have hl : lv_has ls 3 [(0, .ref (f 0)), (1, .int p1), (2, .int p2)] := hl
  have hiX4 : ∀ w ∈ wsX40, w ∈ wsX4_passesAll := fun w h => List.mem_cons_of_mem _ (List.mem_append_right _ h)
  have hw1 := hts (Cond.fieldLink RX4 119 "FloeToFloeModel" "cursor" "I") (List.mem_of_getElem? (i := 1) rfl)
  have hw2 := hts (Cond.fieldLink RX4 115 "FloeToFloeModel" "isKeeping" "Z") (List.mem_of_getElem? (i := 2) rfl)
  have hw3 := hts (Cond.fieldLink RX4 13 "FloeToFloeModel" "kind" "[I") (List.mem_of_getElem? (i := 3) rfl)
  have hw4 := hts (Cond.fieldLink RX4 16 "FloeToFloeModel" "laneOf" "[I") (List.mem_of_getElem? (i := 4) rfl)
  have hw5 := hts (Cond.fieldLink RX4 19 "FloeToFloeModel" "cellOf" "[I") (List.mem_of_getElem? (i := 5) rfl)
  have hw6 := hts (Cond.fieldLink RX4 22 "FloeToFloeModel" "pace" "[I") (List.mem_of_getElem? (i := 6) rfl)
  have hw7 := hts (Cond.fieldLink RX4 25 "FloeToFloeModel" "strong" "[I") (List.mem_of_getElem? (i := 7) rfl)
  have hw8 := hts (Cond.fieldLink RX4 59 "FloeToFloeModel" "floes" "I") (List.mem_of_getElem? (i := 8) rfl)
  have hw9 := hts (Cond.fieldLink RX4 28 "FloeToFloeModel" "lanes" "I") (List.mem_of_getElem? (i := 9) rfl)
  have hw10 := hts (Cond.fieldLink RX4 101 "FloeToFloeModel" "minute" "I") (List.mem_of_getElem? (i := 10) rfl)
  rw [fX4_passesAll] at h
  refine lv_aload_n hx hb dX4_passesAll_0 rfl (lv_at hl 0 rfl) ?_
  refine lv_bipush (v := (50 : Int32)) hx hb dX4_passesAll_1 (by decide) ?_
  refine lv_iload_n hx hb dX4_passesAll_3 rfl (lv_at hl 1 rfl) ?_
  refine lv_imul hx hb dX4_passesAll_4 ?_
  refine va_put (D := (dC, dI)) (ci := 4) (v := .int ((50 : Int32) * p1)) (ty := .int) (C := RX4) (T := TX4) (N := 28) hx hb hts hiX4 tyX4 tyX4_ok nmX4 hown hK hP hD hS 0 rfl rfl 19 (by decide) hw1 (fun _ h9 => h9) rfl (by decide +kernel) rfl rfl (Nat.le_of_ble_eq_true rfl) dX4_passesAll_5 (fun H locs hP hD hS => ?_)
  have hP : va_P (dC, dI) vwCl (zwM cI cC f c_r c_refused c_tape c_letter c_letterAt c_number c_taped c_at c_statements c_kept c_hasImage c_isKeeping ((50 : Int32) * p1) c_poled c_barred c_leapsTo c_leapsThen c_lands c_row c_rowMany c_endsAt) H := hP
  have hD : va_D A (zwM cI cC f c_r c_refused c_tape c_letter c_letterAt c_number c_taped c_at c_statements c_kept c_hasImage c_isKeeping ((50 : Int32) * p1) c_poled c_barred c_leapsTo c_leapsThen c_lands c_row c_rowMany c_endsAt) := hD
  refine lv_aload_n hx hb dX4_passesAll_8 rfl (lv_at hl 0 rfl) ?_
  refine lv_iload_n hx hb dX4_passesAll_9 rfl (lv_at hl 2 rfl) ?_
  obtain ⟨hz, h⟩ := ckb_some h
  refine va_put (D := (dC, dI)) (ci := 4) (v := .int p2) (ty := .boolean) (C := RX4) (T := TX4) (N := 28) hx hb hts hiX4 tyX4 tyX4_ok nmX4 hown hK hP hD hS 0 rfl rfl 18 (by decide) hw2 (fun _ h9 => h9) rfl (by decide +kernel) (ckb_n hz) (ckb_f hz) (Nat.le_of_ble_eq_true rfl) dX4_passesAll_10 (fun H locs hP hD hS => ?_)
  have hP : va_P (dC, dI) vwCl (zwM cI cC f c_r c_refused c_tape c_letter c_letterAt c_number c_taped c_at c_statements c_kept c_hasImage p2 ((50 : Int32) * p1) c_poled c_barred c_leapsTo c_leapsThen c_lands c_row c_rowMany c_endsAt) H := hP
  have hD : va_D A (zwM cI cC f c_r c_refused c_tape c_letter c_letterAt c_number c_taped c_at c_statements c_kept c_hasImage p2 ((50 : Int32) * p1) c_poled c_barred c_leapsTo c_leapsThen c_lands c_row c_rowMany c_endsAt) := hD
  refine lv_aload_n hx hb dX4_passesAll_13 rfl (lv_at hl 0 rfl) ?_
  refine lv_aload_n hx hb dX4_passesAll_14 rfl (lv_at hl 0 rfl) ?_
  refine va_get (D := (dC, dI)) (ci := 4) (v := .ref (f 2)) (C := RX4) (T := TX4) (N := 28) hx hb hts hiX4 hown hK hP 0 rfl rfl 1 (by decide) hw3 (fun _ h9 => h9) rfl dX4_passesAll_15 ?_
  obtain ⟨q18, e18, h⟩ := bd_some h
  refine g_rvA (wc := (zwM cI cC f c_r c_refused c_tape c_letter c_letterAt c_number c_taped c_at c_statements c_kept c_hasImage p2 ((50 : Int32) * p1) c_poled c_barred c_leapsTo c_leapsThen c_lands c_row c_rowMany c_endsAt)) (wc' := (zwM cI cC f q18.1 c_refused c_tape c_letter c_letterAt c_number c_taped c_at c_statements q18.2.1 c_hasImage p2 q18.2.2 c_poled c_barred c_leapsTo c_leapsThen c_lands c_row c_rowMany c_endsAt)) ⟨hx, hb, hml, hown, hts⟩ hE hK hA hP hD hS rfl (mX4_passes_2 l dC dI cI cC sk f H.size c_r c_refused c_tape c_letter c_letterAt c_number c_taped c_at c_statements c_kept c_hasImage p2 ((50 : Int32) * p1) c_poled c_barred c_leapsTo c_leapsThen c_lands c_row c_rowMany c_endsAt q18 e18) (cwV 1 hts gX4_passesAll_X4_passes rfl rfl rfl (by decide +kernel) ⟨Nat.le_of_ble_eq_true rfl, Nat.le_of_ble_eq_true rfl⟩) (va_recv hK hP (ci := 4) (q0 := 0) rfl rfl) (As := [.ref (f 2)]) (rest := []) rfl hl.1 rfl (Nat.le_of_ble_eq_true rfl) dX4_passesAll_18 ⟨Nat.zero_le _, Nat.zero_le _⟩ (fun H locs hP hD hS => ?_)
  have hP : va_P (dC, dI) vwCl (zwM cI cC f q18.1 c_refused c_tape c_letter c_letterAt c_number c_taped c_at c_statements q18.2.1 c_hasImage p2 q18.2.2 c_poled c_barred c_leapsTo c_leapsThen c_lands c_row c_rowMany c_endsAt) H := hP
  have hD : va_D A (zwM cI cC f q18.1 c_refused c_tape c_letter c_letterAt c_number c_taped c_at c_statements q18.2.1 c_hasImage p2 q18.2.2 c_poled c_barred c_leapsTo c_leapsThen c_lands c_row c_rowMany c_endsAt) := hD
  refine lv_aload_n hx hb dX4_passesAll_21 rfl (lv_at hl 0 rfl) ?_
  refine lv_aload_n hx hb dX4_passesAll_22 rfl (lv_at hl 0 rfl) ?_
  refine va_get (D := (dC, dI)) (ci := 4) (v := .ref (f 3)) (C := RX4) (T := TX4) (N := 28) hx hb hts hiX4 hown hK hP 0 rfl rfl 2 (by decide) hw4 (fun _ h9 => h9) rfl dX4_passesAll_23 ?_
  obtain ⟨q26, e26, h⟩ := bd_some h
  refine g_rvA (wc := (zwM cI cC f q18.1 c_refused c_tape c_letter c_letterAt c_number c_taped c_at c_statements q18.2.1 c_hasImage p2 q18.2.2 c_poled c_barred c_leapsTo c_leapsThen c_lands c_row c_rowMany c_endsAt)) (wc' := (zwM cI cC f q26.1 c_refused c_tape c_letter c_letterAt c_number c_taped c_at c_statements q26.2.1 c_hasImage p2 q26.2.2 c_poled c_barred c_leapsTo c_leapsThen c_lands c_row c_rowMany c_endsAt)) ⟨hx, hb, hml, hown, hts⟩ hE hK hA hP hD hS rfl (mX4_passes_3 l dC dI cI cC sk f H.size q18.1 c_refused c_tape c_letter c_letterAt c_number c_taped c_at c_statements q18.2.1 c_hasImage p2 q18.2.2 c_poled c_barred c_leapsTo c_leapsThen c_lands c_row c_rowMany c_endsAt q26 e26) (cwV 1 hts gX4_passesAll_X4_passes rfl rfl rfl (by decide +kernel) ⟨Nat.le_of_ble_eq_true rfl, Nat.le_of_ble_eq_true rfl⟩) (va_recv hK hP (ci := 4) (q0 := 0) rfl rfl) (As := [.ref (f 3)]) (rest := []) rfl hl.1 rfl (Nat.le_of_ble_eq_true rfl) dX4_passesAll_26 ⟨Nat.zero_le _, Nat.zero_le _⟩ (fun H locs hP hD hS => ?_)
  have hP : va_P (dC, dI) vwCl (zwM cI cC f q26.1 c_refused c_tape c_letter c_letterAt c_number c_taped c_at c_statements q26.2.1 c_hasImage p2 q26.2.2 c_poled c_barred c_leapsTo c_leapsThen c_lands c_row c_rowMany c_endsAt) H := hP
  have hD : va_D A (zwM cI cC f q26.1 c_refused c_tape c_letter c_letterAt c_number c_taped c_at c_statements q26.2.1 c_hasImage p2 q26.2.2 c_poled c_barred c_leapsTo c_leapsThen c_lands c_row c_rowMany c_endsAt) := hD
  refine lv_aload_n hx hb dX4_passesAll_29 rfl (lv_at hl 0 rfl) ?_
  refine lv_aload_n hx hb dX4_passesAll_30 rfl (lv_at hl 0 rfl) ?_
  refine va_get (D := (dC, dI)) (ci := 4) (v := .ref (f 4)) (C := RX4) (T := TX4) (N := 28) hx hb hts hiX4 hown hK hP 0 rfl rfl 3 (by decide) hw5 (fun _ h9 => h9) rfl dX4_passesAll_31 ?_
  obtain ⟨q34, e34, h⟩ := bd_some h
  refine g_rvA (wc := (zwM cI cC f q26.1 c_refused c_tape c_letter c_letterAt c_number c_taped c_at c_statements q26.2.1 c_hasImage p2 q26.2.2 c_poled c_barred c_leapsTo c_leapsThen c_lands c_row c_rowMany c_endsAt)) (wc' := (zwM cI cC f q34.1 c_refused c_tape c_letter c_letterAt c_number c_taped c_at c_statements q34.2.1 c_hasImage p2 q34.2.2 c_poled c_barred c_leapsTo c_leapsThen c_lands c_row c_rowMany c_endsAt)) ⟨hx, hb, hml, hown, hts⟩ hE hK hA hP hD hS rfl (mX4_passes_4 l dC dI cI cC sk f H.size q26.1 c_refused c_tape c_letter c_letterAt c_number c_taped c_at c_statements q26.2.1 c_hasImage p2 q26.2.2 c_poled c_barred c_leapsTo c_leapsThen c_lands c_row c_rowMany c_endsAt q34 e34) (cwV 1 hts gX4_passesAll_X4_passes rfl rfl rfl (by decide +kernel) ⟨Nat.le_of_ble_eq_true rfl, Nat.le_of_ble_eq_true rfl⟩) (va_recv hK hP (ci := 4) (q0 := 0) rfl rfl) (As := [.ref (f 4)]) (rest := []) rfl hl.1 rfl (Nat.le_of_ble_eq_true rfl) dX4_passesAll_34 ⟨Nat.zero_le _, Nat.zero_le _⟩ (fun H locs hP hD hS => ?_)
  have hP : va_P (dC, dI) vwCl (zwM cI cC f q34.1 c_refused c_tape c_letter c_letterAt c_number c_taped c_at c_statements q34.2.1 c_hasImage p2 q34.2.2 c_poled c_barred c_leapsTo c_leapsThen c_lands c_row c_rowMany c_endsAt) H := hP
  have hD : va_D A (zwM cI cC f q34.1 c_refused c_tape c_letter c_letterAt c_number c_taped c_at c_statements q34.2.1 c_hasImage p2 q34.2.2 c_poled c_barred c_leapsTo c_leapsThen c_lands c_row c_rowMany c_endsAt) := hD
  refine lv_aload_n hx hb dX4_passesAll_37 rfl (lv_at hl 0 rfl) ?_
  refine lv_aload_n hx hb dX4_passesAll_38 rfl (lv_at hl 0 rfl) ?_
  refine va_get (D := (dC, dI)) (ci := 4) (v := .ref (f 5)) (C := RX4) (T := TX4) (N := 28) hx hb hts hiX4 hown hK hP 0 rfl rfl 4 (by decide) hw6 (fun _ h9 => h9) rfl dX4_passesAll_39 ?_
  obtain ⟨q42, e42, h⟩ := bd_some h
  refine g_rvA (wc := (zwM cI cC f q34.1 c_refused c_tape c_letter c_letterAt c_number c_taped c_at c_statements q34.2.1 c_hasImage p2 q34.2.2 c_poled c_barred c_leapsTo c_leapsThen c_lands c_row c_rowMany c_endsAt)) (wc' := (zwM cI cC f q42.1 c_refused c_tape c_letter c_letterAt c_number c_taped c_at c_statements q42.2.1 c_hasImage p2 q42.2.2 c_poled c_barred c_leapsTo c_leapsThen c_lands c_row c_rowMany c_endsAt)) ⟨hx, hb, hml, hown, hts⟩ hE hK hA hP hD hS rfl (mX4_passes_5 l dC dI cI cC sk f H.size q34.1 c_refused c_tape c_letter c_letterAt c_number c_taped c_at c_statements q34.2.1 c_hasImage p2 q34.2.2 c_poled c_barred c_leapsTo c_leapsThen c_lands c_row c_rowMany c_endsAt q42 e42) (cwV 1 hts gX4_passesAll_X4_passes rfl rfl rfl (by decide +kernel) ⟨Nat.le_of_ble_eq_true rfl, Nat.le_of_ble_eq_true rfl⟩) (va_recv hK hP (ci := 4) (q0 := 0) rfl rfl) (As := [.ref (f 5)]) (rest := []) rfl hl.1 rfl (Nat.le_of_ble_eq_true rfl) dX4_passesAll_42 ⟨Nat.zero_le _, Nat.zero_le _⟩ (fun H locs hP hD hS => ?_)
  have hP : va_P (dC, dI) vwCl (zwM cI cC f q42.1 c_refused c_tape c_letter c_letterAt c_number c_taped c_at c_statements q42.2.1 c_hasImage p2 q42.2.2 c_poled c_barred c_leapsTo c_leapsThen c_lands c_row c_rowMany c_endsAt) H := hP
  have hD : va_D A (zwM cI cC f q42.1 c_refused c_tape c_letter c_letterAt c_number c_taped c_at c_statements q42.2.1 c_hasImage p2 q42.2.2 c_poled c_barred c_leapsTo c_leapsThen c_lands c_row c_rowMany c_endsAt) := hD
  refine lv_aload_n hx hb dX4_passesAll_45 rfl (lv_at hl 0 rfl) ?_
  refine lv_aload_n hx hb dX4_passesAll_46 rfl (lv_at hl 0 rfl) ?_
  refine va_get (D := (dC, dI)) (ci := 4) (v := .ref (f 6)) (C := RX4) (T := TX4) (N := 28) hx hb hts hiX4 hown hK hP 0 rfl rfl 5 (by decide) hw7 (fun _ h9 => h9) rfl dX4_passesAll_47 ?_
  obtain ⟨q50, e50, h⟩ := bd_some h
  refine g_rvA (wc := (zwM cI cC f q42.1 c_refused c_tape c_letter c_letterAt c_number c_taped c_at c_statements q42.2.1 c_hasImage p2 q42.2.2 c_poled c_barred c_leapsTo c_leapsThen c_lands c_row c_rowMany c_endsAt)) (wc' := (zwM cI cC f q50.1 c_refused c_tape c_letter c_letterAt c_number c_taped c_at c_statements q50.2.1 c_hasImage p2 q50.2.2 c_poled c_barred c_leapsTo c_leapsThen c_lands c_row c_rowMany c_endsAt)) ⟨hx, hb, hml, hown, hts⟩ hE hK hA hP hD hS rfl (mX4_passes_6 l dC dI cI cC sk f H.size q42.1 c_refused c_tape c_letter c_letterAt c_number c_taped c_at c_statements q42.2.1 c_hasImage p2 q42.2.2 c_poled c_barred c_leapsTo c_leapsThen c_lands c_row c_rowMany c_endsAt q50 e50) (cwV 1 hts gX4_passesAll_X4_passes rfl rfl rfl (by decide +kernel) ⟨Nat.le_of_ble_eq_true rfl, Nat.le_of_ble_eq_true rfl⟩) (va_recv hK hP (ci := 4) (q0 := 0) rfl rfl) (As := [.ref (f 6)]) (rest := []) rfl hl.1 rfl (Nat.le_of_ble_eq_true rfl) dX4_passesAll_50 ⟨Nat.zero_le _, Nat.zero_le _⟩ (fun H locs hP hD hS => ?_)
  have hP : va_P (dC, dI) vwCl (zwM cI cC f q50.1 c_refused c_tape c_letter c_letterAt c_number c_taped c_at c_statements q50.2.1 c_hasImage p2 q50.2.2 c_poled c_barred c_leapsTo c_leapsThen c_lands c_row c_rowMany c_endsAt) H := hP
  have hD : va_D A (zwM cI cC f q50.1 c_refused c_tape c_letter c_letterAt c_number c_taped c_at c_statements q50.2.1 c_hasImage p2 q50.2.2 c_poled c_barred c_leapsTo c_leapsThen c_lands c_row c_rowMany c_endsAt) := hD
  refine lv_aload_n hx hb dX4_passesAll_53 rfl (lv_at hl 0 rfl) ?_
  refine lv_aload_n hx hb dX4_passesAll_54 rfl (lv_at hl 0 rfl) ?_
  refine lv_aload_n hx hb dX4_passesAll_55 rfl (lv_at hl 0 rfl) ?_
  refine va_get (D := (dC, dI)) (ci := 4) (v := .int (R_floes q50.1)) (C := RX4) (T := TX4) (N := 28) hx hb hts hiX4 hown hK hP 0 rfl rfl 6 (by decide) hw8 (fun _ h9 => h9) rfl dX4_passesAll_56 ?_
  obtain ⟨q59, e59, h⟩ := bd_some h
  refine g_rwA (wc := (zwM cI cC f q50.1 c_refused c_tape c_letter c_letterAt c_number c_taped c_at c_statements q50.2.1 c_hasImage p2 q50.2.2 c_poled c_barred c_leapsTo c_leapsThen c_lands c_row c_rowMany c_endsAt)) (wc' := (zwM cI cC f q50.1 c_refused c_tape c_letter c_letterAt c_number c_taped c_at c_statements q59.2.1 c_hasImage p2 q59.2.2 c_poled c_barred c_leapsTo c_leapsThen c_lands c_row c_rowMany c_endsAt)) ⟨hx, hb, hml, hown, hts⟩ hE hK hA hP hD hS rfl (mX4_passOne l dC dI cI cC sk f H.size (R_floes q50.1) q50.1 c_refused c_tape c_letter c_letterAt c_number c_taped c_at c_statements q50.2.1 c_hasImage p2 q50.2.2 c_poled c_barred c_leapsTo c_leapsThen c_lands c_row c_rowMany c_endsAt q59 e59) (cwV 1 hts gX4_passesAll_X4_passOne rfl rfl rfl (by decide +kernel) ⟨Nat.le_of_ble_eq_true rfl, Nat.le_of_ble_eq_true rfl⟩) (va_recv hK hP (ci := 4) (q0 := 0) rfl rfl) (As := [.int (R_floes q50.1)]) (rest := [.ref (f 0)]) rfl hl.1 rfl (Nat.le_of_ble_eq_true rfl) dX4_passesAll_59 ⟨Nat.zero_le _, Nat.zero_le _⟩ (fun H locs hP hD hS => ?_)
  have hP : va_P (dC, dI) vwCl (zwM cI cC f q50.1 c_refused c_tape c_letter c_letterAt c_number c_taped c_at c_statements q59.2.1 c_hasImage p2 q59.2.2 c_poled c_barred c_leapsTo c_leapsThen c_lands c_row c_rowMany c_endsAt) H := hP
  have hD : va_D A (zwM cI cC f q50.1 c_refused c_tape c_letter c_letterAt c_number c_taped c_at c_statements q59.2.1 c_hasImage p2 q59.2.2 c_poled c_barred c_leapsTo c_leapsThen c_lands c_row c_rowMany c_endsAt) := hD
  refine va_put (D := (dC, dI)) (ci := 4) (v := .int q59.1) (ty := .int) (C := RX4) (T := TX4) (N := 28) hx hb hts hiX4 tyX4 tyX4_ok nmX4 hown hK hP hD hS 0 rfl rfl 6 (by decide) hw8 (fun _ h9 => h9) rfl (by decide +kernel) rfl rfl (Nat.le_of_ble_eq_true rfl) dX4_passesAll_62 (fun H locs hP hD hS => ?_)
  have hP : va_P (dC, dI) vwCl (zwM cI cC f (R_setFloes q50.1 q59.1) c_refused c_tape c_letter c_letterAt c_number c_taped c_at c_statements q59.2.1 c_hasImage p2 q59.2.2 c_poled c_barred c_leapsTo c_leapsThen c_lands c_row c_rowMany c_endsAt) H := hP
  have hD : va_D A (zwM cI cC f (R_setFloes q50.1 q59.1) c_refused c_tape c_letter c_letterAt c_number c_taped c_at c_statements q59.2.1 c_hasImage p2 q59.2.2 c_poled c_barred c_leapsTo c_leapsThen c_lands c_row c_rowMany c_endsAt) := hD
  refine lv_aload_n hx hb dX4_passesAll_65 rfl (lv_at hl 0 rfl) ?_
  refine lv_aload_n hx hb dX4_passesAll_66 rfl (lv_at hl 0 rfl) ?_
  refine lv_aload_n hx hb dX4_passesAll_67 rfl (lv_at hl 0 rfl) ?_
  refine va_get (D := (dC, dI)) (ci := 4) (v := .int (R_lanes (R_setFloes q50.1 q59.1))) (C := RX4) (T := TX4) (N := 28) hx hb hts hiX4 hown hK hP 0 rfl rfl 7 (by decide) hw9 (fun _ h9 => h9) rfl dX4_passesAll_68 ?_
  obtain ⟨q71, e71, h⟩ := bd_some h
  refine g_rwA (wc := (zwM cI cC f (R_setFloes q50.1 q59.1) c_refused c_tape c_letter c_letterAt c_number c_taped c_at c_statements q59.2.1 c_hasImage p2 q59.2.2 c_poled c_barred c_leapsTo c_leapsThen c_lands c_row c_rowMany c_endsAt)) (wc' := (zwM cI cC f (R_setFloes q50.1 q59.1) c_refused c_tape c_letter c_letterAt c_number c_taped c_at c_statements q71.2.1 c_hasImage p2 q71.2.2 c_poled c_barred c_leapsTo c_leapsThen c_lands c_row c_rowMany c_endsAt)) ⟨hx, hb, hml, hown, hts⟩ hE hK hA hP hD hS rfl (mX4_passOne l dC dI cI cC sk f H.size (R_lanes (R_setFloes q50.1 q59.1)) (R_setFloes q50.1 q59.1) c_refused c_tape c_letter c_letterAt c_number c_taped c_at c_statements q59.2.1 c_hasImage p2 q59.2.2 c_poled c_barred c_leapsTo c_leapsThen c_lands c_row c_rowMany c_endsAt q71 e71) (cwV 1 hts gX4_passesAll_X4_passOne rfl rfl rfl (by decide +kernel) ⟨Nat.le_of_ble_eq_true rfl, Nat.le_of_ble_eq_true rfl⟩) (va_recv hK hP (ci := 4) (q0 := 0) rfl rfl) (As := [.int (R_lanes (R_setFloes q50.1 q59.1))]) (rest := [.ref (f 0)]) rfl hl.1 rfl (Nat.le_of_ble_eq_true rfl) dX4_passesAll_71 ⟨Nat.zero_le _, Nat.zero_le _⟩ (fun H locs hP hD hS => ?_)
  have hP : va_P (dC, dI) vwCl (zwM cI cC f (R_setFloes q50.1 q59.1) c_refused c_tape c_letter c_letterAt c_number c_taped c_at c_statements q71.2.1 c_hasImage p2 q71.2.2 c_poled c_barred c_leapsTo c_leapsThen c_lands c_row c_rowMany c_endsAt) H := hP
  have hD : va_D A (zwM cI cC f (R_setFloes q50.1 q59.1) c_refused c_tape c_letter c_letterAt c_number c_taped c_at c_statements q71.2.1 c_hasImage p2 q71.2.2 c_poled c_barred c_leapsTo c_leapsThen c_lands c_row c_rowMany c_endsAt) := hD
  refine va_put (D := (dC, dI)) (ci := 4) (v := .int q71.1) (ty := .int) (C := RX4) (T := TX4) (N := 28) hx hb hts hiX4 tyX4 tyX4_ok nmX4 hown hK hP hD hS 0 rfl rfl 7 (by decide) hw9 (fun _ h9 => h9) rfl (by decide +kernel) rfl rfl (Nat.le_of_ble_eq_true rfl) dX4_passesAll_74 (fun H locs hP hD hS => ?_)
  have hP : va_P (dC, dI) vwCl (zwM cI cC f (R_setLanes (R_setFloes q50.1 q59.1) q71.1) c_refused c_tape c_letter c_letterAt c_number c_taped c_at c_statements q71.2.1 c_hasImage p2 q71.2.2 c_poled c_barred c_leapsTo c_leapsThen c_lands c_row c_rowMany c_endsAt) H := hP
  have hD : va_D A (zwM cI cC f (R_setLanes (R_setFloes q50.1 q59.1) q71.1) c_refused c_tape c_letter c_letterAt c_number c_taped c_at c_statements q71.2.1 c_hasImage p2 q71.2.2 c_poled c_barred c_leapsTo c_leapsThen c_lands c_row c_rowMany c_endsAt) := hD
  refine lv_aload_n hx hb dX4_passesAll_77 rfl (lv_at hl 0 rfl) ?_
  refine lv_aload_n hx hb dX4_passesAll_78 rfl (lv_at hl 0 rfl) ?_
  refine lv_aload_n hx hb dX4_passesAll_79 rfl (lv_at hl 0 rfl) ?_
  refine va_get (D := (dC, dI)) (ci := 4) (v := .int (R_minute (R_setLanes (R_setFloes q50.1 q59.1) q71.1))) (C := RX4) (T := TX4) (N := 28) hx hb hts hiX4 hown hK hP 0 rfl rfl 8 (by decide) hw10 (fun _ h9 => h9) rfl dX4_passesAll_80 ?_
  obtain ⟨q83, e83, h⟩ := bd_some h
  refine g_rwA (wc := (zwM cI cC f (R_setLanes (R_setFloes q50.1 q59.1) q71.1) c_refused c_tape c_letter c_letterAt c_number c_taped c_at c_statements q71.2.1 c_hasImage p2 q71.2.2 c_poled c_barred c_leapsTo c_leapsThen c_lands c_row c_rowMany c_endsAt)) (wc' := (zwM cI cC f (R_setLanes (R_setFloes q50.1 q59.1) q71.1) c_refused c_tape c_letter c_letterAt c_number c_taped c_at c_statements q83.2.1 c_hasImage p2 q83.2.2 c_poled c_barred c_leapsTo c_leapsThen c_lands c_row c_rowMany c_endsAt)) ⟨hx, hb, hml, hown, hts⟩ hE hK hA hP hD hS rfl (mX4_passOne l dC dI cI cC sk f H.size (R_minute (R_setLanes (R_setFloes q50.1 q59.1) q71.1)) (R_setLanes (R_setFloes q50.1 q59.1) q71.1) c_refused c_tape c_letter c_letterAt c_number c_taped c_at c_statements q71.2.1 c_hasImage p2 q71.2.2 c_poled c_barred c_leapsTo c_leapsThen c_lands c_row c_rowMany c_endsAt q83 e83) (cwV 1 hts gX4_passesAll_X4_passOne rfl rfl rfl (by decide +kernel) ⟨Nat.le_of_ble_eq_true rfl, Nat.le_of_ble_eq_true rfl⟩) (va_recv hK hP (ci := 4) (q0 := 0) rfl rfl) (As := [.int (R_minute (R_setLanes (R_setFloes q50.1 q59.1) q71.1))]) (rest := [.ref (f 0)]) rfl hl.1 rfl (Nat.le_of_ble_eq_true rfl) dX4_passesAll_83 ⟨Nat.zero_le _, Nat.zero_le _⟩ (fun H locs hP hD hS => ?_)
  have hP : va_P (dC, dI) vwCl (zwM cI cC f (R_setLanes (R_setFloes q50.1 q59.1) q71.1) c_refused c_tape c_letter c_letterAt c_number c_taped c_at c_statements q83.2.1 c_hasImage p2 q83.2.2 c_poled c_barred c_leapsTo c_leapsThen c_lands c_row c_rowMany c_endsAt) H := hP
  have hD : va_D A (zwM cI cC f (R_setLanes (R_setFloes q50.1 q59.1) q71.1) c_refused c_tape c_letter c_letterAt c_number c_taped c_at c_statements q83.2.1 c_hasImage p2 q83.2.2 c_poled c_barred c_leapsTo c_leapsThen c_lands c_row c_rowMany c_endsAt) := hD
  refine va_put (D := (dC, dI)) (ci := 4) (v := .int q83.1) (ty := .int) (C := RX4) (T := TX4) (N := 28) hx hb hts hiX4 tyX4 tyX4_ok nmX4 hown hK hP hD hS 0 rfl rfl 8 (by decide) hw10 (fun _ h9 => h9) rfl (by decide +kernel) rfl rfl (Nat.le_of_ble_eq_true rfl) dX4_passesAll_86 (fun H locs hP hD hS => ?_)
  have hP : va_P (dC, dI) vwCl (zwM cI cC f (R_setMinute (R_setLanes (R_setFloes q50.1 q59.1) q71.1) q83.1) c_refused c_tape c_letter c_letterAt c_number c_taped c_at c_statements q83.2.1 c_hasImage p2 q83.2.2 c_poled c_barred c_leapsTo c_leapsThen c_lands c_row c_rowMany c_endsAt) H := hP
  have hD : va_D A (zwM cI cC f (R_setMinute (R_setLanes (R_setFloes q50.1 q59.1) q71.1) q83.1) c_refused c_tape c_letter c_letterAt c_number c_taped c_at c_statements q83.2.1 c_hasImage p2 q83.2.2 c_poled c_barred c_leapsTo c_leapsThen c_lands c_row c_rowMany c_endsAt) := hD
  subst hQ
  exact retRV (zz := (((R_setMinute (R_setLanes (R_setFloes q50.1 q59.1) q71.1) q83.1), q83.2.1, p2, q83.2.2) : RT × AR × Int32 × Int32)) (fun z => (zwM cI cC f z.1 c_refused c_tape c_letter c_letterAt c_number c_taped c_at c_statements z.2.1 c_hasImage z.2.2.1 z.2.2.2 c_poled c_barred c_leapsTo c_leapsThen c_lands c_row c_rowMany c_endsAt)) hx hb hr hlocks hS h hP dX4_passesAll_89
