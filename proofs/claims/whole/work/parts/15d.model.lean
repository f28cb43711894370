theorem dX4_on_0 : decode cX4_on 0 = .ok (.aload_n 0, 1) := by decide +kernel
theorem dX4_on_1 : decode cX4_on 1 = .ok (.getfield 129, 3) := by decide +kernel
theorem dX4_on_4 : decode cX4_on 4 = .ok (.ifCond .ne 10, 3) := by decide +kernel
theorem dX4_on_7 : decode cX4_on 7 = .ok (.aload_n 0, 1) := by decide +kernel
theorem dX4_on_8 : decode cX4_on 8 = .ok (.bipush (-3), 2) := by decide +kernel
theorem dX4_on_10 : decode cX4_on 10 = .ok (.invokevirtual 73, 3) := by decide +kernel
theorem dX4_on_13 : decode cX4_on 13 = .ok (.ireturn, 1) := by decide +kernel
theorem dX4_on_14 : decode cX4_on 14 = .ok (.aload_n 0, 1) := by decide +kernel
theorem dX4_on_15 : decode cX4_on 15 = .ok (.iconst 0, 1) := by decide +kernel
theorem dX4_on_16 : decode cX4_on 16 = .ok (.iconst 0, 1) := by decide +kernel
theorem dX4_on_17 : decode cX4_on 17 = .ok (.invokevirtual 108, 3) := by decide +kernel
theorem dX4_on_20 : decode cX4_on 20 = .ok (.aload_n 0, 1) := by decide +kernel
theorem dX4_on_21 : decode cX4_on 21 = .ok (.getfield 101, 3) := by decide +kernel
theorem dX4_on_24 : decode cX4_on 24 = .ok (.ireturn, 1) := by decide +kernel
set_option maxRecDepth 20000 in
theorem ggX4_on_X4_no : GoodIn wsX4_on wsX4_no := goodIn_r _ [7, 8, 31, 32, 33, 34, 35, 36, 37, 38, 39, 40, 41, 42, 43, 44, 45, 46, 47, 48, 49, 50, 51, 52, 53, 54, 55, 56, 57, 58] (by decide +kernel) (by decide +kernel)
set_option maxRecDepth 20000 in
theorem gX4_on_X4_no : GoodIn wsX4_on (wsV RX4 73 RX4 yX4_no wsX4_no) := goodIn_app (goodIn_of _ (by decide +kernel)) ggX4_on_X4_no
set_option maxRecDepth 20000 in
theorem ggX4_on_X4_passesAll : GoodIn wsX4_on wsX4_passesAll := goodIn_r _ [12, 13, 14, 15, 16, 17, 18, 19, 20, 21, 2, 22, 23, 24, 6, 25, 26, 27, 28, 29, 30, 31, 32, 33, 34, 35, 36, 37, 38, 39, 40, 41, 42, 43, 44, 45, 46, 47, 48, 49, 50, 51, 52, 53, 54, 55, 56, 57, 58] (by decide +kernel) (by decide +kernel)
set_option maxRecDepth 20000 in
theorem gX4_on_X4_passesAll : GoodIn wsX4_on (wsV RX4 108 RX4 yX4_passesAll wsX4_passesAll) := goodIn_app (goodIn_of _ (by decide +kernel)) ggX4_on_X4_passesAll
set_option maxHeartbeats 4000000 in
set_option maxRecDepth 100000 in
theorem mX4_on (l : Launch) (dC : Nat → ClassId) (dI : Nat → Nat → Nat) (cI cC : ClassId) (sk : (Nat → Nat) × (Nat → Nat)) (f : Nat → Nat) (sz : Nat)  (c_r : RT) (c_refused : AR) (c_tape : AR) (c_letter : AR) (c_letterAt : AR) (c_number : AR) (c_taped : Int32) (c_at : Int32) (c_statements : Int32) (c_kept : AR) (c_hasImage : Int32) (c_isKeeping : Int32) (c_cursor : Int32) (c_poled : Int32) (c_barred : Int32) (c_leapsTo : AR) (c_leapsThen : AR) (c_lands : AR) (c_row : AR) (c_rowMany : Int32) (c_endsAt : Int32) (z : Int32 × RT × AR × AR × Int32 × Int32) (h : fX4_on c_r c_refused c_kept c_hasImage c_isKeeping c_cursor = some z) : cRW l yX4_on wsX4_on (RMk 2 44) sk (dC, dI) (tyz cI cC) sz (zwM cI cC f c_r c_refused c_tape c_letter c_letterAt c_number c_taped c_at c_statements c_kept c_hasImage c_isKeeping c_cursor c_poled c_barred c_leapsTo c_leapsThen c_lands c_row c_rowMany c_endsAt) (zwM cI cC f z.2.1 z.2.2.1 c_tape c_letter c_letterAt c_number c_taped c_at c_statements z.2.2.2.1 c_hasImage z.2.2.2.2.1 z.2.2.2.2.2 c_poled c_barred c_leapsTo c_leapsThen c_lands c_row c_rowMany c_endsAt) [.ref (f 0)] z.1 := by
  refine ofRW (cc := cX4_on) (maxL := 1) (ret := (some .int)) (own := RX4) (plainFor_of_name (by decide)) rfl rfl (Nat.le_of_ble_eq_true rfl) ?_
  intro p e s m args below meth c A hA hx hb hml hr hts hown hlocks hE hK hP hD hS ls hl
  generalize hQ : qRW _ _ _ _ _ _ _ = Q
  have hl : lv_has ls 1 [(0, .ref (f 0))] := hl
  have hiX4 : ∀ w ∈ wsX40, w ∈ wsX4_on := fun w h => List.mem_cons_of_mem _ (List.mem_append_right _ h)
  have hw1 := hts (Cond.fieldLink RX4 129 "FloeToFloeModel" "hasImage" "Z") (List.mem_of_getElem? (i := 1) rfl)
  have hw2 := hts (Cond.fieldLink RX4 101 "FloeToFloeModel" "minute" "I") (List.mem_of_getElem? (i := 2) rfl)
  rw [fX4_on] at h
  refine lv_aload_n hx hb dX4_on_0 rfl (lv_at hl 0 rfl) ?_
  refine va_get (D := (dC, dI)) (ci := 4) (v := .int c_hasImage) (C := RX4) (T := TX4) (N := 28) hx hb hts hiX4 hown hK hP 0 rfl rfl 17 (by decide) hw1 (fun _ h9 => h9) rfl dX4_on_1 ?_
  refine lv_if_ne (tgt := 14) hx hb dX4_on_4 (by decide) (fun c4 => ?_) (fun c4 => ?_)
  · have h := itF c4 h
    refine lv_aload_n hx hb dX4_on_14 rfl (lv_at hl 0 rfl) ?_
    refine lv_iconst (v := (0 : Int32)) hx hb dX4_on_15 (by decide) ?_
    refine lv_iconst (v := (0 : Int32)) hx hb dX4_on_16 (by decide) ?_
    obtain ⟨q17, e17, h⟩ := bd_some h
    refine g_rvV (wc := (zwM cI cC f c_r c_refused c_tape c_letter c_letterAt c_number c_taped c_at c_statements c_kept c_hasImage c_isKeeping c_cursor c_poled c_barred c_leapsTo c_leapsThen c_lands c_row c_rowMany c_endsAt)) (wc' := (zwM cI cC f q17.1 c_refused c_tape c_letter c_letterAt c_number c_taped c_at c_statements q17.2.1 c_hasImage q17.2.2.1 q17.2.2.2 c_poled c_barred c_leapsTo c_leapsThen c_lands c_row c_rowMany c_endsAt)) ⟨hx, hb, hml, hown, hts⟩ hE hK hA hP hD hS [0, 1, 2, 3, 4, 5, 6, 7, 8, 9, 10, 11, 12, 13, 14, 15] rfl rfl rfl (mX4_passesAll l dC dI cI cC sk f H.size (0 : Int32) (0 : Int32) c_r c_refused c_tape c_letter c_letterAt c_number c_taped c_at c_statements c_kept c_hasImage c_isKeeping c_cursor c_poled c_barred c_leapsTo c_leapsThen c_lands c_row c_rowMany c_endsAt q17 e17) (cwV 2 hts gX4_on_X4_passesAll rfl rfl rfl (by decide +kernel) ⟨Nat.le_of_ble_eq_true rfl, Nat.le_of_ble_eq_true rfl⟩) (va_recv hK hP (ci := 4) (q0 := 0) rfl rfl) (As := [.int (0 : Int32), .int (0 : Int32)]) (rest := []) rfl hl.1 rfl (Nat.le_of_ble_eq_true rfl) dX4_on_17 ⟨Nat.zero_le _, Nat.zero_le _⟩ (fun H locs hP hD hS => ?_)
    have hP : va_P (dC, dI) vwCl (zwM cI cC f q17.1 c_refused c_tape c_letter c_letterAt c_number c_taped c_at c_statements q17.2.1 c_hasImage q17.2.2.1 q17.2.2.2 c_poled c_barred c_leapsTo c_leapsThen c_lands c_row c_rowMany c_endsAt) H := hP
    have hD : va_D A (zwM cI cC f q17.1 c_refused c_tape c_letter c_letterAt c_number c_taped c_at c_statements q17.2.1 c_hasImage q17.2.2.1 q17.2.2.2 c_poled c_barred c_leapsTo c_leapsThen c_lands c_row c_rowMany c_endsAt) := hD
    refine lv_aload_n hx hb dX4_on_20 rfl (lv_at hl 0 rfl) ?_
    refine va_get (D := (dC, dI)) (ci := 4) (v := .int (R_minute q17.1)) (C := RX4) (T := TX4) (N := 28) hx hb hts hiX4 hown hK hP 0 rfl rfl 8 (by decide) hw2 (fun _ h9 => h9) rfl dX4_on_21 ?_
    subst hQ
    exact retRW (zz := (((R_minute q17.1), q17.1, c_refused, q17.2.1, q17.2.2.1, q17.2.2.2) : Int32 × RT × AR × AR × Int32 × Int32)) (fun z => z.1) (fun z => (zwM cI cC f z.2.1 z.2.2.1 c_tape c_letter c_letterAt c_number c_taped c_at c_statements z.2.2.2.1 c_hasImage z.2.2.2.2.1 z.2.2.2.2.2 c_poled c_barred c_leapsTo c_leapsThen c_lands c_row c_rowMany c_endsAt)) hx hb hr hlocks rfl hS h rfl hP dX4_on_24
  have h := itT c4 h
  refine lv_aload_n hx hb dX4_on_7 rfl (lv_at hl 0 rfl) ?_
  refine lv_bipush (v := (-3 : Int32)) hx hb dX4_on_8 (by decide) ?_
  obtain ⟨q10, e10, h⟩ := bd_some h
  refine g_rwV (wc := (zwM cI cC f c_r c_refused c_tape c_letter c_letterAt c_number c_taped c_at c_statements c_kept c_hasImage c_isKeeping c_cursor c_poled c_barred c_leapsTo c_leapsThen c_lands c_row c_rowMany c_endsAt)) (wc' := (zwM cI cC f c_r q10.2 c_tape c_letter c_letterAt c_number c_taped c_at c_statements c_kept c_hasImage c_isKeeping c_cursor c_poled c_barred c_leapsTo c_leapsThen c_lands c_row c_rowMany c_endsAt)) ⟨hx, hb, hml, hown, hts⟩ hE hK hA hP hD hS [0, 1, 2, 3, 4, 5, 6, 7, 8, 9, 10, 11, 12, 13, 14, 15] rfl rfl rfl (mX4_no l dC dI cI cC sk f H.size (-3 : Int32) c_r c_refused c_tape c_letter c_letterAt c_number c_taped c_at c_statements c_kept c_hasImage c_isKeeping c_cursor c_poled c_barred c_leapsTo c_leapsThen c_lands c_row c_rowMany c_endsAt q10 e10) (cwV 1 hts gX4_on_X4_no rfl rfl rfl (by decide +kernel) ⟨Nat.le_of_ble_eq_true rfl, Nat.le_of_ble_eq_true rfl⟩) (va_recv hK hP (ci := 4) (q0 := 0) rfl rfl) (As := [.int (-3 : Int32)]) (rest := []) rfl hl.1 rfl (Nat.le_of_ble_eq_true rfl) dX4_on_10 ⟨Nat.zero_le _, Nat.zero_le _⟩ (fun H locs hP hD hS => ?_)
  have hP : va_P (dC, dI) vwCl (zwM cI cC f c_r q10.2 c_tape c_letter c_letterAt c_number c_taped c_at c_statements c_kept c_hasImage c_isKeeping c_cursor c_poled c_barred c_leapsTo c_leapsThen c_lands c_row c_rowMany c_endsAt) H := hP
  have hD : va_D A (zwM cI cC f c_r q10.2 c_tape c_letter c_letterAt c_number c_taped c_at c_statements c_kept c_hasImage c_isKeeping c_cursor c_poled c_barred c_leapsTo c_leapsThen c_lands c_row c_rowMany c_endsAt) := hD
  subst hQ
  exact retRW (zz := ((q10.1, c_r, q10.2, c_kept, c_isKeeping, c_cursor) : Int32 × RT × AR × AR × Int32 × Int32)) (fun z => z.1) (fun z => (zwM cI cC f z.2.1 z.2.2.1 c_tape c_letter c_letterAt c_number c_taped c_at c_statements z.2.2.2.1 c_hasImage z.2.2.2.2.1 z.2.2.2.2.2 c_poled c_barred c_leapsTo c_leapsThen c_lands c_row c_rowMany c_endsAt)) hx hb hr hlocks rfl hS h rfl hP dX4_on_13
theorem dX4_turned_0 : decode cX4_turned 0 = .ok (.iload_n 0, 1) := by decide +kernel
theorem dX4_turned_1 : decode cX4_turned 1 = .ok (.bipush 6, 2) := by decide +kernel
theorem dX4_turned_3 : decode cX4_turned 3 = .ok (.irem, 1) := by decide +kernel
theorem dX4_turned_4 : decode cX4_turned 4 = .ok (.iconst 3, 1) := by decide +kernel
theorem dX4_turned_5 : decode cX4_turned 5 = .ok (.if_icmp .le 13, 3) := by decide +kernel
theorem dX4_turned_8 : decode cX4_turned 8 = .ok (.bipush 6, 2) := by decide +kernel
theorem dX4_turned_10 : decode cX4_turned 10 = .ok (.iload_n 0, 1) := by decide +kernel
theorem dX4_turned_11 : decode cX4_turned 11 = .ok (.bipush 6, 2) := by decide +kernel
theorem dX4_turned_13 : decode cX4_turned 13 = .ok (.irem, 1) := by decide +kernel
theorem dX4_turned_14 : decode cX4_turned 14 = .ok (.isub, 1) := by decide +kernel
theorem dX4_turned_15 : decode cX4_turned 15 = .ok (.goto 7, 3) := by decide +kernel
theorem dX4_turned_18 : decode cX4_turned 18 = .ok (.iload_n 0, 1) := by decide +kernel
theorem dX4_turned_19 : decode cX4_turned 19 = .ok (.bipush 6, 2) := by decide +kernel
theorem dX4_turned_21 : decode cX4_turned 21 = .ok (.irem, 1) := by decide +kernel
theorem dX4_turned_22 : decode cX4_turned 22 = .ok (.ireturn, 1) := by decide +kernel
set_option maxHeartbeats 4000000 in
set_option maxRecDepth 100000 in
theorem mX4_turned (l : Launch) (dC : Nat → ClassId) (dI : Nat → Nat → Nat) (cI cC : ClassId) (sk : (Nat → Nat) × (Nat → Nat))  (p0 : Int32)  (z : Int32) (h : fX4_turned p0 = some z) : cRO l yX4_turned wsX4_turned (RMk 0 0) sk (dC, dI) (tyz cI cC) ([] : va_W) [.int p0] z := by
  refine ofRO (cc := cX4_turned) (maxL := 1) (ret := (some .int)) (own := RX4) (plainFor_of_name (by decide)) rfl rfl (Nat.le_of_ble_eq_true rfl) ?_
  intro p e s m args below meth c hx hb hml hr hts hown hlocks hE hK hP hS ls hl
  generalize hQ : qRO _ _ _ _ = Q
  have hl : lv_has ls 1 [(0, .int p0)] := hl
  rw [fX4_turned] at h
  refine lv_iload_n hx hb dX4_turned_0 rfl (lv_at hl 0 rfl) ?_
  refine lv_bipush (v := (6 : Int32)) hx hb dX4_turned_1 (by decide) ?_
  refine lv_irem hx hb dX4_turned_3 (by decide) ?_
  refine lv_iconst (v := (3 : Int32)) hx hb dX4_turned_4 (by decide) ?_
  refine lv_icmp_le (tgt := 18) hx hb dX4_turned_5 (by decide) (fun c5 => ?_) (fun c5 => ?_)
  · have h := itT c5 h
    refine lv_iload_n hx hb dX4_turned_18 rfl (lv_at hl 0 rfl) ?_
    refine lv_bipush (v := (6 : Int32)) hx hb dX4_turned_19 (by decide) ?_
    refine lv_irem hx hb dX4_turned_21 (by decide) ?_
    subst hQ
    exact retRO hx hb hr hlocks rfl hS h dX4_turned_22
  have h := itF c5 h
  refine lv_bipush (v := (6 : Int32)) hx hb dX4_turned_8 (by decide) ?_
  refine lv_iload_n hx hb dX4_turned_10 rfl (lv_at hl 0 rfl) ?_
  refine lv_bipush (v := (6 : Int32)) hx hb dX4_turned_11 (by decide) ?_
  refine lv_irem hx hb dX4_turned_13 (by decide) ?_
  refine lv_isub hx hb dX4_turned_14 ?_
  refine lv_goto (tgt := 22) hx hb dX4_turned_15 (by decide) ?_
  subst hQ
  exact retRO hx hb hr hlocks rfl hS h dX4_turned_22
theorem dX4_round_0 : decode cX4_round 0 = .ok (.iload_n 0, 1) := by decide +kernel
theorem dX4_round_1 : decode cX4_round 1 = .ok (.bipush 10, 2) := by decide +kernel
theorem dX4_round_3 : decode cX4_round 3 = .ok (.irem, 1) := by decide +kernel
theorem dX4_round_4 : decode cX4_round 4 = .ok (.bipush 10, 2) := by decide +kernel
theorem dX4_round_6 : decode cX4_round 6 = .ok (.iadd, 1) := by decide +kernel
theorem dX4_round_7 : decode cX4_round 7 = .ok (.bipush 10, 2) := by decide +kernel
theorem dX4_round_9 : decode cX4_round 9 = .ok (.irem, 1) := by decide +kernel
theorem dX4_round_10 : decode cX4_round 10 = .ok (.ireturn, 1) := by decide +kernel
set_option maxHeartbeats 4000000 in
set_option maxRecDepth 100000 in
theorem mX4_round (l : Launch) (dC : Nat → ClassId) (dI : Nat → Nat → Nat) (cI cC : ClassId) (sk : (Nat → Nat) × (Nat → Nat))  (p0 : Int32)  (z : Int32) (h : fX4_round p0 = some z) : cRO l yX4_round wsX4_round (RMk 0 0) sk (dC, dI) (tyz cI cC) ([] : va_W) [.int p0] z := by
  refine ofRO (cc := cX4_round) (maxL := 1) (ret := (some .int)) (own := RX4) (plainFor_of_name (by decide)) rfl rfl (Nat.le_of_ble_eq_true rfl) ?_
  intro p e s m args below meth c hx hb hml hr hts hown hlocks hE hK hP hS ls hl
  generalize hQ : qRO _ _ _ _ = Q
  have hl : lv_has ls 1 [(0, .int p0)] := hl
  rw [fX4_round] at h
  refine lv_iload_n hx hb dX4_round_0 rfl (lv_at hl 0 rfl) ?_
  refine lv_bipush (v := (10 : Int32)) hx hb dX4_round_1 (by decide) ?_
  refine lv_irem hx hb dX4_round_3 (by decide) ?_
  refine lv_bipush (v := (10 : Int32)) hx hb dX4_round_4 (by decide) ?_
  refine lv_iadd hx hb dX4_round_6 ?_
  refine lv_bipush (v := (10 : Int32)) hx hb dX4_round_7 (by decide) ?_
  refine lv_irem hx hb dX4_round_9 (by decide) ?_
  subst hQ
  exact retRO hx hb hr hlocks rfl hS h dX4_round_10
theorem dX4_whereIs_0 : decode cX4_whereIs 0 = .ok (.aload_n 0, 1) := by decide +kernel
theorem dX4_whereIs_1 : decode cX4_whereIs 1 = .ok (.getfield 132, 3) := by decide +kernel
theorem dX4_whereIs_4 : decode cX4_whereIs 4 = .ok (.iload_n 1, 1) := by decide +kernel
theorem dX4_whereIs_5 : decode cX4_whereIs 5 = .ok (.ishr, 1) := by decide +kernel
theorem dX4_whereIs_6 : decode cX4_whereIs 6 = .ok (.iconst 1, 1) := by decide +kernel
theorem dX4_whereIs_7 : decode cX4_whereIs 7 = .ok (.iand, 1) := by decide +kernel
theorem dX4_whereIs_8 : decode cX4_whereIs 8 = .ok (.iconst 1, 1) := by decide +kernel
theorem dX4_whereIs_9 : decode cX4_whereIs 9 = .ok (.if_icmp .ne 10, 3) := by decide +kernel
theorem dX4_whereIs_12 : decode cX4_whereIs 12 = .ok (.aload_n 0, 1) := by decide +kernel
theorem dX4_whereIs_13 : decode cX4_whereIs 13 = .ok (.getfield 101, 3) := by decide +kernel
theorem dX4_whereIs_16 : decode cX4_whereIs 16 = .ok (.goto 4, 3) := by decide +kernel
theorem dX4_whereIs_19 : decode cX4_whereIs 19 = .ok (.iload_n 2, 1) := by decide +kernel
theorem dX4_whereIs_20 : decode cX4_whereIs 20 = .ok (.istore_n 3, 1) := by decide +kernel
theorem dX4_whereIs_21 : decode cX4_whereIs 21 = .ok (.aload_n 0, 1) := by decide +kernel
theorem dX4_whereIs_22 : decode cX4_whereIs 22 = .ok (.getfield 13, 3) := by decide +kernel
theorem dX4_whereIs_25 : decode cX4_whereIs 25 = .ok (.iload_n 1, 1) := by decide +kernel
theorem dX4_whereIs_26 : decode cX4_whereIs 26 = .ok (.iaload, 1) := by decide +kernel
theorem dX4_whereIs_27 : decode cX4_whereIs 27 = .ok (.iconst 4, 1) := by decide +kernel
theorem dX4_whereIs_28 : decode cX4_whereIs 28 = .ok (.if_icmp .ne 12, 3) := by decide +kernel
theorem dX4_whereIs_31 : decode cX4_whereIs 31 = .ok (.aload_n 0, 1) := by decide +kernel
theorem dX4_whereIs_32 : decode cX4_whereIs 32 = .ok (.getfield 19, 3) := by decide +kernel
theorem dX4_whereIs_35 : decode cX4_whereIs 35 = .ok (.iload_n 1, 1) := by decide +kernel
theorem dX4_whereIs_36 : decode cX4_whereIs 36 = .ok (.iaload, 1) := by decide +kernel
theorem dX4_whereIs_37 : decode cX4_whereIs 37 = .ok (.goto 38, 3) := by decide +kernel
theorem dX4_whereIs_40 : decode cX4_whereIs 40 = .ok (.aload_n 0, 1) := by decide +kernel
theorem dX4_whereIs_41 : decode cX4_whereIs 41 = .ok (.getfield 19, 3) := by decide +kernel
theorem dX4_whereIs_44 : decode cX4_whereIs 44 = .ok (.iload_n 1, 1) := by decide +kernel
theorem dX4_whereIs_45 : decode cX4_whereIs 45 = .ok (.iaload, 1) := by decide +kernel
theorem dX4_whereIs_46 : decode cX4_whereIs 46 = .ok (.aload_n 0, 1) := by decide +kernel
theorem dX4_whereIs_47 : decode cX4_whereIs 47 = .ok (.getfield 22, 3) := by decide +kernel
theorem dX4_whereIs_50 : decode cX4_whereIs 50 = .ok (.iload_n 1, 1) := by decide +kernel
theorem dX4_whereIs_51 : decode cX4_whereIs 51 = .ok (.iaload, 1) := by decide +kernel
theorem dX4_whereIs_52 : decode cX4_whereIs 52 = .ok (.aload_n 0, 1) := by decide +kernel
theorem dX4_whereIs_53 : decode cX4_whereIs 53 = .ok (.getfield 13, 3) := by decide +kernel
theorem dX4_whereIs_56 : decode cX4_whereIs 56 = .ok (.iload_n 1, 1) := by decide +kernel
theorem dX4_whereIs_57 : decode cX4_whereIs 57 = .ok (.iaload, 1) := by decide +kernel
theorem dX4_whereIs_58 : decode cX4_whereIs 58 = .ok (.iconst 3, 1) := by decide +kernel
theorem dX4_whereIs_59 : decode cX4_whereIs 59 = .ok (.if_icmp .ne 10, 3) := by decide +kernel
theorem dX4_whereIs_62 : decode cX4_whereIs 62 = .ok (.iload_n 3, 1) := by decide +kernel
theorem dX4_whereIs_63 : decode cX4_whereIs 63 = .ok (.invokestatic 135, 3) := by decide +kernel
theorem dX4_whereIs_66 : decode cX4_whereIs 66 = .ok (.goto 4, 3) := by decide +kernel
theorem dX4_whereIs_69 : decode cX4_whereIs 69 = .ok (.iload_n 3, 1) := by decide +kernel
theorem dX4_whereIs_70 : decode cX4_whereIs 70 = .ok (.imul, 1) := by decide +kernel
theorem dX4_whereIs_71 : decode cX4_whereIs 71 = .ok (.iadd, 1) := by decide +kernel
theorem dX4_whereIs_72 : decode cX4_whereIs 72 = .ok (.invokestatic 138, 3) := by decide +kernel
theorem dX4_whereIs_75 : decode cX4_whereIs 75 = .ok (.ireturn, 1) := by decide +kernel
set_option maxRecDepth 20000 in
theorem ggX4_whereIs_X4_turned : GoodIn wsX4_whereIs wsX4_turned := goodIn_r _ [9] (by decide +kernel) (by decide +kernel)
set_option maxRecDepth 20000 in
theorem gX4_whereIs_X4_turned : GoodIn wsX4_whereIs (va_wsS RX4 135 yX4_turned wsX4_turned) := goodIn_app (goodIn_of _ (by decide +kernel)) ggX4_whereIs_X4_turned
set_option maxRecDepth 20000 in
theorem ggX4_whereIs_X4_round : GoodIn wsX4_whereIs wsX4_round := goodIn_r _ [12] (by decide +kernel) (by decide +kernel)
set_option maxRecDepth 20000 in
theorem gX4_whereIs_X4_round : GoodIn wsX4_whereIs (va_wsS RX4 138 yX4_round wsX4_round) := goodIn_app (goodIn_of _ (by decide +kernel)) ggX4_whereIs_X4_round
set_option maxHeartbeats 4000000 in
set_option maxRecDepth 100000 in
theorem mX4_whereIs (l : Launch) (dC : Nat → ClassId) (dI : Nat → Nat → Nat) (cI cC : ClassId) (sk : (Nat → Nat) × (Nat → Nat)) (f : Nat → Nat) (p1 : Int32) (p2 : Int32) (c_r : RT) (c_refused : AR) (c_tape : AR) (c_letter : AR) (c_letterAt : AR) (c_number : AR) (c_taped : Int32) (c_at : Int32) (c_statements : Int32) (c_kept : AR) (c_hasImage : Int32) (c_isKeeping : Int32) (c_cursor : Int32) (c_poled : Int32) (c_barred : Int32) (c_leapsTo : AR) (c_leapsThen : AR) (c_lands : AR) (c_row : AR) (c_rowMany : Int32) (c_endsAt : Int32) (z : Int32) (h : fX4_whereIs p1 p2 c_r c_poled = some z) : cRO l yX4_whereIs wsX4_whereIs (RMk 1 20) sk (dC, dI) (tyz cI cC) (zwM cI cC f c_r c_refused c_tape c_letter c_letterAt c_number c_taped c_at c_statements c_kept c_hasImage c_isKeeping c_cursor c_poled c_barred c_leapsTo c_leapsThen c_lands c_row c_rowMany c_endsAt) [.ref (f 0), .int p1, .int p2] z := by
  refine ofRO (cc := cX4_whereIs) (maxL := 4) (ret := (some .int)) (own := RX4) (plainFor_of_name (by decide)) rfl rfl (Nat.le_of_ble_eq_true rfl) ?_
  intro p e s m args below meth c hx hb hml hr hts hown hlocks hE hK hP hS ls hl
  generalize hQ : qRO _ _ _ _ = Q
  have hl : lv_has ls 4 [(0, .ref (f 0)), (1, .int p1), (2, .int p2)] := hl
  have hiX4 : ∀ w ∈ wsX40, w ∈ wsX4_whereIs := fun w h => List.mem_cons_of_mem _ (List.mem_append_right _ h)
  have hw1 := hts (Cond.fieldLink RX4 132 "FloeToFloeModel" "poled" "I") (List.mem_of_getElem? (i := 1) rfl)
  have hw2 := hts (Cond.fieldLink RX4 101 "FloeToFloeModel" "minute" "I") (List.mem_of_getElem? (i := 2) rfl)
  have hw3 := hts (Cond.fieldLink RX4 13 "FloeToFloeModel" "kind" "[I") (List.mem_of_getElem? (i := 3) rfl)
  have hw4 := hts (Cond.fieldLink RX4 19 "FloeToFloeModel" "cellOf" "[I") (List.mem_of_getElem? (i := 4) rfl)
  have hw5 := hts (Cond.fieldLink RX4 22 "FloeToFloeModel" "pace" "[I") (List.mem_of_getElem? (i := 5) rfl)
  rw [fX4_whereIs] at h
  refine lv_aload_n hx hb dX4_whereIs_0 rfl (lv_at hl 0 rfl) ?_
  refine va_get (D := (dC, dI)) (ci := 4) (v := .int c_poled) (C := RX4) (T := TX4) (N := 28) hx hb hts hiX4 hown hK hP 0 rfl rfl 20 (by decide) hw1 (fun _ h9 => h9) rfl dX4_whereIs_1 ?_
  refine lv_iload_n hx hb dX4_whereIs_4 rfl (lv_at hl 1 rfl) ?_
  refine lv_ishr hx hb dX4_whereIs_5 ?_
  refine lv_iconst (v := (1 : Int32)) hx hb dX4_whereIs_6 (by decide) ?_
  refine lv_iand hx hb dX4_whereIs_7 ?_
  refine lv_iconst (v := (1 : Int32)) hx hb dX4_whereIs_8 (by decide) ?_
  refine jnW (fun (v20 : Int32) => ∀ (H : Heap) (locs : List Loc) (ls : Array Slot), va_P (dC, dI) vwCl (zwM cI cC f c_r c_refused c_tape c_letter c_letterAt c_number c_taped c_at c_statements c_kept c_hasImage c_isKeeping c_cursor c_poled c_barred c_leapsTo c_leapsThen c_lands c_row c_rowMany c_endsAt) H → va_S noA s.heap H locs → lv_has ls 4 [(0, .ref (f 0)), (1, .int p1)] → W p l e (RMk 1 20) s m args below meth c H locs 0 0 Q (F0 m 20 ls [.int v20])) h (fun v20 h H locs ls hP hS hl => ?_) (fun J20 j20 h => ?_)
  · refine lv_istore_n (lv' := [(3, .int v20), (0, .ref (f 0)), (1, .int p1)]) hx hb dX4_whereIs_20 rfl hl (by decide) rfl (fun ls hl => ?_)
    refine lv_aload_n hx hb dX4_whereIs_21 rfl (lv_at hl 1 rfl) ?_
    refine va_get (D := (dC, dI)) (ci := 4) (v := .ref (f 2)) (C := RX4) (T := TX4) (N := 28) hx hb hts hiX4 hown hK hP 0 rfl rfl 1 (by decide) hw3 (fun _ h9 => h9) rfl dX4_whereIs_22 ?_
    refine lv_iload_n hx hb dX4_whereIs_25 rfl (lv_at hl 2 rfl) ?_
    obtain ⟨hin, h⟩ := ck_some h
    refine va_iald hx hb hK hP 2 0 rfl rfl hin dX4_whereIs_26 ?_
    refine lv_iconst (v := (4 : Int32)) hx hb dX4_whereIs_27 (by decide) ?_
    refine lv_icmp_ne (tgt := 40) hx hb dX4_whereIs_28 (by decide) (fun c28 => ?_) (fun c28 => ?_)
    · have h := itF c28 h
      refine lv_aload_n hx hb dX4_whereIs_40 rfl (lv_at hl 1 rfl) ?_
      refine va_get (D := (dC, dI)) (ci := 4) (v := .ref (f 4)) (C := RX4) (T := TX4) (N := 28) hx hb hts hiX4 hown hK hP 0 rfl rfl 3 (by decide) hw4 (fun _ h9 => h9) rfl dX4_whereIs_41 ?_
      refine lv_iload_n hx hb dX4_whereIs_44 rfl (lv_at hl 2 rfl) ?_
      obtain ⟨hin, h⟩ := ck_some h
      refine va_iald hx hb hK hP 4 0 rfl rfl hin dX4_whereIs_45 ?_
      refine lv_aload_n hx hb dX4_whereIs_46 rfl (lv_at hl 1 rfl) ?_
      refine va_get (D := (dC, dI)) (ci := 4) (v := .ref (f 5)) (C := RX4) (T := TX4) (N := 28) hx hb hts hiX4 hown hK hP 0 rfl rfl 4 (by decide) hw5 (fun _ h9 => h9) rfl dX4_whereIs_47 ?_
      refine lv_iload_n hx hb dX4_whereIs_50 rfl (lv_at hl 2 rfl) ?_
      obtain ⟨hin, h⟩ := ck_some h
      refine va_iald hx hb hK hP 5 0 rfl rfl hin dX4_whereIs_51 ?_
      refine lv_aload_n hx hb dX4_whereIs_52 rfl (lv_at hl 1 rfl) ?_
      refine va_get (D := (dC, dI)) (ci := 4) (v := .ref (f 2)) (C := RX4) (T := TX4) (N := 28) hx hb hts hiX4 hown hK hP 0 rfl rfl 1 (by decide) hw3 (fun _ h9 => h9) rfl dX4_whereIs_53 ?_
      refine lv_iload_n hx hb dX4_whereIs_56 rfl (lv_at hl 2 rfl) ?_
      obtain ⟨hin, h⟩ := ck_some h
      refine va_iald hx hb hK hP 2 0 rfl rfl hin dX4_whereIs_57 ?_
      refine lv_iconst (v := (3 : Int32)) hx hb dX4_whereIs_58 (by decide) ?_
      refine jnW (fun (v70 : Int32) => ∀ (H : Heap) (locs : List Loc) (ls : Array Slot), va_P (dC, dI) vwCl (zwM cI cC f c_r c_refused c_tape c_letter c_letterAt c_number c_taped c_at c_statements c_kept c_hasImage c_isKeeping c_cursor c_poled c_barred c_leapsTo c_leapsThen c_lands c_row c_rowMany c_endsAt) H → va_S noA s.heap H locs → lv_has ls 4 [] → W p l e (RMk 1 20) s m args below meth c H locs 0 0 Q (F0 m 70 ls [.int v70, .int ((R_paces c_r) (p1).toNatClampNeg), .int ((R_cells c_r) (p1).toNatClampNeg)])) h (fun v70 h H locs ls hP hS hl => ?_) (fun J70 j70 h => ?_)
      · refine lv_imul hx hb dX4_whereIs_70 ?_
        refine lv_iadd hx hb dX4_whereIs_71 ?_
        obtain ⟨q72, e72, h⟩ := bd_some h
        refine g_roS (wc := ([] : va_W)) ⟨hx, hb, hml, hown, hts⟩ hE hK hP hS [] rfl (mX4_round l dC dI cI cC sk  (((R_cells c_r) (p1).toNatClampNeg) + (((R_paces c_r) (p1).toNatClampNeg) * v70)) q72 e72) (va_cwS 1 hts gX4_whereIs_X4_round rfl rfl rfl (by decide +kernel) ⟨Nat.le_of_ble_eq_true rfl, Nat.le_of_ble_eq_true rfl⟩) (As := [.int (((R_cells c_r) (p1).toNatClampNeg) + (((R_paces c_r) (p1).toNatClampNeg) * v70))]) (rest := []) rfl hl.1 rfl (Nat.le_of_ble_eq_true rfl) dX4_whereIs_72 ⟨Nat.zero_le _, Nat.zero_le _⟩ (fun H locs hP hS => ?_)
        subst hQ
        exact retRO hx hb hr hlocks rfl hS h dX4_whereIs_75
      refine lv_icmp_ne (tgt := 69) hx hb dX4_whereIs_59 (by decide) (fun c59 => ?_) (fun c59 => ?_)
      · have h := itF c59 h
        refine lv_iload_n hx hb dX4_whereIs_69 rfl (lv_at hl 0 rfl) ?_
        exact j70 _ h _ _ _ hP hS (lv_sub hl [] rfl)
      have h := itT c59 h
      refine lv_iload_n hx hb dX4_whereIs_62 rfl (lv_at hl 0 rfl) ?_
      obtain ⟨q63, e63, h⟩ := bd_some h
      refine g_roS (wc := ([] : va_W)) ⟨hx, hb, hml, hown, hts⟩ hE hK hP hS [] rfl (mX4_turned l dC dI cI cC sk  v20 q63 e63) (va_cwS 1 hts gX4_whereIs_X4_turned rfl rfl rfl (by decide +kernel) ⟨Nat.le_of_ble_eq_true rfl, Nat.le_of_ble_eq_true rfl⟩) (As := [.int v20]) (rest := [.int ((R_paces c_r) (p1).toNatClampNeg), .int ((R_cells c_r) (p1).toNatClampNeg)]) rfl hl.1 rfl (Nat.le_of_ble_eq_true rfl) dX4_whereIs_63 ⟨Nat.zero_le _, Nat.zero_le _⟩ (fun H locs hP hS => ?_)
      refine lv_goto (tgt := 70) hx hb dX4_whereIs_66 (by decide) ?_
      exact j70 _ h _ _ _ hP hS (lv_sub hl [] rfl)
    have h := itT c28 h
    refine lv_aload_n hx hb dX4_whereIs_31 rfl (lv_at hl 1 rfl) ?_
    refine va_get (D := (dC, dI)) (ci := 4) (v := .ref (f 4)) (C := RX4) (T := TX4) (N := 28) hx hb hts hiX4 hown hK hP 0 rfl rfl 3 (by decide) hw4 (fun _ h9 => h9) rfl dX4_whereIs_32 ?_
    refine lv_iload_n hx hb dX4_whereIs_35 rfl (lv_at hl 2 rfl) ?_
    obtain ⟨hin, h⟩ := ck_some h
    refine va_iald hx hb hK hP 4 0 rfl rfl hin dX4_whereIs_36 ?_
    refine lv_goto (tgt := 75) hx hb dX4_whereIs_37 (by decide) ?_
    subst hQ
    exact retRO hx hb hr hlocks rfl hS h dX4_whereIs_75
  refine lv_icmp_ne (tgt := 19) hx hb dX4_whereIs_9 (by decide) (fun c9 => ?_) (fun c9 => ?_)
  · have h := itF c9 h
    refine lv_iload_n hx hb dX4_whereIs_19 rfl (lv_at hl 2 rfl) ?_
    exact j20 _ h _ _ _ hP hS (lv_sub hl [0, 1] rfl)
  have h := itT c9 h
  refine lv_aload_n hx hb dX4_whereIs_12 rfl (lv_at hl 0 rfl) ?_
  refine va_get (D := (dC, dI)) (ci := 4) (v := .int (R_minute c_r)) (C := RX4) (T := TX4) (N := 28) hx hb hts hiX4 hown hK hP 0 rfl rfl 8 (by decide) hw2 (fun _ h9 => h9) rfl dX4_whereIs_13 ?_
  refine lv_goto (tgt := 20) hx hb dX4_whereIs_16 (by decide) ?_
  exact j20 _ h _ _ _ hP hS (lv_sub hl [0, 1] rfl)
theorem dX4_bearsIn_0 : decode cX4_bearsIn 0 = .ok (.aload_n 0, 1) := by decide +kernel
theorem dX4_bearsIn_1 : decode cX4_bearsIn 1 = .ok (.getfield 25, 3) := by decide +kernel
theorem dX4_bearsIn_4 : decode cX4_bearsIn 4 = .ok (.iload_n 1, 1) := by decide +kernel
theorem dX4_bearsIn_5 : decode cX4_bearsIn 5 = .ok (.iaload, 1) := by decide +kernel
theorem dX4_bearsIn_6 : decode cX4_bearsIn 6 = .ok (.iload_n 2, 1) := by decide +kernel
theorem dX4_bearsIn_7 : decode cX4_bearsIn 7 = .ok (.iconst 4, 1) := by decide +kernel
theorem dX4_bearsIn_8 : decode cX4_bearsIn 8 = .ok (.idiv, 1) := by decide +kernel
theorem dX4_bearsIn_9 : decode cX4_bearsIn 9 = .ok (.if_icmp .le 16, 3) := by decide +kernel
theorem dX4_bearsIn_12 : decode cX4_bearsIn 12 = .ok (.aload_n 0, 1) := by decide +kernel
theorem dX4_bearsIn_13 : decode cX4_bearsIn 13 = .ok (.getfield 25, 3) := by decide +kernel
theorem dX4_bearsIn_16 : decode cX4_bearsIn 16 = .ok (.iload_n 1, 1) := by decide +kernel
theorem dX4_bearsIn_17 : decode cX4_bearsIn 17 = .ok (.iaload, 1) := by decide +kernel
theorem dX4_bearsIn_18 : decode cX4_bearsIn 18 = .ok (.iload_n 2, 1) := by decide +kernel
theorem dX4_bearsIn_19 : decode cX4_bearsIn 19 = .ok (.iconst 4, 1) := by decide +kernel
theorem dX4_bearsIn_20 : decode cX4_bearsIn 20 = .ok (.idiv, 1) := by decide +kernel
theorem dX4_bearsIn_21 : decode cX4_bearsIn 21 = .ok (.isub, 1) := by decide +kernel
theorem dX4_bearsIn_22 : decode cX4_bearsIn 22 = .ok (.goto 4, 3) := by decide +kernel
theorem dX4_bearsIn_25 : decode cX4_bearsIn 25 = .ok (.iconst 0, 1) := by decide +kernel
theorem dX4_bearsIn_26 : decode cX4_bearsIn 26 = .ok (.istore_n 3, 1) := by decide +kernel
theorem dX4_bearsIn_27 : decode cX4_bearsIn 27 = .ok (.aload_n 0, 1) := by decide +kernel
theorem dX4_bearsIn_28 : decode cX4_bearsIn 28 = .ok (.getfield 13, 3) := by decide +kernel
theorem dX4_bearsIn_31 : decode cX4_bearsIn 31 = .ok (.iload_n 1, 1) := by decide +kernel
theorem dX4_bearsIn_32 : decode cX4_bearsIn 32 = .ok (.iaload, 1) := by decide +kernel
theorem dX4_bearsIn_33 : decode cX4_bearsIn 33 = .ok (.tableswitch 63 1 5 #[35, 37, 63, 63, 51], 35) := by decide +kernel
theorem dX4_bearsIn_68 : decode cX4_bearsIn 68 = .ok (.iload_n 3, 1) := by decide +kernel
theorem dX4_bearsIn_69 : decode cX4_bearsIn 69 = .ok (.ireturn, 1) := by decide +kernel
theorem dX4_bearsIn_70 : decode cX4_bearsIn 70 = .ok (.iload_n 3, 1) := by decide +kernel
theorem dX4_bearsIn_71 : decode cX4_bearsIn 71 = .ok (.ifCond .le 11, 3) := by decide +kernel
theorem dX4_bearsIn_74 : decode cX4_bearsIn 74 = .ok (.iload_n 3, 1) := by decide +kernel
theorem dX4_bearsIn_75 : decode cX4_bearsIn 75 = .ok (.iload_n 2, 1) := by decide +kernel
theorem dX4_bearsIn_76 : decode cX4_bearsIn 76 = .ok (.iconst 2, 1) := by decide +kernel
theorem dX4_bearsIn_77 : decode cX4_bearsIn 77 = .ok (.irem, 1) := by decide +kernel
theorem dX4_bearsIn_78 : decode cX4_bearsIn 78 = .ok (.isub, 1) := by decide +kernel
theorem dX4_bearsIn_79 : decode cX4_bearsIn 79 = .ok (.goto 4, 3) := by decide +kernel
theorem dX4_bearsIn_82 : decode cX4_bearsIn 82 = .ok (.iconst 0, 1) := by decide +kernel
theorem dX4_bearsIn_83 : decode cX4_bearsIn 83 = .ok (.ireturn, 1) := by decide +kernel
theorem dX4_bearsIn_84 : decode cX4_bearsIn 84 = .ok (.aload_n 0, 1) := by decide +kernel
theorem dX4_bearsIn_85 : decode cX4_bearsIn 85 = .ok (.getfield 25, 3) := by decide +kernel
theorem dX4_bearsIn_88 : decode cX4_bearsIn 88 = .ok (.iload_n 1, 1) := by decide +kernel
theorem dX4_bearsIn_89 : decode cX4_bearsIn 89 = .ok (.iaload, 1) := by decide +kernel
theorem dX4_bearsIn_90 : decode cX4_bearsIn 90 = .ok (.iload_n 2, 1) := by decide +kernel
theorem dX4_bearsIn_91 : decode cX4_bearsIn 91 = .ok (.bipush 6, 2) := by decide +kernel
theorem dX4_bearsIn_93 : decode cX4_bearsIn 93 = .ok (.idiv, 1) := by decide +kernel
theorem dX4_bearsIn_94 : decode cX4_bearsIn 94 = .ok (.iadd, 1) := by decide +kernel
theorem dX4_bearsIn_95 : decode cX4_bearsIn 95 = .ok (.ireturn, 1) := by decide +kernel
theorem dX4_bearsIn_96 : decode cX4_bearsIn 96 = .ok (.aload_n 0, 1) := by decide +kernel
theorem dX4_bearsIn_97 : decode cX4_bearsIn 97 = .ok (.getfield 25, 3) := by decide +kernel
theorem dX4_bearsIn_100 : decode cX4_bearsIn 100 = .ok (.iload_n 1, 1) := by decide +kernel
theorem dX4_bearsIn_101 : decode cX4_bearsIn 101 = .ok (.iaload, 1) := by decide +kernel
theorem dX4_bearsIn_102 : decode cX4_bearsIn 102 = .ok (.ireturn, 1) := by decide +kernel
set_option maxHeartbeats 4000000 in
set_option maxRecDepth 100000 in
theorem mX4_bearsIn (l : Launch) (dC : Nat → ClassId) (dI : Nat → Nat → Nat) (cI cC : ClassId) (sk : (Nat → Nat) × (Nat → Nat)) (f : Nat → Nat) (p1 : Int32) (p2 : Int32) (c_r : RT) (c_refused : AR) (c_tape : AR) (c_letter : AR) (c_letterAt : AR) (c_number : AR) (c_taped : Int32) (c_at : Int32) (c_statements : Int32) (c_kept : AR) (c_hasImage : Int32) (c_isKeeping : Int32) (c_cursor : Int32) (c_poled : Int32) (c_barred : Int32) (c_leapsTo : AR) (c_leapsThen : AR) (c_lands : AR) (c_row : AR) (c_rowMany : Int32) (c_endsAt : Int32) (z : Int32) (h : fX4_bearsIn p1 p2 c_r = some z) : cRO l yX4_bearsIn wsX4_bearsIn (RMk 0 0) sk (dC, dI) (tyz cI cC) (zwM cI cC f c_r c_refused c_tape c_letter c_letterAt c_number c_taped c_at c_statements c_kept c_hasImage c_isKeeping c_cursor c_poled c_barred c_leapsTo c_leapsThen c_lands c_row c_rowMany c_endsAt) [.ref (f 0), .int p1, .int p2] z := by
  refine ofRO (cc := cX4_bearsIn) (maxL := 4) (ret := (some .int)) (own := RX4) (plainFor_of_name (by decide)) rfl rfl (Nat.le_of_ble_eq_true rfl) ?_
  intro p e s m args below meth c hx hb hml hr hts hown hlocks hE hK hP hS ls hl
  generalize hQ : qRO _ _ _ _ = Q
  have hl : lv_has ls 4 [(0, .ref (f 0)), (1, .int p1), (2, .int p2)] := hl
  have hiX4 : ∀ w ∈ wsX40, w ∈ wsX4_bearsIn := fun w h => List.mem_cons_of_mem _ (List.mem_append_right _ h)
  have hw1 := hts (Cond.fieldLink RX4 25 "FloeToFloeModel" "strong" "[I") (List.mem_of_getElem? (i := 1) rfl)
  have hw2 := hts (Cond.fieldLink RX4 13 "FloeToFloeModel" "kind" "[I") (List.mem_of_getElem? (i := 2) rfl)
  rw [fX4_bearsIn] at h
  refine lv_aload_n hx hb dX4_bearsIn_0 rfl (lv_at hl 0 rfl) ?_
  refine va_get (D := (dC, dI)) (ci := 4) (v := .ref (f 6)) (C := RX4) (T := TX4) (N := 28) hx hb hts hiX4 hown hK hP 0 rfl rfl 5 (by decide) hw1 (fun _ h9 => h9) rfl dX4_bearsIn_1 ?_
  refine lv_iload_n hx hb dX4_bearsIn_4 rfl (lv_at hl 1 rfl) ?_
  obtain ⟨hin, h⟩ := ck_some h
  refine va_iald hx hb hK hP 6 0 rfl rfl hin dX4_bearsIn_5 ?_
  refine lv_iload_n hx hb dX4_bearsIn_6 rfl (lv_at hl 2 rfl) ?_
  refine lv_iconst (v := (4 : Int32)) hx hb dX4_bearsIn_7 (by decide) ?_
  refine lv_idiv hx hb dX4_bearsIn_8 (by decide) ?_
  refine jnW (fun (v26 : Int32) => ∀ (H : Heap) (locs : List Loc) (ls : Array Slot), va_P (dC, dI) vwCl (zwM cI cC f c_r c_refused c_tape c_letter c_letterAt c_number c_taped c_at c_statements c_kept c_hasImage c_isKeeping c_cursor c_poled c_barred c_leapsTo c_leapsThen c_lands c_row c_rowMany c_endsAt) H → va_S noA s.heap H locs → lv_has ls 4 [(0, .ref (f 0)), (1, .int p1), (2, .int p2)] → W p l e (RMk 0 0) s m args below meth c H locs 0 0 Q (F0 m 26 ls [.int v26])) h (fun v26 h H locs ls hP hS hl => ?_) (fun J26 j26 h => ?_)
  · refine lv_istore_n (lv' := [(3, .int v26), (0, .ref (f 0)), (1, .int p1), (2, .int p2)]) hx hb dX4_bearsIn_26 rfl hl (by decide) rfl (fun ls hl => ?_)
    refine lv_aload_n hx hb dX4_bearsIn_27 rfl (lv_at hl 1 rfl) ?_
    refine va_get (D := (dC, dI)) (ci := 4) (v := .ref (f 2)) (C := RX4) (T := TX4) (N := 28) hx hb hts hiX4 hown hK hP 0 rfl rfl 1 (by decide) hw2 (fun _ h9 => h9) rfl dX4_bearsIn_28 ?_
    refine lv_iload_n hx hb dX4_bearsIn_31 rfl (lv_at hl 2 rfl) ?_
    obtain ⟨hin, h⟩ := ck_some h
    refine va_iald hx hb hK hP 2 0 rfl rfl hin dX4_bearsIn_32 ?_
    by_cases n1 : ((R_kinds c_r) (p1).toNatClampNeg) = (1 : Int32)
    · have h := itT n1 h
      refine lv_tableIn (off := 35) (tgt := 68) hx hb dX4_bearsIn_33 (by rw [n1]; decide) (by rw [n1]; decide) (by rw [n1]; decide) (by decide) ?_
      refine lv_iload_n hx hb dX4_bearsIn_68 rfl (lv_at hl 0 rfl) ?_
      subst hQ
      exact retRO hx hb hr hlocks rfl hS h dX4_bearsIn_69
    have h := itF n1 h
    by_cases n2 : ((R_kinds c_r) (p1).toNatClampNeg) = (2 : Int32)
    · have h := itT n2 h
      refine lv_tableIn (off := 37) (tgt := 70) hx hb dX4_bearsIn_33 (by rw [n2]; decide) (by rw [n2]; decide) (by rw [n2]; decide) (by decide) ?_
      refine lv_iload_n hx hb dX4_bearsIn_70 rfl (lv_at hl 0 rfl) ?_
      refine lv_if_le (tgt := 82) hx hb dX4_bearsIn_71 (by decide) (fun c71 => ?_) (fun c71 => ?_)
      · have h := itT c71 h
        refine lv_iconst (v := (0 : Int32)) hx hb dX4_bearsIn_82 (by decide) ?_
        subst hQ
        exact retRO hx hb hr hlocks rfl hS h dX4_bearsIn_83
      have h := itF c71 h
      refine lv_iload_n hx hb dX4_bearsIn_74 rfl (lv_at hl 0 rfl) ?_
      refine lv_iload_n hx hb dX4_bearsIn_75 rfl (lv_at hl 3 rfl) ?_
      refine lv_iconst (v := (2 : Int32)) hx hb dX4_bearsIn_76 (by decide) ?_
      refine lv_irem hx hb dX4_bearsIn_77 (by decide) ?_
      refine lv_isub hx hb dX4_bearsIn_78 ?_
      refine lv_goto (tgt := 83) hx hb dX4_bearsIn_79 (by decide) ?_
      subst hQ
      exact retRO hx hb hr hlocks rfl hS h dX4_bearsIn_83
    have h := itF n2 h
    by_cases n3 : ((R_kinds c_r) (p1).toNatClampNeg) = (3 : Int32)
    · have h := itT n3 h
      refine lv_tableIn (off := 63) (tgt := 96) hx hb dX4_bearsIn_33 (by rw [n3]; decide) (by rw [n3]; decide) (by rw [n3]; decide) (by decide) ?_
      refine lv_aload_n hx hb dX4_bearsIn_96 rfl (lv_at hl 1 rfl) ?_
      refine va_get (D := (dC, dI)) (ci := 4) (v := .ref (f 6)) (C := RX4) (T := TX4) (N := 28) hx hb hts hiX4 hown hK hP 0 rfl rfl 5 (by decide) hw1 (fun _ h9 => h9) rfl dX4_bearsIn_97 ?_
      refine lv_iload_n hx hb dX4_bearsIn_100 rfl (lv_at hl 2 rfl) ?_
      obtain ⟨hin, h⟩ := ck_some h
      refine va_iald hx hb hK hP 6 0 rfl rfl hin dX4_bearsIn_101 ?_
      subst hQ
      exact retRO hx hb hr hlocks rfl hS h dX4_bearsIn_102
    have h := itF n3 h
    by_cases n4 : ((R_kinds c_r) (p1).toNatClampNeg) = (4 : Int32)
    · have h := itT n4 h
      refine lv_tableIn (off := 63) (tgt := 96) hx hb dX4_bearsIn_33 (by rw [n4]; decide) (by rw [n4]; decide) (by rw [n4]; decide) (by decide) ?_
      refine lv_aload_n hx hb dX4_bearsIn_96 rfl (lv_at hl 1 rfl) ?_
      refine va_get (D := (dC, dI)) (ci := 4) (v := .ref (f 6)) (C := RX4) (T := TX4) (N := 28) hx hb hts hiX4 hown hK hP 0 rfl rfl 5 (by decide) hw1 (fun _ h9 => h9) rfl dX4_bearsIn_97 ?_
      refine lv_iload_n hx hb dX4_bearsIn_100 rfl (lv_at hl 2 rfl) ?_
      obtain ⟨hin, h⟩ := ck_some h
      refine va_iald hx hb hK hP 6 0 rfl rfl hin dX4_bearsIn_101 ?_
      subst hQ
      exact retRO hx hb hr hlocks rfl hS h dX4_bearsIn_102
    have h := itF n4 h
    by_cases n5 : ((R_kinds c_r) (p1).toNatClampNeg) = (5 : Int32)
    · have h := itT n5 h
      refine lv_tableIn (off := 51) (tgt := 84) hx hb dX4_bearsIn_33 (by rw [n5]; decide) (by rw [n5]; decide) (by rw [n5]; decide) (by decide) ?_
      refine lv_aload_n hx hb dX4_bearsIn_84 rfl (lv_at hl 1 rfl) ?_
      refine va_get (D := (dC, dI)) (ci := 4) (v := .ref (f 6)) (C := RX4) (T := TX4) (N := 28) hx hb hts hiX4 hown hK hP 0 rfl rfl 5 (by decide) hw1 (fun _ h9 => h9) rfl dX4_bearsIn_85 ?_
      refine lv_iload_n hx hb dX4_bearsIn_88 rfl (lv_at hl 2 rfl) ?_
      obtain ⟨hin, h⟩ := ck_some h
      refine va_iald hx hb hK hP 6 0 rfl rfl hin dX4_bearsIn_89 ?_
      refine lv_iload_n hx hb dX4_bearsIn_90 rfl (lv_at hl 3 rfl) ?_
      refine lv_bipush (v := (6 : Int32)) hx hb dX4_bearsIn_91 (by decide) ?_
      refine lv_idiv hx hb dX4_bearsIn_93 (by decide) ?_
      refine lv_iadd hx hb dX4_bearsIn_94 ?_
      subst hQ
      exact retRO hx hb hr hlocks rfl hS h dX4_bearsIn_95
    have h := itF n5 h
    have m1 := neI n1 (i := 1) rfl
    have m2 := neI n2 (i := 2) rfl
    have m3 := neI n3 (i := 3) rfl
    have m4 := neI n4 (i := 4) rfl
    have m5 := neI n5 (i := 5) rfl
    refine lv_tableOut (tgt := 96) hx hb dX4_bearsIn_33 (by omega) (by decide) ?_
    refine lv_aload_n hx hb dX4_bearsIn_96 rfl (lv_at hl 1 rfl) ?_
    refine va_get (D := (dC, dI)) (ci := 4) (v := .ref (f 6)) (C := RX4) (T := TX4) (N := 28) hx hb hts hiX4 hown hK hP 0 rfl rfl 5 (by decide) hw1 (fun _ h9 => h9) rfl dX4_bearsIn_97 ?_
    refine lv_iload_n hx hb dX4_bearsIn_100 rfl (lv_at hl 2 rfl) ?_
    obtain ⟨hin, h⟩ := ck_some h
    refine va_iald hx hb hK hP 6 0 rfl rfl hin dX4_bearsIn_101 ?_
    subst hQ
    exact retRO hx hb hr hlocks rfl hS h dX4_bearsIn_102
  refine lv_icmp_le (tgt := 25) hx hb dX4_bearsIn_9 (by decide) (fun c9 => ?_) (fun c9 => ?_)
  · have h := itT c9 h
    refine lv_iconst (v := (0 : Int32)) hx hb dX4_bearsIn_25 (by decide) ?_
    exact j26 _ h _ _ _ hP hS (lv_sub hl [0, 1, 2] rfl)
  have h := itF c9 h
  refine lv_aload_n hx hb dX4_bearsIn_12 rfl (lv_at hl 0 rfl) ?_
  refine va_get (D := (dC, dI)) (ci := 4) (v := .ref (f 6)) (C := RX4) (T := TX4) (N := 28) hx hb hts hiX4 hown hK hP 0 rfl rfl 5 (by decide) hw1 (fun _ h9 => h9) rfl dX4_bearsIn_13 ?_
  refine lv_iload_n hx hb dX4_bearsIn_16 rfl (lv_at hl 1 rfl) ?_
  obtain ⟨hin, h⟩ := ck_some h
  refine va_iald hx hb hK hP 6 0 rfl rfl hin dX4_bearsIn_17 ?_
  refine lv_iload_n hx hb dX4_bearsIn_18 rfl (lv_at hl 2 rfl) ?_
  refine lv_iconst (v := (4 : Int32)) hx hb dX4_bearsIn_19 (by decide) ?_
  refine lv_idiv hx hb dX4_bearsIn_20 (by decide) ?_
  refine lv_isub hx hb dX4_bearsIn_21 ?_
  refine lv_goto (tgt := 26) hx hb dX4_bearsIn_22 (by decide) ?_
  exact j26 _ h _ _ _ hP hS (lv_sub hl [0, 1, 2] rfl)
theorem dX4_floe_0 : decode cX4_floe 0 = .ok (.aload_n 0, 1) := by decide +kernel
theorem dX4_floe_1 : decode cX4_floe 1 = .ok (.iload_n 1, 1) := by decide +kernel
theorem dX4_floe_2 : decode cX4_floe 2 = .ok (.invokevirtual 141, 3) := by decide +kernel
theorem dX4_floe_5 : decode cX4_floe 5 = .ok (.ifCond .ne 9, 3) := by decide +kernel
theorem dX4_floe_8 : decode cX4_floe 8 = .ok (.aload_n 0, 1) := by decide +kernel
theorem dX4_floe_9 : decode cX4_floe 9 = .ok (.iconst (-1), 1) := by decide +kernel
theorem dX4_floe_10 : decode cX4_floe 10 = .ok (.invokevirtual 73, 3) := by decide +kernel
theorem dX4_floe_13 : decode cX4_floe 13 = .ok (.ireturn, 1) := by decide +kernel
theorem dX4_floe_14 : decode cX4_floe 14 = .ok (.iload_n 2, 1) := by decide +kernel
theorem dX4_floe_15 : decode cX4_floe 15 = .ok (.tableswitch 70 0 4 #[33, 40, 47, 54, 63], 33) := by decide +kernel
theorem dX4_floe_48 : decode cX4_floe 48 = .ok (.aload_n 0, 1) := by decide +kernel
theorem dX4_floe_49 : decode cX4_floe 49 = .ok (.getfield 13, 3) := by decide +kernel
theorem dX4_floe_52 : decode cX4_floe 52 = .ok (.iload_n 1, 1) := by decide +kernel
theorem dX4_floe_53 : decode cX4_floe 53 = .ok (.iaload, 1) := by decide +kernel
theorem dX4_floe_54 : decode cX4_floe 54 = .ok (.ireturn, 1) := by decide +kernel
theorem dX4_floe_55 : decode cX4_floe 55 = .ok (.aload_n 0, 1) := by decide +kernel
theorem dX4_floe_56 : decode cX4_floe 56 = .ok (.getfield 16, 3) := by decide +kernel
theorem dX4_floe_59 : decode cX4_floe 59 = .ok (.iload_n 1, 1) := by decide +kernel
theorem dX4_floe_60 : decode cX4_floe 60 = .ok (.iaload, 1) := by decide +kernel
theorem dX4_floe_61 : decode cX4_floe 61 = .ok (.ireturn, 1) := by decide +kernel
theorem dX4_floe_62 : decode cX4_floe 62 = .ok (.aload_n 0, 1) := by decide +kernel
theorem dX4_floe_63 : decode cX4_floe 63 = .ok (.getfield 19, 3) := by decide +kernel
theorem dX4_floe_66 : decode cX4_floe 66 = .ok (.iload_n 1, 1) := by decide +kernel
theorem dX4_floe_67 : decode cX4_floe 67 = .ok (.iaload, 1) := by decide +kernel
theorem dX4_floe_68 : decode cX4_floe 68 = .ok (.ireturn, 1) := by decide +kernel
theorem dX4_floe_69 : decode cX4_floe 69 = .ok (.aload_n 0, 1) := by decide +kernel
theorem dX4_floe_70 : decode cX4_floe 70 = .ok (.getfield 22, 3) := by decide +kernel
theorem dX4_floe_73 : decode cX4_floe 73 = .ok (.iload_n 1, 1) := by decide +kernel
theorem dX4_floe_74 : decode cX4_floe 74 = .ok (.iaload, 1) := by decide +kernel
theorem dX4_floe_75 : decode cX4_floe 75 = .ok (.iconst 2, 1) := by decide +kernel
theorem dX4_floe_76 : decode cX4_floe 76 = .ok (.iadd, 1) := by decide +kernel
theorem dX4_floe_77 : decode cX4_floe 77 = .ok (.ireturn, 1) := by decide +kernel
theorem dX4_floe_78 : decode cX4_floe 78 = .ok (.aload_n 0, 1) := by decide +kernel
theorem dX4_floe_79 : decode cX4_floe 79 = .ok (.getfield 25, 3) := by decide +kernel
theorem dX4_floe_82 : decode cX4_floe 82 = .ok (.iload_n 1, 1) := by decide +kernel
theorem dX4_floe_83 : decode cX4_floe 83 = .ok (.iaload, 1) := by decide +kernel
theorem dX4_floe_84 : decode cX4_floe 84 = .ok (.ireturn, 1) := by decide +kernel
theorem dX4_floe_85 : decode cX4_floe 85 = .ok (.aload_n 0, 1) := by decide +kernel
theorem dX4_floe_86 : decode cX4_floe 86 = .ok (.bipush (-2), 2) := by decide +kernel
theorem dX4_floe_88 : decode cX4_floe 88 = .ok (.invokevirtual 73, 3) := by decide +kernel
theorem dX4_floe_91 : decode cX4_floe 91 = .ok (.ireturn, 1) := by decide +kernel
set_option maxRecDepth 20000 in
theorem ggX4_floe_X4_isFloe : GoodIn wsX4_floe wsX4_isFloe := goodIn_r _ [10, 11, 17, 18, 19, 20, 21, 22, 23, 24, 25, 26, 27, 28, 29, 30, 31, 32, 33, 34, 35, 36, 37, 38, 39, 40, 41, 42, 43, 44] (by decide +kernel) (by decide +kernel)
set_option maxRecDepth 20000 in
theorem gX4_floe_X4_isFloe : GoodIn wsX4_floe (wsV RX4 141 RX4 yX4_isFloe wsX4_isFloe) := goodIn_app (goodIn_of _ (by decide +kernel)) ggX4_floe_X4_isFloe
set_option maxRecDepth 20000 in
theorem ggX4_floe_X4_no : GoodIn wsX4_floe wsX4_no := goodIn_r _ [15, 16, 17, 18, 19, 20, 21, 22, 23, 24, 25, 26, 27, 28, 29, 30, 31, 32, 33, 34, 35, 36, 37, 38, 39, 40, 41, 42, 43, 44] (by decide +kernel) (by decide +kernel)
set_option maxRecDepth 20000 in
theorem gX4_floe_X4_no : GoodIn wsX4_floe (wsV RX4 73 RX4 yX4_no wsX4_no) := goodIn_app (goodIn_of _ (by decide +kernel)) ggX4_floe_X4_no
set_option maxHeartbeats 4000000 in
set_option maxRecDepth 100000 in
theorem mX4_floe (l : Launch) (dC : Nat → ClassId) (dI : Nat → Nat → Nat) (cI cC : ClassId) (sk : (Nat → Nat) × (Nat → Nat)) (f : Nat → Nat) (sz : Nat) (p1 : Int32) (p2 : Int32) (c_r : RT) (c_refused : AR) (c_tape : AR) (c_letter : AR) (c_letterAt : AR) (c_number : AR) (c_taped : Int32) (c_at : Int32) (c_statements : Int32) (c_kept : AR) (c_hasImage : Int32) (c_isKeeping : Int32) (c_cursor : Int32) (c_poled : Int32) (c_barred : Int32) (c_leapsTo : AR) (c_leapsThen : AR) (c_lands : AR) (c_row : AR) (c_rowMany : Int32) (c_endsAt : Int32) (z : Int32 × AR) (h : fX4_floe p1 p2 c_r c_refused = some z) : cRW l yX4_floe wsX4_floe (RMk 1 21) sk (dC, dI) (tyz cI cC) sz (zwM cI cC f c_r c_refused c_tape c_letter c_letterAt c_number c_taped c_at c_statements c_kept c_hasImage c_isKeeping c_cursor c_poled c_barred c_leapsTo c_leapsThen c_lands c_row c_rowMany c_endsAt) (zwM cI cC f c_r z.2 c_tape c_letter c_letterAt c_number c_taped c_at c_statements c_kept c_hasImage c_isKeeping c_cursor c_poled c_barred c_leapsTo c_leapsThen c_lands c_row c_rowMany c_endsAt) [.ref (f 0), .int p1, .int p2] z.1 := by
  refine ofRW (cc := cX4_floe) (maxL := 3) (ret := (some .int)) (own := RX4) (plainFor_of_name (by decide)) rfl rfl (Nat.le_of_ble_eq_true rfl) ?_
  intro p e s m args below meth c A hA hx hb hml hr hts hown hlocks hE hK hP hD hS ls hl
  generalize hQ : qRW _ _ _ _ _ _ _ = Q
  have hl : lv_has ls 3 [(0, .ref (f 0)), (1, .int p1), (2, .int p2)] := hl
  have hiX4 : ∀ w ∈ wsX40, w ∈ wsX4_floe := fun w h => List.mem_cons_of_mem _ (List.mem_append_right _ h)
  have hw1 := hts (Cond.fieldLink RX4 13 "FloeToFloeModel" "kind" "[I") (List.mem_of_getElem? (i := 1) rfl)
  have hw2 := hts (Cond.fieldLink RX4 16 "FloeToFloeModel" "laneOf" "[I") (List.mem_of_getElem? (i := 2) rfl)
  have hw3 := hts (Cond.fieldLink RX4 19 "FloeToFloeModel" "cellOf" "[I") (List.mem_of_getElem? (i := 3) rfl)
  have hw4 := hts (Cond.fieldLink RX4 22 "FloeToFloeModel" "pace" "[I") (List.mem_of_getElem? (i := 4) rfl)
  have hw5 := hts (Cond.fieldLink RX4 25 "FloeToFloeModel" "strong" "[I") (List.mem_of_getElem? (i := 5) rfl)
  rw [fX4_floe] at h
  refine lv_aload_n hx hb dX4_floe_0 rfl (lv_at hl 0 rfl) ?_
  refine lv_iload_n hx hb dX4_floe_1 rfl (lv_at hl 1 rfl) ?_
  obtain ⟨q2, e2, h⟩ := bd_some h
  refine g_roV (wc := (zwM cI cC f c_r c_refused c_tape c_letter c_letterAt c_number c_taped c_at c_statements c_kept c_hasImage c_isKeeping c_cursor c_poled c_barred c_leapsTo c_leapsThen c_lands c_row c_rowMany c_endsAt)) ⟨hx, hb, hml, hown, hts⟩ hE hK hP hS [0, 1, 2, 3, 4, 5, 6, 7, 8, 9, 10, 11, 12, 13, 14, 15] rfl (mX4_isFloe l dC dI cI cC sk f p1 c_r c_refused c_tape c_letter c_letterAt c_number c_taped c_at c_statements c_kept c_hasImage c_isKeeping c_cursor c_poled c_barred c_leapsTo c_leapsThen c_lands c_row c_rowMany c_endsAt q2 e2) (cwV 1 hts gX4_floe_X4_isFloe rfl rfl rfl (by decide +kernel) ⟨Nat.le_of_ble_eq_true rfl, Nat.le_of_ble_eq_true rfl⟩) (va_recv hK hP (ci := 4) (q0 := 0) rfl rfl) (As := [.int p1]) (rest := []) rfl hl.1 rfl (Nat.le_of_ble_eq_true rfl) dX4_floe_2 ⟨Nat.zero_le _, Nat.zero_le _⟩ (fun H locs hP hS => ?_)
  refine lv_if_ne (tgt := 14) hx hb dX4_floe_5 (by decide) (fun c5 => ?_) (fun c5 => ?_)
  · have h := itF c5 h
    refine lv_iload_n hx hb dX4_floe_14 rfl (lv_at hl 2 rfl) ?_
    by_cases n0 : p2 = (0 : Int32)
    · have h := itT n0 h
      refine lv_tableIn (off := 33) (tgt := 48) hx hb dX4_floe_15 (by rw [n0]; decide) (by rw [n0]; decide) (by rw [n0]; decide) (by decide) ?_
      refine lv_aload_n hx hb dX4_floe_48 rfl (lv_at hl 0 rfl) ?_
      refine va_get (D := (dC, dI)) (ci := 4) (v := .ref (f 2)) (C := RX4) (T := TX4) (N := 28) hx hb hts hiX4 hown hK hP 0 rfl rfl 1 (by decide) hw1 (fun _ h9 => h9) rfl dX4_floe_49 ?_
      refine lv_iload_n hx hb dX4_floe_52 rfl (lv_at hl 1 rfl) ?_
      obtain ⟨hin, h⟩ := ck_some h
      refine va_iald hx hb hK hP 2 0 rfl rfl hin dX4_floe_53 ?_
      subst hQ
      exact retRW (zz := ((((R_kinds c_r) (p1).toNatClampNeg), c_refused) : Int32 × AR)) (fun z => z.1) (fun z => (zwM cI cC f c_r z.2 c_tape c_letter c_letterAt c_number c_taped c_at c_statements c_kept c_hasImage c_isKeeping c_cursor c_poled c_barred c_leapsTo c_leapsThen c_lands c_row c_rowMany c_endsAt)) hx hb hr hlocks rfl hS h rfl hP dX4_floe_54
    have h := itF n0 h
    by_cases n1 : p2 = (1 : Int32)
    · have h := itT n1 h
      refine lv_tableIn (off := 40) (tgt := 55) hx hb dX4_floe_15 (by rw [n1]; decide) (by rw [n1]; decide) (by rw [n1]; decide) (by decide) ?_
      refine lv_aload_n hx hb dX4_floe_55 rfl (lv_at hl 0 rfl) ?_
      refine va_get (D := (dC, dI)) (ci := 4) (v := .ref (f 3)) (C := RX4) (T := TX4) (N := 28) hx hb hts hiX4 hown hK hP 0 rfl rfl 2 (by decide) hw2 (fun _ h9 => h9) rfl dX4_floe_56 ?_
      refine lv_iload_n hx hb dX4_floe_59 rfl (lv_at hl 1 rfl) ?_
      obtain ⟨hin, h⟩ := ck_some h
      refine va_iald hx hb hK hP 3 0 rfl rfl hin dX4_floe_60 ?_
      subst hQ
      exact retRW (zz := ((((R_homes c_r) (p1).toNatClampNeg), c_refused) : Int32 × AR)) (fun z => z.1) (fun z => (zwM cI cC f c_r z.2 c_tape c_letter c_letterAt c_number c_taped c_at c_statements c_kept c_hasImage c_isKeeping c_cursor c_poled c_barred c_leapsTo c_leapsThen c_lands c_row c_rowMany c_endsAt)) hx hb hr hlocks rfl hS h rfl hP dX4_floe_61
    have h := itF n1 h
    by_cases n2 : p2 = (2 : Int32)
    · have h := itT n2 h
      refine lv_tableIn (off := 47) (tgt := 62) hx hb dX4_floe_15 (by rw [n2]; decide) (by rw [n2]; decide) (by rw [n2]; decide) (by decide) ?_
      refine lv_aload_n hx hb dX4_floe_62 rfl (lv_at hl 0 rfl) ?_
      refine va_get (D := (dC, dI)) (ci := 4) (v := .ref (f 4)) (C := RX4) (T := TX4) (N := 28) hx hb hts hiX4 hown hK hP 0 rfl rfl 3 (by decide) hw3 (fun _ h9 => h9) rfl dX4_floe_63 ?_
      refine lv_iload_n hx hb dX4_floe_66 rfl (lv_at hl 1 rfl) ?_
      obtain ⟨hin, h⟩ := ck_some h
      refine va_iald hx hb hK hP 4 0 rfl rfl hin dX4_floe_67 ?_
      subst hQ
      exact retRW (zz := ((((R_cells c_r) (p1).toNatClampNeg), c_refused) : Int32 × AR)) (fun z => z.1) (fun z => (zwM cI cC f c_r z.2 c_tape c_letter c_letterAt c_number c_taped c_at c_statements c_kept c_hasImage c_isKeeping c_cursor c_poled c_barred c_leapsTo c_leapsThen c_lands c_row c_rowMany c_endsAt)) hx hb hr hlocks rfl hS h rfl hP dX4_floe_68
    have h := itF n2 h
    by_cases n3 : p2 = (3 : Int32)
    · have h := itT n3 h
      refine lv_tableIn (off := 54) (tgt := 69) hx hb dX4_floe_15 (by rw [n3]; decide) (by rw [n3]; decide) (by rw [n3]; decide) (by decide) ?_
      refine lv_aload_n hx hb dX4_floe_69 rfl (lv_at hl 0 rfl) ?_
      refine va_get (D := (dC, dI)) (ci := 4) (v := .ref (f 5)) (C := RX4) (T := TX4) (N := 28) hx hb hts hiX4 hown hK hP 0 rfl rfl 4 (by decide) hw4 (fun _ h9 => h9) rfl dX4_floe_70 ?_
      refine lv_iload_n hx hb dX4_floe_73 rfl (lv_at hl 1 rfl) ?_
      obtain ⟨hin, h⟩ := ck_some h
      refine va_iald hx hb hK hP 5 0 rfl rfl hin dX4_floe_74 ?_
      refine lv_iconst (v := (2 : Int32)) hx hb dX4_floe_75 (by decide) ?_
      refine lv_iadd hx hb dX4_floe_76 ?_
      subst hQ
      exact retRW (zz := (((((R_paces c_r) (p1).toNatClampNeg) + (2 : Int32)), c_refused) : Int32 × AR)) (fun z => z.1) (fun z => (zwM cI cC f c_r z.2 c_tape c_letter c_letterAt c_number c_taped c_at c_statements c_kept c_hasImage c_isKeeping c_cursor c_poled c_barred c_leapsTo c_leapsThen c_lands c_row c_rowMany c_endsAt)) hx hb hr hlocks rfl hS h rfl hP dX4_floe_77
    have h := itF n3 h
    by_cases n4 : p2 = (4 : Int32)
    · have h := itT n4 h
      refine lv_tableIn (off := 63) (tgt := 78) hx hb dX4_floe_15 (by rw [n4]; decide) (by rw [n4]; decide) (by rw [n4]; decide) (by decide) ?_
      refine lv_aload_n hx hb dX4_floe_78 rfl (lv_at hl 0 rfl) ?_
      refine va_get (D := (dC, dI)) (ci := 4) (v := .ref (f 6)) (C := RX4) (T := TX4) (N := 28) hx hb hts hiX4 hown hK hP 0 rfl rfl 5 (by decide) hw5 (fun _ h9 => h9) rfl dX4_floe_79 ?_
      refine lv_iload_n hx hb dX4_floe_82 rfl (lv_at hl 1 rfl) ?_
      obtain ⟨hin, h⟩ := ck_some h
      refine va_iald hx hb hK hP 6 0 rfl rfl hin dX4_floe_83 ?_
      subst hQ
      exact retRW (zz := ((((R_strengths c_r) (p1).toNatClampNeg), c_refused) : Int32 × AR)) (fun z => z.1) (fun z => (zwM cI cC f c_r z.2 c_tape c_letter c_letterAt c_number c_taped c_at c_statements c_kept c_hasImage c_isKeeping c_cursor c_poled c_barred c_leapsTo c_leapsThen c_lands c_row c_rowMany c_endsAt)) hx hb hr hlocks rfl hS h rfl hP dX4_floe_84
    have h := itF n4 h
    have m0 := neI n0 (i := 0) rfl
    have m1 := neI n1 (i := 1) rfl
    have m2 := neI n2 (i := 2) rfl
    have m3 := neI n3 (i := 3) rfl
    have m4 := neI n4 (i := 4) rfl
    refine lv_tableOut (tgt := 85) hx hb dX4_floe_15 (by omega) (by decide) ?_
    refine lv_aload_n hx hb dX4_floe_85 rfl (lv_at hl 0 rfl) ?_
    refine lv_bipush (v := (-2 : Int32)) hx hb dX4_floe_86 (by decide) ?_
    obtain ⟨q88, e88, h⟩ := bd_some h
    refine g_rwV (wc := (zwM cI cC f c_r c_refused c_tape c_letter c_letterAt c_number c_taped c_at c_statements c_kept c_hasImage c_isKeeping c_cursor c_poled c_barred c_leapsTo c_leapsThen c_lands c_row c_rowMany c_endsAt)) (wc' := (zwM cI cC f c_r q88.2 c_tape c_letter c_letterAt c_number c_taped c_at c_statements c_kept c_hasImage c_isKeeping c_cursor c_poled c_barred c_leapsTo c_leapsThen c_lands c_row c_rowMany c_endsAt)) ⟨hx, hb, hml, hown, hts⟩ hE hK hA hP hD hS [0, 1, 2, 3, 4, 5, 6, 7, 8, 9, 10, 11, 12, 13, 14, 15] rfl rfl rfl (mX4_no l dC dI cI cC sk f H.size (-2 : Int32) c_r c_refused c_tape c_letter c_letterAt c_number c_taped c_at c_statements c_kept c_hasImage c_isKeeping c_cursor c_poled c_barred c_leapsTo c_leapsThen c_lands c_row c_rowMany c_endsAt q88 e88) (cwV 1 hts gX4_floe_X4_no rfl rfl rfl (by decide +kernel) ⟨Nat.le_of_ble_eq_true rfl, Nat.le_of_ble_eq_true rfl⟩) (va_recv hK hP (ci := 4) (q0 := 0) rfl rfl) (As := [.int (-2 : Int32)]) (rest := []) rfl hl.1 rfl (Nat.le_of_ble_eq_true rfl) dX4_floe_88 ⟨Nat.zero_le _, Nat.zero_le _⟩ (fun H locs hP hD hS => ?_)
    have hP : va_P (dC, dI) vwCl (zwM cI cC f c_r q88.2 c_tape c_letter c_letterAt c_number c_taped c_at c_statements c_kept c_hasImage c_isKeeping c_cursor c_poled c_barred c_leapsTo c_leapsThen c_lands c_row c_rowMany c_endsAt) H := hP
    have hD : va_D A (zwM cI cC f c_r q88.2 c_tape c_letter c_letterAt c_number c_taped c_at c_statements c_kept c_hasImage c_isKeeping c_cursor c_poled c_barred c_leapsTo c_leapsThen c_lands c_row c_rowMany c_endsAt) := hD
    subst hQ
    exact retRW (zz := ((q88.1, q88.2) : Int32 × AR)) (fun z => z.1) (fun z => (zwM cI cC f c_r z.2 c_tape c_letter c_letterAt c_number c_taped c_at c_statements c_kept c_hasImage c_isKeeping c_cursor c_poled c_barred c_leapsTo c_leapsThen c_lands c_row c_rowMany c_endsAt)) hx hb hr hlocks rfl hS h rfl hP dX4_floe_91
  have h := itT c5 h
  refine lv_aload_n hx hb dX4_floe_8 rfl (lv_at hl 0 rfl) ?_
  refine lv_iconst (v := (-1 : Int32)) hx hb dX4_floe_9 (by decide) ?_
  obtain ⟨q10, e10, h⟩ := bd_some h
  refine g_rwV (wc := (zwM cI cC f c_r c_refused c_tape c_letter c_letterAt c_number c_taped c_at c_statements c_kept c_hasImage c_isKeeping c_cursor c_poled c_barred c_leapsTo c_leapsThen c_lands c_row c_rowMany c_endsAt)) (wc' := (zwM cI cC f c_r q10.2 c_tape c_letter c_letterAt c_number c_taped c_at c_statements c_kept c_hasImage c_isKeeping c_cursor c_poled c_barred c_leapsTo c_leapsThen c_lands c_row c_rowMany c_endsAt)) ⟨hx, hb, hml, hown, hts⟩ hE hK hA hP hD hS [0, 1, 2, 3, 4, 5, 6, 7, 8, 9, 10, 11, 12, 13, 14, 15] rfl rfl rfl (mX4_no l dC dI cI cC sk f H.size (-1 : Int32) c_r c_refused c_tape c_letter c_letterAt c_number c_taped c_at c_statements c_kept c_hasImage c_isKeeping c_cursor c_poled c_barred c_leapsTo c_leapsThen c_lands c_row c_rowMany c_endsAt q10 e10) (cwV 1 hts gX4_floe_X4_no rfl rfl rfl (by decide +kernel) ⟨Nat.le_of_ble_eq_true rfl, Nat.le_of_ble_eq_true rfl⟩) (va_recv hK hP (ci := 4) (q0 := 0) rfl rfl) (As := [.int (-1 : Int32)]) (rest := []) rfl hl.1 rfl (Nat.le_of_ble_eq_true rfl) dX4_floe_10 ⟨Nat.zero_le _, Nat.zero_le _⟩ (fun H locs hP hD hS => ?_)
  have hP : va_P (dC, dI) vwCl (zwM cI cC f c_r q10.2 c_tape c_letter c_letterAt c_number c_taped c_at c_statements c_kept c_hasImage c_isKeeping c_cursor c_poled c_barred c_leapsTo c_leapsThen c_lands c_row c_rowMany c_endsAt) H := hP
  have hD : va_D A (zwM cI cC f c_r q10.2 c_tape c_letter c_letterAt c_number c_taped c_at c_statements c_kept c_hasImage c_isKeeping c_cursor c_poled c_barred c_leapsTo c_leapsThen c_lands c_row c_rowMany c_endsAt) := hD
  subst hQ
  exact retRW (zz := ((q10.1, q10.2) : Int32 × AR)) (fun z => z.1) (fun z => (zwM cI cC f c_r z.2 c_tape c_letter c_letterAt c_number c_taped c_at c_statements c_kept c_hasImage c_isKeeping c_cursor c_poled c_barred c_leapsTo c_leapsThen c_lands c_row c_rowMany c_endsAt)) hx hb hr hlocks rfl hS h rfl hP dX4_floe_13
theorem dX4_is_0 : decode cX4_is 0 = .ok (.aload_n 0, 1) := by decide +kernel
theorem dX4_is_1 : decode cX4_is 1 = .ok (.iload_n 1, 1) := by decide +kernel
theorem dX4_is_2 : decode cX4_is 2 = .ok (.invokevirtual 141, 3) := by decide +kernel
theorem dX4_is_5 : decode cX4_is 5 = .ok (.ifCond .ne 7, 3) := by decide +kernel
theorem dX4_is_8 : decode cX4_is 8 = .ok (.iconst (-1), 1) := by decide +kernel
theorem dX4_is_9 : decode cX4_is 9 = .ok (.goto 10, 3) := by decide +kernel
theorem dX4_is_12 : decode cX4_is 12 = .ok (.iload_n 2, 1) := by decide +kernel
theorem dX4_is_13 : decode cX4_is 13 = .ok (.iconst 0, 1) := by decide +kernel
theorem dX4_is_14 : decode cX4_is 14 = .ok (.bipush 120, 2) := by decide +kernel
theorem dX4_is_16 : decode cX4_is 16 = .ok (.invokestatic 66, 3) := by decide +kernel
theorem dX4_is_19 : decode cX4_is 19 = .ok (.istore_n 3, 1) := by decide +kernel
theorem dX4_is_20 : decode cX4_is 20 = .ok (.iload_n 3, 1) := by decide +kernel
theorem dX4_is_21 : decode cX4_is 21 = .ok (.ifCond .eq 11, 3) := by decide +kernel
theorem dX4_is_24 : decode cX4_is 24 = .ok (.aload_n 0, 1) := by decide +kernel
theorem dX4_is_25 : decode cX4_is 25 = .ok (.iload_n 3, 1) := by decide +kernel
theorem dX4_is_26 : decode cX4_is 26 = .ok (.invokevirtual 73, 3) := by decide +kernel
theorem dX4_is_29 : decode cX4_is 29 = .ok (.goto 9, 3) := by decide +kernel
theorem dX4_is_32 : decode cX4_is 32 = .ok (.aload_n 0, 1) := by decide +kernel
theorem dX4_is_33 : decode cX4_is 33 = .ok (.iload_n 1, 1) := by decide +kernel
theorem dX4_is_34 : decode cX4_is 34 = .ok (.iload_n 2, 1) := by decide +kernel
theorem dX4_is_35 : decode cX4_is 35 = .ok (.invokevirtual 144, 3) := by decide +kernel
theorem dX4_is_38 : decode cX4_is 38 = .ok (.ireturn, 1) := by decide +kernel
set_option maxRecDepth 20000 in
theorem ggX4_is_X4_isFloe : GoodIn wsX4_is wsX4_isFloe := goodIn_r _ [5, 6, 30, 31, 32, 33, 34, 35, 36, 37, 38, 39, 40, 41, 42, 43, 44, 45, 46, 47, 48, 49, 50, 51, 52, 53, 54, 55, 56, 57] (by decide +kernel) (by decide +kernel)
set_option maxRecDepth 20000 in
theorem gX4_is_X4_isFloe : GoodIn wsX4_is (wsV RX4 141 RX4 yX4_isFloe wsX4_isFloe) := goodIn_app (goodIn_of _ (by decide +kernel)) ggX4_is_X4_isFloe
set_option maxRecDepth 20000 in
theorem ggX4_is_X4_bound : GoodIn wsX4_is wsX4_bound := goodIn_r _ [9] (by decide +kernel) (by decide +kernel)
set_option maxRecDepth 20000 in
theorem gX4_is_X4_bound : GoodIn wsX4_is (va_wsS RX4 66 yX4_bound wsX4_bound) := goodIn_app (goodIn_of _ (by decide +kernel)) ggX4_is_X4_bound
set_option maxRecDepth 20000 in
theorem ggX4_is_X4_no : GoodIn wsX4_is wsX4_no := goodIn_r _ [13, 14, 30, 31, 32, 33, 34, 35, 36, 37, 38, 39, 40, 41, 42, 43, 44, 45, 46, 47, 48, 49, 50, 51, 52, 53, 54, 55, 56, 57] (by decide +kernel) (by decide +kernel)
set_option maxRecDepth 20000 in
theorem gX4_is_X4_no : GoodIn wsX4_is (wsV RX4 73 RX4 yX4_no wsX4_no) := goodIn_app (goodIn_of _ (by decide +kernel)) ggX4_is_X4_no
set_option maxRecDepth 20000 in
theorem ggX4_is_X4_whereIs : GoodIn wsX4_is wsX4_whereIs := goodIn_r _ [18, 19, 20, 21, 22, 23, 24, 25, 4, 26, 27, 28, 29, 30, 31, 32, 33, 34, 35, 36, 37, 38, 39, 40, 41, 42, 43, 44, 45, 46, 47, 48, 49, 50, 51, 52, 53, 54, 55, 56, 57] (by decide +kernel) (by decide +kernel)
set_option maxRecDepth 20000 in
theorem gX4_is_X4_whereIs : GoodIn wsX4_is (wsV RX4 144 RX4 yX4_whereIs wsX4_whereIs) := goodIn_app (goodIn_of _ (by decide +kernel)) ggX4_is_X4_whereIs
set_option maxHeartbeats 4000000 in
set_option maxRecDepth 100000 in
theorem mX4_is (l : Launch) (dC : Nat → ClassId) (dI : Nat → Nat → Nat) (cI cC : ClassId) (sk : (Nat → Nat) × (Nat → Nat)) (f : Nat → Nat) (sz : Nat) (p1 : Int32) (p2 : Int32) (c_r : RT) (c_refused : AR) (c_tape : AR) (c_letter : AR) (c_letterAt : AR) (c_number : AR) (c_taped : Int32) (c_at : Int32) (c_statements : Int32) (c_kept : AR) (c_hasImage : Int32) (c_isKeeping : Int32) (c_cursor : Int32) (c_poled : Int32) (c_barred : Int32) (c_leapsTo : AR) (c_leapsThen : AR) (c_lands : AR) (c_row : AR) (c_rowMany : Int32) (c_endsAt : Int32) (z : Int32 × AR) (h : fX4_is p1 p2 c_r c_refused c_poled = some z) : cRW l yX4_is wsX4_is (RMk 2 43) sk (dC, dI) (tyz cI cC) sz (zwM cI cC f c_r c_refused c_tape c_letter c_letterAt c_number c_taped c_at c_statements c_kept c_hasImage c_isKeeping c_cursor c_poled c_barred c_leapsTo c_leapsThen c_lands c_row c_rowMany c_endsAt) (zwM cI cC f c_r z.2 c_tape c_letter c_letterAt c_number c_taped c_at c_statements c_kept c_hasImage c_isKeeping c_cursor c_poled c_barred c_leapsTo c_leapsThen c_lands c_row c_rowMany c_endsAt) [.ref (f 0), .int p1, .int p2] z.1 := by
  refine ofRW (cc := cX4_is) (maxL := 4) (ret := (some .int)) (own := RX4) (plainFor_of_name (by decide)) rfl rfl (Nat.le_of_ble_eq_true rfl) ?_
  intro p e s m args below meth c A hA hx hb hml hr hts hown hlocks hE hK hP hD hS ls hl
  generalize hQ : qRW _ _ _ _ _ _ _ = Q
  have hl : lv_has ls 4 [(0, .ref (f 0)), (1, .int p1), (2, .int p2)] := hl
  rw [fX4_is] at h
  refine lv_aload_n hx hb dX4_is_0 rfl (lv_at hl 0 rfl) ?_
  refine lv_iload_n hx hb dX4_is_1 rfl (lv_at hl 1 rfl) ?_
  obtain ⟨q2, e2, h⟩ := bd_some h
  refine g_roV (wc := (zwM cI cC f c_r c_refused c_tape c_letter c_letterAt c_number c_taped c_at c_statements c_kept c_hasImage c_isKeeping c_cursor c_poled c_barred c_leapsTo c_leapsThen c_lands c_row c_rowMany c_endsAt)) ⟨hx, hb, hml, hown, hts⟩ hE hK hP hS [0, 1, 2, 3, 4, 5, 6, 7, 8, 9, 10, 11, 12, 13, 14, 15] rfl (mX4_isFloe l dC dI cI cC sk f p1 c_r c_refused c_tape c_letter c_letterAt c_number c_taped c_at c_statements c_kept c_hasImage c_isKeeping c_cursor c_poled c_barred c_leapsTo c_leapsThen c_lands c_row c_rowMany c_endsAt q2 e2) (cwV 1 hts gX4_is_X4_isFloe rfl rfl rfl (by decide +kernel) ⟨Nat.le_of_ble_eq_true rfl, Nat.le_of_ble_eq_true rfl⟩) (va_recv hK hP (ci := 4) (q0 := 0) rfl rfl) (As := [.int p1]) (rest := []) rfl hl.1 rfl (Nat.le_of_ble_eq_true rfl) dX4_is_2 ⟨Nat.zero_le _, Nat.zero_le _⟩ (fun H locs hP hS => ?_)
  refine jnW (fun (v19 : Int32) => ∀ (H : Heap) (locs : List Loc) (ls : Array Slot), va_P (dC, dI) vwCl (zwM cI cC f c_r c_refused c_tape c_letter c_letterAt c_number c_taped c_at c_statements c_kept c_hasImage c_isKeeping c_cursor c_poled c_barred c_leapsTo c_leapsThen c_lands c_row c_rowMany c_endsAt) H → va_D A (zwM cI cC f c_r c_refused c_tape c_letter c_letterAt c_number c_taped c_at c_statements c_kept c_hasImage c_isKeeping c_cursor c_poled c_barred c_leapsTo c_leapsThen c_lands c_row c_rowMany c_endsAt) → va_S A s.heap H locs → lv_has ls 4 [(0, .ref (f 0)), (1, .int p1), (2, .int p2)] → W p l e (RMk 2 43) s m args below meth c H locs 0 0 Q (F0 m 19 ls [.int v19])) h (fun v19 h H locs ls hP hD hS hl => ?_) (fun J19 j19 h => ?_)
  · refine lv_istore_n (lv' := [(3, .int v19), (0, .ref (f 0)), (1, .int p1), (2, .int p2)]) hx hb dX4_is_19 rfl hl (by decide) rfl (fun ls hl => ?_)
    refine lv_iload_n hx hb dX4_is_20 rfl (lv_at hl 0 rfl) ?_
    refine lv_if_eq (tgt := 32) hx hb dX4_is_21 (by decide) (fun c21 => ?_) (fun c21 => ?_)
    · have h := itT c21 h
      refine lv_aload_n hx hb dX4_is_32 rfl (lv_at hl 1 rfl) ?_
      refine lv_iload_n hx hb dX4_is_33 rfl (lv_at hl 2 rfl) ?_
      refine lv_iload_n hx hb dX4_is_34 rfl (lv_at hl 3 rfl) ?_
      obtain ⟨q35, e35, h⟩ := bd_some h
      refine g_roV (wc := (zwM cI cC f c_r c_refused c_tape c_letter c_letterAt c_number c_taped c_at c_statements c_kept c_hasImage c_isKeeping c_cursor c_poled c_barred c_leapsTo c_leapsThen c_lands c_row c_rowMany c_endsAt)) ⟨hx, hb, hml, hown, hts⟩ hE hK hP hS [0, 1, 2, 3, 4, 5, 6, 7, 8, 9, 10, 11, 12, 13, 14, 15] rfl (mX4_whereIs l dC dI cI cC sk f p1 p2 c_r c_refused c_tape c_letter c_letterAt c_number c_taped c_at c_statements c_kept c_hasImage c_isKeeping c_cursor c_poled c_barred c_leapsTo c_leapsThen c_lands c_row c_rowMany c_endsAt q35 e35) (cwV 2 hts gX4_is_X4_whereIs rfl rfl rfl (by decide +kernel) ⟨Nat.le_of_ble_eq_true rfl, Nat.le_of_ble_eq_true rfl⟩) (va_recv hK hP (ci := 4) (q0 := 0) rfl rfl) (As := [.int p1, .int p2]) (rest := []) rfl hl.1 rfl (Nat.le_of_ble_eq_true rfl) dX4_is_35 ⟨Nat.zero_le _, Nat.zero_le _⟩ (fun H locs hP hS => ?_)
      subst hQ
      exact retRW (zz := ((q35, c_refused) : Int32 × AR)) (fun z => z.1) (fun z => (zwM cI cC f c_r z.2 c_tape c_letter c_letterAt c_number c_taped c_at c_statements c_kept c_hasImage c_isKeeping c_cursor c_poled c_barred c_leapsTo c_leapsThen c_lands c_row c_rowMany c_endsAt)) hx hb hr hlocks rfl hS h rfl hP dX4_is_38
    have h := itF c21 h
    refine lv_aload_n hx hb dX4_is_24 rfl (lv_at hl 1 rfl) ?_
    refine lv_iload_n hx hb dX4_is_25 rfl (lv_at hl 0 rfl) ?_
    obtain ⟨q26, e26, h⟩ := bd_some h
    refine g_rwV (wc := (zwM cI cC f c_r c_refused c_tape c_letter c_letterAt c_number c_taped c_at c_statements c_kept c_hasImage c_isKeeping c_cursor c_poled c_barred c_leapsTo c_leapsThen c_lands c_row c_rowMany c_endsAt)) (wc' := (zwM cI cC f c_r q26.2 c_tape c_letter c_letterAt c_number c_taped c_at c_statements c_kept c_hasImage c_isKeeping c_cursor c_poled c_barred c_leapsTo c_leapsThen c_lands c_row c_rowMany c_endsAt)) ⟨hx, hb, hml, hown, hts⟩ hE hK hA hP hD hS [0, 1, 2, 3, 4, 5, 6, 7, 8, 9, 10, 11, 12, 13, 14, 15] rfl rfl rfl (mX4_no l dC dI cI cC sk f H.size v19 c_r c_refused c_tape c_letter c_letterAt c_number c_taped c_at c_statements c_kept c_hasImage c_isKeeping c_cursor c_poled c_barred c_leapsTo c_leapsThen c_lands c_row c_rowMany c_endsAt q26 e26) (cwV 1 hts gX4_is_X4_no rfl rfl rfl (by decide +kernel) ⟨Nat.le_of_ble_eq_true rfl, Nat.le_of_ble_eq_true rfl⟩) (va_recv hK hP (ci := 4) (q0 := 0) rfl rfl) (As := [.int v19]) (rest := []) rfl hl.1 rfl (Nat.le_of_ble_eq_true rfl) dX4_is_26 ⟨Nat.zero_le _, Nat.zero_le _⟩ (fun H locs hP hD hS => ?_)
    have hP : va_P (dC, dI) vwCl (zwM cI cC f c_r q26.2 c_tape c_letter c_letterAt c_number c_taped c_at c_statements c_kept c_hasImage c_isKeeping c_cursor c_poled c_barred c_leapsTo c_leapsThen c_lands c_row c_rowMany c_endsAt) H := hP
    have hD : va_D A (zwM cI cC f c_r q26.2 c_tape c_letter c_letterAt c_number c_taped c_at c_statements c_kept c_hasImage c_isKeeping c_cursor c_poled c_barred c_leapsTo c_leapsThen c_lands c_row c_rowMany c_endsAt) := hD
    refine lv_goto (tgt := 38) hx hb dX4_is_29 (by decide) ?_
    subst hQ
    exact retRW (zz := ((q26.1, q26.2) : Int32 × AR)) (fun z => z.1) (fun z => (zwM cI cC f c_r z.2 c_tape c_letter c_letterAt c_number c_taped c_at c_statements c_kept c_hasImage c_isKeeping c_cursor c_poled c_barred c_leapsTo c_leapsThen c_lands c_row c_rowMany c_endsAt)) hx hb hr hlocks rfl hS h rfl hP dX4_is_38
  refine lv_if_ne (tgt := 12) hx hb dX4_is_5 (by decide) (fun c5 => ?_) (fun c5 => ?_)
  · have h := itF c5 h
    refine lv_iload_n hx hb dX4_is_12 rfl (lv_at hl 2 rfl) ?_
    refine lv_iconst (v := (0 : Int32)) hx hb dX4_is_13 (by decide) ?_
    refine lv_bipush (v := (120 : Int32)) hx hb dX4_is_14 (by decide) ?_
    obtain ⟨q16, e16, h⟩ := bd_some h
    refine g_roS (wc := ([] : va_W)) ⟨hx, hb, hml, hown, hts⟩ hE hK hP hS [] rfl (mX4_bound l dC dI cI cC sk  p2 (0 : Int32) (120 : Int32) q16 e16) (va_cwS 3 hts gX4_is_X4_bound rfl rfl rfl (by decide +kernel) ⟨Nat.le_of_ble_eq_true rfl, Nat.le_of_ble_eq_true rfl⟩) (As := [.int p2, .int (0 : Int32), .int (120 : Int32)]) (rest := []) rfl hl.1 rfl (Nat.le_of_ble_eq_true rfl) dX4_is_16 ⟨Nat.zero_le _, Nat.zero_le _⟩ (fun H locs hP hS => ?_)
    exact j19 _ h _ _ _ hP hD hS (lv_sub hl [0, 1, 2] rfl)
  have h := itT c5 h
  refine lv_iconst (v := (-1 : Int32)) hx hb dX4_is_8 (by decide) ?_
  refine lv_goto (tgt := 19) hx hb dX4_is_9 (by decide) ?_
  exact j19 _ h _ _ _ hP hD hS (lv_sub hl [0, 1, 2] rfl)
theorem dX4_bears_0 : decode cX4_bears 0 = .ok (.aload_n 0, 1) := by decide +kernel
theorem dX4_bears_1 : decode cX4_bears 1 = .ok (.iload_n 1, 1) := by decide +kernel
theorem dX4_bears_2 : decode cX4_bears 2 = .ok (.invokevirtual 141, 3) := by decide +kernel
theorem dX4_bears_5 : decode cX4_bears 5 = .ok (.ifCond .ne 7, 3) := by decide +kernel
theorem dX4_bears_8 : decode cX4_bears 8 = .ok (.iconst (-1), 1) := by decide +kernel
theorem dX4_bears_9 : decode cX4_bears 9 = .ok (.goto 10, 3) := by decide +kernel
theorem dX4_bears_12 : decode cX4_bears 12 = .ok (.iload_n 2, 1) := by decide +kernel
theorem dX4_bears_13 : decode cX4_bears 13 = .ok (.iconst 0, 1) := by decide +kernel
theorem dX4_bears_14 : decode cX4_bears 14 = .ok (.bipush 120, 2) := by decide +kernel
theorem dX4_bears_16 : decode cX4_bears 16 = .ok (.invokestatic 66, 3) := by decide +kernel
theorem dX4_bears_19 : decode cX4_bears 19 = .ok (.istore_n 3, 1) := by decide +kernel
theorem dX4_bears_20 : decode cX4_bears 20 = .ok (.iload_n 3, 1) := by decide +kernel
theorem dX4_bears_21 : decode cX4_bears 21 = .ok (.ifCond .eq 11, 3) := by decide +kernel
theorem dX4_bears_24 : decode cX4_bears 24 = .ok (.aload_n 0, 1) := by decide +kernel
theorem dX4_bears_25 : decode cX4_bears 25 = .ok (.iload_n 3, 1) := by decide +kernel
theorem dX4_bears_26 : decode cX4_bears 26 = .ok (.invokevirtual 73, 3) := by decide +kernel
theorem dX4_bears_29 : decode cX4_bears 29 = .ok (.goto 9, 3) := by decide +kernel
theorem dX4_bears_32 : decode cX4_bears 32 = .ok (.aload_n 0, 1) := by decide +kernel
theorem dX4_bears_33 : decode cX4_bears 33 = .ok (.iload_n 1, 1) := by decide +kernel
theorem dX4_bears_34 : decode cX4_bears 34 = .ok (.iload_n 2, 1) := by decide +kernel
theorem dX4_bears_35 : decode cX4_bears 35 = .ok (.invokevirtual 148, 3) := by decide +kernel
theorem dX4_bears_38 : decode cX4_bears 38 = .ok (.ireturn, 1) := by decide +kernel
set_option maxRecDepth 20000 in
theorem ggX4_bears_X4_isFloe : GoodIn wsX4_bears wsX4_isFloe := goodIn_r _ [5, 6, 21, 22, 23, 24, 25, 26, 27, 28, 29, 30, 31, 32, 33, 34, 35, 36, 37, 38, 39, 40, 41, 42, 43, 44, 45, 46, 47, 48] (by decide +kernel) (by decide +kernel)
set_option maxRecDepth 20000 in
theorem gX4_bears_X4_isFloe : GoodIn wsX4_bears (wsV RX4 141 RX4 yX4_isFloe wsX4_isFloe) := goodIn_app (goodIn_of _ (by decide +kernel)) ggX4_bears_X4_isFloe
set_option maxRecDepth 20000 in
theorem ggX4_bears_X4_bound : GoodIn wsX4_bears wsX4_bound := goodIn_r _ [9] (by decide +kernel) (by decide +kernel)
set_option maxRecDepth 20000 in
theorem gX4_bears_X4_bound : GoodIn wsX4_bears (va_wsS RX4 66 yX4_bound wsX4_bound) := goodIn_app (goodIn_of _ (by decide +kernel)) ggX4_bears_X4_bound
set_option maxRecDepth 20000 in
theorem ggX4_bears_X4_no : GoodIn wsX4_bears wsX4_no := goodIn_r _ [13, 14, 21, 22, 23, 24, 25, 26, 27, 28, 29, 30, 31, 32, 33, 34, 35, 36, 37, 38, 39, 40, 41, 42, 43, 44, 45, 46, 47, 48] (by decide +kernel) (by decide +kernel)
set_option maxRecDepth 20000 in
theorem gX4_bears_X4_no : GoodIn wsX4_bears (wsV RX4 73 RX4 yX4_no wsX4_no) := goodIn_app (goodIn_of _ (by decide +kernel)) ggX4_bears_X4_no
set_option maxRecDepth 20000 in
theorem ggX4_bears_X4_bearsIn : GoodIn wsX4_bears wsX4_bearsIn := goodIn_r _ [18, 19, 20, 21, 22, 23, 24, 25, 26, 27, 28, 29, 30, 31, 32, 33, 34, 35, 36, 37, 38, 39, 40, 41, 42, 43, 44, 45, 46, 47, 48] (by decide +kernel) (by decide +kernel)
set_option maxRecDepth 20000 in
theorem gX4_bears_X4_bearsIn : GoodIn wsX4_bears (wsV RX4 148 RX4 yX4_bearsIn wsX4_bearsIn) := goodIn_app (goodIn_of _ (by decide +kernel)) ggX4_bears_X4_bearsIn
set_option maxHeartbeats 4000000 in
set_option maxRecDepth 100000 in
theorem mX4_bears (l : Launch) (dC : Nat → ClassId) (dI : Nat → Nat → Nat) (cI cC : ClassId) (sk : (Nat → Nat) × (Nat → Nat)) (f : Nat → Nat) (sz : Nat) (p1 : Int32) (p2 : Int32) (c_r : RT) (c_refused : AR) (c_tape : AR) (c_letter : AR) (c_letterAt : AR) (c_number : AR) (c_taped : Int32) (c_at : Int32) (c_statements : Int32) (c_kept : AR) (c_hasImage : Int32) (c_isKeeping : Int32) (c_cursor : Int32) (c_poled : Int32) (c_barred : Int32) (c_leapsTo : AR) (c_leapsThen : AR) (c_lands : AR) (c_row : AR) (c_rowMany : Int32) (c_endsAt : Int32) (z : Int32 × AR) (h : fX4_bears p1 p2 c_r c_refused = some z) : cRW l yX4_bears wsX4_bears (RMk 1 23) sk (dC, dI) (tyz cI cC) sz (zwM cI cC f c_r c_refused c_tape c_letter c_letterAt c_number c_taped c_at c_statements c_kept c_hasImage c_isKeeping c_cursor c_poled c_barred c_leapsTo c_leapsThen c_lands c_row c_rowMany c_endsAt) (zwM cI cC f c_r z.2 c_tape c_letter c_letterAt c_number c_taped c_at c_statements c_kept c_hasImage c_isKeeping c_cursor c_poled c_barred c_leapsTo c_leapsThen c_lands c_row c_rowMany c_endsAt) [.ref (f 0), .int p1, .int p2] z.1 := by
  refine ofRW (cc := cX4_bears) (maxL := 4) (ret := (some .int)) (own := RX4) (plainFor_of_name (by decide)) rfl rfl (Nat.le_of_ble_eq_true rfl) ?_
  intro p e s m args below meth c A hA hx hb hml hr hts hown hlocks hE hK hP hD hS ls hl
  generalize hQ : qRW _ _ _ _ _ _ _ = Q
  have hl : lv_has ls 4 [(0, .ref (f 0)), (1, .int p1), (2, .int p2)] := hl
  rw [fX4_bears] at h
  refine lv_aload_n hx hb dX4_bears_0 rfl (lv_at hl 0 rfl) ?_
  refine lv_iload_n hx hb dX4_bears_1 rfl (lv_at hl 1 rfl) ?_
  obtain ⟨q2, e2, h⟩ := bd_some h
  refine g_roV (wc := (zwM cI cC f c_r c_refused c_tape c_letter c_letterAt c_number c_taped c_at c_statements c_kept c_hasImage c_isKeeping c_cursor c_poled c_barred c_leapsTo c_leapsThen c_lands c_row c_rowMany c_endsAt)) ⟨hx, hb, hml, hown, hts⟩ hE hK hP hS [0, 1, 2, 3, 4, 5, 6, 7, 8, 9, 10, 11, 12, 13, 14, 15] rfl (mX4_isFloe l dC dI cI cC sk f p1 c_r c_refused c_tape c_letter c_letterAt c_number c_taped c_at c_statements c_kept c_hasImage c_isKeeping c_cursor c_poled c_barred c_leapsTo c_leapsThen c_lands c_row c_rowMany c_endsAt q2 e2) (cwV 1 hts gX4_bears_X4_isFloe rfl rfl rfl (by decide +kernel) ⟨Nat.le_of_ble_eq_true rfl, Nat.le_of_ble_eq_true rfl⟩) (va_recv hK hP (ci := 4) (q0 := 0) rfl rfl) (As := [.int p1]) (rest := []) rfl hl.1 rfl (Nat.le_of_ble_eq_true rfl) dX4_bears_2 ⟨Nat.zero_le _, Nat.zero_le _⟩ (fun H locs hP hS => ?_)
  refine jnW (fun (v19 : Int32) => ∀ (H : Heap) (locs : List Loc) (ls : Array Slot), va_P (dC, dI) vwCl (zwM cI cC f c_r c_refused c_tape c_letter c_letterAt c_number c_taped c_at c_statements c_kept c_hasImage c_isKeeping c_cursor c_poled c_barred c_leapsTo c_leapsThen c_lands c_row c_rowMany c_endsAt) H → va_D A (zwM cI cC f c_r c_refused c_tape c_letter c_letterAt c_number c_taped c_at c_statements c_kept c_hasImage c_isKeeping c_cursor c_poled c_barred c_leapsTo c_leapsThen c_lands c_row c_rowMany c_endsAt) → va_S A s.heap H locs → lv_has ls 4 [(0, .ref (f 0)), (1, .int p1), (2, .int p2)] → W p l e (RMk 1 23) s m args below meth c H locs 0 0 Q (F0 m 19 ls [.int v19])) h (fun v19 h H locs ls hP hD hS hl => ?_) (fun J19 j19 h => ?_)
  · refine lv_istore_n (lv' := [(3, .int v19), (0, .ref (f 0)), (1, .int p1), (2, .int p2)]) hx hb dX4_bears_19 rfl hl (by decide) rfl (fun ls hl => ?_)
    refine lv_iload_n hx hb dX4_bears_20 rfl (lv_at hl 0 rfl) ?_
    refine lv_if_eq (tgt := 32) hx hb dX4_bears_21 (by decide) (fun c21 => ?_) (fun c21 => ?_)
    · have h := itT c21 h
      refine lv_aload_n hx hb dX4_bears_32 rfl (lv_at hl 1 rfl) ?_
      refine lv_iload_n hx hb dX4_bears_33 rfl (lv_at hl 2 rfl) ?_
      refine lv_iload_n hx hb dX4_bears_34 rfl (lv_at hl 3 rfl) ?_
      obtain ⟨q35, e35, h⟩ := bd_some h
      refine g_roV (wc := (zwM cI cC f c_r c_refused c_tape c_letter c_letterAt c_number c_taped c_at c_statements c_kept c_hasImage c_isKeeping c_cursor c_poled c_barred c_leapsTo c_leapsThen c_lands c_row c_rowMany c_endsAt)) ⟨hx, hb, hml, hown, hts⟩ hE hK hP hS [0, 1, 2, 3, 4, 5, 6, 7, 8, 9, 10, 11, 12, 13, 14, 15] rfl (mX4_bearsIn l dC dI cI cC sk f p1 p2 c_r c_refused c_tape c_letter c_letterAt c_number c_taped c_at c_statements c_kept c_hasImage c_isKeeping c_cursor c_poled c_barred c_leapsTo c_leapsThen c_lands c_row c_rowMany c_endsAt q35 e35) (cwV 2 hts gX4_bears_X4_bearsIn rfl rfl rfl (by decide +kernel) ⟨Nat.le_of_ble_eq_true rfl, Nat.le_of_ble_eq_true rfl⟩) (va_recv hK hP (ci := 4) (q0 := 0) rfl rfl) (As := [.int p1, .int p2]) (rest := []) rfl hl.1 rfl (Nat.le_of_ble_eq_true rfl) dX4_bears_35 ⟨Nat.zero_le _, Nat.zero_le _⟩ (fun H locs hP hS => ?_)
      subst hQ
      exact retRW (zz := ((q35, c_refused) : Int32 × AR)) (fun z => z.1) (fun z => (zwM cI cC f c_r z.2 c_tape c_letter c_letterAt c_number c_taped c_at c_statements c_kept c_hasImage c_isKeeping c_cursor c_poled c_barred c_leapsTo c_leapsThen c_lands c_row c_rowMany c_endsAt)) hx hb hr hlocks rfl hS h rfl hP dX4_bears_38
    have h := itF c21 h
    refine lv_aload_n hx hb dX4_bears_24 rfl (lv_at hl 1 rfl) ?_
    refine lv_iload_n hx hb dX4_bears_25 rfl (lv_at hl 0 rfl) ?_
    obtain ⟨q26, e26, h⟩ := bd_some h
    refine g_rwV (wc := (zwM cI cC f c_r c_refused c_tape c_letter c_letterAt c_number c_taped c_at c_statements c_kept c_hasImage c_isKeeping c_cursor c_poled c_barred c_leapsTo c_leapsThen c_lands c_row c_rowMany c_endsAt)) (wc' := (zwM cI cC f c_r q26.2 c_tape c_letter c_letterAt c_number c_taped c_at c_statements c_kept c_hasImage c_isKeeping c_cursor c_poled c_barred c_leapsTo c_leapsThen c_lands c_row c_rowMany c_endsAt)) ⟨hx, hb, hml, hown, hts⟩ hE hK hA hP hD hS [0, 1, 2, 3, 4, 5, 6, 7, 8, 9, 10, 11, 12, 13, 14, 15] rfl rfl rfl (mX4_no l dC dI cI cC sk f H.size v19 c_r c_refused c_tape c_letter c_letterAt c_number c_taped c_at c_statements c_kept c_hasImage c_isKeeping c_cursor c_poled c_barred c_leapsTo c_leapsThen c_lands c_row c_rowMany c_endsAt q26 e26) (cwV 1 hts gX4_bears_X4_no rfl rfl rfl (by decide +kernel) ⟨Nat.le_of_ble_eq_true rfl, Nat.le_of_ble_eq_true rfl⟩) (va_recv hK hP (ci := 4) (q0 := 0) rfl rfl) (As := [.int v19]) (rest := []) rfl hl.1 rfl (Nat.le_of_ble_eq_true rfl) dX4_bears_26 ⟨Nat.zero_le _, Nat.zero_le _⟩ (fun H locs hP hD hS => ?_)
    have hP : va_P (dC, dI) vwCl (zwM cI cC f c_r q26.2 c_tape c_letter c_letterAt c_number c_taped c_at c_statements c_kept c_hasImage c_isKeeping c_cursor c_poled c_barred c_leapsTo c_leapsThen c_lands c_row c_rowMany c_endsAt) H := hP
    have hD : va_D A (zwM cI cC f c_r q26.2 c_tape c_letter c_letterAt c_number c_taped c_at c_statements c_kept c_hasImage c_isKeeping c_cursor c_poled c_barred c_leapsTo c_leapsThen c_lands c_row c_rowMany c_endsAt) := hD
    refine lv_goto (tgt := 38) hx hb dX4_bears_29 (by decide) ?_
    subst hQ
    exact retRW (zz := ((q26.1, q26.2) : Int32 × AR)) (fun z => z.1) (fun z => (zwM cI cC f c_r z.2 c_tape c_letter c_letterAt c_number c_taped c_at c_statements c_kept c_hasImage c_isKeeping c_cursor c_poled c_barred c_leapsTo c_leapsThen c_lands c_row c_rowMany c_endsAt)) hx hb hr hlocks rfl hS h rfl hP dX4_bears_38
  refine lv_if_ne (tgt := 12) hx hb dX4_bears_5 (by decide) (fun c5 => ?_) (fun c5 => ?_)
  · have h := itF c5 h
    refine lv_iload_n hx hb dX4_bears_12 rfl (lv_at hl 2 rfl) ?_
    refine lv_iconst (v := (0 : Int32)) hx hb dX4_bears_13 (by decide) ?_
    refine lv_bipush (v := (120 : Int32)) hx hb dX4_bears_14 (by decide) ?_
    obtain ⟨q16, e16, h⟩ := bd_some h
    refine g_roS (wc := ([] : va_W)) ⟨hx, hb, hml, hown, hts⟩ hE hK hP hS [] rfl (mX4_bound l dC dI cI cC sk  p2 (0 : Int32) (120 : Int32) q16 e16) (va_cwS 3 hts gX4_bears_X4_bound rfl rfl rfl (by decide +kernel) ⟨Nat.le_of_ble_eq_true rfl, Nat.le_of_ble_eq_true rfl⟩) (As := [.int p2, .int (0 : Int32), .int (120 : Int32)]) (rest := []) rfl hl.1 rfl (Nat.le_of_ble_eq_true rfl) dX4_bears_16 ⟨Nat.zero_le _, Nat.zero_le _⟩ (fun H locs hP hS => ?_)
    exact j19 _ h _ _ _ hP hD hS (lv_sub hl [0, 1, 2] rfl)
  have h := itT c5 h
  refine lv_iconst (v := (-1 : Int32)) hx hb dX4_bears_8 (by decide) ?_
  refine lv_goto (tgt := 19) hx hb dX4_bears_9 (by decide) ?_
  exact j19 _ h _ _ _ hP hD hS (lv_sub hl [0, 1, 2] rfl)
theorem dX4_pass_0 : decode cX4_pass 0 = .ok (.iload_n 1, 1) := by decide +kernel
theorem dX4_pass_1 : decode cX4_pass 1 = .ok (.iconst 1, 1) := by decide +kernel
theorem dX4_pass_2 : decode cX4_pass 2 = .ok (.bipush 60, 2) := by decide +kernel
theorem dX4_pass_4 : decode cX4_pass 4 = .ok (.invokestatic 66, 3) := by decide +kernel
theorem dX4_pass_7 : decode cX4_pass 7 = .ok (.istore_n 2, 1) := by decide +kernel
theorem dX4_pass_8 : decode cX4_pass 8 = .ok (.iload_n 2, 1) := by decide +kernel
theorem dX4_pass_9 : decode cX4_pass 9 = .ok (.ifCond .ne 17, 3) := by decide +kernel
theorem dX4_pass_12 : decode cX4_pass 12 = .ok (.aload_n 0, 1) := by decide +kernel
theorem dX4_pass_13 : decode cX4_pass 13 = .ok (.getfield 101, 3) := by decide +kernel
theorem dX4_pass_16 : decode cX4_pass 16 = .ok (.iload_n 1, 1) := by decide +kernel
theorem dX4_pass_17 : decode cX4_pass 17 = .ok (.iadd, 1) := by decide +kernel
theorem dX4_pass_18 : decode cX4_pass 18 = .ok (.bipush 60, 2) := by decide +kernel
theorem dX4_pass_20 : decode cX4_pass 20 = .ok (.if_icmp .le 6, 3) := by decide +kernel
theorem dX4_pass_23 : decode cX4_pass 23 = .ok (.bipush (-6), 2) := by decide +kernel
theorem dX4_pass_25 : decode cX4_pass 25 = .ok (.istore_n 2, 1) := by decide +kernel
theorem dX4_pass_26 : decode cX4_pass 26 = .ok (.iload_n 2, 1) := by decide +kernel
theorem dX4_pass_27 : decode cX4_pass 27 = .ok (.ifCond .eq 9, 3) := by decide +kernel
theorem dX4_pass_30 : decode cX4_pass 30 = .ok (.aload_n 0, 1) := by decide +kernel
theorem dX4_pass_31 : decode cX4_pass 31 = .ok (.iload_n 2, 1) := by decide +kernel
theorem dX4_pass_32 : decode cX4_pass 32 = .ok (.invokevirtual 73, 3) := by decide +kernel
theorem dX4_pass_35 : decode cX4_pass 35 = .ok (.ireturn, 1) := by decide +kernel
theorem dX4_pass_36 : decode cX4_pass 36 = .ok (.aload_n 0, 1) := by decide +kernel
theorem dX4_pass_37 : decode cX4_pass 37 = .ok (.dup, 1) := by decide +kernel
theorem dX4_pass_38 : decode cX4_pass 38 = .ok (.getfield 101, 3) := by decide +kernel
theorem dX4_pass_41 : decode cX4_pass 41 = .ok (.iload_n 1, 1) := by decide +kernel
theorem dX4_pass_42 : decode cX4_pass 42 = .ok (.iadd, 1) := by decide +kernel
theorem dX4_pass_43 : decode cX4_pass 43 = .ok (.putfield 101, 3) := by decide +kernel
theorem dX4_pass_46 : decode cX4_pass 46 = .ok (.aload_n 0, 1) := by decide +kernel
theorem dX4_pass_47 : decode cX4_pass 47 = .ok (.getfield 101, 3) := by decide +kernel
theorem dX4_pass_50 : decode cX4_pass 50 = .ok (.ireturn, 1) := by decide +kernel
set_option maxRecDepth 20000 in
theorem ggX4_pass_X4_bound : GoodIn wsX4_pass wsX4_bound := goodIn_r _ [5] (by decide +kernel) (by decide +kernel)
set_option maxRecDepth 20000 in
theorem gX4_pass_X4_bound : GoodIn wsX4_pass (va_wsS RX4 66 yX4_bound wsX4_bound) := goodIn_app (goodIn_of _ (by decide +kernel)) ggX4_pass_X4_bound
set_option maxRecDepth 20000 in
theorem ggX4_pass_X4_no : GoodIn wsX4_pass wsX4_no := goodIn_r _ [9, 10, 11, 12, 13, 14, 15, 16, 17, 18, 19, 20, 21, 22, 23, 24, 25, 26, 27, 28, 29, 30, 31, 32, 33, 34, 35, 36, 37, 38] (by decide +kernel) (by decide +kernel)
set_option maxRecDepth 20000 in
theorem gX4_pass_X4_no : GoodIn wsX4_pass (wsV RX4 73 RX4 yX4_no wsX4_no) := goodIn_app (goodIn_of _ (by decide +kernel)) ggX4_pass_X4_no
set_option maxHeartbeats 4000000 in
set_option maxRecDepth 100000 in
theorem mX4_pass (l : Launch) (dC : Nat → ClassId) (dI : Nat → Nat → Nat) (cI cC : ClassId) (sk : (Nat → Nat) × (Nat → Nat)) (f : Nat → Nat) (sz : Nat) (p1 : Int32) (c_r : RT) (c_refused : AR) (c_tape : AR) (c_letter : AR) (c_letterAt : AR) (c_number : AR) (c_taped : Int32) (c_at : Int32) (c_statements : Int32) (c_kept : AR) (c_hasImage : Int32) (c_isKeeping : Int32) (c_cursor : Int32) (c_poled : Int32) (c_barred : Int32) (c_leapsTo : AR) (c_leapsThen : AR) (c_lands : AR) (c_row : AR) (c_rowMany : Int32) (c_endsAt : Int32) (z : Int32 × RT × AR) (h : fX4_pass p1 c_r c_refused = some z) : cRW l yX4_pass wsX4_pass (RMk 1 22) sk (dC, dI) (tyz cI cC) sz (zwM cI cC f c_r c_refused c_tape c_letter c_letterAt c_number c_taped c_at c_statements c_kept c_hasImage c_isKeeping c_cursor c_poled c_barred c_leapsTo c_leapsThen c_lands c_row c_rowMany c_endsAt) (zwM cI cC f z.2.1 z.2.2 c_tape c_letter c_letterAt c_number c_taped c_at c_statements c_kept c_hasImage c_isKeeping c_cursor c_poled c_barred c_leapsTo c_leapsThen c_lands c_row c_rowMany c_endsAt) [.ref (f 0), .int p1] z.1 := by
  refine ofRW (cc := cX4_pass) (maxL := 3) (ret := (some .int)) (own := RX4) (plainFor_of_name (by decide)) rfl rfl (Nat.le_of_ble_eq_true rfl) ?_
  intro p e s m args below meth c A hA hx hb hml hr hts hown hlocks hE hK hP hD hS ls hl
  generalize hQ : qRW _ _ _ _ _ _ _ = Q
  have hl : lv_has ls 3 [(0, .ref (f 0)), (1, .int p1)] := hl
  have hiX4 : ∀ w ∈ wsX40, w ∈ wsX4_pass := fun w h => List.mem_cons_of_mem _ (List.mem_append_right _ h)
  have hw1 := hts (Cond.fieldLink RX4 101 "FloeToFloeModel" "minute" "I") (List.mem_of_getElem? (i := 1) rfl)
  rw [fX4_pass] at h
  refine lv_iload_n hx hb dX4_pass_0 rfl (lv_at hl 1 rfl) ?_
  refine lv_iconst (v := (1 : Int32)) hx hb dX4_pass_1 (by decide) ?_
  refine lv_bipush (v := (60 : Int32)) hx hb dX4_pass_2 (by decide) ?_
  obtain ⟨q4, e4, h⟩ := bd_some h
  refine g_roS (wc := ([] : va_W)) ⟨hx, hb, hml, hown, hts⟩ hE hK hP hS [] rfl (mX4_bound l dC dI cI cC sk  p1 (1 : Int32) (60 : Int32) q4 e4) (va_cwS 3 hts gX4_pass_X4_bound rfl rfl rfl (by decide +kernel) ⟨Nat.le_of_ble_eq_true rfl, Nat.le_of_ble_eq_true rfl⟩) (As := [.int p1, .int (1 : Int32), .int (60 : Int32)]) (rest := []) rfl hl.1 rfl (Nat.le_of_ble_eq_true rfl) dX4_pass_4 ⟨Nat.zero_le _, Nat.zero_le _⟩ (fun H locs hP hS => ?_)
  refine lv_istore_n (lv' := [(2, .int q4), (0, .ref (f 0)), (1, .int p1)]) hx hb dX4_pass_7 rfl hl (by decide) rfl (fun ls hl => ?_)
  refine lv_iload_n hx hb dX4_pass_8 rfl (lv_at hl 0 rfl) ?_
  refine jnW (fun (v26 : Int32) => ∀ (H : Heap) (locs : List Loc) (ls : Array Slot), va_P (dC, dI) vwCl (zwM cI cC f c_r c_refused c_tape c_letter c_letterAt c_number c_taped c_at c_statements c_kept c_hasImage c_isKeeping c_cursor c_poled c_barred c_leapsTo c_leapsThen c_lands c_row c_rowMany c_endsAt) H → va_D A (zwM cI cC f c_r c_refused c_tape c_letter c_letterAt c_number c_taped c_at c_statements c_kept c_hasImage c_isKeeping c_cursor c_poled c_barred c_leapsTo c_leapsThen c_lands c_row c_rowMany c_endsAt) → va_S A s.heap H locs → lv_has ls 3 [(0, .ref (f 0)), (1, .int p1), (2, .int v26)] → W p l e (RMk 1 22) s m args below meth c H locs 0 0 Q (F0 m 26 ls [])) h (fun v26 h H locs ls hP hD hS hl => ?_) (fun J26 j26 h => ?_)
  · refine lv_iload_n hx hb dX4_pass_26 rfl (lv_at hl 2 rfl) ?_
    refine lv_if_eq (tgt := 36) hx hb dX4_pass_27 (by decide) (fun c27 => ?_) (fun c27 => ?_)
    · have h := itT c27 h
      refine lv_aload_n hx hb dX4_pass_36 rfl (lv_at hl 0 rfl) ?_
      refine lv_dup hx hb dX4_pass_37 rfl ?_
      refine va_get (D := (dC, dI)) (ci := 4) (v := .int (R_minute c_r)) (C := RX4) (T := TX4) (N := 28) hx hb hts hiX4 hown hK hP 0 rfl rfl 8 (by decide) hw1 (fun _ h9 => h9) rfl dX4_pass_38 ?_
      refine lv_iload_n hx hb dX4_pass_41 rfl (lv_at hl 1 rfl) ?_
      refine lv_iadd hx hb dX4_pass_42 ?_
      refine va_put (D := (dC, dI)) (ci := 4) (v := .int ((R_minute c_r) + p1)) (ty := .int) (C := RX4) (T := TX4) (N := 28) hx hb hts hiX4 tyX4 tyX4_ok nmX4 hown hK hP hD hS 0 rfl rfl 8 (by decide) hw1 (fun _ h9 => h9) rfl (by decide +kernel) rfl rfl (Nat.le_of_ble_eq_true rfl) dX4_pass_43 (fun H locs hP hD hS => ?_)
      have hP : va_P (dC, dI) vwCl (zwM cI cC f (R_setMinute c_r ((R_minute c_r) + p1)) c_refused c_tape c_letter c_letterAt c_number c_taped c_at c_statements c_kept c_hasImage c_isKeeping c_cursor c_poled c_barred c_leapsTo c_leapsThen c_lands c_row c_rowMany c_endsAt) H := hP
      have hD : va_D A (zwM cI cC f (R_setMinute c_r ((R_minute c_r) + p1)) c_refused c_tape c_letter c_letterAt c_number c_taped c_at c_statements c_kept c_hasImage c_isKeeping c_cursor c_poled c_barred c_leapsTo c_leapsThen c_lands c_row c_rowMany c_endsAt) := hD
      refine lv_aload_n hx hb dX4_pass_46 rfl (lv_at hl 0 rfl) ?_
      refine va_get (D := (dC, dI)) (ci := 4) (v := .int (R_minute (R_setMinute c_r ((R_minute c_r) + p1)))) (C := RX4) (T := TX4) (N := 28) hx hb hts hiX4 hown hK hP 0 rfl rfl 8 (by decide) hw1 (fun _ h9 => h9) rfl dX4_pass_47 ?_
      subst hQ
      exact retRW (zz := (((R_minute (R_setMinute c_r ((R_minute c_r) + p1))), (R_setMinute c_r ((R_minute c_r) + p1)), c_refused) : Int32 × RT × AR)) (fun z => z.1) (fun z => (zwM cI cC f z.2.1 z.2.2 c_tape c_letter c_letterAt c_number c_taped c_at c_statements c_kept c_hasImage c_isKeeping c_cursor c_poled c_barred c_leapsTo c_leapsThen c_lands c_row c_rowMany c_endsAt)) hx hb hr hlocks rfl hS h rfl hP dX4_pass_50
    have h := itF c27 h
    refine lv_aload_n hx hb dX4_pass_30 rfl (lv_at hl 0 rfl) ?_
    refine lv_iload_n hx hb dX4_pass_31 rfl (lv_at hl 2 rfl) ?_
    obtain ⟨q32, e32, h⟩ := bd_some h
    refine g_rwV (wc := (zwM cI cC f c_r c_refused c_tape c_letter c_letterAt c_number c_taped c_at c_statements c_kept c_hasImage c_isKeeping c_cursor c_poled c_barred c_leapsTo c_leapsThen c_lands c_row c_rowMany c_endsAt)) (wc' := (zwM cI cC f c_r q32.2 c_tape c_letter c_letterAt c_number c_taped c_at c_statements c_kept c_hasImage c_isKeeping c_cursor c_poled c_barred c_leapsTo c_leapsThen c_lands c_row c_rowMany c_endsAt)) ⟨hx, hb, hml, hown, hts⟩ hE hK hA hP hD hS [0, 1, 2, 3, 4, 5, 6, 7, 8, 9, 10, 11, 12, 13, 14, 15] rfl rfl rfl (mX4_no l dC dI cI cC sk f H.size v26 c_r c_refused c_tape c_letter c_letterAt c_number c_taped c_at c_statements c_kept c_hasImage c_isKeeping c_cursor c_poled c_barred c_leapsTo c_leapsThen c_lands c_row c_rowMany c_endsAt q32 e32) (cwV 1 hts gX4_pass_X4_no rfl rfl rfl (by decide +kernel) ⟨Nat.le_of_ble_eq_true rfl, Nat.le_of_ble_eq_true rfl⟩) (va_recv hK hP (ci := 4) (q0 := 0) rfl rfl) (As := [.int v26]) (rest := []) rfl hl.1 rfl (Nat.le_of_ble_eq_true rfl) dX4_pass_32 ⟨Nat.zero_le _, Nat.zero_le _⟩ (fun H locs hP hD hS => ?_)
    have hP : va_P (dC, dI) vwCl (zwM cI cC f c_r q32.2 c_tape c_letter c_letterAt c_number c_taped c_at c_statements c_kept c_hasImage c_isKeeping c_cursor c_poled c_barred c_leapsTo c_leapsThen c_lands c_row c_rowMany c_endsAt) H := hP
    have hD : va_D A (zwM cI cC f c_r q32.2 c_tape c_letter c_letterAt c_number c_taped c_at c_statements c_kept c_hasImage c_isKeeping c_cursor c_poled c_barred c_leapsTo c_leapsThen c_lands c_row c_rowMany c_endsAt) := hD
    subst hQ
    exact retRW (zz := ((q32.1, c_r, q32.2) : Int32 × RT × AR)) (fun z => z.1) (fun z => (zwM cI cC f z.2.1 z.2.2 c_tape c_letter c_letterAt c_number c_taped c_at c_statements c_kept c_hasImage c_isKeeping c_cursor c_poled c_barred c_leapsTo c_leapsThen c_lands c_row c_rowMany c_endsAt)) hx hb hr hlocks rfl hS h rfl hP dX4_pass_35
  refine lv_if_ne (tgt := 26) hx hb dX4_pass_9 (by decide) (fun c9 => ?_) (fun c9 => ?_)
  · have h := itF c9 h
    exact j26 _ h _ _ _ hP hD hS (lv_sub hl [1, 2, 0] rfl)
  have h := itT c9 h
  refine lv_aload_n hx hb dX4_pass_12 rfl (lv_at hl 1 rfl) ?_
  refine va_get (D := (dC, dI)) (ci := 4) (v := .int (R_minute c_r)) (C := RX4) (T := TX4) (N := 28) hx hb hts hiX4 hown hK hP 0 rfl rfl 8 (by decide) hw1 (fun _ h9 => h9) rfl dX4_pass_13 ?_
  refine lv_iload_n hx hb dX4_pass_16 rfl (lv_at hl 2 rfl) ?_
  refine lv_iadd hx hb dX4_pass_17 ?_
  refine lv_bipush (v := (60 : Int32)) hx hb dX4_pass_18 (by decide) ?_
  refine lv_icmp_le (tgt := 26) hx hb dX4_pass_20 (by decide) (fun c20 => ?_) (fun c20 => ?_)
  · have h := itT c20 h
    exact j26 _ h _ _ _ hP hD hS (lv_sub hl [1, 2, 0] rfl)
  have h := itF c20 h
  refine lv_bipush (v := (-6 : Int32)) hx hb dX4_pass_23 (by decide) ?_
  refine lv_istore_n (lv' := [(2, .int (-6 : Int32)), (0, .ref (f 0)), (1, .int p1)]) hx hb dX4_pass_25 rfl hl (by decide) rfl (fun ls hl => ?_)
  exact j26 _ h _ _ _ hP hD hS (lv_sub hl [1, 2, 0] rfl)
theorem dX4_isNear_0 : decode cX4_isNear 0 = .ok (.iload_n 0, 1) := by decide +kernel
theorem dX4_isNear_1 : decode cX4_isNear 1 = .ok (.iload_n 1, 1) := by decide +kernel
theorem dX4_isNear_2 : decode cX4_isNear 2 = .ok (.isub, 1) := by decide +kernel
theorem dX4_isNear_3 : decode cX4_isNear 3 = .ok (.invokestatic 138, 3) := by decide +kernel
theorem dX4_isNear_6 : decode cX4_isNear 6 = .ok (.iconst 2, 1) := by decide +kernel
theorem dX4_isNear_7 : decode cX4_isNear 7 = .ok (.if_icmp .lt 13, 3) := by decide +kernel
theorem dX4_isNear_10 : decode cX4_isNear 10 = .ok (.iload_n 1, 1) := by decide +kernel
theorem dX4_isNear_11 : decode cX4_isNear 11 = .ok (.iload_n 0, 1) := by decide +kernel
theorem dX4_isNear_12 : decode cX4_isNear 12 = .ok (.isub, 1) := by decide +kernel
theorem dX4_isNear_13 : decode cX4_isNear 13 = .ok (.invokestatic 138, 3) := by decide +kernel
theorem dX4_isNear_16 : decode cX4_isNear 16 = .ok (.iconst 2, 1) := by decide +kernel
theorem dX4_isNear_17 : decode cX4_isNear 17 = .ok (.if_icmp .ge 7, 3) := by decide +kernel
theorem dX4_isNear_20 : decode cX4_isNear 20 = .ok (.iconst 1, 1) := by decide +kernel
theorem dX4_isNear_21 : decode cX4_isNear 21 = .ok (.goto 4, 3) := by decide +kernel
theorem dX4_isNear_24 : decode cX4_isNear 24 = .ok (.iconst 0, 1) := by decide +kernel
theorem dX4_isNear_25 : decode cX4_isNear 25 = .ok (.ireturn, 1) := by decide +kernel
set_option maxRecDepth 20000 in
theorem ggX4_isNear_X4_round : GoodIn wsX4_isNear wsX4_round := goodIn_r _ [4] (by decide +kernel) (by decide +kernel)
set_option maxRecDepth 20000 in
theorem gX4_isNear_X4_round : GoodIn wsX4_isNear (va_wsS RX4 138 yX4_round wsX4_round) := goodIn_app (goodIn_of _ (by decide +kernel)) ggX4_isNear_X4_round
set_option maxHeartbeats 4000000 in
set_option maxRecDepth 100000 in
theorem mX4_isNear (l : Launch) (dC : Nat → ClassId) (dI : Nat → Nat → Nat) (cI cC : ClassId) (sk : (Nat → Nat) × (Nat → Nat))  (p0 : Int32) (p1 : Int32)  (z : Int32) (h : fX4_isNear p0 p1 = some z) : cRO l yX4_isNear wsX4_isNear (RMk 1 20) sk (dC, dI) (tyz cI cC) ([] : va_W) [.int p0, .int p1] z := by
  refine ofRO (cc := cX4_isNear) (maxL := 2) (ret := (some .boolean)) (own := RX4) (plainFor_of_name (by decide)) rfl rfl (Nat.le_of_ble_eq_true rfl) ?_
  intro p e s m args below meth c hx hb hml hr hts hown hlocks hE hK hP hS ls hl
  generalize hQ : qRO _ _ _ _ = Q
  have hl : lv_has ls 2 [(0, .int p0), (1, .int p1)] := hl
  rw [fX4_isNear] at h
  refine lv_iload_n hx hb dX4_isNear_0 rfl (lv_at hl 0 rfl) ?_
  refine lv_iload_n hx hb dX4_isNear_1 rfl (lv_at hl 1 rfl) ?_
  refine lv_isub hx hb dX4_isNear_2 ?_
  obtain ⟨q3, e3, h⟩ := bd_some h
  refine g_roS (wc := ([] : va_W)) ⟨hx, hb, hml, hown, hts⟩ hE hK hP hS [] rfl (mX4_round l dC dI cI cC sk  (p0 - p1) q3 e3) (va_cwS 1 hts gX4_isNear_X4_round rfl rfl rfl (by decide +kernel) ⟨Nat.le_of_ble_eq_true rfl, Nat.le_of_ble_eq_true rfl⟩) (As := [.int (p0 - p1)]) (rest := []) rfl hl.1 rfl (Nat.le_of_ble_eq_true rfl) dX4_isNear_3 ⟨Nat.zero_le _, Nat.zero_le _⟩ (fun H locs hP hS => ?_)
  refine lv_iconst (v := (2 : Int32)) hx hb dX4_isNear_6 (by decide) ?_
  refine lv_icmp_lt (tgt := 20) hx hb dX4_isNear_7 (by decide) (fun c7 => ?_) (fun c7 => ?_)
  · have h := itT c7 h
    refine lv_iconst (v := (1 : Int32)) hx hb dX4_isNear_20 (by decide) ?_
    refine lv_goto (tgt := 25) hx hb dX4_isNear_21 (by decide) ?_
    subst hQ
    exact retRO hx hb hr hlocks rfl hS h dX4_isNear_25
  have h := itF c7 h
  refine lv_iload_n hx hb dX4_isNear_10 rfl (lv_at hl 1 rfl) ?_
  refine lv_iload_n hx hb dX4_isNear_11 rfl (lv_at hl 0 rfl) ?_
  refine lv_isub hx hb dX4_isNear_12 ?_
  obtain ⟨q13, e13, h⟩ := bd_some h
  refine g_roS (wc := ([] : va_W)) ⟨hx, hb, hml, hown, hts⟩ hE hK hP hS [] rfl (mX4_round l dC dI cI cC sk  (p1 - p0) q13 e13) (va_cwS 1 hts gX4_isNear_X4_round rfl rfl rfl (by decide +kernel) ⟨Nat.le_of_ble_eq_true rfl, Nat.le_of_ble_eq_true rfl⟩) (As := [.int (p1 - p0)]) (rest := []) rfl hl.1 rfl (Nat.le_of_ble_eq_true rfl) dX4_isNear_13 ⟨Nat.zero_le _, Nat.zero_le _⟩ (fun H locs hP hS => ?_)
  refine lv_iconst (v := (2 : Int32)) hx hb dX4_isNear_16 (by decide) ?_
  refine lv_icmp_ge (tgt := 24) hx hb dX4_isNear_17 (by decide) (fun c17 => ?_) (fun c17 => ?_)
  · have h := itT c17 h
    refine lv_iconst (v := (0 : Int32)) hx hb dX4_isNear_24 (by decide) ?_
    subst hQ
    exact retRO hx hb hr hlocks rfl hS h dX4_isNear_25
  have h := itF c17 h
  refine lv_iconst (v := (1 : Int32)) hx hb dX4_isNear_20 (by decide) ?_
  refine lv_goto (tgt := 25) hx hb dX4_isNear_21 (by decide) ?_
  subst hQ
  exact retRO hx hb hr hlocks rfl hS h dX4_isNear_25
theorem dX4_canLeap_0 : decode cX4_canLeap 0 = .ok (.aload_n 0, 1) := by decide +kernel
theorem dX4_canLeap_1 : decode cX4_canLeap 1 = .ok (.getfield 16, 3) := by decide +kernel
theorem dX4_canLeap_4 : decode cX4_canLeap 4 = .ok (.iload_n 1, 1) := by decide +kernel
theorem dX4_canLeap_5 : decode cX4_canLeap 5 = .ok (.iaload, 1) := by decide +kernel
theorem dX4_canLeap_6 : decode cX4_canLeap 6 = .ok (.aload_n 0, 1) := by decide +kernel
theorem dX4_canLeap_7 : decode cX4_canLeap 7 = .ok (.getfield 16, 3) := by decide +kernel
theorem dX4_canLeap_10 : decode cX4_canLeap 10 = .ok (.iload_n 2, 1) := by decide +kernel
theorem dX4_canLeap_11 : decode cX4_canLeap 11 = .ok (.iaload, 1) := by decide +kernel
theorem dX4_canLeap_12 : decode cX4_canLeap 12 = .ok (.isub, 1) := by decide +kernel
theorem dX4_canLeap_13 : decode cX4_canLeap 13 = .ok (.istore 4, 2) := by decide +kernel
theorem dX4_canLeap_15 : decode cX4_canLeap 15 = .ok (.iload 4, 2) := by decide +kernel
theorem dX4_canLeap_17 : decode cX4_canLeap 17 = .ok (.iconst 1, 1) := by decide +kernel
theorem dX4_canLeap_18 : decode cX4_canLeap 18 = .ok (.if_icmp .eq 9, 3) := by decide +kernel
theorem dX4_canLeap_21 : decode cX4_canLeap 21 = .ok (.iload 4, 2) := by decide +kernel
theorem dX4_canLeap_23 : decode cX4_canLeap 23 = .ok (.iconst (-1), 1) := by decide +kernel
theorem dX4_canLeap_24 : decode cX4_canLeap 24 = .ok (.if_icmp .ne 25, 3) := by decide +kernel
theorem dX4_canLeap_27 : decode cX4_canLeap 27 = .ok (.aload_n 0, 1) := by decide +kernel
theorem dX4_canLeap_28 : decode cX4_canLeap 28 = .ok (.iload_n 1, 1) := by decide +kernel
theorem dX4_canLeap_29 : decode cX4_canLeap 29 = .ok (.iload_n 3, 1) := by decide +kernel
theorem dX4_canLeap_30 : decode cX4_canLeap 30 = .ok (.invokevirtual 144, 3) := by decide +kernel
theorem dX4_canLeap_33 : decode cX4_canLeap 33 = .ok (.aload_n 0, 1) := by decide +kernel
theorem dX4_canLeap_34 : decode cX4_canLeap 34 = .ok (.iload_n 2, 1) := by decide +kernel
theorem dX4_canLeap_35 : decode cX4_canLeap 35 = .ok (.iload_n 3, 1) := by decide +kernel
theorem dX4_canLeap_36 : decode cX4_canLeap 36 = .ok (.invokevirtual 144, 3) := by decide +kernel
theorem dX4_canLeap_39 : decode cX4_canLeap 39 = .ok (.invokestatic 151, 3) := by decide +kernel
theorem dX4_canLeap_42 : decode cX4_canLeap 42 = .ok (.ifCond .eq 7, 3) := by decide +kernel
theorem dX4_canLeap_45 : decode cX4_canLeap 45 = .ok (.iconst 1, 1) := by decide +kernel
theorem dX4_canLeap_46 : decode cX4_canLeap 46 = .ok (.goto 4, 3) := by decide +kernel
theorem dX4_canLeap_49 : decode cX4_canLeap 49 = .ok (.iconst 0, 1) := by decide +kernel
theorem dX4_canLeap_50 : decode cX4_canLeap 50 = .ok (.ireturn, 1) := by decide +kernel
set_option maxRecDepth 20000 in
theorem ggX4_canLeap_X4_whereIs : GoodIn wsX4_canLeap wsX4_whereIs := goodIn_r _ [6, 7, 8, 9, 10, 11, 12, 13, 5, 14, 15, 16, 17, 21, 22, 23, 24, 25, 26, 27, 28, 29, 30, 31, 32, 33, 34, 35, 36, 37, 38, 39, 40, 41, 42, 43, 44, 45, 46, 47, 48] (by decide +kernel) (by decide +kernel)
set_option maxRecDepth 20000 in
theorem gX4_canLeap_X4_whereIs : GoodIn wsX4_canLeap (wsV RX4 144 RX4 yX4_whereIs wsX4_whereIs) := goodIn_app (goodIn_of _ (by decide +kernel)) ggX4_canLeap_X4_whereIs
set_option maxRecDepth 20000 in
theorem ggX4_canLeap_X4_isNear : GoodIn wsX4_canLeap wsX4_isNear := goodIn_r _ [20, 15, 16, 5, 17] (by decide +kernel) (by decide +kernel)
set_option maxRecDepth 20000 in
theorem gX4_canLeap_X4_isNear : GoodIn wsX4_canLeap (va_wsS RX4 151 yX4_isNear wsX4_isNear) := goodIn_app (goodIn_of _ (by decide +kernel)) ggX4_canLeap_X4_isNear
set_option maxHeartbeats 4000000 in
set_option maxRecDepth 100000 in
theorem mX4_canLeap (l : Launch) (dC : Nat → ClassId) (dI : Nat → Nat → Nat) (cI cC : ClassId) (sk : (Nat → Nat) × (Nat → Nat)) (f : Nat → Nat) (p1 : Int32) (p2 : Int32) (p3 : Int32) (c_r : RT) (c_refused : AR) (c_tape : AR) (c_letter : AR) (c_letterAt : AR) (c_number : AR) (c_taped : Int32) (c_at : Int32) (c_statements : Int32) (c_kept : AR) (c_hasImage : Int32) (c_isKeeping : Int32) (c_cursor : Int32) (c_poled : Int32) (c_barred : Int32) (c_leapsTo : AR) (c_leapsThen : AR) (c_lands : AR) (c_row : AR) (c_rowMany : Int32) (c_endsAt : Int32) (z : Int32) (h : fX4_canLeap p1 p2 p3 c_r c_poled = some z) : cRO l yX4_canLeap wsX4_canLeap (RMk 2 43) sk (dC, dI) (tyz cI cC) (zwM cI cC f c_r c_refused c_tape c_letter c_letterAt c_number c_taped c_at c_statements c_kept c_hasImage c_isKeeping c_cursor c_poled c_barred c_leapsTo c_leapsThen c_lands c_row c_rowMany c_endsAt) [.ref (f 0), .int p1, .int p2, .int p3] z := by
  refine ofRO (cc := cX4_canLeap) (maxL := 5) (ret := (some .boolean)) (own := RX4) (plainFor_of_name (by decide)) rfl rfl (Nat.le_of_ble_eq_true rfl) ?_
  intro p e s m args below meth c hx hb hml hr hts hown hlocks hE hK hP hS ls hl
  generalize hQ : qRO _ _ _ _ = Q
  have hl : lv_has ls 5 [(0, .ref (f 0)), (1, .int p1), (2, .int p2), (3, .int p3)] := hl
  have hiX4 : ∀ w ∈ wsX40, w ∈ wsX4_canLeap := fun w h => List.mem_cons_of_mem _ (List.mem_append_right _ h)
  have hw1 := hts (Cond.fieldLink RX4 16 "FloeToFloeModel" "laneOf" "[I") (List.mem_of_getElem? (i := 1) rfl)
  rw [fX4_canLeap] at h
  refine lv_aload_n hx hb dX4_canLeap_0 rfl (lv_at hl 0 rfl) ?_
  refine va_get (D := (dC, dI)) (ci := 4) (v := .ref (f 3)) (C := RX4) (T := TX4) (N := 28) hx hb hts hiX4 hown hK hP 0 rfl rfl 2 (by decide) hw1 (fun _ h9 => h9) rfl dX4_canLeap_1 ?_
  refine lv_iload_n hx hb dX4_canLeap_4 rfl (lv_at hl 1 rfl) ?_
  obtain ⟨hin, h⟩ := ck_some h
  refine va_iald hx hb hK hP 3 0 rfl rfl hin dX4_canLeap_5 ?_
  refine lv_aload_n hx hb dX4_canLeap_6 rfl (lv_at hl 0 rfl) ?_
  refine va_get (D := (dC, dI)) (ci := 4) (v := .ref (f 3)) (C := RX4) (T := TX4) (N := 28) hx hb hts hiX4 hown hK hP 0 rfl rfl 2 (by decide) hw1 (fun _ h9 => h9) rfl dX4_canLeap_7 ?_
  refine lv_iload_n hx hb dX4_canLeap_10 rfl (lv_at hl 2 rfl) ?_
  obtain ⟨hin, h⟩ := ck_some h
  refine va_iald hx hb hK hP 3 0 rfl rfl hin dX4_canLeap_11 ?_
  refine lv_isub hx hb dX4_canLeap_12 ?_
  refine lv_istore (lv' := [(4, .int (((R_homes c_r) (p1).toNatClampNeg) - ((R_homes c_r) (p2).toNatClampNeg))), (0, .ref (f 0)), (1, .int p1), (2, .int p2), (3, .int p3)]) hx hb dX4_canLeap_13 hl (by decide) rfl (fun ls hl => ?_)
  refine lv_iload hx hb dX4_canLeap_15 (lv_at hl 0 rfl) ?_
  refine lv_iconst (v := (1 : Int32)) hx hb dX4_canLeap_17 (by decide) ?_
  refine jnW (fun (v27 : Unit) => ∀ (H : Heap) (locs : List Loc) (ls : Array Slot), va_P (dC, dI) vwCl (zwM cI cC f c_r c_refused c_tape c_letter c_letterAt c_number c_taped c_at c_statements c_kept c_hasImage c_isKeeping c_cursor c_poled c_barred c_leapsTo c_leapsThen c_lands c_row c_rowMany c_endsAt) H → va_S noA s.heap H locs → lv_has ls 5 [(0, .ref (f 0)), (1, .int p1), (2, .int p2), (3, .int p3)] → W p l e (RMk 2 43) s m args below meth c H locs 0 0 Q (F0 m 27 ls [])) h (fun v27 h H locs ls hP hS hl => ?_) (fun J27 j27 h => ?_)
  · refine lv_aload_n hx hb dX4_canLeap_27 rfl (lv_at hl 0 rfl) ?_
    refine lv_iload_n hx hb dX4_canLeap_28 rfl (lv_at hl 1 rfl) ?_
    refine lv_iload_n hx hb dX4_canLeap_29 rfl (lv_at hl 3 rfl) ?_
    obtain ⟨q30, e30, h⟩ := bd_some h
    refine g_roV (wc := (zwM cI cC f c_r c_refused c_tape c_letter c_letterAt c_number c_taped c_at c_statements c_kept c_hasImage c_isKeeping c_cursor c_poled c_barred c_leapsTo c_leapsThen c_lands c_row c_rowMany c_endsAt)) ⟨hx, hb, hml, hown, hts⟩ hE hK hP hS [0, 1, 2, 3, 4, 5, 6, 7, 8, 9, 10, 11, 12, 13, 14, 15] rfl (mX4_whereIs l dC dI cI cC sk f p1 p3 c_r c_refused c_tape c_letter c_letterAt c_number c_taped c_at c_statements c_kept c_hasImage c_isKeeping c_cursor c_poled c_barred c_leapsTo c_leapsThen c_lands c_row c_rowMany c_endsAt q30 e30) (cwV 2 hts gX4_canLeap_X4_whereIs rfl rfl rfl (by decide +kernel) ⟨Nat.le_of_ble_eq_true rfl, Nat.le_of_ble_eq_true rfl⟩) (va_recv hK hP (ci := 4) (q0 := 0) rfl rfl) (As := [.int p1, .int p3]) (rest := []) rfl hl.1 rfl (Nat.le_of_ble_eq_true rfl) dX4_canLeap_30 ⟨Nat.zero_le _, Nat.zero_le _⟩ (fun H locs hP hS => ?_)
    refine lv_aload_n hx hb dX4_canLeap_33 rfl (lv_at hl 0 rfl) ?_
    refine lv_iload_n hx hb dX4_canLeap_34 rfl (lv_at hl 2 rfl) ?_
    refine lv_iload_n hx hb dX4_canLeap_35 rfl (lv_at hl 3 rfl) ?_
    obtain ⟨q36, e36, h⟩ := bd_some h
    refine g_roV (wc := (zwM cI cC f c_r c_refused c_tape c_letter c_letterAt c_number c_taped c_at c_statements c_kept c_hasImage c_isKeeping c_cursor c_poled c_barred c_leapsTo c_leapsThen c_lands c_row c_rowMany c_endsAt)) ⟨hx, hb, hml, hown, hts⟩ hE hK hP hS [0, 1, 2, 3, 4, 5, 6, 7, 8, 9, 10, 11, 12, 13, 14, 15] rfl (mX4_whereIs l dC dI cI cC sk f p2 p3 c_r c_refused c_tape c_letter c_letterAt c_number c_taped c_at c_statements c_kept c_hasImage c_isKeeping c_cursor c_poled c_barred c_leapsTo c_leapsThen c_lands c_row c_rowMany c_endsAt q36 e36) (cwV 2 hts gX4_canLeap_X4_whereIs rfl rfl rfl (by decide +kernel) ⟨Nat.le_of_ble_eq_true rfl, Nat.le_of_ble_eq_true rfl⟩) (va_recv hK hP (ci := 4) (q0 := 0) rfl rfl) (As := [.int p2, .int p3]) (rest := [.int q30]) rfl hl.1 rfl (Nat.le_of_ble_eq_true rfl) dX4_canLeap_36 ⟨Nat.zero_le _, Nat.zero_le _⟩ (fun H locs hP hS => ?_)
    obtain ⟨q39, e39, h⟩ := bd_some h
    refine g_roS (wc := ([] : va_W)) ⟨hx, hb, hml, hown, hts⟩ hE hK hP hS [] rfl (mX4_isNear l dC dI cI cC sk  q30 q36 q39 e39) (va_cwS 2 hts gX4_canLeap_X4_isNear rfl rfl rfl (by decide +kernel) ⟨Nat.le_of_ble_eq_true rfl, Nat.le_of_ble_eq_true rfl⟩) (As := [.int q30, .int q36]) (rest := []) rfl hl.1 rfl (Nat.le_of_ble_eq_true rfl) dX4_canLeap_39 ⟨Nat.zero_le _, Nat.zero_le _⟩ (fun H locs hP hS => ?_)
    refine lv_if_eq (tgt := 49) hx hb dX4_canLeap_42 (by decide) (fun c42 => ?_) (fun c42 => ?_)
    · have h := itT c42 h
      refine lv_iconst (v := (0 : Int32)) hx hb dX4_canLeap_49 (by decide) ?_
      subst hQ
      exact retRO hx hb hr hlocks rfl hS h dX4_canLeap_50
    have h := itF c42 h
    refine lv_iconst (v := (1 : Int32)) hx hb dX4_canLeap_45 (by decide) ?_
    refine lv_goto (tgt := 50) hx hb dX4_canLeap_46 (by decide) ?_
    subst hQ
    exact retRO hx hb hr hlocks rfl hS h dX4_canLeap_50
  refine lv_icmp_eq (tgt := 27) hx hb dX4_canLeap_18 (by decide) (fun c18 => ?_) (fun c18 => ?_)
  · have h := itT c18 h
    exact j27 _ h _ _ _ hP hS (lv_sub hl [1, 2, 3, 4] rfl)
  have h := itF c18 h
  refine lv_iload hx hb dX4_canLeap_21 (lv_at hl 0 rfl) ?_
  refine lv_iconst (v := (-1 : Int32)) hx hb dX4_canLeap_23 (by decide) ?_
  refine lv_icmp_ne (tgt := 49) hx hb dX4_canLeap_24 (by decide) (fun c24 => ?_) (fun c24 => ?_)
  · have h := itF c24 h
    refine lv_iconst (v := (0 : Int32)) hx hb dX4_canLeap_49 (by decide) ?_
    subst hQ
    exact retRO hx hb hr hlocks rfl hS h dX4_canLeap_50
  have h := itT c24 h
  exact j27 _ h _ _ _ hP hS (lv_sub hl [1, 2, 3, 4] rfl)
theorem dX4_next_0 : decode cX4_next 0 = .ok (.aload_n 0, 1) := by decide +kernel
theorem dX4_next_1 : decode cX4_next 1 = .ok (.iload_n 1, 1) := by decide +kernel
theorem dX4_next_2 : decode cX4_next 2 = .ok (.invokevirtual 141, 3) := by decide +kernel
theorem dX4_next_5 : decode cX4_next 5 = .ok (.ifCond .ne 9, 3) := by decide +kernel
theorem dX4_next_8 : decode cX4_next 8 = .ok (.aload_n 0, 1) := by decide +kernel
theorem dX4_next_9 : decode cX4_next 9 = .ok (.iconst (-1), 1) := by decide +kernel
theorem dX4_next_10 : decode cX4_next 10 = .ok (.invokevirtual 73, 3) := by decide +kernel
theorem dX4_next_13 : decode cX4_next 13 = .ok (.ireturn, 1) := by decide +kernel
theorem dX4_next_14 : decode cX4_next 14 = .ok (.iconst 0, 1) := by decide +kernel
theorem dX4_next_15 : decode cX4_next 15 = .ok (.istore_n 2, 1) := by decide +kernel
theorem dX4_next_16 : decode cX4_next 16 = .ok (.iconst 0, 1) := by decide +kernel
theorem dX4_next_17 : decode cX4_next 17 = .ok (.istore_n 3, 1) := by decide +kernel
theorem dX4_next_18 : decode cX4_next 18 = .ok (.iload_n 3, 1) := by decide +kernel
theorem dX4_next_19 : decode cX4_next 19 = .ok (.aload_n 0, 1) := by decide +kernel
theorem dX4_next_20 : decode cX4_next 20 = .ok (.getfield 59, 3) := by decide +kernel
theorem dX4_next_23 : decode cX4_next 23 = .ok (.if_icmp .ge 32, 3) := by decide +kernel
theorem dX4_next_26 : decode cX4_next 26 = .ok (.iload_n 2, 1) := by decide +kernel
theorem dX4_next_27 : decode cX4_next 27 = .ok (.aload_n 0, 1) := by decide +kernel
theorem dX4_next_28 : decode cX4_next 28 = .ok (.iload_n 1, 1) := by decide +kernel
theorem dX4_next_29 : decode cX4_next 29 = .ok (.iload_n 3, 1) := by decide +kernel
theorem dX4_next_30 : decode cX4_next 30 = .ok (.aload_n 0, 1) := by decide +kernel
theorem dX4_next_31 : decode cX4_next 31 = .ok (.getfield 101, 3) := by decide +kernel
theorem dX4_next_34 : decode cX4_next 34 = .ok (.invokevirtual 154, 3) := by decide +kernel
theorem dX4_next_37 : decode cX4_next 37 = .ok (.ifCond .eq 9, 3) := by decide +kernel
theorem dX4_next_40 : decode cX4_next 40 = .ok (.iconst 1, 1) := by decide +kernel
theorem dX4_next_41 : decode cX4_next 41 = .ok (.iload_n 3, 1) := by decide +kernel
theorem dX4_next_42 : decode cX4_next 42 = .ok (.ishl, 1) := by decide +kernel
theorem dX4_next_43 : decode cX4_next 43 = .ok (.goto 4, 3) := by decide +kernel
theorem dX4_next_46 : decode cX4_next 46 = .ok (.iconst 0, 1) := by decide +kernel
theorem dX4_next_47 : decode cX4_next 47 = .ok (.ior, 1) := by decide +kernel
theorem dX4_next_48 : decode cX4_next 48 = .ok (.istore_n 2, 1) := by decide +kernel
theorem dX4_next_49 : decode cX4_next 49 = .ok (.iinc 3 1, 3) := by decide +kernel
theorem dX4_next_52 : decode cX4_next 52 = .ok (.goto (-34), 3) := by decide +kernel
theorem dX4_next_55 : decode cX4_next 55 = .ok (.iload_n 2, 1) := by decide +kernel
theorem dX4_next_56 : decode cX4_next 56 = .ok (.ireturn, 1) := by decide +kernel
set_option maxRecDepth 20000 in
theorem ggX4_next_X4_isFloe : GoodIn wsX4_next wsX4_isFloe := goodIn_r _ [7, 1, 35, 36, 37, 38, 39, 40, 41, 42, 43, 44, 45, 46, 47, 48, 49, 50, 51, 52, 53, 54, 55, 56, 57, 58, 59, 60, 61, 62] (by decide +kernel) (by decide +kernel)
set_option maxRecDepth 20000 in
theorem gX4_next_X4_isFloe : GoodIn wsX4_next (wsV RX4 141 RX4 yX4_isFloe wsX4_isFloe) := goodIn_app (goodIn_of _ (by decide +kernel)) ggX4_next_X4_isFloe
set_option maxRecDepth 20000 in
theorem ggX4_next_X4_no : GoodIn wsX4_next wsX4_no := goodIn_r _ [11, 12, 35, 36, 37, 38, 39, 40, 41, 42, 43, 44, 45, 46, 47, 48, 49, 50, 51, 52, 53, 54, 55, 56, 57, 58, 59, 60, 61, 62] (by decide +kernel) (by decide +kernel)
set_option maxRecDepth 20000 in
theorem gX4_next_X4_no : GoodIn wsX4_next (wsV RX4 73 RX4 yX4_no wsX4_no) := goodIn_app (goodIn_of _ (by decide +kernel)) ggX4_next_X4_no
set_option maxRecDepth 20000 in
theorem ggX4_next_X4_canLeap : GoodIn wsX4_next wsX4_canLeap := goodIn_r _ [16, 17, 18, 19, 20, 6, 21, 22, 2, 23, 24, 25, 26, 27, 28, 29, 30, 31, 32, 33, 34, 35, 36, 37, 38, 39, 40, 41, 42, 43, 44, 45, 46, 47, 48, 49, 50, 51, 52, 53, 54, 55, 56, 57, 58, 59, 60, 61, 62] (by decide +kernel) (by decide +kernel)
set_option maxRecDepth 20000 in
theorem gX4_next_X4_canLeap : GoodIn wsX4_next (wsV RX4 154 RX4 yX4_canLeap wsX4_canLeap) := goodIn_app (goodIn_of _ (by decide +kernel)) ggX4_next_X4_canLeap
set_option maxHeartbeats 4000000 in
set_option maxRecDepth 100000 in
theorem mX4_next (l : Launch) (dC : Nat → ClassId) (dI : Nat → Nat → Nat) (cI cC : ClassId) (sk : (Nat → Nat) × (Nat → Nat)) (f : Nat → Nat) (sz : Nat) (p1 : Int32) (c_r : RT) (c_refused : AR) (c_tape : AR) (c_letter : AR) (c_letterAt : AR) (c_number : AR) (c_taped : Int32) (c_at : Int32) (c_statements : Int32) (c_kept : AR) (c_hasImage : Int32) (c_isKeeping : Int32) (c_cursor : Int32) (c_poled : Int32) (c_barred : Int32) (c_leapsTo : AR) (c_leapsThen : AR) (c_lands : AR) (c_row : AR) (c_rowMany : Int32) (c_endsAt : Int32) (z : Int32 × AR) (h : fX4_next p1 c_r c_refused c_poled = some z) : cRW l yX4_next wsX4_next (RMk 3 67) sk (dC, dI) (tyz cI cC) sz (zwM cI cC f c_r c_refused c_tape c_letter c_letterAt c_number c_taped c_at c_statements c_kept c_hasImage c_isKeeping c_cursor c_poled c_barred c_leapsTo c_leapsThen c_lands c_row c_rowMany c_endsAt) (zwM cI cC f c_r z.2 c_tape c_letter c_letterAt c_number c_taped c_at c_statements c_kept c_hasImage c_isKeeping c_cursor c_poled c_barred c_leapsTo c_leapsThen c_lands c_row c_rowMany c_endsAt) [.ref (f 0), .int p1] z.1 := by
  refine ofRW (cc := cX4_next) (maxL := 4) (ret := (some .int)) (own := RX4) (plainFor_of_name (by decide)) rfl rfl (Nat.le_of_ble_eq_true rfl) ?_
  intro p e s m args below meth c A hA hx hb hml hr hts hown hlocks hE hK hP hD hS ls hl
  generalize hQ : qRW _ _ _ _ _ _ _ = Q
  have hl : lv_has ls 4 [(0, .ref (f 0)), (1, .int p1)] := hl
  have hiX4 : ∀ w ∈ wsX40, w ∈ wsX4_next := fun w h => List.mem_cons_of_mem _ (List.mem_append_right _ h)
  have hw1 := hts (Cond.fieldLink RX4 59 "FloeToFloeModel" "floes" "I") (List.mem_of_getElem? (i := 1) rfl)
  have hw2 := hts (Cond.fieldLink RX4 101 "FloeToFloeModel" "minute" "I") (List.mem_of_getElem? (i := 2) rfl)
  rw [fX4_next] at h
  refine lv_aload_n hx hb dX4_next_0 rfl (lv_at hl 0 rfl) ?_
  refine lv_iload_n hx hb dX4_next_1 rfl (lv_at hl 1 rfl) ?_
  obtain ⟨q2, e2, h⟩ := bd_some h
  refine g_roV (wc := (zwM cI cC f c_r c_refused c_tape c_letter c_letterAt c_number c_taped c_at c_statements c_kept c_hasImage c_isKeeping c_cursor c_poled c_barred c_leapsTo c_leapsThen c_lands c_row c_rowMany c_endsAt)) ⟨hx, hb, hml, hown, hts⟩ hE hK hP hS [0, 1, 2, 3, 4, 5, 6, 7, 8, 9, 10, 11, 12, 13, 14, 15] rfl (mX4_isFloe l dC dI cI cC sk f p1 c_r c_refused c_tape c_letter c_letterAt c_number c_taped c_at c_statements c_kept c_hasImage c_isKeeping c_cursor c_poled c_barred c_leapsTo c_leapsThen c_lands c_row c_rowMany c_endsAt q2 e2) (cwV 1 hts gX4_next_X4_isFloe rfl rfl rfl (by decide +kernel) ⟨Nat.le_of_ble_eq_true rfl, Nat.le_of_ble_eq_true rfl⟩) (va_recv hK hP (ci := 4) (q0 := 0) rfl rfl) (As := [.int p1]) (rest := []) rfl hl.1 rfl (Nat.le_of_ble_eq_true rfl) dX4_next_2 ⟨Nat.zero_le _, Nat.zero_le _⟩ (fun H locs hP hS => ?_)
  refine lv_if_ne (tgt := 14) hx hb dX4_next_5 (by decide) (fun c5 => ?_) (fun c5 => ?_)
  · have h := itF c5 h
    refine lv_iconst (v := (0 : Int32)) hx hb dX4_next_14 (by decide) ?_
    refine lv_istore_n (lv' := [(2, .int (0 : Int32)), (0, .ref (f 0)), (1, .int p1)]) hx hb dX4_next_15 rfl hl (by decide) rfl (fun ls hl => ?_)
    refine lv_iconst (v := (0 : Int32)) hx hb dX4_next_16 (by decide) ?_
    refine lv_istore_n (lv' := [(3, .int (0 : Int32)), (2, .int (0 : Int32)), (0, .ref (f 0)), (1, .int p1)]) hx hb dX4_next_17 rfl hl (by decide) rfl (fun ls hl => ?_)
    have L18 : ∀ (K18 : Int32 → Option (Int32 × AR)), (∀ (k18_2 : Int32), K18 k18_2 = some z → ∀ (H : Heap) (locs : List Loc) (ls : Array Slot), va_P (dC, dI) vwCl (zwM cI cC f c_r c_refused c_tape c_letter c_letterAt c_number c_taped c_at c_statements c_kept c_hasImage c_isKeeping c_cursor c_poled c_barred c_leapsTo c_leapsThen c_lands c_row c_rowMany c_endsAt) H → va_D A (zwM cI cC f c_r c_refused c_tape c_letter c_letterAt c_number c_taped c_at c_statements c_kept c_hasImage c_isKeeping c_cursor c_poled c_barred c_leapsTo c_leapsThen c_lands c_row c_rowMany c_endsAt) → va_S A s.heap H locs → lv_has ls 4 [(2, .int k18_2)] → W p l e (RMk 3 67) s m args below meth c H locs 0 0 Q (F0 m 55 ls [])) → ∀ (n : Nat) (x18_2 : Int32) (x18_3 : Int32), fX4_next_L18 c_poled c_r p1 K18 n x18_2 x18_3 = some z → ∀ (H : Heap) (locs : List Loc) (ls : Array Slot), va_P (dC, dI) vwCl (zwM cI cC f c_r c_refused c_tape c_letter c_letterAt c_number c_taped c_at c_statements c_kept c_hasImage c_isKeeping c_cursor c_poled c_barred c_leapsTo c_leapsThen c_lands c_row c_rowMany c_endsAt) H → va_D A (zwM cI cC f c_r c_refused c_tape c_letter c_letterAt c_number c_taped c_at c_statements c_kept c_hasImage c_isKeeping c_cursor c_poled c_barred c_leapsTo c_leapsThen c_lands c_row c_rowMany c_endsAt) → va_S A s.heap H locs → lv_has ls 4 [(0, .ref (f 0)), (1, .int p1), (2, .int x18_2), (3, .int x18_3)] → W p l e (RMk 3 67) s m args below meth c H locs 0 0 Q (F0 m 18 ls []) := by
      intro K18 kx18 n
      induction n with
      | zero => intro x18_2 x18_3 h; rw [fX4_next_L18] at h; cases h
      | succ n ih18 =>
        intro x18_2 x18_3 h H locs ls hP hD hS hl
        rw [fX4_next_L18] at h
        refine lv_iload_n hx hb dX4_next_18 rfl (lv_at hl 3 rfl) ?_
        refine lv_aload_n hx hb dX4_next_19 rfl (lv_at hl 0 rfl) ?_
        refine va_get (D := (dC, dI)) (ci := 4) (v := .int (R_floes c_r)) (C := RX4) (T := TX4) (N := 28) hx hb hts hiX4 hown hK hP 0 rfl rfl 6 (by decide) hw1 (fun _ h9 => h9) rfl dX4_next_20 ?_
        refine lv_icmp_ge (tgt := 55) hx hb dX4_next_23 (by decide) (fun c23 => ?_) (fun c23 => ?_)
        · have h := itT c23 h
          exact kx18 _ h _ _ _ hP hD hS (lv_sub hl [2] rfl)
        have h := itF c23 h
        refine lv_iload_n hx hb dX4_next_26 rfl (lv_at hl 2 rfl) ?_
        refine lv_aload_n hx hb dX4_next_27 rfl (lv_at hl 0 rfl) ?_
        refine lv_iload_n hx hb dX4_next_28 rfl (lv_at hl 1 rfl) ?_
        refine lv_iload_n hx hb dX4_next_29 rfl (lv_at hl 3 rfl) ?_
        refine lv_aload_n hx hb dX4_next_30 rfl (lv_at hl 0 rfl) ?_
        refine va_get (D := (dC, dI)) (ci := 4) (v := .int (R_minute c_r)) (C := RX4) (T := TX4) (N := 28) hx hb hts hiX4 hown hK hP 0 rfl rfl 8 (by decide) hw2 (fun _ h9 => h9) rfl dX4_next_31 ?_
        obtain ⟨q34, e34, h⟩ := bd_some h
        refine g_roV (wc := (zwM cI cC f c_r c_refused c_tape c_letter c_letterAt c_number c_taped c_at c_statements c_kept c_hasImage c_isKeeping c_cursor c_poled c_barred c_leapsTo c_leapsThen c_lands c_row c_rowMany c_endsAt)) ⟨hx, hb, hml, hown, hts⟩ hE hK hP hS [0, 1, 2, 3, 4, 5, 6, 7, 8, 9, 10, 11, 12, 13, 14, 15] rfl (mX4_canLeap l dC dI cI cC sk f p1 x18_3 (R_minute c_r) c_r c_refused c_tape c_letter c_letterAt c_number c_taped c_at c_statements c_kept c_hasImage c_isKeeping c_cursor c_poled c_barred c_leapsTo c_leapsThen c_lands c_row c_rowMany c_endsAt q34 e34) (cwV 3 hts gX4_next_X4_canLeap rfl rfl rfl (by decide +kernel) ⟨Nat.le_of_ble_eq_true rfl, Nat.le_of_ble_eq_true rfl⟩) (va_recv hK hP (ci := 4) (q0 := 0) rfl rfl) (As := [.int p1, .int x18_3, .int (R_minute c_r)]) (rest := [.int x18_2]) rfl hl.1 rfl (Nat.le_of_ble_eq_true rfl) dX4_next_34 ⟨Nat.zero_le _, Nat.zero_le _⟩ (fun H locs hP hS => ?_)
        refine lv_if_eq (tgt := 46) hx hb dX4_next_37 (by decide) (fun c37 => ?_) (fun c37 => ?_)
        · have h := itT c37 h
          refine lv_iconst (v := (0 : Int32)) hx hb dX4_next_46 (by decide) ?_
          refine lv_ior hx hb dX4_next_47 ?_
          refine lv_istore_n (lv' := [(2, .int (x18_2 ||| (0 : Int32))), (0, .ref (f 0)), (1, .int p1), (3, .int x18_3)]) hx hb dX4_next_48 rfl hl (by decide) rfl (fun ls hl => ?_)
          refine lv_iinc (v := (x18_3 + (1 : Int32))) (lv' := [(3, .int (x18_3 + (1 : Int32))), (2, .int (x18_2 ||| (0 : Int32))), (0, .ref (f 0)), (1, .int p1)]) hx hb dX4_next_49 hl (k := 3) rfl rfl (by decide) rfl (fun ls hl => ?_)
          refine lv_goto (tgt := 18) hx hb dX4_next_52 (by decide) ?_
          exact ih18 _ _ h _ _ _ hP hD hS (lv_sub hl [2, 3, 1, 0] rfl)
        have h := itF c37 h
        refine lv_iconst (v := (1 : Int32)) hx hb dX4_next_40 (by decide) ?_
        refine lv_iload_n hx hb dX4_next_41 rfl (lv_at hl 3 rfl) ?_
        refine lv_ishl hx hb dX4_next_42 ?_
        refine lv_goto (tgt := 47) hx hb dX4_next_43 (by decide) ?_
        refine lv_ior hx hb dX4_next_47 ?_
        refine lv_istore_n (lv' := [(2, .int (x18_2 ||| ((1 : Int32) <<< (x18_3 &&& 31)))), (0, .ref (f 0)), (1, .int p1), (3, .int x18_3)]) hx hb dX4_next_48 rfl hl (by decide) rfl (fun ls hl => ?_)
        refine lv_iinc (v := (x18_3 + (1 : Int32))) (lv' := [(3, .int (x18_3 + (1 : Int32))), (2, .int (x18_2 ||| ((1 : Int32) <<< (x18_3 &&& 31)))), (0, .ref (f 0)), (1, .int p1)]) hx hb dX4_next_49 hl (k := 3) rfl rfl (by decide) rfl (fun ls hl => ?_)
        refine lv_goto (tgt := 18) hx hb dX4_next_52 (by decide) ?_
        exact ih18 _ _ h _ _ _ hP hD hS (lv_sub hl [2, 3, 1, 0] rfl)
    refine L18 _ (fun k18_2 h H locs ls hP hD hS hl => ?_) _ _ _ h _ _ _ hP hD hS (lv_sub hl [2, 3, 1, 0] rfl)
    refine lv_iload_n hx hb dX4_next_55 rfl (lv_at hl 0 rfl) ?_
    subst hQ
    exact retRW (zz := ((k18_2, c_refused) : Int32 × AR)) (fun z => z.1) (fun z => (zwM cI cC f c_r z.2 c_tape c_letter c_letterAt c_number c_taped c_at c_statements c_kept c_hasImage c_isKeeping c_cursor c_poled c_barred c_leapsTo c_leapsThen c_lands c_row c_rowMany c_endsAt)) hx hb hr hlocks rfl hS h rfl hP dX4_next_56
  have h := itT c5 h
  refine lv_aload_n hx hb dX4_next_8 rfl (lv_at hl 0 rfl) ?_
  refine lv_iconst (v := (-1 : Int32)) hx hb dX4_next_9 (by decide) ?_
  obtain ⟨q10, e10, h⟩ := bd_some h
  refine g_rwV (wc := (zwM cI cC f c_r c_refused c_tape c_letter c_letterAt c_number c_taped c_at c_statements c_kept c_hasImage c_isKeeping c_cursor c_poled c_barred c_leapsTo c_leapsThen c_lands c_row c_rowMany c_endsAt)) (wc' := (zwM cI cC f c_r q10.2 c_tape c_letter c_letterAt c_number c_taped c_at c_statements c_kept c_hasImage c_isKeeping c_cursor c_poled c_barred c_leapsTo c_leapsThen c_lands c_row c_rowMany c_endsAt)) ⟨hx, hb, hml, hown, hts⟩ hE hK hA hP hD hS [0, 1, 2, 3, 4, 5, 6, 7, 8, 9, 10, 11, 12, 13, 14, 15] rfl rfl rfl (mX4_no l dC dI cI cC sk f H.size (-1 : Int32) c_r c_refused c_tape c_letter c_letterAt c_number c_taped c_at c_statements c_kept c_hasImage c_isKeeping c_cursor c_poled c_barred c_leapsTo c_leapsThen c_lands c_row c_rowMany c_endsAt q10 e10) (cwV 1 hts gX4_next_X4_no rfl rfl rfl (by decide +kernel) ⟨Nat.le_of_ble_eq_true rfl, Nat.le_of_ble_eq_true rfl⟩) (va_recv hK hP (ci := 4) (q0 := 0) rfl rfl) (As := [.int (-1 : Int32)]) (rest := []) rfl hl.1 rfl (Nat.le_of_ble_eq_true rfl) dX4_next_10 ⟨Nat.zero_le _, Nat.zero_le _⟩ (fun H locs hP hD hS => ?_)
  have hP : va_P (dC, dI) vwCl (zwM cI cC f c_r q10.2 c_tape c_letter c_letterAt c_number c_taped c_at c_statements c_kept c_hasImage c_isKeeping c_cursor c_poled c_barred c_leapsTo c_leapsThen c_lands c_row c_rowMany c_endsAt) H := hP
  have hD : va_D A (zwM cI cC f c_r q10.2 c_tape c_letter c_letterAt c_number c_taped c_at c_statements c_kept c_hasImage c_isKeeping c_cursor c_poled c_barred c_leapsTo c_leapsThen c_lands c_row c_rowMany c_endsAt) := hD
  subst hQ
  exact retRW (zz := ((q10.1, q10.2) : Int32 × AR)) (fun z => z.1) (fun z => (zwM cI cC f c_r z.2 c_tape c_letter c_letterAt c_number c_taped c_at c_statements c_kept c_hasImage c_isKeeping c_cursor c_poled c_barred c_leapsTo c_leapsThen c_lands c_row c_rowMany c_endsAt)) hx hb hr hlocks rfl hS h rfl hP dX4_next_13
theorem dX4_crowd_0 : decode cX4_crowd 0 = .ok (.iload_n 1, 1) := by decide +kernel
theorem dX4_crowd_1 : decode cX4_crowd 1 = .ok (.iconst 0, 1) := by decide +kernel
theorem dX4_crowd_2 : decode cX4_crowd 2 = .ok (.bipush 120, 2) := by decide +kernel
theorem dX4_crowd_4 : decode cX4_crowd 4 = .ok (.invokestatic 66, 3) := by decide +kernel
theorem dX4_crowd_7 : decode cX4_crowd 7 = .ok (.istore_n 2, 1) := by decide +kernel
theorem dX4_crowd_8 : decode cX4_crowd 8 = .ok (.iload_n 2, 1) := by decide +kernel
theorem dX4_crowd_9 : decode cX4_crowd 9 = .ok (.ifCond .eq 9, 3) := by decide +kernel
theorem dX4_crowd_12 : decode cX4_crowd 12 = .ok (.aload_n 0, 1) := by decide +kernel
theorem dX4_crowd_13 : decode cX4_crowd 13 = .ok (.iload_n 2, 1) := by decide +kernel
theorem dX4_crowd_14 : decode cX4_crowd 14 = .ok (.invokevirtual 73, 3) := by decide +kernel
theorem dX4_crowd_17 : decode cX4_crowd 17 = .ok (.ireturn, 1) := by decide +kernel
theorem dX4_crowd_18 : decode cX4_crowd 18 = .ok (.iconst 0, 1) := by decide +kernel
theorem dX4_crowd_19 : decode cX4_crowd 19 = .ok (.istore_n 3, 1) := by decide +kernel
theorem dX4_crowd_20 : decode cX4_crowd 20 = .ok (.iconst 0, 1) := by decide +kernel
theorem dX4_crowd_21 : decode cX4_crowd 21 = .ok (.istore 4, 2) := by decide +kernel
theorem dX4_crowd_23 : decode cX4_crowd 23 = .ok (.iload 4, 2) := by decide +kernel
theorem dX4_crowd_25 : decode cX4_crowd 25 = .ok (.aload_n 0, 1) := by decide +kernel
theorem dX4_crowd_26 : decode cX4_crowd 26 = .ok (.getfield 59, 3) := by decide +kernel
theorem dX4_crowd_29 : decode cX4_crowd 29 = .ok (.if_icmp .ge 96, 3) := by decide +kernel
theorem dX4_crowd_32 : decode cX4_crowd 32 = .ok (.iconst 0, 1) := by decide +kernel
theorem dX4_crowd_33 : decode cX4_crowd 33 = .ok (.istore 5, 2) := by decide +kernel
theorem dX4_crowd_35 : decode cX4_crowd 35 = .ok (.iconst 0, 1) := by decide +kernel
theorem dX4_crowd_36 : decode cX4_crowd 36 = .ok (.istore 6, 2) := by decide +kernel
theorem dX4_crowd_38 : decode cX4_crowd 38 = .ok (.iload 6, 2) := by decide +kernel
theorem dX4_crowd_40 : decode cX4_crowd 40 = .ok (.aload_n 0, 1) := by decide +kernel
theorem dX4_crowd_41 : decode cX4_crowd 41 = .ok (.getfield 59, 3) := by decide +kernel
theorem dX4_crowd_44 : decode cX4_crowd 44 = .ok (.if_icmp .ge 62, 3) := by decide +kernel
theorem dX4_crowd_47 : decode cX4_crowd 47 = .ok (.iload 5, 2) := by decide +kernel
theorem dX4_crowd_49 : decode cX4_crowd 49 = .ok (.ifCond .ne 44, 3) := by decide +kernel
theorem dX4_crowd_52 : decode cX4_crowd 52 = .ok (.iload 6, 2) := by decide +kernel
theorem dX4_crowd_54 : decode cX4_crowd 54 = .ok (.iload 4, 2) := by decide +kernel
theorem dX4_crowd_56 : decode cX4_crowd 56 = .ok (.if_icmp .eq 41, 3) := by decide +kernel
theorem dX4_crowd_59 : decode cX4_crowd 59 = .ok (.aload_n 0, 1) := by decide +kernel
theorem dX4_crowd_60 : decode cX4_crowd 60 = .ok (.getfield 16, 3) := by decide +kernel
theorem dX4_crowd_63 : decode cX4_crowd 63 = .ok (.iload 6, 2) := by decide +kernel
theorem dX4_crowd_65 : decode cX4_crowd 65 = .ok (.iaload, 1) := by decide +kernel
theorem dX4_crowd_66 : decode cX4_crowd 66 = .ok (.aload_n 0, 1) := by decide +kernel
theorem dX4_crowd_67 : decode cX4_crowd 67 = .ok (.getfield 16, 3) := by decide +kernel
theorem dX4_crowd_70 : decode cX4_crowd 70 = .ok (.iload 4, 2) := by decide +kernel
theorem dX4_crowd_72 : decode cX4_crowd 72 = .ok (.iaload, 1) := by decide +kernel
theorem dX4_crowd_73 : decode cX4_crowd 73 = .ok (.if_icmp .ne 24, 3) := by decide +kernel
theorem dX4_crowd_76 : decode cX4_crowd 76 = .ok (.aload_n 0, 1) := by decide +kernel
theorem dX4_crowd_77 : decode cX4_crowd 77 = .ok (.iload 6, 2) := by decide +kernel
theorem dX4_crowd_79 : decode cX4_crowd 79 = .ok (.iload_n 1, 1) := by decide +kernel
theorem dX4_crowd_80 : decode cX4_crowd 80 = .ok (.invokevirtual 144, 3) := by decide +kernel
theorem dX4_crowd_83 : decode cX4_crowd 83 = .ok (.aload_n 0, 1) := by decide +kernel
theorem dX4_crowd_84 : decode cX4_crowd 84 = .ok (.iload 4, 2) := by decide +kernel
theorem dX4_crowd_86 : decode cX4_crowd 86 = .ok (.iload_n 1, 1) := by decide +kernel
theorem dX4_crowd_87 : decode cX4_crowd 87 = .ok (.invokevirtual 144, 3) := by decide +kernel
theorem dX4_crowd_90 : decode cX4_crowd 90 = .ok (.if_icmp .ne 7, 3) := by decide +kernel
theorem dX4_crowd_93 : decode cX4_crowd 93 = .ok (.iconst 1, 1) := by decide +kernel
theorem dX4_crowd_94 : decode cX4_crowd 94 = .ok (.goto 4, 3) := by decide +kernel
theorem dX4_crowd_97 : decode cX4_crowd 97 = .ok (.iconst 0, 1) := by decide +kernel
theorem dX4_crowd_98 : decode cX4_crowd 98 = .ok (.istore 5, 2) := by decide +kernel
theorem dX4_crowd_100 : decode cX4_crowd 100 = .ok (.iinc 6 1, 3) := by decide +kernel
theorem dX4_crowd_103 : decode cX4_crowd 103 = .ok (.goto (-65), 3) := by decide +kernel
theorem dX4_crowd_106 : decode cX4_crowd 106 = .ok (.iload_n 3, 1) := by decide +kernel
theorem dX4_crowd_107 : decode cX4_crowd 107 = .ok (.iload 5, 2) := by decide +kernel
theorem dX4_crowd_109 : decode cX4_crowd 109 = .ok (.ifCond .eq 7, 3) := by decide +kernel
theorem dX4_crowd_112 : decode cX4_crowd 112 = .ok (.iconst 1, 1) := by decide +kernel
theorem dX4_crowd_113 : decode cX4_crowd 113 = .ok (.goto 4, 3) := by decide +kernel
theorem dX4_crowd_116 : decode cX4_crowd 116 = .ok (.iconst 0, 1) := by decide +kernel
theorem dX4_crowd_117 : decode cX4_crowd 117 = .ok (.iadd, 1) := by decide +kernel
theorem dX4_crowd_118 : decode cX4_crowd 118 = .ok (.istore_n 3, 1) := by decide +kernel
theorem dX4_crowd_119 : decode cX4_crowd 119 = .ok (.iinc 4 1, 3) := by decide +kernel
theorem dX4_crowd_122 : decode cX4_crowd 122 = .ok (.goto (-99), 3) := by decide +kernel
theorem dX4_crowd_125 : decode cX4_crowd 125 = .ok (.iload_n 3, 1) := by decide +kernel
theorem dX4_crowd_126 : decode cX4_crowd 126 = .ok (.ireturn, 1) := by decide +kernel
set_option maxRecDepth 20000 in
theorem ggX4_crowd_X4_bound : GoodIn wsX4_crowd wsX4_bound := goodIn_r _ [6] (by decide +kernel) (by decide +kernel)
set_option maxRecDepth 20000 in
theorem gX4_crowd_X4_bound : GoodIn wsX4_crowd (va_wsS RX4 66 yX4_bound wsX4_bound) := goodIn_app (goodIn_of _ (by decide +kernel)) ggX4_crowd_X4_bound
set_option maxRecDepth 20000 in
theorem ggX4_crowd_X4_no : GoodIn wsX4_crowd wsX4_no := goodIn_r _ [10, 11, 27, 28, 29, 30, 31, 32, 33, 34, 35, 36, 37, 38, 39, 40, 41, 42, 43, 44, 45, 46, 47, 48, 49, 50, 51, 52, 53, 54] (by decide +kernel) (by decide +kernel)
set_option maxRecDepth 20000 in
theorem gX4_crowd_X4_no : GoodIn wsX4_crowd (wsV RX4 73 RX4 yX4_no wsX4_no) := goodIn_app (goodIn_of _ (by decide +kernel)) ggX4_crowd_X4_no
set_option maxRecDepth 20000 in
theorem ggX4_crowd_X4_whereIs : GoodIn wsX4_crowd wsX4_whereIs := goodIn_r _ [15, 16, 17, 18, 19, 20, 21, 22, 5, 23, 24, 25, 26, 27, 28, 29, 30, 31, 32, 33, 34, 35, 36, 37, 38, 39, 40, 41, 42, 43, 44, 45, 46, 47, 48, 49, 50, 51, 52, 53, 54] (by decide +kernel) (by decide +kernel)
set_option maxRecDepth 20000 in
theorem gX4_crowd_X4_whereIs : GoodIn wsX4_crowd (wsV RX4 144 RX4 yX4_whereIs wsX4_whereIs) := goodIn_app (goodIn_of _ (by decide +kernel)) ggX4_crowd_X4_whereIs
set_option maxHeartbeats 4000000 in
set_option maxRecDepth 100000 in
theorem mX4_crowd (l : Launch) (dC : Nat → ClassId) (dI : Nat → Nat → Nat) (cI cC : ClassId) (sk : (Nat → Nat) × (Nat → Nat)) (f : Nat → Nat) (sz : Nat) (p1 : Int32) (c_r : RT) (c_refused : AR) (c_tape : AR) (c_letter : AR) (c_letterAt : AR) (c_number : AR) (c_taped : Int32) (c_at : Int32) (c_statements : Int32) (c_kept : AR) (c_hasImage : Int32) (c_isKeeping : Int32) (c_cursor : Int32) (c_poled : Int32) (c_barred : Int32) (c_leapsTo : AR) (c_leapsThen : AR) (c_lands : AR) (c_row : AR) (c_rowMany : Int32) (c_endsAt : Int32) (z : Int32 × AR) (h : fX4_crowd p1 c_r c_refused c_poled = some z) : cRW l yX4_crowd wsX4_crowd (RMk 2 43) sk (dC, dI) (tyz cI cC) sz (zwM cI cC f c_r c_refused c_tape c_letter c_letterAt c_number c_taped c_at c_statements c_kept c_hasImage c_isKeeping c_cursor c_poled c_barred c_leapsTo c_leapsThen c_lands c_row c_rowMany c_endsAt) (zwM cI cC f c_r z.2 c_tape c_letter c_letterAt c_number c_taped c_at c_statements c_kept c_hasImage c_isKeeping c_cursor c_poled c_barred c_leapsTo c_leapsThen c_lands c_row c_rowMany c_endsAt) [.ref (f 0), .int p1] z.1 := by
  refine ofRW (cc := cX4_crowd) (maxL := 7) (ret := (some .int)) (own := RX4) (plainFor_of_name (by decide)) rfl rfl (Nat.le_of_ble_eq_true rfl) ?_
  intro p e s m args below meth c A hA hx hb hml hr hts hown hlocks hE hK hP hD hS ls hl
  generalize hQ : qRW _ _ _ _ _ _ _ = Q
  have hl : lv_has ls 7 [(0, .ref (f 0)), (1, .int p1)] := hl
  have hiX4 : ∀ w ∈ wsX40, w ∈ wsX4_crowd := fun w h => List.mem_cons_of_mem _ (List.mem_append_right _ h)
  have hw1 := hts (Cond.fieldLink RX4 59 "FloeToFloeModel" "floes" "I") (List.mem_of_getElem? (i := 1) rfl)
  have hw2 := hts (Cond.fieldLink RX4 16 "FloeToFloeModel" "laneOf" "[I") (List.mem_of_getElem? (i := 2) rfl)
  rw [fX4_crowd] at h
  refine lv_iload_n hx hb dX4_crowd_0 rfl (lv_at hl 1 rfl) ?_
  refine lv_iconst (v := (0 : Int32)) hx hb dX4_crowd_1 (by decide) ?_
  refine lv_bipush (v := (120 : Int32)) hx hb dX4_crowd_2 (by decide) ?_
  obtain ⟨q4, e4, h⟩ := bd_some h
  refine g_roS (wc := ([] : va_W)) ⟨hx, hb, hml, hown, hts⟩ hE hK hP hS [] rfl (mX4_bound l dC dI cI cC sk  p1 (0 : Int32) (120 : Int32) q4 e4) (va_cwS 3 hts gX4_crowd_X4_bound rfl rfl rfl (by decide +kernel) ⟨Nat.le_of_ble_eq_true rfl, Nat.le_of_ble_eq_true rfl⟩) (As := [.int p1, .int (0 : Int32), .int (120 : Int32)]) (rest := []) rfl hl.1 rfl (Nat.le_of_ble_eq_true rfl) dX4_crowd_4 ⟨Nat.zero_le _, Nat.zero_le _⟩ (fun H locs hP hS => ?_)
  refine lv_istore_n (lv' := [(2, .int q4), (0, .ref (f 0)), (1, .int p1)]) hx hb dX4_crowd_7 rfl hl (by decide) rfl (fun ls hl => ?_)
  refine lv_iload_n hx hb dX4_crowd_8 rfl (lv_at hl 0 rfl) ?_
  refine lv_if_eq (tgt := 18) hx hb dX4_crowd_9 (by decide) (fun c9 => ?_) (fun c9 => ?_)
  · have h := itT c9 h
    refine lv_iconst (v := (0 : Int32)) hx hb dX4_crowd_18 (by decide) ?_
    refine lv_istore_n (lv' := [(3, .int (0 : Int32)), (2, .int q4), (0, .ref (f 0)), (1, .int p1)]) hx hb dX4_crowd_19 rfl hl (by decide) rfl (fun ls hl => ?_)
    refine lv_iconst (v := (0 : Int32)) hx hb dX4_crowd_20 (by decide) ?_
    refine lv_istore (lv' := [(4, .int (0 : Int32)), (3, .int (0 : Int32)), (2, .int q4), (0, .ref (f 0)), (1, .int p1)]) hx hb dX4_crowd_21 hl (by decide) rfl (fun ls hl => ?_)
    have L23 : ∀ (K23 : Int32 → Option (Int32 × AR)), (∀ (k23_3 : Int32), K23 k23_3 = some z → ∀ (H : Heap) (locs : List Loc) (ls : Array Slot), va_P (dC, dI) vwCl (zwM cI cC f c_r c_refused c_tape c_letter c_letterAt c_number c_taped c_at c_statements c_kept c_hasImage c_isKeeping c_cursor c_poled c_barred c_leapsTo c_leapsThen c_lands c_row c_rowMany c_endsAt) H → va_D A (zwM cI cC f c_r c_refused c_tape c_letter c_letterAt c_number c_taped c_at c_statements c_kept c_hasImage c_isKeeping c_cursor c_poled c_barred c_leapsTo c_leapsThen c_lands c_row c_rowMany c_endsAt) → va_S A s.heap H locs → lv_has ls 7 [(3, .int k23_3)] → W p l e (RMk 2 43) s m args below meth c H locs 0 0 Q (F0 m 125 ls [])) → ∀ (n : Nat) (x23_3 : Int32) (x23_4 : Int32), fX4_crowd_L23 c_poled c_r p1 K23 n x23_3 x23_4 = some z → ∀ (H : Heap) (locs : List Loc) (ls : Array Slot), va_P (dC, dI) vwCl (zwM cI cC f c_r c_refused c_tape c_letter c_letterAt c_number c_taped c_at c_statements c_kept c_hasImage c_isKeeping c_cursor c_poled c_barred c_leapsTo c_leapsThen c_lands c_row c_rowMany c_endsAt) H → va_D A (zwM cI cC f c_r c_refused c_tape c_letter c_letterAt c_number c_taped c_at c_statements c_kept c_hasImage c_isKeeping c_cursor c_poled c_barred c_leapsTo c_leapsThen c_lands c_row c_rowMany c_endsAt) → va_S A s.heap H locs → lv_has ls 7 [(0, .ref (f 0)), (1, .int p1), (3, .int x23_3), (4, .int x23_4)] → W p l e (RMk 2 43) s m args below meth c H locs 0 0 Q (F0 m 23 ls []) := by
      intro K23 kx23 n
      induction n with
      | zero => intro x23_3 x23_4 h; rw [fX4_crowd_L23] at h; cases h
      | succ n ih23 =>
        intro x23_3 x23_4 h H locs ls hP hD hS hl
        rw [fX4_crowd_L23] at h
        refine lv_iload hx hb dX4_crowd_23 (lv_at hl 3 rfl) ?_
        refine lv_aload_n hx hb dX4_crowd_25 rfl (lv_at hl 0 rfl) ?_
        refine va_get (D := (dC, dI)) (ci := 4) (v := .int (R_floes c_r)) (C := RX4) (T := TX4) (N := 28) hx hb hts hiX4 hown hK hP 0 rfl rfl 6 (by decide) hw1 (fun _ h9 => h9) rfl dX4_crowd_26 ?_
        refine lv_icmp_ge (tgt := 125) hx hb dX4_crowd_29 (by decide) (fun c29 => ?_) (fun c29 => ?_)
        · have h := itT c29 h
          exact kx23 _ h _ _ _ hP hD hS (lv_sub hl [2] rfl)
        have h := itF c29 h
        refine lv_iconst (v := (0 : Int32)) hx hb dX4_crowd_32 (by decide) ?_
        refine lv_istore (lv' := [(5, .int (0 : Int32)), (0, .ref (f 0)), (1, .int p1), (3, .int x23_3), (4, .int x23_4)]) hx hb dX4_crowd_33 hl (by decide) rfl (fun ls hl => ?_)
        refine lv_iconst (v := (0 : Int32)) hx hb dX4_crowd_35 (by decide) ?_
        refine lv_istore (lv' := [(6, .int (0 : Int32)), (5, .int (0 : Int32)), (0, .ref (f 0)), (1, .int p1), (3, .int x23_3), (4, .int x23_4)]) hx hb dX4_crowd_36 hl (by decide) rfl (fun ls hl => ?_)
        have L38 : ∀ (K38 : Int32 → Option (Int32 × AR)), (∀ (k38_5 : Int32), K38 k38_5 = some z → ∀ (H : Heap) (locs : List Loc) (ls : Array Slot), va_P (dC, dI) vwCl (zwM cI cC f c_r c_refused c_tape c_letter c_letterAt c_number c_taped c_at c_statements c_kept c_hasImage c_isKeeping c_cursor c_poled c_barred c_leapsTo c_leapsThen c_lands c_row c_rowMany c_endsAt) H → va_D A (zwM cI cC f c_r c_refused c_tape c_letter c_letterAt c_number c_taped c_at c_statements c_kept c_hasImage c_isKeeping c_cursor c_poled c_barred c_leapsTo c_leapsThen c_lands c_row c_rowMany c_endsAt) → va_S A s.heap H locs → lv_has ls 7 [(0, .ref (f 0)), (1, .int p1), (3, .int x23_3), (4, .int x23_4), (5, .int k38_5)] → W p l e (RMk 2 43) s m args below meth c H locs 0 0 Q (F0 m 106 ls [])) → ∀ (n : Nat) (x38_5 : Int32) (x38_6 : Int32), fX4_crowd_L38 c_poled c_r p1 x23_4 K38 n x38_5 x38_6 = some z → ∀ (H : Heap) (locs : List Loc) (ls : Array Slot), va_P (dC, dI) vwCl (zwM cI cC f c_r c_refused c_tape c_letter c_letterAt c_number c_taped c_at c_statements c_kept c_hasImage c_isKeeping c_cursor c_poled c_barred c_leapsTo c_leapsThen c_lands c_row c_rowMany c_endsAt) H → va_D A (zwM cI cC f c_r c_refused c_tape c_letter c_letterAt c_number c_taped c_at c_statements c_kept c_hasImage c_isKeeping c_cursor c_poled c_barred c_leapsTo c_leapsThen c_lands c_row c_rowMany c_endsAt) → va_S A s.heap H locs → lv_has ls 7 [(0, .ref (f 0)), (1, .int p1), (3, .int x23_3), (4, .int x23_4), (5, .int x38_5), (6, .int x38_6)] → W p l e (RMk 2 43) s m args below meth c H locs 0 0 Q (F0 m 38 ls []) := by
          intro K38 kx38 n
          induction n with
          | zero => intro x38_5 x38_6 h; rw [fX4_crowd_L38] at h; cases h
          | succ n ih38 =>
            intro x38_5 x38_6 h H locs ls hP hD hS hl
            rw [fX4_crowd_L38] at h
            refine lv_iload hx hb dX4_crowd_38 (lv_at hl 5 rfl) ?_
            refine lv_aload_n hx hb dX4_crowd_40 rfl (lv_at hl 0 rfl) ?_
            refine va_get (D := (dC, dI)) (ci := 4) (v := .int (R_floes c_r)) (C := RX4) (T := TX4) (N := 28) hx hb hts hiX4 hown hK hP 0 rfl rfl 6 (by decide) hw1 (fun _ h9 => h9) rfl dX4_crowd_41 ?_
            refine lv_icmp_ge (tgt := 106) hx hb dX4_crowd_44 (by decide) (fun c44 => ?_) (fun c44 => ?_)
            · have h := itT c44 h
              exact kx38 _ h _ _ _ hP hD hS (lv_sub hl [0, 1, 2, 3, 4] rfl)
            have h := itF c44 h
            refine lv_iload hx hb dX4_crowd_47 (lv_at hl 4 rfl) ?_
            refine lv_if_ne (tgt := 93) hx hb dX4_crowd_49 (by decide) (fun c49 => ?_) (fun c49 => ?_)
            · have h := itF c49 h
              refine lv_iconst (v := (1 : Int32)) hx hb dX4_crowd_93 (by decide) ?_
              refine lv_goto (tgt := 98) hx hb dX4_crowd_94 (by decide) ?_
              refine lv_istore (lv' := [(5, .int (1 : Int32)), (0, .ref (f 0)), (1, .int p1), (3, .int x23_3), (4, .int x23_4), (6, .int x38_6)]) hx hb dX4_crowd_98 hl (by decide) rfl (fun ls hl => ?_)
              refine lv_iinc (v := (x38_6 + (1 : Int32))) (lv' := [(6, .int (x38_6 + (1 : Int32))), (5, .int (1 : Int32)), (0, .ref (f 0)), (1, .int p1), (3, .int x23_3), (4, .int x23_4)]) hx hb dX4_crowd_100 hl (k := 5) rfl rfl (by decide) rfl (fun ls hl => ?_)
              refine lv_goto (tgt := 38) hx hb dX4_crowd_103 (by decide) ?_
              exact ih38 _ _ h _ _ _ hP hD hS (lv_sub hl [2, 3, 4, 5, 1, 0] rfl)
            have h := itT c49 h
            refine lv_iload hx hb dX4_crowd_52 (lv_at hl 5 rfl) ?_
            refine lv_iload hx hb dX4_crowd_54 (lv_at hl 3 rfl) ?_
            refine lv_icmp_eq (tgt := 97) hx hb dX4_crowd_56 (by decide) (fun c56 => ?_) (fun c56 => ?_)
            · have h := itT c56 h
              refine lv_iconst (v := (0 : Int32)) hx hb dX4_crowd_97 (by decide) ?_
              refine lv_istore (lv' := [(5, .int (0 : Int32)), (0, .ref (f 0)), (1, .int p1), (3, .int x23_3), (4, .int x23_4), (6, .int x38_6)]) hx hb dX4_crowd_98 hl (by decide) rfl (fun ls hl => ?_)
              refine lv_iinc (v := (x38_6 + (1 : Int32))) (lv' := [(6, .int (x38_6 + (1 : Int32))), (5, .int (0 : Int32)), (0, .ref (f 0)), (1, .int p1), (3, .int x23_3), (4, .int x23_4)]) hx hb dX4_crowd_100 hl (k := 5) rfl rfl (by decide) rfl (fun ls hl => ?_)
              refine lv_goto (tgt := 38) hx hb dX4_crowd_103 (by decide) ?_
              exact ih38 _ _ h _ _ _ hP hD hS (lv_sub hl [2, 3, 4, 5, 1, 0] rfl)
            have h := itF c56 h
            refine lv_aload_n hx hb dX4_crowd_59 rfl (lv_at hl 0 rfl) ?_
            refine va_get (D := (dC, dI)) (ci := 4) (v := .ref (f 3)) (C := RX4) (T := TX4) (N := 28) hx hb hts hiX4 hown hK hP 0 rfl rfl 2 (by decide) hw2 (fun _ h9 => h9) rfl dX4_crowd_60 ?_
            refine lv_iload hx hb dX4_crowd_63 (lv_at hl 5 rfl) ?_
            obtain ⟨hin, h⟩ := ck_some h
            refine va_iald hx hb hK hP 3 0 rfl rfl hin dX4_crowd_65 ?_
            refine lv_aload_n hx hb dX4_crowd_66 rfl (lv_at hl 0 rfl) ?_
            refine va_get (D := (dC, dI)) (ci := 4) (v := .ref (f 3)) (C := RX4) (T := TX4) (N := 28) hx hb hts hiX4 hown hK hP 0 rfl rfl 2 (by decide) hw2 (fun _ h9 => h9) rfl dX4_crowd_67 ?_
            refine lv_iload hx hb dX4_crowd_70 (lv_at hl 3 rfl) ?_
            obtain ⟨hin, h⟩ := ck_some h
            refine va_iald hx hb hK hP 3 0 rfl rfl hin dX4_crowd_72 ?_
            refine lv_icmp_ne (tgt := 97) hx hb dX4_crowd_73 (by decide) (fun c73 => ?_) (fun c73 => ?_)
            · have h := itF c73 h
              refine lv_iconst (v := (0 : Int32)) hx hb dX4_crowd_97 (by decide) ?_
              refine lv_istore (lv' := [(5, .int (0 : Int32)), (0, .ref (f 0)), (1, .int p1), (3, .int x23_3), (4, .int x23_4), (6, .int x38_6)]) hx hb dX4_crowd_98 hl (by decide) rfl (fun ls hl => ?_)
              refine lv_iinc (v := (x38_6 + (1 : Int32))) (lv' := [(6, .int (x38_6 + (1 : Int32))), (5, .int (0 : Int32)), (0, .ref (f 0)), (1, .int p1), (3, .int x23_3), (4, .int x23_4)]) hx hb dX4_crowd_100 hl (k := 5) rfl rfl (by decide) rfl (fun ls hl => ?_)
              refine lv_goto (tgt := 38) hx hb dX4_crowd_103 (by decide) ?_
              exact ih38 _ _ h _ _ _ hP hD hS (lv_sub hl [2, 3, 4, 5, 1, 0] rfl)
            have h := itT c73 h
            refine lv_aload_n hx hb dX4_crowd_76 rfl (lv_at hl 0 rfl) ?_
            refine lv_iload hx hb dX4_crowd_77 (lv_at hl 5 rfl) ?_
            refine lv_iload_n hx hb dX4_crowd_79 rfl (lv_at hl 1 rfl) ?_
            obtain ⟨q80, e80, h⟩ := bd_some h
            refine g_roV (wc := (zwM cI cC f c_r c_refused c_tape c_letter c_letterAt c_number c_taped c_at c_statements c_kept c_hasImage c_isKeeping c_cursor c_poled c_barred c_leapsTo c_leapsThen c_lands c_row c_rowMany c_endsAt)) ⟨hx, hb, hml, hown, hts⟩ hE hK hP hS [0, 1, 2, 3, 4, 5, 6, 7, 8, 9, 10, 11, 12, 13, 14, 15] rfl (mX4_whereIs l dC dI cI cC sk f x38_6 p1 c_r c_refused c_tape c_letter c_letterAt c_number c_taped c_at c_statements c_kept c_hasImage c_isKeeping c_cursor c_poled c_barred c_leapsTo c_leapsThen c_lands c_row c_rowMany c_endsAt q80 e80) (cwV 2 hts gX4_crowd_X4_whereIs rfl rfl rfl (by decide +kernel) ⟨Nat.le_of_ble_eq_true rfl, Nat.le_of_ble_eq_true rfl⟩) (va_recv hK hP (ci := 4) (q0 := 0) rfl rfl) (As := [.int x38_6, .int p1]) (rest := []) rfl hl.1 rfl (Nat.le_of_ble_eq_true rfl) dX4_crowd_80 ⟨Nat.zero_le _, Nat.zero_le _⟩ (fun H locs hP hS => ?_)
            refine lv_aload_n hx hb dX4_crowd_83 rfl (lv_at hl 0 rfl) ?_
            refine lv_iload hx hb dX4_crowd_84 (lv_at hl 3 rfl) ?_
            refine lv_iload_n hx hb dX4_crowd_86 rfl (lv_at hl 1 rfl) ?_
            obtain ⟨q87, e87, h⟩ := bd_some h
            refine g_roV (wc := (zwM cI cC f c_r c_refused c_tape c_letter c_letterAt c_number c_taped c_at c_statements c_kept c_hasImage c_isKeeping c_cursor c_poled c_barred c_leapsTo c_leapsThen c_lands c_row c_rowMany c_endsAt)) ⟨hx, hb, hml, hown, hts⟩ hE hK hP hS [0, 1, 2, 3, 4, 5, 6, 7, 8, 9, 10, 11, 12, 13, 14, 15] rfl (mX4_whereIs l dC dI cI cC sk f x23_4 p1 c_r c_refused c_tape c_letter c_letterAt c_number c_taped c_at c_statements c_kept c_hasImage c_isKeeping c_cursor c_poled c_barred c_leapsTo c_leapsThen c_lands c_row c_rowMany c_endsAt q87 e87) (cwV 2 hts gX4_crowd_X4_whereIs rfl rfl rfl (by decide +kernel) ⟨Nat.le_of_ble_eq_true rfl, Nat.le_of_ble_eq_true rfl⟩) (va_recv hK hP (ci := 4) (q0 := 0) rfl rfl) (As := [.int x23_4, .int p1]) (rest := [.int q80]) rfl hl.1 rfl (Nat.le_of_ble_eq_true rfl) dX4_crowd_87 ⟨Nat.zero_le _, Nat.zero_le _⟩ (fun H locs hP hS => ?_)
            refine lv_icmp_ne (tgt := 97) hx hb dX4_crowd_90 (by decide) (fun c90 => ?_) (fun c90 => ?_)
            · have h := itF c90 h
              refine lv_iconst (v := (0 : Int32)) hx hb dX4_crowd_97 (by decide) ?_
              refine lv_istore (lv' := [(5, .int (0 : Int32)), (0, .ref (f 0)), (1, .int p1), (3, .int x23_3), (4, .int x23_4), (6, .int x38_6)]) hx hb dX4_crowd_98 hl (by decide) rfl (fun ls hl => ?_)
              refine lv_iinc (v := (x38_6 + (1 : Int32))) (lv' := [(6, .int (x38_6 + (1 : Int32))), (5, .int (0 : Int32)), (0, .ref (f 0)), (1, .int p1), (3, .int x23_3), (4, .int x23_4)]) hx hb dX4_crowd_100 hl (k := 5) rfl rfl (by decide) rfl (fun ls hl => ?_)
              refine lv_goto (tgt := 38) hx hb dX4_crowd_103 (by decide) ?_
              exact ih38 _ _ h _ _ _ hP hD hS (lv_sub hl [2, 3, 4, 5, 1, 0] rfl)
            have h := itT c90 h
            refine lv_iconst (v := (1 : Int32)) hx hb dX4_crowd_93 (by decide) ?_
            refine lv_goto (tgt := 98) hx hb dX4_crowd_94 (by decide) ?_
            refine lv_istore (lv' := [(5, .int (1 : Int32)), (0, .ref (f 0)), (1, .int p1), (3, .int x23_3), (4, .int x23_4), (6, .int x38_6)]) hx hb dX4_crowd_98 hl (by decide) rfl (fun ls hl => ?_)
            refine lv_iinc (v := (x38_6 + (1 : Int32))) (lv' := [(6, .int (x38_6 + (1 : Int32))), (5, .int (1 : Int32)), (0, .ref (f 0)), (1, .int p1), (3, .int x23_3), (4, .int x23_4)]) hx hb dX4_crowd_100 hl (k := 5) rfl rfl (by decide) rfl (fun ls hl => ?_)
            refine lv_goto (tgt := 38) hx hb dX4_crowd_103 (by decide) ?_
            exact ih38 _ _ h _ _ _ hP hD hS (lv_sub hl [2, 3, 4, 5, 1, 0] rfl)
        refine L38 _ (fun k38_5 h H locs ls hP hD hS hl => ?_) _ _ _ h _ _ _ hP hD hS (lv_sub hl [2, 3, 4, 5, 1, 0] rfl)
        refine lv_iload_n hx hb dX4_crowd_106 rfl (lv_at hl 2 rfl) ?_
        refine lv_iload hx hb dX4_crowd_107 (lv_at hl 4 rfl) ?_
        refine lv_if_eq (tgt := 116) hx hb dX4_crowd_109 (by decide) (fun c109 => ?_) (fun c109 => ?_)
        · have h := itT c109 h
          refine lv_iconst (v := (0 : Int32)) hx hb dX4_crowd_116 (by decide) ?_
          refine lv_iadd hx hb dX4_crowd_117 ?_
          refine lv_istore_n (lv' := [(3, .int (x23_3 + (0 : Int32))), (0, .ref (f 0)), (1, .int p1), (4, .int x23_4), (5, .int k38_5)]) hx hb dX4_crowd_118 rfl hl (by decide) rfl (fun ls hl => ?_)
          refine lv_iinc (v := (x23_4 + (1 : Int32))) (lv' := [(4, .int (x23_4 + (1 : Int32))), (3, .int (x23_3 + (0 : Int32))), (0, .ref (f 0)), (1, .int p1), (5, .int k38_5)]) hx hb dX4_crowd_119 hl (k := 3) rfl rfl (by decide) rfl (fun ls hl => ?_)
          refine lv_goto (tgt := 23) hx hb dX4_crowd_122 (by decide) ?_
          exact ih23 _ _ h _ _ _ hP hD hS (lv_sub hl [2, 3, 1, 0] rfl)
        have h := itF c109 h
        refine lv_iconst (v := (1 : Int32)) hx hb dX4_crowd_112 (by decide) ?_
        refine lv_goto (tgt := 117) hx hb dX4_crowd_113 (by decide) ?_
        refine lv_iadd hx hb dX4_crowd_117 ?_
        refine lv_istore_n (lv' := [(3, .int (x23_3 + (1 : Int32))), (0, .ref (f 0)), (1, .int p1), (4, .int x23_4), (5, .int k38_5)]) hx hb dX4_crowd_118 rfl hl (by decide) rfl (fun ls hl => ?_)
        refine lv_iinc (v := (x23_4 + (1 : Int32))) (lv' := [(4, .int (x23_4 + (1 : Int32))), (3, .int (x23_3 + (1 : Int32))), (0, .ref (f 0)), (1, .int p1), (5, .int k38_5)]) hx hb dX4_crowd_119 hl (k := 3) rfl rfl (by decide) rfl (fun ls hl => ?_)
        refine lv_goto (tgt := 23) hx hb dX4_crowd_122 (by decide) ?_
        exact ih23 _ _ h _ _ _ hP hD hS (lv_sub hl [2, 3, 1, 0] rfl)
    refine L23 _ (fun k23_3 h H locs ls hP hD hS hl => ?_) _ _ _ h _ _ _ hP hD hS (lv_sub hl [3, 4, 1, 0] rfl)
    refine lv_iload_n hx hb dX4_crowd_125 rfl (lv_at hl 0 rfl) ?_
    subst hQ
    exact retRW (zz := ((k23_3, c_refused) : Int32 × AR)) (fun z => z.1) (fun z => (zwM cI cC f c_r z.2 c_tape c_letter c_letterAt c_number c_taped c_at c_statements c_kept c_hasImage c_isKeeping c_cursor c_poled c_barred c_leapsTo c_leapsThen c_lands c_row c_rowMany c_endsAt)) hx hb hr hlocks rfl hS h rfl hP dX4_crowd_126
  have h := itF c9 h
  refine lv_aload_n hx hb dX4_crowd_12 rfl (lv_at hl 1 rfl) ?_
  refine lv_iload_n hx hb dX4_crowd_13 rfl (lv_at hl 0 rfl) ?_
  obtain ⟨q14, e14, h⟩ := bd_some h
  refine g_rwV (wc := (zwM cI cC f c_r c_refused c_tape c_letter c_letterAt c_number c_taped c_at c_statements c_kept c_hasImage c_isKeeping c_cursor c_poled c_barred c_leapsTo c_leapsThen c_lands c_row c_rowMany c_endsAt)) (wc' := (zwM cI cC f c_r q14.2 c_tape c_letter c_letterAt c_number c_taped c_at c_statements c_kept c_hasImage c_isKeeping c_cursor c_poled c_barred c_leapsTo c_leapsThen c_lands c_row c_rowMany c_endsAt)) ⟨hx, hb, hml, hown, hts⟩ hE hK hA hP hD hS [0, 1, 2, 3, 4, 5, 6, 7, 8, 9, 10, 11, 12, 13, 14, 15] rfl rfl rfl (mX4_no l dC dI cI cC sk f H.size q4 c_r c_refused c_tape c_letter c_letterAt c_number c_taped c_at c_statements c_kept c_hasImage c_isKeeping c_cursor c_poled c_barred c_leapsTo c_leapsThen c_lands c_row c_rowMany c_endsAt q14 e14) (cwV 1 hts gX4_crowd_X4_no rfl rfl rfl (by decide +kernel) ⟨Nat.le_of_ble_eq_true rfl, Nat.le_of_ble_eq_true rfl⟩) (va_recv hK hP (ci := 4) (q0 := 0) rfl rfl) (As := [.int q4]) (rest := []) rfl hl.1 rfl (Nat.le_of_ble_eq_true rfl) dX4_crowd_14 ⟨Nat.zero_le _, Nat.zero_le _⟩ (fun H locs hP hD hS => ?_)
  have hP : va_P (dC, dI) vwCl (zwM cI cC f c_r q14.2 c_tape c_letter c_letterAt c_number c_taped c_at c_statements c_kept c_hasImage c_isKeeping c_cursor c_poled c_barred c_leapsTo c_leapsThen c_lands c_row c_rowMany c_endsAt) H := hP
  have hD : va_D A (zwM cI cC f c_r q14.2 c_tape c_letter c_letterAt c_number c_taped c_at c_statements c_kept c_hasImage c_isKeeping c_cursor c_poled c_barred c_leapsTo c_leapsThen c_lands c_row c_rowMany c_endsAt) := hD
  subst hQ
  exact retRW (zz := ((q14.1, q14.2) : Int32 × AR)) (fun z => z.1) (fun z => (zwM cI cC f c_r z.2 c_tape c_letter c_letterAt c_number c_taped c_at c_statements c_kept c_hasImage c_isKeeping c_cursor c_poled c_barred c_leapsTo c_leapsThen c_lands c_row c_rowMany c_endsAt)) hx hb hr hlocks rfl hS h rfl hP dX4_crowd_17
theorem dX4_doesBear_0 : decode cX4_doesBear 0 = .ok (.aload_n 0, 1) := by decide +kernel
theorem dX4_doesBear_1 : decode cX4_doesBear 1 = .ok (.getfield 157, 3) := by decide +kernel
theorem dX4_doesBear_4 : decode cX4_doesBear 4 = .ok (.iload_n 1, 1) := by decide +kernel
theorem dX4_doesBear_5 : decode cX4_doesBear 5 = .ok (.ishr, 1) := by decide +kernel
theorem dX4_doesBear_6 : decode cX4_doesBear 6 = .ok (.iconst 1, 1) := by decide +kernel
theorem dX4_doesBear_7 : decode cX4_doesBear 7 = .ok (.iand, 1) := by decide +kernel
theorem dX4_doesBear_8 : decode cX4_doesBear 8 = .ok (.ifCond .ne 29, 3) := by decide +kernel
theorem dX4_doesBear_11 : decode cX4_doesBear 11 = .ok (.aload_n 0, 1) := by decide +kernel
theorem dX4_doesBear_12 : decode cX4_doesBear 12 = .ok (.iload_n 1, 1) := by decide +kernel
theorem dX4_doesBear_13 : decode cX4_doesBear 13 = .ok (.iload_n 3, 1) := by decide +kernel
theorem dX4_doesBear_14 : decode cX4_doesBear 14 = .ok (.invokevirtual 148, 3) := by decide +kernel
theorem dX4_doesBear_17 : decode cX4_doesBear 17 = .ok (.iload_n 2, 1) := by decide +kernel
theorem dX4_doesBear_18 : decode cX4_doesBear 18 = .ok (.if_icmp .lt 19, 3) := by decide +kernel
theorem dX4_doesBear_21 : decode cX4_doesBear 21 = .ok (.aload_n 0, 1) := by decide +kernel
theorem dX4_doesBear_22 : decode cX4_doesBear 22 = .ok (.iload_n 1, 1) := by decide +kernel
theorem dX4_doesBear_23 : decode cX4_doesBear 23 = .ok (.iload_n 3, 1) := by decide +kernel
theorem dX4_doesBear_24 : decode cX4_doesBear 24 = .ok (.iconst 1, 1) := by decide +kernel
theorem dX4_doesBear_25 : decode cX4_doesBear 25 = .ok (.iadd, 1) := by decide +kernel
theorem dX4_doesBear_26 : decode cX4_doesBear 26 = .ok (.invokevirtual 148, 3) := by decide +kernel
theorem dX4_doesBear_29 : decode cX4_doesBear 29 = .ok (.iload_n 2, 1) := by decide +kernel
theorem dX4_doesBear_30 : decode cX4_doesBear 30 = .ok (.if_icmp .lt 7, 3) := by decide +kernel
theorem dX4_doesBear_33 : decode cX4_doesBear 33 = .ok (.iconst 1, 1) := by decide +kernel
theorem dX4_doesBear_34 : decode cX4_doesBear 34 = .ok (.goto 4, 3) := by decide +kernel
theorem dX4_doesBear_37 : decode cX4_doesBear 37 = .ok (.iconst 0, 1) := by decide +kernel
theorem dX4_doesBear_38 : decode cX4_doesBear 38 = .ok (.ireturn, 1) := by decide +kernel
set_option maxRecDepth 20000 in
theorem ggX4_doesBear_X4_bearsIn : GoodIn wsX4_doesBear wsX4_bearsIn := goodIn_r _ [6, 7, 8, 9, 10, 11, 12, 13, 14, 15, 16, 17, 18, 19, 20, 21, 22, 23, 24, 25, 26, 27, 28, 29, 30, 31, 32, 33, 34, 35, 36] (by decide +kernel) (by decide +kernel)
set_option maxRecDepth 20000 in
theorem gX4_doesBear_X4_bearsIn : GoodIn wsX4_doesBear (wsV RX4 148 RX4 yX4_bearsIn wsX4_bearsIn) := goodIn_app (goodIn_of _ (by decide +kernel)) ggX4_doesBear_X4_bearsIn
set_option maxHeartbeats 4000000 in
set_option maxRecDepth 100000 in
theorem mX4_doesBear (l : Launch) (dC : Nat → ClassId) (dI : Nat → Nat → Nat) (cI cC : ClassId) (sk : (Nat → Nat) × (Nat → Nat)) (f : Nat → Nat) (p1 : Int32) (p2 : Int32) (p3 : Int32) (c_r : RT) (c_refused : AR) (c_tape : AR) (c_letter : AR) (c_letterAt : AR) (c_number : AR) (c_taped : Int32) (c_at : Int32) (c_statements : Int32) (c_kept : AR) (c_hasImage : Int32) (c_isKeeping : Int32) (c_cursor : Int32) (c_poled : Int32) (c_barred : Int32) (c_leapsTo : AR) (c_leapsThen : AR) (c_lands : AR) (c_row : AR) (c_rowMany : Int32) (c_endsAt : Int32) (z : Int32) (h : fX4_doesBear p1 p2 p3 c_r c_barred = some z) : cRO l yX4_doesBear wsX4_doesBear (RMk 1 23) sk (dC, dI) (tyz cI cC) (zwM cI cC f c_r c_refused c_tape c_letter c_letterAt c_number c_taped c_at c_statements c_kept c_hasImage c_isKeeping c_cursor c_poled c_barred c_leapsTo c_leapsThen c_lands c_row c_rowMany c_endsAt) [.ref (f 0), .int p1, .int p2, .int p3] z := by
  refine ofRO (cc := cX4_doesBear) (maxL := 4) (ret := (some .boolean)) (own := RX4) (plainFor_of_name (by decide)) rfl rfl (Nat.le_of_ble_eq_true rfl) ?_
  intro p e s m args below meth c hx hb hml hr hts hown hlocks hE hK hP hS ls hl
  generalize hQ : qRO _ _ _ _ = Q
  have hl : lv_has ls 4 [(0, .ref (f 0)), (1, .int p1), (2, .int p2), (3, .int p3)] := hl
  have hiX4 : ∀ w ∈ wsX40, w ∈ wsX4_doesBear := fun w h => List.mem_cons_of_mem _ (List.mem_append_right _ h)
  have hw1 := hts (Cond.fieldLink RX4 157 "FloeToFloeModel" "barred" "I") (List.mem_of_getElem? (i := 1) rfl)
  rw [fX4_doesBear] at h
  refine lv_aload_n hx hb dX4_doesBear_0 rfl (lv_at hl 0 rfl) ?_
  refine va_get (D := (dC, dI)) (ci := 4) (v := .int c_barred) (C := RX4) (T := TX4) (N := 28) hx hb hts hiX4 hown hK hP 0 rfl rfl 21 (by decide) hw1 (fun _ h9 => h9) rfl dX4_doesBear_1 ?_
  refine lv_iload_n hx hb dX4_doesBear_4 rfl (lv_at hl 1 rfl) ?_
  refine lv_ishr hx hb dX4_doesBear_5 ?_
  refine lv_iconst (v := (1 : Int32)) hx hb dX4_doesBear_6 (by decide) ?_
  refine lv_iand hx hb dX4_doesBear_7 ?_
  refine lv_if_ne (tgt := 37) hx hb dX4_doesBear_8 (by decide) (fun c8 => ?_) (fun c8 => ?_)
  · have h := itF c8 h
    refine lv_iconst (v := (0 : Int32)) hx hb dX4_doesBear_37 (by decide) ?_
    subst hQ
    exact retRO hx hb hr hlocks rfl hS h dX4_doesBear_38
  have h := itT c8 h
  refine lv_aload_n hx hb dX4_doesBear_11 rfl (lv_at hl 0 rfl) ?_
  refine lv_iload_n hx hb dX4_doesBear_12 rfl (lv_at hl 1 rfl) ?_
  refine lv_iload_n hx hb dX4_doesBear_13 rfl (lv_at hl 3 rfl) ?_
  obtain ⟨q14, e14, h⟩ := bd_some h
  refine g_roV (wc := (zwM cI cC f c_r c_refused c_tape c_letter c_letterAt c_number c_taped c_at c_statements c_kept c_hasImage c_isKeeping c_cursor c_poled c_barred c_leapsTo c_leapsThen c_lands c_row c_rowMany c_endsAt)) ⟨hx, hb, hml, hown, hts⟩ hE hK hP hS [0, 1, 2, 3, 4, 5, 6, 7, 8, 9, 10, 11, 12, 13, 14, 15] rfl (mX4_bearsIn l dC dI cI cC sk f p1 p3 c_r c_refused c_tape c_letter c_letterAt c_number c_taped c_at c_statements c_kept c_hasImage c_isKeeping c_cursor c_poled c_barred c_leapsTo c_leapsThen c_lands c_row c_rowMany c_endsAt q14 e14) (cwV 2 hts gX4_doesBear_X4_bearsIn rfl rfl rfl (by decide +kernel) ⟨Nat.le_of_ble_eq_true rfl, Nat.le_of_ble_eq_true rfl⟩) (va_recv hK hP (ci := 4) (q0 := 0) rfl rfl) (As := [.int p1, .int p3]) (rest := []) rfl hl.1 rfl (Nat.le_of_ble_eq_true rfl) dX4_doesBear_14 ⟨Nat.zero_le _, Nat.zero_le _⟩ (fun H locs hP hS => ?_)
  refine lv_iload_n hx hb dX4_doesBear_17 rfl (lv_at hl 2 rfl) ?_
  refine lv_icmp_lt (tgt := 37) hx hb dX4_doesBear_18 (by decide) (fun c18 => ?_) (fun c18 => ?_)
  · have h := itT c18 h
    refine lv_iconst (v := (0 : Int32)) hx hb dX4_doesBear_37 (by decide) ?_
    subst hQ
    exact retRO hx hb hr hlocks rfl hS h dX4_doesBear_38
  have h := itF c18 h
  refine lv_aload_n hx hb dX4_doesBear_21 rfl (lv_at hl 0 rfl) ?_
  refine lv_iload_n hx hb dX4_doesBear_22 rfl (lv_at hl 1 rfl) ?_
  refine lv_iload_n hx hb dX4_doesBear_23 rfl (lv_at hl 3 rfl) ?_
  refine lv_iconst (v := (1 : Int32)) hx hb dX4_doesBear_24 (by decide) ?_
  refine lv_iadd hx hb dX4_doesBear_25 ?_
  obtain ⟨q26, e26, h⟩ := bd_some h
  refine g_roV (wc := (zwM cI cC f c_r c_refused c_tape c_letter c_letterAt c_number c_taped c_at c_statements c_kept c_hasImage c_isKeeping c_cursor c_poled c_barred c_leapsTo c_leapsThen c_lands c_row c_rowMany c_endsAt)) ⟨hx, hb, hml, hown, hts⟩ hE hK hP hS [0, 1, 2, 3, 4, 5, 6, 7, 8, 9, 10, 11, 12, 13, 14, 15] rfl (mX4_bearsIn l dC dI cI cC sk f p1 (p3 + (1 : Int32)) c_r c_refused c_tape c_letter c_letterAt c_number c_taped c_at c_statements c_kept c_hasImage c_isKeeping c_cursor c_poled c_barred c_leapsTo c_leapsThen c_lands c_row c_rowMany c_endsAt q26 e26) (cwV 2 hts gX4_doesBear_X4_bearsIn rfl rfl rfl (by decide +kernel) ⟨Nat.le_of_ble_eq_true rfl, Nat.le_of_ble_eq_true rfl⟩) (va_recv hK hP (ci := 4) (q0 := 0) rfl rfl) (As := [.int p1, .int (p3 + (1 : Int32))]) (rest := []) rfl hl.1 rfl (Nat.le_of_ble_eq_true rfl) dX4_doesBear_26 ⟨Nat.zero_le _, Nat.zero_le _⟩ (fun H locs hP hS => ?_)
  refine lv_iload_n hx hb dX4_doesBear_29 rfl (lv_at hl 2 rfl) ?_
  refine lv_icmp_lt (tgt := 37) hx hb dX4_doesBear_30 (by decide) (fun c30 => ?_) (fun c30 => ?_)
  · have h := itT c30 h
    refine lv_iconst (v := (0 : Int32)) hx hb dX4_doesBear_37 (by decide) ?_
    subst hQ
    exact retRO hx hb hr hlocks rfl hS h dX4_doesBear_38
  have h := itF c30 h
  refine lv_iconst (v := (1 : Int32)) hx hb dX4_doesBear_33 (by decide) ?_
  refine lv_goto (tgt := 38) hx hb dX4_doesBear_34 (by decide) ?_
  subst hQ
  exact retRO hx hb hr hlocks rfl hS h dX4_doesBear_38
