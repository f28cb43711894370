theorem dX4_mayStay_0 : decode cX4_mayStay 0 = .ok (.iload_n 1, 1) := by decide +kernel
theorem dX4_mayStay_1 : decode cX4_mayStay 1 = .ok (.iload_n 2, 1) := by decide +kernel
theorem dX4_mayStay_2 : decode cX4_mayStay 2 = .ok (.if_icmp .ne 35, 3) := by decide +kernel
theorem dX4_mayStay_5 : decode cX4_mayStay 5 = .ok (.iload_n 1, 1) := by decide +kernel
theorem dX4_mayStay_6 : decode cX4_mayStay 6 = .ok (.bipush 10, 2) := by decide +kernel
theorem dX4_mayStay_8 : decode cX4_mayStay 8 = .ok (.if_icmp .lt 23, 3) := by decide +kernel
theorem dX4_mayStay_11 : decode cX4_mayStay 11 = .ok (.iload_n 1, 1) := by decide +kernel
theorem dX4_mayStay_12 : decode cX4_mayStay 12 = .ok (.bipush 18, 2) := by decide +kernel
theorem dX4_mayStay_14 : decode cX4_mayStay 14 = .ok (.if_icmp .eq 17, 3) := by decide +kernel
theorem dX4_mayStay_17 : decode cX4_mayStay 17 = .ok (.aload_n 0, 1) := by decide +kernel
theorem dX4_mayStay_18 : decode cX4_mayStay 18 = .ok (.iload_n 1, 1) := by decide +kernel
theorem dX4_mayStay_19 : decode cX4_mayStay 19 = .ok (.bipush 10, 2) := by decide +kernel
theorem dX4_mayStay_21 : decode cX4_mayStay 21 = .ok (.isub, 1) := by decide +kernel
theorem dX4_mayStay_22 : decode cX4_mayStay 22 = .ok (.iload_n 3, 1) := by decide +kernel
theorem dX4_mayStay_23 : decode cX4_mayStay 23 = .ok (.iload 4, 2) := by decide +kernel
theorem dX4_mayStay_25 : decode cX4_mayStay 25 = .ok (.invokevirtual 160, 3) := by decide +kernel
theorem dX4_mayStay_28 : decode cX4_mayStay 28 = .ok (.ifCond .eq 7, 3) := by decide +kernel
theorem dX4_mayStay_31 : decode cX4_mayStay 31 = .ok (.iconst 1, 1) := by decide +kernel
theorem dX4_mayStay_32 : decode cX4_mayStay 32 = .ok (.goto 4, 3) := by decide +kernel
theorem dX4_mayStay_35 : decode cX4_mayStay 35 = .ok (.iconst 0, 1) := by decide +kernel
theorem dX4_mayStay_36 : decode cX4_mayStay 36 = .ok (.ireturn, 1) := by decide +kernel
theorem dX4_mayStay_37 : decode cX4_mayStay 37 = .ok (.iload_n 1, 1) := by decide +kernel
theorem dX4_mayStay_38 : decode cX4_mayStay 38 = .ok (.bipush 10, 2) := by decide +kernel
theorem dX4_mayStay_40 : decode cX4_mayStay 40 = .ok (.if_icmp .ge 21, 3) := by decide +kernel
theorem dX4_mayStay_43 : decode cX4_mayStay 43 = .ok (.iload_n 2, 1) := by decide +kernel
theorem dX4_mayStay_44 : decode cX4_mayStay 44 = .ok (.bipush 10, 2) := by decide +kernel
theorem dX4_mayStay_46 : decode cX4_mayStay 46 = .ok (.if_icmp .ge 15, 3) := by decide +kernel
theorem dX4_mayStay_49 : decode cX4_mayStay 49 = .ok (.iload_n 1, 1) := by decide +kernel
theorem dX4_mayStay_50 : decode cX4_mayStay 50 = .ok (.iload_n 2, 1) := by decide +kernel
theorem dX4_mayStay_51 : decode cX4_mayStay 51 = .ok (.invokestatic 151, 3) := by decide +kernel
theorem dX4_mayStay_54 : decode cX4_mayStay 54 = .ok (.ifCond .eq 7, 3) := by decide +kernel
theorem dX4_mayStay_57 : decode cX4_mayStay 57 = .ok (.iconst 1, 1) := by decide +kernel
theorem dX4_mayStay_58 : decode cX4_mayStay 58 = .ok (.goto 4, 3) := by decide +kernel
theorem dX4_mayStay_61 : decode cX4_mayStay 61 = .ok (.iconst 0, 1) := by decide +kernel
theorem dX4_mayStay_62 : decode cX4_mayStay 62 = .ok (.ireturn, 1) := by decide +kernel
set_option maxRecDepth 20000 in
theorem ggX4_mayStay_X4_doesBear : GoodIn wsX4_mayStay wsX4_doesBear := goodIn_r _ [5, 6, 7, 8, 9, 4, 10, 11, 12, 19, 20, 21, 22, 23, 24, 25, 26, 27, 28, 29, 30, 31, 32, 33, 34, 35, 36, 37, 38, 39, 40, 41, 42, 43, 44, 45, 46] (by decide +kernel) (by decide +kernel)
set_option maxRecDepth 20000 in
theorem gX4_mayStay_X4_doesBear : GoodIn wsX4_mayStay (wsV RX4 160 RX4 yX4_doesBear wsX4_doesBear) := goodIn_app (goodIn_of _ (by decide +kernel)) ggX4_mayStay_X4_doesBear
set_option maxRecDepth 20000 in
theorem ggX4_mayStay_X4_isNear : GoodIn wsX4_mayStay wsX4_isNear := goodIn_r _ [15, 16, 17, 4, 18] (by decide +kernel) (by decide +kernel)
set_option maxRecDepth 20000 in
theorem gX4_mayStay_X4_isNear : GoodIn wsX4_mayStay (va_wsS RX4 151 yX4_isNear wsX4_isNear) := goodIn_app (goodIn_of _ (by decide +kernel)) ggX4_mayStay_X4_isNear
set_option maxHeartbeats 4000000 in
set_option maxRecDepth 100000 in
theorem mX4_mayStay (l : Launch) (dC : Nat → ClassId) (dI : Nat → Nat → Nat) (cI cC : ClassId) (sk : (Nat → Nat) × (Nat → Nat)) (f : Nat → Nat) (p1 : Int32) (p2 : Int32) (p3 : Int32) (p4 : Int32) (c_r : RT) (c_refused : AR) (c_tape : AR) (c_letter : AR) (c_letterAt : AR) (c_number : AR) (c_taped : Int32) (c_at : Int32) (c_statements : Int32) (c_kept : AR) (c_hasImage : Int32) (c_isKeeping : Int32) (c_cursor : Int32) (c_poled : Int32) (c_barred : Int32) (c_leapsTo : AR) (c_leapsThen : AR) (c_lands : AR) (c_row : AR) (c_rowMany : Int32) (c_endsAt : Int32) (z : Int32) (h : fX4_mayStay p1 p2 p3 p4 c_r c_barred = some z) : cRO l yX4_mayStay wsX4_mayStay (RMk 2 46) sk (dC, dI) (tyz cI cC) (zwM cI cC f c_r c_refused c_tape c_letter c_letterAt c_number c_taped c_at c_statements c_kept c_hasImage c_isKeeping c_cursor c_poled c_barred c_leapsTo c_leapsThen c_lands c_row c_rowMany c_endsAt) [.ref (f 0), .int p1, .int p2, .int p3, .int p4] z := by
  refine ofRO (cc := cX4_mayStay) (maxL := 5) (ret := (some .boolean)) (own := RX4) (plainFor_of_name (by decide)) rfl rfl (Nat.le_of_ble_eq_true rfl) ?_
  intro p e s m args below meth c hx hb hml hr hts hown hlocks hE hK hP hS ls hl
  generalize hQ : qRO _ _ _ _ = Q
  have hl : lv_has ls 5 [(0, .ref (f 0)), (1, .int p1), (2, .int p2), (3, .int p3), (4, .int p4)] := hl
  rw [fX4_mayStay] at h
  refine lv_iload_n hx hb dX4_mayStay_0 rfl (lv_at hl 1 rfl) ?_
  refine lv_iload_n hx hb dX4_mayStay_1 rfl (lv_at hl 2 rfl) ?_
  refine lv_icmp_ne (tgt := 37) hx hb dX4_mayStay_2 (by decide) (fun c2 => ?_) (fun c2 => ?_)
  · have h := itF c2 h
    refine lv_iload_n hx hb dX4_mayStay_37 rfl (lv_at hl 1 rfl) ?_
    refine lv_bipush (v := (10 : Int32)) hx hb dX4_mayStay_38 (by decide) ?_
    refine lv_icmp_ge (tgt := 61) hx hb dX4_mayStay_40 (by decide) (fun c40 => ?_) (fun c40 => ?_)
    · have h := itT c40 h
      refine lv_iconst (v := (0 : Int32)) hx hb dX4_mayStay_61 (by decide) ?_
      subst hQ
      exact retRO hx hb hr hlocks rfl hS h dX4_mayStay_62
    have h := itF c40 h
    refine lv_iload_n hx hb dX4_mayStay_43 rfl (lv_at hl 2 rfl) ?_
    refine lv_bipush (v := (10 : Int32)) hx hb dX4_mayStay_44 (by decide) ?_
    refine lv_icmp_ge (tgt := 61) hx hb dX4_mayStay_46 (by decide) (fun c46 => ?_) (fun c46 => ?_)
    · have h := itT c46 h
      refine lv_iconst (v := (0 : Int32)) hx hb dX4_mayStay_61 (by decide) ?_
      subst hQ
      exact retRO hx hb hr hlocks rfl hS h dX4_mayStay_62
    have h := itF c46 h
    refine lv_iload_n hx hb dX4_mayStay_49 rfl (lv_at hl 1 rfl) ?_
    refine lv_iload_n hx hb dX4_mayStay_50 rfl (lv_at hl 2 rfl) ?_
    obtain ⟨q51, e51, h⟩ := bd_some h
    refine g_roS (wc := ([] : va_W)) ⟨hx, hb, hml, hown, hts⟩ hE hK hP hS [] rfl (mX4_isNear l dC dI cI cC sk  p1 p2 q51 e51) (va_cwS 2 hts gX4_mayStay_X4_isNear rfl rfl rfl (by decide +kernel) ⟨Nat.le_of_ble_eq_true rfl, Nat.le_of_ble_eq_true rfl⟩) (As := [.int p1, .int p2]) (rest := []) rfl hl.1 rfl (Nat.le_of_ble_eq_true rfl) dX4_mayStay_51 ⟨Nat.zero_le _, Nat.zero_le _⟩ (fun H locs hP hS => ?_)
    refine lv_if_eq (tgt := 61) hx hb dX4_mayStay_54 (by decide) (fun c54 => ?_) (fun c54 => ?_)
    · have h := itT c54 h
      refine lv_iconst (v := (0 : Int32)) hx hb dX4_mayStay_61 (by decide) ?_
      subst hQ
      exact retRO hx hb hr hlocks rfl hS h dX4_mayStay_62
    have h := itF c54 h
    refine lv_iconst (v := (1 : Int32)) hx hb dX4_mayStay_57 (by decide) ?_
    refine lv_goto (tgt := 62) hx hb dX4_mayStay_58 (by decide) ?_
    subst hQ
    exact retRO hx hb hr hlocks rfl hS h dX4_mayStay_62
  have h := itT c2 h
  refine lv_iload_n hx hb dX4_mayStay_5 rfl (lv_at hl 1 rfl) ?_
  refine lv_bipush (v := (10 : Int32)) hx hb dX4_mayStay_6 (by decide) ?_
  refine lv_icmp_lt (tgt := 31) hx hb dX4_mayStay_8 (by decide) (fun c8 => ?_) (fun c8 => ?_)
  · have h := itT c8 h
    refine lv_iconst (v := (1 : Int32)) hx hb dX4_mayStay_31 (by decide) ?_
    refine lv_goto (tgt := 36) hx hb dX4_mayStay_32 (by decide) ?_
    subst hQ
    exact retRO hx hb hr hlocks rfl hS h dX4_mayStay_36
  have h := itF c8 h
  refine lv_iload_n hx hb dX4_mayStay_11 rfl (lv_at hl 1 rfl) ?_
  refine lv_bipush (v := (18 : Int32)) hx hb dX4_mayStay_12 (by decide) ?_
  refine lv_icmp_eq (tgt := 31) hx hb dX4_mayStay_14 (by decide) (fun c14 => ?_) (fun c14 => ?_)
  · have h := itT c14 h
    refine lv_iconst (v := (1 : Int32)) hx hb dX4_mayStay_31 (by decide) ?_
    refine lv_goto (tgt := 36) hx hb dX4_mayStay_32 (by decide) ?_
    subst hQ
    exact retRO hx hb hr hlocks rfl hS h dX4_mayStay_36
  have h := itF c14 h
  refine lv_aload_n hx hb dX4_mayStay_17 rfl (lv_at hl 0 rfl) ?_
  refine lv_iload_n hx hb dX4_mayStay_18 rfl (lv_at hl 1 rfl) ?_
  refine lv_bipush (v := (10 : Int32)) hx hb dX4_mayStay_19 (by decide) ?_
  refine lv_isub hx hb dX4_mayStay_21 ?_
  refine lv_iload_n hx hb dX4_mayStay_22 rfl (lv_at hl 3 rfl) ?_
  refine lv_iload hx hb dX4_mayStay_23 (lv_at hl 4 rfl) ?_
  obtain ⟨q25, e25, h⟩ := bd_some h
  refine g_roV (wc := (zwM cI cC f c_r c_refused c_tape c_letter c_letterAt c_number c_taped c_at c_statements c_kept c_hasImage c_isKeeping c_cursor c_poled c_barred c_leapsTo c_leapsThen c_lands c_row c_rowMany c_endsAt)) ⟨hx, hb, hml, hown, hts⟩ hE hK hP hS [0, 1, 2, 3, 4, 5, 6, 7, 8, 9, 10, 11, 12, 13, 14, 15] rfl (mX4_doesBear l dC dI cI cC sk f (p1 - (10 : Int32)) p3 p4 c_r c_refused c_tape c_letter c_letterAt c_number c_taped c_at c_statements c_kept c_hasImage c_isKeeping c_cursor c_poled c_barred c_leapsTo c_leapsThen c_lands c_row c_rowMany c_endsAt q25 e25) (cwV 3 hts gX4_mayStay_X4_doesBear rfl rfl rfl (by decide +kernel) ⟨Nat.le_of_ble_eq_true rfl, Nat.le_of_ble_eq_true rfl⟩) (va_recv hK hP (ci := 4) (q0 := 0) rfl rfl) (As := [.int (p1 - (10 : Int32)), .int p3, .int p4]) (rest := []) rfl hl.1 rfl (Nat.le_of_ble_eq_true rfl) dX4_mayStay_25 ⟨Nat.zero_le _, Nat.zero_le _⟩ (fun H locs hP hS => ?_)
  refine lv_if_eq (tgt := 35) hx hb dX4_mayStay_28 (by decide) (fun c28 => ?_) (fun c28 => ?_)
  · have h := itT c28 h
    refine lv_iconst (v := (0 : Int32)) hx hb dX4_mayStay_35 (by decide) ?_
    subst hQ
    exact retRO hx hb hr hlocks rfl hS h dX4_mayStay_36
  have h := itF c28 h
  refine lv_iconst (v := (1 : Int32)) hx hb dX4_mayStay_31 (by decide) ?_
  refine lv_goto (tgt := 36) hx hb dX4_mayStay_32 (by decide) ?_
  subst hQ
  exact retRO hx hb hr hlocks rfl hS h dX4_mayStay_36
