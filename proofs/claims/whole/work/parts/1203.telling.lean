theorem dX1_minuteAt_0 : decode cX1_minuteAt 0 = .ok (.aload_n 0, 1) := by decide +kernel
theorem dX1_minuteAt_1 : decode cX1_minuteAt 1 = .ok (.iload_n 1, 1) := by decide +kernel
theorem dX1_minuteAt_2 : decode cX1_minuteAt 2 = .ok (.invokevirtual 48, 3) := by decide +kernel
theorem dX1_minuteAt_5 : decode cX1_minuteAt 5 = .ok (.istore_n 2, 1) := by decide +kernel
theorem dX1_minuteAt_6 : decode cX1_minuteAt 6 = .ok (.bipush 100, 2) := by decide +kernel
theorem dX1_minuteAt_8 : decode cX1_minuteAt 8 = .ok (.aload_n 0, 1) := by decide +kernel
theorem dX1_minuteAt_9 : decode cX1_minuteAt 9 = .ok (.iload_n 1, 1) := by decide +kernel
theorem dX1_minuteAt_10 : decode cX1_minuteAt 10 = .ok (.iconst 1, 1) := by decide +kernel
theorem dX1_minuteAt_11 : decode cX1_minuteAt 11 = .ok (.iadd, 1) := by decide +kernel
theorem dX1_minuteAt_12 : decode cX1_minuteAt 12 = .ok (.invokevirtual 40, 3) := by decide +kernel
theorem dX1_minuteAt_15 : decode cX1_minuteAt 15 = .ok (.invokestatic 44, 3) := by decide +kernel
theorem dX1_minuteAt_18 : decode cX1_minuteAt 18 = .ok (.ifCond .eq 18, 3) := by decide +kernel
theorem dX1_minuteAt_21 : decode cX1_minuteAt 21 = .ok (.bipush 10, 2) := by decide +kernel
theorem dX1_minuteAt_23 : decode cX1_minuteAt 23 = .ok (.iload_n 2, 1) := by decide +kernel
theorem dX1_minuteAt_24 : decode cX1_minuteAt 24 = .ok (.imul, 1) := by decide +kernel
theorem dX1_minuteAt_25 : decode cX1_minuteAt 25 = .ok (.aload_n 0, 1) := by decide +kernel
theorem dX1_minuteAt_26 : decode cX1_minuteAt 26 = .ok (.iload_n 1, 1) := by decide +kernel
theorem dX1_minuteAt_27 : decode cX1_minuteAt 27 = .ok (.iconst 1, 1) := by decide +kernel
theorem dX1_minuteAt_28 : decode cX1_minuteAt 28 = .ok (.iadd, 1) := by decide +kernel
theorem dX1_minuteAt_29 : decode cX1_minuteAt 29 = .ok (.invokevirtual 48, 3) := by decide +kernel
theorem dX1_minuteAt_32 : decode cX1_minuteAt 32 = .ok (.iadd, 1) := by decide +kernel
theorem dX1_minuteAt_33 : decode cX1_minuteAt 33 = .ok (.goto 4, 3) := by decide +kernel
theorem dX1_minuteAt_36 : decode cX1_minuteAt 36 = .ok (.iload_n 2, 1) := by decide +kernel
theorem dX1_minuteAt_37 : decode cX1_minuteAt 37 = .ok (.ireturn, 1) := by decide +kernel
set_option maxRecDepth 20000 in
theorem ggX1_minuteAt_X1_digitAt : GoodIn wsX1_minuteAt wsX1_digitAt := goodIn_r _ [5, 6, 7, 8, 4, 9, 10, 11, 67, 68] (by decide +kernel) (by decide +kernel)
set_option maxRecDepth 20000 in
theorem gX1_minuteAt_X1_digitAt : GoodIn wsX1_minuteAt (wsV RX1 48 RX1 yX1_digitAt wsX1_digitAt) := goodIn_app (goodIn_of _ (by decide +kernel)) ggX1_minuteAt_X1_digitAt
set_option maxRecDepth 20000 in
theorem ggX1_minuteAt_X1_letterAt : GoodIn wsX1_minuteAt wsX1_letterAt := goodIn_r _ [9, 10, 11, 67, 68] (by decide +kernel) (by decide +kernel)
set_option maxRecDepth 20000 in
theorem gX1_minuteAt_X1_letterAt : GoodIn wsX1_minuteAt (wsV RX1 40 RX1 yX1_letterAt wsX1_letterAt) := goodIn_app (goodIn_of _ (by decide +kernel)) ggX1_minuteAt_X1_letterAt
set_option maxRecDepth 20000 in
theorem ggX1_minuteAt_X1_isOf : GoodIn wsX1_minuteAt wsX1_isOf := goodIn_r _ [14, 15, 16, 4, 17, 18, 19, 20, 21, 22, 23, 24, 25, 26, 27, 28, 29, 30, 31, 32, 33, 34, 35, 36, 37, 38, 39, 40, 41, 42, 43, 44, 45, 46, 47, 48, 49, 50, 51, 52, 53, 54, 55, 56, 57, 58, 59, 60, 61, 62, 63, 64, 65, 66] (by decide +kernel) (by decide +kernel)
set_option maxRecDepth 20000 in
theorem gX1_minuteAt_X1_isOf : GoodIn wsX1_minuteAt (va_wsS RX1 44 yX1_isOf wsX1_isOf) := goodIn_app (goodIn_of _ (by decide +kernel)) ggX1_minuteAt_X1_isOf
set_option maxHeartbeats 4000000 in
set_option maxRecDepth 100000 in
theorem mX1_minuteAt (l : Launch) (dC : Nat → ClassId) (dI : Nat → Nat → Nat) (cI cC : ClassId) (sk : (Nat → Nat) × (Nat → Nat)) (f : Nat → Nat) (p1 : Int32) (c_letters : AR) (c_size : Int32) (z : Int32) (h : fX1_minuteAt p1 c_letters c_size = some z) : cRO l yX1_minuteAt wsX1_minuteAt (RMk 6 127) sk (dC, dI) (tyz cI cC) (zwT cI cC f c_letters c_size) [.ref (f 0), .int p1] z := by
  refine ofRO (cc := cX1_minuteAt) (maxL := 3) (ret := (some .int)) (own := RX1) (plainFor_of_name (by decide)) rfl rfl (Nat.le_of_ble_eq_true rfl) ?_
  intro p e s m args below meth c hx hb hml hr hts hown hlocks hE hK hP hS ls hl
  generalize hQ : qRO _ _ _ _ = Q
  have hl : lv_has ls 3 [(0, .ref (f 0)), (1, .int p1)] := hl
  rw [fX1_minuteAt] at h
  refine lv_aload_n hx hb dX1_minuteAt_0 rfl (lv_at hl 0 rfl) ?_
  refine lv_iload_n hx hb dX1_minuteAt_1 rfl (lv_at hl 1 rfl) ?_
  obtain ⟨q2, e2, h⟩ := bd_some h
  refine g_roV (wc := (zwT cI cC f c_letters c_size)) ⟨hx, hb, hml, hown, hts⟩ hE hK hP hS [0, 1] rfl (mX1_digitAt l dC dI cI cC sk f p1 c_letters c_size q2 e2) (cwV 1 hts gX1_minuteAt_X1_digitAt rfl rfl rfl (by decide +kernel) ⟨Nat.le_of_ble_eq_true rfl, Nat.le_of_ble_eq_true rfl⟩) (va_recv hK hP (ci := 1) (q0 := 0) rfl rfl) (As := [.int p1]) (rest := []) rfl hl.1 rfl (Nat.le_of_ble_eq_true rfl) dX1_minuteAt_2 ⟨Nat.zero_le _, Nat.zero_le _⟩ (fun H locs hP hS => ?_)
  refine lv_istore_n (lv' := [(2, .int q2), (0, .ref (f 0)), (1, .int p1)]) hx hb dX1_minuteAt_5 rfl hl (by decide) rfl (fun ls hl => ?_)
  refine lv_bipush (v := (100 : Int32)) hx hb dX1_minuteAt_6 (by decide) ?_
  refine lv_aload_n hx hb dX1_minuteAt_8 rfl (lv_at hl 1 rfl) ?_
  refine lv_iload_n hx hb dX1_minuteAt_9 rfl (lv_at hl 2 rfl) ?_
  refine lv_iconst (v := (1 : Int32)) hx hb dX1_minuteAt_10 (by decide) ?_
  refine lv_iadd hx hb dX1_minuteAt_11 ?_
  obtain ⟨q12, e12, h⟩ := bd_some h
  refine g_roV (wc := (zwT cI cC f c_letters c_size)) ⟨hx, hb, hml, hown, hts⟩ hE hK hP hS [0, 1] rfl (mX1_letterAt l dC dI cI cC sk f (p1 + (1 : Int32)) c_letters c_size q12 e12) (cwV 1 hts gX1_minuteAt_X1_letterAt rfl rfl rfl (by decide +kernel) ⟨Nat.le_of_ble_eq_true rfl, Nat.le_of_ble_eq_true rfl⟩) (va_recv hK hP (ci := 1) (q0 := 0) rfl rfl) (As := [.int (p1 + (1 : Int32))]) (rest := [.int (100 : Int32)]) rfl hl.1 rfl (Nat.le_of_ble_eq_true rfl) dX1_minuteAt_12 ⟨Nat.zero_le _, Nat.zero_le _⟩ (fun H locs hP hS => ?_)
  obtain ⟨q15, e15, h⟩ := bd_some h
  refine g_roS (wc := ([] : va_W)) ⟨hx, hb, hml, hown, hts⟩ hE hK hP hS [] rfl (mX1_isOf l dC dI cI cC sk  (100 : Int32) q12 q15 e15) (va_cwS 2 hts gX1_minuteAt_X1_isOf rfl rfl rfl (by decide +kernel) ⟨Nat.le_of_ble_eq_true rfl, Nat.le_of_ble_eq_true rfl⟩) (As := [.int (100 : Int32), .int q12]) (rest := []) rfl hl.1 rfl (Nat.le_of_ble_eq_true rfl) dX1_minuteAt_15 ⟨Nat.zero_le _, Nat.zero_le _⟩ (fun H locs hP hS => ?_)
  refine lv_if_eq (tgt := 36) hx hb dX1_minuteAt_18 (by decide) (fun c18 => ?_) (fun c18 => ?_)
  · have h := itT c18 h
    refine lv_iload_n hx hb dX1_minuteAt_36 rfl (lv_at hl 0 rfl) ?_
    subst hQ
    exact retRO hx hb hr hlocks rfl hS h dX1_minuteAt_37
  have h := itF c18 h
  refine lv_bipush (v := (10 : Int32)) hx hb dX1_minuteAt_21 (by decide) ?_
  refine lv_iload_n hx hb dX1_minuteAt_23 rfl (lv_at hl 0 rfl) ?_
  refine lv_imul hx hb dX1_minuteAt_24 ?_
  refine lv_aload_n hx hb dX1_minuteAt_25 rfl (lv_at hl 1 rfl) ?_
  refine lv_iload_n hx hb dX1_minuteAt_26 rfl (lv_at hl 2 rfl) ?_
  refine lv_iconst (v := (1 : Int32)) hx hb dX1_minuteAt_27 (by decide) ?_
  refine lv_iadd hx hb dX1_minuteAt_28 ?_
  obtain ⟨q29, e29, h⟩ := bd_some h
  refine g_roV (wc := (zwT cI cC f c_letters c_size)) ⟨hx, hb, hml, hown, hts⟩ hE hK hP hS [0, 1] rfl (mX1_digitAt l dC dI cI cC sk f (p1 + (1 : Int32)) c_letters c_size q29 e29) (cwV 1 hts gX1_minuteAt_X1_digitAt rfl rfl rfl (by decide +kernel) ⟨Nat.le_of_ble_eq_true rfl, Nat.le_of_ble_eq_true rfl⟩) (va_recv hK hP (ci := 1) (q0 := 0) rfl rfl) (As := [.int (p1 + (1 : Int32))]) (rest := [.int ((10 : Int32) * q2)]) rfl hl.1 rfl (Nat.le_of_ble_eq_true rfl) dX1_minuteAt_29 ⟨Nat.zero_le _, Nat.zero_le _⟩ (fun H locs hP hS => ?_)
  refine lv_iadd hx hb dX1_minuteAt_32 ?_
  refine lv_goto (tgt := 37) hx hb dX1_minuteAt_33 (by decide) ?_
  subst hQ
  exact retRO hx hb hr hlocks rfl hS h dX1_minuteAt_37
