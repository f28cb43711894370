theorem dX1_tellOne_0 : decode cX1_tellOne 0 = .ok (.aload_n 0, 1) := by decide +kernel
theorem dX1_tellOne_1 : decode cX1_tellOne 1 = .ok (.iload_n 2, 1) := by decide +kernel
theorem dX1_tellOne_2 : decode cX1_tellOne 2 = .ok (.invokevirtual 40, 3) := by decide +kernel
theorem dX1_tellOne_5 : decode cX1_tellOne 5 = .ok (.lookupswitch 51 #[(109, 39), (114, 27)], 27) := by decide +kernel
theorem dX1_tellOne_32 : decode cX1_tellOne 32 = .ok (.aload_n 1, 1) := by decide +kernel
theorem dX1_tellOne_33 : decode cX1_tellOne 33 = .ok (.aload_n 0, 1) := by decide +kernel
theorem dX1_tellOne_34 : decode cX1_tellOne 34 = .ok (.iload_n 2, 1) := by decide +kernel
theorem dX1_tellOne_35 : decode cX1_tellOne 35 = .ok (.iconst 1, 1) := by decide +kernel
theorem dX1_tellOne_36 : decode cX1_tellOne 36 = .ok (.iadd, 1) := by decide +kernel
theorem dX1_tellOne_37 : decode cX1_tellOne 37 = .ok (.invokevirtual 48, 3) := by decide +kernel
theorem dX1_tellOne_40 : decode cX1_tellOne 40 = .ok (.invokevirtual 51, 3) := by decide +kernel
theorem dX1_tellOne_43 : decode cX1_tellOne 43 = .ok (.ireturn, 1) := by decide +kernel
theorem dX1_tellOne_44 : decode cX1_tellOne 44 = .ok (.aload_n 1, 1) := by decide +kernel
theorem dX1_tellOne_45 : decode cX1_tellOne 45 = .ok (.aload_n 0, 1) := by decide +kernel
theorem dX1_tellOne_46 : decode cX1_tellOne 46 = .ok (.iload_n 2, 1) := by decide +kernel
theorem dX1_tellOne_47 : decode cX1_tellOne 47 = .ok (.iconst 1, 1) := by decide +kernel
theorem dX1_tellOne_48 : decode cX1_tellOne 48 = .ok (.iadd, 1) := by decide +kernel
theorem dX1_tellOne_49 : decode cX1_tellOne 49 = .ok (.invokevirtual 57, 3) := by decide +kernel
theorem dX1_tellOne_52 : decode cX1_tellOne 52 = .ok (.invokevirtual 60, 3) := by decide +kernel
theorem dX1_tellOne_55 : decode cX1_tellOne 55 = .ok (.ireturn, 1) := by decide +kernel
theorem dX1_tellOne_56 : decode cX1_tellOne 56 = .ok (.aload_n 0, 1) := by decide +kernel
theorem dX1_tellOne_57 : decode cX1_tellOne 57 = .ok (.iload_n 2, 1) := by decide +kernel
theorem dX1_tellOne_58 : decode cX1_tellOne 58 = .ok (.iconst 5, 1) := by decide +kernel
theorem dX1_tellOne_59 : decode cX1_tellOne 59 = .ok (.iadd, 1) := by decide +kernel
theorem dX1_tellOne_60 : decode cX1_tellOne 60 = .ok (.invokevirtual 48, 3) := by decide +kernel
theorem dX1_tellOne_63 : decode cX1_tellOne 63 = .ok (.istore_n 3, 1) := by decide +kernel
theorem dX1_tellOne_64 : decode cX1_tellOne 64 = .ok (.aload_n 1, 1) := by decide +kernel
theorem dX1_tellOne_65 : decode cX1_tellOne 65 = .ok (.aload_n 0, 1) := by decide +kernel
theorem dX1_tellOne_66 : decode cX1_tellOne 66 = .ok (.iload_n 2, 1) := by decide +kernel
theorem dX1_tellOne_67 : decode cX1_tellOne 67 = .ok (.iconst 1, 1) := by decide +kernel
theorem dX1_tellOne_68 : decode cX1_tellOne 68 = .ok (.iadd, 1) := by decide +kernel
theorem dX1_tellOne_69 : decode cX1_tellOne 69 = .ok (.invokevirtual 40, 3) := by decide +kernel
theorem dX1_tellOne_72 : decode cX1_tellOne 72 = .ok (.invokestatic 63, 3) := by decide +kernel
theorem dX1_tellOne_75 : decode cX1_tellOne 75 = .ok (.aload_n 0, 1) := by decide +kernel
theorem dX1_tellOne_76 : decode cX1_tellOne 76 = .ok (.iload_n 2, 1) := by decide +kernel
theorem dX1_tellOne_77 : decode cX1_tellOne 77 = .ok (.iconst 2, 1) := by decide +kernel
theorem dX1_tellOne_78 : decode cX1_tellOne 78 = .ok (.iadd, 1) := by decide +kernel
theorem dX1_tellOne_79 : decode cX1_tellOne 79 = .ok (.invokevirtual 48, 3) := by decide +kernel
theorem dX1_tellOne_82 : decode cX1_tellOne 82 = .ok (.aload_n 0, 1) := by decide +kernel
theorem dX1_tellOne_83 : decode cX1_tellOne 83 = .ok (.iload_n 2, 1) := by decide +kernel
theorem dX1_tellOne_84 : decode cX1_tellOne 84 = .ok (.iconst 3, 1) := by decide +kernel
theorem dX1_tellOne_85 : decode cX1_tellOne 85 = .ok (.iadd, 1) := by decide +kernel
theorem dX1_tellOne_86 : decode cX1_tellOne 86 = .ok (.invokevirtual 48, 3) := by decide +kernel
theorem dX1_tellOne_89 : decode cX1_tellOne 89 = .ok (.aload_n 0, 1) := by decide +kernel
theorem dX1_tellOne_90 : decode cX1_tellOne 90 = .ok (.iload_n 2, 1) := by decide +kernel
theorem dX1_tellOne_91 : decode cX1_tellOne 91 = .ok (.iconst 4, 1) := by decide +kernel
theorem dX1_tellOne_92 : decode cX1_tellOne 92 = .ok (.iadd, 1) := by decide +kernel
theorem dX1_tellOne_93 : decode cX1_tellOne 93 = .ok (.invokevirtual 40, 3) := by decide +kernel
theorem dX1_tellOne_96 : decode cX1_tellOne 96 = .ok (.bipush 108, 2) := by decide +kernel
theorem dX1_tellOne_98 : decode cX1_tellOne 98 = .ok (.if_icmp .ne 8, 3) := by decide +kernel
theorem dX1_tellOne_101 : decode cX1_tellOne 101 = .ok (.iload_n 3, 1) := by decide +kernel
theorem dX1_tellOne_102 : decode cX1_tellOne 102 = .ok (.ineg, 1) := by decide +kernel
theorem dX1_tellOne_103 : decode cX1_tellOne 103 = .ok (.goto 4, 3) := by decide +kernel
theorem dX1_tellOne_106 : decode cX1_tellOne 106 = .ok (.iload_n 3, 1) := by decide +kernel
theorem dX1_tellOne_107 : decode cX1_tellOne 107 = .ok (.aload_n 0, 1) := by decide +kernel
theorem dX1_tellOne_108 : decode cX1_tellOne 108 = .ok (.iload_n 2, 1) := by decide +kernel
theorem dX1_tellOne_109 : decode cX1_tellOne 109 = .ok (.bipush 6, 2) := by decide +kernel
theorem dX1_tellOne_111 : decode cX1_tellOne 111 = .ok (.iadd, 1) := by decide +kernel
theorem dX1_tellOne_112 : decode cX1_tellOne 112 = .ok (.invokevirtual 48, 3) := by decide +kernel
theorem dX1_tellOne_115 : decode cX1_tellOne 115 = .ok (.invokevirtual 66, 3) := by decide +kernel
theorem dX1_tellOne_118 : decode cX1_tellOne 118 = .ok (.ireturn, 1) := by decide +kernel
set_option maxRecDepth 20000 in
theorem ggX1_tellOne_X1_letterAt : GoodIn wsX1_tellOne wsX1_letterAt := goodIn_r _ [5, 6, 7, 107, 108] (by decide +kernel) (by decide +kernel)
set_option maxRecDepth 20000 in
theorem gX1_tellOne_X1_letterAt : GoodIn wsX1_tellOne (wsV RX1 40 RX1 yX1_letterAt wsX1_letterAt) := goodIn_app (goodIn_of _ (by decide +kernel)) ggX1_tellOne_X1_letterAt
set_option maxRecDepth 20000 in
theorem ggX1_tellOne_X1_digitAt : GoodIn wsX1_tellOne wsX1_digitAt := goodIn_r _ [11, 1, 2, 3, 4, 5, 6, 7, 107, 108] (by decide +kernel) (by decide +kernel)
set_option maxRecDepth 20000 in
theorem gX1_tellOne_X1_digitAt : GoodIn wsX1_tellOne (wsV RX1 48 RX1 yX1_digitAt wsX1_digitAt) := goodIn_app (goodIn_of _ (by decide +kernel)) ggX1_tellOne_X1_digitAt
set_option maxRecDepth 20000 in
theorem ggX1_tellOne_X0_widen : GoodIn wsX1_tellOne wsX0_widen := goodIn_r _ [16, 17, 18, 19, 20, 21, 15, 22, 23, 24, 25, 26, 27, 109, 110, 111, 112, 113, 114, 115, 116] (by decide +kernel) (by decide +kernel)
set_option maxRecDepth 20000 in
theorem gX1_tellOne_X0_widen : GoodIn wsX1_tellOne (wsV RX1 51 RX0 yX0_widen wsX0_widen) := goodIn_app (goodIn_of _ (by decide +kernel)) ggX1_tellOne_X0_widen
set_option maxRecDepth 20000 in
theorem ggX1_tellOne_X1_minuteAt : GoodIn wsX1_tellOne wsX1_minuteAt := goodIn_r _ [31, 8, 9, 10, 4, 11, 1, 2, 3, 5, 6, 7, 32, 33, 34, 35, 36, 37, 38, 39, 40, 41, 42, 43, 44, 45, 46, 47, 48, 49, 50, 51, 52, 53, 54, 55, 56, 57, 58, 59, 60, 61, 62, 63, 64, 65, 66, 67, 68, 69, 70, 71, 72, 73, 74, 75, 76, 77, 78, 79, 80, 81, 82, 83, 84, 85, 86, 107, 108] (by decide +kernel) (by decide +kernel)
set_option maxRecDepth 20000 in
theorem gX1_tellOne_X1_minuteAt : GoodIn wsX1_tellOne (wsV RX1 57 RX1 yX1_minuteAt wsX1_minuteAt) := goodIn_app (goodIn_of _ (by decide +kernel)) ggX1_tellOne_X1_minuteAt
set_option maxRecDepth 20000 in
theorem ggX1_tellOne_X0_turnTo : GoodIn wsX1_tellOne wsX0_turnTo := goodIn_r _ [90, 91, 109, 110, 111, 112, 113, 114, 115, 116] (by decide +kernel) (by decide +kernel)
set_option maxRecDepth 20000 in
theorem gX1_tellOne_X0_turnTo : GoodIn wsX1_tellOne (wsV RX1 60 RX0 yX0_turnTo wsX0_turnTo) := goodIn_app (goodIn_of _ (by decide +kernel)) ggX1_tellOne_X0_turnTo
set_option maxRecDepth 20000 in
theorem ggX1_tellOne_X1_kindOf : GoodIn wsX1_tellOne wsX1_kindOf := goodIn_r _ [37, 38, 39, 40, 41, 42, 43, 44, 45, 46, 47, 48, 49, 50, 51, 52, 53, 54, 55, 56, 57, 58, 59, 60, 61, 62, 63, 64, 65, 66, 67, 68, 69, 70, 71, 72, 73, 74, 75, 76, 77, 78, 79, 80, 81, 82, 83, 84, 85, 86] (by decide +kernel) (by decide +kernel)
set_option maxRecDepth 20000 in
theorem gX1_tellOne_X1_kindOf : GoodIn wsX1_tellOne (va_wsS RX1 63 yX1_kindOf wsX1_kindOf) := goodIn_app (goodIn_of _ (by decide +kernel)) ggX1_tellOne_X1_kindOf
set_option maxRecDepth 20000 in
theorem ggX1_tellOne_X0_add : GoodIn wsX1_tellOne wsX0_add := goodIn_r _ [95, 17, 18, 96, 97, 98, 99, 100, 23, 101, 102, 103, 104, 105, 106, 109, 110, 111, 112, 113, 114, 115, 116] (by decide +kernel) (by decide +kernel)
set_option maxRecDepth 20000 in
theorem gX1_tellOne_X0_add : GoodIn wsX1_tellOne (wsV RX1 66 RX0 yX0_add wsX0_add) := goodIn_app (goodIn_of _ (by decide +kernel)) ggX1_tellOne_X0_add
set_option maxHeartbeats 4000000 in
set_option maxRecDepth 100000 in
theorem mX1_tellOne (l : Launch) (dC : Nat → ClassId) (dI : Nat → Nat → Nat) (cI cC : ClassId) (sk : (Nat → Nat) × (Nat → Nat)) (f : Nat → Nat) (sz : Nat) (p2 : Int32) (c_r : RT) (c_letters : AR) (c_size : Int32) (z : Int32 × RT) (h : fX1_tellOne p2 c_r c_letters c_size = some z) : cRW l yX1_tellOne wsX1_tellOne (RMk 7 149) sk (dC, dI) (tyz cI cC) sz (zwTR cI cC f c_r c_letters c_size) (zwTR cI cC f z.2 c_letters c_size) [.ref (f 6), .ref (f 0), .int p2] z.1 := by
  refine ofRW (cc := cX1_tellOne) (maxL := 4) (ret := (some .boolean)) (own := RX1) (plainFor_of_name (by decide)) rfl rfl (Nat.le_of_ble_eq_true rfl) ?_
  intro p e s m args below meth c A hA hx hb hml hr hts hown hlocks hE hK hP hD hS ls hl
  generalize hQ : qRW _ _ _ _ _ _ _ = Q
  have hl : lv_has ls 4 [(0, .ref (f 6)), (1, .ref (f 0)), (2, .int p2)] := hl
  rw [fX1_tellOne] at h
  refine lv_aload_n hx hb dX1_tellOne_0 rfl (lv_at hl 0 rfl) ?_
  refine lv_iload_n hx hb dX1_tellOne_1 rfl (lv_at hl 2 rfl) ?_
  obtain ⟨q2, e2, h⟩ := bd_some h
  refine g_roV (wc := (zwT cI cC (fun k => f (k + 6)) c_letters c_size)) ⟨hx, hb, hml, hown, hts⟩ hE hK hP hS [6, 7] rfl (mX1_letterAt l dC dI cI cC sk (fun k => f (k + 6)) p2 c_letters c_size q2 e2) (cwV 1 hts gX1_tellOne_X1_letterAt rfl rfl rfl (by decide +kernel) ⟨Nat.le_of_ble_eq_true rfl, Nat.le_of_ble_eq_true rfl⟩) (va_recv hK hP (ci := 1) (q0 := 6) rfl rfl) (As := [.int p2]) (rest := []) rfl hl.1 rfl (Nat.le_of_ble_eq_true rfl) dX1_tellOne_2 ⟨Nat.zero_le _, Nat.zero_le _⟩ (fun H locs hP hS => ?_)
  by_cases n109 : q2 = (109 : Int32)
  · have h := itT n109 h
    refine lv_lookup (off := 39) (tgt := 44) hx hb dX1_tellOne_5 (by decide) (by rw [n109]; decide) (by decide) ?_
    refine lv_aload_n hx hb dX1_tellOne_44 rfl (lv_at hl 1 rfl) ?_
    refine lv_aload_n hx hb dX1_tellOne_45 rfl (lv_at hl 0 rfl) ?_
    refine lv_iload_n hx hb dX1_tellOne_46 rfl (lv_at hl 2 rfl) ?_
    refine lv_iconst (v := (1 : Int32)) hx hb dX1_tellOne_47 (by decide) ?_
    refine lv_iadd hx hb dX1_tellOne_48 ?_
    obtain ⟨q49, e49, h⟩ := bd_some h
    refine g_roV (wc := (zwT cI cC (fun k => f (k + 6)) c_letters c_size)) ⟨hx, hb, hml, hown, hts⟩ hE hK hP hS [6, 7] rfl (mX1_minuteAt l dC dI cI cC sk (fun k => f (k + 6)) (p2 + (1 : Int32)) c_letters c_size q49 e49) (cwV 1 hts gX1_tellOne_X1_minuteAt rfl rfl rfl (by decide +kernel) ⟨Nat.le_of_ble_eq_true rfl, Nat.le_of_ble_eq_true rfl⟩) (va_recv hK hP (ci := 1) (q0 := 6) rfl rfl) (As := [.int (p2 + (1 : Int32))]) (rest := [.ref (f 0)]) rfl hl.1 rfl (Nat.le_of_ble_eq_true rfl) dX1_tellOne_49 ⟨Nat.zero_le _, Nat.zero_le _⟩ (fun H locs hP hS => ?_)
    obtain ⟨q52, e52, h⟩ := bd_some h
    refine g_rwV (wc := (zwR cI cC f c_r)) (wc' := (zwR cI cC f q52.2)) (ws' := (zwTR cI cC f q52.2 c_letters c_size)) (wr := [(f 6, .inr (1, [.ref (f 7), .int c_size])), (f 7, .inl (cC, 80, .inl c_letters))]) (nw := 8) ⟨hx, hb, hml, hown, hts⟩ hE hK hA hP hD hS [0, 1, 2, 3, 4, 5] [6, 7] rfl rfl rfl rfl rfl rfl (by decide +kernel) rfl (mX0_turnTo l dC dI cI cC sk f H.size q49 c_r q52 e52) (cwV 1 hts gX1_tellOne_X0_turnTo rfl rfl rfl (by decide +kernel) ⟨Nat.le_of_ble_eq_true rfl, Nat.le_of_ble_eq_true rfl⟩) (va_recv hK hP (ci := 0) (q0 := 0) rfl rfl) (As := [.int q49]) (rest := []) rfl hl.1 rfl (Nat.le_of_ble_eq_true rfl) dX1_tellOne_52 ⟨Nat.zero_le _, Nat.zero_le _⟩ (fun H locs hP hD hS => ?_)
    obtain ⟨hz, h⟩ := ckb_some h
    subst hQ
    exact retRW (zz := ((q52.1, q52.2) : Int32 × RT)) (fun z => z.1) (fun z => (zwTR cI cC f z.2 c_letters c_size)) hx hb hr hlocks (ckb_n hz) hS h rfl hP dX1_tellOne_55
  have h := itF n109 h
  by_cases n114 : q2 = (114 : Int32)
  · have h := itT n114 h
    refine lv_lookup (off := 27) (tgt := 32) hx hb dX1_tellOne_5 (by decide) (by rw [n114]; decide) (by decide) ?_
    refine lv_aload_n hx hb dX1_tellOne_32 rfl (lv_at hl 1 rfl) ?_
    refine lv_aload_n hx hb dX1_tellOne_33 rfl (lv_at hl 0 rfl) ?_
    refine lv_iload_n hx hb dX1_tellOne_34 rfl (lv_at hl 2 rfl) ?_
    refine lv_iconst (v := (1 : Int32)) hx hb dX1_tellOne_35 (by decide) ?_
    refine lv_iadd hx hb dX1_tellOne_36 ?_
    obtain ⟨q37, e37, h⟩ := bd_some h
    refine g_roV (wc := (zwT cI cC (fun k => f (k + 6)) c_letters c_size)) ⟨hx, hb, hml, hown, hts⟩ hE hK hP hS [6, 7] rfl (mX1_digitAt l dC dI cI cC sk (fun k => f (k + 6)) (p2 + (1 : Int32)) c_letters c_size q37 e37) (cwV 1 hts gX1_tellOne_X1_digitAt rfl rfl rfl (by decide +kernel) ⟨Nat.le_of_ble_eq_true rfl, Nat.le_of_ble_eq_true rfl⟩) (va_recv hK hP (ci := 1) (q0 := 6) rfl rfl) (As := [.int (p2 + (1 : Int32))]) (rest := [.ref (f 0)]) rfl hl.1 rfl (Nat.le_of_ble_eq_true rfl) dX1_tellOne_37 ⟨Nat.zero_le _, Nat.zero_le _⟩ (fun H locs hP hS => ?_)
    obtain ⟨q40, e40, h⟩ := bd_some h
    refine g_rwV (wc := (zwR cI cC f c_r)) (wc' := (zwR cI cC f q40.2)) (ws' := (zwTR cI cC f q40.2 c_letters c_size)) (wr := [(f 6, .inr (1, [.ref (f 7), .int c_size])), (f 7, .inl (cC, 80, .inl c_letters))]) (nw := 8) ⟨hx, hb, hml, hown, hts⟩ hE hK hA hP hD hS [0, 1, 2, 3, 4, 5] [6, 7] rfl rfl rfl rfl rfl rfl (by decide +kernel) rfl (mX0_widen l dC dI cI cC sk f H.size q37 c_r q40 e40) (cwV 1 hts gX1_tellOne_X0_widen rfl rfl rfl (by decide +kernel) ⟨Nat.le_of_ble_eq_true rfl, Nat.le_of_ble_eq_true rfl⟩) (va_recv hK hP (ci := 0) (q0 := 0) rfl rfl) (As := [.int q37]) (rest := []) rfl hl.1 rfl (Nat.le_of_ble_eq_true rfl) dX1_tellOne_40 ⟨Nat.zero_le _, Nat.zero_le _⟩ (fun H locs hP hD hS => ?_)
    obtain ⟨hz, h⟩ := ckb_some h
    subst hQ
    exact retRW (zz := ((q40.1, q40.2) : Int32 × RT)) (fun z => z.1) (fun z => (zwTR cI cC f z.2 c_letters c_size)) hx hb hr hlocks (ckb_n hz) hS h rfl hP dX1_tellOne_43
  have h := itF n114 h
  have m109 := neI n109 (i := 109) rfl
  have m114 := neI n114 (i := 114) rfl
  refine lv_lookup (off := 51) (tgt := 56) hx hb dX1_tellOne_5 (by decide) (by simp [Op.lookupswitch.offset, m109, Ne.symm m109, m114, Ne.symm m114]) (by decide) ?_
  refine lv_aload_n hx hb dX1_tellOne_56 rfl (lv_at hl 0 rfl) ?_
  refine lv_iload_n hx hb dX1_tellOne_57 rfl (lv_at hl 2 rfl) ?_
  refine lv_iconst (v := (5 : Int32)) hx hb dX1_tellOne_58 (by decide) ?_
  refine lv_iadd hx hb dX1_tellOne_59 ?_
  obtain ⟨q60, e60, h⟩ := bd_some h
  refine g_roV (wc := (zwT cI cC (fun k => f (k + 6)) c_letters c_size)) ⟨hx, hb, hml, hown, hts⟩ hE hK hP hS [6, 7] rfl (mX1_digitAt l dC dI cI cC sk (fun k => f (k + 6)) (p2 + (5 : Int32)) c_letters c_size q60 e60) (cwV 1 hts gX1_tellOne_X1_digitAt rfl rfl rfl (by decide +kernel) ⟨Nat.le_of_ble_eq_true rfl, Nat.le_of_ble_eq_true rfl⟩) (va_recv hK hP (ci := 1) (q0 := 6) rfl rfl) (As := [.int (p2 + (5 : Int32))]) (rest := []) rfl hl.1 rfl (Nat.le_of_ble_eq_true rfl) dX1_tellOne_60 ⟨Nat.zero_le _, Nat.zero_le _⟩ (fun H locs hP hS => ?_)
  refine lv_istore_n (lv' := [(3, .int q60), (0, .ref (f 6)), (1, .ref (f 0)), (2, .int p2)]) hx hb dX1_tellOne_63 rfl hl (by decide) rfl (fun ls hl => ?_)
  refine lv_aload_n hx hb dX1_tellOne_64 rfl (lv_at hl 2 rfl) ?_
  refine lv_aload_n hx hb dX1_tellOne_65 rfl (lv_at hl 1 rfl) ?_
  refine lv_iload_n hx hb dX1_tellOne_66 rfl (lv_at hl 3 rfl) ?_
  refine lv_iconst (v := (1 : Int32)) hx hb dX1_tellOne_67 (by decide) ?_
  refine lv_iadd hx hb dX1_tellOne_68 ?_
  obtain ⟨q69, e69, h⟩ := bd_some h
  refine g_roV (wc := (zwT cI cC (fun k => f (k + 6)) c_letters c_size)) ⟨hx, hb, hml, hown, hts⟩ hE hK hP hS [6, 7] rfl (mX1_letterAt l dC dI cI cC sk (fun k => f (k + 6)) (p2 + (1 : Int32)) c_letters c_size q69 e69) (cwV 1 hts gX1_tellOne_X1_letterAt rfl rfl rfl (by decide +kernel) ⟨Nat.le_of_ble_eq_true rfl, Nat.le_of_ble_eq_true rfl⟩) (va_recv hK hP (ci := 1) (q0 := 6) rfl rfl) (As := [.int (p2 + (1 : Int32))]) (rest := [.ref (f 0)]) rfl hl.1 rfl (Nat.le_of_ble_eq_true rfl) dX1_tellOne_69 ⟨Nat.zero_le _, Nat.zero_le _⟩ (fun H locs hP hS => ?_)
  obtain ⟨q72, e72, h⟩ := bd_some h
  refine g_roS (wc := ([] : va_W)) ⟨hx, hb, hml, hown, hts⟩ hE hK hP hS [] rfl (mX1_kindOf l dC dI cI cC sk  q69 q72 e72) (va_cwS 1 hts gX1_tellOne_X1_kindOf rfl rfl rfl (by decide +kernel) ⟨Nat.le_of_ble_eq_true rfl, Nat.le_of_ble_eq_true rfl⟩) (As := [.int q69]) (rest := [.ref (f 0)]) rfl hl.1 rfl (Nat.le_of_ble_eq_true rfl) dX1_tellOne_72 ⟨Nat.zero_le _, Nat.zero_le _⟩ (fun H locs hP hS => ?_)
  refine lv_aload_n hx hb dX1_tellOne_75 rfl (lv_at hl 1 rfl) ?_
  refine lv_iload_n hx hb dX1_tellOne_76 rfl (lv_at hl 3 rfl) ?_
  refine lv_iconst (v := (2 : Int32)) hx hb dX1_tellOne_77 (by decide) ?_
  refine lv_iadd hx hb dX1_tellOne_78 ?_
  obtain ⟨q79, e79, h⟩ := bd_some h
  refine g_roV (wc := (zwT cI cC (fun k => f (k + 6)) c_letters c_size)) ⟨hx, hb, hml, hown, hts⟩ hE hK hP hS [6, 7] rfl (mX1_digitAt l dC dI cI cC sk (fun k => f (k + 6)) (p2 + (2 : Int32)) c_letters c_size q79 e79) (cwV 1 hts gX1_tellOne_X1_digitAt rfl rfl rfl (by decide +kernel) ⟨Nat.le_of_ble_eq_true rfl, Nat.le_of_ble_eq_true rfl⟩) (va_recv hK hP (ci := 1) (q0 := 6) rfl rfl) (As := [.int (p2 + (2 : Int32))]) (rest := [.int q72, .ref (f 0)]) rfl hl.1 rfl (Nat.le_of_ble_eq_true rfl) dX1_tellOne_79 ⟨Nat.zero_le _, Nat.zero_le _⟩ (fun H locs hP hS => ?_)
  refine lv_aload_n hx hb dX1_tellOne_82 rfl (lv_at hl 1 rfl) ?_
  refine lv_iload_n hx hb dX1_tellOne_83 rfl (lv_at hl 3 rfl) ?_
  refine lv_iconst (v := (3 : Int32)) hx hb dX1_tellOne_84 (by decide) ?_
  refine lv_iadd hx hb dX1_tellOne_85 ?_
  obtain ⟨q86, e86, h⟩ := bd_some h
  refine g_roV (wc := (zwT cI cC (fun k => f (k + 6)) c_letters c_size)) ⟨hx, hb, hml, hown, hts⟩ hE hK hP hS [6, 7] rfl (mX1_digitAt l dC dI cI cC sk (fun k => f (k + 6)) (p2 + (3 : Int32)) c_letters c_size q86 e86) (cwV 1 hts gX1_tellOne_X1_digitAt rfl rfl rfl (by decide +kernel) ⟨Nat.le_of_ble_eq_true rfl, Nat.le_of_ble_eq_true rfl⟩) (va_recv hK hP (ci := 1) (q0 := 6) rfl rfl) (As := [.int (p2 + (3 : Int32))]) (rest := [.int q79, .int q72, .ref (f 0)]) rfl hl.1 rfl (Nat.le_of_ble_eq_true rfl) dX1_tellOne_86 ⟨Nat.zero_le _, Nat.zero_le _⟩ (fun H locs hP hS => ?_)
  refine lv_aload_n hx hb dX1_tellOne_89 rfl (lv_at hl 1 rfl) ?_
  refine lv_iload_n hx hb dX1_tellOne_90 rfl (lv_at hl 3 rfl) ?_
  refine lv_iconst (v := (4 : Int32)) hx hb dX1_tellOne_91 (by decide) ?_
  refine lv_iadd hx hb dX1_tellOne_92 ?_
  obtain ⟨q93, e93, h⟩ := bd_some h
  refine g_roV (wc := (zwT cI cC (fun k => f (k + 6)) c_letters c_size)) ⟨hx, hb, hml, hown, hts⟩ hE hK hP hS [6, 7] rfl (mX1_letterAt l dC dI cI cC sk (fun k => f (k + 6)) (p2 + (4 : Int32)) c_letters c_size q93 e93) (cwV 1 hts gX1_tellOne_X1_letterAt rfl rfl rfl (by decide +kernel) ⟨Nat.le_of_ble_eq_true rfl, Nat.le_of_ble_eq_true rfl⟩) (va_recv hK hP (ci := 1) (q0 := 6) rfl rfl) (As := [.int (p2 + (4 : Int32))]) (rest := [.int q86, .int q79, .int q72, .ref (f 0)]) rfl hl.1 rfl (Nat.le_of_ble_eq_true rfl) dX1_tellOne_93 ⟨Nat.zero_le _, Nat.zero_le _⟩ (fun H locs hP hS => ?_)
  refine lv_bipush (v := (108 : Int32)) hx hb dX1_tellOne_96 (by decide) ?_
  refine jnW (fun (v107 : Int32) => ∀ (H : Heap) (locs : List Loc) (ls : Array Slot), va_P (dC, dI) vwCl (zwTR cI cC f c_r c_letters c_size) H → va_D A (zwTR cI cC f c_r c_letters c_size) → va_S A s.heap H locs → lv_has ls 4 [(0, .ref (f 6)), (2, .int p2)] → W p l e (RMk 7 149) s m args below meth c H locs 0 0 Q (F0 m 107 ls [.int v107, .int q86, .int q79, .int q72, .ref (f 0)])) h (fun v107 h H locs ls hP hD hS hl => ?_) (fun J107 j107 h => ?_)
  · refine lv_aload_n hx hb dX1_tellOne_107 rfl (lv_at hl 0 rfl) ?_
    refine lv_iload_n hx hb dX1_tellOne_108 rfl (lv_at hl 1 rfl) ?_
    refine lv_bipush (v := (6 : Int32)) hx hb dX1_tellOne_109 (by decide) ?_
    refine lv_iadd hx hb dX1_tellOne_111 ?_
    obtain ⟨q112, e112, h⟩ := bd_some h
    refine g_roV (wc := (zwT cI cC (fun k => f (k + 6)) c_letters c_size)) ⟨hx, hb, hml, hown, hts⟩ hE hK hP hS [6, 7] rfl (mX1_digitAt l dC dI cI cC sk (fun k => f (k + 6)) (p2 + (6 : Int32)) c_letters c_size q112 e112) (cwV 1 hts gX1_tellOne_X1_digitAt rfl rfl rfl (by decide +kernel) ⟨Nat.le_of_ble_eq_true rfl, Nat.le_of_ble_eq_true rfl⟩) (va_recv hK hP (ci := 1) (q0 := 6) rfl rfl) (As := [.int (p2 + (6 : Int32))]) (rest := [.int v107, .int q86, .int q79, .int q72, .ref (f 0)]) rfl hl.1 rfl (Nat.le_of_ble_eq_true rfl) dX1_tellOne_112 ⟨Nat.zero_le _, Nat.zero_le _⟩ (fun H locs hP hS => ?_)
    obtain ⟨q115, e115, h⟩ := bd_some h
    refine g_rwV (wc := (zwR cI cC f c_r)) (wc' := (zwR cI cC f q115.2)) (ws' := (zwTR cI cC f q115.2 c_letters c_size)) (wr := [(f 6, .inr (1, [.ref (f 7), .int c_size])), (f 7, .inl (cC, 80, .inl c_letters))]) (nw := 8) ⟨hx, hb, hml, hown, hts⟩ hE hK hA hP hD hS [0, 1, 2, 3, 4, 5] [6, 7] rfl rfl rfl rfl rfl rfl (by decide +kernel) rfl (mX0_add l dC dI cI cC sk f H.size q72 q79 q86 v107 q112 c_r q115 e115) (cwV 5 hts gX1_tellOne_X0_add rfl rfl rfl (by decide +kernel) ⟨Nat.le_of_ble_eq_true rfl, Nat.le_of_ble_eq_true rfl⟩) (va_recv hK hP (ci := 0) (q0 := 0) rfl rfl) (As := [.int q72, .int q79, .int q86, .int v107, .int q112]) (rest := []) rfl hl.1 rfl (Nat.le_of_ble_eq_true rfl) dX1_tellOne_115 ⟨Nat.zero_le _, Nat.zero_le _⟩ (fun H locs hP hD hS => ?_)
    obtain ⟨hz, h⟩ := ckb_some h
    subst hQ
    exact retRW (zz := ((q115.1, q115.2) : Int32 × RT)) (fun z => z.1) (fun z => (zwTR cI cC f z.2 c_letters c_size)) hx hb hr hlocks (ckb_n hz) hS h rfl hP dX1_tellOne_118
  refine lv_icmp_ne (tgt := 106) hx hb dX1_tellOne_98 (by decide) (fun c98 => ?_) (fun c98 => ?_)
  · have h := itF c98 h
    refine lv_iload_n hx hb dX1_tellOne_106 rfl (lv_at hl 0 rfl) ?_
    exact j107 _ h _ _ _ hP hD hS (lv_sub hl [1, 3] rfl)
  have h := itT c98 h
  refine lv_iload_n hx hb dX1_tellOne_101 rfl (lv_at hl 0 rfl) ?_
  refine lv_ineg hx hb dX1_tellOne_102 ?_
  refine lv_goto (tgt := 107) hx hb dX1_tellOne_103 (by decide) ?_
  exact j107 _ h _ _ _ hP hD hS (lv_sub hl [1, 3] rfl)
