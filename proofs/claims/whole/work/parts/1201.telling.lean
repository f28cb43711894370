theorem dX1_isOf_0 : decode cX1_isOf 0 = .ok (.iload_n 0, 1) := by decide +kernel
theorem dX1_isOf_1 : decode cX1_isOf 1 = .ok (.lookupswitch 94 #[(63, 92), (100, 43), (107, 61), (115, 74)], 43) := by decide +kernel
theorem dX1_isOf_44 : decode cX1_isOf 44 = .ok (.iload_n 1, 1) := by decide +kernel
theorem dX1_isOf_45 : decode cX1_isOf 45 = .ok (.bipush 48, 2) := by decide +kernel
theorem dX1_isOf_47 : decode cX1_isOf 47 = .ok (.if_icmp .lt 13, 3) := by decide +kernel
theorem dX1_isOf_50 : decode cX1_isOf 50 = .ok (.iload_n 1, 1) := by decide +kernel
theorem dX1_isOf_51 : decode cX1_isOf 51 = .ok (.bipush 57, 2) := by decide +kernel
theorem dX1_isOf_53 : decode cX1_isOf 53 = .ok (.if_icmp .gt 7, 3) := by decide +kernel
theorem dX1_isOf_56 : decode cX1_isOf 56 = .ok (.iconst 1, 1) := by decide +kernel
theorem dX1_isOf_57 : decode cX1_isOf 57 = .ok (.goto 4, 3) := by decide +kernel
theorem dX1_isOf_60 : decode cX1_isOf 60 = .ok (.iconst 0, 1) := by decide +kernel
theorem dX1_isOf_61 : decode cX1_isOf 61 = .ok (.ireturn, 1) := by decide +kernel
theorem dX1_isOf_62 : decode cX1_isOf 62 = .ok (.iload_n 1, 1) := by decide +kernel
theorem dX1_isOf_63 : decode cX1_isOf 63 = .ok (.invokestatic 63, 3) := by decide +kernel
theorem dX1_isOf_66 : decode cX1_isOf 66 = .ok (.ifCond .lt 7, 3) := by decide +kernel
theorem dX1_isOf_69 : decode cX1_isOf 69 = .ok (.iconst 1, 1) := by decide +kernel
theorem dX1_isOf_70 : decode cX1_isOf 70 = .ok (.goto 4, 3) := by decide +kernel
theorem dX1_isOf_73 : decode cX1_isOf 73 = .ok (.iconst 0, 1) := by decide +kernel
theorem dX1_isOf_74 : decode cX1_isOf 74 = .ok (.ireturn, 1) := by decide +kernel
theorem dX1_isOf_75 : decode cX1_isOf 75 = .ok (.iload_n 1, 1) := by decide +kernel
theorem dX1_isOf_76 : decode cX1_isOf 76 = .ok (.bipush 108, 2) := by decide +kernel
theorem dX1_isOf_78 : decode cX1_isOf 78 = .ok (.if_icmp .eq 9, 3) := by decide +kernel
theorem dX1_isOf_81 : decode cX1_isOf 81 = .ok (.iload_n 1, 1) := by decide +kernel
theorem dX1_isOf_82 : decode cX1_isOf 82 = .ok (.bipush 114, 2) := by decide +kernel
theorem dX1_isOf_84 : decode cX1_isOf 84 = .ok (.if_icmp .ne 7, 3) := by decide +kernel
theorem dX1_isOf_87 : decode cX1_isOf 87 = .ok (.iconst 1, 1) := by decide +kernel
theorem dX1_isOf_88 : decode cX1_isOf 88 = .ok (.goto 4, 3) := by decide +kernel
theorem dX1_isOf_91 : decode cX1_isOf 91 = .ok (.iconst 0, 1) := by decide +kernel
theorem dX1_isOf_92 : decode cX1_isOf 92 = .ok (.ireturn, 1) := by decide +kernel
theorem dX1_isOf_93 : decode cX1_isOf 93 = .ok (.iconst 0, 1) := by decide +kernel
theorem dX1_isOf_94 : decode cX1_isOf 94 = .ok (.ireturn, 1) := by decide +kernel
theorem dX1_isOf_95 : decode cX1_isOf 95 = .ok (.iload_n 1, 1) := by decide +kernel
theorem dX1_isOf_96 : decode cX1_isOf 96 = .ok (.iload_n 0, 1) := by decide +kernel
theorem dX1_isOf_97 : decode cX1_isOf 97 = .ok (.if_icmp .ne 7, 3) := by decide +kernel
theorem dX1_isOf_100 : decode cX1_isOf 100 = .ok (.iconst 1, 1) := by decide +kernel
theorem dX1_isOf_101 : decode cX1_isOf 101 = .ok (.goto 4, 3) := by decide +kernel
theorem dX1_isOf_104 : decode cX1_isOf 104 = .ok (.iconst 0, 1) := by decide +kernel
theorem dX1_isOf_105 : decode cX1_isOf 105 = .ok (.ireturn, 1) := by decide +kernel
set_option maxRecDepth 20000 in
theorem ggX1_isOf_X1_kindOf : GoodIn wsX1_isOf wsX1_kindOf := goodIn_r _ [4, 5, 6, 7, 8, 9, 10, 11, 12, 13, 14, 15, 16, 17, 18, 19, 20, 21, 22, 23, 24, 25, 26, 27, 28, 29, 30, 31, 32, 33, 34, 35, 36, 37, 38, 39, 40, 41, 42, 43, 44, 45, 46, 47, 48, 49, 50, 51, 52, 53] (by decide +kernel) (by decide +kernel)
set_option maxRecDepth 20000 in
theorem gX1_isOf_X1_kindOf : GoodIn wsX1_isOf (va_wsS RX1 63 yX1_kindOf wsX1_kindOf) := goodIn_app (goodIn_of _ (by decide +kernel)) ggX1_isOf_X1_kindOf
set_option maxHeartbeats 4000000 in
set_option maxRecDepth 100000 in
theorem mX1_isOf (l : Launch) (dC : Nat → ClassId) (dI : Nat → Nat → Nat) (cI cC : ClassId) (sk : (Nat → Nat) × (Nat → Nat))  (p0 : Int32) (p1 : Int32)  (z : Int32) (h : fX1_isOf p0 p1 = some z) : cRO l yX1_isOf wsX1_isOf (RMk 5 106) sk (dC, dI) (tyz cI cC) ([] : va_W) [.int p0, .int p1] z := by
  refine ofRO (cc := cX1_isOf) (maxL := 2) (ret := (some .boolean)) (own := RX1) (plainFor_of_name (by decide)) rfl rfl (Nat.le_of_ble_eq_true rfl) ?_
  intro p e s m args below meth c hx hb hml hr hts hown hlocks hE hK hP hS ls hl
  generalize hQ : qRO _ _ _ _ = Q
  have hl : lv_has ls 2 [(0, .int p0), (1, .int p1)] := hl
  rw [fX1_isOf] at h
  refine lv_iload_n hx hb dX1_isOf_0 rfl (lv_at hl 0 rfl) ?_
  by_cases n63 : p0 = (63 : Int32)
  · have h := itT n63 h
    refine lv_lookup (off := 92) (tgt := 93) hx hb dX1_isOf_1 (by decide) (by rw [n63]; decide) (by decide) ?_
    refine lv_iconst (v := (0 : Int32)) hx hb dX1_isOf_93 (by decide) ?_
    subst hQ
    exact retRO hx hb hr hlocks rfl hS h dX1_isOf_94
  have h := itF n63 h
  by_cases n100 : p0 = (100 : Int32)
  · have h := itT n100 h
    refine lv_lookup (off := 43) (tgt := 44) hx hb dX1_isOf_1 (by decide) (by rw [n100]; decide) (by decide) ?_
    refine lv_iload_n hx hb dX1_isOf_44 rfl (lv_at hl 1 rfl) ?_
    refine lv_bipush (v := (48 : Int32)) hx hb dX1_isOf_45 (by decide) ?_
    refine lv_icmp_lt (tgt := 60) hx hb dX1_isOf_47 (by decide) (fun c47 => ?_) (fun c47 => ?_)
    · have h := itT c47 h
      refine lv_iconst (v := (0 : Int32)) hx hb dX1_isOf_60 (by decide) ?_
      subst hQ
      exact retRO hx hb hr hlocks rfl hS h dX1_isOf_61
    have h := itF c47 h
    refine lv_iload_n hx hb dX1_isOf_50 rfl (lv_at hl 1 rfl) ?_
    refine lv_bipush (v := (57 : Int32)) hx hb dX1_isOf_51 (by decide) ?_
    refine lv_icmp_gt (tgt := 60) hx hb dX1_isOf_53 (by decide) (fun c53 => ?_) (fun c53 => ?_)
    · have h := itT c53 h
      refine lv_iconst (v := (0 : Int32)) hx hb dX1_isOf_60 (by decide) ?_
      subst hQ
      exact retRO hx hb hr hlocks rfl hS h dX1_isOf_61
    have h := itF c53 h
    refine lv_iconst (v := (1 : Int32)) hx hb dX1_isOf_56 (by decide) ?_
    refine lv_goto (tgt := 61) hx hb dX1_isOf_57 (by decide) ?_
    subst hQ
    exact retRO hx hb hr hlocks rfl hS h dX1_isOf_61
  have h := itF n100 h
  by_cases n107 : p0 = (107 : Int32)
  · have h := itT n107 h
    refine lv_lookup (off := 61) (tgt := 62) hx hb dX1_isOf_1 (by decide) (by rw [n107]; decide) (by decide) ?_
    refine lv_iload_n hx hb dX1_isOf_62 rfl (lv_at hl 1 rfl) ?_
    obtain ⟨q63, e63, h⟩ := bd_some h
    refine g_roS (wc := ([] : va_W)) ⟨hx, hb, hml, hown, hts⟩ hE hK hP hS [] rfl (mX1_kindOf l dC dI cI cC sk  p1 q63 e63) (va_cwS 1 hts gX1_isOf_X1_kindOf rfl rfl rfl (by decide +kernel) ⟨Nat.le_of_ble_eq_true rfl, Nat.le_of_ble_eq_true rfl⟩) (As := [.int p1]) (rest := []) rfl hl.1 rfl (Nat.le_of_ble_eq_true rfl) dX1_isOf_63 ⟨Nat.zero_le _, Nat.zero_le _⟩ (fun H locs hP hS => ?_)
    refine lv_if_lt (tgt := 73) hx hb dX1_isOf_66 (by decide) (fun c66 => ?_) (fun c66 => ?_)
    · have h := itT c66 h
      refine lv_iconst (v := (0 : Int32)) hx hb dX1_isOf_73 (by decide) ?_
      subst hQ
      exact retRO hx hb hr hlocks rfl hS h dX1_isOf_74
    have h := itF c66 h
    refine lv_iconst (v := (1 : Int32)) hx hb dX1_isOf_69 (by decide) ?_
    refine lv_goto (tgt := 74) hx hb dX1_isOf_70 (by decide) ?_
    subst hQ
    exact retRO hx hb hr hlocks rfl hS h dX1_isOf_74
  have h := itF n107 h
  by_cases n115 : p0 = (115 : Int32)
  · have h := itT n115 h
    refine lv_lookup (off := 74) (tgt := 75) hx hb dX1_isOf_1 (by decide) (by rw [n115]; decide) (by decide) ?_
    refine lv_iload_n hx hb dX1_isOf_75 rfl (lv_at hl 1 rfl) ?_
    refine lv_bipush (v := (108 : Int32)) hx hb dX1_isOf_76 (by decide) ?_
    refine lv_icmp_eq (tgt := 87) hx hb dX1_isOf_78 (by decide) (fun c78 => ?_) (fun c78 => ?_)
    · have h := itT c78 h
      refine lv_iconst (v := (1 : Int32)) hx hb dX1_isOf_87 (by decide) ?_
      refine lv_goto (tgt := 92) hx hb dX1_isOf_88 (by decide) ?_
      subst hQ
      exact retRO hx hb hr hlocks rfl hS h dX1_isOf_92
    have h := itF c78 h
    refine lv_iload_n hx hb dX1_isOf_81 rfl (lv_at hl 1 rfl) ?_
    refine lv_bipush (v := (114 : Int32)) hx hb dX1_isOf_82 (by decide) ?_
    refine lv_icmp_ne (tgt := 91) hx hb dX1_isOf_84 (by decide) (fun c84 => ?_) (fun c84 => ?_)
    · have h := itF c84 h
      refine lv_iconst (v := (0 : Int32)) hx hb dX1_isOf_91 (by decide) ?_
      subst hQ
      exact retRO hx hb hr hlocks rfl hS h dX1_isOf_92
    have h := itT c84 h
    refine lv_iconst (v := (1 : Int32)) hx hb dX1_isOf_87 (by decide) ?_
    refine lv_goto (tgt := 92) hx hb dX1_isOf_88 (by decide) ?_
    subst hQ
    exact retRO hx hb hr hlocks rfl hS h dX1_isOf_92
  have h := itF n115 h
  have m63 := neI n63 (i := 63) rfl
  have m100 := neI n100 (i := 100) rfl
  have m107 := neI n107 (i := 107) rfl
  have m115 := neI n115 (i := 115) rfl
  refine lv_lookup (off := 94) (tgt := 95) hx hb dX1_isOf_1 (by decide) (by simp [Op.lookupswitch.offset, m63, Ne.symm m63, m100, Ne.symm m100, m107, Ne.symm m107, m115, Ne.symm m115]) (by decide) ?_
  refine lv_iload_n hx hb dX1_isOf_95 rfl (lv_at hl 1 rfl) ?_
  refine lv_iload_n hx hb dX1_isOf_96 rfl (lv_at hl 0 rfl) ?_
  refine lv_icmp_ne (tgt := 104) hx hb dX1_isOf_97 (by decide) (fun c97 => ?_) (fun c97 => ?_)
  · have h := itF c97 h
    refine lv_iconst (v := (0 : Int32)) hx hb dX1_isOf_104 (by decide) ?_
    subst hQ
    exact retRO hx hb hr hlocks rfl hS h dX1_isOf_105
  have h := itT c97 h
  refine lv_iconst (v := (1 : Int32)) hx hb dX1_isOf_100 (by decide) ?_
  refine lv_goto (tgt := 105) hx hb dX1_isOf_101 (by decide) ?_
  subst hQ
  exact retRO hx hb hr hlocks rfl hS h dX1_isOf_105
theorem dX1_formAt_0 : decode cX1_formAt 0 = .ok (.aload_n 0, 1) := by decide +kernel
theorem dX1_formAt_1 : decode cX1_formAt 1 = .ok (.iload_n 1, 1) := by decide +kernel
theorem dX1_formAt_2 : decode cX1_formAt 2 = .ok (.invokevirtual 40, 3) := by decide +kernel
theorem dX1_formAt_5 : decode cX1_formAt 5 = .ok (.lookupswitch 64 #[(102, 38), (109, 41), (114, 35)], 35) := by decide +kernel
theorem dX1_formAt_40 : decode cX1_formAt 40 = .ok (.ldc 70, 2) := by decide +kernel
theorem dX1_formAt_42 : decode cX1_formAt 42 = .ok (.areturn, 1) := by decide +kernel
theorem dX1_formAt_43 : decode cX1_formAt 43 = .ok (.ldc 72, 2) := by decide +kernel
theorem dX1_formAt_45 : decode cX1_formAt 45 = .ok (.areturn, 1) := by decide +kernel
theorem dX1_formAt_46 : decode cX1_formAt 46 = .ok (.bipush 100, 2) := by decide +kernel
theorem dX1_formAt_48 : decode cX1_formAt 48 = .ok (.aload_n 0, 1) := by decide +kernel
theorem dX1_formAt_49 : decode cX1_formAt 49 = .ok (.iload_n 1, 1) := by decide +kernel
theorem dX1_formAt_50 : decode cX1_formAt 50 = .ok (.iconst 2, 1) := by decide +kernel
theorem dX1_formAt_51 : decode cX1_formAt 51 = .ok (.iadd, 1) := by decide +kernel
theorem dX1_formAt_52 : decode cX1_formAt 52 = .ok (.invokevirtual 40, 3) := by decide +kernel
theorem dX1_formAt_55 : decode cX1_formAt 55 = .ok (.invokestatic 44, 3) := by decide +kernel
theorem dX1_formAt_58 : decode cX1_formAt 58 = .ok (.ifCond .eq 8, 3) := by decide +kernel
theorem dX1_formAt_61 : decode cX1_formAt 61 = .ok (.ldc 74, 2) := by decide +kernel
theorem dX1_formAt_63 : decode cX1_formAt 63 = .ok (.goto 5, 3) := by decide +kernel
theorem dX1_formAt_66 : decode cX1_formAt 66 = .ok (.ldc 76, 2) := by decide +kernel
theorem dX1_formAt_68 : decode cX1_formAt 68 = .ok (.areturn, 1) := by decide +kernel
theorem dX1_formAt_69 : decode cX1_formAt 69 = .ok (.ldc 78, 2) := by decide +kernel
theorem dX1_formAt_71 : decode cX1_formAt 71 = .ok (.areturn, 1) := by decide +kernel
set_option maxRecDepth 20000 in
theorem ggX1_formAt_X1_letterAt : GoodIn wsX1_formAt wsX1_letterAt := goodIn_r _ [5, 6, 7, 63, 64] (by decide +kernel) (by decide +kernel)
set_option maxRecDepth 20000 in
theorem gX1_formAt_X1_letterAt : GoodIn wsX1_formAt (wsV RX1 40 RX1 yX1_letterAt wsX1_letterAt) := goodIn_app (goodIn_of _ (by decide +kernel)) ggX1_formAt_X1_letterAt
set_option maxRecDepth 20000 in
theorem ggX1_formAt_X1_isOf : GoodIn wsX1_formAt wsX1_isOf := goodIn_r _ [10, 11, 12, 4, 13, 14, 15, 16, 17, 18, 19, 20, 21, 22, 23, 24, 25, 26, 27, 28, 29, 30, 31, 32, 33, 34, 35, 36, 37, 38, 39, 40, 41, 42, 43, 44, 45, 46, 47, 48, 49, 50, 51, 52, 53, 54, 55, 56, 57, 58, 59, 60, 61, 62] (by decide +kernel) (by decide +kernel)
set_option maxRecDepth 20000 in
theorem gX1_formAt_X1_isOf : GoodIn wsX1_formAt (va_wsS RX1 44 yX1_isOf wsX1_isOf) := goodIn_app (goodIn_of _ (by decide +kernel)) ggX1_formAt_X1_isOf
set_option maxHeartbeats 4000000 in
set_option maxRecDepth 100000 in
theorem mX1_formAt (l : Launch) (dC : Nat → ClassId) (dI : Nat → Nat → Nat) (cI cC : ClassId) (sk : (Nat → Nat) × (Nat → Nat)) (f : Nat → Nat) (p1 : Int32) (c_letters : AR) (c_size : Int32) (z : Nat) (h : fX1_formAt p1 c_letters c_size = some z) : cRS l yX1_formAt wsX1_formAt (RMk 6 127) sk (dC, dI) (tyz cI cC) (zwT cI cC f c_letters c_size) [.ref (f 0), .int p1] (sk.1 z) := by
  refine ofRS (cc := cX1_formAt) (maxL := 2) (ret := (some (.object "java/lang/String"))) (own := RX1) (plainFor_of_name (by decide)) rfl rfl (Nat.le_of_ble_eq_true rfl) ?_
  intro p e s m args below meth c hx hb hml hr hts hown hlocks hE hK hP hS ls hl
  generalize hQ : qRS _ _ _ _ = Q
  have hl : lv_has ls 2 [(0, .ref (f 0)), (1, .int p1)] := hl
  rw [fX1_formAt] at h
  refine lv_aload_n hx hb dX1_formAt_0 rfl (lv_at hl 0 rfl) ?_
  refine lv_iload_n hx hb dX1_formAt_1 rfl (lv_at hl 1 rfl) ?_
  obtain ⟨q2, e2, h⟩ := bd_some h
  refine g_roV (wc := (zwT cI cC f c_letters c_size)) ⟨hx, hb, hml, hown, hts⟩ hE hK hP hS [0, 1] rfl (mX1_letterAt l dC dI cI cC sk f p1 c_letters c_size q2 e2) (cwV 1 hts gX1_formAt_X1_letterAt rfl rfl rfl (by decide +kernel) ⟨Nat.le_of_ble_eq_true rfl, Nat.le_of_ble_eq_true rfl⟩) (va_recv hK hP (ci := 1) (q0 := 0) rfl rfl) (As := [.int p1]) (rest := []) rfl hl.1 rfl (Nat.le_of_ble_eq_true rfl) dX1_formAt_2 ⟨Nat.zero_le _, Nat.zero_le _⟩ (fun H locs hP hS => ?_)
  by_cases n102 : q2 = (102 : Int32)
  · have h := itT n102 h
    refine lv_lookup (off := 38) (tgt := 43) hx hb dX1_formAt_5 (by decide) (by rw [n102]; decide) (by decide) ?_
    refine va_ldcS hx hb hown (hE.2.2.1 1 _ rfl) dX1_formAt_43 ?_
    subst hQ
    exact retRS sk.1 (Or.inl ⟨_, rfl⟩) hx hb hr hlocks hS h rfl dX1_formAt_45
  have h := itF n102 h
  by_cases n109 : q2 = (109 : Int32)
  · have h := itT n109 h
    refine lv_lookup (off := 41) (tgt := 46) hx hb dX1_formAt_5 (by decide) (by rw [n109]; decide) (by decide) ?_
    refine lv_bipush (v := (100 : Int32)) hx hb dX1_formAt_46 (by decide) ?_
    refine lv_aload_n hx hb dX1_formAt_48 rfl (lv_at hl 0 rfl) ?_
    refine lv_iload_n hx hb dX1_formAt_49 rfl (lv_at hl 1 rfl) ?_
    refine lv_iconst (v := (2 : Int32)) hx hb dX1_formAt_50 (by decide) ?_
    refine lv_iadd hx hb dX1_formAt_51 ?_
    obtain ⟨q52, e52, h⟩ := bd_some h
    refine g_roV (wc := (zwT cI cC f c_letters c_size)) ⟨hx, hb, hml, hown, hts⟩ hE hK hP hS [0, 1] rfl (mX1_letterAt l dC dI cI cC sk f (p1 + (2 : Int32)) c_letters c_size q52 e52) (cwV 1 hts gX1_formAt_X1_letterAt rfl rfl rfl (by decide +kernel) ⟨Nat.le_of_ble_eq_true rfl, Nat.le_of_ble_eq_true rfl⟩) (va_recv hK hP (ci := 1) (q0 := 0) rfl rfl) (As := [.int (p1 + (2 : Int32))]) (rest := [.int (100 : Int32)]) rfl hl.1 rfl (Nat.le_of_ble_eq_true rfl) dX1_formAt_52 ⟨Nat.zero_le _, Nat.zero_le _⟩ (fun H locs hP hS => ?_)
    obtain ⟨q55, e55, h⟩ := bd_some h
    refine g_roS (wc := ([] : va_W)) ⟨hx, hb, hml, hown, hts⟩ hE hK hP hS [] rfl (mX1_isOf l dC dI cI cC sk  (100 : Int32) q52 q55 e55) (va_cwS 2 hts gX1_formAt_X1_isOf rfl rfl rfl (by decide +kernel) ⟨Nat.le_of_ble_eq_true rfl, Nat.le_of_ble_eq_true rfl⟩) (As := [.int (100 : Int32), .int q52]) (rest := []) rfl hl.1 rfl (Nat.le_of_ble_eq_true rfl) dX1_formAt_55 ⟨Nat.zero_le _, Nat.zero_le _⟩ (fun H locs hP hS => ?_)
    refine lv_if_eq (tgt := 66) hx hb dX1_formAt_58 (by decide) (fun c58 => ?_) (fun c58 => ?_)
    · have h := itT c58 h
      refine va_ldcS hx hb hown (hE.2.2.1 3 _ rfl) dX1_formAt_66 ?_
      subst hQ
      exact retRS sk.1 (Or.inl ⟨_, rfl⟩) hx hb hr hlocks hS h rfl dX1_formAt_68
    have h := itF c58 h
    refine va_ldcS hx hb hown (hE.2.2.1 2 _ rfl) dX1_formAt_61 ?_
    refine lv_goto (tgt := 68) hx hb dX1_formAt_63 (by decide) ?_
    subst hQ
    exact retRS sk.1 (Or.inl ⟨_, rfl⟩) hx hb hr hlocks hS h rfl dX1_formAt_68
  have h := itF n109 h
  by_cases n114 : q2 = (114 : Int32)
  · have h := itT n114 h
    refine lv_lookup (off := 35) (tgt := 40) hx hb dX1_formAt_5 (by decide) (by rw [n114]; decide) (by decide) ?_
    refine va_ldcS hx hb hown (hE.2.2.1 0 _ rfl) dX1_formAt_40 ?_
    subst hQ
    exact retRS sk.1 (Or.inl ⟨_, rfl⟩) hx hb hr hlocks hS h rfl dX1_formAt_42
  have h := itF n114 h
  have m102 := neI n102 (i := 102) rfl
  have m109 := neI n109 (i := 109) rfl
  have m114 := neI n114 (i := 114) rfl
  refine lv_lookup (off := 64) (tgt := 69) hx hb dX1_formAt_5 (by decide) (by simp [Op.lookupswitch.offset, m102, Ne.symm m102, m109, Ne.symm m109, m114, Ne.symm m114]) (by decide) ?_
  refine va_ldcS hx hb hown (hE.2.2.1 4 _ rfl) dX1_formAt_69 ?_
  subst hQ
  exact retRS sk.1 (Or.inl ⟨_, rfl⟩) hx hb hr hlocks hS h rfl dX1_formAt_71
