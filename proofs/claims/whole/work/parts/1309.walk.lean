theorem dX2_placeBehindAct_0 : decode cX2_placeBehindAct 0 = .ok (.iload_n 1, 1) := by decide +kernel
theorem dX2_placeBehindAct_1 : decode cX2_placeBehindAct 1 = .ok (.sipush 256, 3) := by decide +kernel
theorem dX2_placeBehindAct_4 : decode cX2_placeBehindAct 4 = .ok (.if_icmp .ne 5, 3) := by decide +kernel
theorem dX2_placeBehindAct_7 : decode cX2_placeBehindAct 7 = .ok (.iconst 0, 1) := by decide +kernel
theorem dX2_placeBehindAct_8 : decode cX2_placeBehindAct 8 = .ok (.ireturn, 1) := by decide +kernel
theorem dX2_placeBehindAct_9 : decode cX2_placeBehindAct 9 = .ok (.iload_n 2, 1) := by decide +kernel
theorem dX2_placeBehindAct_10 : decode cX2_placeBehindAct 10 = .ok (.tableswitch 55 9 12 #[30, 36, 41, 46], 30) := by decide +kernel
theorem dX2_placeBehindAct_40 : decode cX2_placeBehindAct 40 = .ok (.aload_n 0, 1) := by decide +kernel
theorem dX2_placeBehindAct_41 : decode cX2_placeBehindAct 41 = .ok (.iload_n 1, 1) := by decide +kernel
theorem dX2_placeBehindAct_42 : decode cX2_placeBehindAct 42 = .ok (.invokevirtual 78, 3) := by decide +kernel
theorem dX2_placeBehindAct_45 : decode cX2_placeBehindAct 45 = .ok (.ireturn, 1) := by decide +kernel
theorem dX2_placeBehindAct_46 : decode cX2_placeBehindAct 46 = .ok (.iload_n 1, 1) := by decide +kernel
theorem dX2_placeBehindAct_47 : decode cX2_placeBehindAct 47 = .ok (.invokestatic 81, 3) := by decide +kernel
theorem dX2_placeBehindAct_50 : decode cX2_placeBehindAct 50 = .ok (.ireturn, 1) := by decide +kernel
theorem dX2_placeBehindAct_51 : decode cX2_placeBehindAct 51 = .ok (.iload_n 1, 1) := by decide +kernel
theorem dX2_placeBehindAct_52 : decode cX2_placeBehindAct 52 = .ok (.invokestatic 84, 3) := by decide +kernel
theorem dX2_placeBehindAct_55 : decode cX2_placeBehindAct 55 = .ok (.ireturn, 1) := by decide +kernel
theorem dX2_placeBehindAct_56 : decode cX2_placeBehindAct 56 = .ok (.aload_n 0, 1) := by decide +kernel
theorem dX2_placeBehindAct_57 : decode cX2_placeBehindAct 57 = .ok (.iload_n 1, 1) := by decide +kernel
theorem dX2_placeBehindAct_58 : decode cX2_placeBehindAct 58 = .ok (.invokevirtual 69, 3) := by decide +kernel
theorem dX2_placeBehindAct_61 : decode cX2_placeBehindAct 61 = .ok (.ldc 87, 2) := by decide +kernel
theorem dX2_placeBehindAct_63 : decode cX2_placeBehindAct 63 = .ok (.iand, 1) := by decide +kernel
theorem dX2_placeBehindAct_64 : decode cX2_placeBehindAct 64 = .ok (.ireturn, 1) := by decide +kernel
theorem dX2_placeBehindAct_65 : decode cX2_placeBehindAct 65 = .ok (.iload_n 2, 1) := by decide +kernel
theorem dX2_placeBehindAct_66 : decode cX2_placeBehindAct 66 = .ok (.ifCond .lt 21, 3) := by decide +kernel
theorem dX2_placeBehindAct_69 : decode cX2_placeBehindAct 69 = .ok (.iload_n 2, 1) := by decide +kernel
theorem dX2_placeBehindAct_70 : decode cX2_placeBehindAct 70 = .ok (.bipush 8, 2) := by decide +kernel
theorem dX2_placeBehindAct_72 : decode cX2_placeBehindAct 72 = .ok (.if_icmp .gt 15, 3) := by decide +kernel
theorem dX2_placeBehindAct_75 : decode cX2_placeBehindAct 75 = .ok (.aload_n 0, 1) := by decide +kernel
theorem dX2_placeBehindAct_76 : decode cX2_placeBehindAct 76 = .ok (.iload_n 1, 1) := by decide +kernel
theorem dX2_placeBehindAct_77 : decode cX2_placeBehindAct 77 = .ok (.invokevirtual 69, 3) := by decide +kernel
theorem dX2_placeBehindAct_80 : decode cX2_placeBehindAct 80 = .ok (.iconst 1, 1) := by decide +kernel
theorem dX2_placeBehindAct_81 : decode cX2_placeBehindAct 81 = .ok (.iload_n 2, 1) := by decide +kernel
theorem dX2_placeBehindAct_82 : decode cX2_placeBehindAct 82 = .ok (.ishl, 1) := by decide +kernel
theorem dX2_placeBehindAct_83 : decode cX2_placeBehindAct 83 = .ok (.iand, 1) := by decide +kernel
theorem dX2_placeBehindAct_84 : decode cX2_placeBehindAct 84 = .ok (.goto 4, 3) := by decide +kernel
theorem dX2_placeBehindAct_87 : decode cX2_placeBehindAct 87 = .ok (.iconst 0, 1) := by decide +kernel
theorem dX2_placeBehindAct_88 : decode cX2_placeBehindAct 88 = .ok (.ireturn, 1) := by decide +kernel
set_option maxRecDepth 20000 in
theorem ggX2_placeBehindAct_X2_placesStayed : GoodIn wsX2_placeBehindAct wsX2_placesStayed := goodIn_r _ [6, 7, 8, 46, 47, 48, 49, 50, 51, 52, 53, 54] (by decide +kernel) (by decide +kernel)
set_option maxRecDepth 20000 in
theorem gX2_placeBehindAct_X2_placesStayed : GoodIn wsX2_placeBehindAct (wsV RX2 78 RX2 yX2_placesStayed wsX2_placesStayed) := goodIn_app (goodIn_of _ (by decide +kernel)) ggX2_placeBehindAct_X2_placesStayed
set_option maxRecDepth 20000 in
theorem ggX2_placeBehindAct_X2_walkedLess : GoodIn wsX2_placeBehindAct wsX2_walkedLess := goodIn_r _ [11] (by decide +kernel) (by decide +kernel)
set_option maxRecDepth 20000 in
theorem gX2_placeBehindAct_X2_walkedLess : GoodIn wsX2_placeBehindAct (va_wsS RX2 81 yX2_walkedLess wsX2_walkedLess) := goodIn_app (goodIn_of _ (by decide +kernel)) ggX2_placeBehindAct_X2_walkedLess
set_option maxRecDepth 20000 in
theorem ggX2_placeBehindAct_X2_walkedGreater : GoodIn wsX2_placeBehindAct wsX2_walkedGreater := goodIn_r _ [14] (by decide +kernel) (by decide +kernel)
set_option maxRecDepth 20000 in
theorem gX2_placeBehindAct_X2_walkedGreater : GoodIn wsX2_placeBehindAct (va_wsS RX2 84 yX2_walkedGreater wsX2_walkedGreater) := goodIn_app (goodIn_of _ (by decide +kernel)) ggX2_placeBehindAct_X2_walkedGreater
set_option maxRecDepth 20000 in
theorem ggX2_placeBehindAct_X2_placesLeaped : GoodIn wsX2_placeBehindAct wsX2_placesLeaped := goodIn_r _ [18, 19, 20, 8, 21, 22, 5, 23, 24, 25, 26, 27, 28, 29, 30, 31, 32, 33, 34, 35, 36, 37, 38, 39, 40, 41, 42, 43, 44, 45, 46, 47, 48, 49, 50, 51, 52, 53, 54, 55, 56, 57, 58, 59, 60, 61, 62] (by decide +kernel) (by decide +kernel)
set_option maxRecDepth 20000 in
theorem gX2_placeBehindAct_X2_placesLeaped : GoodIn wsX2_placeBehindAct (wsV RX2 69 RX2 yX2_placesLeaped wsX2_placesLeaped) := goodIn_app (goodIn_of _ (by decide +kernel)) ggX2_placeBehindAct_X2_placesLeaped
set_option maxHeartbeats 4000000 in
set_option maxRecDepth 100000 in
theorem mX2_placeBehindAct (l : Launch) (dC : Nat → ClassId) (dI : Nat → Nat → Nat) (cI cC : ClassId) (sk : (Nat → Nat) × (Nat → Nat)) (f : Nat → Nat) (p1 : Int32) (p2 : Int32) (c_lanes : AR) (c_spots : AR) (c_byLeaps : AR) (c_load : Int32) (c_gone : Int32) (c_held : Int32) (c_strong : Int32) (c_done : Int32) (c_r : RT) (z : Int32) (h : fX2_placeBehindAct p1 p2 c_lanes c_spots c_strong c_r = some z) : cRO l yX2_placeBehindAct wsX2_placeBehindAct (RMk 3 69) sk (dC, dI) (tyz cI cC) (zwV cI cC f c_lanes c_spots c_byLeaps c_load c_gone c_held c_strong c_done c_r) [.ref (f 0), .int p1, .int p2] z := by
  refine ofRO (cc := cX2_placeBehindAct) (maxL := 3) (ret := (some .int)) (own := RX2) (plainFor_of_name (by decide)) rfl rfl (Nat.le_of_ble_eq_true rfl) ?_
  intro p e s m args below meth c hx hb hml hr hts hown hlocks hE hK hP hS ls hl
  generalize hQ : qRO _ _ _ _ = Q
  have hl : lv_has ls 3 [(0, .ref (f 0)), (1, .int p1), (2, .int p2)] := hl
  have hw1 := hts (Cond.constant RX2 87 (1047552)) (List.mem_of_getElem? (i := 1) rfl)
  rw [fX2_placeBehindAct] at h
  refine lv_iload_n hx hb dX2_placeBehindAct_0 rfl (lv_at hl 1 rfl) ?_
  refine lv_sipush (v := (256 : Int32)) hx hb dX2_placeBehindAct_1 (by decide) ?_
  refine lv_icmp_ne (tgt := 9) hx hb dX2_placeBehindAct_4 (by decide) (fun c4 => ?_) (fun c4 => ?_)
  · have h := itF c4 h
    refine lv_iload_n hx hb dX2_placeBehindAct_9 rfl (lv_at hl 2 rfl) ?_
    by_cases n9 : p2 = (9 : Int32)
    · have h := itT n9 h
      refine lv_tableIn (off := 30) (tgt := 40) hx hb dX2_placeBehindAct_10 (by rw [n9]; decide) (by rw [n9]; decide) (by rw [n9]; decide) (by decide) ?_
      refine lv_aload_n hx hb dX2_placeBehindAct_40 rfl (lv_at hl 0 rfl) ?_
      refine lv_iload_n hx hb dX2_placeBehindAct_41 rfl (lv_at hl 1 rfl) ?_
      obtain ⟨q42, e42, h⟩ := bd_some h
      refine g_roV (wc := (zwV cI cC f c_lanes c_spots c_byLeaps c_load c_gone c_held c_strong c_done c_r)) ⟨hx, hb, hml, hown, hts⟩ hE hK hP hS [0, 1, 2, 3, 4, 5, 6, 7, 8, 9] rfl (mX2_placesStayed l dC dI cI cC sk f p1 c_lanes c_spots c_byLeaps c_load c_gone c_held c_strong c_done c_r q42 e42) (cwV 1 hts gX2_placeBehindAct_X2_placesStayed rfl rfl rfl (by decide +kernel) ⟨Nat.le_of_ble_eq_true rfl, Nat.le_of_ble_eq_true rfl⟩) (va_recv hK hP (ci := 2) (q0 := 0) rfl rfl) (As := [.int p1]) (rest := []) rfl hl.1 rfl (Nat.le_of_ble_eq_true rfl) dX2_placeBehindAct_42 ⟨Nat.zero_le _, Nat.zero_le _⟩ (fun H locs hP hS => ?_)
      subst hQ
      exact retRO hx hb hr hlocks rfl hS h dX2_placeBehindAct_45
    have h := itF n9 h
    by_cases n10 : p2 = (10 : Int32)
    · have h := itT n10 h
      refine lv_tableIn (off := 36) (tgt := 46) hx hb dX2_placeBehindAct_10 (by rw [n10]; decide) (by rw [n10]; decide) (by rw [n10]; decide) (by decide) ?_
      refine lv_iload_n hx hb dX2_placeBehindAct_46 rfl (lv_at hl 1 rfl) ?_
      obtain ⟨q47, e47, h⟩ := bd_some h
      refine g_roS (wc := ([] : va_W)) ⟨hx, hb, hml, hown, hts⟩ hE hK hP hS [] rfl (mX2_walkedLess l dC dI cI cC sk  p1 q47 e47) (va_cwS 1 hts gX2_placeBehindAct_X2_walkedLess rfl rfl rfl (by decide +kernel) ⟨Nat.le_of_ble_eq_true rfl, Nat.le_of_ble_eq_true rfl⟩) (As := [.int p1]) (rest := []) rfl hl.1 rfl (Nat.le_of_ble_eq_true rfl) dX2_placeBehindAct_47 ⟨Nat.zero_le _, Nat.zero_le _⟩ (fun H locs hP hS => ?_)
      subst hQ
      exact retRO hx hb hr hlocks rfl hS h dX2_placeBehindAct_50
    have h := itF n10 h
    by_cases n11 : p2 = (11 : Int32)
    · have h := itT n11 h
      refine lv_tableIn (off := 41) (tgt := 51) hx hb dX2_placeBehindAct_10 (by rw [n11]; decide) (by rw [n11]; decide) (by rw [n11]; decide) (by decide) ?_
      refine lv_iload_n hx hb dX2_placeBehindAct_51 rfl (lv_at hl 1 rfl) ?_
      obtain ⟨q52, e52, h⟩ := bd_some h
      refine g_roS (wc := ([] : va_W)) ⟨hx, hb, hml, hown, hts⟩ hE hK hP hS [] rfl (mX2_walkedGreater l dC dI cI cC sk  p1 q52 e52) (va_cwS 1 hts gX2_placeBehindAct_X2_walkedGreater rfl rfl rfl (by decide +kernel) ⟨Nat.le_of_ble_eq_true rfl, Nat.le_of_ble_eq_true rfl⟩) (As := [.int p1]) (rest := []) rfl hl.1 rfl (Nat.le_of_ble_eq_true rfl) dX2_placeBehindAct_52 ⟨Nat.zero_le _, Nat.zero_le _⟩ (fun H locs hP hS => ?_)
      subst hQ
      exact retRO hx hb hr hlocks rfl hS h dX2_placeBehindAct_55
    have h := itF n11 h
    by_cases n12 : p2 = (12 : Int32)
    · have h := itT n12 h
      refine lv_tableIn (off := 46) (tgt := 56) hx hb dX2_placeBehindAct_10 (by rw [n12]; decide) (by rw [n12]; decide) (by rw [n12]; decide) (by decide) ?_
      refine lv_aload_n hx hb dX2_placeBehindAct_56 rfl (lv_at hl 0 rfl) ?_
      refine lv_iload_n hx hb dX2_placeBehindAct_57 rfl (lv_at hl 1 rfl) ?_
      obtain ⟨q58, e58, h⟩ := bd_some h
      refine g_roV (wc := (zwV cI cC f c_lanes c_spots c_byLeaps c_load c_gone c_held c_strong c_done c_r)) ⟨hx, hb, hml, hown, hts⟩ hE hK hP hS [0, 1, 2, 3, 4, 5, 6, 7, 8, 9] rfl (mX2_placesLeaped l dC dI cI cC sk f p1 c_lanes c_spots c_byLeaps c_load c_gone c_held c_strong c_done c_r q58 e58) (cwV 1 hts gX2_placeBehindAct_X2_placesLeaped rfl rfl rfl (by decide +kernel) ⟨Nat.le_of_ble_eq_true rfl, Nat.le_of_ble_eq_true rfl⟩) (va_recv hK hP (ci := 2) (q0 := 0) rfl rfl) (As := [.int p1]) (rest := []) rfl hl.1 rfl (Nat.le_of_ble_eq_true rfl) dX2_placeBehindAct_58 ⟨Nat.zero_le _, Nat.zero_le _⟩ (fun H locs hP hS => ?_)
      refine lv_ldc hx hb hown hw1 dX2_placeBehindAct_61 ?_
      refine lv_iand hx hb dX2_placeBehindAct_63 ?_
      subst hQ
      exact retRO hx hb hr hlocks rfl hS h dX2_placeBehindAct_64
    have h := itF n12 h
    have m9 := neI n9 (i := 9) rfl
    have m10 := neI n10 (i := 10) rfl
    have m11 := neI n11 (i := 11) rfl
    have m12 := neI n12 (i := 12) rfl
    refine lv_tableOut (tgt := 65) hx hb dX2_placeBehindAct_10 (by omega) (by decide) ?_
    refine lv_iload_n hx hb dX2_placeBehindAct_65 rfl (lv_at hl 2 rfl) ?_
    refine lv_if_lt (tgt := 87) hx hb dX2_placeBehindAct_66 (by decide) (fun c66 => ?_) (fun c66 => ?_)
    · have h := itT c66 h
      refine lv_iconst (v := (0 : Int32)) hx hb dX2_placeBehindAct_87 (by decide) ?_
      subst hQ
      exact retRO hx hb hr hlocks rfl hS h dX2_placeBehindAct_88
    have h := itF c66 h
    refine lv_iload_n hx hb dX2_placeBehindAct_69 rfl (lv_at hl 2 rfl) ?_
    refine lv_bipush (v := (8 : Int32)) hx hb dX2_placeBehindAct_70 (by decide) ?_
    refine lv_icmp_gt (tgt := 87) hx hb dX2_placeBehindAct_72 (by decide) (fun c72 => ?_) (fun c72 => ?_)
    · have h := itT c72 h
      refine lv_iconst (v := (0 : Int32)) hx hb dX2_placeBehindAct_87 (by decide) ?_
      subst hQ
      exact retRO hx hb hr hlocks rfl hS h dX2_placeBehindAct_88
    have h := itF c72 h
    refine lv_aload_n hx hb dX2_placeBehindAct_75 rfl (lv_at hl 0 rfl) ?_
    refine lv_iload_n hx hb dX2_placeBehindAct_76 rfl (lv_at hl 1 rfl) ?_
    obtain ⟨q77, e77, h⟩ := bd_some h
    refine g_roV (wc := (zwV cI cC f c_lanes c_spots c_byLeaps c_load c_gone c_held c_strong c_done c_r)) ⟨hx, hb, hml, hown, hts⟩ hE hK hP hS [0, 1, 2, 3, 4, 5, 6, 7, 8, 9] rfl (mX2_placesLeaped l dC dI cI cC sk f p1 c_lanes c_spots c_byLeaps c_load c_gone c_held c_strong c_done c_r q77 e77) (cwV 1 hts gX2_placeBehindAct_X2_placesLeaped rfl rfl rfl (by decide +kernel) ⟨Nat.le_of_ble_eq_true rfl, Nat.le_of_ble_eq_true rfl⟩) (va_recv hK hP (ci := 2) (q0 := 0) rfl rfl) (As := [.int p1]) (rest := []) rfl hl.1 rfl (Nat.le_of_ble_eq_true rfl) dX2_placeBehindAct_77 ⟨Nat.zero_le _, Nat.zero_le _⟩ (fun H locs hP hS => ?_)
    refine lv_iconst (v := (1 : Int32)) hx hb dX2_placeBehindAct_80 (by decide) ?_
    refine lv_iload_n hx hb dX2_placeBehindAct_81 rfl (lv_at hl 2 rfl) ?_
    refine lv_ishl hx hb dX2_placeBehindAct_82 ?_
    refine lv_iand hx hb dX2_placeBehindAct_83 ?_
    refine lv_goto (tgt := 88) hx hb dX2_placeBehindAct_84 (by decide) ?_
    subst hQ
    exact retRO hx hb hr hlocks rfl hS h dX2_placeBehindAct_88
  have h := itT c4 h
  refine lv_iconst (v := (0 : Int32)) hx hb dX2_placeBehindAct_7 (by decide) ?_
  subst hQ
  exact retRO hx hb hr hlocks rfl hS h dX2_placeBehindAct_8
