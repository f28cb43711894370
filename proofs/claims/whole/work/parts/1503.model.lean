theorem dX4_kindOf_0 : decode cX4_kindOf 0 = .ok (.iload_n 0, 1) := by decide +kernel
theorem dX4_kindOf_1 : decode cX4_kindOf 1 = .ok (.tableswitch 87 102 116 #[75, 79, 83, 87, 87, 87, 87, 77, 87, 87, 87, 87, 87, 85, 81], 75) := by decide +kernel
theorem dX4_kindOf_76 : decode cX4_kindOf 76 = .ok (.iconst 0, 1) := by decide +kernel
theorem dX4_kindOf_77 : decode cX4_kindOf 77 = .ok (.ireturn, 1) := by decide +kernel
theorem dX4_kindOf_78 : decode cX4_kindOf 78 = .ok (.iconst 1, 1) := by decide +kernel
theorem dX4_kindOf_79 : decode cX4_kindOf 79 = .ok (.ireturn, 1) := by decide +kernel
theorem dX4_kindOf_80 : decode cX4_kindOf 80 = .ok (.iconst 2, 1) := by decide +kernel
theorem dX4_kindOf_81 : decode cX4_kindOf 81 = .ok (.ireturn, 1) := by decide +kernel
theorem dX4_kindOf_82 : decode cX4_kindOf 82 = .ok (.iconst 3, 1) := by decide +kernel
theorem dX4_kindOf_83 : decode cX4_kindOf 83 = .ok (.ireturn, 1) := by decide +kernel
theorem dX4_kindOf_84 : decode cX4_kindOf 84 = .ok (.iconst 4, 1) := by decide +kernel
theorem dX4_kindOf_85 : decode cX4_kindOf 85 = .ok (.ireturn, 1) := by decide +kernel
theorem dX4_kindOf_86 : decode cX4_kindOf 86 = .ok (.iconst 5, 1) := by decide +kernel
theorem dX4_kindOf_87 : decode cX4_kindOf 87 = .ok (.ireturn, 1) := by decide +kernel
theorem dX4_kindOf_88 : decode cX4_kindOf 88 = .ok (.iconst (-1), 1) := by decide +kernel
theorem dX4_kindOf_89 : decode cX4_kindOf 89 = .ok (.ireturn, 1) := by decide +kernel
set_option maxHeartbeats 4000000 in
set_option maxRecDepth 100000 in
theorem mX4_kindOf (l : Launch) (dC : Nat → ClassId) (dI : Nat → Nat → Nat) (cI cC : ClassId) (sk : (Nat → Nat) × (Nat → Nat))  (p0 : Int32)  (z : Int32) (h : fX4_kindOf p0 = some z) : cRO l yX4_kindOf wsX4_kindOf (RMk 0 0) sk (dC, dI) (tyz cI cC) ([] : va_W) [.int p0] z := by
  refine ofRO (cc := cX4_kindOf) (maxL := 1) (ret := (some .int)) (own := RX4) (plainFor_of_name (by decide)) rfl rfl (Nat.le_of_ble_eq_true rfl) ?_
  intro p e s m args below meth c hx hb hml hr hts hown hlocks hE hK hP hS ls hl
  generalize hQ : qRO _ _ _ _ = Q
  have hl : lv_has ls 1 [(0, .int p0)] := hl
  rw [fX4_kindOf] at h
  refine lv_iload_n hx hb dX4_kindOf_0 rfl (lv_at hl 0 rfl) ?_
  by_cases n102 : p0 = (102 : Int32)
  · have h := itT n102 h
    refine lv_tableIn (off := 75) (tgt := 76) hx hb dX4_kindOf_1 (by rw [n102]; decide) (by rw [n102]; decide) (by rw [n102]; decide) (by decide) ?_
    refine lv_iconst (v := (0 : Int32)) hx hb dX4_kindOf_76 (by decide) ?_
    subst hQ
    exact retRO hx hb hr hlocks rfl hS h dX4_kindOf_77
  have h := itF n102 h
  by_cases n103 : p0 = (103 : Int32)
  · have h := itT n103 h
    refine lv_tableIn (off := 79) (tgt := 80) hx hb dX4_kindOf_1 (by rw [n103]; decide) (by rw [n103]; decide) (by rw [n103]; decide) (by decide) ?_
    refine lv_iconst (v := (2 : Int32)) hx hb dX4_kindOf_80 (by decide) ?_
    subst hQ
    exact retRO hx hb hr hlocks rfl hS h dX4_kindOf_81
  have h := itF n103 h
  by_cases n104 : p0 = (104 : Int32)
  · have h := itT n104 h
    refine lv_tableIn (off := 83) (tgt := 84) hx hb dX4_kindOf_1 (by rw [n104]; decide) (by rw [n104]; decide) (by rw [n104]; decide) (by decide) ?_
    refine lv_iconst (v := (4 : Int32)) hx hb dX4_kindOf_84 (by decide) ?_
    subst hQ
    exact retRO hx hb hr hlocks rfl hS h dX4_kindOf_85
  have h := itF n104 h
  by_cases n105 : p0 = (105 : Int32)
  · have h := itT n105 h
    refine lv_tableIn (off := 87) (tgt := 88) hx hb dX4_kindOf_1 (by rw [n105]; decide) (by rw [n105]; decide) (by rw [n105]; decide) (by decide) ?_
    refine lv_iconst (v := (-1 : Int32)) hx hb dX4_kindOf_88 (by decide) ?_
    subst hQ
    exact retRO hx hb hr hlocks rfl hS h dX4_kindOf_89
  have h := itF n105 h
  by_cases n106 : p0 = (106 : Int32)
  · have h := itT n106 h
    refine lv_tableIn (off := 87) (tgt := 88) hx hb dX4_kindOf_1 (by rw [n106]; decide) (by rw [n106]; decide) (by rw [n106]; decide) (by decide) ?_
    refine lv_iconst (v := (-1 : Int32)) hx hb dX4_kindOf_88 (by decide) ?_
    subst hQ
    exact retRO hx hb hr hlocks rfl hS h dX4_kindOf_89
  have h := itF n106 h
  by_cases n107 : p0 = (107 : Int32)
  · have h := itT n107 h
    refine lv_tableIn (off := 87) (tgt := 88) hx hb dX4_kindOf_1 (by rw [n107]; decide) (by rw [n107]; decide) (by rw [n107]; decide) (by decide) ?_
    refine lv_iconst (v := (-1 : Int32)) hx hb dX4_kindOf_88 (by decide) ?_
    subst hQ
    exact retRO hx hb hr hlocks rfl hS h dX4_kindOf_89
  have h := itF n107 h
  by_cases n108 : p0 = (108 : Int32)
  · have h := itT n108 h
    refine lv_tableIn (off := 87) (tgt := 88) hx hb dX4_kindOf_1 (by rw [n108]; decide) (by rw [n108]; decide) (by rw [n108]; decide) (by decide) ?_
    refine lv_iconst (v := (-1 : Int32)) hx hb dX4_kindOf_88 (by decide) ?_
    subst hQ
    exact retRO hx hb hr hlocks rfl hS h dX4_kindOf_89
  have h := itF n108 h
  by_cases n109 : p0 = (109 : Int32)
  · have h := itT n109 h
    refine lv_tableIn (off := 77) (tgt := 78) hx hb dX4_kindOf_1 (by rw [n109]; decide) (by rw [n109]; decide) (by rw [n109]; decide) (by decide) ?_
    refine lv_iconst (v := (1 : Int32)) hx hb dX4_kindOf_78 (by decide) ?_
    subst hQ
    exact retRO hx hb hr hlocks rfl hS h dX4_kindOf_79
  have h := itF n109 h
  by_cases n110 : p0 = (110 : Int32)
  · have h := itT n110 h
    refine lv_tableIn (off := 87) (tgt := 88) hx hb dX4_kindOf_1 (by rw [n110]; decide) (by rw [n110]; decide) (by rw [n110]; decide) (by decide) ?_
    refine lv_iconst (v := (-1 : Int32)) hx hb dX4_kindOf_88 (by decide) ?_
    subst hQ
    exact retRO hx hb hr hlocks rfl hS h dX4_kindOf_89
  have h := itF n110 h
  by_cases n111 : p0 = (111 : Int32)
  · have h := itT n111 h
    refine lv_tableIn (off := 87) (tgt := 88) hx hb dX4_kindOf_1 (by rw [n111]; decide) (by rw [n111]; decide) (by rw [n111]; decide) (by decide) ?_
    refine lv_iconst (v := (-1 : Int32)) hx hb dX4_kindOf_88 (by decide) ?_
    subst hQ
    exact retRO hx hb hr hlocks rfl hS h dX4_kindOf_89
  have h := itF n111 h
  by_cases n112 : p0 = (112 : Int32)
  · have h := itT n112 h
    refine lv_tableIn (off := 87) (tgt := 88) hx hb dX4_kindOf_1 (by rw [n112]; decide) (by rw [n112]; decide) (by rw [n112]; decide) (by decide) ?_
    refine lv_iconst (v := (-1 : Int32)) hx hb dX4_kindOf_88 (by decide) ?_
    subst hQ
    exact retRO hx hb hr hlocks rfl hS h dX4_kindOf_89
  have h := itF n112 h
  by_cases n113 : p0 = (113 : Int32)
  · have h := itT n113 h
    refine lv_tableIn (off := 87) (tgt := 88) hx hb dX4_kindOf_1 (by rw [n113]; decide) (by rw [n113]; decide) (by rw [n113]; decide) (by decide) ?_
    refine lv_iconst (v := (-1 : Int32)) hx hb dX4_kindOf_88 (by decide) ?_
    subst hQ
    exact retRO hx hb hr hlocks rfl hS h dX4_kindOf_89
  have h := itF n113 h
  by_cases n114 : p0 = (114 : Int32)
  · have h := itT n114 h
    refine lv_tableIn (off := 87) (tgt := 88) hx hb dX4_kindOf_1 (by rw [n114]; decide) (by rw [n114]; decide) (by rw [n114]; decide) (by decide) ?_
    refine lv_iconst (v := (-1 : Int32)) hx hb dX4_kindOf_88 (by decide) ?_
    subst hQ
    exact retRO hx hb hr hlocks rfl hS h dX4_kindOf_89
  have h := itF n114 h
  by_cases n115 : p0 = (115 : Int32)
  · have h := itT n115 h
    refine lv_tableIn (off := 85) (tgt := 86) hx hb dX4_kindOf_1 (by rw [n115]; decide) (by rw [n115]; decide) (by rw [n115]; decide) (by decide) ?_
    refine lv_iconst (v := (5 : Int32)) hx hb dX4_kindOf_86 (by decide) ?_
    subst hQ
    exact retRO hx hb hr hlocks rfl hS h dX4_kindOf_87
  have h := itF n115 h
  by_cases n116 : p0 = (116 : Int32)
  · have h := itT n116 h
    refine lv_tableIn (off := 81) (tgt := 82) hx hb dX4_kindOf_1 (by rw [n116]; decide) (by rw [n116]; decide) (by rw [n116]; decide) (by decide) ?_
    refine lv_iconst (v := (3 : Int32)) hx hb dX4_kindOf_82 (by decide) ?_
    subst hQ
    exact retRO hx hb hr hlocks rfl hS h dX4_kindOf_83
  have h := itF n116 h
  have m102 := neI n102 (i := 102) rfl
  have m103 := neI n103 (i := 103) rfl
  have m104 := neI n104 (i := 104) rfl
  have m105 := neI n105 (i := 105) rfl
  have m106 := neI n106 (i := 106) rfl
  have m107 := neI n107 (i := 107) rfl
  have m108 := neI n108 (i := 108) rfl
  have m109 := neI n109 (i := 109) rfl
  have m110 := neI n110 (i := 110) rfl
  have m111 := neI n111 (i := 111) rfl
  have m112 := neI n112 (i := 112) rfl
  have m113 := neI n113 (i := 113) rfl
  have m114 := neI n114 (i := 114) rfl
  have m115 := neI n115 (i := 115) rfl
  have m116 := neI n116 (i := 116) rfl
  refine lv_tableOut (tgt := 88) hx hb dX4_kindOf_1 (by omega) (by decide) ?_
  refine lv_iconst (v := (-1 : Int32)) hx hb dX4_kindOf_88 (by decide) ?_
  subst hQ
  exact retRO hx hb hr hlocks rfl hS h dX4_kindOf_89
