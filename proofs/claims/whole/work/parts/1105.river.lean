theorem dX0_spotOf_0 : decode cX0_spotOf 0 = .ok (.aload_n 0, 1) := by decide +kernel
theorem dX0_spotOf_1 : decode cX0_spotOf 1 = .ok (.iload_n 1, 1) := by decide +kernel
theorem dX0_spotOf_2 : decode cX0_spotOf 2 = .ok (.invokevirtual 50, 3) := by decide +kernel
theorem dX0_spotOf_5 : decode cX0_spotOf 5 = .ok (.ifCond .eq 28, 3) := by decide +kernel
theorem dX0_spotOf_8 : decode cX0_spotOf 8 = .ok (.aload_n 0, 1) := by decide +kernel
theorem dX0_spotOf_9 : decode cX0_spotOf 9 = .ok (.getfield 9, 3) := by decide +kernel
theorem dX0_spotOf_12 : decode cX0_spotOf 12 = .ok (.iload_n 1, 1) := by decide +kernel
theorem dX0_spotOf_13 : decode cX0_spotOf 13 = .ok (.iaload, 1) := by decide +kernel
theorem dX0_spotOf_14 : decode cX0_spotOf 14 = .ok (.aload_n 0, 1) := by decide +kernel
theorem dX0_spotOf_15 : decode cX0_spotOf 15 = .ok (.getfield 18, 3) := by decide +kernel
theorem dX0_spotOf_18 : decode cX0_spotOf 18 = .ok (.iload_n 1, 1) := by decide +kernel
theorem dX0_spotOf_19 : decode cX0_spotOf 19 = .ok (.iaload, 1) := by decide +kernel
theorem dX0_spotOf_20 : decode cX0_spotOf 20 = .ok (.aload_n 0, 1) := by decide +kernel
theorem dX0_spotOf_21 : decode cX0_spotOf 21 = .ok (.getfield 21, 3) := by decide +kernel
theorem dX0_spotOf_24 : decode cX0_spotOf 24 = .ok (.iload_n 1, 1) := by decide +kernel
theorem dX0_spotOf_25 : decode cX0_spotOf 25 = .ok (.iaload, 1) := by decide +kernel
theorem dX0_spotOf_26 : decode cX0_spotOf 26 = .ok (.iload_n 2, 1) := by decide +kernel
theorem dX0_spotOf_27 : decode cX0_spotOf 27 = .ok (.invokestatic 53, 3) := by decide +kernel
theorem dX0_spotOf_30 : decode cX0_spotOf 30 = .ok (.goto 5, 3) := by decide +kernel
theorem dX0_spotOf_33 : decode cX0_spotOf 33 = .ok (.bipush (-9), 2) := by decide +kernel
theorem dX0_spotOf_35 : decode cX0_spotOf 35 = .ok (.ireturn, 1) := by decide +kernel
set_option maxRecDepth 20000 in
theorem ggX0_spotOf_X0_has : GoodIn wsX0_spotOf wsX0_has := goodIn_r _ [8, 9, 17, 18, 19, 20, 21, 22, 23, 24] (by decide +kernel) (by decide +kernel)
set_option maxRecDepth 20000 in
theorem gX0_spotOf_X0_has : GoodIn wsX0_spotOf (wsV RX0 50 RX0 yX0_has wsX0_has) := goodIn_app (goodIn_of _ (by decide +kernel)) ggX0_spotOf_X0_has
set_option maxRecDepth 20000 in
theorem ggX0_spotOf_X0_spotAt : GoodIn wsX0_spotOf wsX0_spotAt := goodIn_r _ [12, 13, 14, 15, 16] (by decide +kernel) (by decide +kernel)
set_option maxRecDepth 20000 in
theorem gX0_spotOf_X0_spotAt : GoodIn wsX0_spotOf (va_wsS RX0 53 yX0_spotAt wsX0_spotAt) := goodIn_app (goodIn_of _ (by decide +kernel)) ggX0_spotOf_X0_spotAt
set_option maxHeartbeats 4000000 in
set_option maxRecDepth 100000 in
theorem mX0_spotOf (l : Launch) (dC : Nat → ClassId) (dI : Nat → Nat → Nat) (cI cC : ClassId) (sk : (Nat → Nat) × (Nat → Nat)) (f : Nat → Nat) (p1 : Int32) (p2 : Int32) (c_r : RT) (z : Int32) (h : fX0_spotOf p1 p2 c_r = some z) : cRO l yX0_spotOf wsX0_spotOf (RMk 2 47) sk (dC, dI) (tyz cI cC) (zwR cI cC f c_r) [.ref (f 0), .int p1, .int p2] z := by
  refine ofRO (cc := cX0_spotOf) (maxL := 3) (ret := (some .int)) (own := RX0) (plainFor_of_name (by decide)) rfl rfl (Nat.le_of_ble_eq_true rfl) ?_
  intro p e s m args below meth c hx hb hml hr hts hown hlocks hE hK hP hS ls hl
  generalize hQ : qRO _ _ _ _ = Q
  have hl : lv_has ls 3 [(0, .ref (f 0)), (1, .int p1), (2, .int p2)] := hl
  have hiX0 : ∀ w ∈ wsX00, w ∈ wsX0_spotOf := fun w h => List.mem_cons_of_mem _ (List.mem_append_right _ h)
  have hw1 := hts (Cond.fieldLink RX0 9 "FloeToFloe$River" "kinds" "[I") (List.mem_of_getElem? (i := 1) rfl)
  have hw2 := hts (Cond.fieldLink RX0 18 "FloeToFloe$River" "cells" "[I") (List.mem_of_getElem? (i := 2) rfl)
  have hw3 := hts (Cond.fieldLink RX0 21 "FloeToFloe$River" "paces" "[I") (List.mem_of_getElem? (i := 3) rfl)
  rw [fX0_spotOf] at h
  refine lv_aload_n hx hb dX0_spotOf_0 rfl (lv_at hl 0 rfl) ?_
  refine lv_iload_n hx hb dX0_spotOf_1 rfl (lv_at hl 1 rfl) ?_
  obtain ⟨q2, e2, h⟩ := bd_some h
  refine g_roV (wc := (zwR cI cC f c_r)) ⟨hx, hb, hml, hown, hts⟩ hE hK hP hS [0, 1, 2, 3, 4, 5] rfl (mX0_has l dC dI cI cC sk f p1 c_r q2 e2) (cwV 1 hts gX0_spotOf_X0_has rfl rfl rfl (by decide +kernel) ⟨Nat.le_of_ble_eq_true rfl, Nat.le_of_ble_eq_true rfl⟩) (va_recv hK hP (ci := 0) (q0 := 0) rfl rfl) (As := [.int p1]) (rest := []) rfl hl.1 rfl (Nat.le_of_ble_eq_true rfl) dX0_spotOf_2 ⟨Nat.zero_le _, Nat.zero_le _⟩ (fun H locs hP hS => ?_)
  refine lv_if_eq (tgt := 33) hx hb dX0_spotOf_5 (by decide) (fun c5 => ?_) (fun c5 => ?_)
  · have h := itT c5 h
    refine lv_bipush (v := (-9 : Int32)) hx hb dX0_spotOf_33 (by decide) ?_
    subst hQ
    exact retRO hx hb hr hlocks rfl hS h dX0_spotOf_35
  have h := itF c5 h
  refine lv_aload_n hx hb dX0_spotOf_8 rfl (lv_at hl 0 rfl) ?_
  refine va_get (D := (dC, dI)) (ci := 0) (v := .ref (f 1)) (C := RX0) (T := TX0) (N := 8) hx hb hts hiX0 hown hK hP 0 rfl rfl 0 (by decide) hw1 (fun _ h9 => h9) rfl dX0_spotOf_9 ?_
  refine lv_iload_n hx hb dX0_spotOf_12 rfl (lv_at hl 1 rfl) ?_
  obtain ⟨hin, h⟩ := ck_some h
  refine va_iald hx hb hK hP 1 0 rfl rfl hin dX0_spotOf_13 ?_
  refine lv_aload_n hx hb dX0_spotOf_14 rfl (lv_at hl 0 rfl) ?_
  refine va_get (D := (dC, dI)) (ci := 0) (v := .ref (f 3)) (C := RX0) (T := TX0) (N := 8) hx hb hts hiX0 hown hK hP 0 rfl rfl 2 (by decide) hw2 (fun _ h9 => h9) rfl dX0_spotOf_15 ?_
  refine lv_iload_n hx hb dX0_spotOf_18 rfl (lv_at hl 1 rfl) ?_
  obtain ⟨hin, h⟩ := ck_some h
  refine va_iald hx hb hK hP 3 0 rfl rfl hin dX0_spotOf_19 ?_
  refine lv_aload_n hx hb dX0_spotOf_20 rfl (lv_at hl 0 rfl) ?_
  refine va_get (D := (dC, dI)) (ci := 0) (v := .ref (f 4)) (C := RX0) (T := TX0) (N := 8) hx hb hts hiX0 hown hK hP 0 rfl rfl 3 (by decide) hw3 (fun _ h9 => h9) rfl dX0_spotOf_21 ?_
  refine lv_iload_n hx hb dX0_spotOf_24 rfl (lv_at hl 1 rfl) ?_
  obtain ⟨hin, h⟩ := ck_some h
  refine va_iald hx hb hK hP 4 0 rfl rfl hin dX0_spotOf_25 ?_
  refine lv_iload_n hx hb dX0_spotOf_26 rfl (lv_at hl 2 rfl) ?_
  obtain ⟨q27, e27, h⟩ := bd_some h
  refine g_roS (wc := ([] : va_W)) ⟨hx, hb, hml, hown, hts⟩ hE hK hP hS [] rfl (mX0_spotAt l dC dI cI cC sk  ((R_kinds c_r) (p1).toNatClampNeg) ((R_cells c_r) (p1).toNatClampNeg) ((R_paces c_r) (p1).toNatClampNeg) p2 q27 e27) (va_cwS 4 hts gX0_spotOf_X0_spotAt rfl rfl rfl (by decide +kernel) ⟨Nat.le_of_ble_eq_true rfl, Nat.le_of_ble_eq_true rfl⟩) (As := [.int ((R_kinds c_r) (p1).toNatClampNeg), .int ((R_cells c_r) (p1).toNatClampNeg), .int ((R_paces c_r) (p1).toNatClampNeg), .int p2]) (rest := []) rfl hl.1 rfl (Nat.le_of_ble_eq_true rfl) dX0_spotOf_27 ⟨Nat.zero_le _, Nat.zero_le _⟩ (fun H locs hP hS => ?_)
  refine lv_goto (tgt := 35) hx hb dX0_spotOf_30 (by decide) ?_
  subst hQ
  exact retRO hx hb hr hlocks rfl hS h dX0_spotOf_35
theorem dX0_strengthOf_0 : decode cX0_strengthOf 0 = .ok (.aload_n 0, 1) := by decide +kernel
theorem dX0_strengthOf_1 : decode cX0_strengthOf 1 = .ok (.iload_n 1, 1) := by decide +kernel
theorem dX0_strengthOf_2 : decode cX0_strengthOf 2 = .ok (.invokevirtual 50, 3) := by decide +kernel
theorem dX0_strengthOf_5 : decode cX0_strengthOf 5 = .ok (.ifCond .ne 5, 3) := by decide +kernel
theorem dX0_strengthOf_8 : decode cX0_strengthOf 8 = .ok (.iconst 0, 1) := by decide +kernel
theorem dX0_strengthOf_9 : decode cX0_strengthOf 9 = .ok (.ireturn, 1) := by decide +kernel
theorem dX0_strengthOf_10 : decode cX0_strengthOf 10 = .ok (.aload_n 0, 1) := by decide +kernel
theorem dX0_strengthOf_11 : decode cX0_strengthOf 11 = .ok (.getfield 24, 3) := by decide +kernel
theorem dX0_strengthOf_14 : decode cX0_strengthOf 14 = .ok (.iload_n 1, 1) := by decide +kernel
theorem dX0_strengthOf_15 : decode cX0_strengthOf 15 = .ok (.iaload, 1) := by decide +kernel
theorem dX0_strengthOf_16 : decode cX0_strengthOf 16 = .ok (.istore_n 3, 1) := by decide +kernel
theorem dX0_strengthOf_17 : decode cX0_strengthOf 17 = .ok (.aload_n 0, 1) := by decide +kernel
theorem dX0_strengthOf_18 : decode cX0_strengthOf 18 = .ok (.getfield 9, 3) := by decide +kernel
theorem dX0_strengthOf_21 : decode cX0_strengthOf 21 = .ok (.iload_n 1, 1) := by decide +kernel
theorem dX0_strengthOf_22 : decode cX0_strengthOf 22 = .ok (.iaload, 1) := by decide +kernel
theorem dX0_strengthOf_23 : decode cX0_strengthOf 23 = .ok (.tableswitch 64 1 5 #[33, 43, 64, 64, 57], 33) := by decide +kernel
theorem dX0_strengthOf_56 : decode cX0_strengthOf 56 = .ok (.iconst 0, 1) := by decide +kernel
theorem dX0_strengthOf_57 : decode cX0_strengthOf 57 = .ok (.iload_n 3, 1) := by decide +kernel
theorem dX0_strengthOf_58 : decode cX0_strengthOf 58 = .ok (.iload_n 2, 1) := by decide +kernel
theorem dX0_strengthOf_59 : decode cX0_strengthOf 59 = .ok (.iconst 4, 1) := by decide +kernel
theorem dX0_strengthOf_60 : decode cX0_strengthOf 60 = .ok (.idiv, 1) := by decide +kernel
theorem dX0_strengthOf_61 : decode cX0_strengthOf 61 = .ok (.isub, 1) := by decide +kernel
theorem dX0_strengthOf_62 : decode cX0_strengthOf 62 = .ok (.invokestatic 61, 3) := by decide +kernel
theorem dX0_strengthOf_65 : decode cX0_strengthOf 65 = .ok (.ireturn, 1) := by decide +kernel
theorem dX0_strengthOf_66 : decode cX0_strengthOf 66 = .ok (.iconst 0, 1) := by decide +kernel
theorem dX0_strengthOf_67 : decode cX0_strengthOf 67 = .ok (.iload_n 3, 1) := by decide +kernel
theorem dX0_strengthOf_68 : decode cX0_strengthOf 68 = .ok (.iload_n 2, 1) := by decide +kernel
theorem dX0_strengthOf_69 : decode cX0_strengthOf 69 = .ok (.iconst 4, 1) := by decide +kernel
theorem dX0_strengthOf_70 : decode cX0_strengthOf 70 = .ok (.idiv, 1) := by decide +kernel
theorem dX0_strengthOf_71 : decode cX0_strengthOf 71 = .ok (.isub, 1) := by decide +kernel
theorem dX0_strengthOf_72 : decode cX0_strengthOf 72 = .ok (.iload_n 2, 1) := by decide +kernel
theorem dX0_strengthOf_73 : decode cX0_strengthOf 73 = .ok (.iconst 2, 1) := by decide +kernel
theorem dX0_strengthOf_74 : decode cX0_strengthOf 74 = .ok (.irem, 1) := by decide +kernel
theorem dX0_strengthOf_75 : decode cX0_strengthOf 75 = .ok (.isub, 1) := by decide +kernel
theorem dX0_strengthOf_76 : decode cX0_strengthOf 76 = .ok (.invokestatic 61, 3) := by decide +kernel
theorem dX0_strengthOf_79 : decode cX0_strengthOf 79 = .ok (.ireturn, 1) := by decide +kernel
theorem dX0_strengthOf_80 : decode cX0_strengthOf 80 = .ok (.iload_n 3, 1) := by decide +kernel
theorem dX0_strengthOf_81 : decode cX0_strengthOf 81 = .ok (.iload_n 2, 1) := by decide +kernel
theorem dX0_strengthOf_82 : decode cX0_strengthOf 82 = .ok (.bipush 6, 2) := by decide +kernel
theorem dX0_strengthOf_84 : decode cX0_strengthOf 84 = .ok (.idiv, 1) := by decide +kernel
theorem dX0_strengthOf_85 : decode cX0_strengthOf 85 = .ok (.iadd, 1) := by decide +kernel
theorem dX0_strengthOf_86 : decode cX0_strengthOf 86 = .ok (.ireturn, 1) := by decide +kernel
theorem dX0_strengthOf_87 : decode cX0_strengthOf 87 = .ok (.iload_n 3, 1) := by decide +kernel
theorem dX0_strengthOf_88 : decode cX0_strengthOf 88 = .ok (.ireturn, 1) := by decide +kernel
set_option maxRecDepth 20000 in
theorem ggX0_strengthOf_X0_has : GoodIn wsX0_strengthOf wsX0_has := goodIn_r _ [11, 12, 13, 14, 15, 16, 17, 18, 19, 20] (by decide +kernel) (by decide +kernel)
set_option maxRecDepth 20000 in
theorem gX0_strengthOf_X0_has : GoodIn wsX0_strengthOf (wsV RX0 50 RX0 yX0_has wsX0_has) := goodIn_app (goodIn_of _ (by decide +kernel)) ggX0_strengthOf_X0_has
set_option maxHeartbeats 4000000 in
set_option maxRecDepth 100000 in
theorem mX0_strengthOf (l : Launch) (dC : Nat → ClassId) (dI : Nat → Nat → Nat) (cI cC : ClassId) (sk : (Nat → Nat) × (Nat → Nat)) (f : Nat → Nat) (p1 : Int32) (p2 : Int32) (c_r : RT) (z : Int32) (h : fX0_strengthOf p1 p2 c_r = some z) : cRO l yX0_strengthOf wsX0_strengthOf (RMk 1 21) sk (dC, dI) (tyz cI cC) (zwR cI cC f c_r) [.ref (f 0), .int p1, .int p2] z := by
  refine ofRO (cc := cX0_strengthOf) (maxL := 4) (ret := (some .int)) (own := RX0) (plainFor_of_name (by decide)) rfl rfl (Nat.le_of_ble_eq_true rfl) ?_
  intro p e s m args below meth c hx hb hml hr hts hown hlocks hE hK hP hS ls hl
  generalize hQ : qRO _ _ _ _ = Q
  have hl : lv_has ls 4 [(0, .ref (f 0)), (1, .int p1), (2, .int p2)] := hl
  have hiX0 : ∀ w ∈ wsX00, w ∈ wsX0_strengthOf := fun w h => List.mem_cons_of_mem _ (List.mem_append_right _ h)
  have hw1 := hts (Cond.fieldLink RX0 24 "FloeToFloe$River" "strengths" "[I") (List.mem_of_getElem? (i := 1) rfl)
  have hw2 := hts (Cond.fieldLink RX0 9 "FloeToFloe$River" "kinds" "[I") (List.mem_of_getElem? (i := 2) rfl)
  have hw3 := hts (Cond.methodLink RX0 61 Lib.Math.max.name) (List.mem_of_getElem? (i := 3) rfl)
  have hw4 := hts (Cond.static Lib.Math.max.name) (List.mem_of_getElem? (i := 4) rfl)
  have hw5 := hts (Cond.initialized "java/lang/Math") (List.mem_of_getElem? (i := 5) rfl)
  have hw6 := hts (Cond.code Lib.Math.max.name Lib.Math.max.code 2 (some .int)) (List.mem_of_getElem? (i := 6) rfl)
  rw [fX0_strengthOf] at h
  refine lv_aload_n hx hb dX0_strengthOf_0 rfl (lv_at hl 0 rfl) ?_
  refine lv_iload_n hx hb dX0_strengthOf_1 rfl (lv_at hl 1 rfl) ?_
  obtain ⟨q2, e2, h⟩ := bd_some h
  refine g_roV (wc := (zwR cI cC f c_r)) ⟨hx, hb, hml, hown, hts⟩ hE hK hP hS [0, 1, 2, 3, 4, 5] rfl (mX0_has l dC dI cI cC sk f p1 c_r q2 e2) (cwV 1 hts gX0_strengthOf_X0_has rfl rfl rfl (by decide +kernel) ⟨Nat.le_of_ble_eq_true rfl, Nat.le_of_ble_eq_true rfl⟩) (va_recv hK hP (ci := 0) (q0 := 0) rfl rfl) (As := [.int p1]) (rest := []) rfl hl.1 rfl (Nat.le_of_ble_eq_true rfl) dX0_strengthOf_2 ⟨Nat.zero_le _, Nat.zero_le _⟩ (fun H locs hP hS => ?_)
  refine lv_if_ne (tgt := 10) hx hb dX0_strengthOf_5 (by decide) (fun c5 => ?_) (fun c5 => ?_)
  · have h := itF c5 h
    refine lv_aload_n hx hb dX0_strengthOf_10 rfl (lv_at hl 0 rfl) ?_
    refine va_get (D := (dC, dI)) (ci := 0) (v := .ref (f 5)) (C := RX0) (T := TX0) (N := 8) hx hb hts hiX0 hown hK hP 0 rfl rfl 4 (by decide) hw1 (fun _ h9 => h9) rfl dX0_strengthOf_11 ?_
    refine lv_iload_n hx hb dX0_strengthOf_14 rfl (lv_at hl 1 rfl) ?_
    obtain ⟨hin, h⟩ := ck_some h
    refine va_iald hx hb hK hP 5 0 rfl rfl hin dX0_strengthOf_15 ?_
    refine lv_istore_n (lv' := [(3, .int ((R_strengths c_r) (p1).toNatClampNeg)), (0, .ref (f 0)), (1, .int p1), (2, .int p2)]) hx hb dX0_strengthOf_16 rfl hl (by decide) rfl (fun ls hl => ?_)
    refine lv_aload_n hx hb dX0_strengthOf_17 rfl (lv_at hl 1 rfl) ?_
    refine va_get (D := (dC, dI)) (ci := 0) (v := .ref (f 1)) (C := RX0) (T := TX0) (N := 8) hx hb hts hiX0 hown hK hP 0 rfl rfl 0 (by decide) hw2 (fun _ h9 => h9) rfl dX0_strengthOf_18 ?_
    refine lv_iload_n hx hb dX0_strengthOf_21 rfl (lv_at hl 2 rfl) ?_
    obtain ⟨hin, h⟩ := ck_some h
    refine va_iald hx hb hK hP 1 0 rfl rfl hin dX0_strengthOf_22 ?_
    by_cases n1 : ((R_kinds c_r) (p1).toNatClampNeg) = (1 : Int32)
    · have h := itT n1 h
      refine lv_tableIn (off := 33) (tgt := 56) hx hb dX0_strengthOf_23 (by rw [n1]; decide) (by rw [n1]; decide) (by rw [n1]; decide) (by decide) ?_
      refine lv_iconst (v := (0 : Int32)) hx hb dX0_strengthOf_56 (by decide) ?_
      refine lv_iload_n hx hb dX0_strengthOf_57 rfl (lv_at hl 0 rfl) ?_
      refine lv_iload_n hx hb dX0_strengthOf_58 rfl (lv_at hl 3 rfl) ?_
      refine lv_iconst (v := (4 : Int32)) hx hb dX0_strengthOf_59 (by decide) ?_
      refine lv_idiv hx hb dX0_strengthOf_60 (by decide) ?_
      refine lv_isub hx hb dX0_strengthOf_61 ?_
      refine va_mmax hx hb (hml.trans hl.1.symm) hown hw3 hw4 hw5 hw6 (Nat.le_of_ble_eq_true rfl) (Nat.le_of_ble_eq_true rfl) (Nat.zero_le _) (Nat.zero_le _) dX0_strengthOf_62 ?_
      subst hQ
      exact retRO hx hb hr hlocks rfl hS h dX0_strengthOf_65
    have h := itF n1 h
    by_cases n2 : ((R_kinds c_r) (p1).toNatClampNeg) = (2 : Int32)
    · have h := itT n2 h
      refine lv_tableIn (off := 43) (tgt := 66) hx hb dX0_strengthOf_23 (by rw [n2]; decide) (by rw [n2]; decide) (by rw [n2]; decide) (by decide) ?_
      refine lv_iconst (v := (0 : Int32)) hx hb dX0_strengthOf_66 (by decide) ?_
      refine lv_iload_n hx hb dX0_strengthOf_67 rfl (lv_at hl 0 rfl) ?_
      refine lv_iload_n hx hb dX0_strengthOf_68 rfl (lv_at hl 3 rfl) ?_
      refine lv_iconst (v := (4 : Int32)) hx hb dX0_strengthOf_69 (by decide) ?_
      refine lv_idiv hx hb dX0_strengthOf_70 (by decide) ?_
      refine lv_isub hx hb dX0_strengthOf_71 ?_
      refine lv_iload_n hx hb dX0_strengthOf_72 rfl (lv_at hl 3 rfl) ?_
      refine lv_iconst (v := (2 : Int32)) hx hb dX0_strengthOf_73 (by decide) ?_
      refine lv_irem hx hb dX0_strengthOf_74 (by decide) ?_
      refine lv_isub hx hb dX0_strengthOf_75 ?_
      refine va_mmax hx hb (hml.trans hl.1.symm) hown hw3 hw4 hw5 hw6 (Nat.le_of_ble_eq_true rfl) (Nat.le_of_ble_eq_true rfl) (Nat.zero_le _) (Nat.zero_le _) dX0_strengthOf_76 ?_
      subst hQ
      exact retRO hx hb hr hlocks rfl hS h dX0_strengthOf_79
    have h := itF n2 h
    by_cases n3 : ((R_kinds c_r) (p1).toNatClampNeg) = (3 : Int32)
    · have h := itT n3 h
      refine lv_tableIn (off := 64) (tgt := 87) hx hb dX0_strengthOf_23 (by rw [n3]; decide) (by rw [n3]; decide) (by rw [n3]; decide) (by decide) ?_
      refine lv_iload_n hx hb dX0_strengthOf_87 rfl (lv_at hl 0 rfl) ?_
      subst hQ
      exact retRO hx hb hr hlocks rfl hS h dX0_strengthOf_88
    have h := itF n3 h
    by_cases n4 : ((R_kinds c_r) (p1).toNatClampNeg) = (4 : Int32)
    · have h := itT n4 h
      refine lv_tableIn (off := 64) (tgt := 87) hx hb dX0_strengthOf_23 (by rw [n4]; decide) (by rw [n4]; decide) (by rw [n4]; decide) (by decide) ?_
      refine lv_iload_n hx hb dX0_strengthOf_87 rfl (lv_at hl 0 rfl) ?_
      subst hQ
      exact retRO hx hb hr hlocks rfl hS h dX0_strengthOf_88
    have h := itF n4 h
    by_cases n5 : ((R_kinds c_r) (p1).toNatClampNeg) = (5 : Int32)
    · have h := itT n5 h
      refine lv_tableIn (off := 57) (tgt := 80) hx hb dX0_strengthOf_23 (by rw [n5]; decide) (by rw [n5]; decide) (by rw [n5]; decide) (by decide) ?_
      refine lv_iload_n hx hb dX0_strengthOf_80 rfl (lv_at hl 0 rfl) ?_
      refine lv_iload_n hx hb dX0_strengthOf_81 rfl (lv_at hl 3 rfl) ?_
      refine lv_bipush (v := (6 : Int32)) hx hb dX0_strengthOf_82 (by decide) ?_
      refine lv_idiv hx hb dX0_strengthOf_84 (by decide) ?_
      refine lv_iadd hx hb dX0_strengthOf_85 ?_
      subst hQ
      exact retRO hx hb hr hlocks rfl hS h dX0_strengthOf_86
    have h := itF n5 h
    have m1 := neI n1 (i := 1) rfl
    have m2 := neI n2 (i := 2) rfl
    have m3 := neI n3 (i := 3) rfl
    have m4 := neI n4 (i := 4) rfl
    have m5 := neI n5 (i := 5) rfl
    refine lv_tableOut (tgt := 87) hx hb dX0_strengthOf_23 (by omega) (by decide) ?_
    refine lv_iload_n hx hb dX0_strengthOf_87 rfl (lv_at hl 0 rfl) ?_
    subst hQ
    exact retRO hx hb hr hlocks rfl hS h dX0_strengthOf_88
  have h := itT c5 h
  refine lv_iconst (v := (0 : Int32)) hx hb dX0_strengthOf_8 (by decide) ?_
  subst hQ
  exact retRO hx hb hr hlocks rfl hS h dX0_strengthOf_9
