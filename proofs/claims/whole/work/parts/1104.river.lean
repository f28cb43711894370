theorem dX0_turnTo_0 : decode cX0_turnTo 0 = .ok (.iload_n 1, 1) := by decide +kernel
theorem dX0_turnTo_1 : decode cX0_turnTo 1 = .ok (.ifCond .lt 9, 3) := by decide +kernel
theorem dX0_turnTo_4 : decode cX0_turnTo 4 = .ok (.iload_n 1, 1) := by decide +kernel
theorem dX0_turnTo_5 : decode cX0_turnTo 5 = .ok (.bipush 60, 2) := by decide +kernel
theorem dX0_turnTo_7 : decode cX0_turnTo 7 = .ok (.if_icmp .le 5, 3) := by decide +kernel
theorem dX0_turnTo_10 : decode cX0_turnTo 10 = .ok (.iconst 0, 1) := by decide +kernel
theorem dX0_turnTo_11 : decode cX0_turnTo 11 = .ok (.ireturn, 1) := by decide +kernel
theorem dX0_turnTo_12 : decode cX0_turnTo 12 = .ok (.aload_n 0, 1) := by decide +kernel
theorem dX0_turnTo_13 : decode cX0_turnTo 13 = .ok (.iload_n 1, 1) := by decide +kernel
theorem dX0_turnTo_14 : decode cX0_turnTo 14 = .ok (.putfield 34, 3) := by decide +kernel
theorem dX0_turnTo_17 : decode cX0_turnTo 17 = .ok (.iconst 1, 1) := by decide +kernel
theorem dX0_turnTo_18 : decode cX0_turnTo 18 = .ok (.ireturn, 1) := by decide +kernel
set_option maxHeartbeats 4000000 in
set_option maxRecDepth 100000 in
theorem mX0_turnTo (l : Launch) (dC : Nat → ClassId) (dI : Nat → Nat → Nat) (cI cC : ClassId) (sk : (Nat → Nat) × (Nat → Nat)) (f : Nat → Nat) (sz : Nat) (p1 : Int32) (c_r : RT) (z : Int32 × RT) (h : fX0_turnTo p1 c_r = some z) : cRW l yX0_turnTo wsX0_turnTo (RMk 0 0) sk (dC, dI) (tyz cI cC) sz (zwR cI cC f c_r) (zwR cI cC f z.2) [.ref (f 0), .int p1] z.1 := by
  refine ofRW (cc := cX0_turnTo) (maxL := 2) (ret := (some .boolean)) (own := RX0) (plainFor_of_name (by decide)) rfl rfl (Nat.le_of_ble_eq_true rfl) ?_
  intro p e s m args below meth c A hA hx hb hml hr hts hown hlocks hE hK hP hD hS ls hl
  generalize hQ : qRW _ _ _ _ _ _ _ = Q
  have hl : lv_has ls 2 [(0, .ref (f 0)), (1, .int p1)] := hl
  have hiX0 : ∀ w ∈ wsX00, w ∈ wsX0_turnTo := fun w h => List.mem_cons_of_mem _ (List.mem_append_right _ h)
  have hw1 := hts (Cond.fieldLink RX0 34 "FloeToFloe$River" "minute" "I") (List.mem_of_getElem? (i := 1) rfl)
  rw [fX0_turnTo] at h
  refine lv_iload_n hx hb dX0_turnTo_0 rfl (lv_at hl 1 rfl) ?_
  refine lv_if_lt (tgt := 10) hx hb dX0_turnTo_1 (by decide) (fun c1 => ?_) (fun c1 => ?_)
  · have h := itT c1 h
    refine lv_iconst (v := (0 : Int32)) hx hb dX0_turnTo_10 (by decide) ?_
    subst hQ
    exact retRW (zz := (((0 : Int32), c_r) : Int32 × RT)) (fun z => z.1) (fun z => (zwR cI cC f z.2)) hx hb hr hlocks rfl hS h rfl hP dX0_turnTo_11
  have h := itF c1 h
  refine lv_iload_n hx hb dX0_turnTo_4 rfl (lv_at hl 1 rfl) ?_
  refine lv_bipush (v := (60 : Int32)) hx hb dX0_turnTo_5 (by decide) ?_
  refine lv_icmp_le (tgt := 12) hx hb dX0_turnTo_7 (by decide) (fun c7 => ?_) (fun c7 => ?_)
  · have h := itT c7 h
    refine lv_aload_n hx hb dX0_turnTo_12 rfl (lv_at hl 0 rfl) ?_
    refine lv_iload_n hx hb dX0_turnTo_13 rfl (lv_at hl 1 rfl) ?_
    refine va_put (D := (dC, dI)) (ci := 0) (v := .int p1) (ty := .int) (C := RX0) (T := TX0) (N := 8) hx hb hts hiX0 tyX0 tyX0_ok nmX0 hown hK hP hD hS 0 rfl rfl 7 (by decide) hw1 (fun _ h9 => h9) rfl (by decide +kernel) rfl rfl (Nat.le_of_ble_eq_true rfl) dX0_turnTo_14 (fun H locs hP hD hS => ?_)
    have hP : va_P (dC, dI) vwCl (zwR cI cC f (R_setMinute c_r p1)) H := hP
    have hD : va_D A (zwR cI cC f (R_setMinute c_r p1)) := hD
    refine lv_iconst (v := (1 : Int32)) hx hb dX0_turnTo_17 (by decide) ?_
    subst hQ
    exact retRW (zz := (((1 : Int32), (R_setMinute c_r p1)) : Int32 × RT)) (fun z => z.1) (fun z => (zwR cI cC f z.2)) hx hb hr hlocks rfl hS h rfl hP dX0_turnTo_18
  have h := itF c7 h
  refine lv_iconst (v := (0 : Int32)) hx hb dX0_turnTo_10 (by decide) ?_
  subst hQ
  exact retRW (zz := (((0 : Int32), c_r) : Int32 × RT)) (fun z => z.1) (fun z => (zwR cI cC f z.2)) hx hb hr hlocks rfl hS h rfl hP dX0_turnTo_11
theorem dX0_toldOf_0 : decode cX0_toldOf 0 = .ok (.aload_n 0, 1) := by decide +kernel
theorem dX0_toldOf_1 : decode cX0_toldOf 1 = .ok (.iload_n 1, 1) := by decide +kernel
theorem dX0_toldOf_2 : decode cX0_toldOf 2 = .ok (.invokevirtual 50, 3) := by decide +kernel
theorem dX0_toldOf_5 : decode cX0_toldOf 5 = .ok (.ifCond .ne 6, 3) := by decide +kernel
theorem dX0_toldOf_8 : decode cX0_toldOf 8 = .ok (.bipush (-9), 2) := by decide +kernel
theorem dX0_toldOf_10 : decode cX0_toldOf 10 = .ok (.ireturn, 1) := by decide +kernel
theorem dX0_toldOf_11 : decode cX0_toldOf 11 = .ok (.iload_n 2, 1) := by decide +kernel
theorem dX0_toldOf_12 : decode cX0_toldOf 12 = .ok (.tableswitch 62 0 3 #[32, 39, 46, 53], 32) := by decide +kernel
theorem dX0_toldOf_44 : decode cX0_toldOf 44 = .ok (.aload_n 0, 1) := by decide +kernel
theorem dX0_toldOf_45 : decode cX0_toldOf 45 = .ok (.getfield 9, 3) := by decide +kernel
theorem dX0_toldOf_48 : decode cX0_toldOf 48 = .ok (.iload_n 1, 1) := by decide +kernel
theorem dX0_toldOf_49 : decode cX0_toldOf 49 = .ok (.iaload, 1) := by decide +kernel
theorem dX0_toldOf_50 : decode cX0_toldOf 50 = .ok (.ireturn, 1) := by decide +kernel
theorem dX0_toldOf_51 : decode cX0_toldOf 51 = .ok (.aload_n 0, 1) := by decide +kernel
theorem dX0_toldOf_52 : decode cX0_toldOf 52 = .ok (.getfield 15, 3) := by decide +kernel
theorem dX0_toldOf_55 : decode cX0_toldOf 55 = .ok (.iload_n 1, 1) := by decide +kernel
theorem dX0_toldOf_56 : decode cX0_toldOf 56 = .ok (.iaload, 1) := by decide +kernel
theorem dX0_toldOf_57 : decode cX0_toldOf 57 = .ok (.ireturn, 1) := by decide +kernel
theorem dX0_toldOf_58 : decode cX0_toldOf 58 = .ok (.aload_n 0, 1) := by decide +kernel
theorem dX0_toldOf_59 : decode cX0_toldOf 59 = .ok (.getfield 18, 3) := by decide +kernel
theorem dX0_toldOf_62 : decode cX0_toldOf 62 = .ok (.iload_n 1, 1) := by decide +kernel
theorem dX0_toldOf_63 : decode cX0_toldOf 63 = .ok (.iaload, 1) := by decide +kernel
theorem dX0_toldOf_64 : decode cX0_toldOf 64 = .ok (.ireturn, 1) := by decide +kernel
theorem dX0_toldOf_65 : decode cX0_toldOf 65 = .ok (.aload_n 0, 1) := by decide +kernel
theorem dX0_toldOf_66 : decode cX0_toldOf 66 = .ok (.getfield 21, 3) := by decide +kernel
theorem dX0_toldOf_69 : decode cX0_toldOf 69 = .ok (.iload_n 1, 1) := by decide +kernel
theorem dX0_toldOf_70 : decode cX0_toldOf 70 = .ok (.iaload, 1) := by decide +kernel
theorem dX0_toldOf_71 : decode cX0_toldOf 71 = .ok (.iconst 2, 1) := by decide +kernel
theorem dX0_toldOf_72 : decode cX0_toldOf 72 = .ok (.iadd, 1) := by decide +kernel
theorem dX0_toldOf_73 : decode cX0_toldOf 73 = .ok (.ireturn, 1) := by decide +kernel
theorem dX0_toldOf_74 : decode cX0_toldOf 74 = .ok (.aload_n 0, 1) := by decide +kernel
theorem dX0_toldOf_75 : decode cX0_toldOf 75 = .ok (.getfield 24, 3) := by decide +kernel
theorem dX0_toldOf_78 : decode cX0_toldOf 78 = .ok (.iload_n 1, 1) := by decide +kernel
theorem dX0_toldOf_79 : decode cX0_toldOf 79 = .ok (.iaload, 1) := by decide +kernel
theorem dX0_toldOf_80 : decode cX0_toldOf 80 = .ok (.ireturn, 1) := by decide +kernel
set_option maxRecDepth 20000 in
theorem ggX0_toldOf_X0_has : GoodIn wsX0_toldOf wsX0_has := goodIn_r _ [10, 11, 12, 13, 14, 15, 16, 17, 18, 19] (by decide +kernel) (by decide +kernel)
set_option maxRecDepth 20000 in
theorem gX0_toldOf_X0_has : GoodIn wsX0_toldOf (wsV RX0 50 RX0 yX0_has wsX0_has) := goodIn_app (goodIn_of _ (by decide +kernel)) ggX0_toldOf_X0_has
set_option maxHeartbeats 4000000 in
set_option maxRecDepth 100000 in
theorem mX0_toldOf (l : Launch) (dC : Nat → ClassId) (dI : Nat → Nat → Nat) (cI cC : ClassId) (sk : (Nat → Nat) × (Nat → Nat)) (f : Nat → Nat) (p1 : Int32) (p2 : Int32) (c_r : RT) (z : Int32) (h : fX0_toldOf p1 p2 c_r = some z) : cRO l yX0_toldOf wsX0_toldOf (RMk 1 21) sk (dC, dI) (tyz cI cC) (zwR cI cC f c_r) [.ref (f 0), .int p1, .int p2] z := by
  refine ofRO (cc := cX0_toldOf) (maxL := 3) (ret := (some .int)) (own := RX0) (plainFor_of_name (by decide)) rfl rfl (Nat.le_of_ble_eq_true rfl) ?_
  intro p e s m args below meth c hx hb hml hr hts hown hlocks hE hK hP hS ls hl
  generalize hQ : qRO _ _ _ _ = Q
  have hl : lv_has ls 3 [(0, .ref (f 0)), (1, .int p1), (2, .int p2)] := hl
  have hiX0 : ∀ w ∈ wsX00, w ∈ wsX0_toldOf := fun w h => List.mem_cons_of_mem _ (List.mem_append_right _ h)
  have hw1 := hts (Cond.fieldLink RX0 9 "FloeToFloe$River" "kinds" "[I") (List.mem_of_getElem? (i := 1) rfl)
  have hw2 := hts (Cond.fieldLink RX0 15 "FloeToFloe$River" "homes" "[I") (List.mem_of_getElem? (i := 2) rfl)
  have hw3 := hts (Cond.fieldLink RX0 18 "FloeToFloe$River" "cells" "[I") (List.mem_of_getElem? (i := 3) rfl)
  have hw4 := hts (Cond.fieldLink RX0 21 "FloeToFloe$River" "paces" "[I") (List.mem_of_getElem? (i := 4) rfl)
  have hw5 := hts (Cond.fieldLink RX0 24 "FloeToFloe$River" "strengths" "[I") (List.mem_of_getElem? (i := 5) rfl)
  rw [fX0_toldOf] at h
  refine lv_aload_n hx hb dX0_toldOf_0 rfl (lv_at hl 0 rfl) ?_
  refine lv_iload_n hx hb dX0_toldOf_1 rfl (lv_at hl 1 rfl) ?_
  obtain ⟨q2, e2, h⟩ := bd_some h
  refine g_roV (wc := (zwR cI cC f c_r)) ⟨hx, hb, hml, hown, hts⟩ hE hK hP hS [0, 1, 2, 3, 4, 5] rfl (mX0_has l dC dI cI cC sk f p1 c_r q2 e2) (cwV 1 hts gX0_toldOf_X0_has rfl rfl rfl (by decide +kernel) ⟨Nat.le_of_ble_eq_true rfl, Nat.le_of_ble_eq_true rfl⟩) (va_recv hK hP (ci := 0) (q0 := 0) rfl rfl) (As := [.int p1]) (rest := []) rfl hl.1 rfl (Nat.le_of_ble_eq_true rfl) dX0_toldOf_2 ⟨Nat.zero_le _, Nat.zero_le _⟩ (fun H locs hP hS => ?_)
  refine lv_if_ne (tgt := 11) hx hb dX0_toldOf_5 (by decide) (fun c5 => ?_) (fun c5 => ?_)
  · have h := itF c5 h
    refine lv_iload_n hx hb dX0_toldOf_11 rfl (lv_at hl 2 rfl) ?_
    by_cases n0 : p2 = (0 : Int32)
    · have h := itT n0 h
      refine lv_tableIn (off := 32) (tgt := 44) hx hb dX0_toldOf_12 (by rw [n0]; decide) (by rw [n0]; decide) (by rw [n0]; decide) (by decide) ?_
      refine lv_aload_n hx hb dX0_toldOf_44 rfl (lv_at hl 0 rfl) ?_
      refine va_get (D := (dC, dI)) (ci := 0) (v := .ref (f 1)) (C := RX0) (T := TX0) (N := 8) hx hb hts hiX0 hown hK hP 0 rfl rfl 0 (by decide) hw1 (fun _ h9 => h9) rfl dX0_toldOf_45 ?_
      refine lv_iload_n hx hb dX0_toldOf_48 rfl (lv_at hl 1 rfl) ?_
      obtain ⟨hin, h⟩ := ck_some h
      refine va_iald hx hb hK hP 1 0 rfl rfl hin dX0_toldOf_49 ?_
      subst hQ
      exact retRO hx hb hr hlocks rfl hS h dX0_toldOf_50
    have h := itF n0 h
    by_cases n1 : p2 = (1 : Int32)
    · have h := itT n1 h
      refine lv_tableIn (off := 39) (tgt := 51) hx hb dX0_toldOf_12 (by rw [n1]; decide) (by rw [n1]; decide) (by rw [n1]; decide) (by decide) ?_
      refine lv_aload_n hx hb dX0_toldOf_51 rfl (lv_at hl 0 rfl) ?_
      refine va_get (D := (dC, dI)) (ci := 0) (v := .ref (f 2)) (C := RX0) (T := TX0) (N := 8) hx hb hts hiX0 hown hK hP 0 rfl rfl 1 (by decide) hw2 (fun _ h9 => h9) rfl dX0_toldOf_52 ?_
      refine lv_iload_n hx hb dX0_toldOf_55 rfl (lv_at hl 1 rfl) ?_
      obtain ⟨hin, h⟩ := ck_some h
      refine va_iald hx hb hK hP 2 0 rfl rfl hin dX0_toldOf_56 ?_
      subst hQ
      exact retRO hx hb hr hlocks rfl hS h dX0_toldOf_57
    have h := itF n1 h
    by_cases n2 : p2 = (2 : Int32)
    · have h := itT n2 h
      refine lv_tableIn (off := 46) (tgt := 58) hx hb dX0_toldOf_12 (by rw [n2]; decide) (by rw [n2]; decide) (by rw [n2]; decide) (by decide) ?_
      refine lv_aload_n hx hb dX0_toldOf_58 rfl (lv_at hl 0 rfl) ?_
      refine va_get (D := (dC, dI)) (ci := 0) (v := .ref (f 3)) (C := RX0) (T := TX0) (N := 8) hx hb hts hiX0 hown hK hP 0 rfl rfl 2 (by decide) hw3 (fun _ h9 => h9) rfl dX0_toldOf_59 ?_
      refine lv_iload_n hx hb dX0_toldOf_62 rfl (lv_at hl 1 rfl) ?_
      obtain ⟨hin, h⟩ := ck_some h
      refine va_iald hx hb hK hP 3 0 rfl rfl hin dX0_toldOf_63 ?_
      subst hQ
      exact retRO hx hb hr hlocks rfl hS h dX0_toldOf_64
    have h := itF n2 h
    by_cases n3 : p2 = (3 : Int32)
    · have h := itT n3 h
      refine lv_tableIn (off := 53) (tgt := 65) hx hb dX0_toldOf_12 (by rw [n3]; decide) (by rw [n3]; decide) (by rw [n3]; decide) (by decide) ?_
      refine lv_aload_n hx hb dX0_toldOf_65 rfl (lv_at hl 0 rfl) ?_
      refine va_get (D := (dC, dI)) (ci := 0) (v := .ref (f 4)) (C := RX0) (T := TX0) (N := 8) hx hb hts hiX0 hown hK hP 0 rfl rfl 3 (by decide) hw4 (fun _ h9 => h9) rfl dX0_toldOf_66 ?_
      refine lv_iload_n hx hb dX0_toldOf_69 rfl (lv_at hl 1 rfl) ?_
      obtain ⟨hin, h⟩ := ck_some h
      refine va_iald hx hb hK hP 4 0 rfl rfl hin dX0_toldOf_70 ?_
      refine lv_iconst (v := (2 : Int32)) hx hb dX0_toldOf_71 (by decide) ?_
      refine lv_iadd hx hb dX0_toldOf_72 ?_
      subst hQ
      exact retRO hx hb hr hlocks rfl hS h dX0_toldOf_73
    have h := itF n3 h
    have m0 := neI n0 (i := 0) rfl
    have m1 := neI n1 (i := 1) rfl
    have m2 := neI n2 (i := 2) rfl
    have m3 := neI n3 (i := 3) rfl
    refine lv_tableOut (tgt := 74) hx hb dX0_toldOf_12 (by omega) (by decide) ?_
    refine lv_aload_n hx hb dX0_toldOf_74 rfl (lv_at hl 0 rfl) ?_
    refine va_get (D := (dC, dI)) (ci := 0) (v := .ref (f 5)) (C := RX0) (T := TX0) (N := 8) hx hb hts hiX0 hown hK hP 0 rfl rfl 4 (by decide) hw5 (fun _ h9 => h9) rfl dX0_toldOf_75 ?_
    refine lv_iload_n hx hb dX0_toldOf_78 rfl (lv_at hl 1 rfl) ?_
    obtain ⟨hin, h⟩ := ck_some h
    refine va_iald hx hb hK hP 5 0 rfl rfl hin dX0_toldOf_79 ?_
    subst hQ
    exact retRO hx hb hr hlocks rfl hS h dX0_toldOf_80
  have h := itT c5 h
  refine lv_bipush (v := (-9 : Int32)) hx hb dX0_toldOf_8 (by decide) ?_
  subst hQ
  exact retRO hx hb hr hlocks rfl hS h dX0_toldOf_10
theorem dX0_spotAt_0 : decode cX0_spotAt 0 = .ok (.iload_n 0, 1) := by decide +kernel
theorem dX0_spotAt_1 : decode cX0_spotAt 1 = .ok (.iconst 4, 1) := by decide +kernel
theorem dX0_spotAt_2 : decode cX0_spotAt 2 = .ok (.if_icmp .ne 5, 3) := by decide +kernel
theorem dX0_spotAt_5 : decode cX0_spotAt 5 = .ok (.iload_n 1, 1) := by decide +kernel
theorem dX0_spotAt_6 : decode cX0_spotAt 6 = .ok (.ireturn, 1) := by decide +kernel
theorem dX0_spotAt_7 : decode cX0_spotAt 7 = .ok (.iload_n 3, 1) := by decide +kernel
theorem dX0_spotAt_8 : decode cX0_spotAt 8 = .ok (.istore 4, 2) := by decide +kernel
theorem dX0_spotAt_10 : decode cX0_spotAt 10 = .ok (.iload_n 0, 1) := by decide +kernel
theorem dX0_spotAt_11 : decode cX0_spotAt 11 = .ok (.iconst 3, 1) := by decide +kernel
theorem dX0_spotAt_12 : decode cX0_spotAt 12 = .ok (.if_icmp .ne 29, 3) := by decide +kernel
theorem dX0_spotAt_15 : decode cX0_spotAt 15 = .ok (.iload_n 3, 1) := by decide +kernel
theorem dX0_spotAt_16 : decode cX0_spotAt 16 = .ok (.bipush 6, 2) := by decide +kernel
theorem dX0_spotAt_18 : decode cX0_spotAt 18 = .ok (.invokestatic 57, 3) := by decide +kernel
theorem dX0_spotAt_21 : decode cX0_spotAt 21 = .ok (.istore 5, 2) := by decide +kernel
theorem dX0_spotAt_23 : decode cX0_spotAt 23 = .ok (.iload 5, 2) := by decide +kernel
theorem dX0_spotAt_25 : decode cX0_spotAt 25 = .ok (.iconst 3, 1) := by decide +kernel
theorem dX0_spotAt_26 : decode cX0_spotAt 26 = .ok (.if_icmp .gt 8, 3) := by decide +kernel
theorem dX0_spotAt_29 : decode cX0_spotAt 29 = .ok (.iload 5, 2) := by decide +kernel
theorem dX0_spotAt_31 : decode cX0_spotAt 31 = .ok (.goto 8, 3) := by decide +kernel
theorem dX0_spotAt_34 : decode cX0_spotAt 34 = .ok (.bipush 6, 2) := by decide +kernel
theorem dX0_spotAt_36 : decode cX0_spotAt 36 = .ok (.iload 5, 2) := by decide +kernel
theorem dX0_spotAt_38 : decode cX0_spotAt 38 = .ok (.isub, 1) := by decide +kernel
theorem dX0_spotAt_39 : decode cX0_spotAt 39 = .ok (.istore 4, 2) := by decide +kernel
theorem dX0_spotAt_41 : decode cX0_spotAt 41 = .ok (.iload_n 1, 1) := by decide +kernel
theorem dX0_spotAt_42 : decode cX0_spotAt 42 = .ok (.iload_n 2, 1) := by decide +kernel
theorem dX0_spotAt_43 : decode cX0_spotAt 43 = .ok (.iload 4, 2) := by decide +kernel
theorem dX0_spotAt_45 : decode cX0_spotAt 45 = .ok (.imul, 1) := by decide +kernel
theorem dX0_spotAt_46 : decode cX0_spotAt 46 = .ok (.iadd, 1) := by decide +kernel
theorem dX0_spotAt_47 : decode cX0_spotAt 47 = .ok (.bipush 10, 2) := by decide +kernel
theorem dX0_spotAt_49 : decode cX0_spotAt 49 = .ok (.invokestatic 57, 3) := by decide +kernel
theorem dX0_spotAt_52 : decode cX0_spotAt 52 = .ok (.ireturn, 1) := by decide +kernel
set_option maxRecDepth 20000 in
theorem ggX0_spotAt_J9_floorMod_7cf53 : GoodIn wsX0_spotAt wsJ9_floorMod_7cf53 := goodIn_r _ [4] (by decide +kernel) (by decide +kernel)
set_option maxRecDepth 20000 in
theorem gX0_spotAt_J9_floorMod_7cf53 : GoodIn wsX0_spotAt (va_wsS RX0 57 yJ9_floorMod_7cf53 wsJ9_floorMod_7cf53) := goodIn_app (goodIn_of _ (by decide +kernel)) ggX0_spotAt_J9_floorMod_7cf53
set_option maxHeartbeats 4000000 in
set_option maxRecDepth 100000 in
theorem mX0_spotAt (l : Launch) (dC : Nat → ClassId) (dI : Nat → Nat → Nat) (cI cC : ClassId) (sk : (Nat → Nat) × (Nat → Nat))  (p0 : Int32) (p1 : Int32) (p2 : Int32) (p3 : Int32)  (z : Int32) (h : fX0_spotAt p0 p1 p2 p3 = some z) : cRO l yX0_spotAt wsX0_spotAt (RMk 1 22) sk (dC, dI) (tyz cI cC) ([] : va_W) [.int p0, .int p1, .int p2, .int p3] z := by
  refine ofRO (cc := cX0_spotAt) (maxL := 6) (ret := (some .int)) (own := RX0) (plainFor_of_name (by decide)) rfl rfl (Nat.le_of_ble_eq_true rfl) ?_
  intro p e s m args below meth c hx hb hml hr hts hown hlocks hE hK hP hS ls hl
  generalize hQ : qRO _ _ _ _ = Q
  have hl : lv_has ls 6 [(0, .int p0), (1, .int p1), (2, .int p2), (3, .int p3)] := hl
  rw [fX0_spotAt] at h
  refine lv_iload_n hx hb dX0_spotAt_0 rfl (lv_at hl 0 rfl) ?_
  refine lv_iconst (v := (4 : Int32)) hx hb dX0_spotAt_1 (by decide) ?_
  refine lv_icmp_ne (tgt := 7) hx hb dX0_spotAt_2 (by decide) (fun c2 => ?_) (fun c2 => ?_)
  · have h := itF c2 h
    refine lv_iload_n hx hb dX0_spotAt_7 rfl (lv_at hl 3 rfl) ?_
    refine lv_istore (lv' := [(4, .int p3), (0, .int p0), (1, .int p1), (2, .int p2), (3, .int p3)]) hx hb dX0_spotAt_8 hl (by decide) rfl (fun ls hl => ?_)
    refine lv_iload_n hx hb dX0_spotAt_10 rfl (lv_at hl 1 rfl) ?_
    refine lv_iconst (v := (3 : Int32)) hx hb dX0_spotAt_11 (by decide) ?_
    refine jnW (fun (v41 : Int32) => ∀ (H : Heap) (locs : List Loc) (ls : Array Slot), va_P (dC, dI) vwCl ([] : va_W) H → va_S noA s.heap H locs → lv_has ls 6 [(1, .int p1), (2, .int p2), (4, .int v41)] → W p l e (RMk 1 22) s m args below meth c H locs 0 0 Q (F0 m 41 ls [])) h (fun v41 h H locs ls hP hS hl => ?_) (fun J41 j41 h => ?_)
    · refine lv_iload_n hx hb dX0_spotAt_41 rfl (lv_at hl 0 rfl) ?_
      refine lv_iload_n hx hb dX0_spotAt_42 rfl (lv_at hl 1 rfl) ?_
      refine lv_iload hx hb dX0_spotAt_43 (lv_at hl 2 rfl) ?_
      refine lv_imul hx hb dX0_spotAt_45 ?_
      refine lv_iadd hx hb dX0_spotAt_46 ?_
      refine lv_bipush (v := (10 : Int32)) hx hb dX0_spotAt_47 (by decide) ?_
      obtain ⟨q49, e49, h⟩ := bd_some h
      refine g_roS (wc := ([] : va_W)) ⟨hx, hb, hml, hown, hts⟩ hE hK hP hS [] rfl (mJ9_floorMod_7cf53 l dC dI cI cC sk  (p1 + (p2 * v41)) (10 : Int32) q49 e49) (va_cwS 2 hts gX0_spotAt_J9_floorMod_7cf53 rfl rfl rfl (by decide +kernel) ⟨Nat.le_of_ble_eq_true rfl, Nat.le_of_ble_eq_true rfl⟩) (As := [.int (p1 + (p2 * v41)), .int (10 : Int32)]) (rest := []) rfl hl.1 rfl (Nat.le_of_ble_eq_true rfl) dX0_spotAt_49 ⟨Nat.zero_le _, Nat.zero_le _⟩ (fun H locs hP hS => ?_)
      subst hQ
      exact retRO hx hb hr hlocks rfl hS h dX0_spotAt_52
    refine lv_icmp_ne (tgt := 41) hx hb dX0_spotAt_12 (by decide) (fun c12 => ?_) (fun c12 => ?_)
    · have h := itF c12 h
      exact j41 _ h _ _ _ hP hS (lv_sub hl [2, 3, 0] rfl)
    have h := itT c12 h
    refine lv_iload_n hx hb dX0_spotAt_15 rfl (lv_at hl 4 rfl) ?_
    refine lv_bipush (v := (6 : Int32)) hx hb dX0_spotAt_16 (by decide) ?_
    obtain ⟨q18, e18, h⟩ := bd_some h
    refine g_roS (wc := ([] : va_W)) ⟨hx, hb, hml, hown, hts⟩ hE hK hP hS [] rfl (mJ9_floorMod_7cf53 l dC dI cI cC sk  p3 (6 : Int32) q18 e18) (va_cwS 2 hts gX0_spotAt_J9_floorMod_7cf53 rfl rfl rfl (by decide +kernel) ⟨Nat.le_of_ble_eq_true rfl, Nat.le_of_ble_eq_true rfl⟩) (As := [.int p3, .int (6 : Int32)]) (rest := []) rfl hl.1 rfl (Nat.le_of_ble_eq_true rfl) dX0_spotAt_18 ⟨Nat.zero_le _, Nat.zero_le _⟩ (fun H locs hP hS => ?_)
    refine lv_istore (lv' := [(5, .int q18), (4, .int p3), (0, .int p0), (1, .int p1), (2, .int p2), (3, .int p3)]) hx hb dX0_spotAt_21 hl (by decide) rfl (fun ls hl => ?_)
    refine lv_iload hx hb dX0_spotAt_23 (lv_at hl 0 rfl) ?_
    refine lv_iconst (v := (3 : Int32)) hx hb dX0_spotAt_25 (by decide) ?_
    refine lv_icmp_gt (tgt := 34) hx hb dX0_spotAt_26 (by decide) (fun c26 => ?_) (fun c26 => ?_)
    · have h := itT c26 h
      refine lv_bipush (v := (6 : Int32)) hx hb dX0_spotAt_34 (by decide) ?_
      refine lv_iload hx hb dX0_spotAt_36 (lv_at hl 0 rfl) ?_
      refine lv_isub hx hb dX0_spotAt_38 ?_
      refine lv_istore (lv' := [(4, .int ((6 : Int32) - q18)), (5, .int q18), (0, .int p0), (1, .int p1), (2, .int p2), (3, .int p3)]) hx hb dX0_spotAt_39 hl (by decide) rfl (fun ls hl => ?_)
      exact j41 _ h _ _ _ hP hS (lv_sub hl [3, 4, 0] rfl)
    have h := itF c26 h
    refine lv_iload hx hb dX0_spotAt_29 (lv_at hl 0 rfl) ?_
    refine lv_goto (tgt := 39) hx hb dX0_spotAt_31 (by decide) ?_
    refine lv_istore (lv' := [(4, .int q18), (5, .int q18), (0, .int p0), (1, .int p1), (2, .int p2), (3, .int p3)]) hx hb dX0_spotAt_39 hl (by decide) rfl (fun ls hl => ?_)
    exact j41 _ h _ _ _ hP hS (lv_sub hl [3, 4, 0] rfl)
  have h := itT c2 h
  refine lv_iload_n hx hb dX0_spotAt_5 rfl (lv_at hl 1 rfl) ?_
  subst hQ
  exact retRO hx hb hr hlocks rfl hS h dX0_spotAt_6
