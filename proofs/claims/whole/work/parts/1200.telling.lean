theorem dX1_put_0 : decode cX1_put 0 = .ok (.aload_n 0, 1) := by decide +kernel
theorem dX1_put_1 : decode cX1_put 1 = .ok (.getfield 15, 3) := by decide +kernel
theorem dX1_put_4 : decode cX1_put 4 = .ok (.ifCond .lt 36, 3) := by decide +kernel
theorem dX1_put_7 : decode cX1_put 7 = .ok (.aload_n 0, 1) := by decide +kernel
theorem dX1_put_8 : decode cX1_put 8 = .ok (.getfield 15, 3) := by decide +kernel
theorem dX1_put_11 : decode cX1_put 11 = .ok (.aload_n 0, 1) := by decide +kernel
theorem dX1_put_12 : decode cX1_put 12 = .ok (.getfield 9, 3) := by decide +kernel
theorem dX1_put_15 : decode cX1_put 15 = .ok (.arraylength, 1) := by decide +kernel
theorem dX1_put_16 : decode cX1_put 16 = .ok (.if_icmp .ge 24, 3) := by decide +kernel
theorem dX1_put_19 : decode cX1_put 19 = .ok (.aload_n 0, 1) := by decide +kernel
theorem dX1_put_20 : decode cX1_put 20 = .ok (.getfield 9, 3) := by decide +kernel
theorem dX1_put_23 : decode cX1_put 23 = .ok (.aload_n 0, 1) := by decide +kernel
theorem dX1_put_24 : decode cX1_put 24 = .ok (.getfield 15, 3) := by decide +kernel
theorem dX1_put_27 : decode cX1_put 27 = .ok (.iload_n 1, 1) := by decide +kernel
theorem dX1_put_28 : decode cX1_put 28 = .ok (.i2c, 1) := by decide +kernel
theorem dX1_put_29 : decode cX1_put 29 = .ok (.castore, 1) := by decide +kernel
theorem dX1_put_30 : decode cX1_put 30 = .ok (.aload_n 0, 1) := by decide +kernel
theorem dX1_put_31 : decode cX1_put 31 = .ok (.dup, 1) := by decide +kernel
theorem dX1_put_32 : decode cX1_put 32 = .ok (.getfield 15, 3) := by decide +kernel
theorem dX1_put_35 : decode cX1_put 35 = .ok (.iconst 1, 1) := by decide +kernel
theorem dX1_put_36 : decode cX1_put 36 = .ok (.iadd, 1) := by decide +kernel
theorem dX1_put_37 : decode cX1_put 37 = .ok (.putfield 15, 3) := by decide +kernel
theorem dX1_put_40 : decode cX1_put 40 = .ok (.aload_n 0, 1) := by decide +kernel
theorem dX1_put_41 : decode cX1_put 41 = .ok (.getfield 15, 3) := by decide +kernel
theorem dX1_put_44 : decode cX1_put 44 = .ok (.ireturn, 1) := by decide +kernel
set_option maxHeartbeats 4000000 in
set_option maxRecDepth 100000 in
theorem mX1_put (l : Launch) (dC : Nat → ClassId) (dI : Nat → Nat → Nat) (cI cC : ClassId) (sk : (Nat → Nat) × (Nat → Nat)) (f : Nat → Nat) (sz : Nat) (p1 : Int32) (c_letters : AR) (c_size : Int32) (z : Int32 × AR × Int32) (h : fX1_put p1 c_letters c_size = some z) : cRW l yX1_put wsX1_put (RMk 0 0) sk (dC, dI) (tyz cI cC) sz (zwT cI cC f c_letters c_size) (zwT cI cC f z.2.1 z.2.2) [.ref (f 0), .int p1] z.1 := by
  refine ofRW (cc := cX1_put) (maxL := 2) (ret := (some .int)) (own := RX1) (plainFor_of_name (by decide)) rfl rfl (Nat.le_of_ble_eq_true rfl) ?_
  intro p e s m args below meth c A hA hx hb hml hr hts hown hlocks hE hK hP hD hS ls hl
  generalize hQ : qRW _ _ _ _ _ _ _ = Q
  have hl : lv_has ls 2 [(0, .ref (f 0)), (1, .int p1)] := hl
  have hiX1 : ∀ w ∈ wsX10, w ∈ wsX1_put := fun w h => List.mem_cons_of_mem _ (List.mem_append_right _ h)
  have hw1 := hts (Cond.fieldLink RX1 15 "FloeToFloe$Telling" "size" "I") (List.mem_of_getElem? (i := 1) rfl)
  have hw2 := hts (Cond.fieldLink RX1 9 "FloeToFloe$Telling" "letters" "[C") (List.mem_of_getElem? (i := 2) rfl)
  rw [fX1_put] at h
  refine lv_aload_n hx hb dX1_put_0 rfl (lv_at hl 0 rfl) ?_
  refine va_get (D := (dC, dI)) (ci := 1) (v := .int c_size) (C := RX1) (T := TX1) (N := 2) hx hb hts hiX1 hown hK hP 0 rfl rfl 1 (by decide) hw1 (fun _ h9 => h9) rfl dX1_put_1 ?_
  refine lv_if_lt (tgt := 40) hx hb dX1_put_4 (by decide) (fun c4 => ?_) (fun c4 => ?_)
  · have h := itT c4 h
    refine lv_aload_n hx hb dX1_put_40 rfl (lv_at hl 0 rfl) ?_
    refine va_get (D := (dC, dI)) (ci := 1) (v := .int c_size) (C := RX1) (T := TX1) (N := 2) hx hb hts hiX1 hown hK hP 0 rfl rfl 1 (by decide) hw1 (fun _ h9 => h9) rfl dX1_put_41 ?_
    subst hQ
    exact retRW (zz := ((c_size, c_letters, c_size) : Int32 × AR × Int32)) (fun z => z.1) (fun z => (zwT cI cC f z.2.1 z.2.2)) hx hb hr hlocks rfl hS h rfl hP dX1_put_44
  have h := itF c4 h
  refine lv_aload_n hx hb dX1_put_7 rfl (lv_at hl 0 rfl) ?_
  refine va_get (D := (dC, dI)) (ci := 1) (v := .int c_size) (C := RX1) (T := TX1) (N := 2) hx hb hts hiX1 hown hK hP 0 rfl rfl 1 (by decide) hw1 (fun _ h9 => h9) rfl dX1_put_8 ?_
  refine lv_aload_n hx hb dX1_put_11 rfl (lv_at hl 0 rfl) ?_
  refine va_get (D := (dC, dI)) (ci := 1) (v := .ref (f 1)) (C := RX1) (T := TX1) (N := 2) hx hb hts hiX1 hown hK hP 0 rfl rfl 0 (by decide) hw2 (fun _ h9 => h9) rfl dX1_put_12 ?_
  refine va_alen hx hb hK hP 1 1 rfl rfl (v := (80 : Int32)) rfl dX1_put_15 ?_
  refine lv_icmp_ge (tgt := 40) hx hb dX1_put_16 (by decide) (fun c16 => ?_) (fun c16 => ?_)
  · have h := itT c16 h
    refine lv_aload_n hx hb dX1_put_40 rfl (lv_at hl 0 rfl) ?_
    refine va_get (D := (dC, dI)) (ci := 1) (v := .int c_size) (C := RX1) (T := TX1) (N := 2) hx hb hts hiX1 hown hK hP 0 rfl rfl 1 (by decide) hw1 (fun _ h9 => h9) rfl dX1_put_41 ?_
    subst hQ
    exact retRW (zz := ((c_size, c_letters, c_size) : Int32 × AR × Int32)) (fun z => z.1) (fun z => (zwT cI cC f z.2.1 z.2.2)) hx hb hr hlocks rfl hS h rfl hP dX1_put_44
  have h := itF c16 h
  refine lv_aload_n hx hb dX1_put_19 rfl (lv_at hl 0 rfl) ?_
  refine va_get (D := (dC, dI)) (ci := 1) (v := .ref (f 1)) (C := RX1) (T := TX1) (N := 2) hx hb hts hiX1 hown hK hP 0 rfl rfl 0 (by decide) hw2 (fun _ h9 => h9) rfl dX1_put_20 ?_
  refine lv_aload_n hx hb dX1_put_23 rfl (lv_at hl 0 rfl) ?_
  refine va_get (D := (dC, dI)) (ci := 1) (v := .int c_size) (C := RX1) (T := TX1) (N := 2) hx hb hts hiX1 hown hK hP 0 rfl rfl 1 (by decide) hw1 (fun _ h9 => h9) rfl dX1_put_24 ?_
  refine lv_iload_n hx hb dX1_put_27 rfl (lv_at hl 1 rfl) ?_
  refine lv_i2c (v := (((p1).toUInt32 % 65536).toInt32)) hx hb dX1_put_28 rfl ?_
  obtain ⟨hin, h⟩ := ck_some h
  refine va_cast hx hb hK hP hD hS 1 1 rfl rfl hin dX1_put_29 (fun H locs hP hD hS => ?_)
  have hP : va_P (dC, dI) vwCl (zwT cI cC f (upd c_letters (c_size).toNatClampNeg (vp_nar .char (((p1).toUInt32 % 65536).toInt32))) c_size) H := hP
  have hD : va_D A (zwT cI cC f (upd c_letters (c_size).toNatClampNeg (vp_nar .char (((p1).toUInt32 % 65536).toInt32))) c_size) := hD
  refine lv_aload_n hx hb dX1_put_30 rfl (lv_at hl 0 rfl) ?_
  refine lv_dup hx hb dX1_put_31 rfl ?_
  refine va_get (D := (dC, dI)) (ci := 1) (v := .int c_size) (C := RX1) (T := TX1) (N := 2) hx hb hts hiX1 hown hK hP 0 rfl rfl 1 (by decide) hw1 (fun _ h9 => h9) rfl dX1_put_32 ?_
  refine lv_iconst (v := (1 : Int32)) hx hb dX1_put_35 (by decide) ?_
  refine lv_iadd hx hb dX1_put_36 ?_
  refine va_put (D := (dC, dI)) (ci := 1) (v := .int (c_size + (1 : Int32))) (ty := .int) (C := RX1) (T := TX1) (N := 2) hx hb hts hiX1 tyX1 tyX1_ok nmX1 hown hK hP hD hS 0 rfl rfl 1 (by decide) hw1 (fun _ h9 => h9) rfl (by decide +kernel) rfl rfl (Nat.le_of_ble_eq_true rfl) dX1_put_37 (fun H locs hP hD hS => ?_)
  have hP : va_P (dC, dI) vwCl (zwT cI cC f (upd c_letters (c_size).toNatClampNeg (vp_nar .char (((p1).toUInt32 % 65536).toInt32))) (c_size + (1 : Int32))) H := hP
  have hD : va_D A (zwT cI cC f (upd c_letters (c_size).toNatClampNeg (vp_nar .char (((p1).toUInt32 % 65536).toInt32))) (c_size + (1 : Int32))) := hD
  refine lv_aload_n hx hb dX1_put_40 rfl (lv_at hl 0 rfl) ?_
  refine va_get (D := (dC, dI)) (ci := 1) (v := .int (c_size + (1 : Int32))) (C := RX1) (T := TX1) (N := 2) hx hb hts hiX1 hown hK hP 0 rfl rfl 1 (by decide) hw1 (fun _ h9 => h9) rfl dX1_put_41 ?_
  subst hQ
  exact retRW (zz := (((c_size + (1 : Int32)), (upd c_letters (c_size).toNatClampNeg (vp_nar .char (((p1).toUInt32 % 65536).toInt32))), (c_size + (1 : Int32))) : Int32 × AR × Int32)) (fun z => z.1) (fun z => (zwT cI cC f z.2.1 z.2.2)) hx hb hr hlocks rfl hS h rfl hP dX1_put_44
theorem dX1_letterAt_0 : decode cX1_letterAt 0 = .ok (.iload_n 1, 1) := by decide +kernel
theorem dX1_letterAt_1 : decode cX1_letterAt 1 = .ok (.ifCond .lt 29, 3) := by decide +kernel
theorem dX1_letterAt_4 : decode cX1_letterAt 4 = .ok (.iload_n 1, 1) := by decide +kernel
theorem dX1_letterAt_5 : decode cX1_letterAt 5 = .ok (.aload_n 0, 1) := by decide +kernel
theorem dX1_letterAt_6 : decode cX1_letterAt 6 = .ok (.getfield 15, 3) := by decide +kernel
theorem dX1_letterAt_9 : decode cX1_letterAt 9 = .ok (.if_icmp .ge 21, 3) := by decide +kernel
theorem dX1_letterAt_12 : decode cX1_letterAt 12 = .ok (.iload_n 1, 1) := by decide +kernel
theorem dX1_letterAt_13 : decode cX1_letterAt 13 = .ok (.aload_n 0, 1) := by decide +kernel
theorem dX1_letterAt_14 : decode cX1_letterAt 14 = .ok (.getfield 9, 3) := by decide +kernel
theorem dX1_letterAt_17 : decode cX1_letterAt 17 = .ok (.arraylength, 1) := by decide +kernel
theorem dX1_letterAt_18 : decode cX1_letterAt 18 = .ok (.if_icmp .ge 12, 3) := by decide +kernel
theorem dX1_letterAt_21 : decode cX1_letterAt 21 = .ok (.aload_n 0, 1) := by decide +kernel
theorem dX1_letterAt_22 : decode cX1_letterAt 22 = .ok (.getfield 9, 3) := by decide +kernel
theorem dX1_letterAt_25 : decode cX1_letterAt 25 = .ok (.iload_n 1, 1) := by decide +kernel
theorem dX1_letterAt_26 : decode cX1_letterAt 26 = .ok (.caload, 1) := by decide +kernel
theorem dX1_letterAt_27 : decode cX1_letterAt 27 = .ok (.goto 4, 3) := by decide +kernel
theorem dX1_letterAt_30 : decode cX1_letterAt 30 = .ok (.iconst (-1), 1) := by decide +kernel
theorem dX1_letterAt_31 : decode cX1_letterAt 31 = .ok (.ireturn, 1) := by decide +kernel
set_option maxHeartbeats 4000000 in
set_option maxRecDepth 100000 in
theorem mX1_letterAt (l : Launch) (dC : Nat → ClassId) (dI : Nat → Nat → Nat) (cI cC : ClassId) (sk : (Nat → Nat) × (Nat → Nat)) (f : Nat → Nat) (p1 : Int32) (c_letters : AR) (c_size : Int32) (z : Int32) (h : fX1_letterAt p1 c_letters c_size = some z) : cRO l yX1_letterAt wsX1_letterAt (RMk 0 0) sk (dC, dI) (tyz cI cC) (zwT cI cC f c_letters c_size) [.ref (f 0), .int p1] z := by
  refine ofRO (cc := cX1_letterAt) (maxL := 2) (ret := (some .int)) (own := RX1) (plainFor_of_name (by decide)) rfl rfl (Nat.le_of_ble_eq_true rfl) ?_
  intro p e s m args below meth c hx hb hml hr hts hown hlocks hE hK hP hS ls hl
  generalize hQ : qRO _ _ _ _ = Q
  have hl : lv_has ls 2 [(0, .ref (f 0)), (1, .int p1)] := hl
  have hiX1 : ∀ w ∈ wsX10, w ∈ wsX1_letterAt := fun w h => List.mem_cons_of_mem _ (List.mem_append_right _ h)
  have hw1 := hts (Cond.fieldLink RX1 15 "FloeToFloe$Telling" "size" "I") (List.mem_of_getElem? (i := 1) rfl)
  have hw2 := hts (Cond.fieldLink RX1 9 "FloeToFloe$Telling" "letters" "[C") (List.mem_of_getElem? (i := 2) rfl)
  rw [fX1_letterAt] at h
  refine lv_iload_n hx hb dX1_letterAt_0 rfl (lv_at hl 1 rfl) ?_
  refine lv_if_lt (tgt := 30) hx hb dX1_letterAt_1 (by decide) (fun c1 => ?_) (fun c1 => ?_)
  · have h := itT c1 h
    refine lv_iconst (v := (-1 : Int32)) hx hb dX1_letterAt_30 (by decide) ?_
    subst hQ
    exact retRO hx hb hr hlocks rfl hS h dX1_letterAt_31
  have h := itF c1 h
  refine lv_iload_n hx hb dX1_letterAt_4 rfl (lv_at hl 1 rfl) ?_
  refine lv_aload_n hx hb dX1_letterAt_5 rfl (lv_at hl 0 rfl) ?_
  refine va_get (D := (dC, dI)) (ci := 1) (v := .int c_size) (C := RX1) (T := TX1) (N := 2) hx hb hts hiX1 hown hK hP 0 rfl rfl 1 (by decide) hw1 (fun _ h9 => h9) rfl dX1_letterAt_6 ?_
  refine lv_icmp_ge (tgt := 30) hx hb dX1_letterAt_9 (by decide) (fun c9 => ?_) (fun c9 => ?_)
  · have h := itT c9 h
    refine lv_iconst (v := (-1 : Int32)) hx hb dX1_letterAt_30 (by decide) ?_
    subst hQ
    exact retRO hx hb hr hlocks rfl hS h dX1_letterAt_31
  have h := itF c9 h
  refine lv_iload_n hx hb dX1_letterAt_12 rfl (lv_at hl 1 rfl) ?_
  refine lv_aload_n hx hb dX1_letterAt_13 rfl (lv_at hl 0 rfl) ?_
  refine va_get (D := (dC, dI)) (ci := 1) (v := .ref (f 1)) (C := RX1) (T := TX1) (N := 2) hx hb hts hiX1 hown hK hP 0 rfl rfl 0 (by decide) hw2 (fun _ h9 => h9) rfl dX1_letterAt_14 ?_
  refine va_alen hx hb hK hP 1 1 rfl rfl (v := (80 : Int32)) rfl dX1_letterAt_17 ?_
  refine lv_icmp_ge (tgt := 30) hx hb dX1_letterAt_18 (by decide) (fun c18 => ?_) (fun c18 => ?_)
  · have h := itT c18 h
    refine lv_iconst (v := (-1 : Int32)) hx hb dX1_letterAt_30 (by decide) ?_
    subst hQ
    exact retRO hx hb hr hlocks rfl hS h dX1_letterAt_31
  have h := itF c18 h
  refine lv_aload_n hx hb dX1_letterAt_21 rfl (lv_at hl 0 rfl) ?_
  refine va_get (D := (dC, dI)) (ci := 1) (v := .ref (f 1)) (C := RX1) (T := TX1) (N := 2) hx hb hts hiX1 hown hK hP 0 rfl rfl 0 (by decide) hw2 (fun _ h9 => h9) rfl dX1_letterAt_22 ?_
  refine lv_iload_n hx hb dX1_letterAt_25 rfl (lv_at hl 1 rfl) ?_
  obtain ⟨hin, h⟩ := ck_some h
  refine va_cald hx hb hK hP 1 1 rfl rfl hin dX1_letterAt_26 ?_
  refine lv_goto (tgt := 31) hx hb dX1_letterAt_27 (by decide) ?_
  subst hQ
  exact retRO hx hb hr hlocks rfl hS h dX1_letterAt_31
theorem dX1_kindOf_0 : decode cX1_kindOf 0 = .ok (.iconst 0, 1) := by decide +kernel
theorem dX1_kindOf_1 : decode cX1_kindOf 1 = .ok (.istore_n 1, 1) := by decide +kernel
theorem dX1_kindOf_2 : decode cX1_kindOf 2 = .ok (.iload_n 1, 1) := by decide +kernel
theorem dX1_kindOf_3 : decode cX1_kindOf 3 = .ok (.ldc 80, 2) := by decide +kernel
theorem dX1_kindOf_5 : decode cX1_kindOf 5 = .ok (.invokevirtual 31, 3) := by decide +kernel
theorem dX1_kindOf_8 : decode cX1_kindOf 8 = .ok (.if_icmp .ge 21, 3) := by decide +kernel
theorem dX1_kindOf_11 : decode cX1_kindOf 11 = .ok (.ldc 80, 2) := by decide +kernel
theorem dX1_kindOf_13 : decode cX1_kindOf 13 = .ok (.iload_n 1, 1) := by decide +kernel
theorem dX1_kindOf_14 : decode cX1_kindOf 14 = .ok (.invokevirtual 36, 3) := by decide +kernel
theorem dX1_kindOf_17 : decode cX1_kindOf 17 = .ok (.iload_n 0, 1) := by decide +kernel
theorem dX1_kindOf_18 : decode cX1_kindOf 18 = .ok (.if_icmp .ne 5, 3) := by decide +kernel
theorem dX1_kindOf_21 : decode cX1_kindOf 21 = .ok (.iload_n 1, 1) := by decide +kernel
theorem dX1_kindOf_22 : decode cX1_kindOf 22 = .ok (.ireturn, 1) := by decide +kernel
theorem dX1_kindOf_23 : decode cX1_kindOf 23 = .ok (.iinc 1 1, 3) := by decide +kernel
theorem dX1_kindOf_26 : decode cX1_kindOf 26 = .ok (.goto (-24), 3) := by decide +kernel
theorem dX1_kindOf_29 : decode cX1_kindOf 29 = .ok (.iconst (-1), 1) := by decide +kernel
theorem dX1_kindOf_30 : decode cX1_kindOf 30 = .ok (.ireturn, 1) := by decide +kernel
set_option maxRecDepth 20000 in
theorem ggX1_kindOf_J0_length_8abf5 : GoodIn wsX1_kindOf wsJ0_length_8abf5 := goodIn_r _ [5, 6, 7, 8, 9, 4, 10, 11, 12] (by decide +kernel) (by decide +kernel)
set_option maxRecDepth 20000 in
theorem gX1_kindOf_J0_length_8abf5 : GoodIn wsX1_kindOf (wsV RX1 31 RJ0 yJ0_length_8abf5 wsJ0_length_8abf5) := goodIn_app (goodIn_of _ (by decide +kernel)) ggX1_kindOf_J0_length_8abf5
set_option maxRecDepth 20000 in
theorem ggX1_kindOf_J0_charAt_5068e : GoodIn wsX1_kindOf wsJ0_charAt_5068e := goodIn_r _ [16, 6, 17, 18, 19, 4, 20, 11, 12, 21, 22, 23, 24, 25, 26, 27, 28, 29, 30, 31, 32, 33, 34, 35, 36, 37, 38, 39, 40, 41, 42, 43, 44, 45, 46, 47, 48, 49] (by decide +kernel) (by decide +kernel)
set_option maxRecDepth 20000 in
theorem gX1_kindOf_J0_charAt_5068e : GoodIn wsX1_kindOf (wsV RX1 36 RJ0 yJ0_charAt_5068e wsJ0_charAt_5068e) := goodIn_app (goodIn_of _ (by decide +kernel)) ggX1_kindOf_J0_charAt_5068e
set_option maxHeartbeats 4000000 in
set_option maxRecDepth 100000 in
theorem mX1_kindOf (l : Launch) (dC : Nat → ClassId) (dI : Nat → Nat → Nat) (cI cC : ClassId) (sk : (Nat → Nat) × (Nat → Nat))  (p0 : Int32)  (z : Int32) (h : fX1_kindOf p0 = some z) : cRO l yX1_kindOf wsX1_kindOf (RMk 4 85) sk (dC, dI) (tyz cI cC) ([] : va_W) [.int p0] z := by
  refine ofRO (cc := cX1_kindOf) (maxL := 2) (ret := (some .int)) (own := RX1) (plainFor_of_name (by decide)) rfl rfl (Nat.le_of_ble_eq_true rfl) ?_
  intro p e s m args below meth c hx hb hml hr hts hown hlocks hE hK hP hS ls hl
  generalize hQ : qRO _ _ _ _ = Q
  have hl : lv_has ls 2 [(0, .int p0)] := hl
  rw [fX1_kindOf] at h
  refine lv_iconst (v := (0 : Int32)) hx hb dX1_kindOf_0 (by decide) ?_
  refine lv_istore_n (lv' := [(1, .int (0 : Int32)), (0, .int p0)]) hx hb dX1_kindOf_1 rfl hl (by decide) rfl (fun ls hl => ?_)
  have L2 : ∀ (K2 : Unit → Option (Int32)), (∀ (_ : Unit), K2 () = some z → ∀ (H : Heap) (locs : List Loc) (ls : Array Slot), va_P (dC, dI) vwCl ([] : va_W) H → va_S noA s.heap H locs → lv_has ls 2 [] → W p l e (RMk 4 85) s m args below meth c H locs 0 0 Q (F0 m 29 ls [])) → ∀ (n : Nat) (x2_1 : Int32), fX1_kindOf_L2 p0 K2 n x2_1 = some z → ∀ (H : Heap) (locs : List Loc) (ls : Array Slot), va_P (dC, dI) vwCl ([] : va_W) H → va_S noA s.heap H locs → lv_has ls 2 [(0, .int p0), (1, .int x2_1)] → W p l e (RMk 4 85) s m args below meth c H locs 0 0 Q (F0 m 2 ls []) := by
    intro K2 kx2 n
    induction n with
    | zero => intro x2_1 h; rw [fX1_kindOf_L2] at h; cases h
    | succ n ih2 =>
      intro x2_1 h H locs ls hP hS hl
      rw [fX1_kindOf_L2] at h
      refine lv_iload_n hx hb dX1_kindOf_2 rfl (lv_at hl 1 rfl) ?_
      refine va_ldcS hx hb hown (hE.2.2.1 5 _ rfl) dX1_kindOf_3 ?_
      obtain ⟨q5, e5, h⟩ := bd_some h
      refine g_roV (wc := ([] : va_W)) ⟨hx, hb, hml, hown, hts⟩ hE hK hP hS [] rfl (mJ0_length_8abf5 l dC dI cI cC sk  5 q5 e5) (cwV 0 hts gX1_kindOf_J0_length_8abf5 rfl rfl rfl (by decide +kernel) ⟨Nat.le_of_ble_eq_true rfl, Nat.le_of_ble_eq_true rfl⟩) (vk_recv hE.2.1 (sLen_lt e5) hS) (As := []) (rest := [.int x2_1]) rfl hl.1 rfl (Nat.le_of_ble_eq_true rfl) dX1_kindOf_5 ⟨Nat.zero_le _, Nat.zero_le _⟩ (fun H locs hP hS => ?_)
      refine lv_icmp_ge (tgt := 29) hx hb dX1_kindOf_8 (by decide) (fun c8 => ?_) (fun c8 => ?_)
      · have h := itT c8 h
        exact kx2 () h _ _ _ hP hS (lv_sub hl [] rfl)
      have h := itF c8 h
      refine va_ldcS hx hb hown (hE.2.2.1 5 _ rfl) dX1_kindOf_11 ?_
      refine lv_iload_n hx hb dX1_kindOf_13 rfl (lv_at hl 1 rfl) ?_
      obtain ⟨q14, e14, h⟩ := bd_some h
      refine g_roV (wc := ([] : va_W)) ⟨hx, hb, hml, hown, hts⟩ hE hK hP hS [] rfl (mJ0_charAt_5068e l dC dI cI cC sk  5 x2_1 q14 e14) (cwV 1 hts gX1_kindOf_J0_charAt_5068e rfl rfl rfl (by decide +kernel) ⟨Nat.le_of_ble_eq_true rfl, Nat.le_of_ble_eq_true rfl⟩) (vk_recv hE.2.1 (sChar_lt e14) hS) (As := [.int x2_1]) (rest := []) rfl hl.1 rfl (Nat.le_of_ble_eq_true rfl) dX1_kindOf_14 ⟨Nat.zero_le _, Nat.zero_le _⟩ (fun H locs hP hS => ?_)
      refine lv_iload_n hx hb dX1_kindOf_17 rfl (lv_at hl 0 rfl) ?_
      refine lv_icmp_ne (tgt := 23) hx hb dX1_kindOf_18 (by decide) (fun c18 => ?_) (fun c18 => ?_)
      · have h := itF c18 h
        refine lv_iinc (v := (x2_1 + (1 : Int32))) (lv' := [(1, .int (x2_1 + (1 : Int32))), (0, .int p0)]) hx hb dX1_kindOf_23 hl (k := 1) rfl rfl (by decide) rfl (fun ls hl => ?_)
        refine lv_goto (tgt := 2) hx hb dX1_kindOf_26 (by decide) ?_
        exact ih2 _ h _ _ _ hP hS (lv_sub hl [1, 0] rfl)
      have h := itT c18 h
      refine lv_iload_n hx hb dX1_kindOf_21 rfl (lv_at hl 1 rfl) ?_
      subst hQ
      exact retRO hx hb hr hlocks rfl hS h dX1_kindOf_22
  refine L2 _ (fun _ h H locs ls hP hS hl => ?_) _ _ h _ _ _ hP hS (lv_sub hl [1, 0] rfl)
  refine lv_iconst (v := (-1 : Int32)) hx hb dX1_kindOf_29 (by decide) ?_
  subst hQ
  exact retRO hx hb hr hlocks rfl hS h dX1_kindOf_30
