theorem dX1_put_0 : decode cX1_put 0 = .ok (.aload_n 0, 1) := by decide +kernel
theorem dX1_put_1 : decode cX1_put 1 = .ok (.getfield 15, 3) := by decide +kernel
theorem dX1_put_4 : decode cX1_put 4 = .ok (.ifCond .lt 36, 3) := by decide +kernel
theorem dX1_put_7 : decode cX1_put 7 = .ok (.aload_n 0, 1) := by decide +kernel
theorem dX1_put_8 : decode cX1_put 8 = .ok (.getfield 15, 3) := by decide +kernel
theorem dX1_put_11 : decode cX1_put 11 = .ok (.aload_n 0, 1) := by decide +kernel
theorem dX1_put_12 : decode cX1_put 12 = .ok (.getfield 9, 3) := by decide +kernel
theorem dX1_put_15 : decode cX1_put 15 = .ok (.arraylength, 1) := by decide +kernel
theorem dX1_put_16 : decode cX1_put 16 = .ok (.if_icmp .ge 24, 3) := by decide +kernel
theorem dX1_put_19 : decode cX1_put 19 = .ok (.aload_n 0, 1) := by decide +kernel
theorem dX1_put_20 : decode cX1_put 20 = .ok (.getfield 9, 3) := by decide +kernel
theorem dX1_put_23 : decode cX1_put 23 = .ok (.aload_n 0, 1) := by decide +kernel
theorem dX1_put_24 : decode cX1_put 24 = .ok (.getfield 15, 3) := by decide +kernel
theorem dX1_put_27 : decode cX1_put 27 = .ok (.iload_n 1, 1) := by decide +kernel
theorem dX1_put_28 : decode cX1_put 28 = .ok (.i2c, 1) := by decide +kernel
theorem dX1_put_29 : decode cX1_put 29 = .ok (.castore, 1) := by decide +kernel
theorem dX1_put_30 : decode cX1_put 30 = .ok (.aload_n 0, 1) := by decide +kernel
theorem dX1_put_31 : decode cX1_put 31 = .ok (.dup, 1) := by decide +kernel
theorem dX1_put_32 : decode cX1_put 32 = .ok (.getfield 15, 3) := by decide +kernel
theorem dX1_put_35 : decode cX1_put 35 = .ok (.iconst 1, 1) := by decide +kernel
theorem dX1_put_36 : decode cX1_put 36 = .ok (.iadd, 1) := by decide +kernel
theorem dX1_put_37 : decode cX1_put 37 = .ok (.putfield 15, 3) := by decide +kernel
theorem dX1_put_40 : decode cX1_put 40 = .ok (.aload_n 0, 1) := by decide +kernel
theorem dX1_put_41 : decode cX1_put 41 = .ok (.getfield 15, 3) := by decide +kernel
theorem dX1_put_44 : decode cX1_put 44 = .ok (.ireturn, 1) := by decide +kernel
set_option maxHeartbeats 4000000 in
set_option maxRecDepth 100000 in
theorem mX1_put (l : Launch) (dC : Nat → ClassId) (dI : Nat → Nat → Nat) (cI cC : ClassId) (sk : (Nat → Nat) × (Nat → Nat)) (f : Nat → Nat) (sz : Nat) (p1 : Int32) (c_letters : AR) (c_size : Int32) (z : Int32 × AR × Int32) (h : fX1_put p1 c_letters c_size = some z) : cRW l yX1_put wsX1_put (RMk 0 0) sk (dC, dI) (tyz cI cC) sz (zwT cI cC f c_letters c_size) (zwT cI cC f z.2.1 z.2.2) [.ref (f 0), .int p1] z.1 := by
  refine ofRW (cc := cX1_put) (maxL := 2) (ret := (some .int)) (own := RX1) (plainFor_of_name (by decide)) rfl rfl (Nat.le_of_ble_eq_true rfl) ?_
  intro p e s m args below meth c A hA hx hb hml hr hts hown hlocks hE hK hP hD hS ls hl
  generalize hQ : qRW _ _ _ _ _ _ _ = Q
  have hl : lv_has ls 2 [(0, .ref (f 0)), (1, .int p1)] := hl
  have hiX1 : ∀ w ∈ wsX10, w ∈ wsX1_put := fun w h => List.mem_cons_of_mem _ (List.mem_append_right _ h)
  have hw1 := hts (Cond.fieldLink RX1 15 "FloeToFloe$Telling" "size" "I") (List.mem_of_getElem? (i := 1) rfl)
  have hw2 := hts (Cond.fieldLink RX1 9 "FloeToFloe$Telling" "letters" "[C") (List.mem_of_getElem? (i := 2) rfl)
  rw [fX1_put] at h
  refine lv_aload_n hx hb dX1_put_0 rfl (lv_at hl 0 rfl) ?_
  refine va_get (D := (dC, dI)) (ci := 1) (v := .int c_size) (C := RX1) (T := TX1) (N := 2) hx hb hts hiX1 hown hK hP 0 rfl rfl 1 (by decide) hw1 (fun _ h9 => h9) rfl dX1_put_1 ?_
  refine lv_if_lt (tgt := 40) hx hb dX1_put_4 (by decide) (fun c4 => ?_) (fun c4 => ?_)
  · have h := itT c4 h
    refine lv_aload_n hx hb dX1_put_40 rfl (lv_at hl 0 rfl) ?_
    refine va_get (D := (dC, dI)) (ci := 1) (v := .int c_size) (C := RX1) (T := TX1) (N := 2) hx hb hts hiX1 hown hK hP 0 rfl rfl 1 (by decide) hw1 (fun _ h9 => h9) rfl dX1_put_41 ?_
    subst hQ
    exact retRW (zz := ((c_size, c_letters, c_size) : Int32 × AR × Int32)) (fun z => z.1) (fun z => (zwT cI cC f z.2.1 z.2.2)) hx hb hr hlocks rfl hS h rfl hP dX1_put_44
  have h := itF c4 h
  refine lv_aload_n hx hb dX1_put_7 rfl (lv_at hl 0 rfl) ?_
  refine va_get (D := (dC, dI)) (ci := 1) (v := .int c_size) (C := RX1) (T := TX1) (N := 2) hx hb hts hiX1 hown hK hP 0 rfl rfl 1 (by decide) hw1 (fun _ h9 => h9) rfl dX1_put_8 ?_
  refine lv_aload_n hx hb dX1_put_11 rfl (lv_at hl 0 rfl) ?_
  refine va_get (D := (dC, dI)) (ci := 1) (v := .ref (f 1)) (C := RX1) (T := TX1) (N := 2) hx hb hts hiX1 hown hK hP 0 rfl rfl 0 (by decide) hw2 (fun _ h9 => h9) rfl dX1_put_12 ?_
  refine va_alen hx hb hK hP 1 1 rfl rfl (v := (80 : Int32)) rfl dX1_put_15 ?_
  refine lv_icmp_ge (tgt := 40) hx hb dX1_put_16 (by decide) (fun c16 => ?_) (fun c16 => ?_)
  · have h := itT c16 h
    refine lv_aload_n hx hb dX1_put_40 rfl (lv_at hl 0 rfl) ?_
    refine va_get (D := (dC, dI)) (ci := 1) (v := .int c_size) (C := RX1) (T := TX1) (N := 2) hx hb hts hiX1 hown hK hP 0 rfl rfl 1 (by decide) hw1 (fun _ h9 => h9) rfl dX1_put_41 ?_
    subst hQ
    exact retRW (zz := ((c_size, c_letters, c_size) : Int32 × AR × Int32)) (fun z => z.1) (fun z => (zwT cI cC f z.2.1 z.2.2)) hx hb hr hlocks rfl hS h rfl hP dX1_put_44
  have h := itF c16 h
  refine lv_aload_n hx hb dX1_put_19 rfl (lv_at hl 0 rfl) ?_
  refine va_get (D := (dC, dI)) (ci := 1) (v := .ref (f 1)) (C := RX1) (T := TX1) (N := 2) hx hb hts hiX1 hown hK hP 0 rfl rfl 0 (by decide) hw2 (fun _ h9 => h9) rfl dX1_put_20 ?_
  refine lv_aload_n hx hb dX1_put_23 rfl (lv_at hl 0 rfl) ?_
  refine va_get (D := (dC, dI)) (ci := 1) (v := .int c_size) (C := RX1) (T := TX1) (N := 2) hx hb hts hiX1 hown hK hP 0 rfl rfl 1 (by decide) hw1 (fun _ h9 => h9) rfl dX1_put_24 ?_
  refine lv_iload_n hx hb dX1_put_27 rfl (lv_at hl 1 rfl) ?_
  refine lv_i2c (v := (((p1).toUInt32 % 65536).toInt32)) hx hb dX1_put_28 rfl ?_
  obtain ⟨hin, h⟩ := ck_some h
  refine va_cast hx hb hK hP hD hS 1 1 rfl rfl hin dX1_put_29 (fun H locs hP hD hS => ?_)
  have hP : va_P (dC, dI) vwCl (zwT cI cC f (upd c_letters (c_size).toNatClampNeg (vp_nar .char (((p1).toUInt32 % 65536).toInt32))) c_size) H := hP
  have hD : va_D A (zwT cI cC f (upd c_letters (c_size).toNatClampNeg (vp_nar .char (((p1).toUInt32 % 65536).toInt32))) c_size) := hD
  refine lv_aload_n hx hb dX1_put_30 rfl (lv_at hl 0 rfl) ?_
  refine lv_dup hx hb dX1_put_31 rfl ?_
  refine va_get (D := (dC, dI)) (ci := 1) (v := .int c_size) (C := RX1) (T := TX1) (N := 2) hx hb hts hiX1 hown hK hP 0 rfl rfl 1 (by decide) hw1 (fun _ h9 => h9) rfl dX1_put_32 ?_
  refine lv_iconst (v := (1 : Int32)) hx hb dX1_put_35 (by decide) ?_
  refine lv_iadd hx hb dX1_put_36 ?_
  refine va_put (D := (dC, dI)) (ci := 1) (v := .int (c_size + (1 : Int32))) (ty := .int) (C := RX1) (T := TX1) (N := 2) hx hb hts hiX1 tyX1 tyX1_ok nmX1 hown hK hP hD hS 0 rfl rfl 1 (by decide) hw1 (fun _ h9 => h9) rfl (by decide +kernel) rfl rfl (Nat.le_of_ble_eq_true rfl) dX1_put_37 (fun H locs hP hD hS => ?_)
  have hP : va_P (dC, dI) vwCl (zwT cI cC f (upd c_letters (c_size).toNatClampNeg (vp_nar .char (((p1).toUInt32 % 65536).toInt32))) (c_size + (1 : Int32))) H := hP
  have hD : va_D A (zwT cI cC f (upd c_letters (c_size).toNatClampNeg (vp_nar .char (((p1).toUInt32 % 65536).toInt32))) (c_size + (1 : Int32))) := hD
  refine lv_aload_n hx hb dX1_put_40 rfl (lv_at hl 0 rfl) ?_
  refine va_get (D := (dC, dI)) (ci := 1) (v := .int (c_size + (1 : Int32))) (C := RX1) (T := TX1) (N := 2) hx hb hts hiX1 hown hK hP 0 rfl rfl 1 (by decide) hw1 (fun _ h9 => h9) rfl dX1_put_41 ?_
  subst hQ
  exact retRW (zz := (((c_size + (1 : Int32)), (upd c_letters (c_size).toNatClampNeg (vp_nar .char (((p1).toUInt32 % 65536).toInt32))), (c_size + (1 : Int32))) : Int32 × AR × Int32)) (fun z => z.1) (fun z => (zwT cI cC f z.2.1 z.2.2)) hx hb hr hlocks rfl hS h rfl hP dX1_put_44
theorem dX1_letterAt_0 : decode cX1_letterAt 0 = .ok (.iload_n 1, 1) := by decide +kernel
theorem dX1_letterAt_1 : decode cX1_letterAt 1 = .ok (.ifCond .lt 29, 3) := by decide +kernel
theorem dX1_letterAt_4 : decode cX1_letterAt 4 = .ok (.iload_n 1, 1) := by decide +kernel
theorem dX1_letterAt_5 : decode cX1_letterAt 5 = .ok (.aload_n 0, 1) := by decide +kernel
theorem dX1_letterAt_6 : decode cX1_letterAt 6 = .ok (.getfield 15, 3) := by decide +kernel
theorem dX1_letterAt_9 : decode cX1_letterAt 9 = .ok (.if_icmp .ge 21, 3) := by decide +kernel
theorem dX1_letterAt_12 : decode cX1_letterAt 12 = .ok (.iload_n 1, 1) := by decide +kernel
theorem dX1_letterAt_13 : decode cX1_letterAt 13 = .ok (.aload_n 0, 1) := by decide +kernel
theorem dX1_letterAt_14 : decode cX1_letterAt 14 = .ok (.getfield 9, 3) := by decide +kernel
theorem dX1_letterAt_17 : decode cX1_letterAt 17 = .ok (.arraylength, 1) := by decide +kernel
theorem dX1_letterAt_18 : decode cX1_letterAt 18 = .ok (.if_icmp .ge 12, 3) := by decide +kernel
theorem dX1_letterAt_21 : decode cX1_letterAt 21 = .ok (.aload_n 0, 1) := by decide +kernel
theorem dX1_letterAt_22 : decode cX1_letterAt 22 = .ok (.getfield 9, 3) := by decide +kernel
theorem dX1_letterAt_25 : decode cX1_letterAt 25 = .ok (.iload_n 1, 1) := by decide +kernel
theorem dX1_letterAt_26 : decode cX1_letterAt 26 = .ok (.caload, 1) := by decide +kernel
theorem dX1_letterAt_27 : decode cX1_letterAt 27 = .ok (.goto 4, 3) := by decide +kernel
theorem dX1_letterAt_30 : decode cX1_letterAt 30 = .ok (.iconst (-1), 1) := by decide +kernel
theorem dX1_letterAt_31 : decode cX1_letterAt 31 = .ok (.ireturn, 1) := by decide +kernel
set_option maxHeartbeats 4000000 in
set_option maxRecDepth 100000 in
theorem mX1_letterAt (l : Launch) (dC : Nat → ClassId) (dI : Nat → Nat → Nat) (cI cC : ClassId) (sk : (Nat → Nat) × (Nat → Nat)) (f : Nat → Nat) (p1 : Int32) (c_letters : AR) (c_size : Int32) (z : Int32) (h : fX1_letterAt p1 c_letters c_size = some z) : cRO l yX1_letterAt wsX1_letterAt (RMk 0 0) sk (dC, dI) (tyz cI cC) (zwT cI cC f c_letters c_size) [.ref (f 0), .int p1] z := by
  refine ofRO (cc := cX1_letterAt) (maxL := 2) (ret := (some .int)) (own := RX1) (plainFor_of_name (by decide)) rfl rfl (Nat.le_of_ble_eq_true rfl) ?_
  intro p e s m args below meth c hx hb hml hr hts hown hlocks hE hK hP hS ls hl
  generalize hQ : qRO _ _ _ _ = Q
  have hl : lv_has ls 2 [(0, .ref (f 0)), (1, .int p1)] := hl
  have hiX1 : ∀ w ∈ wsX10, w ∈ wsX1_letterAt := fun w h => List.mem_cons_of_mem _ (List.mem_append_right _ h)
  have hw1 := hts (Cond.fieldLink RX1 15 "FloeToFloe$Telling" "size" "I") (List.mem_of_getElem? (i := 1) rfl)
  have hw2 := hts (Cond.fieldLink RX1 9 "FloeToFloe$Telling" "letters" "[C") (List.mem_of_getElem? (i := 2) rfl)
  rw [fX1_letterAt] at h
  refine lv_iload_n hx hb dX1_letterAt_0 rfl (lv_at hl 1 rfl) ?_
  refine lv_if_lt (tgt := 30) hx hb dX1_letterAt_1 (by decide) (fun c1 => ?_) (fun c1 => ?_)
  · have h := itT c1 h
    refine lv_iconst (v := (-1 : Int32)) hx hb dX1_letterAt_30 (by decide) ?_
    subst hQ
    exact retRO hx hb hr hlocks rfl hS h dX1_letterAt_31
  have h := itF c1 h
  refine lv_iload_n hx hb dX1_letterAt_4 rfl (lv_at hl 1 rfl) ?_
  refine lv_aload_n hx hb dX1_letterAt_5 rfl (lv_at hl 0 rfl) ?_
  refine va_get (D := (dC, dI)) (ci := 1) (v := .int c_size) (C := RX1) (T := TX1) (N := 2) hx hb hts hiX1 hown hK hP 0 rfl rfl 1 (by decide) hw1 (fun _ h9 => h9) rfl dX1_letterAt_6 ?_
  refine lv_icmp_ge (tgt := 30) hx hb dX1_letterAt_9 (by decide) (fun c9 => ?_) (fun c9 => ?_)
  · have h := itT c9 h
    refine lv_iconst (v := (-1 : Int32)) hx hb dX1_letterAt_30 (by decide) ?_
    subst hQ
    exact retRO hx hb hr hlocks rfl hS h dX1_letterAt_31
  have h := itF c9 h
  refine lv_iload_n hx hb dX1_letterAt_12 rfl (lv_at hl 1 rfl) ?_
  refine lv_aload_n hx hb dX1_letterAt_13 rfl (lv_at hl 0 rfl) ?_
  refine va_get (D := (dC, dI)) (ci := 1) (v := .ref (f 1)) (C := RX1) (T := TX1) (N := 2) hx hb hts hiX1 hown hK hP 0 rfl rfl 0 (by decide) hw2 (fun _ h9 => h9) rfl dX1_letterAt_14 ?_
  refine va_alen hx hb hK hP 1 1 rfl rfl (v := (80 : Int32)) rfl dX1_letterAt_17 ?_
  refine lv_icmp_ge (tgt := 30) hx hb dX1_letterAt_18 (by decide) (fun c18 => ?_) (fun c18 => ?_)
  · have h := itT c18 h
    refine lv_iconst (v := (-1 : Int32)) hx hb dX1_letterAt_30 (by decide) ?_
    subst hQ
    exact retRO hx hb hr hlocks rfl hS h dX1_letterAt_31
  have h := itF c18 h
  refine lv_aload_n hx hb dX1_letterAt_21 rfl (lv_at hl 0 rfl) ?_
  refine va_get (D := (dC, dI)) (ci := 1) (v := .ref (f 1)) (C := RX1) (T := TX1) (N := 2) hx hb hts hiX1 hown hK hP 0 rfl rfl 0 (by decide) hw2 (fun _ h9 => h9) rfl dX1_letterAt_22 ?_
  refine lv_iload_n hx hb dX1_letterAt_25 rfl (lv_at hl 1 rfl) ?_
  obtain ⟨hin, h⟩ := ck_some h
  refine va_cald hx hb hK hP 1 1 rfl rfl hin dX1_letterAt_26 ?_
  refine lv_goto (tgt := 31) hx hb dX1_letterAt_27 (by decide) ?_
  subst hQ
  exact retRO hx hb hr hlocks rfl hS h dX1_letterAt_31
theorem dX1_kindOf_0 : decode cX1_kindOf 0 = .ok (.iconst 0, 1) := by decide +kernel
theorem dX1_kindOf_1 : decode cX1_kindOf 1 = .ok (.istore_n 1, 1) := by decide +kernel
theorem dX1_kindOf_2 : decode cX1_kindOf 2 = .ok (.iload_n 1, 1) := by decide +kernel
theorem dX1_kindOf_3 : decode cX1_kindOf 3 = .ok (.ldc 80, 2) := by decide +kernel
theorem dX1_kindOf_5 : decode cX1_kindOf 5 = .ok (.invokevirtual 31, 3) := by decide +kernel
theorem dX1_kindOf_8 : decode cX1_kindOf 8 = .ok (.if_icmp .ge 21, 3) := by decide +kernel
theorem dX1_kindOf_11 : decode cX1_kindOf 11 = .ok (.ldc 80, 2) := by decide +kernel
theorem dX1_kindOf_13 : decode cX1_kindOf 13 = .ok (.iload_n 1, 1) := by decide +kernel
theorem dX1_kindOf_14 : decode cX1_kindOf 14 = .ok (.invokevirtual 36, 3) := by decide +kernel
theorem dX1_kindOf_17 : decode cX1_kindOf 17 = .ok (.iload_n 0, 1) := by decide +kernel
theorem dX1_kindOf_18 : decode cX1_kindOf 18 = .ok (.if_icmp .ne 5, 3) := by decide +kernel
theorem dX1_kindOf_21 : decode cX1_kindOf 21 = .ok (.iload_n 1, 1) := by decide +kernel
theorem dX1_kindOf_22 : decode cX1_kindOf 22 = .ok (.ireturn, 1) := by decide +kernel
theorem dX1_kindOf_23 : decode cX1_kindOf 23 = .ok (.iinc 1 1, 3) := by decide +kernel
theorem dX1_kindOf_26 : decode cX1_kindOf 26 = .ok (.goto (-24), 3) := by decide +kernel
theorem dX1_kindOf_29 : decode cX1_kindOf 29 = .ok (.iconst (-1), 1) := by decide +kernel
theorem dX1_kindOf_30 : decode cX1_kindOf 30 = .ok (.ireturn, 1) := by decide +kernel
set_option maxRecDepth 20000 in
theorem ggX1_kindOf_J0_length_8abf5 : GoodIn wsX1_kindOf wsJ0_length_8abf5 := goodIn_r _ [5, 6, 7, 8, 9, 4, 10, 11, 12] (by decide +kernel) (by decide +kernel)
set_option maxRecDepth 20000 in
theorem gX1_kindOf_J0_length_8abf5 : GoodIn wsX1_kindOf (wsV RX1 31 RJ0 yJ0_length_8abf5 wsJ0_length_8abf5) := goodIn_app (goodIn_of _ (by decide +kernel)) ggX1_kindOf_J0_length_8abf5
set_option maxRecDepth 20000 in
theorem ggX1_kindOf_J0_charAt_5068e : GoodIn wsX1_kindOf wsJ0_charAt_5068e := goodIn_r _ [16, 6, 17, 18, 19, 4, 20, 11, 12, 21, 22, 23, 24, 25, 26, 27, 28, 29, 30, 31, 32, 33, 34, 35, 36, 37, 38, 39, 40, 41, 42, 43, 44, 45, 46, 47, 48, 49] (by decide +kernel) (by decide +kernel)
set_option maxRecDepth 20000 in
theorem gX1_kindOf_J0_charAt_5068e : GoodIn wsX1_kindOf (wsV RX1 36 RJ0 yJ0_charAt_5068e wsJ0_charAt_5068e) := goodIn_app (goodIn_of _ (by decide +kernel)) ggX1_kindOf_J0_charAt_5068e
set_option maxHeartbeats 4000000 in
set_option maxRecDepth 100000 in
theorem mX1_kindOf (l : Launch) (dC : Nat → ClassId) (dI : Nat → Nat → Nat) (cI cC : ClassId) (sk : (Nat → Nat) × (Nat → Nat))  (p0 : Int32)  (z : Int32) (h : fX1_kindOf p0 = some z) : cRO l yX1_kindOf wsX1_kindOf (RMk 4 85) sk (dC, dI) (tyz cI cC) ([] : va_W) [.int p0] z := by
  refine ofRO (cc := cX1_kindOf) (maxL := 2) (ret := (some .int)) (own := RX1) (plainFor_of_name (by decide)) rfl rfl (Nat.le_of_ble_eq_true rfl) ?_
  intro p e s m args below meth c hx hb hml hr hts hown hlocks hE hK hP hS ls hl
  generalize hQ : qRO _ _ _ _ = Q
  have hl : lv_has ls 2 [(0, .int p0)] := hl
  rw [fX1_kindOf] at h
  refine lv_iconst (v := (0 : Int32)) hx hb dX1_kindOf_0 (by decide) ?_
  refine lv_istore_n (lv' := [(1, .int (0 : Int32)), (0, .int p0)]) hx hb dX1_kindOf_1 rfl hl (by decide) rfl (fun ls hl => ?_)
  have L2 : ∀ (K2 : Unit → Option (Int32)), (∀ (_ : Unit), K2 () = some z → ∀ (H : Heap) (locs : List Loc) (ls : Array Slot), va_P (dC, dI) vwCl ([] : va_W) H → va_S noA s.heap H locs → lv_has ls 2 [] → W p l e (RMk 4 85) s m args below meth c H locs 0 0 Q (F0 m 29 ls [])) → ∀ (n : Nat) (x2_1 : Int32), fX1_kindOf_L2 p0 K2 n x2_1 = some z → ∀ (H : Heap) (locs : List Loc) (ls : Array Slot), va_P (dC, dI) vwCl ([] : va_W) H → va_S noA s.heap H locs → lv_has ls 2 [(0, .int p0), (1, .int x2_1)] → W p l e (RMk 4 85) s m args below meth c H locs 0 0 Q (F0 m 2 ls []) := by
    intro K2 kx2 n
    induction n with
    | zero => intro x2_1 h; rw [fX1_kindOf_L2] at h; cases h
    | succ n ih2 =>
      intro x2_1 h H locs ls hP hS hl
      rw [fX1_kindOf_L2] at h
      refine lv_iload_n hx hb dX1_kindOf_2 rfl (lv_at hl 1 rfl) ?_
      refine va_ldcS hx hb hown (hE.2.2.1 5 _ rfl) dX1_kindOf_3 ?_
      obtain ⟨q5, e5, h⟩ := bd_some h
      refine g_roV (wc := ([] : va_W)) ⟨hx, hb, hml, hown, hts⟩ hE hK hP hS [] rfl (mJ0_length_8abf5 l dC dI cI cC sk  5 q5 e5) (cwV 0 hts gX1_kindOf_J0_length_8abf5 rfl rfl rfl (by decide +kernel) ⟨Nat.le_of_ble_eq_true rfl, Nat.le_of_ble_eq_true rfl⟩) (vk_recv hE.2.1 (sLen_lt e5) hS) (As := []) (rest := [.int x2_1]) rfl hl.1 rfl (Nat.le_of_ble_eq_true rfl) dX1_kindOf_5 ⟨Nat.zero_le _, Nat.zero_le _⟩ (fun H locs hP hS => ?_)
      refine lv_icmp_ge (tgt := 29) hx hb dX1_kindOf_8 (by decide) (fun c8 => ?_) (fun c8 => ?_)
      · have h := itT c8 h
        exact kx2 () h _ _ _ hP hS (lv_sub hl [] rfl)
      have h := itF c8 h
      refine va_ldcS hx hb hown (hE.2.2.1 5 _ rfl) dX1_kindOf_11 ?_
      refine lv_iload_n hx hb dX1_kindOf_13 rfl (lv_at hl 1 rfl) ?_
      obtain ⟨q14, e14, h⟩ := bd_some h
      refine g_roV (wc := ([] : va_W)) ⟨hx, hb, hml, hown, hts⟩ hE hK hP hS [] rfl (mJ0_charAt_5068e l dC dI cI cC sk  5 x2_1 q14 e14) (cwV 1 hts gX1_kindOf_J0_charAt_5068e rfl rfl rfl (by decide +kernel) ⟨Nat.le_of_ble_eq_true rfl, Nat.le_of_ble_eq_true rfl⟩) (vk_recv hE.2.1 (sChar_lt e14) hS) (As := [.int x2_1]) (rest := []) rfl hl.1 rfl (Nat.le_of_ble_eq_true rfl) dX1_kindOf_14 ⟨Nat.zero_le _, Nat.zero_le _⟩ (fun H locs hP hS => ?_)
      refine lv_iload_n hx hb dX1_kindOf_17 rfl (lv_at hl 0 rfl) ?_
      refine lv_icmp_ne (tgt := 23) hx hb dX1_kindOf_18 (by decide) (fun c18 => ?_) (fun c18 => ?_)
      · have h := itF c18 h
        refine lv_iinc (v := (x2_1 + (1 : Int32))) (lv' := [(1, .int (x2_1 + (1 : Int32))), (0, .int p0)]) hx hb dX1_kindOf_23 hl (k := 1) rfl rfl (by decide) rfl (fun ls hl => ?_)
        refine lv_goto (tgt := 2) hx hb dX1_kindOf_26 (by decide) ?_
        exact ih2 _ h _ _ _ hP hS (lv_sub hl [1, 0] rfl)
      have h := itT c18 h
      refine lv_iload_n hx hb dX1_kindOf_21 rfl (lv_at hl 1 rfl) ?_
      subst hQ
      exact retRO hx hb hr hlocks rfl hS h dX1_kindOf_22
  refine L2 _ (fun _ h H locs ls hP hS hl => ?_) _ _ h _ _ _ hP hS (lv_sub hl [1, 0] rfl)
  refine lv_iconst (v := (-1 : Int32)) hx hb dX1_kindOf_29 (by decide) ?_
  subst hQ
  exact retRO hx hb hr hlocks rfl hS h dX1_kindOf_30
theorem dX1_isOf_0 : decode cX1_isOf 0 = .ok (.iload_n 0, 1) := by decide +kernel
theorem dX1_isOf_1 : decode cX1_isOf 1 = .ok (.lookupswitch 94 #[(63, 92), (100, 43), (107, 61), (115, 74)], 43) := by decide +kernel
theorem dX1_isOf_44 : decode cX1_isOf 44 = .ok (.iload_n 1, 1) := by decide +kernel
theorem dX1_isOf_45 : decode cX1_isOf 45 = .ok (.bipush 48, 2) := by decide +kernel
theorem dX1_isOf_47 : decode cX1_isOf 47 = .ok (.if_icmp .lt 13, 3) := by decide +kernel
theorem dX1_isOf_50 : decode cX1_isOf 50 = .ok (.iload_n 1, 1) := by decide +kernel
theorem dX1_isOf_51 : decode cX1_isOf 51 = .ok (.bipush 57, 2) := by decide +kernel
theorem dX1_isOf_53 : decode cX1_isOf 53 = .ok (.if_icmp .gt 7, 3) := by decide +kernel
theorem dX1_isOf_56 : decode cX1_isOf 56 = .ok (.iconst 1, 1) := by decide +kernel
theorem dX1_isOf_57 : decode cX1_isOf 57 = .ok (.goto 4, 3) := by decide +kernel
theorem dX1_isOf_60 : decode cX1_isOf 60 = .ok (.iconst 0, 1) := by decide +kernel
theorem dX1_isOf_61 : decode cX1_isOf 61 = .ok (.ireturn, 1) := by decide +kernel
theorem dX1_isOf_62 : decode cX1_isOf 62 = .ok (.iload_n 1, 1) := by decide +kernel
theorem dX1_isOf_63 : decode cX1_isOf 63 = .ok (.invokestatic 63, 3) := by decide +kernel
theorem dX1_isOf_66 : decode cX1_isOf 66 = .ok (.ifCond .lt 7, 3) := by decide +kernel
theorem dX1_isOf_69 : decode cX1_isOf 69 = .ok (.iconst 1, 1) := by decide +kernel
theorem dX1_isOf_70 : decode cX1_isOf 70 = .ok (.goto 4, 3) := by decide +kernel
theorem dX1_isOf_73 : decode cX1_isOf 73 = .ok (.iconst 0, 1) := by decide +kernel
theorem dX1_isOf_74 : decode cX1_isOf 74 = .ok (.ireturn, 1) := by decide +kernel
theorem dX1_isOf_75 : decode cX1_isOf 75 = .ok (.iload_n 1, 1) := by decide +kernel
theorem dX1_isOf_76 : decode cX1_isOf 76 = .ok (.bipush 108, 2) := by decide +kernel
theorem dX1_isOf_78 : decode cX1_isOf 78 = .ok (.if_icmp .eq 9, 3) := by decide +kernel
theorem dX1_isOf_81 : decode cX1_isOf 81 = .ok (.iload_n 1, 1) := by decide +kernel
theorem dX1_isOf_82 : decode cX1_isOf 82 = .ok (.bipush 114, 2) := by decide +kernel
theorem dX1_isOf_84 : decode cX1_isOf 84 = .ok (.if_icmp .ne 7, 3) := by decide +kernel
theorem dX1_isOf_87 : decode cX1_isOf 87 = .ok (.iconst 1, 1) := by decide +kernel
theorem dX1_isOf_88 : decode cX1_isOf 88 = .ok (.goto 4, 3) := by decide +kernel
theorem dX1_isOf_91 : decode cX1_isOf 91 = .ok (.iconst 0, 1) := by decide +kernel
theorem dX1_isOf_92 : decode cX1_isOf 92 = .ok (.ireturn, 1) := by decide +kernel
theorem dX1_isOf_93 : decode cX1_isOf 93 = .ok (.iconst 0, 1) := by decide +kernel
theorem dX1_isOf_94 : decode cX1_isOf 94 = .ok (.ireturn, 1) := by decide +kernel
theorem dX1_isOf_95 : decode cX1_isOf 95 = .ok (.iload_n 1, 1) := by decide +kernel
theorem dX1_isOf_96 : decode cX1_isOf 96 = .ok (.iload_n 0, 1) := by decide +kernel
theorem dX1_isOf_97 : decode cX1_isOf 97 = .ok (.if_icmp .ne 7, 3) := by decide +kernel
theorem dX1_isOf_100 : decode cX1_isOf 100 = .ok (.iconst 1, 1) := by decide +kernel
theorem dX1_isOf_101 : decode cX1_isOf 101 = .ok (.goto 4, 3) := by decide +kernel
theorem dX1_isOf_104 : decode cX1_isOf 104 = .ok (.iconst 0, 1) := by decide +kernel
theorem dX1_isOf_105 : decode cX1_isOf 105 = .ok (.ireturn, 1) := by decide +kernel
set_option maxRecDepth 20000 in
theorem ggX1_isOf_X1_kindOf : GoodIn wsX1_isOf wsX1_kindOf := goodIn_r _ [4, 5, 6, 7, 8, 9, 10, 11, 12, 13, 14, 15, 16, 17, 18, 19, 20, 21, 22, 23, 24, 25, 26, 27, 28, 29, 30, 31, 32, 33, 34, 35, 36, 37, 38, 39, 40, 41, 42, 43, 44, 45, 46, 47, 48, 49, 50, 51, 52, 53] (by decide +kernel) (by decide +kernel)
set_option maxRecDepth 20000 in
theorem gX1_isOf_X1_kindOf : GoodIn wsX1_isOf (va_wsS RX1 63 yX1_kindOf wsX1_kindOf) := goodIn_app (goodIn_of _ (by decide +kernel)) ggX1_isOf_X1_kindOf
set_option maxHeartbeats 4000000 in
set_option maxRecDepth 100000 in
theorem mX1_isOf (l : Launch) (dC : Nat → ClassId) (dI : Nat → Nat → Nat) (cI cC : ClassId) (sk : (Nat → Nat) × (Nat → Nat))  (p0 : Int32) (p1 : Int32)  (z : Int32) (h : fX1_isOf p0 p1 = some z) : cRO l yX1_isOf wsX1_isOf (RMk 5 106) sk (dC, dI) (tyz cI cC) ([] : va_W) [.int p0, .int p1] z := by
  refine ofRO (cc := cX1_isOf) (maxL := 2) (ret := (some .boolean)) (own := RX1) (plainFor_of_name (by decide)) rfl rfl (Nat.le_of_ble_eq_true rfl) ?_
  intro p e s m args below meth c hx hb hml hr hts hown hlocks hE hK hP hS ls hl
  generalize hQ : qRO _ _ _ _ = Q
  have hl : lv_has ls 2 [(0, .int p0), (1, .int p1)] := hl
  rw [fX1_isOf] at h
  refine lv_iload_n hx hb dX1_isOf_0 rfl (lv_at hl 0 rfl) ?_
  by_cases n63 : p0 = (63 : Int32)
  · have h := itT n63 h
    refine lv_lookup (off := 92) (tgt := 93) hx hb dX1_isOf_1 (by decide) (by rw [n63]; decide) (by decide) ?_
    refine lv_iconst (v := (0 : Int32)) hx hb dX1_isOf_93 (by decide) ?_
    subst hQ
    exact retRO hx hb hr hlocks rfl hS h dX1_isOf_94
  have h := itF n63 h
  by_cases n100 : p0 = (100 : Int32)
  · have h := itT n100 h
    refine lv_lookup (off := 43) (tgt := 44) hx hb dX1_isOf_1 (by decide) (by rw [n100]; decide) (by decide) ?_
    refine lv_iload_n hx hb dX1_isOf_44 rfl (lv_at hl 1 rfl) ?_
    refine lv_bipush (v := (48 : Int32)) hx hb dX1_isOf_45 (by decide) ?_
    refine lv_icmp_lt (tgt := 60) hx hb dX1_isOf_47 (by decide) (fun c47 => ?_) (fun c47 => ?_)
    · have h := itT c47 h
      refine lv_iconst (v := (0 : Int32)) hx hb dX1_isOf_60 (by decide) ?_
      subst hQ
      exact retRO hx hb hr hlocks rfl hS h dX1_isOf_61
    have h := itF c47 h
    refine lv_iload_n hx hb dX1_isOf_50 rfl (lv_at hl 1 rfl) ?_
    refine lv_bipush (v := (57 : Int32)) hx hb dX1_isOf_51 (by decide) ?_
    refine lv_icmp_gt (tgt := 60) hx hb dX1_isOf_53 (by decide) (fun c53 => ?_) (fun c53 => ?_)
    · have h := itT c53 h
      refine lv_iconst (v := (0 : Int32)) hx hb dX1_isOf_60 (by decide) ?_
      subst hQ
      exact retRO hx hb hr hlocks rfl hS h dX1_isOf_61
    have h := itF c53 h
    refine lv_iconst (v := (1 : Int32)) hx hb dX1_isOf_56 (by decide) ?_
    refine lv_goto (tgt := 61) hx hb dX1_isOf_57 (by decide) ?_
    subst hQ
    exact retRO hx hb hr hlocks rfl hS h dX1_isOf_61
  have h := itF n100 h
  by_cases n107 : p0 = (107 : Int32)
  · have h := itT n107 h
    refine lv_lookup (off := 61) (tgt := 62) hx hb dX1_isOf_1 (by decide) (by rw [n107]; decide) (by decide) ?_
    refine lv_iload_n hx hb dX1_isOf_62 rfl (lv_at hl 1 rfl) ?_
    obtain ⟨q63, e63, h⟩ := bd_some h
    refine g_roS (wc := ([] : va_W)) ⟨hx, hb, hml, hown, hts⟩ hE hK hP hS [] rfl (mX1_kindOf l dC dI cI cC sk  p1 q63 e63) (va_cwS 1 hts gX1_isOf_X1_kindOf rfl rfl rfl (by decide +kernel) ⟨Nat.le_of_ble_eq_true rfl, Nat.le_of_ble_eq_true rfl⟩) (As := [.int p1]) (rest := []) rfl hl.1 rfl (Nat.le_of_ble_eq_true rfl) dX1_isOf_63 ⟨Nat.zero_le _, Nat.zero_le _⟩ (fun H locs hP hS => ?_)
    refine lv_if_lt (tgt := 73) hx hb dX1_isOf_66 (by decide) (fun c66 => ?_) (fun c66 => ?_)
    · have h := itT c66 h
      refine lv_iconst (v := (0 : Int32)) hx hb dX1_isOf_73 (by decide) ?_
      subst hQ
      exact retRO hx hb hr hlocks rfl hS h dX1_isOf_74
    have h := itF c66 h
    refine lv_iconst (v := (1 : Int32)) hx hb dX1_isOf_69 (by decide) ?_
    refine lv_goto (tgt := 74) hx hb dX1_isOf_70 (by decide) ?_
    subst hQ
    exact retRO hx hb hr hlocks rfl hS h dX1_isOf_74
  have h := itF n107 h
  by_cases n115 : p0 = (115 : Int32)
  · have h := itT n115 h
    refine lv_lookup (off := 74) (tgt := 75) hx hb dX1_isOf_1 (by decide) (by rw [n115]; decide) (by decide) ?_
    refine lv_iload_n hx hb dX1_isOf_75 rfl (lv_at hl 1 rfl) ?_
    refine lv_bipush (v := (108 : Int32)) hx hb dX1_isOf_76 (by decide) ?_
    refine lv_icmp_eq (tgt := 87) hx hb dX1_isOf_78 (by decide) (fun c78 => ?_) (fun c78 => ?_)
    · have h := itT c78 h
      refine lv_iconst (v := (1 : Int32)) hx hb dX1_isOf_87 (by decide) ?_
      refine lv_goto (tgt := 92) hx hb dX1_isOf_88 (by decide) ?_
      subst hQ
      exact retRO hx hb hr hlocks rfl hS h dX1_isOf_92
    have h := itF c78 h
    refine lv_iload_n hx hb dX1_isOf_81 rfl (lv_at hl 1 rfl) ?_
    refine lv_bipush (v := (114 : Int32)) hx hb dX1_isOf_82 (by decide) ?_
    refine lv_icmp_ne (tgt := 91) hx hb dX1_isOf_84 (by decide) (fun c84 => ?_) (fun c84 => ?_)
    · have h := itF c84 h
      refine lv_iconst (v := (0 : Int32)) hx hb dX1_isOf_91 (by decide) ?_
      subst hQ
      exact retRO hx hb hr hlocks rfl hS h dX1_isOf_92
    have h := itT c84 h
    refine lv_iconst (v := (1 : Int32)) hx hb dX1_isOf_87 (by decide) ?_
    refine lv_goto (tgt := 92) hx hb dX1_isOf_88 (by decide) ?_
    subst hQ
    exact retRO hx hb hr hlocks rfl hS h dX1_isOf_92
  have h := itF n115 h
  have m63 := neI n63 (i := 63) rfl
  have m100 := neI n100 (i := 100) rfl
  have m107 := neI n107 (i := 107) rfl
  have m115 := neI n115 (i := 115) rfl
  refine lv_lookup (off := 94) (tgt := 95) hx hb dX1_isOf_1 (by decide) (by simp [Op.lookupswitch.offset, m63, Ne.symm m63, m100, Ne.symm m100, m107, Ne.symm m107, m115, Ne.symm m115]) (by decide) ?_
  refine lv_iload_n hx hb dX1_isOf_95 rfl (lv_at hl 1 rfl) ?_
  refine lv_iload_n hx hb dX1_isOf_96 rfl (lv_at hl 0 rfl) ?_
  refine lv_icmp_ne (tgt := 104) hx hb dX1_isOf_97 (by decide) (fun c97 => ?_) (fun c97 => ?_)
  · have h := itF c97 h
    refine lv_iconst (v := (0 : Int32)) hx hb dX1_isOf_104 (by decide) ?_
    subst hQ
    exact retRO hx hb hr hlocks rfl hS h dX1_isOf_105
  have h := itT c97 h
  refine lv_iconst (v := (1 : Int32)) hx hb dX1_isOf_100 (by decide) ?_
  refine lv_goto (tgt := 105) hx hb dX1_isOf_101 (by decide) ?_
  subst hQ
  exact retRO hx hb hr hlocks rfl hS h dX1_isOf_105
theorem dX1_formAt_0 : decode cX1_formAt 0 = .ok (.aload_n 0, 1) := by decide +kernel
theorem dX1_formAt_1 : decode cX1_formAt 1 = .ok (.iload_n 1, 1) := by decide +kernel
theorem dX1_formAt_2 : decode cX1_formAt 2 = .ok (.invokevirtual 40, 3) := by decide +kernel
theorem dX1_formAt_5 : decode cX1_formAt 5 = .ok (.lookupswitch 64 #[(102, 38), (109, 41), (114, 35)], 35) := by decide +kernel
theorem dX1_formAt_40 : decode cX1_formAt 40 = .ok (.ldc 70, 2) := by decide +kernel
theorem dX1_formAt_42 : decode cX1_formAt 42 = .ok (.areturn, 1) := by decide +kernel
theorem dX1_formAt_43 : decode cX1_formAt 43 = .ok (.ldc 72, 2) := by decide +kernel
theorem dX1_formAt_45 : decode cX1_formAt 45 = .ok (.areturn, 1) := by decide +kernel
theorem dX1_formAt_46 : decode cX1_formAt 46 = .ok (.bipush 100, 2) := by decide +kernel
theorem dX1_formAt_48 : decode cX1_formAt 48 = .ok (.aload_n 0, 1) := by decide +kernel
theorem dX1_formAt_49 : decode cX1_formAt 49 = .ok (.iload_n 1, 1) := by decide +kernel
theorem dX1_formAt_50 : decode cX1_formAt 50 = .ok (.iconst 2, 1) := by decide +kernel
theorem dX1_formAt_51 : decode cX1_formAt 51 = .ok (.iadd, 1) := by decide +kernel
theorem dX1_formAt_52 : decode cX1_formAt 52 = .ok (.invokevirtual 40, 3) := by decide +kernel
theorem dX1_formAt_55 : decode cX1_formAt 55 = .ok (.invokestatic 44, 3) := by decide +kernel
theorem dX1_formAt_58 : decode cX1_formAt 58 = .ok (.ifCond .eq 8, 3) := by decide +kernel
theorem dX1_formAt_61 : decode cX1_formAt 61 = .ok (.ldc 74, 2) := by decide +kernel
theorem dX1_formAt_63 : decode cX1_formAt 63 = .ok (.goto 5, 3) := by decide +kernel
theorem dX1_formAt_66 : decode cX1_formAt 66 = .ok (.ldc 76, 2) := by decide +kernel
theorem dX1_formAt_68 : decode cX1_formAt 68 = .ok (.areturn, 1) := by decide +kernel
theorem dX1_formAt_69 : decode cX1_formAt 69 = .ok (.ldc 78, 2) := by decide +kernel
theorem dX1_formAt_71 : decode cX1_formAt 71 = .ok (.areturn, 1) := by decide +kernel
set_option maxRecDepth 20000 in
theorem ggX1_formAt_X1_letterAt : GoodIn wsX1_formAt wsX1_letterAt := goodIn_r _ [5, 6, 7, 63, 64] (by decide +kernel) (by decide +kernel)
set_option maxRecDepth 20000 in
theorem gX1_formAt_X1_letterAt : GoodIn wsX1_formAt (wsV RX1 40 RX1 yX1_letterAt wsX1_letterAt) := goodIn_app (goodIn_of _ (by decide +kernel)) ggX1_formAt_X1_letterAt
set_option maxRecDepth 20000 in
theorem ggX1_formAt_X1_isOf : GoodIn wsX1_formAt wsX1_isOf := goodIn_r _ [10, 11, 12, 4, 13, 14, 15, 16, 17, 18, 19, 20, 21, 22, 23, 24, 25, 26, 27, 28, 29, 30, 31, 32, 33, 34, 35, 36, 37, 38, 39, 40, 41, 42, 43, 44, 45, 46, 47, 48, 49, 50, 51, 52, 53, 54, 55, 56, 57, 58, 59, 60, 61, 62] (by decide +kernel) (by decide +kernel)
set_option maxRecDepth 20000 in
theorem gX1_formAt_X1_isOf : GoodIn wsX1_formAt (va_wsS RX1 44 yX1_isOf wsX1_isOf) := goodIn_app (goodIn_of _ (by decide +kernel)) ggX1_formAt_X1_isOf
set_option maxHeartbeats 4000000 in
set_option maxRecDepth 100000 in
theorem mX1_formAt (l : Launch) (dC : Nat → ClassId) (dI : Nat → Nat → Nat) (cI cC : ClassId) (sk : (Nat → Nat) × (Nat → Nat)) (f : Nat → Nat) (p1 : Int32) (c_letters : AR) (c_size : Int32) (z : Nat) (h : fX1_formAt p1 c_letters c_size = some z) : cRS l yX1_formAt wsX1_formAt (RMk 6 127) sk (dC, dI) (tyz cI cC) (zwT cI cC f c_letters c_size) [.ref (f 0), .int p1] z := by
  refine ofRS (cc := cX1_formAt) (maxL := 2) (ret := (some (.object "java/lang/String"))) (own := RX1) (plainFor_of_name (by decide)) rfl rfl (Nat.le_of_ble_eq_true rfl) ?_
  intro p e s m args below meth c hx hb hml hr hts hown hlocks hE hK hP hS ls hl
  generalize hQ : qRS _ _ _ _ = Q
  have hl : lv_has ls 2 [(0, .ref (f 0)), (1, .int p1)] := hl
  rw [fX1_formAt] at h
  refine lv_aload_n hx hb dX1_formAt_0 rfl (lv_at hl 0 rfl) ?_
  refine lv_iload_n hx hb dX1_formAt_1 rfl (lv_at hl 1 rfl) ?_
  obtain ⟨q2, e2, h⟩ := bd_some h
  refine g_roV (wc := (zwT cI cC f c_letters c_size)) ⟨hx, hb, hml, hown, hts⟩ hE hK hP hS [0, 1] rfl (mX1_letterAt l dC dI cI cC sk f p1 c_letters c_size q2 e2) (cwV 1 hts gX1_formAt_X1_letterAt rfl rfl rfl (by decide +kernel) ⟨Nat.le_of_ble_eq_true rfl, Nat.le_of_ble_eq_true rfl⟩) (va_recv hK hP (ci := 1) (q0 := 0) rfl rfl) (As := [.int p1]) (rest := []) rfl hl.1 rfl (Nat.le_of_ble_eq_true rfl) dX1_formAt_2 ⟨Nat.zero_le _, Nat.zero_le _⟩ (fun H locs hP hS => ?_)
  by_cases n102 : q2 = (102 : Int32)
  · have h := itT n102 h
    refine lv_lookup (off := 38) (tgt := 43) hx hb dX1_formAt_5 (by decide) (by rw [n102]; decide) (by decide) ?_
    refine va_ldcS hx hb hown (hE.2.2.1 1 _ rfl) dX1_formAt_43 ?_
    subst hQ
    exact retRS (Or.inl ⟨_, rfl⟩) hx hb hr hlocks hS h dX1_formAt_45
  have h := itF n102 h
  by_cases n109 : q2 = (109 : Int32)
  · have h := itT n109 h
    refine lv_lookup (off := 41) (tgt := 46) hx hb dX1_formAt_5 (by decide) (by rw [n109]; decide) (by decide) ?_
    refine lv_bipush (v := (100 : Int32)) hx hb dX1_formAt_46 (by decide) ?_
    refine lv_aload_n hx hb dX1_formAt_48 rfl (lv_at hl 0 rfl) ?_
    refine lv_iload_n hx hb dX1_formAt_49 rfl (lv_at hl 1 rfl) ?_
    refine lv_iconst (v := (2 : Int32)) hx hb dX1_formAt_50 (by decide) ?_
    refine lv_iadd hx hb dX1_formAt_51 ?_
    obtain ⟨q52, e52, h⟩ := bd_some h
    refine g_roV (wc := (zwT cI cC f c_letters c_size)) ⟨hx, hb, hml, hown, hts⟩ hE hK hP hS [0, 1] rfl (mX1_letterAt l dC dI cI cC sk f (p1 + (2 : Int32)) c_letters c_size q52 e52) (cwV 1 hts gX1_formAt_X1_letterAt rfl rfl rfl (by decide +kernel) ⟨Nat.le_of_ble_eq_true rfl, Nat.le_of_ble_eq_true rfl⟩) (va_recv hK hP (ci := 1) (q0 := 0) rfl rfl) (As := [.int (p1 + (2 : Int32))]) (rest := [.int (100 : Int32)]) rfl hl.1 rfl (Nat.le_of_ble_eq_true rfl) dX1_formAt_52 ⟨Nat.zero_le _, Nat.zero_le _⟩ (fun H locs hP hS => ?_)
    obtain ⟨q55, e55, h⟩ := bd_some h
    refine g_roS (wc := ([] : va_W)) ⟨hx, hb, hml, hown, hts⟩ hE hK hP hS [] rfl (mX1_isOf l dC dI cI cC sk  (100 : Int32) q52 q55 e55) (va_cwS 2 hts gX1_formAt_X1_isOf rfl rfl rfl (by decide +kernel) ⟨Nat.le_of_ble_eq_true rfl, Nat.le_of_ble_eq_true rfl⟩) (As := [.int (100 : Int32), .int q52]) (rest := []) rfl hl.1 rfl (Nat.le_of_ble_eq_true rfl) dX1_formAt_55 ⟨Nat.zero_le _, Nat.zero_le _⟩ (fun H locs hP hS => ?_)
    refine lv_if_eq (tgt := 66) hx hb dX1_formAt_58 (by decide) (fun c58 => ?_) (fun c58 => ?_)
    · have h := itT c58 h
      refine va_ldcS hx hb hown (hE.2.2.1 3 _ rfl) dX1_formAt_66 ?_
      subst hQ
      exact retRS (Or.inl ⟨_, rfl⟩) hx hb hr hlocks hS h dX1_formAt_68
    have h := itF c58 h
    refine va_ldcS hx hb hown (hE.2.2.1 2 _ rfl) dX1_formAt_61 ?_
    refine lv_goto (tgt := 68) hx hb dX1_formAt_63 (by decide) ?_
    subst hQ
    exact retRS (Or.inl ⟨_, rfl⟩) hx hb hr hlocks hS h dX1_formAt_68
  have h := itF n109 h
  by_cases n114 : q2 = (114 : Int32)
  · have h := itT n114 h
    refine lv_lookup (off := 35) (tgt := 40) hx hb dX1_formAt_5 (by decide) (by rw [n114]; decide) (by decide) ?_
    refine va_ldcS hx hb hown (hE.2.2.1 0 _ rfl) dX1_formAt_40 ?_
    subst hQ
    exact retRS (Or.inl ⟨_, rfl⟩) hx hb hr hlocks hS h dX1_formAt_42
  have h := itF n114 h
  have m102 := neI n102 (i := 102) rfl
  have m109 := neI n109 (i := 109) rfl
  have m114 := neI n114 (i := 114) rfl
  refine lv_lookup (off := 64) (tgt := 69) hx hb dX1_formAt_5 (by decide) (by simp [Op.lookupswitch.offset, m102, Ne.symm m102, m109, Ne.symm m109, m114, Ne.symm m114]) (by decide) ?_
  refine va_ldcS hx hb hown (hE.2.2.1 4 _ rfl) dX1_formAt_69 ?_
  subst hQ
  exact retRS (Or.inl ⟨_, rfl⟩) hx hb hr hlocks hS h dX1_formAt_71
theorem dX1_faultOfForm_0 : decode cX1_faultOfForm 0 = .ok (.iconst 0, 1) := by decide +kernel
theorem dX1_faultOfForm_1 : decode cX1_faultOfForm 1 = .ok (.istore_n 1, 1) := by decide +kernel
theorem dX1_faultOfForm_2 : decode cX1_faultOfForm 2 = .ok (.iconst 0, 1) := by decide +kernel
theorem dX1_faultOfForm_3 : decode cX1_faultOfForm 3 = .ok (.istore_n 2, 1) := by decide +kernel
theorem dX1_faultOfForm_4 : decode cX1_faultOfForm 4 = .ok (.iload_n 2, 1) := by decide +kernel
theorem dX1_faultOfForm_5 : decode cX1_faultOfForm 5 = .ok (.bipush 80, 2) := by decide +kernel
theorem dX1_faultOfForm_7 : decode cX1_faultOfForm 7 = .ok (.if_icmp .ge 77, 3) := by decide +kernel
theorem dX1_faultOfForm_10 : decode cX1_faultOfForm 10 = .ok (.iload_n 2, 1) := by decide +kernel
theorem dX1_faultOfForm_11 : decode cX1_faultOfForm 11 = .ok (.ifCond .eq 11, 3) := by decide +kernel
theorem dX1_faultOfForm_14 : decode cX1_faultOfForm 14 = .ok (.iload_n 1, 1) := by decide +kernel
theorem dX1_faultOfForm_15 : decode cX1_faultOfForm 15 = .ok (.aload_n 0, 1) := by decide +kernel
theorem dX1_faultOfForm_16 : decode cX1_faultOfForm 16 = .ok (.getfield 15, 3) := by decide +kernel
theorem dX1_faultOfForm_19 : decode cX1_faultOfForm 19 = .ok (.if_icmp .ge 65, 3) := by decide +kernel
theorem dX1_faultOfForm_22 : decode cX1_faultOfForm 22 = .ok (.aload_n 0, 1) := by decide +kernel
theorem dX1_faultOfForm_23 : decode cX1_faultOfForm 23 = .ok (.iload_n 1, 1) := by decide +kernel
theorem dX1_faultOfForm_24 : decode cX1_faultOfForm 24 = .ok (.invokevirtual 27, 3) := by decide +kernel
theorem dX1_faultOfForm_27 : decode cX1_faultOfForm 27 = .ok (.astore_n 3, 1) := by decide +kernel
theorem dX1_faultOfForm_28 : decode cX1_faultOfForm 28 = .ok (.iconst 0, 1) := by decide +kernel
theorem dX1_faultOfForm_29 : decode cX1_faultOfForm 29 = .ok (.istore 4, 2) := by decide +kernel
theorem dX1_faultOfForm_31 : decode cX1_faultOfForm 31 = .ok (.iload 4, 2) := by decide +kernel
theorem dX1_faultOfForm_33 : decode cX1_faultOfForm 33 = .ok (.aload_n 3, 1) := by decide +kernel
theorem dX1_faultOfForm_34 : decode cX1_faultOfForm 34 = .ok (.invokevirtual 31, 3) := by decide +kernel
theorem dX1_faultOfForm_37 : decode cX1_faultOfForm 37 = .ok (.if_icmp .ge 34, 3) := by decide +kernel
theorem dX1_faultOfForm_40 : decode cX1_faultOfForm 40 = .ok (.aload_n 3, 1) := by decide +kernel
theorem dX1_faultOfForm_41 : decode cX1_faultOfForm 41 = .ok (.iload 4, 2) := by decide +kernel
theorem dX1_faultOfForm_43 : decode cX1_faultOfForm 43 = .ok (.invokevirtual 36, 3) := by decide +kernel
theorem dX1_faultOfForm_46 : decode cX1_faultOfForm 46 = .ok (.aload_n 0, 1) := by decide +kernel
theorem dX1_faultOfForm_47 : decode cX1_faultOfForm 47 = .ok (.iload_n 1, 1) := by decide +kernel
theorem dX1_faultOfForm_48 : decode cX1_faultOfForm 48 = .ok (.iload 4, 2) := by decide +kernel
theorem dX1_faultOfForm_50 : decode cX1_faultOfForm 50 = .ok (.iadd, 1) := by decide +kernel
theorem dX1_faultOfForm_51 : decode cX1_faultOfForm 51 = .ok (.invokevirtual 40, 3) := by decide +kernel
theorem dX1_faultOfForm_54 : decode cX1_faultOfForm 54 = .ok (.invokestatic 44, 3) := by decide +kernel
theorem dX1_faultOfForm_57 : decode cX1_faultOfForm 57 = .ok (.ifCond .ne 8, 3) := by decide +kernel
theorem dX1_faultOfForm_60 : decode cX1_faultOfForm 60 = .ok (.iload_n 1, 1) := by decide +kernel
theorem dX1_faultOfForm_61 : decode cX1_faultOfForm 61 = .ok (.iload 4, 2) := by decide +kernel
theorem dX1_faultOfForm_63 : decode cX1_faultOfForm 63 = .ok (.iadd, 1) := by decide +kernel
theorem dX1_faultOfForm_64 : decode cX1_faultOfForm 64 = .ok (.ireturn, 1) := by decide +kernel
theorem dX1_faultOfForm_65 : decode cX1_faultOfForm 65 = .ok (.iinc 4 1, 3) := by decide +kernel
theorem dX1_faultOfForm_68 : decode cX1_faultOfForm 68 = .ok (.goto (-37), 3) := by decide +kernel
theorem dX1_faultOfForm_71 : decode cX1_faultOfForm 71 = .ok (.iload_n 1, 1) := by decide +kernel
theorem dX1_faultOfForm_72 : decode cX1_faultOfForm 72 = .ok (.aload_n 3, 1) := by decide +kernel
theorem dX1_faultOfForm_73 : decode cX1_faultOfForm 73 = .ok (.invokevirtual 31, 3) := by decide +kernel
theorem dX1_faultOfForm_76 : decode cX1_faultOfForm 76 = .ok (.iadd, 1) := by decide +kernel
theorem dX1_faultOfForm_77 : decode cX1_faultOfForm 77 = .ok (.istore_n 1, 1) := by decide +kernel
theorem dX1_faultOfForm_78 : decode cX1_faultOfForm 78 = .ok (.iinc 2 1, 3) := by decide +kernel
theorem dX1_faultOfForm_81 : decode cX1_faultOfForm 81 = .ok (.goto (-77), 3) := by decide +kernel
theorem dX1_faultOfForm_84 : decode cX1_faultOfForm 84 = .ok (.iconst (-1), 1) := by decide +kernel
theorem dX1_faultOfForm_85 : decode cX1_faultOfForm 85 = .ok (.ireturn, 1) := by decide +kernel
set_option maxRecDepth 20000 in
theorem ggX1_faultOfForm_X1_formAt : GoodIn wsX1_faultOfForm wsX1_formAt := goodIn_r _ [6, 7, 8, 9, 5, 10, 1, 11, 12, 13, 14, 15, 16, 17, 18, 19, 20, 21, 22, 23, 24, 25, 26, 27, 28, 29, 30, 31, 32, 33, 34, 35, 36, 37, 38, 39, 40, 41, 42, 43, 44, 45, 46, 47, 48, 49, 50, 51, 52, 53, 54, 55, 56, 57, 58, 59, 60, 61, 62, 63, 64, 65, 66, 67, 68] (by decide +kernel) (by decide +kernel)
set_option maxRecDepth 20000 in
theorem gX1_faultOfForm_X1_formAt : GoodIn wsX1_faultOfForm (wsV RX1 27 RX1 yX1_formAt wsX1_formAt) := goodIn_app (goodIn_of _ (by decide +kernel)) ggX1_faultOfForm_X1_formAt
set_option maxRecDepth 20000 in
theorem ggX1_faultOfForm_J0_length_8abf5 : GoodIn wsX1_faultOfForm wsJ0_length_8abf5 := goodIn_r _ [22, 23, 24, 25, 26, 21, 27, 28, 29] (by decide +kernel) (by decide +kernel)
set_option maxRecDepth 20000 in
theorem gX1_faultOfForm_J0_length_8abf5 : GoodIn wsX1_faultOfForm (wsV RX1 31 RJ0 yJ0_length_8abf5 wsJ0_length_8abf5) := goodIn_app (goodIn_of _ (by decide +kernel)) ggX1_faultOfForm_J0_length_8abf5
set_option maxRecDepth 20000 in
theorem ggX1_faultOfForm_J0_charAt_5068e : GoodIn wsX1_faultOfForm wsJ0_charAt_5068e := goodIn_r _ [33, 23, 34, 35, 36, 21, 37, 28, 29, 38, 39, 40, 41, 42, 43, 44, 45, 46, 47, 48, 49, 50, 51, 52, 53, 54, 55, 56, 57, 58, 59, 60, 61, 62, 63, 64, 65, 66] (by decide +kernel) (by decide +kernel)
set_option maxRecDepth 20000 in
theorem gX1_faultOfForm_J0_charAt_5068e : GoodIn wsX1_faultOfForm (wsV RX1 36 RJ0 yJ0_charAt_5068e wsJ0_charAt_5068e) := goodIn_app (goodIn_of _ (by decide +kernel)) ggX1_faultOfForm_J0_charAt_5068e
set_option maxRecDepth 20000 in
theorem ggX1_faultOfForm_X1_letterAt : GoodIn wsX1_faultOfForm wsX1_letterAt := goodIn_r _ [10, 1, 11, 67, 68] (by decide +kernel) (by decide +kernel)
set_option maxRecDepth 20000 in
theorem gX1_faultOfForm_X1_letterAt : GoodIn wsX1_faultOfForm (wsV RX1 40 RX1 yX1_letterAt wsX1_letterAt) := goodIn_app (goodIn_of _ (by decide +kernel)) ggX1_faultOfForm_X1_letterAt
set_option maxRecDepth 20000 in
theorem ggX1_faultOfForm_X1_isOf : GoodIn wsX1_faultOfForm wsX1_isOf := goodIn_r _ [14, 15, 16, 5, 17, 18, 19, 20, 21, 22, 23, 24, 25, 26, 27, 28, 29, 30, 31, 32, 33, 34, 35, 36, 37, 38, 39, 40, 41, 42, 43, 44, 45, 46, 47, 48, 49, 50, 51, 52, 53, 54, 55, 56, 57, 58, 59, 60, 61, 62, 63, 64, 65, 66] (by decide +kernel) (by decide +kernel)
set_option maxRecDepth 20000 in
theorem gX1_faultOfForm_X1_isOf : GoodIn wsX1_faultOfForm (va_wsS RX1 44 yX1_isOf wsX1_isOf) := goodIn_app (goodIn_of _ (by decide +kernel)) ggX1_faultOfForm_X1_isOf
set_option maxHeartbeats 4000000 in
set_option maxRecDepth 100000 in
theorem mX1_faultOfForm (l : Launch) (dC : Nat → ClassId) (dI : Nat → Nat → Nat) (cI cC : ClassId) (sk : (Nat → Nat) × (Nat → Nat)) (f : Nat → Nat)  (c_letters : AR) (c_size : Int32) (z : Int32) (h : fX1_faultOfForm c_letters c_size = some z) : cRO l yX1_faultOfForm wsX1_faultOfForm (RMk 7 148) sk (dC, dI) (tyz cI cC) (zwT cI cC f c_letters c_size) [.ref (f 0)] z := by
  refine ofRO (cc := cX1_faultOfForm) (maxL := 5) (ret := (some .int)) (own := RX1) (plainFor_of_name (by decide)) rfl rfl (Nat.le_of_ble_eq_true rfl) ?_
  intro p e s m args below meth c hx hb hml hr hts hown hlocks hE hK hP hS ls hl
  generalize hQ : qRO _ _ _ _ = Q
  have hl : lv_has ls 5 [(0, .ref (f 0))] := hl
  have hiX1 : ∀ w ∈ wsX10, w ∈ wsX1_faultOfForm := fun w h => List.mem_cons_of_mem _ (List.mem_append_right _ h)
  have hw1 := hts (Cond.fieldLink RX1 15 "FloeToFloe$Telling" "size" "I") (List.mem_of_getElem? (i := 1) rfl)
  rw [fX1_faultOfForm] at h
  refine lv_iconst (v := (0 : Int32)) hx hb dX1_faultOfForm_0 (by decide) ?_
  refine lv_istore_n (lv' := [(1, .int (0 : Int32)), (0, .ref (f 0))]) hx hb dX1_faultOfForm_1 rfl hl (by decide) rfl (fun ls hl => ?_)
  refine lv_iconst (v := (0 : Int32)) hx hb dX1_faultOfForm_2 (by decide) ?_
  refine lv_istore_n (lv' := [(2, .int (0 : Int32)), (1, .int (0 : Int32)), (0, .ref (f 0))]) hx hb dX1_faultOfForm_3 rfl hl (by decide) rfl (fun ls hl => ?_)
  have L4 : ∀ (K4 : Unit → Option (Int32)), (∀ (_ : Unit), K4 () = some z → ∀ (H : Heap) (locs : List Loc) (ls : Array Slot), va_P (dC, dI) vwCl (zwT cI cC f c_letters c_size) H → va_S noA s.heap H locs → lv_has ls 5 [] → W p l e (RMk 7 148) s m args below meth c H locs 0 0 Q (F0 m 84 ls [])) → ∀ (n : Nat) (x4_1 : Int32) (x4_2 : Int32), fX1_faultOfForm_L4 c_letters c_size K4 n x4_1 x4_2 = some z → ∀ (H : Heap) (locs : List Loc) (ls : Array Slot), va_P (dC, dI) vwCl (zwT cI cC f c_letters c_size) H → va_S noA s.heap H locs → lv_has ls 5 [(0, .ref (f 0)), (1, .int x4_1), (2, .int x4_2)] → W p l e (RMk 7 148) s m args below meth c H locs 0 0 Q (F0 m 4 ls []) := by
    intro K4 kx4 n
    induction n with
    | zero => intro x4_1 x4_2 h; rw [fX1_faultOfForm_L4] at h; cases h
    | succ n ih4 =>
      intro x4_1 x4_2 h H locs ls hP hS hl
      rw [fX1_faultOfForm_L4] at h
      refine lv_iload_n hx hb dX1_faultOfForm_4 rfl (lv_at hl 2 rfl) ?_
      refine lv_bipush (v := (80 : Int32)) hx hb dX1_faultOfForm_5 (by decide) ?_
      refine lv_icmp_ge (tgt := 84) hx hb dX1_faultOfForm_7 (by decide) (fun c7 => ?_) (fun c7 => ?_)
      · have h := itT c7 h
        exact kx4 () h _ _ _ hP hS (lv_sub hl [] rfl)
      have h := itF c7 h
      refine lv_iload_n hx hb dX1_faultOfForm_10 rfl (lv_at hl 2 rfl) ?_
      refine jnW (fun (v22 : Unit) => ∀ (H : Heap) (locs : List Loc) (ls : Array Slot), va_P (dC, dI) vwCl (zwT cI cC f c_letters c_size) H → va_S noA s.heap H locs → lv_has ls 5 [(0, .ref (f 0)), (1, .int x4_1), (2, .int x4_2)] → W p l e (RMk 7 148) s m args below meth c H locs 0 0 Q (F0 m 22 ls [])) h (fun v22 h H locs ls hP hS hl => ?_) (fun J22 j22 h => ?_)
      · refine lv_aload_n hx hb dX1_faultOfForm_22 rfl (lv_at hl 0 rfl) ?_
        refine lv_iload_n hx hb dX1_faultOfForm_23 rfl (lv_at hl 1 rfl) ?_
        obtain ⟨q24, e24, h⟩ := bd_some h
        refine g_rsV (wc := (zwT cI cC f c_letters c_size)) ⟨hx, hb, hml, hown, hts⟩ hE hK hP hS [0, 1] rfl (mX1_formAt l dC dI cI cC sk f x4_1 c_letters c_size q24 e24) (cwV 1 hts gX1_faultOfForm_X1_formAt rfl rfl rfl (by decide +kernel) ⟨Nat.le_of_ble_eq_true rfl, Nat.le_of_ble_eq_true rfl⟩) (va_recv hK hP (ci := 1) (q0 := 0) rfl rfl) (As := [.int x4_1]) (rest := []) rfl hl.1 rfl (Nat.le_of_ble_eq_true rfl) dX1_faultOfForm_24 ⟨Nat.zero_le _, Nat.zero_le _⟩ (fun H locs hP hS => ?_)
        refine lv_astore_n (lv' := [(3, .ref (sk.1 q24)), (0, .ref (f 0)), (1, .int x4_1), (2, .int x4_2)]) hx hb dX1_faultOfForm_27 rfl hl (by decide) rfl (fun ls hl => ?_)
        refine lv_iconst (v := (0 : Int32)) hx hb dX1_faultOfForm_28 (by decide) ?_
        refine lv_istore (lv' := [(4, .int (0 : Int32)), (3, .ref (sk.1 q24)), (0, .ref (f 0)), (1, .int x4_1), (2, .int x4_2)]) hx hb dX1_faultOfForm_29 hl (by decide) rfl (fun ls hl => ?_)
        have L31 : ∀ (K31 : Unit → Option (Int32)), (∀ (_ : Unit), K31 () = some z → ∀ (H : Heap) (locs : List Loc) (ls : Array Slot), va_P (dC, dI) vwCl (zwT cI cC f c_letters c_size) H → va_S noA s.heap H locs → lv_has ls 5 [(0, .ref (f 0)), (1, .int x4_1), (2, .int x4_2), (3, .ref (sk.1 q24))] → W p l e (RMk 7 148) s m args below meth c H locs 0 0 Q (F0 m 71 ls [])) → ∀ (n : Nat) (x31_4 : Int32), fX1_faultOfForm_L31 c_letters c_size q24 x4_1 K31 n x31_4 = some z → ∀ (H : Heap) (locs : List Loc) (ls : Array Slot), va_P (dC, dI) vwCl (zwT cI cC f c_letters c_size) H → va_S noA s.heap H locs → lv_has ls 5 [(0, .ref (f 0)), (1, .int x4_1), (2, .int x4_2), (3, .ref (sk.1 q24)), (4, .int x31_4)] → W p l e (RMk 7 148) s m args below meth c H locs 0 0 Q (F0 m 31 ls []) := by
          intro K31 kx31 n
          induction n with
          | zero => intro x31_4 h; rw [fX1_faultOfForm_L31] at h; cases h
          | succ n ih31 =>
            intro x31_4 h H locs ls hP hS hl
            rw [fX1_faultOfForm_L31] at h
            refine lv_iload hx hb dX1_faultOfForm_31 (lv_at hl 4 rfl) ?_
            refine lv_aload_n hx hb dX1_faultOfForm_33 rfl (lv_at hl 3 rfl) ?_
            obtain ⟨q34, e34, h⟩ := bd_some h
            refine g_roV (wc := ([] : va_W)) ⟨hx, hb, hml, hown, hts⟩ hE hK hP hS [] rfl (mJ0_length_8abf5 l dC dI cI cC sk  q24 q34 e34) (cwV 0 hts gX1_faultOfForm_J0_length_8abf5 rfl rfl rfl (by decide +kernel) ⟨Nat.le_of_ble_eq_true rfl, Nat.le_of_ble_eq_true rfl⟩) (vk_recv hE.2.1 (sLen_lt e34) hS) (As := []) (rest := [.int x31_4]) rfl hl.1 rfl (Nat.le_of_ble_eq_true rfl) dX1_faultOfForm_34 ⟨Nat.zero_le _, Nat.zero_le _⟩ (fun H locs hP hS => ?_)
            refine lv_icmp_ge (tgt := 71) hx hb dX1_faultOfForm_37 (by decide) (fun c37 => ?_) (fun c37 => ?_)
            · have h := itT c37 h
              exact kx31 () h _ _ _ hP hS (lv_sub hl [0, 1, 2, 3] rfl)
            have h := itF c37 h
            refine lv_aload_n hx hb dX1_faultOfForm_40 rfl (lv_at hl 3 rfl) ?_
            refine lv_iload hx hb dX1_faultOfForm_41 (lv_at hl 4 rfl) ?_
            obtain ⟨q43, e43, h⟩ := bd_some h
            refine g_roV (wc := ([] : va_W)) ⟨hx, hb, hml, hown, hts⟩ hE hK hP hS [] rfl (mJ0_charAt_5068e l dC dI cI cC sk  q24 x31_4 q43 e43) (cwV 1 hts gX1_faultOfForm_J0_charAt_5068e rfl rfl rfl (by decide +kernel) ⟨Nat.le_of_ble_eq_true rfl, Nat.le_of_ble_eq_true rfl⟩) (vk_recv hE.2.1 (sChar_lt e43) hS) (As := [.int x31_4]) (rest := []) rfl hl.1 rfl (Nat.le_of_ble_eq_true rfl) dX1_faultOfForm_43 ⟨Nat.zero_le _, Nat.zero_le _⟩ (fun H locs hP hS => ?_)
            refine lv_aload_n hx hb dX1_faultOfForm_46 rfl (lv_at hl 0 rfl) ?_
            refine lv_iload_n hx hb dX1_faultOfForm_47 rfl (lv_at hl 1 rfl) ?_
            refine lv_iload hx hb dX1_faultOfForm_48 (lv_at hl 4 rfl) ?_
            refine lv_iadd hx hb dX1_faultOfForm_50 ?_
            obtain ⟨q51, e51, h⟩ := bd_some h
            refine g_roV (wc := (zwT cI cC f c_letters c_size)) ⟨hx, hb, hml, hown, hts⟩ hE hK hP hS [0, 1] rfl (mX1_letterAt l dC dI cI cC sk f (x4_1 + x31_4) c_letters c_size q51 e51) (cwV 1 hts gX1_faultOfForm_X1_letterAt rfl rfl rfl (by decide +kernel) ⟨Nat.le_of_ble_eq_true rfl, Nat.le_of_ble_eq_true rfl⟩) (va_recv hK hP (ci := 1) (q0 := 0) rfl rfl) (As := [.int (x4_1 + x31_4)]) (rest := [.int q43]) rfl hl.1 rfl (Nat.le_of_ble_eq_true rfl) dX1_faultOfForm_51 ⟨Nat.zero_le _, Nat.zero_le _⟩ (fun H locs hP hS => ?_)
            obtain ⟨q54, e54, h⟩ := bd_some h
            refine g_roS (wc := ([] : va_W)) ⟨hx, hb, hml, hown, hts⟩ hE hK hP hS [] rfl (mX1_isOf l dC dI cI cC sk  q43 q51 q54 e54) (va_cwS 2 hts gX1_faultOfForm_X1_isOf rfl rfl rfl (by decide +kernel) ⟨Nat.le_of_ble_eq_true rfl, Nat.le_of_ble_eq_true rfl⟩) (As := [.int q43, .int q51]) (rest := []) rfl hl.1 rfl (Nat.le_of_ble_eq_true rfl) dX1_faultOfForm_54 ⟨Nat.zero_le _, Nat.zero_le _⟩ (fun H locs hP hS => ?_)
            refine lv_if_ne (tgt := 65) hx hb dX1_faultOfForm_57 (by decide) (fun c57 => ?_) (fun c57 => ?_)
            · have h := itF c57 h
              refine lv_iinc (v := (x31_4 + (1 : Int32))) (lv' := [(4, .int (x31_4 + (1 : Int32))), (0, .ref (f 0)), (1, .int x4_1), (2, .int x4_2), (3, .ref (sk.1 q24))]) hx hb dX1_faultOfForm_65 hl (k := 4) rfl rfl (by decide) rfl (fun ls hl => ?_)
              refine lv_goto (tgt := 31) hx hb dX1_faultOfForm_68 (by decide) ?_
              exact ih31 _ h _ _ _ hP hS (lv_sub hl [1, 2, 3, 4, 0] rfl)
            have h := itT c57 h
            refine lv_iload_n hx hb dX1_faultOfForm_60 rfl (lv_at hl 1 rfl) ?_
            refine lv_iload hx hb dX1_faultOfForm_61 (lv_at hl 4 rfl) ?_
            refine lv_iadd hx hb dX1_faultOfForm_63 ?_
            subst hQ
            exact retRO hx hb hr hlocks rfl hS h dX1_faultOfForm_64
        refine L31 _ (fun _ h H locs ls hP hS hl => ?_) _ _ h _ _ _ hP hS (lv_sub hl [2, 3, 4, 1, 0] rfl)
        refine lv_iload_n hx hb dX1_faultOfForm_71 rfl (lv_at hl 1 rfl) ?_
        refine lv_aload_n hx hb dX1_faultOfForm_72 rfl (lv_at hl 3 rfl) ?_
        obtain ⟨q73, e73, h⟩ := bd_some h
        refine g_roV (wc := ([] : va_W)) ⟨hx, hb, hml, hown, hts⟩ hE hK hP hS [] rfl (mJ0_length_8abf5 l dC dI cI cC sk  q24 q73 e73) (cwV 0 hts gX1_faultOfForm_J0_length_8abf5 rfl rfl rfl (by decide +kernel) ⟨Nat.le_of_ble_eq_true rfl, Nat.le_of_ble_eq_true rfl⟩) (vk_recv hE.2.1 (sLen_lt e73) hS) (As := []) (rest := [.int x4_1]) rfl hl.1 rfl (Nat.le_of_ble_eq_true rfl) dX1_faultOfForm_73 ⟨Nat.zero_le _, Nat.zero_le _⟩ (fun H locs hP hS => ?_)
        refine lv_iadd hx hb dX1_faultOfForm_76 ?_
        refine lv_istore_n (lv' := [(1, .int (x4_1 + q73)), (0, .ref (f 0)), (2, .int x4_2), (3, .ref (sk.1 q24))]) hx hb dX1_faultOfForm_77 rfl hl (by decide) rfl (fun ls hl => ?_)
        refine lv_iinc (v := (x4_2 + (1 : Int32))) (lv' := [(2, .int (x4_2 + (1 : Int32))), (1, .int (x4_1 + q73)), (0, .ref (f 0)), (3, .ref (sk.1 q24))]) hx hb dX1_faultOfForm_78 hl (k := 2) rfl rfl (by decide) rfl (fun ls hl => ?_)
        refine lv_goto (tgt := 4) hx hb dX1_faultOfForm_81 (by decide) ?_
        exact ih4 _ _ h _ _ _ hP hS (lv_sub hl [2, 1, 0] rfl)
      refine lv_if_eq (tgt := 22) hx hb dX1_faultOfForm_11 (by decide) (fun c11 => ?_) (fun c11 => ?_)
      · have h := itT c11 h
        exact j22 _ h _ _ _ hP hS (lv_sub hl [0, 1, 2] rfl)
      have h := itF c11 h
      refine lv_iload_n hx hb dX1_faultOfForm_14 rfl (lv_at hl 1 rfl) ?_
      refine lv_aload_n hx hb dX1_faultOfForm_15 rfl (lv_at hl 0 rfl) ?_
      refine va_get (D := (dC, dI)) (ci := 1) (v := .int c_size) (C := RX1) (T := TX1) (N := 2) hx hb hts hiX1 hown hK hP 0 rfl rfl 1 (by decide) hw1 (fun _ h9 => h9) rfl dX1_faultOfForm_16 ?_
      refine lv_icmp_ge (tgt := 84) hx hb dX1_faultOfForm_19 (by decide) (fun c19 => ?_) (fun c19 => ?_)
      · have h := itT c19 h
        exact kx4 () h _ _ _ hP hS (lv_sub hl [] rfl)
      have h := itF c19 h
      exact j22 _ h _ _ _ hP hS (lv_sub hl [0, 1, 2] rfl)
  refine L4 _ (fun _ h H locs ls hP hS hl => ?_) _ _ _ h _ _ _ hP hS (lv_sub hl [2, 1, 0] rfl)
  refine lv_iconst (v := (-1 : Int32)) hx hb dX1_faultOfForm_84 (by decide) ?_
  subst hQ
  exact retRO hx hb hr hlocks rfl hS h dX1_faultOfForm_85
theorem dX1_digitAt_0 : decode cX1_digitAt 0 = .ok (.aload_n 0, 1) := by decide +kernel
theorem dX1_digitAt_1 : decode cX1_digitAt 1 = .ok (.iload_n 1, 1) := by decide +kernel
theorem dX1_digitAt_2 : decode cX1_digitAt 2 = .ok (.invokevirtual 40, 3) := by decide +kernel
theorem dX1_digitAt_5 : decode cX1_digitAt 5 = .ok (.bipush 48, 2) := by decide +kernel
theorem dX1_digitAt_7 : decode cX1_digitAt 7 = .ok (.isub, 1) := by decide +kernel
theorem dX1_digitAt_8 : decode cX1_digitAt 8 = .ok (.ireturn, 1) := by decide +kernel
set_option maxRecDepth 20000 in
theorem ggX1_digitAt_X1_letterAt : GoodIn wsX1_digitAt wsX1_letterAt := goodIn_r _ [5, 6, 7, 8, 9] (by decide +kernel) (by decide +kernel)
set_option maxRecDepth 20000 in
theorem gX1_digitAt_X1_letterAt : GoodIn wsX1_digitAt (wsV RX1 40 RX1 yX1_letterAt wsX1_letterAt) := goodIn_app (goodIn_of _ (by decide +kernel)) ggX1_digitAt_X1_letterAt
set_option maxHeartbeats 4000000 in
set_option maxRecDepth 100000 in
theorem mX1_digitAt (l : Launch) (dC : Nat → ClassId) (dI : Nat → Nat → Nat) (cI cC : ClassId) (sk : (Nat → Nat) × (Nat → Nat)) (f : Nat → Nat) (p1 : Int32) (c_letters : AR) (c_size : Int32) (z : Int32) (h : fX1_digitAt p1 c_letters c_size = some z) : cRO l yX1_digitAt wsX1_digitAt (RMk 1 21) sk (dC, dI) (tyz cI cC) (zwT cI cC f c_letters c_size) [.ref (f 0), .int p1] z := by
  refine ofRO (cc := cX1_digitAt) (maxL := 2) (ret := (some .int)) (own := RX1) (plainFor_of_name (by decide)) rfl rfl (Nat.le_of_ble_eq_true rfl) ?_
  intro p e s m args below meth c hx hb hml hr hts hown hlocks hE hK hP hS ls hl
  generalize hQ : qRO _ _ _ _ = Q
  have hl : lv_has ls 2 [(0, .ref (f 0)), (1, .int p1)] := hl
  rw [fX1_digitAt] at h
  refine lv_aload_n hx hb dX1_digitAt_0 rfl (lv_at hl 0 rfl) ?_
  refine lv_iload_n hx hb dX1_digitAt_1 rfl (lv_at hl 1 rfl) ?_
  obtain ⟨q2, e2, h⟩ := bd_some h
  refine g_roV (wc := (zwT cI cC f c_letters c_size)) ⟨hx, hb, hml, hown, hts⟩ hE hK hP hS [0, 1] rfl (mX1_letterAt l dC dI cI cC sk f p1 c_letters c_size q2 e2) (cwV 1 hts gX1_digitAt_X1_letterAt rfl rfl rfl (by decide +kernel) ⟨Nat.le_of_ble_eq_true rfl, Nat.le_of_ble_eq_true rfl⟩) (va_recv hK hP (ci := 1) (q0 := 0) rfl rfl) (As := [.int p1]) (rest := []) rfl hl.1 rfl (Nat.le_of_ble_eq_true rfl) dX1_digitAt_2 ⟨Nat.zero_le _, Nat.zero_le _⟩ (fun H locs hP hS => ?_)
  refine lv_bipush (v := (48 : Int32)) hx hb dX1_digitAt_5 (by decide) ?_
  refine lv_isub hx hb dX1_digitAt_7 ?_
  subst hQ
  exact retRO hx hb hr hlocks rfl hS h dX1_digitAt_8
theorem dX1_minuteAt_0 : decode cX1_minuteAt 0 = .ok (.aload_n 0, 1) := by decide +kernel
theorem dX1_minuteAt_1 : decode cX1_minuteAt 1 = .ok (.iload_n 1, 1) := by decide +kernel
theorem dX1_minuteAt_2 : decode cX1_minuteAt 2 = .ok (.invokevirtual 48, 3) := by decide +kernel
theorem dX1_minuteAt_5 : decode cX1_minuteAt 5 = .ok (.istore_n 2, 1) := by decide +kernel
theorem dX1_minuteAt_6 : decode cX1_minuteAt 6 = .ok (.bipush 100, 2) := by decide +kernel
theorem dX1_minuteAt_8 : decode cX1_minuteAt 8 = .ok (.aload_n 0, 1) := by decide +kernel
theorem dX1_minuteAt_9 : decode cX1_minuteAt 9 = .ok (.iload_n 1, 1) := by decide +kernel
theorem dX1_minuteAt_10 : decode cX1_minuteAt 10 = .ok (.iconst 1, 1) := by decide +kernel
theorem dX1_minuteAt_11 : decode cX1_minuteAt 11 = .ok (.iadd, 1) := by decide +kernel
theorem dX1_minuteAt_12 : decode cX1_minuteAt 12 = .ok (.invokevirtual 40, 3) := by decide +kernel
theorem dX1_minuteAt_15 : decode cX1_minuteAt 15 = .ok (.invokestatic 44, 3) := by decide +kernel
theorem dX1_minuteAt_18 : decode cX1_minuteAt 18 = .ok (.ifCond .eq 18, 3) := by decide +kernel
theorem dX1_minuteAt_21 : decode cX1_minuteAt 21 = .ok (.bipush 10, 2) := by decide +kernel
theorem dX1_minuteAt_23 : decode cX1_minuteAt 23 = .ok (.iload_n 2, 1) := by decide +kernel
theorem dX1_minuteAt_24 : decode cX1_minuteAt 24 = .ok (.imul, 1) := by decide +kernel
theorem dX1_minuteAt_25 : decode cX1_minuteAt 25 = .ok (.aload_n 0, 1) := by decide +kernel
theorem dX1_minuteAt_26 : decode cX1_minuteAt 26 = .ok (.iload_n 1, 1) := by decide +kernel
theorem dX1_minuteAt_27 : decode cX1_minuteAt 27 = .ok (.iconst 1, 1) := by decide +kernel
theorem dX1_minuteAt_28 : decode cX1_minuteAt 28 = .ok (.iadd, 1) := by decide +kernel
theorem dX1_minuteAt_29 : decode cX1_minuteAt 29 = .ok (.invokevirtual 48, 3) := by decide +kernel
theorem dX1_minuteAt_32 : decode cX1_minuteAt 32 = .ok (.iadd, 1) := by decide +kernel
theorem dX1_minuteAt_33 : decode cX1_minuteAt 33 = .ok (.goto 4, 3) := by decide +kernel
theorem dX1_minuteAt_36 : decode cX1_minuteAt 36 = .ok (.iload_n 2, 1) := by decide +kernel
theorem dX1_minuteAt_37 : decode cX1_minuteAt 37 = .ok (.ireturn, 1) := by decide +kernel
set_option maxRecDepth 20000 in
theorem ggX1_minuteAt_X1_digitAt : GoodIn wsX1_minuteAt wsX1_digitAt := goodIn_r _ [5, 6, 7, 8, 4, 9, 10, 11, 67, 68] (by decide +kernel) (by decide +kernel)
set_option maxRecDepth 20000 in
theorem gX1_minuteAt_X1_digitAt : GoodIn wsX1_minuteAt (wsV RX1 48 RX1 yX1_digitAt wsX1_digitAt) := goodIn_app (goodIn_of _ (by decide +kernel)) ggX1_minuteAt_X1_digitAt
set_option maxRecDepth 20000 in
theorem ggX1_minuteAt_X1_letterAt : GoodIn wsX1_minuteAt wsX1_letterAt := goodIn_r _ [9, 10, 11, 67, 68] (by decide +kernel) (by decide +kernel)
set_option maxRecDepth 20000 in
theorem gX1_minuteAt_X1_letterAt : GoodIn wsX1_minuteAt (wsV RX1 40 RX1 yX1_letterAt wsX1_letterAt) := goodIn_app (goodIn_of _ (by decide +kernel)) ggX1_minuteAt_X1_letterAt
set_option maxRecDepth 20000 in
theorem ggX1_minuteAt_X1_isOf : GoodIn wsX1_minuteAt wsX1_isOf := goodIn_r _ [14, 15, 16, 4, 17, 18, 19, 20, 21, 22, 23, 24, 25, 26, 27, 28, 29, 30, 31, 32, 33, 34, 35, 36, 37, 38, 39, 40, 41, 42, 43, 44, 45, 46, 47, 48, 49, 50, 51, 52, 53, 54, 55, 56, 57, 58, 59, 60, 61, 62, 63, 64, 65, 66] (by decide +kernel) (by decide +kernel)
set_option maxRecDepth 20000 in
theorem gX1_minuteAt_X1_isOf : GoodIn wsX1_minuteAt (va_wsS RX1 44 yX1_isOf wsX1_isOf) := goodIn_app (goodIn_of _ (by decide +kernel)) ggX1_minuteAt_X1_isOf
set_option maxHeartbeats 4000000 in
set_option maxRecDepth 100000 in
theorem mX1_minuteAt (l : Launch) (dC : Nat → ClassId) (dI : Nat → Nat → Nat) (cI cC : ClassId) (sk : (Nat → Nat) × (Nat → Nat)) (f : Nat → Nat) (p1 : Int32) (c_letters : AR) (c_size : Int32) (z : Int32) (h : fX1_minuteAt p1 c_letters c_size = some z) : cRO l yX1_minuteAt wsX1_minuteAt (RMk 6 127) sk (dC, dI) (tyz cI cC) (zwT cI cC f c_letters c_size) [.ref (f 0), .int p1] z := by
  refine ofRO (cc := cX1_minuteAt) (maxL := 3) (ret := (some .int)) (own := RX1) (plainFor_of_name (by decide)) rfl rfl (Nat.le_of_ble_eq_true rfl) ?_
  intro p e s m args below meth c hx hb hml hr hts hown hlocks hE hK hP hS ls hl
  generalize hQ : qRO _ _ _ _ = Q
  have hl : lv_has ls 3 [(0, .ref (f 0)), (1, .int p1)] := hl
  rw [fX1_minuteAt] at h
  refine lv_aload_n hx hb dX1_minuteAt_0 rfl (lv_at hl 0 rfl) ?_
  refine lv_iload_n hx hb dX1_minuteAt_1 rfl (lv_at hl 1 rfl) ?_
  obtain ⟨q2, e2, h⟩ := bd_some h
  refine g_roV (wc := (zwT cI cC f c_letters c_size)) ⟨hx, hb, hml, hown, hts⟩ hE hK hP hS [0, 1] rfl (mX1_digitAt l dC dI cI cC sk f p1 c_letters c_size q2 e2) (cwV 1 hts gX1_minuteAt_X1_digitAt rfl rfl rfl (by decide +kernel) ⟨Nat.le_of_ble_eq_true rfl, Nat.le_of_ble_eq_true rfl⟩) (va_recv hK hP (ci := 1) (q0 := 0) rfl rfl) (As := [.int p1]) (rest := []) rfl hl.1 rfl (Nat.le_of_ble_eq_true rfl) dX1_minuteAt_2 ⟨Nat.zero_le _, Nat.zero_le _⟩ (fun H locs hP hS => ?_)
  refine lv_istore_n (lv' := [(2, .int q2), (0, .ref (f 0)), (1, .int p1)]) hx hb dX1_minuteAt_5 rfl hl (by decide) rfl (fun ls hl => ?_)
  refine lv_bipush (v := (100 : Int32)) hx hb dX1_minuteAt_6 (by decide) ?_
  refine lv_aload_n hx hb dX1_minuteAt_8 rfl (lv_at hl 1 rfl) ?_
  refine lv_iload_n hx hb dX1_minuteAt_9 rfl (lv_at hl 2 rfl) ?_
  refine lv_iconst (v := (1 : Int32)) hx hb dX1_minuteAt_10 (by decide) ?_
  refine lv_iadd hx hb dX1_minuteAt_11 ?_
  obtain ⟨q12, e12, h⟩ := bd_some h
  refine g_roV (wc := (zwT cI cC f c_letters c_size)) ⟨hx, hb, hml, hown, hts⟩ hE hK hP hS [0, 1] rfl (mX1_letterAt l dC dI cI cC sk f (p1 + (1 : Int32)) c_letters c_size q12 e12) (cwV 1 hts gX1_minuteAt_X1_letterAt rfl rfl rfl (by decide +kernel) ⟨Nat.le_of_ble_eq_true rfl, Nat.le_of_ble_eq_true rfl⟩) (va_recv hK hP (ci := 1) (q0 := 0) rfl rfl) (As := [.int (p1 + (1 : Int32))]) (rest := [.int (100 : Int32)]) rfl hl.1 rfl (Nat.le_of_ble_eq_true rfl) dX1_minuteAt_12 ⟨Nat.zero_le _, Nat.zero_le _⟩ (fun H locs hP hS => ?_)
  obtain ⟨q15, e15, h⟩ := bd_some h
  refine g_roS (wc := ([] : va_W)) ⟨hx, hb, hml, hown, hts⟩ hE hK hP hS [] rfl (mX1_isOf l dC dI cI cC sk  (100 : Int32) q12 q15 e15) (va_cwS 2 hts gX1_minuteAt_X1_isOf rfl rfl rfl (by decide +kernel) ⟨Nat.le_of_ble_eq_true rfl, Nat.le_of_ble_eq_true rfl⟩) (As := [.int (100 : Int32), .int q12]) (rest := []) rfl hl.1 rfl (Nat.le_of_ble_eq_true rfl) dX1_minuteAt_15 ⟨Nat.zero_le _, Nat.zero_le _⟩ (fun H locs hP hS => ?_)
  refine lv_if_eq (tgt := 36) hx hb dX1_minuteAt_18 (by decide) (fun c18 => ?_) (fun c18 => ?_)
  · have h := itT c18 h
    refine lv_iload_n hx hb dX1_minuteAt_36 rfl (lv_at hl 0 rfl) ?_
    subst hQ
    exact retRO hx hb hr hlocks rfl hS h dX1_minuteAt_37
  have h := itF c18 h
  refine lv_bipush (v := (10 : Int32)) hx hb dX1_minuteAt_21 (by decide) ?_
  refine lv_iload_n hx hb dX1_minuteAt_23 rfl (lv_at hl 0 rfl) ?_
  refine lv_imul hx hb dX1_minuteAt_24 ?_
  refine lv_aload_n hx hb dX1_minuteAt_25 rfl (lv_at hl 1 rfl) ?_
  refine lv_iload_n hx hb dX1_minuteAt_26 rfl (lv_at hl 2 rfl) ?_
  refine lv_iconst (v := (1 : Int32)) hx hb dX1_minuteAt_27 (by decide) ?_
  refine lv_iadd hx hb dX1_minuteAt_28 ?_
  obtain ⟨q29, e29, h⟩ := bd_some h
  refine g_roV (wc := (zwT cI cC f c_letters c_size)) ⟨hx, hb, hml, hown, hts⟩ hE hK hP hS [0, 1] rfl (mX1_digitAt l dC dI cI cC sk f (p1 + (1 : Int32)) c_letters c_size q29 e29) (cwV 1 hts gX1_minuteAt_X1_digitAt rfl rfl rfl (by decide +kernel) ⟨Nat.le_of_ble_eq_true rfl, Nat.le_of_ble_eq_true rfl⟩) (va_recv hK hP (ci := 1) (q0 := 0) rfl rfl) (As := [.int (p1 + (1 : Int32))]) (rest := [.int ((10 : Int32) * q2)]) rfl hl.1 rfl (Nat.le_of_ble_eq_true rfl) dX1_minuteAt_29 ⟨Nat.zero_le _, Nat.zero_le _⟩ (fun H locs hP hS => ?_)
  refine lv_iadd hx hb dX1_minuteAt_32 ?_
  refine lv_goto (tgt := 37) hx hb dX1_minuteAt_33 (by decide) ?_
  subst hQ
  exact retRO hx hb hr hlocks rfl hS h dX1_minuteAt_37
theorem dX1_tellOne_0 : decode cX1_tellOne 0 = .ok (.aload_n 0, 1) := by decide +kernel
theorem dX1_tellOne_1 : decode cX1_tellOne 1 = .ok (.iload_n 2, 1) := by decide +kernel
theorem dX1_tellOne_2 : decode cX1_tellOne 2 = .ok (.invokevirtual 40, 3) := by decide +kernel
theorem dX1_tellOne_5 : decode cX1_tellOne 5 = .ok (.lookupswitch 51 #[(109, 39), (114, 27)], 27) := by decide +kernel
theorem dX1_tellOne_32 : decode cX1_tellOne 32 = .ok (.aload_n 1, 1) := by decide +kernel
theorem dX1_tellOne_33 : decode cX1_tellOne 33 = .ok (.aload_n 0, 1) := by decide +kernel
theorem dX1_tellOne_34 : decode cX1_tellOne 34 = .ok (.iload_n 2, 1) := by decide +kernel
theorem dX1_tellOne_35 : decode cX1_tellOne 35 = .ok (.iconst 1, 1) := by decide +kernel
theorem dX1_tellOne_36 : decode cX1_tellOne 36 = .ok (.iadd, 1) := by decide +kernel
theorem dX1_tellOne_37 : decode cX1_tellOne 37 = .ok (.invokevirtual 48, 3) := by decide +kernel
theorem dX1_tellOne_40 : decode cX1_tellOne 40 = .ok (.invokevirtual 51, 3) := by decide +kernel
theorem dX1_tellOne_43 : decode cX1_tellOne 43 = .ok (.ireturn, 1) := by decide +kernel
theorem dX1_tellOne_44 : decode cX1_tellOne 44 = .ok (.aload_n 1, 1) := by decide +kernel
theorem dX1_tellOne_45 : decode cX1_tellOne 45 = .ok (.aload_n 0, 1) := by decide +kernel
theorem dX1_tellOne_46 : decode cX1_tellOne 46 = .ok (.iload_n 2, 1) := by decide +kernel
theorem dX1_tellOne_47 : decode cX1_tellOne 47 = .ok (.iconst 1, 1) := by decide +kernel
theorem dX1_tellOne_48 : decode cX1_tellOne 48 = .ok (.iadd, 1) := by decide +kernel
theorem dX1_tellOne_49 : decode cX1_tellOne 49 = .ok (.invokevirtual 57, 3) := by decide +kernel
theorem dX1_tellOne_52 : decode cX1_tellOne 52 = .ok (.invokevirtual 60, 3) := by decide +kernel
theorem dX1_tellOne_55 : decode cX1_tellOne 55 = .ok (.ireturn, 1) := by decide +kernel
theorem dX1_tellOne_56 : decode cX1_tellOne 56 = .ok (.aload_n 0, 1) := by decide +kernel
theorem dX1_tellOne_57 : decode cX1_tellOne 57 = .ok (.iload_n 2, 1) := by decide +kernel
theorem dX1_tellOne_58 : decode cX1_tellOne 58 = .ok (.iconst 5, 1) := by decide +kernel
theorem dX1_tellOne_59 : decode cX1_tellOne 59 = .ok (.iadd, 1) := by decide +kernel
theorem dX1_tellOne_60 : decode cX1_tellOne 60 = .ok (.invokevirtual 48, 3) := by decide +kernel
theorem dX1_tellOne_63 : decode cX1_tellOne 63 = .ok (.istore_n 3, 1) := by decide +kernel
theorem dX1_tellOne_64 : decode cX1_tellOne 64 = .ok (.aload_n 1, 1) := by decide +kernel
theorem dX1_tellOne_65 : decode cX1_tellOne 65 = .ok (.aload_n 0, 1) := by decide +kernel
theorem dX1_tellOne_66 : decode cX1_tellOne 66 = .ok (.iload_n 2, 1) := by decide +kernel
theorem dX1_tellOne_67 : decode cX1_tellOne 67 = .ok (.iconst 1, 1) := by decide +kernel
theorem dX1_tellOne_68 : decode cX1_tellOne 68 = .ok (.iadd, 1) := by decide +kernel
theorem dX1_tellOne_69 : decode cX1_tellOne 69 = .ok (.invokevirtual 40, 3) := by decide +kernel
theorem dX1_tellOne_72 : decode cX1_tellOne 72 = .ok (.invokestatic 63, 3) := by decide +kernel
theorem dX1_tellOne_75 : decode cX1_tellOne 75 = .ok (.aload_n 0, 1) := by decide +kernel
theorem dX1_tellOne_76 : decode cX1_tellOne 76 = .ok (.iload_n 2, 1) := by decide +kernel
theorem dX1_tellOne_77 : decode cX1_tellOne 77 = .ok (.iconst 2, 1) := by decide +kernel
theorem dX1_tellOne_78 : decode cX1_tellOne 78 = .ok (.iadd, 1) := by decide +kernel
theorem dX1_tellOne_79 : decode cX1_tellOne 79 = .ok (.invokevirtual 48, 3) := by decide +kernel
theorem dX1_tellOne_82 : decode cX1_tellOne 82 = .ok (.aload_n 0, 1) := by decide +kernel
theorem dX1_tellOne_83 : decode cX1_tellOne 83 = .ok (.iload_n 2, 1) := by decide +kernel
theorem dX1_tellOne_84 : decode cX1_tellOne 84 = .ok (.iconst 3, 1) := by decide +kernel
theorem dX1_tellOne_85 : decode cX1_tellOne 85 = .ok (.iadd, 1) := by decide +kernel
theorem dX1_tellOne_86 : decode cX1_tellOne 86 = .ok (.invokevirtual 48, 3) := by decide +kernel
theorem dX1_tellOne_89 : decode cX1_tellOne 89 = .ok (.aload_n 0, 1) := by decide +kernel
theorem dX1_tellOne_90 : decode cX1_tellOne 90 = .ok (.iload_n 2, 1) := by decide +kernel
theorem dX1_tellOne_91 : decode cX1_tellOne 91 = .ok (.iconst 4, 1) := by decide +kernel
theorem dX1_tellOne_92 : decode cX1_tellOne 92 = .ok (.iadd, 1) := by decide +kernel
theorem dX1_tellOne_93 : decode cX1_tellOne 93 = .ok (.invokevirtual 40, 3) := by decide +kernel
theorem dX1_tellOne_96 : decode cX1_tellOne 96 = .ok (.bipush 108, 2) := by decide +kernel
theorem dX1_tellOne_98 : decode cX1_tellOne 98 = .ok (.if_icmp .ne 8, 3) := by decide +kernel
theorem dX1_tellOne_101 : decode cX1_tellOne 101 = .ok (.iload_n 3, 1) := by decide +kernel
theorem dX1_tellOne_102 : decode cX1_tellOne 102 = .ok (.ineg, 1) := by decide +kernel
theorem dX1_tellOne_103 : decode cX1_tellOne 103 = .ok (.goto 4, 3) := by decide +kernel
theorem dX1_tellOne_106 : decode cX1_tellOne 106 = .ok (.iload_n 3, 1) := by decide +kernel
theorem dX1_tellOne_107 : decode cX1_tellOne 107 = .ok (.aload_n 0, 1) := by decide +kernel
theorem dX1_tellOne_108 : decode cX1_tellOne 108 = .ok (.iload_n 2, 1) := by decide +kernel
theorem dX1_tellOne_109 : decode cX1_tellOne 109 = .ok (.bipush 6, 2) := by decide +kernel
theorem dX1_tellOne_111 : decode cX1_tellOne 111 = .ok (.iadd, 1) := by decide +kernel
theorem dX1_tellOne_112 : decode cX1_tellOne 112 = .ok (.invokevirtual 48, 3) := by decide +kernel
theorem dX1_tellOne_115 : decode cX1_tellOne 115 = .ok (.invokevirtual 66, 3) := by decide +kernel
theorem dX1_tellOne_118 : decode cX1_tellOne 118 = .ok (.ireturn, 1) := by decide +kernel
set_option maxRecDepth 20000 in
theorem ggX1_tellOne_X1_letterAt : GoodIn wsX1_tellOne wsX1_letterAt := goodIn_r _ [5, 6, 7, 107, 108] (by decide +kernel) (by decide +kernel)
set_option maxRecDepth 20000 in
theorem gX1_tellOne_X1_letterAt : GoodIn wsX1_tellOne (wsV RX1 40 RX1 yX1_letterAt wsX1_letterAt) := goodIn_app (goodIn_of _ (by decide +kernel)) ggX1_tellOne_X1_letterAt
set_option maxRecDepth 20000 in
theorem ggX1_tellOne_X1_digitAt : GoodIn wsX1_tellOne wsX1_digitAt := goodIn_r _ [11, 1, 2, 3, 4, 5, 6, 7, 107, 108] (by decide +kernel) (by decide +kernel)
set_option maxRecDepth 20000 in
theorem gX1_tellOne_X1_digitAt : GoodIn wsX1_tellOne (wsV RX1 48 RX1 yX1_digitAt wsX1_digitAt) := goodIn_app (goodIn_of _ (by decide +kernel)) ggX1_tellOne_X1_digitAt
set_option maxRecDepth 20000 in
theorem ggX1_tellOne_X0_widen : GoodIn wsX1_tellOne wsX0_widen := goodIn_r _ [16, 17, 18, 19, 20, 21, 15, 22, 23, 24, 25, 26, 27, 109, 110, 111, 112, 113, 114, 115, 116] (by decide +kernel) (by decide +kernel)
set_option maxRecDepth 20000 in
theorem gX1_tellOne_X0_widen : GoodIn wsX1_tellOne (wsV RX1 51 RX0 yX0_widen wsX0_widen) := goodIn_app (goodIn_of _ (by decide +kernel)) ggX1_tellOne_X0_widen
set_option maxRecDepth 20000 in
theorem ggX1_tellOne_X1_minuteAt : GoodIn wsX1_tellOne wsX1_minuteAt := goodIn_r _ [31, 8, 9, 10, 4, 11, 1, 2, 3, 5, 6, 7, 32, 33, 34, 35, 36, 37, 38, 39, 40, 41, 42, 43, 44, 45, 46, 47, 48, 49, 50, 51, 52, 53, 54, 55, 56, 57, 58, 59, 60, 61, 62, 63, 64, 65, 66, 67, 68, 69, 70, 71, 72, 73, 74, 75, 76, 77, 78, 79, 80, 81, 82, 83, 84, 85, 86, 107, 108] (by decide +kernel) (by decide +kernel)
set_option maxRecDepth 20000 in
theorem gX1_tellOne_X1_minuteAt : GoodIn wsX1_tellOne (wsV RX1 57 RX1 yX1_minuteAt wsX1_minuteAt) := goodIn_app (goodIn_of _ (by decide +kernel)) ggX1_tellOne_X1_minuteAt
set_option maxRecDepth 20000 in
theorem ggX1_tellOne_X0_turnTo : GoodIn wsX1_tellOne wsX0_turnTo := goodIn_r _ [90, 91, 109, 110, 111, 112, 113, 114, 115, 116] (by decide +kernel) (by decide +kernel)
set_option maxRecDepth 20000 in
theorem gX1_tellOne_X0_turnTo : GoodIn wsX1_tellOne (wsV RX1 60 RX0 yX0_turnTo wsX0_turnTo) := goodIn_app (goodIn_of _ (by decide +kernel)) ggX1_tellOne_X0_turnTo
set_option maxRecDepth 20000 in
theorem ggX1_tellOne_X1_kindOf : GoodIn wsX1_tellOne wsX1_kindOf := goodIn_r _ [37, 38, 39, 40, 41, 42, 43, 44, 45, 46, 47, 48, 49, 50, 51, 52, 53, 54, 55, 56, 57, 58, 59, 60, 61, 62, 63, 64, 65, 66, 67, 68, 69, 70, 71, 72, 73, 74, 75, 76, 77, 78, 79, 80, 81, 82, 83, 84, 85, 86] (by decide +kernel) (by decide +kernel)
set_option maxRecDepth 20000 in
theorem gX1_tellOne_X1_kindOf : GoodIn wsX1_tellOne (va_wsS RX1 63 yX1_kindOf wsX1_kindOf) := goodIn_app (goodIn_of _ (by decide +kernel)) ggX1_tellOne_X1_kindOf
set_option maxRecDepth 20000 in
theorem ggX1_tellOne_X0_add : GoodIn wsX1_tellOne wsX0_add := goodIn_r _ [95, 17, 18, 96, 97, 98, 99, 100, 23, 101, 102, 103, 104, 105, 106, 109, 110, 111, 112, 113, 114, 115, 116] (by decide +kernel) (by decide +kernel)
set_option maxRecDepth 20000 in
theorem gX1_tellOne_X0_add : GoodIn wsX1_tellOne (wsV RX1 66 RX0 yX0_add wsX0_add) := goodIn_app (goodIn_of _ (by decide +kernel)) ggX1_tellOne_X0_add
set_option maxHeartbeats 4000000 in
set_option maxRecDepth 100000 in
theorem mX1_tellOne (l : Launch) (dC : Nat → ClassId) (dI : Nat → Nat → Nat) (cI cC : ClassId) (sk : (Nat → Nat) × (Nat → Nat)) (f : Nat → Nat) (sz : Nat) (p2 : Int32) (c_r : RT) (c_letters : AR) (c_size : Int32) (z : Int32 × RT) (h : fX1_tellOne p2 c_r c_letters c_size = some z) : cRW l yX1_tellOne wsX1_tellOne (RMk 7 149) sk (dC, dI) (tyz cI cC) sz (zwTR cI cC f c_r c_letters c_size) (zwTR cI cC f z.2 c_letters c_size) [.ref (f 6), .ref (f 0), .int p2] z.1 := by
  refine ofRW (cc := cX1_tellOne) (maxL := 4) (ret := (some .boolean)) (own := RX1) (plainFor_of_name (by decide)) rfl rfl (Nat.le_of_ble_eq_true rfl) ?_
  intro p e s m args below meth c A hA hx hb hml hr hts hown hlocks hE hK hP hD hS ls hl
  generalize hQ : qRW _ _ _ _ _ _ _ = Q
  have hl : lv_has ls 4 [(0, .ref (f 6)), (1, .ref (f 0)), (2, .int p2)] := hl
  rw [fX1_tellOne] at h
  refine lv_aload_n hx hb dX1_tellOne_0 rfl (lv_at hl 0 rfl) ?_
  refine lv_iload_n hx hb dX1_tellOne_1 rfl (lv_at hl 2 rfl) ?_
  obtain ⟨q2, e2, h⟩ := bd_some h
  refine g_roV (wc := (zwT cI cC (fun k => f (k + 6)) c_letters c_size)) ⟨hx, hb, hml, hown, hts⟩ hE hK hP hS [6, 7] rfl (mX1_letterAt l dC dI cI cC sk (fun k => f (k + 6)) p2 c_letters c_size q2 e2) (cwV 1 hts gX1_tellOne_X1_letterAt rfl rfl rfl (by decide +kernel) ⟨Nat.le_of_ble_eq_true rfl, Nat.le_of_ble_eq_true rfl⟩) (va_recv hK hP (ci := 1) (q0 := 6) rfl rfl) (As := [.int p2]) (rest := []) rfl hl.1 rfl (Nat.le_of_ble_eq_true rfl) dX1_tellOne_2 ⟨Nat.zero_le _, Nat.zero_le _⟩ (fun H locs hP hS => ?_)
  by_cases n109 : q2 = (109 : Int32)
  · have h := itT n109 h
    refine lv_lookup (off := 39) (tgt := 44) hx hb dX1_tellOne_5 (by decide) (by rw [n109]; decide) (by decide) ?_
    refine lv_aload_n hx hb dX1_tellOne_44 rfl (lv_at hl 1 rfl) ?_
    refine lv_aload_n hx hb dX1_tellOne_45 rfl (lv_at hl 0 rfl) ?_
    refine lv_iload_n hx hb dX1_tellOne_46 rfl (lv_at hl 2 rfl) ?_
    refine lv_iconst (v := (1 : Int32)) hx hb dX1_tellOne_47 (by decide) ?_
    refine lv_iadd hx hb dX1_tellOne_48 ?_
    obtain ⟨q49, e49, h⟩ := bd_some h
    refine g_roV (wc := (zwT cI cC (fun k => f (k + 6)) c_letters c_size)) ⟨hx, hb, hml, hown, hts⟩ hE hK hP hS [6, 7] rfl (mX1_minuteAt l dC dI cI cC sk (fun k => f (k + 6)) (p2 + (1 : Int32)) c_letters c_size q49 e49) (cwV 1 hts gX1_tellOne_X1_minuteAt rfl rfl rfl (by decide +kernel) ⟨Nat.le_of_ble_eq_true rfl, Nat.le_of_ble_eq_true rfl⟩) (va_recv hK hP (ci := 1) (q0 := 6) rfl rfl) (As := [.int (p2 + (1 : Int32))]) (rest := [.ref (f 0)]) rfl hl.1 rfl (Nat.le_of_ble_eq_true rfl) dX1_tellOne_49 ⟨Nat.zero_le _, Nat.zero_le _⟩ (fun H locs hP hS => ?_)
    obtain ⟨q52, e52, h⟩ := bd_some h
    refine g_rwV (wc := (zwR cI cC f c_r)) (wc' := (zwR cI cC f q52.2)) ⟨hx, hb, hml, hown, hts⟩ hE hK hA hP hD hS [0, 1, 2, 3, 4, 5] rfl rfl rfl (mX0_turnTo l dC dI cI cC sk f H.size q49 c_r q52 e52) (cwV 1 hts gX1_tellOne_X0_turnTo rfl rfl rfl (by decide +kernel) ⟨Nat.le_of_ble_eq_true rfl, Nat.le_of_ble_eq_true rfl⟩) (va_recv hK hP (ci := 0) (q0 := 0) rfl rfl) (As := [.int q49]) (rest := []) rfl hl.1 rfl (Nat.le_of_ble_eq_true rfl) dX1_tellOne_52 ⟨Nat.zero_le _, Nat.zero_le _⟩ (fun H locs hP hD hS => ?_)
    have hP : va_P (dC, dI) vwCl (zwTR cI cC f q52.2 c_letters c_size) H := hP
    have hD : va_D A (zwTR cI cC f q52.2 c_letters c_size) := hD
    obtain ⟨hz, h⟩ := ckb_some h
    subst hQ
    exact retRW (zz := ((q52.1, q52.2) : Int32 × RT)) (fun z => z.1) (fun z => (zwTR cI cC f z.2 c_letters c_size)) hx hb hr hlocks (ckb_n hz) hS h rfl hP dX1_tellOne_55
  have h := itF n109 h
  by_cases n114 : q2 = (114 : Int32)
  · have h := itT n114 h
    refine lv_lookup (off := 27) (tgt := 32) hx hb dX1_tellOne_5 (by decide) (by rw [n114]; decide) (by decide) ?_
    refine lv_aload_n hx hb dX1_tellOne_32 rfl (lv_at hl 1 rfl) ?_
    refine lv_aload_n hx hb dX1_tellOne_33 rfl (lv_at hl 0 rfl) ?_
    refine lv_iload_n hx hb dX1_tellOne_34 rfl (lv_at hl 2 rfl) ?_
    refine lv_iconst (v := (1 : Int32)) hx hb dX1_tellOne_35 (by decide) ?_
    refine lv_iadd hx hb dX1_tellOne_36 ?_
    obtain ⟨q37, e37, h⟩ := bd_some h
    refine g_roV (wc := (zwT cI cC (fun k => f (k + 6)) c_letters c_size)) ⟨hx, hb, hml, hown, hts⟩ hE hK hP hS [6, 7] rfl (mX1_digitAt l dC dI cI cC sk (fun k => f (k + 6)) (p2 + (1 : Int32)) c_letters c_size q37 e37) (cwV 1 hts gX1_tellOne_X1_digitAt rfl rfl rfl (by decide +kernel) ⟨Nat.le_of_ble_eq_true rfl, Nat.le_of_ble_eq_true rfl⟩) (va_recv hK hP (ci := 1) (q0 := 6) rfl rfl) (As := [.int (p2 + (1 : Int32))]) (rest := [.ref (f 0)]) rfl hl.1 rfl (Nat.le_of_ble_eq_true rfl) dX1_tellOne_37 ⟨Nat.zero_le _, Nat.zero_le _⟩ (fun H locs hP hS => ?_)
    obtain ⟨q40, e40, h⟩ := bd_some h
    refine g_rwV (wc := (zwR cI cC f c_r)) (wc' := (zwR cI cC f q40.2)) ⟨hx, hb, hml, hown, hts⟩ hE hK hA hP hD hS [0, 1, 2, 3, 4, 5] rfl rfl rfl (mX0_widen l dC dI cI cC sk f H.size q37 c_r q40 e40) (cwV 1 hts gX1_tellOne_X0_widen rfl rfl rfl (by decide +kernel) ⟨Nat.le_of_ble_eq_true rfl, Nat.le_of_ble_eq_true rfl⟩) (va_recv hK hP (ci := 0) (q0 := 0) rfl rfl) (As := [.int q37]) (rest := []) rfl hl.1 rfl (Nat.le_of_ble_eq_true rfl) dX1_tellOne_40 ⟨Nat.zero_le _, Nat.zero_le _⟩ (fun H locs hP hD hS => ?_)
    have hP : va_P (dC, dI) vwCl (zwTR cI cC f q40.2 c_letters c_size) H := hP
    have hD : va_D A (zwTR cI cC f q40.2 c_letters c_size) := hD
    obtain ⟨hz, h⟩ := ckb_some h
    subst hQ
    exact retRW (zz := ((q40.1, q40.2) : Int32 × RT)) (fun z => z.1) (fun z => (zwTR cI cC f z.2 c_letters c_size)) hx hb hr hlocks (ckb_n hz) hS h rfl hP dX1_tellOne_43
  have h := itF n114 h
  have m109 := neI n109 (i := 109) rfl
  have m114 := neI n114 (i := 114) rfl
  refine lv_lookup (off := 51) (tgt := 56) hx hb dX1_tellOne_5 (by decide) (by simp [Op.lookupswitch.offset, m109, Ne.symm m109, m114, Ne.symm m114]) (by decide) ?_
  refine lv_aload_n hx hb dX1_tellOne_56 rfl (lv_at hl 0 rfl) ?_
  refine lv_iload_n hx hb dX1_tellOne_57 rfl (lv_at hl 2 rfl) ?_
  refine lv_iconst (v := (5 : Int32)) hx hb dX1_tellOne_58 (by decide) ?_
  refine lv_iadd hx hb dX1_tellOne_59 ?_
  obtain ⟨q60, e60, h⟩ := bd_some h
  refine g_roV (wc := (zwT cI cC (fun k => f (k + 6)) c_letters c_size)) ⟨hx, hb, hml, hown, hts⟩ hE hK hP hS [6, 7] rfl (mX1_digitAt l dC dI cI cC sk (fun k => f (k + 6)) (p2 + (5 : Int32)) c_letters c_size q60 e60) (cwV 1 hts gX1_tellOne_X1_digitAt rfl rfl rfl (by decide +kernel) ⟨Nat.le_of_ble_eq_true rfl, Nat.le_of_ble_eq_true rfl⟩) (va_recv hK hP (ci := 1) (q0 := 6) rfl rfl) (As := [.int (p2 + (5 : Int32))]) (rest := []) rfl hl.1 rfl (Nat.le_of_ble_eq_true rfl) dX1_tellOne_60 ⟨Nat.zero_le _, Nat.zero_le _⟩ (fun H locs hP hS => ?_)
  refine lv_istore_n (lv' := [(3, .int q60), (0, .ref (f 6)), (1, .ref (f 0)), (2, .int p2)]) hx hb dX1_tellOne_63 rfl hl (by decide) rfl (fun ls hl => ?_)
  refine lv_aload_n hx hb dX1_tellOne_64 rfl (lv_at hl 2 rfl) ?_
  refine lv_aload_n hx hb dX1_tellOne_65 rfl (lv_at hl 1 rfl) ?_
  refine lv_iload_n hx hb dX1_tellOne_66 rfl (lv_at hl 3 rfl) ?_
  refine lv_iconst (v := (1 : Int32)) hx hb dX1_tellOne_67 (by decide) ?_
  refine lv_iadd hx hb dX1_tellOne_68 ?_
  obtain ⟨q69, e69, h⟩ := bd_some h
  refine g_roV (wc := (zwT cI cC (fun k => f (k + 6)) c_letters c_size)) ⟨hx, hb, hml, hown, hts⟩ hE hK hP hS [6, 7] rfl (mX1_letterAt l dC dI cI cC sk (fun k => f (k + 6)) (p2 + (1 : Int32)) c_letters c_size q69 e69) (cwV 1 hts gX1_tellOne_X1_letterAt rfl rfl rfl (by decide +kernel) ⟨Nat.le_of_ble_eq_true rfl, Nat.le_of_ble_eq_true rfl⟩) (va_recv hK hP (ci := 1) (q0 := 6) rfl rfl) (As := [.int (p2 + (1 : Int32))]) (rest := [.ref (f 0)]) rfl hl.1 rfl (Nat.le_of_ble_eq_true rfl) dX1_tellOne_69 ⟨Nat.zero_le _, Nat.zero_le _⟩ (fun H locs hP hS => ?_)
  obtain ⟨q72, e72, h⟩ := bd_some h
  refine g_roS (wc := ([] : va_W)) ⟨hx, hb, hml, hown, hts⟩ hE hK hP hS [] rfl (mX1_kindOf l dC dI cI cC sk  q69 q72 e72) (va_cwS 1 hts gX1_tellOne_X1_kindOf rfl rfl rfl (by decide +kernel) ⟨Nat.le_of_ble_eq_true rfl, Nat.le_of_ble_eq_true rfl⟩) (As := [.int q69]) (rest := [.ref (f 0)]) rfl hl.1 rfl (Nat.le_of_ble_eq_true rfl) dX1_tellOne_72 ⟨Nat.zero_le _, Nat.zero_le _⟩ (fun H locs hP hS => ?_)
  refine lv_aload_n hx hb dX1_tellOne_75 rfl (lv_at hl 1 rfl) ?_
  refine lv_iload_n hx hb dX1_tellOne_76 rfl (lv_at hl 3 rfl) ?_
  refine lv_iconst (v := (2 : Int32)) hx hb dX1_tellOne_77 (by decide) ?_
  refine lv_iadd hx hb dX1_tellOne_78 ?_
  obtain ⟨q79, e79, h⟩ := bd_some h
  refine g_roV (wc := (zwT cI cC (fun k => f (k + 6)) c_letters c_size)) ⟨hx, hb, hml, hown, hts⟩ hE hK hP hS [6, 7] rfl (mX1_digitAt l dC dI cI cC sk (fun k => f (k + 6)) (p2 + (2 : Int32)) c_letters c_size q79 e79) (cwV 1 hts gX1_tellOne_X1_digitAt rfl rfl rfl (by decide +kernel) ⟨Nat.le_of_ble_eq_true rfl, Nat.le_of_ble_eq_true rfl⟩) (va_recv hK hP (ci := 1) (q0 := 6) rfl rfl) (As := [.int (p2 + (2 : Int32))]) (rest := [.int q72, .ref (f 0)]) rfl hl.1 rfl (Nat.le_of_ble_eq_true rfl) dX1_tellOne_79 ⟨Nat.zero_le _, Nat.zero_le _⟩ (fun H locs hP hS => ?_)
  refine lv_aload_n hx hb dX1_tellOne_82 rfl (lv_at hl 1 rfl) ?_
  refine lv_iload_n hx hb dX1_tellOne_83 rfl (lv_at hl 3 rfl) ?_
  refine lv_iconst (v := (3 : Int32)) hx hb dX1_tellOne_84 (by decide) ?_
  refine lv_iadd hx hb dX1_tellOne_85 ?_
  obtain ⟨q86, e86, h⟩ := bd_some h
  refine g_roV (wc := (zwT cI cC (fun k => f (k + 6)) c_letters c_size)) ⟨hx, hb, hml, hown, hts⟩ hE hK hP hS [6, 7] rfl (mX1_digitAt l dC dI cI cC sk (fun k => f (k + 6)) (p2 + (3 : Int32)) c_letters c_size q86 e86) (cwV 1 hts gX1_tellOne_X1_digitAt rfl rfl rfl (by decide +kernel) ⟨Nat.le_of_ble_eq_true rfl, Nat.le_of_ble_eq_true rfl⟩) (va_recv hK hP (ci := 1) (q0 := 6) rfl rfl) (As := [.int (p2 + (3 : Int32))]) (rest := [.int q79, .int q72, .ref (f 0)]) rfl hl.1 rfl (Nat.le_of_ble_eq_true rfl) dX1_tellOne_86 ⟨Nat.zero_le _, Nat.zero_le _⟩ (fun H locs hP hS => ?_)
  refine lv_aload_n hx hb dX1_tellOne_89 rfl (lv_at hl 1 rfl) ?_
  refine lv_iload_n hx hb dX1_tellOne_90 rfl (lv_at hl 3 rfl) ?_
  refine lv_iconst (v := (4 : Int32)) hx hb dX1_tellOne_91 (by decide) ?_
  refine lv_iadd hx hb dX1_tellOne_92 ?_
  obtain ⟨q93, e93, h⟩ := bd_some h
  refine g_roV (wc := (zwT cI cC (fun k => f (k + 6)) c_letters c_size)) ⟨hx, hb, hml, hown, hts⟩ hE hK hP hS [6, 7] rfl (mX1_letterAt l dC dI cI cC sk (fun k => f (k + 6)) (p2 + (4 : Int32)) c_letters c_size q93 e93) (cwV 1 hts gX1_tellOne_X1_letterAt rfl rfl rfl (by decide +kernel) ⟨Nat.le_of_ble_eq_true rfl, Nat.le_of_ble_eq_true rfl⟩) (va_recv hK hP (ci := 1) (q0 := 6) rfl rfl) (As := [.int (p2 + (4 : Int32))]) (rest := [.int q86, .int q79, .int q72, .ref (f 0)]) rfl hl.1 rfl (Nat.le_of_ble_eq_true rfl) dX1_tellOne_93 ⟨Nat.zero_le _, Nat.zero_le _⟩ (fun H locs hP hS => ?_)
  refine lv_bipush (v := (108 : Int32)) hx hb dX1_tellOne_96 (by decide) ?_
  refine jnW (fun (v107 : Int32) => ∀ (H : Heap) (locs : List Loc) (ls : Array Slot), va_P (dC, dI) vwCl (zwTR cI cC f c_r c_letters c_size) H → va_D A (zwTR cI cC f c_r c_letters c_size) → va_S A s.heap H locs → lv_has ls 4 [(0, .ref (f 6)), (2, .int p2)] → W p l e (RMk 7 149) s m args below meth c H locs 0 0 Q (F0 m 107 ls [.int v107, .int q86, .int q79, .int q72, .ref (f 0)])) h (fun v107 h H locs ls hP hD hS hl => ?_) (fun J107 j107 h => ?_)
  · refine lv_aload_n hx hb dX1_tellOne_107 rfl (lv_at hl 0 rfl) ?_
    refine lv_iload_n hx hb dX1_tellOne_108 rfl (lv_at hl 1 rfl) ?_
    refine lv_bipush (v := (6 : Int32)) hx hb dX1_tellOne_109 (by decide) ?_
    refine lv_iadd hx hb dX1_tellOne_111 ?_
    obtain ⟨q112, e112, h⟩ := bd_some h
    refine g_roV (wc := (zwT cI cC (fun k => f (k + 6)) c_letters c_size)) ⟨hx, hb, hml, hown, hts⟩ hE hK hP hS [6, 7] rfl (mX1_digitAt l dC dI cI cC sk (fun k => f (k + 6)) (p2 + (6 : Int32)) c_letters c_size q112 e112) (cwV 1 hts gX1_tellOne_X1_digitAt rfl rfl rfl (by decide +kernel) ⟨Nat.le_of_ble_eq_true rfl, Nat.le_of_ble_eq_true rfl⟩) (va_recv hK hP (ci := 1) (q0 := 6) rfl rfl) (As := [.int (p2 + (6 : Int32))]) (rest := [.int v107, .int q86, .int q79, .int q72, .ref (f 0)]) rfl hl.1 rfl (Nat.le_of_ble_eq_true rfl) dX1_tellOne_112 ⟨Nat.zero_le _, Nat.zero_le _⟩ (fun H locs hP hS => ?_)
    obtain ⟨q115, e115, h⟩ := bd_some h
    refine g_rwV (wc := (zwR cI cC f c_r)) (wc' := (zwR cI cC f q115.2)) ⟨hx, hb, hml, hown, hts⟩ hE hK hA hP hD hS [0, 1, 2, 3, 4, 5] rfl rfl rfl (mX0_add l dC dI cI cC sk f H.size q72 q79 q86 v107 q112 c_r q115 e115) (cwV 5 hts gX1_tellOne_X0_add rfl rfl rfl (by decide +kernel) ⟨Nat.le_of_ble_eq_true rfl, Nat.le_of_ble_eq_true rfl⟩) (va_recv hK hP (ci := 0) (q0 := 0) rfl rfl) (As := [.int q72, .int q79, .int q86, .int v107, .int q112]) (rest := []) rfl hl.1 rfl (Nat.le_of_ble_eq_true rfl) dX1_tellOne_115 ⟨Nat.zero_le _, Nat.zero_le _⟩ (fun H locs hP hD hS => ?_)
    have hP : va_P (dC, dI) vwCl (zwTR cI cC f q115.2 c_letters c_size) H := hP
    have hD : va_D A (zwTR cI cC f q115.2 c_letters c_size) := hD
    obtain ⟨hz, h⟩ := ckb_some h
    subst hQ
    exact retRW (zz := ((q115.1, q115.2) : Int32 × RT)) (fun z => z.1) (fun z => (zwTR cI cC f z.2 c_letters c_size)) hx hb hr hlocks (ckb_n hz) hS h rfl hP dX1_tellOne_118
  refine lv_icmp_ne (tgt := 106) hx hb dX1_tellOne_98 (by decide) (fun c98 => ?_) (fun c98 => ?_)
  · have h := itF c98 h
    refine lv_iload_n hx hb dX1_tellOne_106 rfl (lv_at hl 0 rfl) ?_
    exact j107 _ h _ _ _ hP hD hS (lv_sub hl [1, 3] rfl)
  have h := itT c98 h
  refine lv_iload_n hx hb dX1_tellOne_101 rfl (lv_at hl 0 rfl) ?_
  refine lv_ineg hx hb dX1_tellOne_102 ?_
  refine lv_goto (tgt := 107) hx hb dX1_tellOne_103 (by decide) ?_
  exact j107 _ h _ _ _ hP hD hS (lv_sub hl [1, 3] rfl)
theorem dX1_tellTo_0 : decode cX1_tellTo 0 = .ok (.aload_n 0, 1) := by decide +kernel
theorem dX1_tellTo_1 : decode cX1_tellTo 1 = .ok (.invokevirtual 19, 3) := by decide +kernel
theorem dX1_tellTo_4 : decode cX1_tellTo 4 = .ok (.istore_n 2, 1) := by decide +kernel
theorem dX1_tellTo_5 : decode cX1_tellTo 5 = .ok (.iload_n 2, 1) := by decide +kernel
theorem dX1_tellTo_6 : decode cX1_tellTo 6 = .ok (.ifCond .lt 9, 3) := by decide +kernel
theorem dX1_tellTo_9 : decode cX1_tellTo 9 = .ok (.sipush (-1000), 3) := by decide +kernel
theorem dX1_tellTo_12 : decode cX1_tellTo 12 = .ok (.iload_n 2, 1) := by decide +kernel
theorem dX1_tellTo_13 : decode cX1_tellTo 13 = .ok (.isub, 1) := by decide +kernel
theorem dX1_tellTo_14 : decode cX1_tellTo 14 = .ok (.ireturn, 1) := by decide +kernel
theorem dX1_tellTo_15 : decode cX1_tellTo 15 = .ok (.iconst 0, 1) := by decide +kernel
theorem dX1_tellTo_16 : decode cX1_tellTo 16 = .ok (.istore_n 3, 1) := by decide +kernel
theorem dX1_tellTo_17 : decode cX1_tellTo 17 = .ok (.iconst 0, 1) := by decide +kernel
theorem dX1_tellTo_18 : decode cX1_tellTo 18 = .ok (.istore 4, 2) := by decide +kernel
theorem dX1_tellTo_20 : decode cX1_tellTo 20 = .ok (.iload 4, 2) := by decide +kernel
theorem dX1_tellTo_22 : decode cX1_tellTo 22 = .ok (.bipush 80, 2) := by decide +kernel
theorem dX1_tellTo_24 : decode cX1_tellTo 24 = .ok (.if_icmp .ge 43, 3) := by decide +kernel
theorem dX1_tellTo_27 : decode cX1_tellTo 27 = .ok (.iload_n 3, 1) := by decide +kernel
theorem dX1_tellTo_28 : decode cX1_tellTo 28 = .ok (.aload_n 0, 1) := by decide +kernel
theorem dX1_tellTo_29 : decode cX1_tellTo 29 = .ok (.getfield 15, 3) := by decide +kernel
theorem dX1_tellTo_32 : decode cX1_tellTo 32 = .ok (.if_icmp .ge 35, 3) := by decide +kernel
theorem dX1_tellTo_35 : decode cX1_tellTo 35 = .ok (.aload_n 0, 1) := by decide +kernel
theorem dX1_tellTo_36 : decode cX1_tellTo 36 = .ok (.aload_n 1, 1) := by decide +kernel
theorem dX1_tellTo_37 : decode cX1_tellTo 37 = .ok (.iload_n 3, 1) := by decide +kernel
theorem dX1_tellTo_38 : decode cX1_tellTo 38 = .ok (.invokevirtual 23, 3) := by decide +kernel
theorem dX1_tellTo_41 : decode cX1_tellTo 41 = .ok (.ifCond .ne 9, 3) := by decide +kernel
theorem dX1_tellTo_44 : decode cX1_tellTo 44 = .ok (.sipush (-2000), 3) := by decide +kernel
theorem dX1_tellTo_47 : decode cX1_tellTo 47 = .ok (.iload_n 3, 1) := by decide +kernel
theorem dX1_tellTo_48 : decode cX1_tellTo 48 = .ok (.isub, 1) := by decide +kernel
theorem dX1_tellTo_49 : decode cX1_tellTo 49 = .ok (.ireturn, 1) := by decide +kernel
theorem dX1_tellTo_50 : decode cX1_tellTo 50 = .ok (.iload_n 3, 1) := by decide +kernel
theorem dX1_tellTo_51 : decode cX1_tellTo 51 = .ok (.aload_n 0, 1) := by decide +kernel
theorem dX1_tellTo_52 : decode cX1_tellTo 52 = .ok (.iload_n 3, 1) := by decide +kernel
theorem dX1_tellTo_53 : decode cX1_tellTo 53 = .ok (.invokevirtual 27, 3) := by decide +kernel
theorem dX1_tellTo_56 : decode cX1_tellTo 56 = .ok (.invokevirtual 31, 3) := by decide +kernel
theorem dX1_tellTo_59 : decode cX1_tellTo 59 = .ok (.iadd, 1) := by decide +kernel
theorem dX1_tellTo_60 : decode cX1_tellTo 60 = .ok (.istore_n 3, 1) := by decide +kernel
theorem dX1_tellTo_61 : decode cX1_tellTo 61 = .ok (.iinc 4 1, 3) := by decide +kernel
theorem dX1_tellTo_64 : decode cX1_tellTo 64 = .ok (.goto (-44), 3) := by decide +kernel
theorem dX1_tellTo_67 : decode cX1_tellTo 67 = .ok (.iload 4, 2) := by decide +kernel
theorem dX1_tellTo_69 : decode cX1_tellTo 69 = .ok (.ireturn, 1) := by decide +kernel
set_option maxRecDepth 20000 in
theorem ggX1_tellTo_X1_faultOfForm : GoodIn wsX1_tellTo wsX1_faultOfForm := goodIn_r _ [6, 1, 7, 8, 9, 5, 10, 11, 12, 13, 14, 15, 16, 17, 18, 19, 20, 21, 22, 23, 24, 25, 26, 27, 28, 29, 30, 31, 32, 33, 34, 35, 36, 37, 38, 39, 40, 41, 42, 43, 44, 45, 46, 47, 48, 49, 50, 51, 52, 53, 54, 55, 56, 57, 58, 59, 60, 61, 62, 63, 64, 65, 66, 67, 68, 69, 70, 119, 120] (by decide +kernel) (by decide +kernel)
set_option maxRecDepth 20000 in
theorem gX1_tellTo_X1_faultOfForm : GoodIn wsX1_tellTo (wsV RX1 19 RX1 yX1_faultOfForm wsX1_faultOfForm) := goodIn_app (goodIn_of _ (by decide +kernel)) ggX1_tellTo_X1_faultOfForm
set_option maxRecDepth 20000 in
theorem ggX1_tellTo_X1_tellOne : GoodIn wsX1_tellTo wsX1_tellOne := goodIn_r _ [74, 11, 12, 13, 5, 14, 1, 15, 75, 76, 77, 78, 79, 80, 81, 82, 83, 84, 85, 86, 87, 88, 89, 90, 91, 92, 93, 94, 95, 96, 97, 98, 16, 17, 18, 19, 20, 21, 22, 23, 24, 25, 26, 27, 28, 29, 30, 31, 32, 33, 34, 35, 36, 37, 38, 39, 40, 41, 42, 43, 44, 45, 46, 47, 48, 49, 50, 51, 52, 53, 54, 55, 56, 57, 58, 59, 60, 61, 62, 63, 64, 65, 66, 67, 68, 69, 70, 99, 100, 101, 102, 103, 104, 105, 106, 107, 108, 109, 110, 111, 112, 113, 114, 115, 116, 117, 118, 119, 120, 121, 122, 123, 124, 125, 126, 127, 128] (by decide +kernel) (by decide +kernel)
set_option maxRecDepth 20000 in
theorem gX1_tellTo_X1_tellOne : GoodIn wsX1_tellTo (wsV RX1 23 RX1 yX1_tellOne wsX1_tellOne) := goodIn_app (goodIn_of _ (by decide +kernel)) ggX1_tellTo_X1_tellOne
set_option maxRecDepth 20000 in
theorem ggX1_tellTo_X1_formAt : GoodIn wsX1_tellTo wsX1_formAt := goodIn_r _ [10, 11, 12, 13, 5, 14, 1, 15, 16, 17, 18, 19, 20, 21, 22, 23, 24, 25, 26, 27, 28, 29, 30, 31, 32, 33, 34, 35, 36, 37, 38, 39, 40, 41, 42, 43, 44, 45, 46, 47, 48, 49, 50, 51, 52, 53, 54, 55, 56, 57, 58, 59, 60, 61, 62, 63, 64, 65, 66, 67, 68, 69, 70, 119, 120] (by decide +kernel) (by decide +kernel)
set_option maxRecDepth 20000 in
theorem gX1_tellTo_X1_formAt : GoodIn wsX1_tellTo (wsV RX1 27 RX1 yX1_formAt wsX1_formAt) := goodIn_app (goodIn_of _ (by decide +kernel)) ggX1_tellTo_X1_formAt
set_option maxRecDepth 20000 in
theorem ggX1_tellTo_J0_length_8abf5 : GoodIn wsX1_tellTo wsJ0_length_8abf5 := goodIn_r _ [26, 27, 28, 29, 30, 25, 31, 32, 33] (by decide +kernel) (by decide +kernel)
set_option maxRecDepth 20000 in
theorem gX1_tellTo_J0_length_8abf5 : GoodIn wsX1_tellTo (wsV RX1 31 RJ0 yJ0_length_8abf5 wsJ0_length_8abf5) := goodIn_app (goodIn_of _ (by decide +kernel)) ggX1_tellTo_J0_length_8abf5
set_option maxHeartbeats 4000000 in
set_option maxRecDepth 100000 in
theorem mX1_tellTo (l : Launch) (dC : Nat → ClassId) (dI : Nat → Nat → Nat) (cI cC : ClassId) (sk : (Nat → Nat) × (Nat → Nat)) (f : Nat → Nat) (sz : Nat)  (c_r : RT) (c_letters : AR) (c_size : Int32) (z : Int32 × RT) (h : fX1_tellTo c_r c_letters c_size = some z) : cRW l yX1_tellTo wsX1_tellTo (RMk 8 172) sk (dC, dI) (tyz cI cC) sz (zwTR cI cC f c_r c_letters c_size) (zwTR cI cC f z.2 c_letters c_size) [.ref (f 6), .ref (f 0)] z.1 := by
  refine ofRW (cc := cX1_tellTo) (maxL := 5) (ret := (some .int)) (own := RX1) (plainFor_of_name (by decide)) rfl rfl (Nat.le_of_ble_eq_true rfl) ?_
  intro p e s m args below meth c A hA hx hb hml hr hts hown hlocks hE hK hP hD hS ls hl
  generalize hQ : qRW _ _ _ _ _ _ _ = Q
  have hl : lv_has ls 5 [(0, .ref (f 6)), (1, .ref (f 0))] := hl
  have hiX1 : ∀ w ∈ wsX10, w ∈ wsX1_tellTo := fun w h => List.mem_cons_of_mem _ (List.mem_append_left _ (List.mem_append_right _ h))
  have hw1 := hts (Cond.fieldLink RX1 15 "FloeToFloe$Telling" "size" "I") (List.mem_of_getElem? (i := 1) rfl)
  rw [fX1_tellTo] at h
  refine lv_aload_n hx hb dX1_tellTo_0 rfl (lv_at hl 0 rfl) ?_
  obtain ⟨q1, e1, h⟩ := bd_some h
  refine g_roV (wc := (zwT cI cC (fun k => f (k + 6)) c_letters c_size)) ⟨hx, hb, hml, hown, hts⟩ hE hK hP hS [6, 7] rfl (mX1_faultOfForm l dC dI cI cC sk (fun k => f (k + 6)) c_letters c_size q1 e1) (cwV 0 hts gX1_tellTo_X1_faultOfForm rfl rfl rfl (by decide +kernel) ⟨Nat.le_of_ble_eq_true rfl, Nat.le_of_ble_eq_true rfl⟩) (va_recv hK hP (ci := 1) (q0 := 6) rfl rfl) (As := []) (rest := []) rfl hl.1 rfl (Nat.le_of_ble_eq_true rfl) dX1_tellTo_1 ⟨Nat.zero_le _, Nat.zero_le _⟩ (fun H locs hP hS => ?_)
  refine lv_istore_n (lv' := [(2, .int q1), (0, .ref (f 6)), (1, .ref (f 0))]) hx hb dX1_tellTo_4 rfl hl (by decide) rfl (fun ls hl => ?_)
  refine lv_iload_n hx hb dX1_tellTo_5 rfl (lv_at hl 0 rfl) ?_
  refine lv_if_lt (tgt := 15) hx hb dX1_tellTo_6 (by decide) (fun c6 => ?_) (fun c6 => ?_)
  · have h := itT c6 h
    refine lv_iconst (v := (0 : Int32)) hx hb dX1_tellTo_15 (by decide) ?_
    refine lv_istore_n (lv' := [(3, .int (0 : Int32)), (2, .int q1), (0, .ref (f 6)), (1, .ref (f 0))]) hx hb dX1_tellTo_16 rfl hl (by decide) rfl (fun ls hl => ?_)
    refine lv_iconst (v := (0 : Int32)) hx hb dX1_tellTo_17 (by decide) ?_
    refine lv_istore (lv' := [(4, .int (0 : Int32)), (3, .int (0 : Int32)), (2, .int q1), (0, .ref (f 6)), (1, .ref (f 0))]) hx hb dX1_tellTo_18 hl (by decide) rfl (fun ls hl => ?_)
    have L20 : ∀ (K20 : Int32 → RT → Option (Int32 × RT)), (∀ (k20_4 : Int32) (k20_r : RT), K20 k20_4 k20_r = some z → ∀ (H : Heap) (locs : List Loc) (ls : Array Slot), va_P (dC, dI) vwCl (zwTR cI cC f k20_r c_letters c_size) H → va_D A (zwTR cI cC f k20_r c_letters c_size) → va_S A s.heap H locs → lv_has ls 5 [(4, .int k20_4)] → W p l e (RMk 8 172) s m args below meth c H locs 0 0 Q (F0 m 67 ls [])) → ∀ (n : Nat) (x20_3 : Int32) (x20_4 : Int32) (x20_r : RT), fX1_tellTo_L20 c_letters c_size K20 n x20_3 x20_4 x20_r = some z → ∀ (H : Heap) (locs : List Loc) (ls : Array Slot), va_P (dC, dI) vwCl (zwTR cI cC f x20_r c_letters c_size) H → va_D A (zwTR cI cC f x20_r c_letters c_size) → va_S A s.heap H locs → lv_has ls 5 [(0, .ref (f 6)), (1, .ref (f 0)), (3, .int x20_3), (4, .int x20_4)] → W p l e (RMk 8 172) s m args below meth c H locs 0 0 Q (F0 m 20 ls []) := by
      intro K20 kx20 n
      induction n with
      | zero => intro x20_3 x20_4 x20_r h; rw [fX1_tellTo_L20] at h; cases h
      | succ n ih20 =>
        intro x20_3 x20_4 x20_r h H locs ls hP hD hS hl
        rw [fX1_tellTo_L20] at h
        refine lv_iload hx hb dX1_tellTo_20 (lv_at hl 3 rfl) ?_
        refine lv_bipush (v := (80 : Int32)) hx hb dX1_tellTo_22 (by decide) ?_
        refine lv_icmp_ge (tgt := 67) hx hb dX1_tellTo_24 (by decide) (fun c24 => ?_) (fun c24 => ?_)
        · have h := itT c24 h
          exact kx20 _ _ h _ _ _ hP hD hS (lv_sub hl [3] rfl)
        have h := itF c24 h
        refine lv_iload_n hx hb dX1_tellTo_27 rfl (lv_at hl 2 rfl) ?_
        refine lv_aload_n hx hb dX1_tellTo_28 rfl (lv_at hl 0 rfl) ?_
        refine va_get (D := (dC, dI)) (ci := 1) (v := .int c_size) (C := RX1) (T := TX1) (N := 2) hx hb hts hiX1 hown hK hP 6 rfl rfl 1 (by decide) hw1 (fun _ h9 => h9) rfl dX1_tellTo_29 ?_
        refine lv_icmp_ge (tgt := 67) hx hb dX1_tellTo_32 (by decide) (fun c32 => ?_) (fun c32 => ?_)
        · have h := itT c32 h
          exact kx20 _ _ h _ _ _ hP hD hS (lv_sub hl [3] rfl)
        have h := itF c32 h
        refine lv_aload_n hx hb dX1_tellTo_35 rfl (lv_at hl 0 rfl) ?_
        refine lv_aload_n hx hb dX1_tellTo_36 rfl (lv_at hl 1 rfl) ?_
        refine lv_iload_n hx hb dX1_tellTo_37 rfl (lv_at hl 2 rfl) ?_
        obtain ⟨q38, e38, h⟩ := bd_some h
        refine g_rwV (wc := (zwTR cI cC f x20_r c_letters c_size)) (wc' := (zwTR cI cC f q38.2 c_letters c_size)) ⟨hx, hb, hml, hown, hts⟩ hE hK hA hP hD hS [0, 1, 2, 3, 4, 5, 6, 7] rfl rfl rfl (mX1_tellOne l dC dI cI cC sk f H.size x20_3 x20_r c_letters c_size q38 e38) (cwV 2 hts gX1_tellTo_X1_tellOne rfl rfl rfl (by decide +kernel) ⟨Nat.le_of_ble_eq_true rfl, Nat.le_of_ble_eq_true rfl⟩) (va_recv hK hP (ci := 1) (q0 := 6) rfl rfl) (As := [.ref (f 0), .int x20_3]) (rest := []) rfl hl.1 rfl (Nat.le_of_ble_eq_true rfl) dX1_tellTo_38 ⟨Nat.zero_le _, Nat.zero_le _⟩ (fun H locs hP hD hS => ?_)
        have hP : va_P (dC, dI) vwCl (zwTR cI cC f q38.2 c_letters c_size) H := hP
        have hD : va_D A (zwTR cI cC f q38.2 c_letters c_size) := hD
        refine lv_if_ne (tgt := 50) hx hb dX1_tellTo_41 (by decide) (fun c41 => ?_) (fun c41 => ?_)
        · have h := itF c41 h
          refine lv_iload_n hx hb dX1_tellTo_50 rfl (lv_at hl 2 rfl) ?_
          refine lv_aload_n hx hb dX1_tellTo_51 rfl (lv_at hl 0 rfl) ?_
          refine lv_iload_n hx hb dX1_tellTo_52 rfl (lv_at hl 2 rfl) ?_
          obtain ⟨q53, e53, h⟩ := bd_some h
          refine g_rsV (wc := (zwT cI cC (fun k => f (k + 6)) c_letters c_size)) ⟨hx, hb, hml, hown, hts⟩ hE hK hP hS [6, 7] rfl (mX1_formAt l dC dI cI cC sk (fun k => f (k + 6)) x20_3 c_letters c_size q53 e53) (cwV 1 hts gX1_tellTo_X1_formAt rfl rfl rfl (by decide +kernel) ⟨Nat.le_of_ble_eq_true rfl, Nat.le_of_ble_eq_true rfl⟩) (va_recv hK hP (ci := 1) (q0 := 6) rfl rfl) (As := [.int x20_3]) (rest := [.int x20_3]) rfl hl.1 rfl (Nat.le_of_ble_eq_true rfl) dX1_tellTo_53 ⟨Nat.zero_le _, Nat.zero_le _⟩ (fun H locs hP hS => ?_)
          obtain ⟨q56, e56, h⟩ := bd_some h
          refine g_roV (wc := ([] : va_W)) ⟨hx, hb, hml, hown, hts⟩ hE hK hP hS [] rfl (mJ0_length_8abf5 l dC dI cI cC sk  q53 q56 e56) (cwV 0 hts gX1_tellTo_J0_length_8abf5 rfl rfl rfl (by decide +kernel) ⟨Nat.le_of_ble_eq_true rfl, Nat.le_of_ble_eq_true rfl⟩) (vk_recv hE.2.1 (sLen_lt e56) hS) (As := []) (rest := [.int x20_3]) rfl hl.1 rfl (Nat.le_of_ble_eq_true rfl) dX1_tellTo_56 ⟨Nat.zero_le _, Nat.zero_le _⟩ (fun H locs hP hS => ?_)
          refine lv_iadd hx hb dX1_tellTo_59 ?_
          refine lv_istore_n (lv' := [(3, .int (x20_3 + q56)), (0, .ref (f 6)), (1, .ref (f 0)), (4, .int x20_4)]) hx hb dX1_tellTo_60 rfl hl (by decide) rfl (fun ls hl => ?_)
          refine lv_iinc (v := (x20_4 + (1 : Int32))) (lv' := [(4, .int (x20_4 + (1 : Int32))), (3, .int (x20_3 + q56)), (0, .ref (f 6)), (1, .ref (f 0))]) hx hb dX1_tellTo_61 hl (k := 3) rfl rfl (by decide) rfl (fun ls hl => ?_)
          refine lv_goto (tgt := 20) hx hb dX1_tellTo_64 (by decide) ?_
          exact ih20 _ _ _ h _ _ _ hP hD hS (lv_sub hl [2, 3, 1, 0] rfl)
        have h := itT c41 h
        refine lv_sipush (v := (-2000 : Int32)) hx hb dX1_tellTo_44 (by decide) ?_
        refine lv_iload_n hx hb dX1_tellTo_47 rfl (lv_at hl 2 rfl) ?_
        refine lv_isub hx hb dX1_tellTo_48 ?_
        subst hQ
        exact retRW (zz := ((((-2000 : Int32) - x20_3), q38.2) : Int32 × RT)) (fun z => z.1) (fun z => (zwTR cI cC f z.2 c_letters c_size)) hx hb hr hlocks rfl hS h rfl hP dX1_tellTo_49
    refine L20 _ (fun k20_4 k20_r h H locs ls hP hD hS hl => ?_) _ _ _ _ h _ _ _ hP hD hS (lv_sub hl [3, 4, 1, 0] rfl)
    refine lv_iload hx hb dX1_tellTo_67 (lv_at hl 0 rfl) ?_
    subst hQ
    exact retRW (zz := ((k20_4, k20_r) : Int32 × RT)) (fun z => z.1) (fun z => (zwTR cI cC f z.2 c_letters c_size)) hx hb hr hlocks rfl hS h rfl hP dX1_tellTo_69
  have h := itF c6 h
  refine lv_sipush (v := (-1000 : Int32)) hx hb dX1_tellTo_9 (by decide) ?_
  refine lv_iload_n hx hb dX1_tellTo_12 rfl (lv_at hl 0 rfl) ?_
  refine lv_isub hx hb dX1_tellTo_13 ?_
  subst hQ
  exact retRW (zz := ((((-1000 : Int32) - q1), c_r) : Int32 × RT)) (fun z => z.1) (fun z => (zwTR cI cC f z.2 c_letters c_size)) hx hb hr hlocks rfl hS h rfl hP dX1_tellTo_14
