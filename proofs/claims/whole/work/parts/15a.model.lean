theorem dX4_no_0 : decode cX4_no 0 = .ok (.aload_n 0, 1) := by decide +kernel
theorem dX4_no_1 : decode cX4_no 1 = .ok (.getfield 7, 3) := by decide +kernel
theorem dX4_no_4 : decode cX4_no 4 = .ok (.iload_n 1, 1) := by decide +kernel
theorem dX4_no_5 : decode cX4_no 5 = .ok (.ineg, 1) := by decide +kernel
theorem dX4_no_6 : decode cX4_no 6 = .ok (.dup2, 1) := by decide +kernel
theorem dX4_no_7 : decode cX4_no 7 = .ok (.iaload, 1) := by decide +kernel
theorem dX4_no_8 : decode cX4_no 8 = .ok (.iconst 1, 1) := by decide +kernel
theorem dX4_no_9 : decode cX4_no 9 = .ok (.iadd, 1) := by decide +kernel
theorem dX4_no_10 : decode cX4_no 10 = .ok (.iastore, 1) := by decide +kernel
theorem dX4_no_11 : decode cX4_no 11 = .ok (.iload_n 1, 1) := by decide +kernel
theorem dX4_no_12 : decode cX4_no 12 = .ok (.ireturn, 1) := by decide +kernel
set_option maxHeartbeats 4000000 in
set_option maxRecDepth 100000 in
theorem mX4_no (l : Launch) (dC : Nat → ClassId) (dI : Nat → Nat → Nat) (cI cC : ClassId) (sk : (Nat → Nat) × (Nat → Nat)) (f : Nat → Nat) (sz : Nat) (p1 : Int32) (c_r : RT) (c_refused : AR) (c_tape : AR) (c_letter : AR) (c_letterAt : AR) (c_number : AR) (c_taped : Int32) (c_at : Int32) (c_statements : Int32) (c_kept : AR) (c_hasImage : Int32) (c_isKeeping : Int32) (c_cursor : Int32) (c_poled : Int32) (c_barred : Int32) (c_leapsTo : AR) (c_leapsThen : AR) (c_lands : AR) (c_row : AR) (c_rowMany : Int32) (c_endsAt : Int32) (z : Int32 × AR) (h : fX4_no p1 c_refused = some z) : cRW l yX4_no wsX4_no (RMk 0 0) sk (dC, dI) (tyz cI cC) sz (zwM cI cC f c_r c_refused c_tape c_letter c_letterAt c_number c_taped c_at c_statements c_kept c_hasImage c_isKeeping c_cursor c_poled c_barred c_leapsTo c_leapsThen c_lands c_row c_rowMany c_endsAt) (zwM cI cC f c_r z.2 c_tape c_letter c_letterAt c_number c_taped c_at c_statements c_kept c_hasImage c_isKeeping c_cursor c_poled c_barred c_leapsTo c_leapsThen c_lands c_row c_rowMany c_endsAt) [.ref (f 0), .int p1] z.1 := by
  refine ofRW (cc := cX4_no) (maxL := 2) (ret := (some .int)) (own := RX4) (plainFor_of_name (by decide)) rfl rfl (Nat.le_of_ble_eq_true rfl) ?_
  intro p e s m args below meth c A hA hx hb hml hr hts hown hlocks hE hK hP hD hS ls hl
  generalize hQ : qRW _ _ _ _ _ _ _ = Q
  have hl : lv_has ls 2 [(0, .ref (f 0)), (1, .int p1)] := hl
  have hiX4 : ∀ w ∈ wsX40, w ∈ wsX4_no := fun w h => List.mem_cons_of_mem _ (List.mem_append_right _ h)
  have hw1 := hts (Cond.fieldLink RX4 7 "FloeToFloeModel" "refused" "[I") (List.mem_of_getElem? (i := 1) rfl)
  rw [fX4_no] at h
  refine lv_aload_n hx hb dX4_no_0 rfl (lv_at hl 0 rfl) ?_
  refine va_get (D := (dC, dI)) (ci := 4) (v := .ref (f 1)) (C := RX4) (T := TX4) (N := 28) hx hb hts hiX4 hown hK hP 0 rfl rfl 0 (by decide) hw1 (fun _ h9 => h9) rfl dX4_no_1 ?_
  refine lv_iload_n hx hb dX4_no_4 rfl (lv_at hl 1 rfl) ?_
  refine lv_ineg hx hb dX4_no_5 ?_
  refine lv_dup2_11 hx hb dX4_no_6 rfl rfl ?_
  obtain ⟨hin, h⟩ := ck_some h
  refine va_iald hx hb hK hP 1 0 rfl rfl hin dX4_no_7 ?_
  refine lv_iconst (v := (1 : Int32)) hx hb dX4_no_8 (by decide) ?_
  refine lv_iadd hx hb dX4_no_9 ?_
  obtain ⟨hin, h⟩ := ck_some h
  refine va_iast hx hb hK hP hD hS 1 0 rfl rfl hin dX4_no_10 (fun H locs hP hD hS => ?_)
  have hP : va_P (dC, dI) vwCl (zwM cI cC f c_r (upd c_refused ((-p1)).toNatClampNeg ((c_refused ((-p1)).toNatClampNeg) + (1 : Int32))) c_tape c_letter c_letterAt c_number c_taped c_at c_statements c_kept c_hasImage c_isKeeping c_cursor c_poled c_barred c_leapsTo c_leapsThen c_lands c_row c_rowMany c_endsAt) H := hP
  have hD : va_D A (zwM cI cC f c_r (upd c_refused ((-p1)).toNatClampNeg ((c_refused ((-p1)).toNatClampNeg) + (1 : Int32))) c_tape c_letter c_letterAt c_number c_taped c_at c_statements c_kept c_hasImage c_isKeeping c_cursor c_poled c_barred c_leapsTo c_leapsThen c_lands c_row c_rowMany c_endsAt) := hD
  refine lv_iload_n hx hb dX4_no_11 rfl (lv_at hl 1 rfl) ?_
  subst hQ
  exact retRW (zz := ((p1, (upd c_refused ((-p1)).toNatClampNeg ((c_refused ((-p1)).toNatClampNeg) + (1 : Int32)))) : Int32 × AR)) (fun z => z.1) (fun z => (zwM cI cC f c_r z.2 c_tape c_letter c_letterAt c_number c_taped c_at c_statements c_kept c_hasImage c_isKeeping c_cursor c_poled c_barred c_leapsTo c_leapsThen c_lands c_row c_rowMany c_endsAt)) hx hb hr hlocks rfl hS h rfl hP dX4_no_12
theorem dX4_isIn_0 : decode cX4_isIn 0 = .ok (.iload_n 0, 1) := by decide +kernel
theorem dX4_isIn_1 : decode cX4_isIn 1 = .ok (.iload_n 1, 1) := by decide +kernel
theorem dX4_isIn_2 : decode cX4_isIn 2 = .ok (.if_icmp .lt 12, 3) := by decide +kernel
theorem dX4_isIn_5 : decode cX4_isIn 5 = .ok (.iload_n 0, 1) := by decide +kernel
theorem dX4_isIn_6 : decode cX4_isIn 6 = .ok (.iload_n 2, 1) := by decide +kernel
theorem dX4_isIn_7 : decode cX4_isIn 7 = .ok (.if_icmp .gt 7, 3) := by decide +kernel
theorem dX4_isIn_10 : decode cX4_isIn 10 = .ok (.iconst 1, 1) := by decide +kernel
theorem dX4_isIn_11 : decode cX4_isIn 11 = .ok (.goto 4, 3) := by decide +kernel
theorem dX4_isIn_14 : decode cX4_isIn 14 = .ok (.iconst 0, 1) := by decide +kernel
theorem dX4_isIn_15 : decode cX4_isIn 15 = .ok (.ireturn, 1) := by decide +kernel
set_option maxHeartbeats 4000000 in
set_option maxRecDepth 100000 in
theorem mX4_isIn (l : Launch) (dC : Nat → ClassId) (dI : Nat → Nat → Nat) (cI cC : ClassId) (sk : (Nat → Nat) × (Nat → Nat))  (p0 : Int32) (p1 : Int32) (p2 : Int32)  (z : Int32) (h : fX4_isIn p0 p1 p2 = some z) : cRO l yX4_isIn wsX4_isIn (RMk 0 0) sk (dC, dI) (tyz cI cC) ([] : va_W) [.int p0, .int p1, .int p2] z := by
  refine ofRO (cc := cX4_isIn) (maxL := 3) (ret := (some .boolean)) (own := RX4) (plainFor_of_name (by decide)) rfl rfl (Nat.le_of_ble_eq_true rfl) ?_
  intro p e s m args below meth c hx hb hml hr hts hown hlocks hE hK hP hS ls hl
  generalize hQ : qRO _ _ _ _ = Q
  have hl : lv_has ls 3 [(0, .int p0), (1, .int p1), (2, .int p2)] := hl
  rw [fX4_isIn] at h
  refine lv_iload_n hx hb dX4_isIn_0 rfl (lv_at hl 0 rfl) ?_
  refine lv_iload_n hx hb dX4_isIn_1 rfl (lv_at hl 1 rfl) ?_
  refine lv_icmp_lt (tgt := 14) hx hb dX4_isIn_2 (by decide) (fun c2 => ?_) (fun c2 => ?_)
  · have h := itT c2 h
    refine lv_iconst (v := (0 : Int32)) hx hb dX4_isIn_14 (by decide) ?_
    subst hQ
    exact retRO hx hb hr hlocks rfl hS h dX4_isIn_15
  have h := itF c2 h
  refine lv_iload_n hx hb dX4_isIn_5 rfl (lv_at hl 0 rfl) ?_
  refine lv_iload_n hx hb dX4_isIn_6 rfl (lv_at hl 2 rfl) ?_
  refine lv_icmp_gt (tgt := 14) hx hb dX4_isIn_7 (by decide) (fun c7 => ?_) (fun c7 => ?_)
  · have h := itT c7 h
    refine lv_iconst (v := (0 : Int32)) hx hb dX4_isIn_14 (by decide) ?_
    subst hQ
    exact retRO hx hb hr hlocks rfl hS h dX4_isIn_15
  have h := itF c7 h
  refine lv_iconst (v := (1 : Int32)) hx hb dX4_isIn_10 (by decide) ?_
  refine lv_goto (tgt := 15) hx hb dX4_isIn_11 (by decide) ?_
  subst hQ
  exact retRO hx hb hr hlocks rfl hS h dX4_isIn_15
theorem dX4_bound_0 : decode cX4_bound 0 = .ok (.iload_n 0, 1) := by decide +kernel
theorem dX4_bound_1 : decode cX4_bound 1 = .ok (.iload_n 1, 1) := by decide +kernel
theorem dX4_bound_2 : decode cX4_bound 2 = .ok (.if_icmp .ge 8, 3) := by decide +kernel
theorem dX4_bound_5 : decode cX4_bound 5 = .ok (.bipush (-4), 2) := by decide +kernel
theorem dX4_bound_7 : decode cX4_bound 7 = .ok (.goto 14, 3) := by decide +kernel
theorem dX4_bound_10 : decode cX4_bound 10 = .ok (.iload_n 0, 1) := by decide +kernel
theorem dX4_bound_11 : decode cX4_bound 11 = .ok (.iload_n 2, 1) := by decide +kernel
theorem dX4_bound_12 : decode cX4_bound 12 = .ok (.if_icmp .le 8, 3) := by decide +kernel
theorem dX4_bound_15 : decode cX4_bound 15 = .ok (.bipush (-6), 2) := by decide +kernel
theorem dX4_bound_17 : decode cX4_bound 17 = .ok (.goto 4, 3) := by decide +kernel
theorem dX4_bound_20 : decode cX4_bound 20 = .ok (.iconst 0, 1) := by decide +kernel
theorem dX4_bound_21 : decode cX4_bound 21 = .ok (.ireturn, 1) := by decide +kernel
set_option maxHeartbeats 4000000 in
set_option maxRecDepth 100000 in
theorem mX4_bound (l : Launch) (dC : Nat → ClassId) (dI : Nat → Nat → Nat) (cI cC : ClassId) (sk : (Nat → Nat) × (Nat → Nat))  (p0 : Int32) (p1 : Int32) (p2 : Int32)  (z : Int32) (h : fX4_bound p0 p1 p2 = some z) : cRO l yX4_bound wsX4_bound (RMk 0 0) sk (dC, dI) (tyz cI cC) ([] : va_W) [.int p0, .int p1, .int p2] z := by
  refine ofRO (cc := cX4_bound) (maxL := 3) (ret := (some .int)) (own := RX4) (plainFor_of_name (by decide)) rfl rfl (Nat.le_of_ble_eq_true rfl) ?_
  intro p e s m args below meth c hx hb hml hr hts hown hlocks hE hK hP hS ls hl
  generalize hQ : qRO _ _ _ _ = Q
  have hl : lv_has ls 3 [(0, .int p0), (1, .int p1), (2, .int p2)] := hl
  rw [fX4_bound] at h
  refine lv_iload_n hx hb dX4_bound_0 rfl (lv_at hl 0 rfl) ?_
  refine lv_iload_n hx hb dX4_bound_1 rfl (lv_at hl 1 rfl) ?_
  refine lv_icmp_ge (tgt := 10) hx hb dX4_bound_2 (by decide) (fun c2 => ?_) (fun c2 => ?_)
  · have h := itT c2 h
    refine lv_iload_n hx hb dX4_bound_10 rfl (lv_at hl 0 rfl) ?_
    refine lv_iload_n hx hb dX4_bound_11 rfl (lv_at hl 2 rfl) ?_
    refine lv_icmp_le (tgt := 20) hx hb dX4_bound_12 (by decide) (fun c12 => ?_) (fun c12 => ?_)
    · have h := itT c12 h
      refine lv_iconst (v := (0 : Int32)) hx hb dX4_bound_20 (by decide) ?_
      subst hQ
      exact retRO hx hb hr hlocks rfl hS h dX4_bound_21
    have h := itF c12 h
    refine lv_bipush (v := (-6 : Int32)) hx hb dX4_bound_15 (by decide) ?_
    refine lv_goto (tgt := 21) hx hb dX4_bound_17 (by decide) ?_
    subst hQ
    exact retRO hx hb hr hlocks rfl hS h dX4_bound_21
  have h := itF c2 h
  refine lv_bipush (v := (-4 : Int32)) hx hb dX4_bound_5 (by decide) ?_
  refine lv_goto (tgt := 21) hx hb dX4_bound_7 (by decide) ?_
  subst hQ
  exact retRO hx hb hr hlocks rfl hS h dX4_bound_21
theorem dX4_isFloe_0 : decode cX4_isFloe 0 = .ok (.iload_n 1, 1) := by decide +kernel
theorem dX4_isFloe_1 : decode cX4_isFloe 1 = .ok (.ifCond .lt 15, 3) := by decide +kernel
theorem dX4_isFloe_4 : decode cX4_isFloe 4 = .ok (.iload_n 1, 1) := by decide +kernel
theorem dX4_isFloe_5 : decode cX4_isFloe 5 = .ok (.aload_n 0, 1) := by decide +kernel
theorem dX4_isFloe_6 : decode cX4_isFloe 6 = .ok (.getfield 59, 3) := by decide +kernel
theorem dX4_isFloe_9 : decode cX4_isFloe 9 = .ok (.if_icmp .ge 7, 3) := by decide +kernel
theorem dX4_isFloe_12 : decode cX4_isFloe 12 = .ok (.iconst 1, 1) := by decide +kernel
theorem dX4_isFloe_13 : decode cX4_isFloe 13 = .ok (.goto 4, 3) := by decide +kernel
theorem dX4_isFloe_16 : decode cX4_isFloe 16 = .ok (.iconst 0, 1) := by decide +kernel
theorem dX4_isFloe_17 : decode cX4_isFloe 17 = .ok (.ireturn, 1) := by decide +kernel
set_option maxHeartbeats 4000000 in
set_option maxRecDepth 100000 in
theorem mX4_isFloe (l : Launch) (dC : Nat → ClassId) (dI : Nat → Nat → Nat) (cI cC : ClassId) (sk : (Nat → Nat) × (Nat → Nat)) (f : Nat → Nat) (p1 : Int32) (c_r : RT) (c_refused : AR) (c_tape : AR) (c_letter : AR) (c_letterAt : AR) (c_number : AR) (c_taped : Int32) (c_at : Int32) (c_statements : Int32) (c_kept : AR) (c_hasImage : Int32) (c_isKeeping : Int32) (c_cursor : Int32) (c_poled : Int32) (c_barred : Int32) (c_leapsTo : AR) (c_leapsThen : AR) (c_lands : AR) (c_row : AR) (c_rowMany : Int32) (c_endsAt : Int32) (z : Int32) (h : fX4_isFloe p1 c_r = some z) : cRO l yX4_isFloe wsX4_isFloe (RMk 0 0) sk (dC, dI) (tyz cI cC) (zwM cI cC f c_r c_refused c_tape c_letter c_letterAt c_number c_taped c_at c_statements c_kept c_hasImage c_isKeeping c_cursor c_poled c_barred c_leapsTo c_leapsThen c_lands c_row c_rowMany c_endsAt) [.ref (f 0), .int p1] z := by
  refine ofRO (cc := cX4_isFloe) (maxL := 2) (ret := (some .boolean)) (own := RX4) (plainFor_of_name (by decide)) rfl rfl (Nat.le_of_ble_eq_true rfl) ?_
  intro p e s m args below meth c hx hb hml hr hts hown hlocks hE hK hP hS ls hl
  generalize hQ : qRO _ _ _ _ = Q
  have hl : lv_has ls 2 [(0, .ref (f 0)), (1, .int p1)] := hl
  have hiX4 : ∀ w ∈ wsX40, w ∈ wsX4_isFloe := fun w h => List.mem_cons_of_mem _ (List.mem_append_right _ h)
  have hw1 := hts (Cond.fieldLink RX4 59 "FloeToFloeModel" "floes" "I") (List.mem_of_getElem? (i := 1) rfl)
  rw [fX4_isFloe] at h
  refine lv_iload_n hx hb dX4_isFloe_0 rfl (lv_at hl 1 rfl) ?_
  refine lv_if_lt (tgt := 16) hx hb dX4_isFloe_1 (by decide) (fun c1 => ?_) (fun c1 => ?_)
  · have h := itT c1 h
    refine lv_iconst (v := (0 : Int32)) hx hb dX4_isFloe_16 (by decide) ?_
    subst hQ
    exact retRO hx hb hr hlocks rfl hS h dX4_isFloe_17
  have h := itF c1 h
  refine lv_iload_n hx hb dX4_isFloe_4 rfl (lv_at hl 1 rfl) ?_
  refine lv_aload_n hx hb dX4_isFloe_5 rfl (lv_at hl 0 rfl) ?_
  refine va_get (D := (dC, dI)) (ci := 4) (v := .int (R_floes c_r)) (C := RX4) (T := TX4) (N := 28) hx hb hts hiX4 hown hK hP 0 rfl rfl 6 (by decide) hw1 (fun _ h9 => h9) rfl dX4_isFloe_6 ?_
  refine lv_icmp_ge (tgt := 16) hx hb dX4_isFloe_9 (by decide) (fun c9 => ?_) (fun c9 => ?_)
  · have h := itT c9 h
    refine lv_iconst (v := (0 : Int32)) hx hb dX4_isFloe_16 (by decide) ?_
    subst hQ
    exact retRO hx hb hr hlocks rfl hS h dX4_isFloe_17
  have h := itF c9 h
  refine lv_iconst (v := (1 : Int32)) hx hb dX4_isFloe_12 (by decide) ?_
  refine lv_goto (tgt := 17) hx hb dX4_isFloe_13 (by decide) ?_
  subst hQ
  exact retRO hx hb hr hlocks rfl hS h dX4_isFloe_17
theorem dX4_isCell_0 : decode cX4_isCell 0 = .ok (.iload_n 0, 1) := by decide +kernel
theorem dX4_isCell_1 : decode cX4_isCell 1 = .ok (.iconst 0, 1) := by decide +kernel
theorem dX4_isCell_2 : decode cX4_isCell 2 = .ok (.bipush 9, 2) := by decide +kernel
theorem dX4_isCell_4 : decode cX4_isCell 4 = .ok (.invokestatic 62, 3) := by decide +kernel
theorem dX4_isCell_7 : decode cX4_isCell 7 = .ok (.ireturn, 1) := by decide +kernel
set_option maxRecDepth 20000 in
theorem ggX4_isCell_X4_isIn : GoodIn wsX4_isCell wsX4_isIn := goodIn_r _ [4] (by decide +kernel) (by decide +kernel)
set_option maxRecDepth 20000 in
theorem gX4_isCell_X4_isIn : GoodIn wsX4_isCell (va_wsS RX4 62 yX4_isIn wsX4_isIn) := goodIn_app (goodIn_of _ (by decide +kernel)) ggX4_isCell_X4_isIn
set_option maxHeartbeats 4000000 in
set_option maxRecDepth 100000 in
theorem mX4_isCell (l : Launch) (dC : Nat → ClassId) (dI : Nat → Nat → Nat) (cI cC : ClassId) (sk : (Nat → Nat) × (Nat → Nat))  (p0 : Int32)  (z : Int32) (h : fX4_isCell p0 = some z) : cRO l yX4_isCell wsX4_isCell (RMk 1 22) sk (dC, dI) (tyz cI cC) ([] : va_W) [.int p0] z := by
  refine ofRO (cc := cX4_isCell) (maxL := 1) (ret := (some .boolean)) (own := RX4) (plainFor_of_name (by decide)) rfl rfl (Nat.le_of_ble_eq_true rfl) ?_
  intro p e s m args below meth c hx hb hml hr hts hown hlocks hE hK hP hS ls hl
  generalize hQ : qRO _ _ _ _ = Q
  have hl : lv_has ls 1 [(0, .int p0)] := hl
  rw [fX4_isCell] at h
  refine lv_iload_n hx hb dX4_isCell_0 rfl (lv_at hl 0 rfl) ?_
  refine lv_iconst (v := (0 : Int32)) hx hb dX4_isCell_1 (by decide) ?_
  refine lv_bipush (v := (9 : Int32)) hx hb dX4_isCell_2 (by decide) ?_
  obtain ⟨q4, e4, h⟩ := bd_some h
  refine g_roS (wc := ([] : va_W)) ⟨hx, hb, hml, hown, hts⟩ hE hK hP hS [] rfl (mX4_isIn l dC dI cI cC sk  p0 (0 : Int32) (9 : Int32) q4 e4) (va_cwS 3 hts gX4_isCell_X4_isIn rfl rfl rfl (by decide +kernel) ⟨Nat.le_of_ble_eq_true rfl, Nat.le_of_ble_eq_true rfl⟩) (As := [.int p0, .int (0 : Int32), .int (9 : Int32)]) (rest := []) rfl hl.1 rfl (Nat.le_of_ble_eq_true rfl) dX4_isCell_4 ⟨Nat.zero_le _, Nat.zero_le _⟩ (fun H locs hP hS => ?_)
  obtain ⟨hz, h⟩ := ckb_some h
  subst hQ
  exact retRO hx hb hr hlocks (ckb_n hz) hS h dX4_isCell_7
theorem dX4_letter_0 : decode cX4_letter 0 = .ok (.iload_n 1, 1) := by decide +kernel
theorem dX4_letter_1 : decode cX4_letter 1 = .ok (.iconst 0, 1) := by decide +kernel
theorem dX4_letter_2 : decode cX4_letter 2 = .ok (.sipush 255, 3) := by decide +kernel
theorem dX4_letter_5 : decode cX4_letter 5 = .ok (.invokestatic 66, 3) := by decide +kernel
theorem dX4_letter_8 : decode cX4_letter 8 = .ok (.istore_n 2, 1) := by decide +kernel
theorem dX4_letter_9 : decode cX4_letter 9 = .ok (.iload_n 2, 1) := by decide +kernel
theorem dX4_letter_10 : decode cX4_letter 10 = .ok (.ifCond .ne 15, 3) := by decide +kernel
theorem dX4_letter_13 : decode cX4_letter 13 = .ok (.aload_n 0, 1) := by decide +kernel
theorem dX4_letter_14 : decode cX4_letter 14 = .ok (.getfield 70, 3) := by decide +kernel
theorem dX4_letter_17 : decode cX4_letter 17 = .ok (.bipush 80, 2) := by decide +kernel
theorem dX4_letter_19 : decode cX4_letter 19 = .ok (.if_icmp .ne 6, 3) := by decide +kernel
theorem dX4_letter_22 : decode cX4_letter 22 = .ok (.bipush (-6), 2) := by decide +kernel
theorem dX4_letter_24 : decode cX4_letter 24 = .ok (.istore_n 2, 1) := by decide +kernel
theorem dX4_letter_25 : decode cX4_letter 25 = .ok (.iload_n 2, 1) := by decide +kernel
theorem dX4_letter_26 : decode cX4_letter 26 = .ok (.ifCond .eq 9, 3) := by decide +kernel
theorem dX4_letter_29 : decode cX4_letter 29 = .ok (.aload_n 0, 1) := by decide +kernel
theorem dX4_letter_30 : decode cX4_letter 30 = .ok (.iload_n 2, 1) := by decide +kernel
theorem dX4_letter_31 : decode cX4_letter 31 = .ok (.invokevirtual 73, 3) := by decide +kernel
theorem dX4_letter_34 : decode cX4_letter 34 = .ok (.ireturn, 1) := by decide +kernel
theorem dX4_letter_35 : decode cX4_letter 35 = .ok (.aload_n 0, 1) := by decide +kernel
theorem dX4_letter_36 : decode cX4_letter 36 = .ok (.getfield 32, 3) := by decide +kernel
theorem dX4_letter_39 : decode cX4_letter 39 = .ok (.aload_n 0, 1) := by decide +kernel
theorem dX4_letter_40 : decode cX4_letter 40 = .ok (.getfield 70, 3) := by decide +kernel
theorem dX4_letter_43 : decode cX4_letter 43 = .ok (.iload_n 1, 1) := by decide +kernel
theorem dX4_letter_44 : decode cX4_letter 44 = .ok (.iastore, 1) := by decide +kernel
theorem dX4_letter_45 : decode cX4_letter 45 = .ok (.aload_n 0, 1) := by decide +kernel
theorem dX4_letter_46 : decode cX4_letter 46 = .ok (.dup, 1) := by decide +kernel
theorem dX4_letter_47 : decode cX4_letter 47 = .ok (.getfield 70, 3) := by decide +kernel
theorem dX4_letter_50 : decode cX4_letter 50 = .ok (.iconst 1, 1) := by decide +kernel
theorem dX4_letter_51 : decode cX4_letter 51 = .ok (.iadd, 1) := by decide +kernel
theorem dX4_letter_52 : decode cX4_letter 52 = .ok (.putfield 70, 3) := by decide +kernel
theorem dX4_letter_55 : decode cX4_letter 55 = .ok (.aload_n 0, 1) := by decide +kernel
theorem dX4_letter_56 : decode cX4_letter 56 = .ok (.getfield 70, 3) := by decide +kernel
theorem dX4_letter_59 : decode cX4_letter 59 = .ok (.ireturn, 1) := by decide +kernel
set_option maxRecDepth 20000 in
theorem ggX4_letter_X4_bound : GoodIn wsX4_letter wsX4_bound := goodIn_r _ [6] (by decide +kernel) (by decide +kernel)
set_option maxRecDepth 20000 in
theorem gX4_letter_X4_bound : GoodIn wsX4_letter (va_wsS RX4 66 yX4_bound wsX4_bound) := goodIn_app (goodIn_of _ (by decide +kernel)) ggX4_letter_X4_bound
set_option maxRecDepth 20000 in
theorem ggX4_letter_X4_no : GoodIn wsX4_letter wsX4_no := goodIn_r _ [10, 11, 12, 13, 14, 15, 16, 17, 18, 19, 20, 21, 22, 23, 24, 25, 26, 27, 28, 29, 30, 31, 32, 33, 34, 35, 36, 37, 38, 39] (by decide +kernel) (by decide +kernel)
set_option maxRecDepth 20000 in
theorem gX4_letter_X4_no : GoodIn wsX4_letter (wsV RX4 73 RX4 yX4_no wsX4_no) := goodIn_app (goodIn_of _ (by decide +kernel)) ggX4_letter_X4_no
set_option maxHeartbeats 4000000 in
set_option maxRecDepth 100000 in
theorem mX4_letter (l : Launch) (dC : Nat → ClassId) (dI : Nat → Nat → Nat) (cI cC : ClassId) (sk : (Nat → Nat) × (Nat → Nat)) (f : Nat → Nat) (sz : Nat) (p1 : Int32) (c_r : RT) (c_refused : AR) (c_tape : AR) (c_letter : AR) (c_letterAt : AR) (c_number : AR) (c_taped : Int32) (c_at : Int32) (c_statements : Int32) (c_kept : AR) (c_hasImage : Int32) (c_isKeeping : Int32) (c_cursor : Int32) (c_poled : Int32) (c_barred : Int32) (c_leapsTo : AR) (c_leapsThen : AR) (c_lands : AR) (c_row : AR) (c_rowMany : Int32) (c_endsAt : Int32) (z : Int32 × AR × AR × Int32) (h : fX4_letter p1 c_refused c_tape c_taped = some z) : cRW l yX4_letter wsX4_letter (RMk 1 22) sk (dC, dI) (tyz cI cC) sz (zwM cI cC f c_r c_refused c_tape c_letter c_letterAt c_number c_taped c_at c_statements c_kept c_hasImage c_isKeeping c_cursor c_poled c_barred c_leapsTo c_leapsThen c_lands c_row c_rowMany c_endsAt) (zwM cI cC f c_r z.2.1 z.2.2.1 c_letter c_letterAt c_number z.2.2.2 c_at c_statements c_kept c_hasImage c_isKeeping c_cursor c_poled c_barred c_leapsTo c_leapsThen c_lands c_row c_rowMany c_endsAt) [.ref (f 0), .int p1] z.1 := by
  refine ofRW (cc := cX4_letter) (maxL := 3) (ret := (some .int)) (own := RX4) (plainFor_of_name (by decide)) rfl rfl (Nat.le_of_ble_eq_true rfl) ?_
  intro p e s m args below meth c A hA hx hb hml hr hts hown hlocks hE hK hP hD hS ls hl
  generalize hQ : qRW _ _ _ _ _ _ _ = Q
  have hl : lv_has ls 3 [(0, .ref (f 0)), (1, .int p1)] := hl
  have hiX4 : ∀ w ∈ wsX40, w ∈ wsX4_letter := fun w h => List.mem_cons_of_mem _ (List.mem_append_right _ h)
  have hw1 := hts (Cond.fieldLink RX4 70 "FloeToFloeModel" "taped" "I") (List.mem_of_getElem? (i := 1) rfl)
  have hw2 := hts (Cond.fieldLink RX4 32 "FloeToFloeModel" "tape" "[I") (List.mem_of_getElem? (i := 2) rfl)
  rw [fX4_letter] at h
  refine lv_iload_n hx hb dX4_letter_0 rfl (lv_at hl 1 rfl) ?_
  refine lv_iconst (v := (0 : Int32)) hx hb dX4_letter_1 (by decide) ?_
  refine lv_sipush (v := (255 : Int32)) hx hb dX4_letter_2 (by decide) ?_
  obtain ⟨q5, e5, h⟩ := bd_some h
  refine g_roS (wc := ([] : va_W)) ⟨hx, hb, hml, hown, hts⟩ hE hK hP hS [] rfl (mX4_bound l dC dI cI cC sk  p1 (0 : Int32) (255 : Int32) q5 e5) (va_cwS 3 hts gX4_letter_X4_bound rfl rfl rfl (by decide +kernel) ⟨Nat.le_of_ble_eq_true rfl, Nat.le_of_ble_eq_true rfl⟩) (As := [.int p1, .int (0 : Int32), .int (255 : Int32)]) (rest := []) rfl hl.1 rfl (Nat.le_of_ble_eq_true rfl) dX4_letter_5 ⟨Nat.zero_le _, Nat.zero_le _⟩ (fun H locs hP hS => ?_)
  refine lv_istore_n (lv' := [(2, .int q5), (0, .ref (f 0)), (1, .int p1)]) hx hb dX4_letter_8 rfl hl (by decide) rfl (fun ls hl => ?_)
  refine lv_iload_n hx hb dX4_letter_9 rfl (lv_at hl 0 rfl) ?_
  refine jnW (fun (v25 : Int32) => ∀ (H : Heap) (locs : List Loc) (ls : Array Slot), va_P (dC, dI) vwCl (zwM cI cC f c_r c_refused c_tape c_letter c_letterAt c_number c_taped c_at c_statements c_kept c_hasImage c_isKeeping c_cursor c_poled c_barred c_leapsTo c_leapsThen c_lands c_row c_rowMany c_endsAt) H → va_D A (zwM cI cC f c_r c_refused c_tape c_letter c_letterAt c_number c_taped c_at c_statements c_kept c_hasImage c_isKeeping c_cursor c_poled c_barred c_leapsTo c_leapsThen c_lands c_row c_rowMany c_endsAt) → va_S A s.heap H locs → lv_has ls 3 [(0, .ref (f 0)), (1, .int p1), (2, .int v25)] → W p l e (RMk 1 22) s m args below meth c H locs 0 0 Q (F0 m 25 ls [])) h (fun v25 h H locs ls hP hD hS hl => ?_) (fun J25 j25 h => ?_)
  · refine lv_iload_n hx hb dX4_letter_25 rfl (lv_at hl 2 rfl) ?_
    refine lv_if_eq (tgt := 35) hx hb dX4_letter_26 (by decide) (fun c26 => ?_) (fun c26 => ?_)
    · have h := itT c26 h
      refine lv_aload_n hx hb dX4_letter_35 rfl (lv_at hl 0 rfl) ?_
      refine va_get (D := (dC, dI)) (ci := 4) (v := .ref (f 7)) (C := RX4) (T := TX4) (N := 28) hx hb hts hiX4 hown hK hP 0 rfl rfl 9 (by decide) hw2 (fun _ h9 => h9) rfl dX4_letter_36 ?_
      refine lv_aload_n hx hb dX4_letter_39 rfl (lv_at hl 0 rfl) ?_
      refine va_get (D := (dC, dI)) (ci := 4) (v := .int c_taped) (C := RX4) (T := TX4) (N := 28) hx hb hts hiX4 hown hK hP 0 rfl rfl 13 (by decide) hw1 (fun _ h9 => h9) rfl dX4_letter_40 ?_
      refine lv_iload_n hx hb dX4_letter_43 rfl (lv_at hl 1 rfl) ?_
      obtain ⟨hin, h⟩ := ck_some h
      refine va_iast hx hb hK hP hD hS 7 0 rfl rfl hin dX4_letter_44 (fun H locs hP hD hS => ?_)
      have hP : va_P (dC, dI) vwCl (zwM cI cC f c_r c_refused (upd c_tape (c_taped).toNatClampNeg p1) c_letter c_letterAt c_number c_taped c_at c_statements c_kept c_hasImage c_isKeeping c_cursor c_poled c_barred c_leapsTo c_leapsThen c_lands c_row c_rowMany c_endsAt) H := hP
      have hD : va_D A (zwM cI cC f c_r c_refused (upd c_tape (c_taped).toNatClampNeg p1) c_letter c_letterAt c_number c_taped c_at c_statements c_kept c_hasImage c_isKeeping c_cursor c_poled c_barred c_leapsTo c_leapsThen c_lands c_row c_rowMany c_endsAt) := hD
      refine lv_aload_n hx hb dX4_letter_45 rfl (lv_at hl 0 rfl) ?_
      refine lv_dup hx hb dX4_letter_46 rfl ?_
      refine va_get (D := (dC, dI)) (ci := 4) (v := .int c_taped) (C := RX4) (T := TX4) (N := 28) hx hb hts hiX4 hown hK hP 0 rfl rfl 13 (by decide) hw1 (fun _ h9 => h9) rfl dX4_letter_47 ?_
      refine lv_iconst (v := (1 : Int32)) hx hb dX4_letter_50 (by decide) ?_
      refine lv_iadd hx hb dX4_letter_51 ?_
      refine va_put (D := (dC, dI)) (ci := 4) (v := .int (c_taped + (1 : Int32))) (ty := .int) (C := RX4) (T := TX4) (N := 28) hx hb hts hiX4 tyX4 tyX4_ok nmX4 hown hK hP hD hS 0 rfl rfl 13 (by decide) hw1 (fun _ h9 => h9) rfl (by decide +kernel) rfl rfl (Nat.le_of_ble_eq_true rfl) dX4_letter_52 (fun H locs hP hD hS => ?_)
      have hP : va_P (dC, dI) vwCl (zwM cI cC f c_r c_refused (upd c_tape (c_taped).toNatClampNeg p1) c_letter c_letterAt c_number (c_taped + (1 : Int32)) c_at c_statements c_kept c_hasImage c_isKeeping c_cursor c_poled c_barred c_leapsTo c_leapsThen c_lands c_row c_rowMany c_endsAt) H := hP
      have hD : va_D A (zwM cI cC f c_r c_refused (upd c_tape (c_taped).toNatClampNeg p1) c_letter c_letterAt c_number (c_taped + (1 : Int32)) c_at c_statements c_kept c_hasImage c_isKeeping c_cursor c_poled c_barred c_leapsTo c_leapsThen c_lands c_row c_rowMany c_endsAt) := hD
      refine lv_aload_n hx hb dX4_letter_55 rfl (lv_at hl 0 rfl) ?_
      refine va_get (D := (dC, dI)) (ci := 4) (v := .int (c_taped + (1 : Int32))) (C := RX4) (T := TX4) (N := 28) hx hb hts hiX4 hown hK hP 0 rfl rfl 13 (by decide) hw1 (fun _ h9 => h9) rfl dX4_letter_56 ?_
      subst hQ
      exact retRW (zz := (((c_taped + (1 : Int32)), c_refused, (upd c_tape (c_taped).toNatClampNeg p1), (c_taped + (1 : Int32))) : Int32 × AR × AR × Int32)) (fun z => z.1) (fun z => (zwM cI cC f c_r z.2.1 z.2.2.1 c_letter c_letterAt c_number z.2.2.2 c_at c_statements c_kept c_hasImage c_isKeeping c_cursor c_poled c_barred c_leapsTo c_leapsThen c_lands c_row c_rowMany c_endsAt)) hx hb hr hlocks rfl hS h rfl hP dX4_letter_59
    have h := itF c26 h
    refine lv_aload_n hx hb dX4_letter_29 rfl (lv_at hl 0 rfl) ?_
    refine lv_iload_n hx hb dX4_letter_30 rfl (lv_at hl 2 rfl) ?_
    obtain ⟨q31, e31, h⟩ := bd_some h
    refine g_rwV (wc := (zwM cI cC f c_r c_refused c_tape c_letter c_letterAt c_number c_taped c_at c_statements c_kept c_hasImage c_isKeeping c_cursor c_poled c_barred c_leapsTo c_leapsThen c_lands c_row c_rowMany c_endsAt)) (wc' := (zwM cI cC f c_r q31.2 c_tape c_letter c_letterAt c_number c_taped c_at c_statements c_kept c_hasImage c_isKeeping c_cursor c_poled c_barred c_leapsTo c_leapsThen c_lands c_row c_rowMany c_endsAt)) ⟨hx, hb, hml, hown, hts⟩ hE hK hA hP hD hS [0, 1, 2, 3, 4, 5, 6, 7, 8, 9, 10, 11, 12, 13, 14, 15] rfl rfl rfl (mX4_no l dC dI cI cC sk f H.size v25 c_r c_refused c_tape c_letter c_letterAt c_number c_taped c_at c_statements c_kept c_hasImage c_isKeeping c_cursor c_poled c_barred c_leapsTo c_leapsThen c_lands c_row c_rowMany c_endsAt q31 e31) (cwV 1 hts gX4_letter_X4_no rfl rfl rfl (by decide +kernel) ⟨Nat.le_of_ble_eq_true rfl, Nat.le_of_ble_eq_true rfl⟩) (va_recv hK hP (ci := 4) (q0 := 0) rfl rfl) (As := [.int v25]) (rest := []) rfl hl.1 rfl (Nat.le_of_ble_eq_true rfl) dX4_letter_31 ⟨Nat.zero_le _, Nat.zero_le _⟩ (fun H locs hP hD hS => ?_)
    have hP : va_P (dC, dI) vwCl (zwM cI cC f c_r q31.2 c_tape c_letter c_letterAt c_number c_taped c_at c_statements c_kept c_hasImage c_isKeeping c_cursor c_poled c_barred c_leapsTo c_leapsThen c_lands c_row c_rowMany c_endsAt) H := hP
    have hD : va_D A (zwM cI cC f c_r q31.2 c_tape c_letter c_letterAt c_number c_taped c_at c_statements c_kept c_hasImage c_isKeeping c_cursor c_poled c_barred c_leapsTo c_leapsThen c_lands c_row c_rowMany c_endsAt) := hD
    subst hQ
    exact retRW (zz := ((q31.1, q31.2, c_tape, c_taped) : Int32 × AR × AR × Int32)) (fun z => z.1) (fun z => (zwM cI cC f c_r z.2.1 z.2.2.1 c_letter c_letterAt c_number z.2.2.2 c_at c_statements c_kept c_hasImage c_isKeeping c_cursor c_poled c_barred c_leapsTo c_leapsThen c_lands c_row c_rowMany c_endsAt)) hx hb hr hlocks rfl hS h rfl hP dX4_letter_34
  refine lv_if_ne (tgt := 25) hx hb dX4_letter_10 (by decide) (fun c10 => ?_) (fun c10 => ?_)
  · have h := itF c10 h
    exact j25 _ h _ _ _ hP hD hS (lv_sub hl [1, 2, 0] rfl)
  have h := itT c10 h
  refine lv_aload_n hx hb dX4_letter_13 rfl (lv_at hl 1 rfl) ?_
  refine va_get (D := (dC, dI)) (ci := 4) (v := .int c_taped) (C := RX4) (T := TX4) (N := 28) hx hb hts hiX4 hown hK hP 0 rfl rfl 13 (by decide) hw1 (fun _ h9 => h9) rfl dX4_letter_14 ?_
  refine lv_bipush (v := (80 : Int32)) hx hb dX4_letter_17 (by decide) ?_
  refine lv_icmp_ne (tgt := 25) hx hb dX4_letter_19 (by decide) (fun c19 => ?_) (fun c19 => ?_)
  · have h := itF c19 h
    exact j25 _ h _ _ _ hP hD hS (lv_sub hl [1, 2, 0] rfl)
  have h := itT c19 h
  refine lv_bipush (v := (-6 : Int32)) hx hb dX4_letter_22 (by decide) ?_
  refine lv_istore_n (lv' := [(2, .int (-6 : Int32)), (0, .ref (f 0)), (1, .int p1)]) hx hb dX4_letter_24 rfl hl (by decide) rfl (fun ls hl => ?_)
  exact j25 _ h _ _ _ hP hD hS (lv_sub hl [1, 2, 0] rfl)
theorem dX4_nextLetter_0 : decode cX4_nextLetter 0 = .ok (.aload_n 0, 1) := by decide +kernel
theorem dX4_nextLetter_1 : decode cX4_nextLetter 1 = .ok (.getfield 77, 3) := by decide +kernel
theorem dX4_nextLetter_4 : decode cX4_nextLetter 4 = .ok (.aload_n 0, 1) := by decide +kernel
theorem dX4_nextLetter_5 : decode cX4_nextLetter 5 = .ok (.getfield 70, 3) := by decide +kernel
theorem dX4_nextLetter_8 : decode cX4_nextLetter 8 = .ok (.if_icmp .ge 15, 3) := by decide +kernel
theorem dX4_nextLetter_11 : decode cX4_nextLetter 11 = .ok (.aload_n 0, 1) := by decide +kernel
theorem dX4_nextLetter_12 : decode cX4_nextLetter 12 = .ok (.getfield 32, 3) := by decide +kernel
theorem dX4_nextLetter_15 : decode cX4_nextLetter 15 = .ok (.aload_n 0, 1) := by decide +kernel
theorem dX4_nextLetter_16 : decode cX4_nextLetter 16 = .ok (.getfield 77, 3) := by decide +kernel
theorem dX4_nextLetter_19 : decode cX4_nextLetter 19 = .ok (.iaload, 1) := by decide +kernel
theorem dX4_nextLetter_20 : decode cX4_nextLetter 20 = .ok (.goto 4, 3) := by decide +kernel
theorem dX4_nextLetter_23 : decode cX4_nextLetter 23 = .ok (.iconst (-1), 1) := by decide +kernel
theorem dX4_nextLetter_24 : decode cX4_nextLetter 24 = .ok (.ireturn, 1) := by decide +kernel
set_option maxHeartbeats 4000000 in
set_option maxRecDepth 100000 in
theorem mX4_nextLetter (l : Launch) (dC : Nat → ClassId) (dI : Nat → Nat → Nat) (cI cC : ClassId) (sk : (Nat → Nat) × (Nat → Nat)) (f : Nat → Nat)  (c_r : RT) (c_refused : AR) (c_tape : AR) (c_letter : AR) (c_letterAt : AR) (c_number : AR) (c_taped : Int32) (c_at : Int32) (c_statements : Int32) (c_kept : AR) (c_hasImage : Int32) (c_isKeeping : Int32) (c_cursor : Int32) (c_poled : Int32) (c_barred : Int32) (c_leapsTo : AR) (c_leapsThen : AR) (c_lands : AR) (c_row : AR) (c_rowMany : Int32) (c_endsAt : Int32) (z : Int32) (h : fX4_nextLetter c_tape c_taped c_at = some z) : cRO l yX4_nextLetter wsX4_nextLetter (RMk 0 0) sk (dC, dI) (tyz cI cC) (zwM cI cC f c_r c_refused c_tape c_letter c_letterAt c_number c_taped c_at c_statements c_kept c_hasImage c_isKeeping c_cursor c_poled c_barred c_leapsTo c_leapsThen c_lands c_row c_rowMany c_endsAt) [.ref (f 0)] z := by
  refine ofRO (cc := cX4_nextLetter) (maxL := 1) (ret := (some .int)) (own := RX4) (plainFor_of_name (by decide)) rfl rfl (Nat.le_of_ble_eq_true rfl) ?_
  intro p e s m args below meth c hx hb hml hr hts hown hlocks hE hK hP hS ls hl
  generalize hQ : qRO _ _ _ _ = Q
  have hl : lv_has ls 1 [(0, .ref (f 0))] := hl
  have hiX4 : ∀ w ∈ wsX40, w ∈ wsX4_nextLetter := fun w h => List.mem_cons_of_mem _ (List.mem_append_right _ h)
  have hw1 := hts (Cond.fieldLink RX4 77 "FloeToFloeModel" "at" "I") (List.mem_of_getElem? (i := 1) rfl)
  have hw2 := hts (Cond.fieldLink RX4 70 "FloeToFloeModel" "taped" "I") (List.mem_of_getElem? (i := 2) rfl)
  have hw3 := hts (Cond.fieldLink RX4 32 "FloeToFloeModel" "tape" "[I") (List.mem_of_getElem? (i := 3) rfl)
  rw [fX4_nextLetter] at h
  refine lv_aload_n hx hb dX4_nextLetter_0 rfl (lv_at hl 0 rfl) ?_
  refine va_get (D := (dC, dI)) (ci := 4) (v := .int c_at) (C := RX4) (T := TX4) (N := 28) hx hb hts hiX4 hown hK hP 0 rfl rfl 14 (by decide) hw1 (fun _ h9 => h9) rfl dX4_nextLetter_1 ?_
  refine lv_aload_n hx hb dX4_nextLetter_4 rfl (lv_at hl 0 rfl) ?_
  refine va_get (D := (dC, dI)) (ci := 4) (v := .int c_taped) (C := RX4) (T := TX4) (N := 28) hx hb hts hiX4 hown hK hP 0 rfl rfl 13 (by decide) hw2 (fun _ h9 => h9) rfl dX4_nextLetter_5 ?_
  refine lv_icmp_ge (tgt := 23) hx hb dX4_nextLetter_8 (by decide) (fun c8 => ?_) (fun c8 => ?_)
  · have h := itT c8 h
    refine lv_iconst (v := (-1 : Int32)) hx hb dX4_nextLetter_23 (by decide) ?_
    subst hQ
    exact retRO hx hb hr hlocks rfl hS h dX4_nextLetter_24
  have h := itF c8 h
  refine lv_aload_n hx hb dX4_nextLetter_11 rfl (lv_at hl 0 rfl) ?_
  refine va_get (D := (dC, dI)) (ci := 4) (v := .ref (f 7)) (C := RX4) (T := TX4) (N := 28) hx hb hts hiX4 hown hK hP 0 rfl rfl 9 (by decide) hw3 (fun _ h9 => h9) rfl dX4_nextLetter_12 ?_
  refine lv_aload_n hx hb dX4_nextLetter_15 rfl (lv_at hl 0 rfl) ?_
  refine va_get (D := (dC, dI)) (ci := 4) (v := .int c_at) (C := RX4) (T := TX4) (N := 28) hx hb hts hiX4 hown hK hP 0 rfl rfl 14 (by decide) hw1 (fun _ h9 => h9) rfl dX4_nextLetter_16 ?_
  obtain ⟨hin, h⟩ := ck_some h
  refine va_iald hx hb hK hP 7 0 rfl rfl hin dX4_nextLetter_19 ?_
  refine lv_goto (tgt := 24) hx hb dX4_nextLetter_20 (by decide) ?_
  subst hQ
  exact retRO hx hb hr hlocks rfl hS h dX4_nextLetter_24
theorem dX4_reads_0 : decode cX4_reads 0 = .ok (.aload_n 0, 1) := by decide +kernel
theorem dX4_reads_1 : decode cX4_reads 1 = .ok (.invokevirtual 80, 3) := by decide +kernel
theorem dX4_reads_4 : decode cX4_reads 4 = .ok (.bipush 48, 2) := by decide +kernel
theorem dX4_reads_6 : decode cX4_reads 6 = .ok (.bipush 57, 2) := by decide +kernel
theorem dX4_reads_8 : decode cX4_reads 8 = .ok (.invokestatic 62, 3) := by decide +kernel
theorem dX4_reads_11 : decode cX4_reads 11 = .ok (.ifCond .ne 5, 3) := by decide +kernel
theorem dX4_reads_14 : decode cX4_reads 14 = .ok (.iconst 0, 1) := by decide +kernel
theorem dX4_reads_15 : decode cX4_reads 15 = .ok (.ireturn, 1) := by decide +kernel
theorem dX4_reads_16 : decode cX4_reads 16 = .ok (.iconst 0, 1) := by decide +kernel
theorem dX4_reads_17 : decode cX4_reads 17 = .ok (.istore_n 3, 1) := by decide +kernel
theorem dX4_reads_18 : decode cX4_reads 18 = .ok (.iconst 0, 1) := by decide +kernel
theorem dX4_reads_19 : decode cX4_reads 19 = .ok (.istore 4, 2) := by decide +kernel
theorem dX4_reads_21 : decode cX4_reads 21 = .ok (.iload 4, 2) := by decide +kernel
theorem dX4_reads_23 : decode cX4_reads 23 = .ok (.iload_n 2, 1) := by decide +kernel
theorem dX4_reads_24 : decode cX4_reads 24 = .ok (.if_icmp .ge 46, 3) := by decide +kernel
theorem dX4_reads_27 : decode cX4_reads 27 = .ok (.aload_n 0, 1) := by decide +kernel
theorem dX4_reads_28 : decode cX4_reads 28 = .ok (.invokevirtual 80, 3) := by decide +kernel
theorem dX4_reads_31 : decode cX4_reads 31 = .ok (.bipush 48, 2) := by decide +kernel
theorem dX4_reads_33 : decode cX4_reads 33 = .ok (.bipush 57, 2) := by decide +kernel
theorem dX4_reads_35 : decode cX4_reads 35 = .ok (.invokestatic 62, 3) := by decide +kernel
theorem dX4_reads_38 : decode cX4_reads 38 = .ok (.ifCond .eq 32, 3) := by decide +kernel
theorem dX4_reads_41 : decode cX4_reads 41 = .ok (.bipush 10, 2) := by decide +kernel
theorem dX4_reads_43 : decode cX4_reads 43 = .ok (.iload_n 3, 1) := by decide +kernel
theorem dX4_reads_44 : decode cX4_reads 44 = .ok (.imul, 1) := by decide +kernel
theorem dX4_reads_45 : decode cX4_reads 45 = .ok (.aload_n 0, 1) := by decide +kernel
theorem dX4_reads_46 : decode cX4_reads 46 = .ok (.invokevirtual 80, 3) := by decide +kernel
theorem dX4_reads_49 : decode cX4_reads 49 = .ok (.iadd, 1) := by decide +kernel
theorem dX4_reads_50 : decode cX4_reads 50 = .ok (.bipush 48, 2) := by decide +kernel
theorem dX4_reads_52 : decode cX4_reads 52 = .ok (.isub, 1) := by decide +kernel
theorem dX4_reads_53 : decode cX4_reads 53 = .ok (.istore_n 3, 1) := by decide +kernel
theorem dX4_reads_54 : decode cX4_reads 54 = .ok (.aload_n 0, 1) := by decide +kernel
theorem dX4_reads_55 : decode cX4_reads 55 = .ok (.dup, 1) := by decide +kernel
theorem dX4_reads_56 : decode cX4_reads 56 = .ok (.getfield 77, 3) := by decide +kernel
theorem dX4_reads_59 : decode cX4_reads 59 = .ok (.iconst 1, 1) := by decide +kernel
theorem dX4_reads_60 : decode cX4_reads 60 = .ok (.iadd, 1) := by decide +kernel
theorem dX4_reads_61 : decode cX4_reads 61 = .ok (.putfield 77, 3) := by decide +kernel
theorem dX4_reads_64 : decode cX4_reads 64 = .ok (.iinc 4 1, 3) := by decide +kernel
theorem dX4_reads_67 : decode cX4_reads 67 = .ok (.goto (-46), 3) := by decide +kernel
theorem dX4_reads_70 : decode cX4_reads 70 = .ok (.aload_n 0, 1) := by decide +kernel
theorem dX4_reads_71 : decode cX4_reads 71 = .ok (.getfield 41, 3) := by decide +kernel
theorem dX4_reads_74 : decode cX4_reads 74 = .ok (.iload_n 1, 1) := by decide +kernel
theorem dX4_reads_75 : decode cX4_reads 75 = .ok (.iload_n 3, 1) := by decide +kernel
theorem dX4_reads_76 : decode cX4_reads 76 = .ok (.iastore, 1) := by decide +kernel
theorem dX4_reads_77 : decode cX4_reads 77 = .ok (.iconst 1, 1) := by decide +kernel
theorem dX4_reads_78 : decode cX4_reads 78 = .ok (.ireturn, 1) := by decide +kernel
set_option maxRecDepth 20000 in
theorem ggX4_reads_X4_nextLetter : GoodIn wsX4_reads wsX4_nextLetter := goodIn_r _ [7, 1, 8, 9, 13, 14, 15, 16, 17, 18, 19, 20, 21, 22, 23, 24, 25, 26, 27, 28, 29, 30, 31, 32, 33, 34, 35, 36, 37, 38, 39, 40] (by decide +kernel) (by decide +kernel)
set_option maxRecDepth 20000 in
theorem gX4_reads_X4_nextLetter : GoodIn wsX4_reads (wsV RX4 80 RX4 yX4_nextLetter wsX4_nextLetter) := goodIn_app (goodIn_of _ (by decide +kernel)) ggX4_reads_X4_nextLetter
set_option maxRecDepth 20000 in
theorem ggX4_reads_X4_isIn : GoodIn wsX4_reads wsX4_isIn := goodIn_r _ [12] (by decide +kernel) (by decide +kernel)
set_option maxRecDepth 20000 in
theorem gX4_reads_X4_isIn : GoodIn wsX4_reads (va_wsS RX4 62 yX4_isIn wsX4_isIn) := goodIn_app (goodIn_of _ (by decide +kernel)) ggX4_reads_X4_isIn
set_option maxHeartbeats 4000000 in
set_option maxRecDepth 100000 in
theorem mX4_reads (l : Launch) (dC : Nat → ClassId) (dI : Nat → Nat → Nat) (cI cC : ClassId) (sk : (Nat → Nat) × (Nat → Nat)) (f : Nat → Nat) (sz : Nat) (p1 : Int32) (p2 : Int32) (c_r : RT) (c_refused : AR) (c_tape : AR) (c_letter : AR) (c_letterAt : AR) (c_number : AR) (c_taped : Int32) (c_at : Int32) (c_statements : Int32) (c_kept : AR) (c_hasImage : Int32) (c_isKeeping : Int32) (c_cursor : Int32) (c_poled : Int32) (c_barred : Int32) (c_leapsTo : AR) (c_leapsThen : AR) (c_lands : AR) (c_row : AR) (c_rowMany : Int32) (c_endsAt : Int32) (z : Int32 × AR × Int32) (h : fX4_reads p1 p2 c_tape c_number c_taped c_at = some z) : cRW l yX4_reads wsX4_reads (RMk 1 22) sk (dC, dI) (tyz cI cC) sz (zwM cI cC f c_r c_refused c_tape c_letter c_letterAt c_number c_taped c_at c_statements c_kept c_hasImage c_isKeeping c_cursor c_poled c_barred c_leapsTo c_leapsThen c_lands c_row c_rowMany c_endsAt) (zwM cI cC f c_r c_refused c_tape c_letter c_letterAt z.2.1 c_taped z.2.2 c_statements c_kept c_hasImage c_isKeeping c_cursor c_poled c_barred c_leapsTo c_leapsThen c_lands c_row c_rowMany c_endsAt) [.ref (f 0), .int p1, .int p2] z.1 := by
  refine ofRW (cc := cX4_reads) (maxL := 5) (ret := (some .boolean)) (own := RX4) (plainFor_of_name (by decide)) rfl rfl (Nat.le_of_ble_eq_true rfl) ?_
  intro p e s m args below meth c A hA hx hb hml hr hts hown hlocks hE hK hP hD hS ls hl
  generalize hQ : qRW _ _ _ _ _ _ _ = Q
  have hl : lv_has ls 5 [(0, .ref (f 0)), (1, .int p1), (2, .int p2)] := hl
  have hiX4 : ∀ w ∈ wsX40, w ∈ wsX4_reads := fun w h => List.mem_cons_of_mem _ (List.mem_append_right _ h)
  have hw1 := hts (Cond.fieldLink RX4 77 "FloeToFloeModel" "at" "I") (List.mem_of_getElem? (i := 1) rfl)
  have hw2 := hts (Cond.fieldLink RX4 41 "FloeToFloeModel" "number" "[I") (List.mem_of_getElem? (i := 2) rfl)
  rw [fX4_reads] at h
  refine lv_aload_n hx hb dX4_reads_0 rfl (lv_at hl 0 rfl) ?_
  obtain ⟨q1, e1, h⟩ := bd_some h
  refine g_roV (wc := (zwM cI cC f c_r c_refused c_tape c_letter c_letterAt c_number c_taped c_at c_statements c_kept c_hasImage c_isKeeping c_cursor c_poled c_barred c_leapsTo c_leapsThen c_lands c_row c_rowMany c_endsAt)) ⟨hx, hb, hml, hown, hts⟩ hE hK hP hS [0, 1, 2, 3, 4, 5, 6, 7, 8, 9, 10, 11, 12, 13, 14, 15] rfl (mX4_nextLetter l dC dI cI cC sk f c_r c_refused c_tape c_letter c_letterAt c_number c_taped c_at c_statements c_kept c_hasImage c_isKeeping c_cursor c_poled c_barred c_leapsTo c_leapsThen c_lands c_row c_rowMany c_endsAt q1 e1) (cwV 0 hts gX4_reads_X4_nextLetter rfl rfl rfl (by decide +kernel) ⟨Nat.le_of_ble_eq_true rfl, Nat.le_of_ble_eq_true rfl⟩) (va_recv hK hP (ci := 4) (q0 := 0) rfl rfl) (As := []) (rest := []) rfl hl.1 rfl (Nat.le_of_ble_eq_true rfl) dX4_reads_1 ⟨Nat.zero_le _, Nat.zero_le _⟩ (fun H locs hP hS => ?_)
  refine lv_bipush (v := (48 : Int32)) hx hb dX4_reads_4 (by decide) ?_
  refine lv_bipush (v := (57 : Int32)) hx hb dX4_reads_6 (by decide) ?_
  obtain ⟨q8, e8, h⟩ := bd_some h
  refine g_roS (wc := ([] : va_W)) ⟨hx, hb, hml, hown, hts⟩ hE hK hP hS [] rfl (mX4_isIn l dC dI cI cC sk  q1 (48 : Int32) (57 : Int32) q8 e8) (va_cwS 3 hts gX4_reads_X4_isIn rfl rfl rfl (by decide +kernel) ⟨Nat.le_of_ble_eq_true rfl, Nat.le_of_ble_eq_true rfl⟩) (As := [.int q1, .int (48 : Int32), .int (57 : Int32)]) (rest := []) rfl hl.1 rfl (Nat.le_of_ble_eq_true rfl) dX4_reads_8 ⟨Nat.zero_le _, Nat.zero_le _⟩ (fun H locs hP hS => ?_)
  refine lv_if_ne (tgt := 16) hx hb dX4_reads_11 (by decide) (fun c11 => ?_) (fun c11 => ?_)
  · have h := itF c11 h
    refine lv_iconst (v := (0 : Int32)) hx hb dX4_reads_16 (by decide) ?_
    refine lv_istore_n (lv' := [(3, .int (0 : Int32)), (0, .ref (f 0)), (1, .int p1), (2, .int p2)]) hx hb dX4_reads_17 rfl hl (by decide) rfl (fun ls hl => ?_)
    refine lv_iconst (v := (0 : Int32)) hx hb dX4_reads_18 (by decide) ?_
    refine lv_istore (lv' := [(4, .int (0 : Int32)), (3, .int (0 : Int32)), (0, .ref (f 0)), (1, .int p1), (2, .int p2)]) hx hb dX4_reads_19 hl (by decide) rfl (fun ls hl => ?_)
    have L21 : ∀ (K21 : Int32 → Int32 → Option (Int32 × AR × Int32)), (∀ (k21_3 : Int32) (k21_at : Int32), K21 k21_3 k21_at = some z → ∀ (H : Heap) (locs : List Loc) (ls : Array Slot), va_P (dC, dI) vwCl (zwM cI cC f c_r c_refused c_tape c_letter c_letterAt c_number c_taped k21_at c_statements c_kept c_hasImage c_isKeeping c_cursor c_poled c_barred c_leapsTo c_leapsThen c_lands c_row c_rowMany c_endsAt) H → va_D A (zwM cI cC f c_r c_refused c_tape c_letter c_letterAt c_number c_taped k21_at c_statements c_kept c_hasImage c_isKeeping c_cursor c_poled c_barred c_leapsTo c_leapsThen c_lands c_row c_rowMany c_endsAt) → va_S A s.heap H locs → lv_has ls 5 [(0, .ref (f 0)), (1, .int p1), (3, .int k21_3)] → W p l e (RMk 1 22) s m args below meth c H locs 0 0 Q (F0 m 70 ls [])) → ∀ (n : Nat) (x21_3 : Int32) (x21_4 : Int32) (x21_at : Int32), fX4_reads_L21 c_tape c_taped p2 K21 n x21_3 x21_4 x21_at = some z → ∀ (H : Heap) (locs : List Loc) (ls : Array Slot), va_P (dC, dI) vwCl (zwM cI cC f c_r c_refused c_tape c_letter c_letterAt c_number c_taped x21_at c_statements c_kept c_hasImage c_isKeeping c_cursor c_poled c_barred c_leapsTo c_leapsThen c_lands c_row c_rowMany c_endsAt) H → va_D A (zwM cI cC f c_r c_refused c_tape c_letter c_letterAt c_number c_taped x21_at c_statements c_kept c_hasImage c_isKeeping c_cursor c_poled c_barred c_leapsTo c_leapsThen c_lands c_row c_rowMany c_endsAt) → va_S A s.heap H locs → lv_has ls 5 [(0, .ref (f 0)), (1, .int p1), (2, .int p2), (3, .int x21_3), (4, .int x21_4)] → W p l e (RMk 1 22) s m args below meth c H locs 0 0 Q (F0 m 21 ls []) := by
      intro K21 kx21 n
      induction n with
      | zero => intro x21_3 x21_4 x21_at h; rw [fX4_reads_L21] at h; cases h
      | succ n ih21 =>
        intro x21_3 x21_4 x21_at h H locs ls hP hD hS hl
        rw [fX4_reads_L21] at h
        refine lv_iload hx hb dX4_reads_21 (lv_at hl 4 rfl) ?_
        refine lv_iload_n hx hb dX4_reads_23 rfl (lv_at hl 2 rfl) ?_
        refine lv_icmp_ge (tgt := 70) hx hb dX4_reads_24 (by decide) (fun c24 => ?_) (fun c24 => ?_)
        · have h := itT c24 h
          exact kx21 _ _ h _ _ _ hP hD hS (lv_sub hl [0, 1, 3] rfl)
        have h := itF c24 h
        refine lv_aload_n hx hb dX4_reads_27 rfl (lv_at hl 0 rfl) ?_
        obtain ⟨q28, e28, h⟩ := bd_some h
        refine g_roV (wc := (zwM cI cC f c_r c_refused c_tape c_letter c_letterAt c_number c_taped x21_at c_statements c_kept c_hasImage c_isKeeping c_cursor c_poled c_barred c_leapsTo c_leapsThen c_lands c_row c_rowMany c_endsAt)) ⟨hx, hb, hml, hown, hts⟩ hE hK hP hS [0, 1, 2, 3, 4, 5, 6, 7, 8, 9, 10, 11, 12, 13, 14, 15] rfl (mX4_nextLetter l dC dI cI cC sk f c_r c_refused c_tape c_letter c_letterAt c_number c_taped x21_at c_statements c_kept c_hasImage c_isKeeping c_cursor c_poled c_barred c_leapsTo c_leapsThen c_lands c_row c_rowMany c_endsAt q28 e28) (cwV 0 hts gX4_reads_X4_nextLetter rfl rfl rfl (by decide +kernel) ⟨Nat.le_of_ble_eq_true rfl, Nat.le_of_ble_eq_true rfl⟩) (va_recv hK hP (ci := 4) (q0 := 0) rfl rfl) (As := []) (rest := []) rfl hl.1 rfl (Nat.le_of_ble_eq_true rfl) dX4_reads_28 ⟨Nat.zero_le _, Nat.zero_le _⟩ (fun H locs hP hS => ?_)
        refine lv_bipush (v := (48 : Int32)) hx hb dX4_reads_31 (by decide) ?_
        refine lv_bipush (v := (57 : Int32)) hx hb dX4_reads_33 (by decide) ?_
        obtain ⟨q35, e35, h⟩ := bd_some h
        refine g_roS (wc := ([] : va_W)) ⟨hx, hb, hml, hown, hts⟩ hE hK hP hS [] rfl (mX4_isIn l dC dI cI cC sk  q28 (48 : Int32) (57 : Int32) q35 e35) (va_cwS 3 hts gX4_reads_X4_isIn rfl rfl rfl (by decide +kernel) ⟨Nat.le_of_ble_eq_true rfl, Nat.le_of_ble_eq_true rfl⟩) (As := [.int q28, .int (48 : Int32), .int (57 : Int32)]) (rest := []) rfl hl.1 rfl (Nat.le_of_ble_eq_true rfl) dX4_reads_35 ⟨Nat.zero_le _, Nat.zero_le _⟩ (fun H locs hP hS => ?_)
        refine lv_if_eq (tgt := 70) hx hb dX4_reads_38 (by decide) (fun c38 => ?_) (fun c38 => ?_)
        · have h := itT c38 h
          exact kx21 _ _ h _ _ _ hP hD hS (lv_sub hl [0, 1, 3] rfl)
        have h := itF c38 h
        refine lv_bipush (v := (10 : Int32)) hx hb dX4_reads_41 (by decide) ?_
        refine lv_iload_n hx hb dX4_reads_43 rfl (lv_at hl 3 rfl) ?_
        refine lv_imul hx hb dX4_reads_44 ?_
        refine lv_aload_n hx hb dX4_reads_45 rfl (lv_at hl 0 rfl) ?_
        obtain ⟨q46, e46, h⟩ := bd_some h
        refine g_roV (wc := (zwM cI cC f c_r c_refused c_tape c_letter c_letterAt c_number c_taped x21_at c_statements c_kept c_hasImage c_isKeeping c_cursor c_poled c_barred c_leapsTo c_leapsThen c_lands c_row c_rowMany c_endsAt)) ⟨hx, hb, hml, hown, hts⟩ hE hK hP hS [0, 1, 2, 3, 4, 5, 6, 7, 8, 9, 10, 11, 12, 13, 14, 15] rfl (mX4_nextLetter l dC dI cI cC sk f c_r c_refused c_tape c_letter c_letterAt c_number c_taped x21_at c_statements c_kept c_hasImage c_isKeeping c_cursor c_poled c_barred c_leapsTo c_leapsThen c_lands c_row c_rowMany c_endsAt q46 e46) (cwV 0 hts gX4_reads_X4_nextLetter rfl rfl rfl (by decide +kernel) ⟨Nat.le_of_ble_eq_true rfl, Nat.le_of_ble_eq_true rfl⟩) (va_recv hK hP (ci := 4) (q0 := 0) rfl rfl) (As := []) (rest := [.int ((10 : Int32) * x21_3)]) rfl hl.1 rfl (Nat.le_of_ble_eq_true rfl) dX4_reads_46 ⟨Nat.zero_le _, Nat.zero_le _⟩ (fun H locs hP hS => ?_)
        refine lv_iadd hx hb dX4_reads_49 ?_
        refine lv_bipush (v := (48 : Int32)) hx hb dX4_reads_50 (by decide) ?_
        refine lv_isub hx hb dX4_reads_52 ?_
        refine lv_istore_n (lv' := [(3, .int ((((10 : Int32) * x21_3) + q46) - (48 : Int32))), (0, .ref (f 0)), (1, .int p1), (2, .int p2), (4, .int x21_4)]) hx hb dX4_reads_53 rfl hl (by decide) rfl (fun ls hl => ?_)
        refine lv_aload_n hx hb dX4_reads_54 rfl (lv_at hl 1 rfl) ?_
        refine lv_dup hx hb dX4_reads_55 rfl ?_
        refine va_get (D := (dC, dI)) (ci := 4) (v := .int x21_at) (C := RX4) (T := TX4) (N := 28) hx hb hts hiX4 hown hK hP 0 rfl rfl 14 (by decide) hw1 (fun _ h9 => h9) rfl dX4_reads_56 ?_
        refine lv_iconst (v := (1 : Int32)) hx hb dX4_reads_59 (by decide) ?_
        refine lv_iadd hx hb dX4_reads_60 ?_
        refine va_put (D := (dC, dI)) (ci := 4) (v := .int (x21_at + (1 : Int32))) (ty := .int) (C := RX4) (T := TX4) (N := 28) hx hb hts hiX4 tyX4 tyX4_ok nmX4 hown hK hP hD hS 0 rfl rfl 14 (by decide) hw1 (fun _ h9 => h9) rfl (by decide +kernel) rfl rfl (Nat.le_of_ble_eq_true rfl) dX4_reads_61 (fun H locs hP hD hS => ?_)
        have hP : va_P (dC, dI) vwCl (zwM cI cC f c_r c_refused c_tape c_letter c_letterAt c_number c_taped (x21_at + (1 : Int32)) c_statements c_kept c_hasImage c_isKeeping c_cursor c_poled c_barred c_leapsTo c_leapsThen c_lands c_row c_rowMany c_endsAt) H := hP
        have hD : va_D A (zwM cI cC f c_r c_refused c_tape c_letter c_letterAt c_number c_taped (x21_at + (1 : Int32)) c_statements c_kept c_hasImage c_isKeeping c_cursor c_poled c_barred c_leapsTo c_leapsThen c_lands c_row c_rowMany c_endsAt) := hD
        refine lv_iinc (v := (x21_4 + (1 : Int32))) (lv' := [(4, .int (x21_4 + (1 : Int32))), (3, .int ((((10 : Int32) * x21_3) + q46) - (48 : Int32))), (0, .ref (f 0)), (1, .int p1), (2, .int p2)]) hx hb dX4_reads_64 hl (k := 4) rfl rfl (by decide) rfl (fun ls hl => ?_)
        refine lv_goto (tgt := 21) hx hb dX4_reads_67 (by decide) ?_
        exact ih21 _ _ _ h _ _ _ hP hD hS (lv_sub hl [2, 3, 4, 1, 0] rfl)
    refine L21 _ (fun k21_3 k21_at h H locs ls hP hD hS hl => ?_) _ _ _ _ h _ _ _ hP hD hS (lv_sub hl [2, 3, 4, 1, 0] rfl)
    refine lv_aload_n hx hb dX4_reads_70 rfl (lv_at hl 0 rfl) ?_
    refine va_get (D := (dC, dI)) (ci := 4) (v := .ref (f 10)) (C := RX4) (T := TX4) (N := 28) hx hb hts hiX4 hown hK hP 0 rfl rfl 12 (by decide) hw2 (fun _ h9 => h9) rfl dX4_reads_71 ?_
    refine lv_iload_n hx hb dX4_reads_74 rfl (lv_at hl 1 rfl) ?_
    refine lv_iload_n hx hb dX4_reads_75 rfl (lv_at hl 2 rfl) ?_
    obtain ⟨hin, h⟩ := ck_some h
    refine va_iast hx hb hK hP hD hS 10 0 rfl rfl hin dX4_reads_76 (fun H locs hP hD hS => ?_)
    have hP : va_P (dC, dI) vwCl (zwM cI cC f c_r c_refused c_tape c_letter c_letterAt (upd c_number (p1).toNatClampNeg k21_3) c_taped k21_at c_statements c_kept c_hasImage c_isKeeping c_cursor c_poled c_barred c_leapsTo c_leapsThen c_lands c_row c_rowMany c_endsAt) H := hP
    have hD : va_D A (zwM cI cC f c_r c_refused c_tape c_letter c_letterAt (upd c_number (p1).toNatClampNeg k21_3) c_taped k21_at c_statements c_kept c_hasImage c_isKeeping c_cursor c_poled c_barred c_leapsTo c_leapsThen c_lands c_row c_rowMany c_endsAt) := hD
    refine lv_iconst (v := (1 : Int32)) hx hb dX4_reads_77 (by decide) ?_
    subst hQ
    exact retRW (zz := (((1 : Int32), (upd c_number (p1).toNatClampNeg k21_3), k21_at) : Int32 × AR × Int32)) (fun z => z.1) (fun z => (zwM cI cC f c_r c_refused c_tape c_letter c_letterAt z.2.1 c_taped z.2.2 c_statements c_kept c_hasImage c_isKeeping c_cursor c_poled c_barred c_leapsTo c_leapsThen c_lands c_row c_rowMany c_endsAt)) hx hb hr hlocks rfl hS h rfl hP dX4_reads_78
  have h := itT c11 h
  refine lv_iconst (v := (0 : Int32)) hx hb dX4_reads_14 (by decide) ?_
  subst hQ
  exact retRW (zz := (((0 : Int32), c_number, c_at) : Int32 × AR × Int32)) (fun z => z.1) (fun z => (zwM cI cC f c_r c_refused c_tape c_letter c_letterAt z.2.1 c_taped z.2.2 c_statements c_kept c_hasImage c_isKeeping c_cursor c_poled c_barred c_leapsTo c_leapsThen c_lands c_row c_rowMany c_endsAt)) hx hb hr hlocks rfl hS h rfl hP dX4_reads_15
theorem dX4_kindOf_0 : decode cX4_kindOf 0 = .ok (.iload_n 0, 1) := by decide +kernel
theorem dX4_kindOf_1 : decode cX4_kindOf 1 = .ok (.tableswitch 87 102 116 #[75, 79, 83, 87, 87, 87, 87, 77, 87, 87, 87, 87, 87, 85, 81], 75) := by decide +kernel
theorem dX4_kindOf_76 : decode cX4_kindOf 76 = .ok (.iconst 0, 1) := by decide +kernel
theorem dX4_kindOf_77 : decode cX4_kindOf 77 = .ok (.ireturn, 1) := by decide +kernel
theorem dX4_kindOf_78 : decode cX4_kindOf 78 = .ok (.iconst 1, 1) := by decide +kernel
theorem dX4_kindOf_79 : decode cX4_kindOf 79 = .ok (.ireturn, 1) := by decide +kernel
theorem dX4_kindOf_80 : decode cX4_kindOf 80 = .ok (.iconst 2, 1) := by decide +kernel
theorem dX4_kindOf_81 : decode cX4_kindOf 81 = .ok (.ireturn, 1) := by decide +kernel
theorem dX4_kindOf_82 : decode cX4_kindOf 82 = .ok (.iconst 3, 1) := by decide +kernel
theorem dX4_kindOf_83 : decode cX4_kindOf 83 = .ok (.ireturn, 1) := by decide +kernel
theorem dX4_kindOf_84 : decode cX4_kindOf 84 = .ok (.iconst 4, 1) := by decide +kernel
theorem dX4_kindOf_85 : decode cX4_kindOf 85 = .ok (.ireturn, 1) := by decide +kernel
theorem dX4_kindOf_86 : decode cX4_kindOf 86 = .ok (.iconst 5, 1) := by decide +kernel
theorem dX4_kindOf_87 : decode cX4_kindOf 87 = .ok (.ireturn, 1) := by decide +kernel
theorem dX4_kindOf_88 : decode cX4_kindOf 88 = .ok (.iconst (-1), 1) := by decide +kernel
theorem dX4_kindOf_89 : decode cX4_kindOf 89 = .ok (.ireturn, 1) := by decide +kernel
set_option maxHeartbeats 4000000 in
set_option maxRecDepth 100000 in
theorem mX4_kindOf (l : Launch) (dC : Nat → ClassId) (dI : Nat → Nat → Nat) (cI cC : ClassId) (sk : (Nat → Nat) × (Nat → Nat))  (p0 : Int32)  (z : Int32) (h : fX4_kindOf p0 = some z) : cRO l yX4_kindOf wsX4_kindOf (RMk 0 0) sk (dC, dI) (tyz cI cC) ([] : va_W) [.int p0] z := by
  refine ofRO (cc := cX4_kindOf) (maxL := 1) (ret := (some .int)) (own := RX4) (plainFor_of_name (by decide)) rfl rfl (Nat.le_of_ble_eq_true rfl) ?_
  intro p e s m args below meth c hx hb hml hr hts hown hlocks hE hK hP hS ls hl
  generalize hQ : qRO _ _ _ _ = Q
  have hl : lv_has ls 1 [(0, .int p0)] := hl
  rw [fX4_kindOf] at h
  refine lv_iload_n hx hb dX4_kindOf_0 rfl (lv_at hl 0 rfl) ?_
  by_cases n102 : p0 = (102 : Int32)
  · have h := itT n102 h
    refine lv_tableIn (off := 75) (tgt := 76) hx hb dX4_kindOf_1 (by rw [n102]; decide) (by rw [n102]; decide) (by rw [n102]; decide) (by decide) ?_
    refine lv_iconst (v := (0 : Int32)) hx hb dX4_kindOf_76 (by decide) ?_
    subst hQ
    exact retRO hx hb hr hlocks rfl hS h dX4_kindOf_77
  have h := itF n102 h
  by_cases n103 : p0 = (103 : Int32)
  · have h := itT n103 h
    refine lv_tableIn (off := 79) (tgt := 80) hx hb dX4_kindOf_1 (by rw [n103]; decide) (by rw [n103]; decide) (by rw [n103]; decide) (by decide) ?_
    refine lv_iconst (v := (2 : Int32)) hx hb dX4_kindOf_80 (by decide) ?_
    subst hQ
    exact retRO hx hb hr hlocks rfl hS h dX4_kindOf_81
  have h := itF n103 h
  by_cases n104 : p0 = (104 : Int32)
  · have h := itT n104 h
    refine lv_tableIn (off := 83) (tgt := 84) hx hb dX4_kindOf_1 (by rw [n104]; decide) (by rw [n104]; decide) (by rw [n104]; decide) (by decide) ?_
    refine lv_iconst (v := (4 : Int32)) hx hb dX4_kindOf_84 (by decide) ?_
    subst hQ
    exact retRO hx hb hr hlocks rfl hS h dX4_kindOf_85
  have h := itF n104 h
  by_cases n105 : p0 = (105 : Int32)
  · have h := itT n105 h
    refine lv_tableIn (off := 87) (tgt := 88) hx hb dX4_kindOf_1 (by rw [n105]; decide) (by rw [n105]; decide) (by rw [n105]; decide) (by decide) ?_
    refine lv_iconst (v := (-1 : Int32)) hx hb dX4_kindOf_88 (by decide) ?_
    subst hQ
    exact retRO hx hb hr hlocks rfl hS h dX4_kindOf_89
  have h := itF n105 h
  by_cases n106 : p0 = (106 : Int32)
  · have h := itT n106 h
    refine lv_tableIn (off := 87) (tgt := 88) hx hb dX4_kindOf_1 (by rw [n106]; decide) (by rw [n106]; decide) (by rw [n106]; decide) (by decide) ?_
    refine lv_iconst (v := (-1 : Int32)) hx hb dX4_kindOf_88 (by decide) ?_
    subst hQ
    exact retRO hx hb hr hlocks rfl hS h dX4_kindOf_89
  have h := itF n106 h
  by_cases n107 : p0 = (107 : Int32)
  · have h := itT n107 h
    refine lv_tableIn (off := 87) (tgt := 88) hx hb dX4_kindOf_1 (by rw [n107]; decide) (by rw [n107]; decide) (by rw [n107]; decide) (by decide) ?_
    refine lv_iconst (v := (-1 : Int32)) hx hb dX4_kindOf_88 (by decide) ?_
    subst hQ
    exact retRO hx hb hr hlocks rfl hS h dX4_kindOf_89
  have h := itF n107 h
  by_cases n108 : p0 = (108 : Int32)
  · have h := itT n108 h
    refine lv_tableIn (off := 87) (tgt := 88) hx hb dX4_kindOf_1 (by rw [n108]; decide) (by rw [n108]; decide) (by rw [n108]; decide) (by decide) ?_
    refine lv_iconst (v := (-1 : Int32)) hx hb dX4_kindOf_88 (by decide) ?_
    subst hQ
    exact retRO hx hb hr hlocks rfl hS h dX4_kindOf_89
  have h := itF n108 h
  by_cases n109 : p0 = (109 : Int32)
  · have h := itT n109 h
    refine lv_tableIn (off := 77) (tgt := 78) hx hb dX4_kindOf_1 (by rw [n109]; decide) (by rw [n109]; decide) (by rw [n109]; decide) (by decide) ?_
    refine lv_iconst (v := (1 : Int32)) hx hb dX4_kindOf_78 (by decide) ?_
    subst hQ
    exact retRO hx hb hr hlocks rfl hS h dX4_kindOf_79
  have h := itF n109 h
  by_cases n110 : p0 = (110 : Int32)
  · have h := itT n110 h
    refine lv_tableIn (off := 87) (tgt := 88) hx hb dX4_kindOf_1 (by rw [n110]; decide) (by rw [n110]; decide) (by rw [n110]; decide) (by decide) ?_
    refine lv_iconst (v := (-1 : Int32)) hx hb dX4_kindOf_88 (by decide) ?_
    subst hQ
    exact retRO hx hb hr hlocks rfl hS h dX4_kindOf_89
  have h := itF n110 h
  by_cases n111 : p0 = (111 : Int32)
  · have h := itT n111 h
    refine lv_tableIn (off := 87) (tgt := 88) hx hb dX4_kindOf_1 (by rw [n111]; decide) (by rw [n111]; decide) (by rw [n111]; decide) (by decide) ?_
    refine lv_iconst (v := (-1 : Int32)) hx hb dX4_kindOf_88 (by decide) ?_
    subst hQ
    exact retRO hx hb hr hlocks rfl hS h dX4_kindOf_89
  have h := itF n111 h
  by_cases n112 : p0 = (112 : Int32)
  · have h := itT n112 h
    refine lv_tableIn (off := 87) (tgt := 88) hx hb dX4_kindOf_1 (by rw [n112]; decide) (by rw [n112]; decide) (by rw [n112]; decide) (by decide) ?_
    refine lv_iconst (v := (-1 : Int32)) hx hb dX4_kindOf_88 (by decide) ?_
    subst hQ
    exact retRO hx hb hr hlocks rfl hS h dX4_kindOf_89
  have h := itF n112 h
  by_cases n113 : p0 = (113 : Int32)
  · have h := itT n113 h
    refine lv_tableIn (off := 87) (tgt := 88) hx hb dX4_kindOf_1 (by rw [n113]; decide) (by rw [n113]; decide) (by rw [n113]; decide) (by decide) ?_
    refine lv_iconst (v := (-1 : Int32)) hx hb dX4_kindOf_88 (by decide) ?_
    subst hQ
    exact retRO hx hb hr hlocks rfl hS h dX4_kindOf_89
  have h := itF n113 h
  by_cases n114 : p0 = (114 : Int32)
  · have h := itT n114 h
    refine lv_tableIn (off := 87) (tgt := 88) hx hb dX4_kindOf_1 (by rw [n114]; decide) (by rw [n114]; decide) (by rw [n114]; decide) (by decide) ?_
    refine lv_iconst (v := (-1 : Int32)) hx hb dX4_kindOf_88 (by decide) ?_
    subst hQ
    exact retRO hx hb hr hlocks rfl hS h dX4_kindOf_89
  have h := itF n114 h
  by_cases n115 : p0 = (115 : Int32)
  · have h := itT n115 h
    refine lv_tableIn (off := 85) (tgt := 86) hx hb dX4_kindOf_1 (by rw [n115]; decide) (by rw [n115]; decide) (by rw [n115]; decide) (by decide) ?_
    refine lv_iconst (v := (5 : Int32)) hx hb dX4_kindOf_86 (by decide) ?_
    subst hQ
    exact retRO hx hb hr hlocks rfl hS h dX4_kindOf_87
  have h := itF n115 h
  by_cases n116 : p0 = (116 : Int32)
  · have h := itT n116 h
    refine lv_tableIn (off := 81) (tgt := 82) hx hb dX4_kindOf_1 (by rw [n116]; decide) (by rw [n116]; decide) (by rw [n116]; decide) (by decide) ?_
    refine lv_iconst (v := (3 : Int32)) hx hb dX4_kindOf_82 (by decide) ?_
    subst hQ
    exact retRO hx hb hr hlocks rfl hS h dX4_kindOf_83
  have h := itF n116 h
  have m102 := neI n102 (i := 102) rfl
  have m103 := neI n103 (i := 103) rfl
  have m104 := neI n104 (i := 104) rfl
  have m105 := neI n105 (i := 105) rfl
  have m106 := neI n106 (i := 106) rfl
  have m107 := neI n107 (i := 107) rfl
  have m108 := neI n108 (i := 108) rfl
  have m109 := neI n109 (i := 109) rfl
  have m110 := neI n110 (i := 110) rfl
  have m111 := neI n111 (i := 111) rfl
  have m112 := neI n112 (i := 112) rfl
  have m113 := neI n113 (i := 113) rfl
  have m114 := neI n114 (i := 114) rfl
  have m115 := neI n115 (i := 115) rfl
  have m116 := neI n116 (i := 116) rfl
  refine lv_tableOut (tgt := 88) hx hb dX4_kindOf_1 (by omega) (by decide) ?_
  refine lv_iconst (v := (-1 : Int32)) hx hb dX4_kindOf_88 (by decide) ?_
  subst hQ
  exact retRO hx hb hr hlocks rfl hS h dX4_kindOf_89
theorem dX4_readsFloe_0 : decode cX4_readsFloe 0 = .ok (.aload_n 0, 1) := by decide +kernel
theorem dX4_readsFloe_1 : decode cX4_readsFloe 1 = .ok (.getfield 41, 3) := by decide +kernel
theorem dX4_readsFloe_4 : decode cX4_readsFloe 4 = .ok (.iload_n 1, 1) := by decide +kernel
theorem dX4_readsFloe_5 : decode cX4_readsFloe 5 = .ok (.aload_n 0, 1) := by decide +kernel
theorem dX4_readsFloe_6 : decode cX4_readsFloe 6 = .ok (.invokevirtual 80, 3) := by decide +kernel
theorem dX4_readsFloe_9 : decode cX4_readsFloe 9 = .ok (.invokestatic 84, 3) := by decide +kernel
theorem dX4_readsFloe_12 : decode cX4_readsFloe 12 = .ok (.iastore, 1) := by decide +kernel
theorem dX4_readsFloe_13 : decode cX4_readsFloe 13 = .ok (.aload_n 0, 1) := by decide +kernel
theorem dX4_readsFloe_14 : decode cX4_readsFloe 14 = .ok (.getfield 41, 3) := by decide +kernel
theorem dX4_readsFloe_17 : decode cX4_readsFloe 17 = .ok (.iload_n 1, 1) := by decide +kernel
theorem dX4_readsFloe_18 : decode cX4_readsFloe 18 = .ok (.iaload, 1) := by decide +kernel
theorem dX4_readsFloe_19 : decode cX4_readsFloe 19 = .ok (.ifCond .ge 5, 3) := by decide +kernel
theorem dX4_readsFloe_22 : decode cX4_readsFloe 22 = .ok (.iconst 0, 1) := by decide +kernel
theorem dX4_readsFloe_23 : decode cX4_readsFloe 23 = .ok (.ireturn, 1) := by decide +kernel
theorem dX4_readsFloe_24 : decode cX4_readsFloe 24 = .ok (.aload_n 0, 1) := by decide +kernel
theorem dX4_readsFloe_25 : decode cX4_readsFloe 25 = .ok (.dup, 1) := by decide +kernel
theorem dX4_readsFloe_26 : decode cX4_readsFloe 26 = .ok (.getfield 77, 3) := by decide +kernel
theorem dX4_readsFloe_29 : decode cX4_readsFloe 29 = .ok (.iconst 1, 1) := by decide +kernel
theorem dX4_readsFloe_30 : decode cX4_readsFloe 30 = .ok (.iadd, 1) := by decide +kernel
theorem dX4_readsFloe_31 : decode cX4_readsFloe 31 = .ok (.putfield 77, 3) := by decide +kernel
theorem dX4_readsFloe_34 : decode cX4_readsFloe 34 = .ok (.aload_n 0, 1) := by decide +kernel
theorem dX4_readsFloe_35 : decode cX4_readsFloe 35 = .ok (.iload_n 1, 1) := by decide +kernel
theorem dX4_readsFloe_36 : decode cX4_readsFloe 36 = .ok (.iconst 1, 1) := by decide +kernel
theorem dX4_readsFloe_37 : decode cX4_readsFloe 37 = .ok (.iadd, 1) := by decide +kernel
theorem dX4_readsFloe_38 : decode cX4_readsFloe 38 = .ok (.iconst 1, 1) := by decide +kernel
theorem dX4_readsFloe_39 : decode cX4_readsFloe 39 = .ok (.invokevirtual 87, 3) := by decide +kernel
theorem dX4_readsFloe_42 : decode cX4_readsFloe 42 = .ok (.ifCond .eq 14, 3) := by decide +kernel
theorem dX4_readsFloe_45 : decode cX4_readsFloe 45 = .ok (.aload_n 0, 1) := by decide +kernel
theorem dX4_readsFloe_46 : decode cX4_readsFloe 46 = .ok (.iload_n 1, 1) := by decide +kernel
theorem dX4_readsFloe_47 : decode cX4_readsFloe 47 = .ok (.iconst 2, 1) := by decide +kernel
theorem dX4_readsFloe_48 : decode cX4_readsFloe 48 = .ok (.iadd, 1) := by decide +kernel
theorem dX4_readsFloe_49 : decode cX4_readsFloe 49 = .ok (.iconst 1, 1) := by decide +kernel
theorem dX4_readsFloe_50 : decode cX4_readsFloe 50 = .ok (.invokevirtual 87, 3) := by decide +kernel
theorem dX4_readsFloe_53 : decode cX4_readsFloe 53 = .ok (.ifCond .ne 5, 3) := by decide +kernel
theorem dX4_readsFloe_56 : decode cX4_readsFloe 56 = .ok (.iconst 0, 1) := by decide +kernel
theorem dX4_readsFloe_57 : decode cX4_readsFloe 57 = .ok (.ireturn, 1) := by decide +kernel
theorem dX4_readsFloe_58 : decode cX4_readsFloe 58 = .ok (.aload_n 0, 1) := by decide +kernel
theorem dX4_readsFloe_59 : decode cX4_readsFloe 59 = .ok (.invokevirtual 80, 3) := by decide +kernel
theorem dX4_readsFloe_62 : decode cX4_readsFloe 62 = .ok (.bipush 108, 2) := by decide +kernel
theorem dX4_readsFloe_64 : decode cX4_readsFloe 64 = .ok (.if_icmp .ne 7, 3) := by decide +kernel
theorem dX4_readsFloe_67 : decode cX4_readsFloe 67 = .ok (.iconst (-1), 1) := by decide +kernel
theorem dX4_readsFloe_68 : decode cX4_readsFloe 68 = .ok (.goto 17, 3) := by decide +kernel
theorem dX4_readsFloe_71 : decode cX4_readsFloe 71 = .ok (.aload_n 0, 1) := by decide +kernel
theorem dX4_readsFloe_72 : decode cX4_readsFloe 72 = .ok (.invokevirtual 80, 3) := by decide +kernel
theorem dX4_readsFloe_75 : decode cX4_readsFloe 75 = .ok (.bipush 114, 2) := by decide +kernel
theorem dX4_readsFloe_77 : decode cX4_readsFloe 77 = .ok (.if_icmp .ne 7, 3) := by decide +kernel
theorem dX4_readsFloe_80 : decode cX4_readsFloe 80 = .ok (.iconst 1, 1) := by decide +kernel
theorem dX4_readsFloe_81 : decode cX4_readsFloe 81 = .ok (.goto 4, 3) := by decide +kernel
theorem dX4_readsFloe_84 : decode cX4_readsFloe 84 = .ok (.iconst 0, 1) := by decide +kernel
theorem dX4_readsFloe_85 : decode cX4_readsFloe 85 = .ok (.istore_n 2, 1) := by decide +kernel
theorem dX4_readsFloe_86 : decode cX4_readsFloe 86 = .ok (.iload_n 2, 1) := by decide +kernel
theorem dX4_readsFloe_87 : decode cX4_readsFloe 87 = .ok (.ifCond .ne 5, 3) := by decide +kernel
theorem dX4_readsFloe_90 : decode cX4_readsFloe 90 = .ok (.iconst 0, 1) := by decide +kernel
theorem dX4_readsFloe_91 : decode cX4_readsFloe 91 = .ok (.ireturn, 1) := by decide +kernel
theorem dX4_readsFloe_92 : decode cX4_readsFloe 92 = .ok (.aload_n 0, 1) := by decide +kernel
theorem dX4_readsFloe_93 : decode cX4_readsFloe 93 = .ok (.dup, 1) := by decide +kernel
theorem dX4_readsFloe_94 : decode cX4_readsFloe 94 = .ok (.getfield 77, 3) := by decide +kernel
theorem dX4_readsFloe_97 : decode cX4_readsFloe 97 = .ok (.iconst 1, 1) := by decide +kernel
theorem dX4_readsFloe_98 : decode cX4_readsFloe 98 = .ok (.iadd, 1) := by decide +kernel
theorem dX4_readsFloe_99 : decode cX4_readsFloe 99 = .ok (.putfield 77, 3) := by decide +kernel
theorem dX4_readsFloe_102 : decode cX4_readsFloe 102 = .ok (.aload_n 0, 1) := by decide +kernel
theorem dX4_readsFloe_103 : decode cX4_readsFloe 103 = .ok (.iload_n 1, 1) := by decide +kernel
theorem dX4_readsFloe_104 : decode cX4_readsFloe 104 = .ok (.iconst 3, 1) := by decide +kernel
theorem dX4_readsFloe_105 : decode cX4_readsFloe 105 = .ok (.iadd, 1) := by decide +kernel
theorem dX4_readsFloe_106 : decode cX4_readsFloe 106 = .ok (.iconst 1, 1) := by decide +kernel
theorem dX4_readsFloe_107 : decode cX4_readsFloe 107 = .ok (.invokevirtual 87, 3) := by decide +kernel
theorem dX4_readsFloe_110 : decode cX4_readsFloe 110 = .ok (.ifCond .eq 14, 3) := by decide +kernel
theorem dX4_readsFloe_113 : decode cX4_readsFloe 113 = .ok (.aload_n 0, 1) := by decide +kernel
theorem dX4_readsFloe_114 : decode cX4_readsFloe 114 = .ok (.iload_n 1, 1) := by decide +kernel
theorem dX4_readsFloe_115 : decode cX4_readsFloe 115 = .ok (.iconst 4, 1) := by decide +kernel
theorem dX4_readsFloe_116 : decode cX4_readsFloe 116 = .ok (.iadd, 1) := by decide +kernel
theorem dX4_readsFloe_117 : decode cX4_readsFloe 117 = .ok (.iconst 1, 1) := by decide +kernel
theorem dX4_readsFloe_118 : decode cX4_readsFloe 118 = .ok (.invokevirtual 87, 3) := by decide +kernel
theorem dX4_readsFloe_121 : decode cX4_readsFloe 121 = .ok (.ifCond .ne 5, 3) := by decide +kernel
theorem dX4_readsFloe_124 : decode cX4_readsFloe 124 = .ok (.iconst 0, 1) := by decide +kernel
theorem dX4_readsFloe_125 : decode cX4_readsFloe 125 = .ok (.ireturn, 1) := by decide +kernel
theorem dX4_readsFloe_126 : decode cX4_readsFloe 126 = .ok (.aload_n 0, 1) := by decide +kernel
theorem dX4_readsFloe_127 : decode cX4_readsFloe 127 = .ok (.getfield 41, 3) := by decide +kernel
theorem dX4_readsFloe_130 : decode cX4_readsFloe 130 = .ok (.iload_n 1, 1) := by decide +kernel
theorem dX4_readsFloe_131 : decode cX4_readsFloe 131 = .ok (.iconst 3, 1) := by decide +kernel
theorem dX4_readsFloe_132 : decode cX4_readsFloe 132 = .ok (.iadd, 1) := by decide +kernel
theorem dX4_readsFloe_133 : decode cX4_readsFloe 133 = .ok (.dup2, 1) := by decide +kernel
theorem dX4_readsFloe_134 : decode cX4_readsFloe 134 = .ok (.iaload, 1) := by decide +kernel
theorem dX4_readsFloe_135 : decode cX4_readsFloe 135 = .ok (.iload_n 2, 1) := by decide +kernel
theorem dX4_readsFloe_136 : decode cX4_readsFloe 136 = .ok (.imul, 1) := by decide +kernel
theorem dX4_readsFloe_137 : decode cX4_readsFloe 137 = .ok (.iastore, 1) := by decide +kernel
theorem dX4_readsFloe_138 : decode cX4_readsFloe 138 = .ok (.iconst 1, 1) := by decide +kernel
theorem dX4_readsFloe_139 : decode cX4_readsFloe 139 = .ok (.ireturn, 1) := by decide +kernel
set_option maxRecDepth 20000 in
theorem ggX4_readsFloe_X4_nextLetter : GoodIn wsX4_readsFloe wsX4_nextLetter := goodIn_r _ [7, 2, 8, 9, 20, 21, 22, 23, 24, 25, 26, 27, 28, 29, 30, 31, 32, 33, 34, 35, 36, 37, 38, 39, 40, 41, 42, 43, 44, 45, 46, 47] (by decide +kernel) (by decide +kernel)
set_option maxRecDepth 20000 in
theorem gX4_readsFloe_X4_nextLetter : GoodIn wsX4_readsFloe (wsV RX4 80 RX4 yX4_nextLetter wsX4_nextLetter) := goodIn_app (goodIn_of _ (by decide +kernel)) ggX4_readsFloe_X4_nextLetter
set_option maxRecDepth 20000 in
theorem ggX4_readsFloe_X4_kindOf : GoodIn wsX4_readsFloe wsX4_kindOf := goodIn_r _ [12] (by decide +kernel) (by decide +kernel)
set_option maxRecDepth 20000 in
theorem gX4_readsFloe_X4_kindOf : GoodIn wsX4_readsFloe (va_wsS RX4 84 yX4_kindOf wsX4_kindOf) := goodIn_app (goodIn_of _ (by decide +kernel)) ggX4_readsFloe_X4_kindOf
set_option maxRecDepth 20000 in
theorem ggX4_readsFloe_X4_reads : GoodIn wsX4_readsFloe wsX4_reads := goodIn_r _ [16, 2, 1, 3, 4, 5, 6, 7, 8, 9, 17, 18, 19, 20, 21, 22, 23, 24, 25, 26, 27, 28, 29, 30, 31, 32, 33, 34, 35, 36, 37, 38, 39, 40, 41, 42, 43, 44, 45, 46, 47] (by decide +kernel) (by decide +kernel)
set_option maxRecDepth 20000 in
theorem gX4_readsFloe_X4_reads : GoodIn wsX4_readsFloe (wsV RX4 87 RX4 yX4_reads wsX4_reads) := goodIn_app (goodIn_of _ (by decide +kernel)) ggX4_readsFloe_X4_reads
set_option maxHeartbeats 4000000 in
set_option maxRecDepth 100000 in
theorem mX4_readsFloe (l : Launch) (dC : Nat → ClassId) (dI : Nat → Nat → Nat) (cI cC : ClassId) (sk : (Nat → Nat) × (Nat → Nat)) (f : Nat → Nat) (sz : Nat) (p1 : Int32) (c_r : RT) (c_refused : AR) (c_tape : AR) (c_letter : AR) (c_letterAt : AR) (c_number : AR) (c_taped : Int32) (c_at : Int32) (c_statements : Int32) (c_kept : AR) (c_hasImage : Int32) (c_isKeeping : Int32) (c_cursor : Int32) (c_poled : Int32) (c_barred : Int32) (c_leapsTo : AR) (c_leapsThen : AR) (c_lands : AR) (c_row : AR) (c_rowMany : Int32) (c_endsAt : Int32) (z : Int32 × AR × Int32) (h : fX4_readsFloe p1 c_tape c_number c_taped c_at = some z) : cRW l yX4_readsFloe wsX4_readsFloe (RMk 2 46) sk (dC, dI) (tyz cI cC) sz (zwM cI cC f c_r c_refused c_tape c_letter c_letterAt c_number c_taped c_at c_statements c_kept c_hasImage c_isKeeping c_cursor c_poled c_barred c_leapsTo c_leapsThen c_lands c_row c_rowMany c_endsAt) (zwM cI cC f c_r c_refused c_tape c_letter c_letterAt z.2.1 c_taped z.2.2 c_statements c_kept c_hasImage c_isKeeping c_cursor c_poled c_barred c_leapsTo c_leapsThen c_lands c_row c_rowMany c_endsAt) [.ref (f 0), .int p1] z.1 := by
  refine ofRW (cc := cX4_readsFloe) (maxL := 3) (ret := (some .boolean)) (own := RX4) (plainFor_of_name (by decide)) rfl rfl (Nat.le_of_ble_eq_true rfl) ?_
  intro p e s m args below meth c A hA hx hb hml hr hts hown hlocks hE hK hP hD hS ls hl
  generalize hQ : qRW _ _ _ _ _ _ _ = Q
  have hl : lv_has ls 3 [(0, .ref (f 0)), (1, .int p1)] := hl
  have hiX4 : ∀ w ∈ wsX40, w ∈ wsX4_readsFloe := fun w h => List.mem_cons_of_mem _ (List.mem_append_right _ h)
  have hw1 := hts (Cond.fieldLink RX4 41 "FloeToFloeModel" "number" "[I") (List.mem_of_getElem? (i := 1) rfl)
  have hw2 := hts (Cond.fieldLink RX4 77 "FloeToFloeModel" "at" "I") (List.mem_of_getElem? (i := 2) rfl)
  rw [fX4_readsFloe] at h
  refine lv_aload_n hx hb dX4_readsFloe_0 rfl (lv_at hl 0 rfl) ?_
  refine va_get (D := (dC, dI)) (ci := 4) (v := .ref (f 10)) (C := RX4) (T := TX4) (N := 28) hx hb hts hiX4 hown hK hP 0 rfl rfl 12 (by decide) hw1 (fun _ h9 => h9) rfl dX4_readsFloe_1 ?_
  refine lv_iload_n hx hb dX4_readsFloe_4 rfl (lv_at hl 1 rfl) ?_
  refine lv_aload_n hx hb dX4_readsFloe_5 rfl (lv_at hl 0 rfl) ?_
  obtain ⟨q6, e6, h⟩ := bd_some h
  refine g_roV (wc := (zwM cI cC f c_r c_refused c_tape c_letter c_letterAt c_number c_taped c_at c_statements c_kept c_hasImage c_isKeeping c_cursor c_poled c_barred c_leapsTo c_leapsThen c_lands c_row c_rowMany c_endsAt)) ⟨hx, hb, hml, hown, hts⟩ hE hK hP hS [0, 1, 2, 3, 4, 5, 6, 7, 8, 9, 10, 11, 12, 13, 14, 15] rfl (mX4_nextLetter l dC dI cI cC sk f c_r c_refused c_tape c_letter c_letterAt c_number c_taped c_at c_statements c_kept c_hasImage c_isKeeping c_cursor c_poled c_barred c_leapsTo c_leapsThen c_lands c_row c_rowMany c_endsAt q6 e6) (cwV 0 hts gX4_readsFloe_X4_nextLetter rfl rfl rfl (by decide +kernel) ⟨Nat.le_of_ble_eq_true rfl, Nat.le_of_ble_eq_true rfl⟩) (va_recv hK hP (ci := 4) (q0 := 0) rfl rfl) (As := []) (rest := [.int p1, .ref (f 10)]) rfl hl.1 rfl (Nat.le_of_ble_eq_true rfl) dX4_readsFloe_6 ⟨Nat.zero_le _, Nat.zero_le _⟩ (fun H locs hP hS => ?_)
  obtain ⟨q9, e9, h⟩ := bd_some h
  refine g_roS (wc := ([] : va_W)) ⟨hx, hb, hml, hown, hts⟩ hE hK hP hS [] rfl (mX4_kindOf l dC dI cI cC sk  q6 q9 e9) (va_cwS 1 hts gX4_readsFloe_X4_kindOf rfl rfl rfl (by decide +kernel) ⟨Nat.le_of_ble_eq_true rfl, Nat.le_of_ble_eq_true rfl⟩) (As := [.int q6]) (rest := [.int p1, .ref (f 10)]) rfl hl.1 rfl (Nat.le_of_ble_eq_true rfl) dX4_readsFloe_9 ⟨Nat.zero_le _, Nat.zero_le _⟩ (fun H locs hP hS => ?_)
  obtain ⟨hin, h⟩ := ck_some h
  refine va_iast hx hb hK hP hD hS 10 0 rfl rfl hin dX4_readsFloe_12 (fun H locs hP hD hS => ?_)
  have hP : va_P (dC, dI) vwCl (zwM cI cC f c_r c_refused c_tape c_letter c_letterAt (upd c_number (p1).toNatClampNeg q9) c_taped c_at c_statements c_kept c_hasImage c_isKeeping c_cursor c_poled c_barred c_leapsTo c_leapsThen c_lands c_row c_rowMany c_endsAt) H := hP
  have hD : va_D A (zwM cI cC f c_r c_refused c_tape c_letter c_letterAt (upd c_number (p1).toNatClampNeg q9) c_taped c_at c_statements c_kept c_hasImage c_isKeeping c_cursor c_poled c_barred c_leapsTo c_leapsThen c_lands c_row c_rowMany c_endsAt) := hD
  refine lv_aload_n hx hb dX4_readsFloe_13 rfl (lv_at hl 0 rfl) ?_
  refine va_get (D := (dC, dI)) (ci := 4) (v := .ref (f 10)) (C := RX4) (T := TX4) (N := 28) hx hb hts hiX4 hown hK hP 0 rfl rfl 12 (by decide) hw1 (fun _ h9 => h9) rfl dX4_readsFloe_14 ?_
  refine lv_iload_n hx hb dX4_readsFloe_17 rfl (lv_at hl 1 rfl) ?_
  obtain ⟨hin, h⟩ := ck_some h
  refine va_iald hx hb hK hP 10 0 rfl rfl hin dX4_readsFloe_18 ?_
  refine lv_if_ge (tgt := 24) hx hb dX4_readsFloe_19 (by decide) (fun c19 => ?_) (fun c19 => ?_)
  · have h := itT c19 h
    refine lv_aload_n hx hb dX4_readsFloe_24 rfl (lv_at hl 0 rfl) ?_
    refine lv_dup hx hb dX4_readsFloe_25 rfl ?_
    refine va_get (D := (dC, dI)) (ci := 4) (v := .int c_at) (C := RX4) (T := TX4) (N := 28) hx hb hts hiX4 hown hK hP 0 rfl rfl 14 (by decide) hw2 (fun _ h9 => h9) rfl dX4_readsFloe_26 ?_
    refine lv_iconst (v := (1 : Int32)) hx hb dX4_readsFloe_29 (by decide) ?_
    refine lv_iadd hx hb dX4_readsFloe_30 ?_
    refine va_put (D := (dC, dI)) (ci := 4) (v := .int (c_at + (1 : Int32))) (ty := .int) (C := RX4) (T := TX4) (N := 28) hx hb hts hiX4 tyX4 tyX4_ok nmX4 hown hK hP hD hS 0 rfl rfl 14 (by decide) hw2 (fun _ h9 => h9) rfl (by decide +kernel) rfl rfl (Nat.le_of_ble_eq_true rfl) dX4_readsFloe_31 (fun H locs hP hD hS => ?_)
    have hP : va_P (dC, dI) vwCl (zwM cI cC f c_r c_refused c_tape c_letter c_letterAt (upd c_number (p1).toNatClampNeg q9) c_taped (c_at + (1 : Int32)) c_statements c_kept c_hasImage c_isKeeping c_cursor c_poled c_barred c_leapsTo c_leapsThen c_lands c_row c_rowMany c_endsAt) H := hP
    have hD : va_D A (zwM cI cC f c_r c_refused c_tape c_letter c_letterAt (upd c_number (p1).toNatClampNeg q9) c_taped (c_at + (1 : Int32)) c_statements c_kept c_hasImage c_isKeeping c_cursor c_poled c_barred c_leapsTo c_leapsThen c_lands c_row c_rowMany c_endsAt) := hD
    refine lv_aload_n hx hb dX4_readsFloe_34 rfl (lv_at hl 0 rfl) ?_
    refine lv_iload_n hx hb dX4_readsFloe_35 rfl (lv_at hl 1 rfl) ?_
    refine lv_iconst (v := (1 : Int32)) hx hb dX4_readsFloe_36 (by decide) ?_
    refine lv_iadd hx hb dX4_readsFloe_37 ?_
    refine lv_iconst (v := (1 : Int32)) hx hb dX4_readsFloe_38 (by decide) ?_
    obtain ⟨q39, e39, h⟩ := bd_some h
    refine g_rwV (wc := (zwM cI cC f c_r c_refused c_tape c_letter c_letterAt (upd c_number (p1).toNatClampNeg q9) c_taped (c_at + (1 : Int32)) c_statements c_kept c_hasImage c_isKeeping c_cursor c_poled c_barred c_leapsTo c_leapsThen c_lands c_row c_rowMany c_endsAt)) (wc' := (zwM cI cC f c_r c_refused c_tape c_letter c_letterAt q39.2.1 c_taped q39.2.2 c_statements c_kept c_hasImage c_isKeeping c_cursor c_poled c_barred c_leapsTo c_leapsThen c_lands c_row c_rowMany c_endsAt)) ⟨hx, hb, hml, hown, hts⟩ hE hK hA hP hD hS [0, 1, 2, 3, 4, 5, 6, 7, 8, 9, 10, 11, 12, 13, 14, 15] rfl rfl rfl (mX4_reads l dC dI cI cC sk f H.size (p1 + (1 : Int32)) (1 : Int32) c_r c_refused c_tape c_letter c_letterAt (upd c_number (p1).toNatClampNeg q9) c_taped (c_at + (1 : Int32)) c_statements c_kept c_hasImage c_isKeeping c_cursor c_poled c_barred c_leapsTo c_leapsThen c_lands c_row c_rowMany c_endsAt q39 e39) (cwV 2 hts gX4_readsFloe_X4_reads rfl rfl rfl (by decide +kernel) ⟨Nat.le_of_ble_eq_true rfl, Nat.le_of_ble_eq_true rfl⟩) (va_recv hK hP (ci := 4) (q0 := 0) rfl rfl) (As := [.int (p1 + (1 : Int32)), .int (1 : Int32)]) (rest := []) rfl hl.1 rfl (Nat.le_of_ble_eq_true rfl) dX4_readsFloe_39 ⟨Nat.zero_le _, Nat.zero_le _⟩ (fun H locs hP hD hS => ?_)
    have hP : va_P (dC, dI) vwCl (zwM cI cC f c_r c_refused c_tape c_letter c_letterAt q39.2.1 c_taped q39.2.2 c_statements c_kept c_hasImage c_isKeeping c_cursor c_poled c_barred c_leapsTo c_leapsThen c_lands c_row c_rowMany c_endsAt) H := hP
    have hD : va_D A (zwM cI cC f c_r c_refused c_tape c_letter c_letterAt q39.2.1 c_taped q39.2.2 c_statements c_kept c_hasImage c_isKeeping c_cursor c_poled c_barred c_leapsTo c_leapsThen c_lands c_row c_rowMany c_endsAt) := hD
    refine lv_if_eq (tgt := 56) hx hb dX4_readsFloe_42 (by decide) (fun c42 => ?_) (fun c42 => ?_)
    · have h := itT c42 h
      refine lv_iconst (v := (0 : Int32)) hx hb dX4_readsFloe_56 (by decide) ?_
      subst hQ
      exact retRW (zz := (((0 : Int32), q39.2.1, q39.2.2) : Int32 × AR × Int32)) (fun z => z.1) (fun z => (zwM cI cC f c_r c_refused c_tape c_letter c_letterAt z.2.1 c_taped z.2.2 c_statements c_kept c_hasImage c_isKeeping c_cursor c_poled c_barred c_leapsTo c_leapsThen c_lands c_row c_rowMany c_endsAt)) hx hb hr hlocks rfl hS h rfl hP dX4_readsFloe_57
    have h := itF c42 h
    refine lv_aload_n hx hb dX4_readsFloe_45 rfl (lv_at hl 0 rfl) ?_
    refine lv_iload_n hx hb dX4_readsFloe_46 rfl (lv_at hl 1 rfl) ?_
    refine lv_iconst (v := (2 : Int32)) hx hb dX4_readsFloe_47 (by decide) ?_
    refine lv_iadd hx hb dX4_readsFloe_48 ?_
    refine lv_iconst (v := (1 : Int32)) hx hb dX4_readsFloe_49 (by decide) ?_
    obtain ⟨q50, e50, h⟩ := bd_some h
    refine g_rwV (wc := (zwM cI cC f c_r c_refused c_tape c_letter c_letterAt q39.2.1 c_taped q39.2.2 c_statements c_kept c_hasImage c_isKeeping c_cursor c_poled c_barred c_leapsTo c_leapsThen c_lands c_row c_rowMany c_endsAt)) (wc' := (zwM cI cC f c_r c_refused c_tape c_letter c_letterAt q50.2.1 c_taped q50.2.2 c_statements c_kept c_hasImage c_isKeeping c_cursor c_poled c_barred c_leapsTo c_leapsThen c_lands c_row c_rowMany c_endsAt)) ⟨hx, hb, hml, hown, hts⟩ hE hK hA hP hD hS [0, 1, 2, 3, 4, 5, 6, 7, 8, 9, 10, 11, 12, 13, 14, 15] rfl rfl rfl (mX4_reads l dC dI cI cC sk f H.size (p1 + (2 : Int32)) (1 : Int32) c_r c_refused c_tape c_letter c_letterAt q39.2.1 c_taped q39.2.2 c_statements c_kept c_hasImage c_isKeeping c_cursor c_poled c_barred c_leapsTo c_leapsThen c_lands c_row c_rowMany c_endsAt q50 e50) (cwV 2 hts gX4_readsFloe_X4_reads rfl rfl rfl (by decide +kernel) ⟨Nat.le_of_ble_eq_true rfl, Nat.le_of_ble_eq_true rfl⟩) (va_recv hK hP (ci := 4) (q0 := 0) rfl rfl) (As := [.int (p1 + (2 : Int32)), .int (1 : Int32)]) (rest := []) rfl hl.1 rfl (Nat.le_of_ble_eq_true rfl) dX4_readsFloe_50 ⟨Nat.zero_le _, Nat.zero_le _⟩ (fun H locs hP hD hS => ?_)
    have hP : va_P (dC, dI) vwCl (zwM cI cC f c_r c_refused c_tape c_letter c_letterAt q50.2.1 c_taped q50.2.2 c_statements c_kept c_hasImage c_isKeeping c_cursor c_poled c_barred c_leapsTo c_leapsThen c_lands c_row c_rowMany c_endsAt) H := hP
    have hD : va_D A (zwM cI cC f c_r c_refused c_tape c_letter c_letterAt q50.2.1 c_taped q50.2.2 c_statements c_kept c_hasImage c_isKeeping c_cursor c_poled c_barred c_leapsTo c_leapsThen c_lands c_row c_rowMany c_endsAt) := hD
    refine lv_if_ne (tgt := 58) hx hb dX4_readsFloe_53 (by decide) (fun c53 => ?_) (fun c53 => ?_)
    · have h := itF c53 h
      refine lv_aload_n hx hb dX4_readsFloe_58 rfl (lv_at hl 0 rfl) ?_
      obtain ⟨q59, e59, h⟩ := bd_some h
      refine g_roV (wc := (zwM cI cC f c_r c_refused c_tape c_letter c_letterAt q50.2.1 c_taped q50.2.2 c_statements c_kept c_hasImage c_isKeeping c_cursor c_poled c_barred c_leapsTo c_leapsThen c_lands c_row c_rowMany c_endsAt)) ⟨hx, hb, hml, hown, hts⟩ hE hK hP hS [0, 1, 2, 3, 4, 5, 6, 7, 8, 9, 10, 11, 12, 13, 14, 15] rfl (mX4_nextLetter l dC dI cI cC sk f c_r c_refused c_tape c_letter c_letterAt q50.2.1 c_taped q50.2.2 c_statements c_kept c_hasImage c_isKeeping c_cursor c_poled c_barred c_leapsTo c_leapsThen c_lands c_row c_rowMany c_endsAt q59 e59) (cwV 0 hts gX4_readsFloe_X4_nextLetter rfl rfl rfl (by decide +kernel) ⟨Nat.le_of_ble_eq_true rfl, Nat.le_of_ble_eq_true rfl⟩) (va_recv hK hP (ci := 4) (q0 := 0) rfl rfl) (As := []) (rest := []) rfl hl.1 rfl (Nat.le_of_ble_eq_true rfl) dX4_readsFloe_59 ⟨Nat.zero_le _, Nat.zero_le _⟩ (fun H locs hP hS => ?_)
      refine lv_bipush (v := (108 : Int32)) hx hb dX4_readsFloe_62 (by decide) ?_
      refine jnW (fun (v85 : Int32) => ∀ (H : Heap) (locs : List Loc) (ls : Array Slot), va_P (dC, dI) vwCl (zwM cI cC f c_r c_refused c_tape c_letter c_letterAt q50.2.1 c_taped q50.2.2 c_statements c_kept c_hasImage c_isKeeping c_cursor c_poled c_barred c_leapsTo c_leapsThen c_lands c_row c_rowMany c_endsAt) H → va_D A (zwM cI cC f c_r c_refused c_tape c_letter c_letterAt q50.2.1 c_taped q50.2.2 c_statements c_kept c_hasImage c_isKeeping c_cursor c_poled c_barred c_leapsTo c_leapsThen c_lands c_row c_rowMany c_endsAt) → va_S A s.heap H locs → lv_has ls 3 [(0, .ref (f 0)), (1, .int p1)] → W p l e (RMk 2 46) s m args below meth c H locs 0 0 Q (F0 m 85 ls [.int v85])) h (fun v85 h H locs ls hP hD hS hl => ?_) (fun J85 j85 h => ?_)
      · refine lv_istore_n (lv' := [(2, .int v85), (0, .ref (f 0)), (1, .int p1)]) hx hb dX4_readsFloe_85 rfl hl (by decide) rfl (fun ls hl => ?_)
        refine lv_iload_n hx hb dX4_readsFloe_86 rfl (lv_at hl 0 rfl) ?_
        refine lv_if_ne (tgt := 92) hx hb dX4_readsFloe_87 (by decide) (fun c87 => ?_) (fun c87 => ?_)
        · have h := itF c87 h
          refine lv_aload_n hx hb dX4_readsFloe_92 rfl (lv_at hl 1 rfl) ?_
          refine lv_dup hx hb dX4_readsFloe_93 rfl ?_
          refine va_get (D := (dC, dI)) (ci := 4) (v := .int q50.2.2) (C := RX4) (T := TX4) (N := 28) hx hb hts hiX4 hown hK hP 0 rfl rfl 14 (by decide) hw2 (fun _ h9 => h9) rfl dX4_readsFloe_94 ?_
          refine lv_iconst (v := (1 : Int32)) hx hb dX4_readsFloe_97 (by decide) ?_
          refine lv_iadd hx hb dX4_readsFloe_98 ?_
          refine va_put (D := (dC, dI)) (ci := 4) (v := .int (q50.2.2 + (1 : Int32))) (ty := .int) (C := RX4) (T := TX4) (N := 28) hx hb hts hiX4 tyX4 tyX4_ok nmX4 hown hK hP hD hS 0 rfl rfl 14 (by decide) hw2 (fun _ h9 => h9) rfl (by decide +kernel) rfl rfl (Nat.le_of_ble_eq_true rfl) dX4_readsFloe_99 (fun H locs hP hD hS => ?_)
          have hP : va_P (dC, dI) vwCl (zwM cI cC f c_r c_refused c_tape c_letter c_letterAt q50.2.1 c_taped (q50.2.2 + (1 : Int32)) c_statements c_kept c_hasImage c_isKeeping c_cursor c_poled c_barred c_leapsTo c_leapsThen c_lands c_row c_rowMany c_endsAt) H := hP
          have hD : va_D A (zwM cI cC f c_r c_refused c_tape c_letter c_letterAt q50.2.1 c_taped (q50.2.2 + (1 : Int32)) c_statements c_kept c_hasImage c_isKeeping c_cursor c_poled c_barred c_leapsTo c_leapsThen c_lands c_row c_rowMany c_endsAt) := hD
          refine lv_aload_n hx hb dX4_readsFloe_102 rfl (lv_at hl 1 rfl) ?_
          refine lv_iload_n hx hb dX4_readsFloe_103 rfl (lv_at hl 2 rfl) ?_
          refine lv_iconst (v := (3 : Int32)) hx hb dX4_readsFloe_104 (by decide) ?_
          refine lv_iadd hx hb dX4_readsFloe_105 ?_
          refine lv_iconst (v := (1 : Int32)) hx hb dX4_readsFloe_106 (by decide) ?_
          obtain ⟨q107, e107, h⟩ := bd_some h
          refine g_rwV (wc := (zwM cI cC f c_r c_refused c_tape c_letter c_letterAt q50.2.1 c_taped (q50.2.2 + (1 : Int32)) c_statements c_kept c_hasImage c_isKeeping c_cursor c_poled c_barred c_leapsTo c_leapsThen c_lands c_row c_rowMany c_endsAt)) (wc' := (zwM cI cC f c_r c_refused c_tape c_letter c_letterAt q107.2.1 c_taped q107.2.2 c_statements c_kept c_hasImage c_isKeeping c_cursor c_poled c_barred c_leapsTo c_leapsThen c_lands c_row c_rowMany c_endsAt)) ⟨hx, hb, hml, hown, hts⟩ hE hK hA hP hD hS [0, 1, 2, 3, 4, 5, 6, 7, 8, 9, 10, 11, 12, 13, 14, 15] rfl rfl rfl (mX4_reads l dC dI cI cC sk f H.size (p1 + (3 : Int32)) (1 : Int32) c_r c_refused c_tape c_letter c_letterAt q50.2.1 c_taped (q50.2.2 + (1 : Int32)) c_statements c_kept c_hasImage c_isKeeping c_cursor c_poled c_barred c_leapsTo c_leapsThen c_lands c_row c_rowMany c_endsAt q107 e107) (cwV 2 hts gX4_readsFloe_X4_reads rfl rfl rfl (by decide +kernel) ⟨Nat.le_of_ble_eq_true rfl, Nat.le_of_ble_eq_true rfl⟩) (va_recv hK hP (ci := 4) (q0 := 0) rfl rfl) (As := [.int (p1 + (3 : Int32)), .int (1 : Int32)]) (rest := []) rfl hl.1 rfl (Nat.le_of_ble_eq_true rfl) dX4_readsFloe_107 ⟨Nat.zero_le _, Nat.zero_le _⟩ (fun H locs hP hD hS => ?_)
          have hP : va_P (dC, dI) vwCl (zwM cI cC f c_r c_refused c_tape c_letter c_letterAt q107.2.1 c_taped q107.2.2 c_statements c_kept c_hasImage c_isKeeping c_cursor c_poled c_barred c_leapsTo c_leapsThen c_lands c_row c_rowMany c_endsAt) H := hP
          have hD : va_D A (zwM cI cC f c_r c_refused c_tape c_letter c_letterAt q107.2.1 c_taped q107.2.2 c_statements c_kept c_hasImage c_isKeeping c_cursor c_poled c_barred c_leapsTo c_leapsThen c_lands c_row c_rowMany c_endsAt) := hD
          refine lv_if_eq (tgt := 124) hx hb dX4_readsFloe_110 (by decide) (fun c110 => ?_) (fun c110 => ?_)
          · have h := itT c110 h
            refine lv_iconst (v := (0 : Int32)) hx hb dX4_readsFloe_124 (by decide) ?_
            subst hQ
            exact retRW (zz := (((0 : Int32), q107.2.1, q107.2.2) : Int32 × AR × Int32)) (fun z => z.1) (fun z => (zwM cI cC f c_r c_refused c_tape c_letter c_letterAt z.2.1 c_taped z.2.2 c_statements c_kept c_hasImage c_isKeeping c_cursor c_poled c_barred c_leapsTo c_leapsThen c_lands c_row c_rowMany c_endsAt)) hx hb hr hlocks rfl hS h rfl hP dX4_readsFloe_125
          have h := itF c110 h
          refine lv_aload_n hx hb dX4_readsFloe_113 rfl (lv_at hl 1 rfl) ?_
          refine lv_iload_n hx hb dX4_readsFloe_114 rfl (lv_at hl 2 rfl) ?_
          refine lv_iconst (v := (4 : Int32)) hx hb dX4_readsFloe_115 (by decide) ?_
          refine lv_iadd hx hb dX4_readsFloe_116 ?_
          refine lv_iconst (v := (1 : Int32)) hx hb dX4_readsFloe_117 (by decide) ?_
          obtain ⟨q118, e118, h⟩ := bd_some h
          refine g_rwV (wc := (zwM cI cC f c_r c_refused c_tape c_letter c_letterAt q107.2.1 c_taped q107.2.2 c_statements c_kept c_hasImage c_isKeeping c_cursor c_poled c_barred c_leapsTo c_leapsThen c_lands c_row c_rowMany c_endsAt)) (wc' := (zwM cI cC f c_r c_refused c_tape c_letter c_letterAt q118.2.1 c_taped q118.2.2 c_statements c_kept c_hasImage c_isKeeping c_cursor c_poled c_barred c_leapsTo c_leapsThen c_lands c_row c_rowMany c_endsAt)) ⟨hx, hb, hml, hown, hts⟩ hE hK hA hP hD hS [0, 1, 2, 3, 4, 5, 6, 7, 8, 9, 10, 11, 12, 13, 14, 15] rfl rfl rfl (mX4_reads l dC dI cI cC sk f H.size (p1 + (4 : Int32)) (1 : Int32) c_r c_refused c_tape c_letter c_letterAt q107.2.1 c_taped q107.2.2 c_statements c_kept c_hasImage c_isKeeping c_cursor c_poled c_barred c_leapsTo c_leapsThen c_lands c_row c_rowMany c_endsAt q118 e118) (cwV 2 hts gX4_readsFloe_X4_reads rfl rfl rfl (by decide +kernel) ⟨Nat.le_of_ble_eq_true rfl, Nat.le_of_ble_eq_true rfl⟩) (va_recv hK hP (ci := 4) (q0 := 0) rfl rfl) (As := [.int (p1 + (4 : Int32)), .int (1 : Int32)]) (rest := []) rfl hl.1 rfl (Nat.le_of_ble_eq_true rfl) dX4_readsFloe_118 ⟨Nat.zero_le _, Nat.zero_le _⟩ (fun H locs hP hD hS => ?_)
          have hP : va_P (dC, dI) vwCl (zwM cI cC f c_r c_refused c_tape c_letter c_letterAt q118.2.1 c_taped q118.2.2 c_statements c_kept c_hasImage c_isKeeping c_cursor c_poled c_barred c_leapsTo c_leapsThen c_lands c_row c_rowMany c_endsAt) H := hP
          have hD : va_D A (zwM cI cC f c_r c_refused c_tape c_letter c_letterAt q118.2.1 c_taped q118.2.2 c_statements c_kept c_hasImage c_isKeeping c_cursor c_poled c_barred c_leapsTo c_leapsThen c_lands c_row c_rowMany c_endsAt) := hD
          refine lv_if_ne (tgt := 126) hx hb dX4_readsFloe_121 (by decide) (fun c121 => ?_) (fun c121 => ?_)
          · have h := itF c121 h
            refine lv_aload_n hx hb dX4_readsFloe_126 rfl (lv_at hl 1 rfl) ?_
            refine va_get (D := (dC, dI)) (ci := 4) (v := .ref (f 10)) (C := RX4) (T := TX4) (N := 28) hx hb hts hiX4 hown hK hP 0 rfl rfl 12 (by decide) hw1 (fun _ h9 => h9) rfl dX4_readsFloe_127 ?_
            refine lv_iload_n hx hb dX4_readsFloe_130 rfl (lv_at hl 2 rfl) ?_
            refine lv_iconst (v := (3 : Int32)) hx hb dX4_readsFloe_131 (by decide) ?_
            refine lv_iadd hx hb dX4_readsFloe_132 ?_
            refine lv_dup2_11 hx hb dX4_readsFloe_133 rfl rfl ?_
            obtain ⟨hin, h⟩ := ck_some h
            refine va_iald hx hb hK hP 10 0 rfl rfl hin dX4_readsFloe_134 ?_
            refine lv_iload_n hx hb dX4_readsFloe_135 rfl (lv_at hl 0 rfl) ?_
            refine lv_imul hx hb dX4_readsFloe_136 ?_
            obtain ⟨hin, h⟩ := ck_some h
            refine va_iast hx hb hK hP hD hS 10 0 rfl rfl hin dX4_readsFloe_137 (fun H locs hP hD hS => ?_)
            have hP : va_P (dC, dI) vwCl (zwM cI cC f c_r c_refused c_tape c_letter c_letterAt (upd q118.2.1 ((p1 + (3 : Int32))).toNatClampNeg ((q118.2.1 ((p1 + (3 : Int32))).toNatClampNeg) * v85)) c_taped q118.2.2 c_statements c_kept c_hasImage c_isKeeping c_cursor c_poled c_barred c_leapsTo c_leapsThen c_lands c_row c_rowMany c_endsAt) H := hP
            have hD : va_D A (zwM cI cC f c_r c_refused c_tape c_letter c_letterAt (upd q118.2.1 ((p1 + (3 : Int32))).toNatClampNeg ((q118.2.1 ((p1 + (3 : Int32))).toNatClampNeg) * v85)) c_taped q118.2.2 c_statements c_kept c_hasImage c_isKeeping c_cursor c_poled c_barred c_leapsTo c_leapsThen c_lands c_row c_rowMany c_endsAt) := hD
            refine lv_iconst (v := (1 : Int32)) hx hb dX4_readsFloe_138 (by decide) ?_
            subst hQ
            exact retRW (zz := (((1 : Int32), (upd q118.2.1 ((p1 + (3 : Int32))).toNatClampNeg ((q118.2.1 ((p1 + (3 : Int32))).toNatClampNeg) * v85)), q118.2.2) : Int32 × AR × Int32)) (fun z => z.1) (fun z => (zwM cI cC f c_r c_refused c_tape c_letter c_letterAt z.2.1 c_taped z.2.2 c_statements c_kept c_hasImage c_isKeeping c_cursor c_poled c_barred c_leapsTo c_leapsThen c_lands c_row c_rowMany c_endsAt)) hx hb hr hlocks rfl hS h rfl hP dX4_readsFloe_139
          have h := itT c121 h
          refine lv_iconst (v := (0 : Int32)) hx hb dX4_readsFloe_124 (by decide) ?_
          subst hQ
          exact retRW (zz := (((0 : Int32), q118.2.1, q118.2.2) : Int32 × AR × Int32)) (fun z => z.1) (fun z => (zwM cI cC f c_r c_refused c_tape c_letter c_letterAt z.2.1 c_taped z.2.2 c_statements c_kept c_hasImage c_isKeeping c_cursor c_poled c_barred c_leapsTo c_leapsThen c_lands c_row c_rowMany c_endsAt)) hx hb hr hlocks rfl hS h rfl hP dX4_readsFloe_125
        have h := itT c87 h
        refine lv_iconst (v := (0 : Int32)) hx hb dX4_readsFloe_90 (by decide) ?_
        subst hQ
        exact retRW (zz := (((0 : Int32), q50.2.1, q50.2.2) : Int32 × AR × Int32)) (fun z => z.1) (fun z => (zwM cI cC f c_r c_refused c_tape c_letter c_letterAt z.2.1 c_taped z.2.2 c_statements c_kept c_hasImage c_isKeeping c_cursor c_poled c_barred c_leapsTo c_leapsThen c_lands c_row c_rowMany c_endsAt)) hx hb hr hlocks rfl hS h rfl hP dX4_readsFloe_91
      refine lv_icmp_ne (tgt := 71) hx hb dX4_readsFloe_64 (by decide) (fun c64 => ?_) (fun c64 => ?_)
      · have h := itF c64 h
        refine lv_aload_n hx hb dX4_readsFloe_71 rfl (lv_at hl 0 rfl) ?_
        obtain ⟨q72, e72, h⟩ := bd_some h
        refine g_roV (wc := (zwM cI cC f c_r c_refused c_tape c_letter c_letterAt q50.2.1 c_taped q50.2.2 c_statements c_kept c_hasImage c_isKeeping c_cursor c_poled c_barred c_leapsTo c_leapsThen c_lands c_row c_rowMany c_endsAt)) ⟨hx, hb, hml, hown, hts⟩ hE hK hP hS [0, 1, 2, 3, 4, 5, 6, 7, 8, 9, 10, 11, 12, 13, 14, 15] rfl (mX4_nextLetter l dC dI cI cC sk f c_r c_refused c_tape c_letter c_letterAt q50.2.1 c_taped q50.2.2 c_statements c_kept c_hasImage c_isKeeping c_cursor c_poled c_barred c_leapsTo c_leapsThen c_lands c_row c_rowMany c_endsAt q72 e72) (cwV 0 hts gX4_readsFloe_X4_nextLetter rfl rfl rfl (by decide +kernel) ⟨Nat.le_of_ble_eq_true rfl, Nat.le_of_ble_eq_true rfl⟩) (va_recv hK hP (ci := 4) (q0 := 0) rfl rfl) (As := []) (rest := []) rfl hl.1 rfl (Nat.le_of_ble_eq_true rfl) dX4_readsFloe_72 ⟨Nat.zero_le _, Nat.zero_le _⟩ (fun H locs hP hS => ?_)
        refine lv_bipush (v := (114 : Int32)) hx hb dX4_readsFloe_75 (by decide) ?_
        refine lv_icmp_ne (tgt := 84) hx hb dX4_readsFloe_77 (by decide) (fun c77 => ?_) (fun c77 => ?_)
        · have h := itF c77 h
          refine lv_iconst (v := (0 : Int32)) hx hb dX4_readsFloe_84 (by decide) ?_
          exact j85 _ h _ _ _ hP hD hS (lv_sub hl [0, 1] rfl)
        have h := itT c77 h
        refine lv_iconst (v := (1 : Int32)) hx hb dX4_readsFloe_80 (by decide) ?_
        refine lv_goto (tgt := 85) hx hb dX4_readsFloe_81 (by decide) ?_
        exact j85 _ h _ _ _ hP hD hS (lv_sub hl [0, 1] rfl)
      have h := itT c64 h
      refine lv_iconst (v := (-1 : Int32)) hx hb dX4_readsFloe_67 (by decide) ?_
      refine lv_goto (tgt := 85) hx hb dX4_readsFloe_68 (by decide) ?_
      exact j85 _ h _ _ _ hP hD hS (lv_sub hl [0, 1] rfl)
    have h := itT c53 h
    refine lv_iconst (v := (0 : Int32)) hx hb dX4_readsFloe_56 (by decide) ?_
    subst hQ
    exact retRW (zz := (((0 : Int32), q50.2.1, q50.2.2) : Int32 × AR × Int32)) (fun z => z.1) (fun z => (zwM cI cC f c_r c_refused c_tape c_letter c_letterAt z.2.1 c_taped z.2.2 c_statements c_kept c_hasImage c_isKeeping c_cursor c_poled c_barred c_leapsTo c_leapsThen c_lands c_row c_rowMany c_endsAt)) hx hb hr hlocks rfl hS h rfl hP dX4_readsFloe_57
  have h := itF c19 h
  refine lv_iconst (v := (0 : Int32)) hx hb dX4_readsFloe_22 (by decide) ?_
  subst hQ
  exact retRW (zz := (((0 : Int32), (upd c_number (p1).toNatClampNeg q9), c_at) : Int32 × AR × Int32)) (fun z => z.1) (fun z => (zwM cI cC f c_r c_refused c_tape c_letter c_letterAt z.2.1 c_taped z.2.2 c_statements c_kept c_hasImage c_isKeeping c_cursor c_poled c_barred c_leapsTo c_leapsThen c_lands c_row c_rowMany c_endsAt)) hx hb hr hlocks rfl hS h rfl hP dX4_readsFloe_23
theorem dX4_statement_0 : decode cX4_statement 0 = .ok (.aload_n 0, 1) := by decide +kernel
theorem dX4_statement_1 : decode cX4_statement 1 = .ok (.invokevirtual 80, 3) := by decide +kernel
theorem dX4_statement_4 : decode cX4_statement 4 = .ok (.istore_n 1, 1) := by decide +kernel
theorem dX4_statement_5 : decode cX4_statement 5 = .ok (.iload_n 1, 1) := by decide +kernel
theorem dX4_statement_6 : decode cX4_statement 6 = .ok (.bipush 114, 2) := by decide +kernel
theorem dX4_statement_8 : decode cX4_statement 8 = .ok (.if_icmp .eq 17, 3) := by decide +kernel
theorem dX4_statement_11 : decode cX4_statement 11 = .ok (.iload_n 1, 1) := by decide +kernel
theorem dX4_statement_12 : decode cX4_statement 12 = .ok (.bipush 102, 2) := by decide +kernel
theorem dX4_statement_14 : decode cX4_statement 14 = .ok (.if_icmp .eq 11, 3) := by decide +kernel
theorem dX4_statement_17 : decode cX4_statement 17 = .ok (.iload_n 1, 1) := by decide +kernel
theorem dX4_statement_18 : decode cX4_statement 18 = .ok (.bipush 109, 2) := by decide +kernel
theorem dX4_statement_20 : decode cX4_statement 20 = .ok (.if_icmp .eq 5, 3) := by decide +kernel
theorem dX4_statement_23 : decode cX4_statement 23 = .ok (.iconst 0, 1) := by decide +kernel
theorem dX4_statement_24 : decode cX4_statement 24 = .ok (.ireturn, 1) := by decide +kernel
theorem dX4_statement_25 : decode cX4_statement 25 = .ok (.aload_n 0, 1) := by decide +kernel
theorem dX4_statement_26 : decode cX4_statement 26 = .ok (.getfield 35, 3) := by decide +kernel
theorem dX4_statement_29 : decode cX4_statement 29 = .ok (.aload_n 0, 1) := by decide +kernel
theorem dX4_statement_30 : decode cX4_statement 30 = .ok (.getfield 91, 3) := by decide +kernel
theorem dX4_statement_33 : decode cX4_statement 33 = .ok (.iload_n 1, 1) := by decide +kernel
theorem dX4_statement_34 : decode cX4_statement 34 = .ok (.iastore, 1) := by decide +kernel
theorem dX4_statement_35 : decode cX4_statement 35 = .ok (.aload_n 0, 1) := by decide +kernel
theorem dX4_statement_36 : decode cX4_statement 36 = .ok (.getfield 38, 3) := by decide +kernel
theorem dX4_statement_39 : decode cX4_statement 39 = .ok (.aload_n 0, 1) := by decide +kernel
theorem dX4_statement_40 : decode cX4_statement 40 = .ok (.getfield 91, 3) := by decide +kernel
theorem dX4_statement_43 : decode cX4_statement 43 = .ok (.aload_n 0, 1) := by decide +kernel
theorem dX4_statement_44 : decode cX4_statement 44 = .ok (.getfield 77, 3) := by decide +kernel
theorem dX4_statement_47 : decode cX4_statement 47 = .ok (.iastore, 1) := by decide +kernel
theorem dX4_statement_48 : decode cX4_statement 48 = .ok (.aload_n 0, 1) := by decide +kernel
theorem dX4_statement_49 : decode cX4_statement 49 = .ok (.dup, 1) := by decide +kernel
theorem dX4_statement_50 : decode cX4_statement 50 = .ok (.getfield 77, 3) := by decide +kernel
theorem dX4_statement_53 : decode cX4_statement 53 = .ok (.iconst 1, 1) := by decide +kernel
theorem dX4_statement_54 : decode cX4_statement 54 = .ok (.iadd, 1) := by decide +kernel
theorem dX4_statement_55 : decode cX4_statement 55 = .ok (.putfield 77, 3) := by decide +kernel
theorem dX4_statement_58 : decode cX4_statement 58 = .ok (.iconst 5, 1) := by decide +kernel
theorem dX4_statement_59 : decode cX4_statement 59 = .ok (.aload_n 0, 1) := by decide +kernel
theorem dX4_statement_60 : decode cX4_statement 60 = .ok (.getfield 91, 3) := by decide +kernel
theorem dX4_statement_63 : decode cX4_statement 63 = .ok (.imul, 1) := by decide +kernel
theorem dX4_statement_64 : decode cX4_statement 64 = .ok (.istore_n 2, 1) := by decide +kernel
theorem dX4_statement_65 : decode cX4_statement 65 = .ok (.iload_n 1, 1) := by decide +kernel
theorem dX4_statement_66 : decode cX4_statement 66 = .ok (.bipush 102, 2) := by decide +kernel
theorem dX4_statement_68 : decode cX4_statement 68 = .ok (.if_icmp .ne 14, 3) := by decide +kernel
theorem dX4_statement_71 : decode cX4_statement 71 = .ok (.aload_n 0, 1) := by decide +kernel
theorem dX4_statement_72 : decode cX4_statement 72 = .ok (.iload_n 2, 1) := by decide +kernel
theorem dX4_statement_73 : decode cX4_statement 73 = .ok (.invokevirtual 94, 3) := by decide +kernel
theorem dX4_statement_76 : decode cX4_statement 76 = .ok (.ifCond .eq 34, 3) := by decide +kernel
theorem dX4_statement_79 : decode cX4_statement 79 = .ok (.goto 22, 3) := by decide +kernel
theorem dX4_statement_82 : decode cX4_statement 82 = .ok (.aload_n 0, 1) := by decide +kernel
theorem dX4_statement_83 : decode cX4_statement 83 = .ok (.iload_n 2, 1) := by decide +kernel
theorem dX4_statement_84 : decode cX4_statement 84 = .ok (.iload_n 1, 1) := by decide +kernel
theorem dX4_statement_85 : decode cX4_statement 85 = .ok (.bipush 109, 2) := by decide +kernel
theorem dX4_statement_87 : decode cX4_statement 87 = .ok (.if_icmp .ne 7, 3) := by decide +kernel
theorem dX4_statement_90 : decode cX4_statement 90 = .ok (.iconst 2, 1) := by decide +kernel
theorem dX4_statement_91 : decode cX4_statement 91 = .ok (.goto 4, 3) := by decide +kernel
theorem dX4_statement_94 : decode cX4_statement 94 = .ok (.iconst 1, 1) := by decide +kernel
theorem dX4_statement_95 : decode cX4_statement 95 = .ok (.invokevirtual 87, 3) := by decide +kernel
theorem dX4_statement_98 : decode cX4_statement 98 = .ok (.ifCond .eq 12, 3) := by decide +kernel
theorem dX4_statement_101 : decode cX4_statement 101 = .ok (.aload_n 0, 1) := by decide +kernel
theorem dX4_statement_102 : decode cX4_statement 102 = .ok (.invokevirtual 80, 3) := by decide +kernel
theorem dX4_statement_105 : decode cX4_statement 105 = .ok (.bipush 59, 2) := by decide +kernel
theorem dX4_statement_107 : decode cX4_statement 107 = .ok (.if_icmp .eq 5, 3) := by decide +kernel
theorem dX4_statement_110 : decode cX4_statement 110 = .ok (.iconst 0, 1) := by decide +kernel
theorem dX4_statement_111 : decode cX4_statement 111 = .ok (.ireturn, 1) := by decide +kernel
theorem dX4_statement_112 : decode cX4_statement 112 = .ok (.aload_n 0, 1) := by decide +kernel
theorem dX4_statement_113 : decode cX4_statement 113 = .ok (.dup, 1) := by decide +kernel
theorem dX4_statement_114 : decode cX4_statement 114 = .ok (.getfield 77, 3) := by decide +kernel
theorem dX4_statement_117 : decode cX4_statement 117 = .ok (.iconst 1, 1) := by decide +kernel
theorem dX4_statement_118 : decode cX4_statement 118 = .ok (.iadd, 1) := by decide +kernel
theorem dX4_statement_119 : decode cX4_statement 119 = .ok (.putfield 77, 3) := by decide +kernel
theorem dX4_statement_122 : decode cX4_statement 122 = .ok (.iconst 1, 1) := by decide +kernel
theorem dX4_statement_123 : decode cX4_statement 123 = .ok (.ireturn, 1) := by decide +kernel
set_option maxRecDepth 20000 in
theorem ggX4_statement_X4_nextLetter : GoodIn wsX4_statement wsX4_nextLetter := goodIn_r _ [9, 4, 10, 11, 27, 28, 29, 30, 31, 32, 33, 34, 35, 36, 37, 38, 39, 40, 41, 42, 43, 44, 45, 46, 47, 48, 49, 50, 51, 52, 53, 54] (by decide +kernel) (by decide +kernel)
set_option maxRecDepth 20000 in
theorem gX4_statement_X4_nextLetter : GoodIn wsX4_statement (wsV RX4 80 RX4 yX4_nextLetter wsX4_nextLetter) := goodIn_app (goodIn_of _ (by decide +kernel)) ggX4_statement_X4_nextLetter
set_option maxRecDepth 20000 in
theorem ggX4_statement_X4_readsFloe : GoodIn wsX4_statement wsX4_readsFloe := goodIn_r _ [15, 16, 4, 5, 6, 7, 8, 9, 10, 11, 17, 18, 19, 20, 21, 22, 23, 24, 25, 26, 27, 28, 29, 30, 31, 32, 33, 34, 35, 36, 37, 38, 39, 40, 41, 42, 43, 44, 45, 46, 47, 48, 49, 50, 51, 52, 53, 54] (by decide +kernel) (by decide +kernel)
set_option maxRecDepth 20000 in
theorem gX4_statement_X4_readsFloe : GoodIn wsX4_statement (wsV RX4 94 RX4 yX4_readsFloe wsX4_readsFloe) := goodIn_app (goodIn_of _ (by decide +kernel)) ggX4_statement_X4_readsFloe
set_option maxRecDepth 20000 in
theorem ggX4_statement_X4_reads : GoodIn wsX4_statement wsX4_reads := goodIn_r _ [23, 4, 16, 5, 6, 7, 8, 9, 10, 11, 24, 25, 26, 27, 28, 29, 30, 31, 32, 33, 34, 35, 36, 37, 38, 39, 40, 41, 42, 43, 44, 45, 46, 47, 48, 49, 50, 51, 52, 53, 54] (by decide +kernel) (by decide +kernel)
set_option maxRecDepth 20000 in
theorem gX4_statement_X4_reads : GoodIn wsX4_statement (wsV RX4 87 RX4 yX4_reads wsX4_reads) := goodIn_app (goodIn_of _ (by decide +kernel)) ggX4_statement_X4_reads
set_option maxHeartbeats 4000000 in
set_option maxRecDepth 100000 in
theorem mX4_statement (l : Launch) (dC : Nat → ClassId) (dI : Nat → Nat → Nat) (cI cC : ClassId) (sk : (Nat → Nat) × (Nat → Nat)) (f : Nat → Nat) (sz : Nat)  (c_r : RT) (c_refused : AR) (c_tape : AR) (c_letter : AR) (c_letterAt : AR) (c_number : AR) (c_taped : Int32) (c_at : Int32) (c_statements : Int32) (c_kept : AR) (c_hasImage : Int32) (c_isKeeping : Int32) (c_cursor : Int32) (c_poled : Int32) (c_barred : Int32) (c_leapsTo : AR) (c_leapsThen : AR) (c_lands : AR) (c_row : AR) (c_rowMany : Int32) (c_endsAt : Int32) (z : Int32 × AR × AR × AR × Int32) (h : fX4_statement c_tape c_letter c_letterAt c_number c_taped c_at c_statements = some z) : cRW l yX4_statement wsX4_statement (RMk 3 68) sk (dC, dI) (tyz cI cC) sz (zwM cI cC f c_r c_refused c_tape c_letter c_letterAt c_number c_taped c_at c_statements c_kept c_hasImage c_isKeeping c_cursor c_poled c_barred c_leapsTo c_leapsThen c_lands c_row c_rowMany c_endsAt) (zwM cI cC f c_r c_refused c_tape z.2.1 z.2.2.1 z.2.2.2.1 c_taped z.2.2.2.2 c_statements c_kept c_hasImage c_isKeeping c_cursor c_poled c_barred c_leapsTo c_leapsThen c_lands c_row c_rowMany c_endsAt) [.ref (f 0)] z.1 := by
  refine ofRW (cc := cX4_statement) (maxL := 3) (ret := (some .boolean)) (own := RX4) (plainFor_of_name (by decide)) rfl rfl (Nat.le_of_ble_eq_true rfl) ?_
  intro p e s m args below meth c A hA hx hb hml hr hts hown hlocks hE hK hP hD hS ls hl
  generalize hQ : qRW _ _ _ _ _ _ _ = Q
  have hl : lv_has ls 3 [(0, .ref (f 0))] := hl
  have hiX4 : ∀ w ∈ wsX40, w ∈ wsX4_statement := fun w h => List.mem_cons_of_mem _ (List.mem_append_right _ h)
  have hw1 := hts (Cond.fieldLink RX4 35 "FloeToFloeModel" "letter" "[I") (List.mem_of_getElem? (i := 1) rfl)
  have hw2 := hts (Cond.fieldLink RX4 91 "FloeToFloeModel" "statements" "I") (List.mem_of_getElem? (i := 2) rfl)
  have hw3 := hts (Cond.fieldLink RX4 38 "FloeToFloeModel" "letterAt" "[I") (List.mem_of_getElem? (i := 3) rfl)
  have hw4 := hts (Cond.fieldLink RX4 77 "FloeToFloeModel" "at" "I") (List.mem_of_getElem? (i := 4) rfl)
  rw [fX4_statement] at h
  refine lv_aload_n hx hb dX4_statement_0 rfl (lv_at hl 0 rfl) ?_
  obtain ⟨q1, e1, h⟩ := bd_some h
  refine g_roV (wc := (zwM cI cC f c_r c_refused c_tape c_letter c_letterAt c_number c_taped c_at c_statements c_kept c_hasImage c_isKeeping c_cursor c_poled c_barred c_leapsTo c_leapsThen c_lands c_row c_rowMany c_endsAt)) ⟨hx, hb, hml, hown, hts⟩ hE hK hP hS [0, 1, 2, 3, 4, 5, 6, 7, 8, 9, 10, 11, 12, 13, 14, 15] rfl (mX4_nextLetter l dC dI cI cC sk f c_r c_refused c_tape c_letter c_letterAt c_number c_taped c_at c_statements c_kept c_hasImage c_isKeeping c_cursor c_poled c_barred c_leapsTo c_leapsThen c_lands c_row c_rowMany c_endsAt q1 e1) (cwV 0 hts gX4_statement_X4_nextLetter rfl rfl rfl (by decide +kernel) ⟨Nat.le_of_ble_eq_true rfl, Nat.le_of_ble_eq_true rfl⟩) (va_recv hK hP (ci := 4) (q0 := 0) rfl rfl) (As := []) (rest := []) rfl hl.1 rfl (Nat.le_of_ble_eq_true rfl) dX4_statement_1 ⟨Nat.zero_le _, Nat.zero_le _⟩ (fun H locs hP hS => ?_)
  refine lv_istore_n (lv' := [(1, .int q1), (0, .ref (f 0))]) hx hb dX4_statement_4 rfl hl (by decide) rfl (fun ls hl => ?_)
  refine lv_iload_n hx hb dX4_statement_5 rfl (lv_at hl 0 rfl) ?_
  refine lv_bipush (v := (114 : Int32)) hx hb dX4_statement_6 (by decide) ?_
  refine jnW (fun (v25 : Unit) => ∀ (H : Heap) (locs : List Loc) (ls : Array Slot), va_P (dC, dI) vwCl (zwM cI cC f c_r c_refused c_tape c_letter c_letterAt c_number c_taped c_at c_statements c_kept c_hasImage c_isKeeping c_cursor c_poled c_barred c_leapsTo c_leapsThen c_lands c_row c_rowMany c_endsAt) H → va_D A (zwM cI cC f c_r c_refused c_tape c_letter c_letterAt c_number c_taped c_at c_statements c_kept c_hasImage c_isKeeping c_cursor c_poled c_barred c_leapsTo c_leapsThen c_lands c_row c_rowMany c_endsAt) → va_S A s.heap H locs → lv_has ls 3 [(0, .ref (f 0)), (1, .int q1)] → W p l e (RMk 3 68) s m args below meth c H locs 0 0 Q (F0 m 25 ls [])) h (fun v25 h H locs ls hP hD hS hl => ?_) (fun J25 j25 h => ?_)
  · refine lv_aload_n hx hb dX4_statement_25 rfl (lv_at hl 0 rfl) ?_
    refine va_get (D := (dC, dI)) (ci := 4) (v := .ref (f 8)) (C := RX4) (T := TX4) (N := 28) hx hb hts hiX4 hown hK hP 0 rfl rfl 10 (by decide) hw1 (fun _ h9 => h9) rfl dX4_statement_26 ?_
    refine lv_aload_n hx hb dX4_statement_29 rfl (lv_at hl 0 rfl) ?_
    refine va_get (D := (dC, dI)) (ci := 4) (v := .int c_statements) (C := RX4) (T := TX4) (N := 28) hx hb hts hiX4 hown hK hP 0 rfl rfl 15 (by decide) hw2 (fun _ h9 => h9) rfl dX4_statement_30 ?_
    refine lv_iload_n hx hb dX4_statement_33 rfl (lv_at hl 1 rfl) ?_
    obtain ⟨hin, h⟩ := ck_some h
    refine va_iast hx hb hK hP hD hS 8 0 rfl rfl hin dX4_statement_34 (fun H locs hP hD hS => ?_)
    have hP : va_P (dC, dI) vwCl (zwM cI cC f c_r c_refused c_tape (upd c_letter (c_statements).toNatClampNeg q1) c_letterAt c_number c_taped c_at c_statements c_kept c_hasImage c_isKeeping c_cursor c_poled c_barred c_leapsTo c_leapsThen c_lands c_row c_rowMany c_endsAt) H := hP
    have hD : va_D A (zwM cI cC f c_r c_refused c_tape (upd c_letter (c_statements).toNatClampNeg q1) c_letterAt c_number c_taped c_at c_statements c_kept c_hasImage c_isKeeping c_cursor c_poled c_barred c_leapsTo c_leapsThen c_lands c_row c_rowMany c_endsAt) := hD
    refine lv_aload_n hx hb dX4_statement_35 rfl (lv_at hl 0 rfl) ?_
    refine va_get (D := (dC, dI)) (ci := 4) (v := .ref (f 9)) (C := RX4) (T := TX4) (N := 28) hx hb hts hiX4 hown hK hP 0 rfl rfl 11 (by decide) hw3 (fun _ h9 => h9) rfl dX4_statement_36 ?_
    refine lv_aload_n hx hb dX4_statement_39 rfl (lv_at hl 0 rfl) ?_
    refine va_get (D := (dC, dI)) (ci := 4) (v := .int c_statements) (C := RX4) (T := TX4) (N := 28) hx hb hts hiX4 hown hK hP 0 rfl rfl 15 (by decide) hw2 (fun _ h9 => h9) rfl dX4_statement_40 ?_
    refine lv_aload_n hx hb dX4_statement_43 rfl (lv_at hl 0 rfl) ?_
    refine va_get (D := (dC, dI)) (ci := 4) (v := .int c_at) (C := RX4) (T := TX4) (N := 28) hx hb hts hiX4 hown hK hP 0 rfl rfl 14 (by decide) hw4 (fun _ h9 => h9) rfl dX4_statement_44 ?_
    obtain ⟨hin, h⟩ := ck_some h
    refine va_iast hx hb hK hP hD hS 9 0 rfl rfl hin dX4_statement_47 (fun H locs hP hD hS => ?_)
    have hP : va_P (dC, dI) vwCl (zwM cI cC f c_r c_refused c_tape (upd c_letter (c_statements).toNatClampNeg q1) (upd c_letterAt (c_statements).toNatClampNeg c_at) c_number c_taped c_at c_statements c_kept c_hasImage c_isKeeping c_cursor c_poled c_barred c_leapsTo c_leapsThen c_lands c_row c_rowMany c_endsAt) H := hP
    have hD : va_D A (zwM cI cC f c_r c_refused c_tape (upd c_letter (c_statements).toNatClampNeg q1) (upd c_letterAt (c_statements).toNatClampNeg c_at) c_number c_taped c_at c_statements c_kept c_hasImage c_isKeeping c_cursor c_poled c_barred c_leapsTo c_leapsThen c_lands c_row c_rowMany c_endsAt) := hD
    refine lv_aload_n hx hb dX4_statement_48 rfl (lv_at hl 0 rfl) ?_
    refine lv_dup hx hb dX4_statement_49 rfl ?_
    refine va_get (D := (dC, dI)) (ci := 4) (v := .int c_at) (C := RX4) (T := TX4) (N := 28) hx hb hts hiX4 hown hK hP 0 rfl rfl 14 (by decide) hw4 (fun _ h9 => h9) rfl dX4_statement_50 ?_
    refine lv_iconst (v := (1 : Int32)) hx hb dX4_statement_53 (by decide) ?_
    refine lv_iadd hx hb dX4_statement_54 ?_
    refine va_put (D := (dC, dI)) (ci := 4) (v := .int (c_at + (1 : Int32))) (ty := .int) (C := RX4) (T := TX4) (N := 28) hx hb hts hiX4 tyX4 tyX4_ok nmX4 hown hK hP hD hS 0 rfl rfl 14 (by decide) hw4 (fun _ h9 => h9) rfl (by decide +kernel) rfl rfl (Nat.le_of_ble_eq_true rfl) dX4_statement_55 (fun H locs hP hD hS => ?_)
    have hP : va_P (dC, dI) vwCl (zwM cI cC f c_r c_refused c_tape (upd c_letter (c_statements).toNatClampNeg q1) (upd c_letterAt (c_statements).toNatClampNeg c_at) c_number c_taped (c_at + (1 : Int32)) c_statements c_kept c_hasImage c_isKeeping c_cursor c_poled c_barred c_leapsTo c_leapsThen c_lands c_row c_rowMany c_endsAt) H := hP
    have hD : va_D A (zwM cI cC f c_r c_refused c_tape (upd c_letter (c_statements).toNatClampNeg q1) (upd c_letterAt (c_statements).toNatClampNeg c_at) c_number c_taped (c_at + (1 : Int32)) c_statements c_kept c_hasImage c_isKeeping c_cursor c_poled c_barred c_leapsTo c_leapsThen c_lands c_row c_rowMany c_endsAt) := hD
    refine lv_iconst (v := (5 : Int32)) hx hb dX4_statement_58 (by decide) ?_
    refine lv_aload_n hx hb dX4_statement_59 rfl (lv_at hl 0 rfl) ?_
    refine va_get (D := (dC, dI)) (ci := 4) (v := .int c_statements) (C := RX4) (T := TX4) (N := 28) hx hb hts hiX4 hown hK hP 0 rfl rfl 15 (by decide) hw2 (fun _ h9 => h9) rfl dX4_statement_60 ?_
    refine lv_imul hx hb dX4_statement_63 ?_
    refine lv_istore_n (lv' := [(2, .int ((5 : Int32) * c_statements)), (0, .ref (f 0)), (1, .int q1)]) hx hb dX4_statement_64 rfl hl (by decide) rfl (fun ls hl => ?_)
    refine lv_iload_n hx hb dX4_statement_65 rfl (lv_at hl 2 rfl) ?_
    refine lv_bipush (v := (102 : Int32)) hx hb dX4_statement_66 (by decide) ?_
    refine jnW (fun (v101 : AR × Int32) => ∀ (H : Heap) (locs : List Loc) (ls : Array Slot), va_P (dC, dI) vwCl (zwM cI cC f c_r c_refused c_tape (upd c_letter (c_statements).toNatClampNeg q1) (upd c_letterAt (c_statements).toNatClampNeg c_at) v101.1 c_taped v101.2 c_statements c_kept c_hasImage c_isKeeping c_cursor c_poled c_barred c_leapsTo c_leapsThen c_lands c_row c_rowMany c_endsAt) H → va_D A (zwM cI cC f c_r c_refused c_tape (upd c_letter (c_statements).toNatClampNeg q1) (upd c_letterAt (c_statements).toNatClampNeg c_at) v101.1 c_taped v101.2 c_statements c_kept c_hasImage c_isKeeping c_cursor c_poled c_barred c_leapsTo c_leapsThen c_lands c_row c_rowMany c_endsAt) → va_S A s.heap H locs → lv_has ls 3 [(0, .ref (f 0))] → W p l e (RMk 3 68) s m args below meth c H locs 0 0 Q (F0 m 101 ls [])) h (fun v101 h H locs ls hP hD hS hl => ?_) (fun J101 j101 h => ?_)
    · refine lv_aload_n hx hb dX4_statement_101 rfl (lv_at hl 0 rfl) ?_
      obtain ⟨q102, e102, h⟩ := bd_some h
      refine g_roV (wc := (zwM cI cC f c_r c_refused c_tape (upd c_letter (c_statements).toNatClampNeg q1) (upd c_letterAt (c_statements).toNatClampNeg c_at) v101.1 c_taped v101.2 c_statements c_kept c_hasImage c_isKeeping c_cursor c_poled c_barred c_leapsTo c_leapsThen c_lands c_row c_rowMany c_endsAt)) ⟨hx, hb, hml, hown, hts⟩ hE hK hP hS [0, 1, 2, 3, 4, 5, 6, 7, 8, 9, 10, 11, 12, 13, 14, 15] rfl (mX4_nextLetter l dC dI cI cC sk f c_r c_refused c_tape (upd c_letter (c_statements).toNatClampNeg q1) (upd c_letterAt (c_statements).toNatClampNeg c_at) v101.1 c_taped v101.2 c_statements c_kept c_hasImage c_isKeeping c_cursor c_poled c_barred c_leapsTo c_leapsThen c_lands c_row c_rowMany c_endsAt q102 e102) (cwV 0 hts gX4_statement_X4_nextLetter rfl rfl rfl (by decide +kernel) ⟨Nat.le_of_ble_eq_true rfl, Nat.le_of_ble_eq_true rfl⟩) (va_recv hK hP (ci := 4) (q0 := 0) rfl rfl) (As := []) (rest := []) rfl hl.1 rfl (Nat.le_of_ble_eq_true rfl) dX4_statement_102 ⟨Nat.zero_le _, Nat.zero_le _⟩ (fun H locs hP hS => ?_)
      refine lv_bipush (v := (59 : Int32)) hx hb dX4_statement_105 (by decide) ?_
      refine lv_icmp_eq (tgt := 112) hx hb dX4_statement_107 (by decide) (fun c107 => ?_) (fun c107 => ?_)
      · have h := itT c107 h
        refine lv_aload_n hx hb dX4_statement_112 rfl (lv_at hl 0 rfl) ?_
        refine lv_dup hx hb dX4_statement_113 rfl ?_
        refine va_get (D := (dC, dI)) (ci := 4) (v := .int v101.2) (C := RX4) (T := TX4) (N := 28) hx hb hts hiX4 hown hK hP 0 rfl rfl 14 (by decide) hw4 (fun _ h9 => h9) rfl dX4_statement_114 ?_
        refine lv_iconst (v := (1 : Int32)) hx hb dX4_statement_117 (by decide) ?_
        refine lv_iadd hx hb dX4_statement_118 ?_
        refine va_put (D := (dC, dI)) (ci := 4) (v := .int (v101.2 + (1 : Int32))) (ty := .int) (C := RX4) (T := TX4) (N := 28) hx hb hts hiX4 tyX4 tyX4_ok nmX4 hown hK hP hD hS 0 rfl rfl 14 (by decide) hw4 (fun _ h9 => h9) rfl (by decide +kernel) rfl rfl (Nat.le_of_ble_eq_true rfl) dX4_statement_119 (fun H locs hP hD hS => ?_)
        have hP : va_P (dC, dI) vwCl (zwM cI cC f c_r c_refused c_tape (upd c_letter (c_statements).toNatClampNeg q1) (upd c_letterAt (c_statements).toNatClampNeg c_at) v101.1 c_taped (v101.2 + (1 : Int32)) c_statements c_kept c_hasImage c_isKeeping c_cursor c_poled c_barred c_leapsTo c_leapsThen c_lands c_row c_rowMany c_endsAt) H := hP
        have hD : va_D A (zwM cI cC f c_r c_refused c_tape (upd c_letter (c_statements).toNatClampNeg q1) (upd c_letterAt (c_statements).toNatClampNeg c_at) v101.1 c_taped (v101.2 + (1 : Int32)) c_statements c_kept c_hasImage c_isKeeping c_cursor c_poled c_barred c_leapsTo c_leapsThen c_lands c_row c_rowMany c_endsAt) := hD
        refine lv_iconst (v := (1 : Int32)) hx hb dX4_statement_122 (by decide) ?_
        subst hQ
        exact retRW (zz := (((1 : Int32), (upd c_letter (c_statements).toNatClampNeg q1), (upd c_letterAt (c_statements).toNatClampNeg c_at), v101.1, (v101.2 + (1 : Int32))) : Int32 × AR × AR × AR × Int32)) (fun z => z.1) (fun z => (zwM cI cC f c_r c_refused c_tape z.2.1 z.2.2.1 z.2.2.2.1 c_taped z.2.2.2.2 c_statements c_kept c_hasImage c_isKeeping c_cursor c_poled c_barred c_leapsTo c_leapsThen c_lands c_row c_rowMany c_endsAt)) hx hb hr hlocks rfl hS h rfl hP dX4_statement_123
      have h := itF c107 h
      refine lv_iconst (v := (0 : Int32)) hx hb dX4_statement_110 (by decide) ?_
      subst hQ
      exact retRW (zz := (((0 : Int32), (upd c_letter (c_statements).toNatClampNeg q1), (upd c_letterAt (c_statements).toNatClampNeg c_at), v101.1, v101.2) : Int32 × AR × AR × AR × Int32)) (fun z => z.1) (fun z => (zwM cI cC f c_r c_refused c_tape z.2.1 z.2.2.1 z.2.2.2.1 c_taped z.2.2.2.2 c_statements c_kept c_hasImage c_isKeeping c_cursor c_poled c_barred c_leapsTo c_leapsThen c_lands c_row c_rowMany c_endsAt)) hx hb hr hlocks rfl hS h rfl hP dX4_statement_111
    refine lv_icmp_ne (tgt := 82) hx hb dX4_statement_68 (by decide) (fun c68 => ?_) (fun c68 => ?_)
    · have h := itF c68 h
      refine lv_aload_n hx hb dX4_statement_82 rfl (lv_at hl 1 rfl) ?_
      refine lv_iload_n hx hb dX4_statement_83 rfl (lv_at hl 0 rfl) ?_
      refine lv_iload_n hx hb dX4_statement_84 rfl (lv_at hl 2 rfl) ?_
      refine lv_bipush (v := (109 : Int32)) hx hb dX4_statement_85 (by decide) ?_
      refine jnW (fun (v95 : Int32) => ∀ (H : Heap) (locs : List Loc) (ls : Array Slot), va_P (dC, dI) vwCl (zwM cI cC f c_r c_refused c_tape (upd c_letter (c_statements).toNatClampNeg q1) (upd c_letterAt (c_statements).toNatClampNeg c_at) c_number c_taped (c_at + (1 : Int32)) c_statements c_kept c_hasImage c_isKeeping c_cursor c_poled c_barred c_leapsTo c_leapsThen c_lands c_row c_rowMany c_endsAt) H → va_D A (zwM cI cC f c_r c_refused c_tape (upd c_letter (c_statements).toNatClampNeg q1) (upd c_letterAt (c_statements).toNatClampNeg c_at) c_number c_taped (c_at + (1 : Int32)) c_statements c_kept c_hasImage c_isKeeping c_cursor c_poled c_barred c_leapsTo c_leapsThen c_lands c_row c_rowMany c_endsAt) → va_S A s.heap H locs → lv_has ls 3 [(0, .ref (f 0))] → W p l e (RMk 3 68) s m args below meth c H locs 0 0 Q (F0 m 95 ls [.int v95, .int ((5 : Int32) * c_statements), .ref (f 0)])) h (fun v95 h H locs ls hP hD hS hl => ?_) (fun J95 j95 h => ?_)
      · obtain ⟨q95, e95, h⟩ := bd_some h
        refine g_rwV (wc := (zwM cI cC f c_r c_refused c_tape (upd c_letter (c_statements).toNatClampNeg q1) (upd c_letterAt (c_statements).toNatClampNeg c_at) c_number c_taped (c_at + (1 : Int32)) c_statements c_kept c_hasImage c_isKeeping c_cursor c_poled c_barred c_leapsTo c_leapsThen c_lands c_row c_rowMany c_endsAt)) (wc' := (zwM cI cC f c_r c_refused c_tape (upd c_letter (c_statements).toNatClampNeg q1) (upd c_letterAt (c_statements).toNatClampNeg c_at) q95.2.1 c_taped q95.2.2 c_statements c_kept c_hasImage c_isKeeping c_cursor c_poled c_barred c_leapsTo c_leapsThen c_lands c_row c_rowMany c_endsAt)) ⟨hx, hb, hml, hown, hts⟩ hE hK hA hP hD hS [0, 1, 2, 3, 4, 5, 6, 7, 8, 9, 10, 11, 12, 13, 14, 15] rfl rfl rfl (mX4_reads l dC dI cI cC sk f H.size ((5 : Int32) * c_statements) v95 c_r c_refused c_tape (upd c_letter (c_statements).toNatClampNeg q1) (upd c_letterAt (c_statements).toNatClampNeg c_at) c_number c_taped (c_at + (1 : Int32)) c_statements c_kept c_hasImage c_isKeeping c_cursor c_poled c_barred c_leapsTo c_leapsThen c_lands c_row c_rowMany c_endsAt q95 e95) (cwV 2 hts gX4_statement_X4_reads rfl rfl rfl (by decide +kernel) ⟨Nat.le_of_ble_eq_true rfl, Nat.le_of_ble_eq_true rfl⟩) (va_recv hK hP (ci := 4) (q0 := 0) rfl rfl) (As := [.int ((5 : Int32) * c_statements), .int v95]) (rest := []) rfl hl.1 rfl (Nat.le_of_ble_eq_true rfl) dX4_statement_95 ⟨Nat.zero_le _, Nat.zero_le _⟩ (fun H locs hP hD hS => ?_)
        have hP : va_P (dC, dI) vwCl (zwM cI cC f c_r c_refused c_tape (upd c_letter (c_statements).toNatClampNeg q1) (upd c_letterAt (c_statements).toNatClampNeg c_at) q95.2.1 c_taped q95.2.2 c_statements c_kept c_hasImage c_isKeeping c_cursor c_poled c_barred c_leapsTo c_leapsThen c_lands c_row c_rowMany c_endsAt) H := hP
        have hD : va_D A (zwM cI cC f c_r c_refused c_tape (upd c_letter (c_statements).toNatClampNeg q1) (upd c_letterAt (c_statements).toNatClampNeg c_at) q95.2.1 c_taped q95.2.2 c_statements c_kept c_hasImage c_isKeeping c_cursor c_poled c_barred c_leapsTo c_leapsThen c_lands c_row c_rowMany c_endsAt) := hD
        refine lv_if_eq (tgt := 110) hx hb dX4_statement_98 (by decide) (fun c98 => ?_) (fun c98 => ?_)
        · have h := itT c98 h
          refine lv_iconst (v := (0 : Int32)) hx hb dX4_statement_110 (by decide) ?_
          subst hQ
          exact retRW (zz := (((0 : Int32), (upd c_letter (c_statements).toNatClampNeg q1), (upd c_letterAt (c_statements).toNatClampNeg c_at), q95.2.1, q95.2.2) : Int32 × AR × AR × AR × Int32)) (fun z => z.1) (fun z => (zwM cI cC f c_r c_refused c_tape z.2.1 z.2.2.1 z.2.2.2.1 c_taped z.2.2.2.2 c_statements c_kept c_hasImage c_isKeeping c_cursor c_poled c_barred c_leapsTo c_leapsThen c_lands c_row c_rowMany c_endsAt)) hx hb hr hlocks rfl hS h rfl hP dX4_statement_111
        have h := itF c98 h
        exact j101 _ h _ _ _ hP hD hS (lv_sub hl [0] rfl)
      refine lv_icmp_ne (tgt := 94) hx hb dX4_statement_87 (by decide) (fun c87 => ?_) (fun c87 => ?_)
      · have h := itF c87 h
        refine lv_iconst (v := (1 : Int32)) hx hb dX4_statement_94 (by decide) ?_
        exact j95 _ h _ _ _ hP hD hS (lv_sub hl [1] rfl)
      have h := itT c87 h
      refine lv_iconst (v := (2 : Int32)) hx hb dX4_statement_90 (by decide) ?_
      refine lv_goto (tgt := 95) hx hb dX4_statement_91 (by decide) ?_
      exact j95 _ h _ _ _ hP hD hS (lv_sub hl [1] rfl)
    have h := itT c68 h
    refine lv_aload_n hx hb dX4_statement_71 rfl (lv_at hl 1 rfl) ?_
    refine lv_iload_n hx hb dX4_statement_72 rfl (lv_at hl 0 rfl) ?_
    obtain ⟨q73, e73, h⟩ := bd_some h
    refine g_rwV (wc := (zwM cI cC f c_r c_refused c_tape (upd c_letter (c_statements).toNatClampNeg q1) (upd c_letterAt (c_statements).toNatClampNeg c_at) c_number c_taped (c_at + (1 : Int32)) c_statements c_kept c_hasImage c_isKeeping c_cursor c_poled c_barred c_leapsTo c_leapsThen c_lands c_row c_rowMany c_endsAt)) (wc' := (zwM cI cC f c_r c_refused c_tape (upd c_letter (c_statements).toNatClampNeg q1) (upd c_letterAt (c_statements).toNatClampNeg c_at) q73.2.1 c_taped q73.2.2 c_statements c_kept c_hasImage c_isKeeping c_cursor c_poled c_barred c_leapsTo c_leapsThen c_lands c_row c_rowMany c_endsAt)) ⟨hx, hb, hml, hown, hts⟩ hE hK hA hP hD hS [0, 1, 2, 3, 4, 5, 6, 7, 8, 9, 10, 11, 12, 13, 14, 15] rfl rfl rfl (mX4_readsFloe l dC dI cI cC sk f H.size ((5 : Int32) * c_statements) c_r c_refused c_tape (upd c_letter (c_statements).toNatClampNeg q1) (upd c_letterAt (c_statements).toNatClampNeg c_at) c_number c_taped (c_at + (1 : Int32)) c_statements c_kept c_hasImage c_isKeeping c_cursor c_poled c_barred c_leapsTo c_leapsThen c_lands c_row c_rowMany c_endsAt q73 e73) (cwV 1 hts gX4_statement_X4_readsFloe rfl rfl rfl (by decide +kernel) ⟨Nat.le_of_ble_eq_true rfl, Nat.le_of_ble_eq_true rfl⟩) (va_recv hK hP (ci := 4) (q0 := 0) rfl rfl) (As := [.int ((5 : Int32) * c_statements)]) (rest := []) rfl hl.1 rfl (Nat.le_of_ble_eq_true rfl) dX4_statement_73 ⟨Nat.zero_le _, Nat.zero_le _⟩ (fun H locs hP hD hS => ?_)
    have hP : va_P (dC, dI) vwCl (zwM cI cC f c_r c_refused c_tape (upd c_letter (c_statements).toNatClampNeg q1) (upd c_letterAt (c_statements).toNatClampNeg c_at) q73.2.1 c_taped q73.2.2 c_statements c_kept c_hasImage c_isKeeping c_cursor c_poled c_barred c_leapsTo c_leapsThen c_lands c_row c_rowMany c_endsAt) H := hP
    have hD : va_D A (zwM cI cC f c_r c_refused c_tape (upd c_letter (c_statements).toNatClampNeg q1) (upd c_letterAt (c_statements).toNatClampNeg c_at) q73.2.1 c_taped q73.2.2 c_statements c_kept c_hasImage c_isKeeping c_cursor c_poled c_barred c_leapsTo c_leapsThen c_lands c_row c_rowMany c_endsAt) := hD
    refine lv_if_eq (tgt := 110) hx hb dX4_statement_76 (by decide) (fun c76 => ?_) (fun c76 => ?_)
    · have h := itT c76 h
      refine lv_iconst (v := (0 : Int32)) hx hb dX4_statement_110 (by decide) ?_
      subst hQ
      exact retRW (zz := (((0 : Int32), (upd c_letter (c_statements).toNatClampNeg q1), (upd c_letterAt (c_statements).toNatClampNeg c_at), q73.2.1, q73.2.2) : Int32 × AR × AR × AR × Int32)) (fun z => z.1) (fun z => (zwM cI cC f c_r c_refused c_tape z.2.1 z.2.2.1 z.2.2.2.1 c_taped z.2.2.2.2 c_statements c_kept c_hasImage c_isKeeping c_cursor c_poled c_barred c_leapsTo c_leapsThen c_lands c_row c_rowMany c_endsAt)) hx hb hr hlocks rfl hS h rfl hP dX4_statement_111
    have h := itF c76 h
    refine lv_goto (tgt := 101) hx hb dX4_statement_79 (by decide) ?_
    exact j101 _ h _ _ _ hP hD hS (lv_sub hl [1] rfl)
  refine lv_icmp_eq (tgt := 25) hx hb dX4_statement_8 (by decide) (fun c8 => ?_) (fun c8 => ?_)
  · have h := itT c8 h
    exact j25 _ h _ _ _ hP hD hS (lv_sub hl [1, 0] rfl)
  have h := itF c8 h
  refine lv_iload_n hx hb dX4_statement_11 rfl (lv_at hl 0 rfl) ?_
  refine lv_bipush (v := (102 : Int32)) hx hb dX4_statement_12 (by decide) ?_
  refine lv_icmp_eq (tgt := 25) hx hb dX4_statement_14 (by decide) (fun c14 => ?_) (fun c14 => ?_)
  · have h := itT c14 h
    exact j25 _ h _ _ _ hP hD hS (lv_sub hl [1, 0] rfl)
  have h := itF c14 h
  refine lv_iload_n hx hb dX4_statement_17 rfl (lv_at hl 0 rfl) ?_
  refine lv_bipush (v := (109 : Int32)) hx hb dX4_statement_18 (by decide) ?_
  refine lv_icmp_eq (tgt := 25) hx hb dX4_statement_20 (by decide) (fun c20 => ?_) (fun c20 => ?_)
  · have h := itT c20 h
    exact j25 _ h _ _ _ hP hD hS (lv_sub hl [1, 0] rfl)
  have h := itF c20 h
  refine lv_iconst (v := (0 : Int32)) hx hb dX4_statement_23 (by decide) ?_
  subst hQ
  exact retRW (zz := (((0 : Int32), c_letter, c_letterAt, c_number, c_at) : Int32 × AR × AR × AR × Int32)) (fun z => z.1) (fun z => (zwM cI cC f c_r c_refused c_tape z.2.1 z.2.2.1 z.2.2.2.1 c_taped z.2.2.2.2 c_statements c_kept c_hasImage c_isKeeping c_cursor c_poled c_barred c_leapsTo c_leapsThen c_lands c_row c_rowMany c_endsAt)) hx hb hr hlocks rfl hS h rfl hP dX4_statement_24
