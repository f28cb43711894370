theorem dX4_no_0 : decode cX4_no 0 = .ok (.aload_n 0, 1) := by decide +kernel
theorem dX4_no_1 : decode cX4_no 1 = .ok (.getfield 7, 3) := by decide +kernel
theorem dX4_no_4 : decode cX4_no 4 = .ok (.iload_n 1, 1) := by decide +kernel
theorem dX4_no_5 : decode cX4_no 5 = .ok (.ineg, 1) := by decide +kernel
theorem dX4_no_6 : decode cX4_no 6 = .ok (.dup2, 1) := by decide +kernel
theorem dX4_no_7 : decode cX4_no 7 = .ok (.iaload, 1) := by decide +kernel
theorem dX4_no_8 : decode cX4_no 8 = .ok (.iconst 1, 1) := by decide +kernel
theorem dX4_no_9 : decode cX4_no 9 = .ok (.iadd, 1) := by decide +kernel
theorem dX4_no_10 : decode cX4_no 10 = .ok (.iastore, 1) := by decide +kernel
theorem dX4_no_11 : decode cX4_no 11 = .ok (.iload_n 1, 1) := by decide +kernel
theorem dX4_no_12 : decode cX4_no 12 = .ok (.ireturn, 1) := by decide +kernel
set_option maxHeartbeats 4000000 in
set_option maxRecDepth 100000 in
theorem mX4_no (l : Launch) (dC : Nat → ClassId) (dI : Nat → Nat → Nat) (cI cC : ClassId) (sk : (Nat → Nat) × (Nat → Nat)) (f : Nat → Nat) (sz : Nat) (p1 : Int32) (c_r : RT) (c_refused : AR) (c_tape : AR) (c_letter : AR) (c_letterAt : AR) (c_number : AR) (c_taped : Int32) (c_at : Int32) (c_statements : Int32) (c_kept : AR) (c_hasImage : Int32) (c_isKeeping : Int32) (c_cursor : Int32) (c_poled : Int32) (c_barred : Int32) (c_leapsTo : AR) (c_leapsThen : AR) (c_lands : AR) (c_row : AR) (c_rowMany : Int32) (c_endsAt : Int32) (z : Int32 × AR) (h : fX4_no p1 c_refused = some z) : cRW l yX4_no wsX4_no (RMk 0 0) sk (dC, dI) (tyz cI cC) sz (zwM cI cC f c_r c_refused c_tape c_letter c_letterAt c_number c_taped c_at c_statements c_kept c_hasImage c_isKeeping c_cursor c_poled c_barred c_leapsTo c_leapsThen c_lands c_row c_rowMany c_endsAt) (zwM cI cC f c_r z.2 c_tape c_letter c_letterAt c_number c_taped c_at c_statements c_kept c_hasImage c_isKeeping c_cursor c_poled c_barred c_leapsTo c_leapsThen c_lands c_row c_rowMany c_endsAt) [.ref (f 0), .int p1] z.1 := by
  refine ofRW (cc := cX4_no) (maxL := 2) (ret := (some .int)) (own := RX4) (plainFor_of_name (by decide)) rfl rfl (Nat.le_of_ble_eq_true rfl) ?_
  intro p e s m args below meth c A hA hx hb hml hr hts hown hlocks hE hK hP hD hS ls hl
  generalize hQ : qRW _ _ _ _ _ _ _ = Q
  have hl : lv_has ls 2 [(0, .ref (f 0)), (1, .int p1)] := hl
  have hiX4 : ∀ w ∈ wsX40, w ∈ wsX4_no := fun w h => List.mem_cons_of_mem _ (List.mem_append_right _ h)
  have hw1 := hts (Cond.fieldLink RX4 7 "FloeToFloeModel" "refused" "[I") (List.mem_of_getElem? (i := 1) rfl)
  rw [fX4_no] at h
  refine lv_aload_n hx hb dX4_no_0 rfl (lv_at hl 0 rfl) ?_
  refine va_get (D := (dC, dI)) (ci := 4) (v := .ref (f 1)) (C := RX4) (T := TX4) (N := 28) hx hb hts hiX4 hown hK hP 0 rfl rfl 0 (by decide) hw1 (fun _ h9 => h9) rfl dX4_no_1 ?_
  refine lv_iload_n hx hb dX4_no_4 rfl (lv_at hl 1 rfl) ?_
  refine lv_ineg hx hb dX4_no_5 ?_
  refine lv_dup2_11 hx hb dX4_no_6 rfl rfl ?_
  obtain ⟨hin, h⟩ := ck_some h
  refine va_iald hx hb hK hP 1 0 rfl rfl hin dX4_no_7 ?_
  refine lv_iconst (v := (1 : Int32)) hx hb dX4_no_8 (by decide) ?_
  refine lv_iadd hx hb dX4_no_9 ?_
  obtain ⟨hin, h⟩ := ck_some h
  refine va_iast hx hb hK hP hD hS 1 0 rfl rfl hin dX4_no_10 (fun H locs hP hD hS => ?_)
  have hP : va_P (dC, dI) vwCl (zwM cI cC f c_r (upd c_refused ((-p1)).toNatClampNeg ((c_refused ((-p1)).toNatClampNeg) + (1 : Int32))) c_tape c_letter c_letterAt c_number c_taped c_at c_statements c_kept c_hasImage c_isKeeping c_cursor c_poled c_barred c_leapsTo c_leapsThen c_lands c_row c_rowMany c_endsAt) H := hP
  have hD : va_D A (zwM cI cC f c_r (upd c_refused ((-p1)).toNatClampNeg ((c_refused ((-p1)).toNatClampNeg) + (1 : Int32))) c_tape c_letter c_letterAt c_number c_taped c_at c_statements c_kept c_hasImage c_isKeeping c_cursor c_poled c_barred c_leapsTo c_leapsThen c_lands c_row c_rowMany c_endsAt) := hD
  refine lv_iload_n hx hb dX4_no_11 rfl (lv_at hl 1 rfl) ?_
  subst hQ
  exact retRW (zz := ((p1, (upd c_refused ((-p1)).toNatClampNeg ((c_refused ((-p1)).toNatClampNeg) + (1 : Int32)))) : Int32 × AR)) (fun z => z.1) (fun z => (zwM cI cC f c_r z.2 c_tape c_letter c_letterAt c_number c_taped c_at c_statements c_kept c_hasImage c_isKeeping c_cursor c_poled c_barred c_leapsTo c_leapsThen c_lands c_row c_rowMany c_endsAt)) hx hb hr hlocks rfl hS h rfl hP dX4_no_12
theorem dX4_isIn_0 : decode cX4_isIn 0 = .ok (.iload_n 0, 1) := by decide +kernel
theorem dX4_isIn_1 : decode cX4_isIn 1 = .ok (.iload_n 1, 1) := by decide +kernel
theorem dX4_isIn_2 : decode cX4_isIn 2 = .ok (.if_icmp .lt 12, 3) := by decide +kernel
theorem dX4_isIn_5 : decode cX4_isIn 5 = .ok (.iload_n 0, 1) := by decide +kernel
theorem dX4_isIn_6 : decode cX4_isIn 6 = .ok (.iload_n 2, 1) := by decide +kernel
theorem dX4_isIn_7 : decode cX4_isIn 7 = .ok (.if_icmp .gt 7, 3) := by decide +kernel
theorem dX4_isIn_10 : decode cX4_isIn 10 = .ok (.iconst 1, 1) := by decide +kernel
theorem dX4_isIn_11 : decode cX4_isIn 11 = .ok (.goto 4, 3) := by decide +kernel
theorem dX4_isIn_14 : decode cX4_isIn 14 = .ok (.iconst 0, 1) := by decide +kernel
theorem dX4_isIn_15 : decode cX4_isIn 15 = .ok (.ireturn, 1) := by decide +kernel
set_option maxHeartbeats 4000000 in
set_option maxRecDepth 100000 in
theorem mX4_isIn (l : Launch) (dC : Nat → ClassId) (dI : Nat → Nat → Nat) (cI cC : ClassId) (sk : (Nat → Nat) × (Nat → Nat))  (p0 : Int32) (p1 : Int32) (p2 : Int32)  (z : Int32) (h : fX4_isIn p0 p1 p2 = some z) : cRO l yX4_isIn wsX4_isIn (RMk 0 0) sk (dC, dI) (tyz cI cC) ([] : va_W) [.int p0, .int p1, .int p2] z := by
  refine ofRO (cc := cX4_isIn) (maxL := 3) (ret := (some .boolean)) (own := RX4) (plainFor_of_name (by decide)) rfl rfl (Nat.le_of_ble_eq_true rfl) ?_
  intro p e s m args below meth c hx hb hml hr hts hown hlocks hE hK hP hS ls hl
  generalize hQ : qRO _ _ _ _ = Q
  have hl : lv_has ls 3 [(0, .int p0), (1, .int p1), (2, .int p2)] := hl
  rw [fX4_isIn] at h
  refine lv_iload_n hx hb dX4_isIn_0 rfl (lv_at hl 0 rfl) ?_
  refine lv_iload_n hx hb dX4_isIn_1 rfl (lv_at hl 1 rfl) ?_
  refine lv_icmp_lt (tgt := 14) hx hb dX4_isIn_2 (by decide) (fun c2 => ?_) (fun c2 => ?_)
  · have h := itT c2 h
    refine lv_iconst (v := (0 : Int32)) hx hb dX4_isIn_14 (by decide) ?_
    subst hQ
    exact retRO hx hb hr hlocks rfl hS h dX4_isIn_15
  have h := itF c2 h
  refine lv_iload_n hx hb dX4_isIn_5 rfl (lv_at hl 0 rfl) ?_
  refine lv_iload_n hx hb dX4_isIn_6 rfl (lv_at hl 2 rfl) ?_
  refine lv_icmp_gt (tgt := 14) hx hb dX4_isIn_7 (by decide) (fun c7 => ?_) (fun c7 => ?_)
  · have h := itT c7 h
    refine lv_iconst (v := (0 : Int32)) hx hb dX4_isIn_14 (by decide) ?_
    subst hQ
    exact retRO hx hb hr hlocks rfl hS h dX4_isIn_15
  have h := itF c7 h
  refine lv_iconst (v := (1 : Int32)) hx hb dX4_isIn_10 (by decide) ?_
  refine lv_goto (tgt := 15) hx hb dX4_isIn_11 (by decide) ?_
  subst hQ
  exact retRO hx hb hr hlocks rfl hS h dX4_isIn_15
theorem dX4_bound_0 : decode cX4_bound 0 = .ok (.iload_n 0, 1) := by decide +kernel
theorem dX4_bound_1 : decode cX4_bound 1 = .ok (.iload_n 1, 1) := by decide +kernel
theorem dX4_bound_2 : decode cX4_bound 2 = .ok (.if_icmp .ge 8, 3) := by decide +kernel
theorem dX4_bound_5 : decode cX4_bound 5 = .ok (.bipush (-4), 2) := by decide +kernel
theorem dX4_bound_7 : decode cX4_bound 7 = .ok (.goto 14, 3) := by decide +kernel
theorem dX4_bound_10 : decode cX4_bound 10 = .ok (.iload_n 0, 1) := by decide +kernel
theorem dX4_bound_11 : decode cX4_bound 11 = .ok (.iload_n 2, 1) := by decide +kernel
theorem dX4_bound_12 : decode cX4_bound 12 = .ok (.if_icmp .le 8, 3) := by decide +kernel
theorem dX4_bound_15 : decode cX4_bound 15 = .ok (.bipush (-6), 2) := by decide +kernel
theorem dX4_bound_17 : decode cX4_bound 17 = .ok (.goto 4, 3) := by decide +kernel
theorem dX4_bound_20 : decode cX4_bound 20 = .ok (.iconst 0, 1) := by decide +kernel
theorem dX4_bound_21 : decode cX4_bound 21 = .ok (.ireturn, 1) := by decide +kernel
set_option maxHeartbeats 4000000 in
set_option maxRecDepth 100000 in
theorem mX4_bound (l : Launch) (dC : Nat → ClassId) (dI : Nat → Nat → Nat) (cI cC : ClassId) (sk : (Nat → Nat) × (Nat → Nat))  (p0 : Int32) (p1 : Int32) (p2 : Int32)  (z : Int32) (h : fX4_bound p0 p1 p2 = some z) : cRO l yX4_bound wsX4_bound (RMk 0 0) sk (dC, dI) (tyz cI cC) ([] : va_W) [.int p0, .int p1, .int p2] z := by
  refine ofRO (cc := cX4_bound) (maxL := 3) (ret := (some .int)) (own := RX4) (plainFor_of_name (by decide)) rfl rfl (Nat.le_of_ble_eq_true rfl) ?_
  intro p e s m args below meth c hx hb hml hr hts hown hlocks hE hK hP hS ls hl
  generalize hQ : qRO _ _ _ _ = Q
  have hl : lv_has ls 3 [(0, .int p0), (1, .int p1), (2, .int p2)] := hl
  rw [fX4_bound] at h
  refine lv_iload_n hx hb dX4_bound_0 rfl (lv_at hl 0 rfl) ?_
  refine lv_iload_n hx hb dX4_bound_1 rfl (lv_at hl 1 rfl) ?_
  refine lv_icmp_ge (tgt := 10) hx hb dX4_bound_2 (by decide) (fun c2 => ?_) (fun c2 => ?_)
  · have h := itT c2 h
    refine lv_iload_n hx hb dX4_bound_10 rfl (lv_at hl 0 rfl) ?_
    refine lv_iload_n hx hb dX4_bound_11 rfl (lv_at hl 2 rfl) ?_
    refine lv_icmp_le (tgt := 20) hx hb dX4_bound_12 (by decide) (fun c12 => ?_) (fun c12 => ?_)
    · have h := itT c12 h
      refine lv_iconst (v := (0 : Int32)) hx hb dX4_bound_20 (by decide) ?_
      subst hQ
      exact retRO hx hb hr hlocks rfl hS h dX4_bound_21
    have h := itF c12 h
    refine lv_bipush (v := (-6 : Int32)) hx hb dX4_bound_15 (by decide) ?_
    refine lv_goto (tgt := 21) hx hb dX4_bound_17 (by decide) ?_
    subst hQ
    exact retRO hx hb hr hlocks rfl hS h dX4_bound_21
  have h := itF c2 h
  refine lv_bipush (v := (-4 : Int32)) hx hb dX4_bound_5 (by decide) ?_
  refine lv_goto (tgt := 21) hx hb dX4_bound_7 (by decide) ?_
  subst hQ
  exact retRO hx hb hr hlocks rfl hS h dX4_bound_21
theorem dX4_isFloe_0 : decode cX4_isFloe 0 = .ok (.iload_n 1, 1) := by decide +kernel
theorem dX4_isFloe_1 : decode cX4_isFloe 1 = .ok (.ifCond .lt 15, 3) := by decide +kernel
theorem dX4_isFloe_4 : decode cX4_isFloe 4 = .ok (.iload_n 1, 1) := by decide +kernel
theorem dX4_isFloe_5 : decode cX4_isFloe 5 = .ok (.aload_n 0, 1) := by decide +kernel
theorem dX4_isFloe_6 : decode cX4_isFloe 6 = .ok (.getfield 59, 3) := by decide +kernel
theorem dX4_isFloe_9 : decode cX4_isFloe 9 = .ok (.if_icmp .ge 7, 3) := by decide +kernel
theorem dX4_isFloe_12 : decode cX4_isFloe 12 = .ok (.iconst 1, 1) := by decide +kernel
theorem dX4_isFloe_13 : decode cX4_isFloe 13 = .ok (.goto 4, 3) := by decide +kernel
theorem dX4_isFloe_16 : decode cX4_isFloe 16 = .ok (.iconst 0, 1) := by decide +kernel
theorem dX4_isFloe_17 : decode cX4_isFloe 17 = .ok (.ireturn, 1) := by decide +kernel
set_option maxHeartbeats 4000000 in
set_option maxRecDepth 100000 in
theorem mX4_isFloe (l : Launch) (dC : Nat → ClassId) (dI : Nat → Nat → Nat) (cI cC : ClassId) (sk : (Nat → Nat) × (Nat → Nat)) (f : Nat → Nat) (p1 : Int32) (c_r : RT) (c_refused : AR) (c_tape : AR) (c_letter : AR) (c_letterAt : AR) (c_number : AR) (c_taped : Int32) (c_at : Int32) (c_statements : Int32) (c_kept : AR) (c_hasImage : Int32) (c_isKeeping : Int32) (c_cursor : Int32) (c_poled : Int32) (c_barred : Int32) (c_leapsTo : AR) (c_leapsThen : AR) (c_lands : AR) (c_row : AR) (c_rowMany : Int32) (c_endsAt : Int32) (z : Int32) (h : fX4_isFloe p1 c_r = some z) : cRO l yX4_isFloe wsX4_isFloe (RMk 0 0) sk (dC, dI) (tyz cI cC) (zwM cI cC f c_r c_refused c_tape c_letter c_letterAt c_number c_taped c_at c_statements c_kept c_hasImage c_isKeeping c_cursor c_poled c_barred c_leapsTo c_leapsThen c_lands c_row c_rowMany c_endsAt) [.ref (f 0), .int p1] z := by
  refine ofRO (cc := cX4_isFloe) (maxL := 2) (ret := (some .boolean)) (own := RX4) (plainFor_of_name (by decide)) rfl rfl (Nat.le_of_ble_eq_true rfl) ?_
  intro p e s m args below meth c hx hb hml hr hts hown hlocks hE hK hP hS ls hl
  generalize hQ : qRO _ _ _ _ = Q
  have hl : lv_has ls 2 [(0, .ref (f 0)), (1, .int p1)] := hl
  have hiX4 : ∀ w ∈ wsX40, w ∈ wsX4_isFloe := fun w h => List.mem_cons_of_mem _ (List.mem_append_right _ h)
  have hw1 := hts (Cond.fieldLink RX4 59 "FloeToFloeModel" "floes" "I") (List.mem_of_getElem? (i := 1) rfl)
  rw [fX4_isFloe] at h
  refine lv_iload_n hx hb dX4_isFloe_0 rfl (lv_at hl 1 rfl) ?_
  refine lv_if_lt (tgt := 16) hx hb dX4_isFloe_1 (by decide) (fun c1 => ?_) (fun c1 => ?_)
  · have h := itT c1 h
    refine lv_iconst (v := (0 : Int32)) hx hb dX4_isFloe_16 (by decide) ?_
    subst hQ
    exact retRO hx hb hr hlocks rfl hS h dX4_isFloe_17
  have h := itF c1 h
  refine lv_iload_n hx hb dX4_isFloe_4 rfl (lv_at hl 1 rfl) ?_
  refine lv_aload_n hx hb dX4_isFloe_5 rfl (lv_at hl 0 rfl) ?_
  refine va_get (D := (dC, dI)) (ci := 4) (v := .int (R_floes c_r)) (C := RX4) (T := TX4) (N := 28) hx hb hts hiX4 hown hK hP 0 rfl rfl 6 (by decide) hw1 (fun _ h9 => h9) rfl dX4_isFloe_6 ?_
  refine lv_icmp_ge (tgt := 16) hx hb dX4_isFloe_9 (by decide) (fun c9 => ?_) (fun c9 => ?_)
  · have h := itT c9 h
    refine lv_iconst (v := (0 : Int32)) hx hb dX4_isFloe_16 (by decide) ?_
    subst hQ
    exact retRO hx hb hr hlocks rfl hS h dX4_isFloe_17
  have h := itF c9 h
  refine lv_iconst (v := (1 : Int32)) hx hb dX4_isFloe_12 (by decide) ?_
  refine lv_goto (tgt := 17) hx hb dX4_isFloe_13 (by decide) ?_
  subst hQ
  exact retRO hx hb hr hlocks rfl hS h dX4_isFloe_17
theorem dX4_isCell_0 : decode cX4_isCell 0 = .ok (.iload_n 0, 1) := by decide +kernel
theorem dX4_isCell_1 : decode cX4_isCell 1 = .ok (.iconst 0, 1) := by decide +kernel
theorem dX4_isCell_2 : decode cX4_isCell 2 = .ok (.bipush 9, 2) := by decide +kernel
theorem dX4_isCell_4 : decode cX4_isCell 4 = .ok (.invokestatic 62, 3) := by decide +kernel
theorem dX4_isCell_7 : decode cX4_isCell 7 = .ok (.ireturn, 1) := by decide +kernel
set_option maxRecDepth 20000 in
theorem ggX4_isCell_X4_isIn : GoodIn wsX4_isCell wsX4_isIn := goodIn_r _ [4] (by decide +kernel) (by decide +kernel)
set_option maxRecDepth 20000 in
theorem gX4_isCell_X4_isIn : GoodIn wsX4_isCell (va_wsS RX4 62 yX4_isIn wsX4_isIn) := goodIn_app (goodIn_of _ (by decide +kernel)) ggX4_isCell_X4_isIn
set_option maxHeartbeats 4000000 in
set_option maxRecDepth 100000 in
theorem mX4_isCell (l : Launch) (dC : Nat → ClassId) (dI : Nat → Nat → Nat) (cI cC : ClassId) (sk : (Nat → Nat) × (Nat → Nat))  (p0 : Int32)  (z : Int32) (h : fX4_isCell p0 = some z) : cRO l yX4_isCell wsX4_isCell (RMk 1 22) sk (dC, dI) (tyz cI cC) ([] : va_W) [.int p0] z := by
  refine ofRO (cc := cX4_isCell) (maxL := 1) (ret := (some .boolean)) (own := RX4) (plainFor_of_name (by decide)) rfl rfl (Nat.le_of_ble_eq_true rfl) ?_
  intro p e s m args below meth c hx hb hml hr hts hown hlocks hE hK hP hS ls hl
  generalize hQ : qRO _ _ _ _ = Q
  have hl : lv_has ls 1 [(0, .int p0)] := hl
  rw [fX4_isCell] at h
  refine lv_iload_n hx hb dX4_isCell_0 rfl (lv_at hl 0 rfl) ?_
  refine lv_iconst (v := (0 : Int32)) hx hb dX4_isCell_1 (by decide) ?_
  refine lv_bipush (v := (9 : Int32)) hx hb dX4_isCell_2 (by decide) ?_
  obtain ⟨q4, e4, h⟩ := bd_some h
  refine g_roS (wc := ([] : va_W)) ⟨hx, hb, hml, hown, hts⟩ hE hK hP hS [] rfl (mX4_isIn l dC dI cI cC sk  p0 (0 : Int32) (9 : Int32) q4 e4) (va_cwS 3 hts gX4_isCell_X4_isIn rfl rfl rfl (by decide +kernel) ⟨Nat.le_of_ble_eq_true rfl, Nat.le_of_ble_eq_true rfl⟩) (As := [.int p0, .int (0 : Int32), .int (9 : Int32)]) (rest := []) rfl hl.1 rfl (Nat.le_of_ble_eq_true rfl) dX4_isCell_4 ⟨Nat.zero_le _, Nat.zero_le _⟩ (fun H locs hP hS => ?_)
  obtain ⟨hz, h⟩ := ckb_some h
  subst hQ
  exact retRO hx hb hr hlocks (ckb_n hz) hS h dX4_isCell_7
