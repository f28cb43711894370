theorem dX4_letter_0 : decode cX4_letter 0 = .ok (.iload_n 1, 1) := by decide +kernel
theorem dX4_letter_1 : decode cX4_letter 1 = .ok (.iconst 0, 1) := by decide +kernel
theorem dX4_letter_2 : decode cX4_letter 2 = .ok (.sipush 255, 3) := by decide +kernel
theorem dX4_letter_5 : decode cX4_letter 5 = .ok (.invokestatic 66, 3) := by decide +kernel
theorem dX4_letter_8 : decode cX4_letter 8 = .ok (.istore_n 2, 1) := by decide +kernel
theorem dX4_letter_9 : decode cX4_letter 9 = .ok (.iload_n 2, 1) := by decide +kernel
theorem dX4_letter_10 : decode cX4_letter 10 = .ok (.ifCond .ne 15, 3) := by decide +kernel
theorem dX4_letter_13 : decode cX4_letter 13 = .ok (.aload_n 0, 1) := by decide +kernel
theorem dX4_letter_14 : decode cX4_letter 14 = .ok (.getfield 70, 3) := by decide +kernel
theorem dX4_letter_17 : decode cX4_letter 17 = .ok (.bipush 80, 2) := by decide +kernel
theorem dX4_letter_19 : decode cX4_letter 19 = .ok (.if_icmp .ne 6, 3) := by decide +kernel
theorem dX4_letter_22 : decode cX4_letter 22 = .ok (.bipush (-6), 2) := by decide +kernel
theorem dX4_letter_24 : decode cX4_letter 24 = .ok (.istore_n 2, 1) := by decide +kernel
theorem dX4_letter_25 : decode cX4_letter 25 = .ok (.iload_n 2, 1) := by decide +kernel
theorem dX4_letter_26 : decode cX4_letter 26 = .ok (.ifCond .eq 9, 3) := by decide +kernel
theorem dX4_letter_29 : decode cX4_letter 29 = .ok (.aload_n 0, 1) := by decide +kernel
theorem dX4_letter_30 : decode cX4_letter 30 = .ok (.iload_n 2, 1) := by decide +kernel
theorem dX4_letter_31 : decode cX4_letter 31 = .ok (.invokevirtual 73, 3) := by decide +kernel
theorem dX4_letter_34 : decode cX4_letter 34 = .ok (.ireturn, 1) := by decide +kernel
theorem dX4_letter_35 : decode cX4_letter 35 = .ok (.aload_n 0, 1) := by decide +kernel
theorem dX4_letter_36 : decode cX4_letter 36 = .ok (.getfield 32, 3) := by decide +kernel
theorem dX4_letter_39 : decode cX4_letter 39 = .ok (.aload_n 0, 1) := by decide +kernel
theorem dX4_letter_40 : decode cX4_letter 40 = .ok (.getfield 70, 3) := by decide +kernel
theorem dX4_letter_43 : decode cX4_letter 43 = .ok (.iload_n 1, 1) := by decide +kernel
theorem dX4_letter_44 : decode cX4_letter 44 = .ok (.iastore, 1) := by decide +kernel
theorem dX4_letter_45 : decode cX4_letter 45 = .ok (.aload_n 0, 1) := by decide +kernel
theorem dX4_letter_46 : decode cX4_letter 46 = .ok (.dup, 1) := by decide +kernel
theorem dX4_letter_47 : decode cX4_letter 47 = .ok (.getfield 70, 3) := by decide +kernel
theorem dX4_letter_50 : decode cX4_letter 50 = .ok (.iconst 1, 1) := by decide +kernel
theorem dX4_letter_51 : decode cX4_letter 51 = .ok (.iadd, 1) := by decide +kernel
theorem dX4_letter_52 : decode cX4_letter 52 = .ok (.putfield 70, 3) := by decide +kernel
theorem dX4_letter_55 : decode cX4_letter 55 = .ok (.aload_n 0, 1) := by decide +kernel
theorem dX4_letter_56 : decode cX4_letter 56 = .ok (.getfield 70, 3) := by decide +kernel
theorem dX4_letter_59 : decode cX4_letter 59 = .ok (.ireturn, 1) := by decide +kernel
set_option maxRecDepth 20000 in
theorem ggX4_letter_X4_bound : GoodIn wsX4_letter wsX4_bound := goodIn_r _ [6] (by decide +kernel) (by decide +kernel)
set_option maxRecDepth 20000 in
theorem gX4_letter_X4_bound : GoodIn wsX4_letter (va_wsS RX4 66 yX4_bound wsX4_bound) := goodIn_app (goodIn_of _ (by decide +kernel)) ggX4_letter_X4_bound
set_option maxRecDepth 20000 in
theorem ggX4_letter_X4_no : GoodIn wsX4_letter wsX4_no := goodIn_r _ [10, 11, 12, 13, 14, 15, 16, 17, 18, 19, 20, 21, 22, 23, 24, 25, 26, 27, 28, 29, 30, 31, 32, 33, 34, 35, 36, 37, 38, 39] (by decide +kernel) (by decide +kernel)
set_option maxRecDepth 20000 in
theorem gX4_letter_X4_no : GoodIn wsX4_letter (wsV RX4 73 RX4 yX4_no wsX4_no) := goodIn_app (goodIn_of _ (by decide +kernel)) ggX4_letter_X4_no
set_option maxHeartbeats 4000000 in
set_option maxRecDepth 100000 in
theorem mX4_letter (l : Launch) (dC : Nat → ClassId) (dI : Nat → Nat → Nat) (cI cC : ClassId) (sk : (Nat → Nat) × (Nat → Nat)) (f : Nat → Nat) (sz : Nat) (p1 : Int32) (c_r : RT) (c_refused : AR) (c_tape : AR) (c_letter : AR) (c_letterAt : AR) (c_number : AR) (c_taped : Int32) (c_at : Int32) (c_statements : Int32) (c_kept : AR) (c_hasImage : Int32) (c_isKeeping : Int32) (c_cursor : Int32) (c_poled : Int32) (c_barred : Int32) (c_leapsTo : AR) (c_leapsThen : AR) (c_lands : AR) (c_row : AR) (c_rowMany : Int32) (c_endsAt : Int32) (z : Int32 × AR × AR × Int32) (h : fX4_letter p1 c_refused c_tape c_taped = some z) : cRW l yX4_letter wsX4_letter (RMk 1 22) sk (dC, dI) (tyz cI cC) sz (zwM cI cC f c_r c_refused c_tape c_letter c_letterAt c_number c_taped c_at c_statements c_kept c_hasImage c_isKeeping c_cursor c_poled c_barred c_leapsTo c_leapsThen c_lands c_row c_rowMany c_endsAt) (zwM cI cC f c_r z.2.1 z.2.2.1 c_letter c_letterAt c_number z.2.2.2 c_at c_statements c_kept c_hasImage c_isKeeping c_cursor c_poled c_barred c_leapsTo c_leapsThen c_lands c_row c_rowMany c_endsAt) [.ref (f 0), .int p1] z.1 := by
  refine ofRW (cc := cX4_letter) (maxL := 3) (ret := (some .int)) (own := RX4) (plainFor_of_name (by decide)) rfl rfl (Nat.le_of_ble_eq_true rfl) ?_
  intro p e s m args below meth c A hA hx hb hml hr hts hown hlocks hE hK hP hD hS ls hl
  generalize hQ : qRW _ _ _ _ _ _ _ = Q
  have hl : lv_has ls 3 [(0, .ref (f 0)), (1, .int p1)] := hl
  have hiX4 : ∀ w ∈ wsX40, w ∈ wsX4_letter := fun w h => List.mem_cons_of_mem _ (List.mem_append_right _ h)
  have hw1 := hts (Cond.fieldLink RX4 70 "FloeToFloeModel" "taped" "I") (List.mem_of_getElem? (i := 1) rfl)
  have hw2 := hts (Cond.fieldLink RX4 32 "FloeToFloeModel" "tape" "[I") (List.mem_of_getElem? (i := 2) rfl)
  rw [fX4_letter] at h
  refine lv_iload_n hx hb dX4_letter_0 rfl (lv_at hl 1 rfl) ?_
  refine lv_iconst (v := (0 : Int32)) hx hb dX4_letter_1 (by decide) ?_
  refine lv_sipush (v := (255 : Int32)) hx hb dX4_letter_2 (by decide) ?_
  obtain ⟨q5, e5, h⟩ := bd_some h
  refine g_roS (wc := ([] : va_W)) ⟨hx, hb, hml, hown, hts⟩ hE hK hP hS [] rfl (mX4_bound l dC dI cI cC sk  p1 (0 : Int32) (255 : Int32) q5 e5) (va_cwS 3 hts gX4_letter_X4_bound rfl rfl rfl (by decide +kernel) ⟨Nat.le_of_ble_eq_true rfl, Nat.le_of_ble_eq_true rfl⟩) (As := [.int p1, .int (0 : Int32), .int (255 : Int32)]) (rest := []) rfl hl.1 rfl (Nat.le_of_ble_eq_true rfl) dX4_letter_5 ⟨Nat.zero_le _, Nat.zero_le _⟩ (fun H locs hP hS => ?_)
  refine lv_istore_n (lv' := [(2, .int q5), (0, .ref (f 0)), (1, .int p1)]) hx hb dX4_letter_8 rfl hl (by decide) rfl (fun ls hl => ?_)
  refine lv_iload_n hx hb dX4_letter_9 rfl (lv_at hl 0 rfl) ?_
  refine jnW (fun (v25 : Int32) => ∀ (H : Heap) (locs : List Loc) (ls : Array Slot), va_P (dC, dI) vwCl (zwM cI cC f c_r c_refused c_tape c_letter c_letterAt c_number c_taped c_at c_statements c_kept c_hasImage c_isKeeping c_cursor c_poled c_barred c_leapsTo c_leapsThen c_lands c_row c_rowMany c_endsAt) H → va_D A (zwM cI cC f c_r c_refused c_tape c_letter c_letterAt c_number c_taped c_at c_statements c_kept c_hasImage c_isKeeping c_cursor c_poled c_barred c_leapsTo c_leapsThen c_lands c_row c_rowMany c_endsAt) → va_S A s.heap H locs → lv_has ls 3 [(0, .ref (f 0)), (1, .int p1), (2, .int v25)] → W p l e (RMk 1 22) s m args below meth c H locs 0 0 Q (F0 m 25 ls [])) h (fun v25 h H locs ls hP hD hS hl => ?_) (fun J25 j25 h => ?_)
  · refine lv_iload_n hx hb dX4_letter_25 rfl (lv_at hl 2 rfl) ?_
    refine lv_if_eq (tgt := 35) hx hb dX4_letter_26 (by decide) (fun c26 => ?_) (fun c26 => ?_)
    · have h := itT c26 h
      refine lv_aload_n hx hb dX4_letter_35 rfl (lv_at hl 0 rfl) ?_
      refine va_get (D := (dC, dI)) (ci := 4) (v := .ref (f 7)) (C := RX4) (T := TX4) (N := 28) hx hb hts hiX4 hown hK hP 0 rfl rfl 9 (by decide) hw2 (fun _ h9 => h9) rfl dX4_letter_36 ?_
      refine lv_aload_n hx hb dX4_letter_39 rfl (lv_at hl 0 rfl) ?_
      refine va_get (D := (dC, dI)) (ci := 4) (v := .int c_taped) (C := RX4) (T := TX4) (N := 28) hx hb hts hiX4 hown hK hP 0 rfl rfl 13 (by decide) hw1 (fun _ h9 => h9) rfl dX4_letter_40 ?_
      refine lv_iload_n hx hb dX4_letter_43 rfl (lv_at hl 1 rfl) ?_
      obtain ⟨hin, h⟩ := ck_some h
      refine va_iast hx hb hK hP hD hS 7 0 rfl rfl hin dX4_letter_44 (fun H locs hP hD hS => ?_)
      have hP : va_P (dC, dI) vwCl (zwM cI cC f c_r c_refused (upd c_tape (c_taped).toNatClampNeg p1) c_letter c_letterAt c_number c_taped c_at c_statements c_kept c_hasImage c_isKeeping c_cursor c_poled c_barred c_leapsTo c_leapsThen c_lands c_row c_rowMany c_endsAt) H := hP
      have hD : va_D A (zwM cI cC f c_r c_refused (upd c_tape (c_taped).toNatClampNeg p1) c_letter c_letterAt c_number c_taped c_at c_statements c_kept c_hasImage c_isKeeping c_cursor c_poled c_barred c_leapsTo c_leapsThen c_lands c_row c_rowMany c_endsAt) := hD
      refine lv_aload_n hx hb dX4_letter_45 rfl (lv_at hl 0 rfl) ?_
      refine lv_dup hx hb dX4_letter_46 rfl ?_
      refine va_get (D := (dC, dI)) (ci := 4) (v := .int c_taped) (C := RX4) (T := TX4) (N := 28) hx hb hts hiX4 hown hK hP 0 rfl rfl 13 (by decide) hw1 (fun _ h9 => h9) rfl dX4_letter_47 ?_
      refine lv_iconst (v := (1 : Int32)) hx hb dX4_letter_50 (by decide) ?_
      refine lv_iadd hx hb dX4_letter_51 ?_
      refine va_put (D := (dC, dI)) (ci := 4) (v := .int (c_taped + (1 : Int32))) (ty := .int) (C := RX4) (T := TX4) (N := 28) hx hb hts hiX4 tyX4 tyX4_ok nmX4 hown hK hP hD hS 0 rfl rfl 13 (by decide) hw1 (fun _ h9 => h9) rfl (by decide +kernel) rfl rfl (Nat.le_of_ble_eq_true rfl) dX4_letter_52 (fun H locs hP hD hS => ?_)
      have hP : va_P (dC, dI) vwCl (zwM cI cC f c_r c_refused (upd c_tape (c_taped).toNatClampNeg p1) c_letter c_letterAt c_number (c_taped + (1 : Int32)) c_at c_statements c_kept c_hasImage c_isKeeping c_cursor c_poled c_barred c_leapsTo c_leapsThen c_lands c_row c_rowMany c_endsAt) H := hP
      have hD : va_D A (zwM cI cC f c_r c_refused (upd c_tape (c_taped).toNatClampNeg p1) c_letter c_letterAt c_number (c_taped + (1 : Int32)) c_at c_statements c_kept c_hasImage c_isKeeping c_cursor c_poled c_barred c_leapsTo c_leapsThen c_lands c_row c_rowMany c_endsAt) := hD
      refine lv_aload_n hx hb dX4_letter_55 rfl (lv_at hl 0 rfl) ?_
      refine va_get (D := (dC, dI)) (ci := 4) (v := .int (c_taped + (1 : Int32))) (C := RX4) (T := TX4) (N := 28) hx hb hts hiX4 hown hK hP 0 rfl rfl 13 (by decide) hw1 (fun _ h9 => h9) rfl dX4_letter_56 ?_
      subst hQ
      exact retRW (zz := (((c_taped + (1 : Int32)), c_refused, (upd c_tape (c_taped).toNatClampNeg p1), (c_taped + (1 : Int32))) : Int32 × AR × AR × Int32)) (fun z => z.1) (fun z => (zwM cI cC f c_r z.2.1 z.2.2.1 c_letter c_letterAt c_number z.2.2.2 c_at c_statements c_kept c_hasImage c_isKeeping c_cursor c_poled c_barred c_leapsTo c_leapsThen c_lands c_row c_rowMany c_endsAt)) hx hb hr hlocks rfl hS h rfl hP dX4_letter_59
    have h := itF c26 h
    refine lv_aload_n hx hb dX4_letter_29 rfl (lv_at hl 0 rfl) ?_
    refine lv_iload_n hx hb dX4_letter_30 rfl (lv_at hl 2 rfl) ?_
    obtain ⟨q31, e31, h⟩ := bd_some h
    refine g_rwA (wc := (zwM cI cC f c_r c_refused c_tape c_letter c_letterAt c_number c_taped c_at c_statements c_kept c_hasImage c_isKeeping c_cursor c_poled c_barred c_leapsTo c_leapsThen c_lands c_row c_rowMany c_endsAt)) (wc' := (zwM cI cC f c_r q31.2 c_tape c_letter c_letterAt c_number c_taped c_at c_statements c_kept c_hasImage c_isKeeping c_cursor c_poled c_barred c_leapsTo c_leapsThen c_lands c_row c_rowMany c_endsAt)) ⟨hx, hb, hml, hown, hts⟩ hE hK hA hP hD hS rfl (mX4_no l dC dI cI cC sk f H.size v25 c_r c_refused c_tape c_letter c_letterAt c_number c_taped c_at c_statements c_kept c_hasImage c_isKeeping c_cursor c_poled c_barred c_leapsTo c_leapsThen c_lands c_row c_rowMany c_endsAt q31 e31) (cwV 1 hts gX4_letter_X4_no rfl rfl rfl (by decide +kernel) ⟨Nat.le_of_ble_eq_true rfl, Nat.le_of_ble_eq_true rfl⟩) (va_recv hK hP (ci := 4) (q0 := 0) rfl rfl) (As := [.int v25]) (rest := []) rfl hl.1 rfl (Nat.le_of_ble_eq_true rfl) dX4_letter_31 ⟨Nat.zero_le _, Nat.zero_le _⟩ (fun H locs hP hD hS => ?_)
    have hP : va_P (dC, dI) vwCl (zwM cI cC f c_r q31.2 c_tape c_letter c_letterAt c_number c_taped c_at c_statements c_kept c_hasImage c_isKeeping c_cursor c_poled c_barred c_leapsTo c_leapsThen c_lands c_row c_rowMany c_endsAt) H := hP
    have hD : va_D A (zwM cI cC f c_r q31.2 c_tape c_letter c_letterAt c_number c_taped c_at c_statements c_kept c_hasImage c_isKeeping c_cursor c_poled c_barred c_leapsTo c_leapsThen c_lands c_row c_rowMany c_endsAt) := hD
    subst hQ
    exact retRW (zz := ((q31.1, q31.2, c_tape, c_taped) : Int32 × AR × AR × Int32)) (fun z => z.1) (fun z => (zwM cI cC f c_r z.2.1 z.2.2.1 c_letter c_letterAt c_number z.2.2.2 c_at c_statements c_kept c_hasImage c_isKeeping c_cursor c_poled c_barred c_leapsTo c_leapsThen c_lands c_row c_rowMany c_endsAt)) hx hb hr hlocks rfl hS h rfl hP dX4_letter_34
  refine lv_if_ne (tgt := 25) hx hb dX4_letter_10 (by decide) (fun c10 => ?_) (fun c10 => ?_)
  · have h := itF c10 h
    exact j25 _ h _ _ _ hP hD hS (lv_sub hl [1, 2, 0] rfl)
  have h := itT c10 h
  refine lv_aload_n hx hb dX4_letter_13 rfl (lv_at hl 1 rfl) ?_
  refine va_get (D := (dC, dI)) (ci := 4) (v := .int c_taped) (C := RX4) (T := TX4) (N := 28) hx hb hts hiX4 hown hK hP 0 rfl rfl 13 (by decide) hw1 (fun _ h9 => h9) rfl dX4_letter_14 ?_
  refine lv_bipush (v := (80 : Int32)) hx hb dX4_letter_17 (by decide) ?_
  refine lv_icmp_ne (tgt := 25) hx hb dX4_letter_19 (by decide) (fun c19 => ?_) (fun c19 => ?_)
  · have h := itF c19 h
    exact j25 _ h _ _ _ hP hD hS (lv_sub hl [1, 2, 0] rfl)
  have h := itT c19 h
  refine lv_bipush (v := (-6 : Int32)) hx hb dX4_letter_22 (by decide) ?_
  refine lv_istore_n (lv' := [(2, .int (-6 : Int32)), (0, .ref (f 0)), (1, .int p1)]) hx hb dX4_letter_24 rfl hl (by decide) rfl (fun ls hl => ?_)
  exact j25 _ h _ _ _ hP hD hS (lv_sub hl [1, 2, 0] rfl)
theorem dX4_nextLetter_0 : decode cX4_nextLetter 0 = .ok (.aload_n 0, 1) := by decide +kernel
theorem dX4_nextLetter_1 : decode cX4_nextLetter 1 = .ok (.getfield 77, 3) := by decide +kernel
theorem dX4_nextLetter_4 : decode cX4_nextLetter 4 = .ok (.aload_n 0, 1) := by decide +kernel
theorem dX4_nextLetter_5 : decode cX4_nextLetter 5 = .ok (.getfield 70, 3) := by decide +kernel
theorem dX4_nextLetter_8 : decode cX4_nextLetter 8 = .ok (.if_icmp .ge 15, 3) := by decide +kernel
theorem dX4_nextLetter_11 : decode cX4_nextLetter 11 = .ok (.aload_n 0, 1) := by decide +kernel
theorem dX4_nextLetter_12 : decode cX4_nextLetter 12 = .ok (.getfield 32, 3) := by decide +kernel
theorem dX4_nextLetter_15 : decode cX4_nextLetter 15 = .ok (.aload_n 0, 1) := by decide +kernel
theorem dX4_nextLetter_16 : decode cX4_nextLetter 16 = .ok (.getfield 77, 3) := by decide +kernel
theorem dX4_nextLetter_19 : decode cX4_nextLetter 19 = .ok (.iaload, 1) := by decide +kernel
theorem dX4_nextLetter_20 : decode cX4_nextLetter 20 = .ok (.goto 4, 3) := by decide +kernel
theorem dX4_nextLetter_23 : decode cX4_nextLetter 23 = .ok (.iconst (-1), 1) := by decide +kernel
theorem dX4_nextLetter_24 : decode cX4_nextLetter 24 = .ok (.ireturn, 1) := by decide +kernel
set_option maxHeartbeats 4000000 in
set_option maxRecDepth 100000 in
theorem mX4_nextLetter (l : Launch) (dC : Nat → ClassId) (dI : Nat → Nat → Nat) (cI cC : ClassId) (sk : (Nat → Nat) × (Nat → Nat)) (f : Nat → Nat)  (c_r : RT) (c_refused : AR) (c_tape : AR) (c_letter : AR) (c_letterAt : AR) (c_number : AR) (c_taped : Int32) (c_at : Int32) (c_statements : Int32) (c_kept : AR) (c_hasImage : Int32) (c_isKeeping : Int32) (c_cursor : Int32) (c_poled : Int32) (c_barred : Int32) (c_leapsTo : AR) (c_leapsThen : AR) (c_lands : AR) (c_row : AR) (c_rowMany : Int32) (c_endsAt : Int32) (z : Int32) (h : fX4_nextLetter c_tape c_taped c_at = some z) : cRO l yX4_nextLetter wsX4_nextLetter (RMk 0 0) sk (dC, dI) (tyz cI cC) (zwM cI cC f c_r c_refused c_tape c_letter c_letterAt c_number c_taped c_at c_statements c_kept c_hasImage c_isKeeping c_cursor c_poled c_barred c_leapsTo c_leapsThen c_lands c_row c_rowMany c_endsAt) [.ref (f 0)] z := by
  refine ofRO (cc := cX4_nextLetter) (maxL := 1) (ret := (some .int)) (own := RX4) (plainFor_of_name (by decide)) rfl rfl (Nat.le_of_ble_eq_true rfl) ?_
  intro p e s m args below meth c hx hb hml hr hts hown hlocks hE hK hP hS ls hl
  generalize hQ : qRO _ _ _ _ = Q
  have hl : lv_has ls 1 [(0, .ref (f 0))] := hl
  have hiX4 : ∀ w ∈ wsX40, w ∈ wsX4_nextLetter := fun w h => List.mem_cons_of_mem _ (List.mem_append_right _ h)
  have hw1 := hts (Cond.fieldLink RX4 77 "FloeToFloeModel" "at" "I") (List.mem_of_getElem? (i := 1) rfl)
  have hw2 := hts (Cond.fieldLink RX4 70 "FloeToFloeModel" "taped" "I") (List.mem_of_getElem? (i := 2) rfl)
  have hw3 := hts (Cond.fieldLink RX4 32 "FloeToFloeModel" "tape" "[I") (List.mem_of_getElem? (i := 3) rfl)
  rw [fX4_nextLetter] at h
  refine lv_aload_n hx hb dX4_nextLetter_0 rfl (lv_at hl 0 rfl) ?_
  refine va_get (D := (dC, dI)) (ci := 4) (v := .int c_at) (C := RX4) (T := TX4) (N := 28) hx hb hts hiX4 hown hK hP 0 rfl rfl 14 (by decide) hw1 (fun _ h9 => h9) rfl dX4_nextLetter_1 ?_
  refine lv_aload_n hx hb dX4_nextLetter_4 rfl (lv_at hl 0 rfl) ?_
  refine va_get (D := (dC, dI)) (ci := 4) (v := .int c_taped) (C := RX4) (T := TX4) (N := 28) hx hb hts hiX4 hown hK hP 0 rfl rfl 13 (by decide) hw2 (fun _ h9 => h9) rfl dX4_nextLetter_5 ?_
  refine lv_icmp_ge (tgt := 23) hx hb dX4_nextLetter_8 (by decide) (fun c8 => ?_) (fun c8 => ?_)
  · have h := itT c8 h
    refine lv_iconst (v := (-1 : Int32)) hx hb dX4_nextLetter_23 (by decide) ?_
    subst hQ
    exact retRO hx hb hr hlocks rfl hS h dX4_nextLetter_24
  have h := itF c8 h
  refine lv_aload_n hx hb dX4_nextLetter_11 rfl (lv_at hl 0 rfl) ?_
  refine va_get (D := (dC, dI)) (ci := 4) (v := .ref (f 7)) (C := RX4) (T := TX4) (N := 28) hx hb hts hiX4 hown hK hP 0 rfl rfl 9 (by decide) hw3 (fun _ h9 => h9) rfl dX4_nextLetter_12 ?_
  refine lv_aload_n hx hb dX4_nextLetter_15 rfl (lv_at hl 0 rfl) ?_
  refine va_get (D := (dC, dI)) (ci := 4) (v := .int c_at) (C := RX4) (T := TX4) (N := 28) hx hb hts hiX4 hown hK hP 0 rfl rfl 14 (by decide) hw1 (fun _ h9 => h9) rfl dX4_nextLetter_16 ?_
  obtain ⟨hin, h⟩ := ck_some h
  refine va_iald hx hb hK hP 7 0 rfl rfl hin dX4_nextLetter_19 ?_
  refine lv_goto (tgt := 24) hx hb dX4_nextLetter_20 (by decide) ?_
  subst hQ
  exact retRO hx hb hr hlocks rfl hS h dX4_nextLetter_24
