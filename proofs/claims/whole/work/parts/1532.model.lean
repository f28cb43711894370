theorem dX4_heaviest_0 : decode cX4_heaviest 0 = .ok (.iload_n 1, 1) := by decide +kernel
theorem dX4_heaviest_1 : decode cX4_heaviest 1 = .ok (.invokestatic 173, 3) := by decide +kernel
theorem dX4_heaviest_4 : decode cX4_heaviest 4 = .ok (.ifCond .ne 9, 3) := by decide +kernel
theorem dX4_heaviest_7 : decode cX4_heaviest 7 = .ok (.aload_n 0, 1) := by decide +kernel
theorem dX4_heaviest_8 : decode cX4_heaviest 8 = .ok (.iconst (-1), 1) := by decide +kernel
theorem dX4_heaviest_9 : decode cX4_heaviest 9 = .ok (.invokevirtual 73, 3) := by decide +kernel
theorem dX4_heaviest_12 : decode cX4_heaviest 12 = .ok (.ireturn, 1) := by decide +kernel
theorem dX4_heaviest_13 : decode cX4_heaviest 13 = .ok (.bipush 9, 2) := by decide +kernel
theorem dX4_heaviest_15 : decode cX4_heaviest 15 = .ok (.istore_n 2, 1) := by decide +kernel
theorem dX4_heaviest_16 : decode cX4_heaviest 16 = .ok (.iload_n 2, 1) := by decide +kernel
theorem dX4_heaviest_17 : decode cX4_heaviest 17 = .ok (.ifCond .le 22, 3) := by decide +kernel
theorem dX4_heaviest_20 : decode cX4_heaviest 20 = .ok (.aload_n 0, 1) := by decide +kernel
theorem dX4_heaviest_21 : decode cX4_heaviest 21 = .ok (.iload_n 2, 1) := by decide +kernel
theorem dX4_heaviest_22 : decode cX4_heaviest 22 = .ok (.iload_n 1, 1) := by decide +kernel
theorem dX4_heaviest_23 : decode cX4_heaviest 23 = .ok (.aload_n 0, 1) := by decide +kernel
theorem dX4_heaviest_24 : decode cX4_heaviest 24 = .ok (.getfield 101, 3) := by decide +kernel
theorem dX4_heaviest_27 : decode cX4_heaviest 27 = .ok (.invokevirtual 179, 3) := by decide +kernel
theorem dX4_heaviest_30 : decode cX4_heaviest 30 = .ok (.ifCond .ge 9, 3) := by decide +kernel
theorem dX4_heaviest_33 : decode cX4_heaviest 33 = .ok (.iinc 2 (-1), 3) := by decide +kernel
theorem dX4_heaviest_36 : decode cX4_heaviest 36 = .ok (.goto (-20), 3) := by decide +kernel
theorem dX4_heaviest_39 : decode cX4_heaviest 39 = .ok (.iload_n 2, 1) := by decide +kernel
theorem dX4_heaviest_40 : decode cX4_heaviest 40 = .ok (.ireturn, 1) := by decide +kernel
set_option maxRecDepth 20000 in
theorem ggX4_heaviest_X4_isCell : GoodIn wsX4_heaviest wsX4_isCell := goodIn_r _ [5, 6, 7, 4, 8] (by decide +kernel) (by decide +kernel)
set_option maxRecDepth 20000 in
theorem gX4_heaviest_X4_isCell : GoodIn wsX4_heaviest (va_wsS RX4 173 yX4_isCell wsX4_isCell) := goodIn_app (goodIn_of _ (by decide +kernel)) ggX4_heaviest_X4_isCell
set_option maxRecDepth 20000 in
theorem ggX4_heaviest_X4_no : GoodIn wsX4_heaviest wsX4_no := goodIn_r _ [12, 13, 64, 65, 66, 67, 68, 69, 70, 71, 72, 73, 74, 75, 76, 77, 78, 79, 80, 81, 82, 83, 84, 85, 86, 87, 88, 89, 90, 91] (by decide +kernel) (by decide +kernel)
set_option maxRecDepth 20000 in
theorem gX4_heaviest_X4_no : GoodIn wsX4_heaviest (wsV RX4 73 RX4 yX4_no wsX4_no) := goodIn_app (goodIn_of _ (by decide +kernel)) ggX4_heaviest_X4_no
set_option maxRecDepth 20000 in
theorem ggX4_heaviest_X4_soonestFrom : GoodIn wsX4_heaviest wsX4_soonestFrom := goodIn_r _ [17, 18, 19, 20, 4, 21, 22, 23, 24, 25, 26, 27, 28, 29, 30, 31, 32, 33, 34, 35, 36, 37, 38, 39, 40, 41, 42, 43, 44, 45, 46, 47, 48, 49, 6, 7, 8, 50, 51, 52, 53, 54, 1, 55, 56, 57, 58, 59, 60, 61, 62, 63, 64, 65, 66, 67, 68, 69, 70, 71, 72, 73, 74, 75, 76, 77, 78, 79, 80, 81, 82, 83, 84, 85, 86, 87, 88, 89, 90, 91] (by decide +kernel) (by decide +kernel)
set_option maxRecDepth 20000 in
theorem gX4_heaviest_X4_soonestFrom : GoodIn wsX4_heaviest (wsV RX4 179 RX4 yX4_soonestFrom wsX4_soonestFrom) := goodIn_app (goodIn_of _ (by decide +kernel)) ggX4_heaviest_X4_soonestFrom
set_option maxHeartbeats 4000000 in
set_option maxRecDepth 100000 in
theorem mX4_heaviest (l : Launch) (dC : Nat → ClassId) (dI : Nat → Nat → Nat) (cI cC : ClassId) (sk : (Nat → Nat) × (Nat → Nat)) (f : Nat → Nat) (sz : Nat) (p1 : Int32) (c_r : RT) (c_refused : AR) (c_tape : AR) (c_letter : AR) (c_letterAt : AR) (c_number : AR) (c_taped : Int32) (c_at : Int32) (c_statements : Int32) (c_kept : AR) (c_hasImage : Int32) (c_isKeeping : Int32) (c_cursor : Int32) (c_poled : Int32) (c_barred : Int32) (c_leapsTo : AR) (c_leapsThen : AR) (c_lands : AR) (c_row : AR) (c_rowMany : Int32) (c_endsAt : Int32) (z : Int32 × AR) (h : fX4_heaviest p1 c_r c_refused c_poled c_barred = some z) : cRW l yX4_heaviest wsX4_heaviest (RMk 6 143) sk (dC, dI) (tyz cI cC) sz (zwM cI cC f c_r c_refused c_tape c_letter c_letterAt c_number c_taped c_at c_statements c_kept c_hasImage c_isKeeping c_cursor c_poled c_barred c_leapsTo c_leapsThen c_lands c_row c_rowMany c_endsAt) (zwM cI cC f c_r z.2 c_tape c_letter c_letterAt c_number c_taped c_at c_statements c_kept c_hasImage c_isKeeping c_cursor c_poled c_barred c_leapsTo c_leapsThen c_lands c_row c_rowMany c_endsAt) [.ref (f 0), .int p1] z.1 := by
  refine ofRW (cc := cX4_heaviest) (maxL := 3) (ret := (some .int)) (own := RX4) (plainFor_of_name (by decide)) rfl rfl (Nat.le_of_ble_eq_true rfl) ?_
  intro p e s m args below meth c A hA hx hb hml hr hts hown hlocks hE hK hP hD hS ls hl
  generalize hQ : qRW _ _ _ _ _ _ _ = Q
  have hl : lv_has ls 3 [(0, .ref (f 0)), (1, .int p1)] := hl
  have hiX4 : ∀ w ∈ wsX40, w ∈ wsX4_heaviest := fun w h => List.mem_cons_of_mem _ (List.mem_append_right _ h)
  have hw1 := hts (Cond.fieldLink RX4 101 "FloeToFloeModel" "minute" "I") (List.mem_of_getElem? (i := 1) rfl)
  rw [fX4_heaviest] at h
  refine lv_iload_n hx hb dX4_heaviest_0 rfl (lv_at hl 1 rfl) ?_
  obtain ⟨q1, e1, h⟩ := bd_some h
  refine g_roS (wc := ([] : va_W)) ⟨hx, hb, hml, hown, hts⟩ hE hK hP hS [] rfl (mX4_isCell l dC dI cI cC sk  p1 q1 e1) (va_cwS 1 hts gX4_heaviest_X4_isCell rfl rfl rfl (by decide +kernel) ⟨Nat.le_of_ble_eq_true rfl, Nat.le_of_ble_eq_true rfl⟩) (As := [.int p1]) (rest := []) rfl hl.1 rfl (Nat.le_of_ble_eq_true rfl) dX4_heaviest_1 ⟨Nat.zero_le _, Nat.zero_le _⟩ (fun H locs hP hS => ?_)
  refine lv_if_ne (tgt := 13) hx hb dX4_heaviest_4 (by decide) (fun c4 => ?_) (fun c4 => ?_)
  · have h := itF c4 h
    refine lv_bipush (v := (9 : Int32)) hx hb dX4_heaviest_13 (by decide) ?_
    refine lv_istore_n (lv' := [(2, .int (9 : Int32)), (0, .ref (f 0)), (1, .int p1)]) hx hb dX4_heaviest_15 rfl hl (by decide) rfl (fun ls hl => ?_)
    have L16 : ∀ (K16 : Int32 → Option (Int32 × AR)), (∀ (k16_2 : Int32), K16 k16_2 = some z → ∀ (H : Heap) (locs : List Loc) (ls : Array Slot), va_P (dC, dI) vwCl (zwM cI cC f c_r c_refused c_tape c_letter c_letterAt c_number c_taped c_at c_statements c_kept c_hasImage c_isKeeping c_cursor c_poled c_barred c_leapsTo c_leapsThen c_lands c_row c_rowMany c_endsAt) H → va_D A (zwM cI cC f c_r c_refused c_tape c_letter c_letterAt c_number c_taped c_at c_statements c_kept c_hasImage c_isKeeping c_cursor c_poled c_barred c_leapsTo c_leapsThen c_lands c_row c_rowMany c_endsAt) → va_S A s.heap H locs → lv_has ls 3 [(2, .int k16_2)] → W p l e (RMk 6 143) s m args below meth c H locs 0 0 Q (F0 m 39 ls [])) → ∀ (n : Nat) (x16_2 : Int32), fX4_heaviest_L16 c_barred c_poled c_r p1 K16 n x16_2 = some z → ∀ (H : Heap) (locs : List Loc) (ls : Array Slot), va_P (dC, dI) vwCl (zwM cI cC f c_r c_refused c_tape c_letter c_letterAt c_number c_taped c_at c_statements c_kept c_hasImage c_isKeeping c_cursor c_poled c_barred c_leapsTo c_leapsThen c_lands c_row c_rowMany c_endsAt) H → va_D A (zwM cI cC f c_r c_refused c_tape c_letter c_letterAt c_number c_taped c_at c_statements c_kept c_hasImage c_isKeeping c_cursor c_poled c_barred c_leapsTo c_leapsThen c_lands c_row c_rowMany c_endsAt) → va_S A s.heap H locs → lv_has ls 3 [(0, .ref (f 0)), (1, .int p1), (2, .int x16_2)] → W p l e (RMk 6 143) s m args below meth c H locs 0 0 Q (F0 m 16 ls []) := by
      intro K16 kx16 n
      induction n with
      | zero => intro x16_2 h; rw [fX4_heaviest_L16] at h; cases h
      | succ n ih16 =>
        intro x16_2 h H locs ls hP hD hS hl
        rw [fX4_heaviest_L16] at h
        refine lv_iload_n hx hb dX4_heaviest_16 rfl (lv_at hl 2 rfl) ?_
        refine lv_if_le (tgt := 39) hx hb dX4_heaviest_17 (by decide) (fun c17 => ?_) (fun c17 => ?_)
        · have h := itT c17 h
          exact kx16 _ h _ _ _ hP hD hS (lv_sub hl [2] rfl)
        have h := itF c17 h
        refine lv_aload_n hx hb dX4_heaviest_20 rfl (lv_at hl 0 rfl) ?_
        refine lv_iload_n hx hb dX4_heaviest_21 rfl (lv_at hl 2 rfl) ?_
        refine lv_iload_n hx hb dX4_heaviest_22 rfl (lv_at hl 1 rfl) ?_
        refine lv_aload_n hx hb dX4_heaviest_23 rfl (lv_at hl 0 rfl) ?_
        refine va_get (D := (dC, dI)) (ci := 4) (v := .int (R_minute c_r)) (C := RX4) (T := TX4) (N := 28) hx hb hts hiX4 hown hK hP 0 rfl rfl 8 (by decide) hw1 (fun _ h9 => h9) rfl dX4_heaviest_24 ?_
        obtain ⟨q27, e27, h⟩ := bd_some h
        refine g_roV (wc := (zwM cI cC f c_r c_refused c_tape c_letter c_letterAt c_number c_taped c_at c_statements c_kept c_hasImage c_isKeeping c_cursor c_poled c_barred c_leapsTo c_leapsThen c_lands c_row c_rowMany c_endsAt)) ⟨hx, hb, hml, hown, hts⟩ hE hK hP hS [0, 1, 2, 3, 4, 5, 6, 7, 8, 9, 10, 11, 12, 13, 14, 15] rfl (mX4_soonestFrom l dC dI cI cC sk f x16_2 p1 (R_minute c_r) c_r c_refused c_tape c_letter c_letterAt c_number c_taped c_at c_statements c_kept c_hasImage c_isKeeping c_cursor c_poled c_barred c_leapsTo c_leapsThen c_lands c_row c_rowMany c_endsAt q27 e27) (cwV 3 hts gX4_heaviest_X4_soonestFrom rfl rfl rfl (by decide +kernel) ⟨Nat.le_of_ble_eq_true rfl, Nat.le_of_ble_eq_true rfl⟩) (va_recv hK hP (ci := 4) (q0 := 0) rfl rfl) (As := [.int x16_2, .int p1, .int (R_minute c_r)]) (rest := []) rfl hl.1 rfl (Nat.le_of_ble_eq_true rfl) dX4_heaviest_27 ⟨Nat.zero_le _, Nat.zero_le _⟩ (fun H locs hP hS => ?_)
        refine lv_if_ge (tgt := 39) hx hb dX4_heaviest_30 (by decide) (fun c30 => ?_) (fun c30 => ?_)
        · have h := itT c30 h
          exact kx16 _ h _ _ _ hP hD hS (lv_sub hl [2] rfl)
        have h := itF c30 h
        refine lv_iinc (v := (x16_2 + (-1 : Int32))) (lv' := [(2, .int (x16_2 + (-1 : Int32))), (0, .ref (f 0)), (1, .int p1)]) hx hb dX4_heaviest_33 hl (k := 2) rfl rfl (by decide) rfl (fun ls hl => ?_)
        refine lv_goto (tgt := 16) hx hb dX4_heaviest_36 (by decide) ?_
        exact ih16 _ h _ _ _ hP hD hS (lv_sub hl [1, 2, 0] rfl)
    refine L16 _ (fun k16_2 h H locs ls hP hD hS hl => ?_) _ _ h _ _ _ hP hD hS (lv_sub hl [1, 2, 0] rfl)
    refine lv_iload_n hx hb dX4_heaviest_39 rfl (lv_at hl 0 rfl) ?_
    subst hQ
    exact retRW (zz := ((k16_2, c_refused) : Int32 × AR)) (fun z => z.1) (fun z => (zwM cI cC f c_r z.2 c_tape c_letter c_letterAt c_number c_taped c_at c_statements c_kept c_hasImage c_isKeeping c_cursor c_poled c_barred c_leapsTo c_leapsThen c_lands c_row c_rowMany c_endsAt)) hx hb hr hlocks rfl hS h rfl hP dX4_heaviest_40
  have h := itT c4 h
  refine lv_aload_n hx hb dX4_heaviest_7 rfl (lv_at hl 0 rfl) ?_
  refine lv_iconst (v := (-1 : Int32)) hx hb dX4_heaviest_8 (by decide) ?_
  obtain ⟨q9, e9, h⟩ := bd_some h
  refine g_rwA (wc := (zwM cI cC f c_r c_refused c_tape c_letter c_letterAt c_number c_taped c_at c_statements c_kept c_hasImage c_isKeeping c_cursor c_poled c_barred c_leapsTo c_leapsThen c_lands c_row c_rowMany c_endsAt)) (wc' := (zwM cI cC f c_r q9.2 c_tape c_letter c_letterAt c_number c_taped c_at c_statements c_kept c_hasImage c_isKeeping c_cursor c_poled c_barred c_leapsTo c_leapsThen c_lands c_row c_rowMany c_endsAt)) ⟨hx, hb, hml, hown, hts⟩ hE hK hA hP hD hS rfl (mX4_no l dC dI cI cC sk f H.size (-1 : Int32) c_r c_refused c_tape c_letter c_letterAt c_number c_taped c_at c_statements c_kept c_hasImage c_isKeeping c_cursor c_poled c_barred c_leapsTo c_leapsThen c_lands c_row c_rowMany c_endsAt q9 e9) (cwV 1 hts gX4_heaviest_X4_no rfl rfl rfl (by decide +kernel) ⟨Nat.le_of_ble_eq_true rfl, Nat.le_of_ble_eq_true rfl⟩) (va_recv hK hP (ci := 4) (q0 := 0) rfl rfl) (As := [.int (-1 : Int32)]) (rest := []) rfl hl.1 rfl (Nat.le_of_ble_eq_true rfl) dX4_heaviest_9 ⟨Nat.zero_le _, Nat.zero_le _⟩ (fun H locs hP hD hS => ?_)
  have hP : va_P (dC, dI) vwCl (zwM cI cC f c_r q9.2 c_tape c_letter c_letterAt c_number c_taped c_at c_statements c_kept c_hasImage c_isKeeping c_cursor c_poled c_barred c_leapsTo c_leapsThen c_lands c_row c_rowMany c_endsAt) H := hP
  have hD : va_D A (zwM cI cC f c_r q9.2 c_tape c_letter c_letterAt c_number c_taped c_at c_statements c_kept c_hasImage c_isKeeping c_cursor c_poled c_barred c_leapsTo c_leapsThen c_lands c_row c_rowMany c_endsAt) := hD
  subst hQ
  exact retRW (zz := ((q9.1, q9.2) : Int32 × AR)) (fun z => z.1) (fun z => (zwM cI cC f c_r z.2 c_tape c_letter c_letterAt c_number c_taped c_at c_statements c_kept c_hasImage c_isKeeping c_cursor c_poled c_barred c_leapsTo c_leapsThen c_lands c_row c_rowMany c_endsAt)) hx hb hr hlocks rfl hS h rfl hP dX4_heaviest_12
