theorem dX4_from_0 : decode cX4_from 0 = .ok (.iload_n 1, 1) := by decide +kernel
theorem dX4_from_1 : decode cX4_from 1 = .ok (.iconst 1, 1) := by decide +kernel
theorem dX4_from_2 : decode cX4_from 2 = .ok (.bipush 9, 2) := by decide +kernel
theorem dX4_from_4 : decode cX4_from 4 = .ok (.invokestatic 66, 3) := by decide +kernel
theorem dX4_from_7 : decode cX4_from 7 = .ok (.istore_n 2, 1) := by decide +kernel
theorem dX4_from_8 : decode cX4_from 8 = .ok (.iload_n 2, 1) := by decide +kernel
theorem dX4_from_9 : decode cX4_from 9 = .ok (.ifCond .eq 9, 3) := by decide +kernel
theorem dX4_from_12 : decode cX4_from 12 = .ok (.aload_n 0, 1) := by decide +kernel
theorem dX4_from_13 : decode cX4_from 13 = .ok (.iload_n 2, 1) := by decide +kernel
theorem dX4_from_14 : decode cX4_from 14 = .ok (.invokevirtual 73, 3) := by decide +kernel
theorem dX4_from_17 : decode cX4_from 17 = .ok (.ireturn, 1) := by decide +kernel
theorem dX4_from_18 : decode cX4_from 18 = .ok (.iconst 0, 1) := by decide +kernel
theorem dX4_from_19 : decode cX4_from 19 = .ok (.istore_n 3, 1) := by decide +kernel
theorem dX4_from_20 : decode cX4_from 20 = .ok (.iconst 0, 1) := by decide +kernel
theorem dX4_from_21 : decode cX4_from 21 = .ok (.istore 4, 2) := by decide +kernel
theorem dX4_from_23 : decode cX4_from 23 = .ok (.iload 4, 2) := by decide +kernel
theorem dX4_from_25 : decode cX4_from 25 = .ok (.bipush 10, 2) := by decide +kernel
theorem dX4_from_27 : decode cX4_from 27 = .ok (.if_icmp .ge 34, 3) := by decide +kernel
theorem dX4_from_30 : decode cX4_from 30 = .ok (.iload_n 3, 1) := by decide +kernel
theorem dX4_from_31 : decode cX4_from 31 = .ok (.aload_n 0, 1) := by decide +kernel
theorem dX4_from_32 : decode cX4_from 32 = .ok (.iload_n 1, 1) := by decide +kernel
theorem dX4_from_33 : decode cX4_from 33 = .ok (.iload 4, 2) := by decide +kernel
theorem dX4_from_35 : decode cX4_from 35 = .ok (.aload_n 0, 1) := by decide +kernel
theorem dX4_from_36 : decode cX4_from 36 = .ok (.getfield 101, 3) := by decide +kernel
theorem dX4_from_39 : decode cX4_from 39 = .ok (.invokevirtual 179, 3) := by decide +kernel
theorem dX4_from_42 : decode cX4_from 42 = .ok (.ifCond .lt 10, 3) := by decide +kernel
theorem dX4_from_45 : decode cX4_from 45 = .ok (.iconst 1, 1) := by decide +kernel
theorem dX4_from_46 : decode cX4_from 46 = .ok (.iload 4, 2) := by decide +kernel
theorem dX4_from_48 : decode cX4_from 48 = .ok (.ishl, 1) := by decide +kernel
theorem dX4_from_49 : decode cX4_from 49 = .ok (.goto 4, 3) := by decide +kernel
theorem dX4_from_52 : decode cX4_from 52 = .ok (.iconst 0, 1) := by decide +kernel
theorem dX4_from_53 : decode cX4_from 53 = .ok (.ior, 1) := by decide +kernel
theorem dX4_from_54 : decode cX4_from 54 = .ok (.istore_n 3, 1) := by decide +kernel
theorem dX4_from_55 : decode cX4_from 55 = .ok (.iinc 4 1, 3) := by decide +kernel
theorem dX4_from_58 : decode cX4_from 58 = .ok (.goto (-35), 3) := by decide +kernel
theorem dX4_from_61 : decode cX4_from 61 = .ok (.iload_n 3, 1) := by decide +kernel
theorem dX4_from_62 : decode cX4_from 62 = .ok (.ireturn, 1) := by decide +kernel
set_option maxRecDepth 20000 in
theorem ggX4_from_X4_bound : GoodIn wsX4_from wsX4_bound := goodIn_r _ [5] (by decide +kernel) (by decide +kernel)
set_option maxRecDepth 20000 in
theorem gX4_from_X4_bound : GoodIn wsX4_from (va_wsS RX4 66 yX4_bound wsX4_bound) := goodIn_app (goodIn_of _ (by decide +kernel)) ggX4_from_X4_bound
set_option maxRecDepth 20000 in
theorem ggX4_from_X4_no : GoodIn wsX4_from wsX4_no := goodIn_r _ [9, 10, 64, 65, 66, 67, 68, 69, 70, 71, 72, 73, 74, 75, 76, 77, 78, 79, 80, 81, 82, 83, 84, 85, 86, 87, 88, 89, 90, 91] (by decide +kernel) (by decide +kernel)
set_option maxRecDepth 20000 in
theorem gX4_from_X4_no : GoodIn wsX4_from (wsV RX4 73 RX4 yX4_no wsX4_no) := goodIn_app (goodIn_of _ (by decide +kernel)) ggX4_from_X4_no
set_option maxRecDepth 20000 in
theorem ggX4_from_X4_soonestFrom : GoodIn wsX4_from wsX4_soonestFrom := goodIn_r _ [14, 15, 16, 17, 4, 18, 19, 20, 21, 22, 23, 24, 25, 26, 27, 28, 29, 30, 31, 32, 33, 34, 35, 36, 37, 38, 39, 40, 41, 42, 43, 44, 45, 46, 47, 48, 49, 50, 51, 52, 53, 54, 1, 55, 56, 57, 58, 59, 60, 61, 62, 63, 64, 65, 66, 67, 68, 69, 70, 71, 72, 73, 74, 75, 76, 77, 78, 79, 80, 81, 82, 83, 84, 85, 86, 87, 88, 89, 90, 91] (by decide +kernel) (by decide +kernel)
set_option maxRecDepth 20000 in
theorem gX4_from_X4_soonestFrom : GoodIn wsX4_from (wsV RX4 179 RX4 yX4_soonestFrom wsX4_soonestFrom) := goodIn_app (goodIn_of _ (by decide +kernel)) ggX4_from_X4_soonestFrom
set_option maxHeartbeats 4000000 in
set_option maxRecDepth 100000 in
theorem mX4_from (l : Launch) (dC : Nat → ClassId) (dI : Nat → Nat → Nat) (cI cC : ClassId) (sk : (Nat → Nat) × (Nat → Nat)) (f : Nat → Nat) (sz : Nat) (p1 : Int32) (c_r : RT) (c_refused : AR) (c_tape : AR) (c_letter : AR) (c_letterAt : AR) (c_number : AR) (c_taped : Int32) (c_at : Int32) (c_statements : Int32) (c_kept : AR) (c_hasImage : Int32) (c_isKeeping : Int32) (c_cursor : Int32) (c_poled : Int32) (c_barred : Int32) (c_leapsTo : AR) (c_leapsThen : AR) (c_lands : AR) (c_row : AR) (c_rowMany : Int32) (c_endsAt : Int32) (z : Int32 × AR) (h : fX4_from p1 c_r c_refused c_poled c_barred = some z) : cRW l yX4_from wsX4_from (RMk 6 143) sk (dC, dI) (tyz cI cC) sz (zwM cI cC f c_r c_refused c_tape c_letter c_letterAt c_number c_taped c_at c_statements c_kept c_hasImage c_isKeeping c_cursor c_poled c_barred c_leapsTo c_leapsThen c_lands c_row c_rowMany c_endsAt) (zwM cI cC f c_r z.2 c_tape c_letter c_letterAt c_number c_taped c_at c_statements c_kept c_hasImage c_isKeeping c_cursor c_poled c_barred c_leapsTo c_leapsThen c_lands c_row c_rowMany c_endsAt) [.ref (f 0), .int p1] z.1 := by
  refine ofRW (cc := cX4_from) (maxL := 5) (ret := (some .int)) (own := RX4) (plainFor_of_name (by decide)) rfl rfl (Nat.le_of_ble_eq_true rfl) ?_
  intro p e s m args below meth c A hA hx hb hml hr hts hown hlocks hE hK hP hD hS ls hl
  generalize hQ : qRW _ _ _ _ _ _ _ = Q
  have hl : lv_has ls 5 [(0, .ref (f 0)), (1, .int p1)] := hl
  have hiX4 : ∀ w ∈ wsX40, w ∈ wsX4_from := fun w h => List.mem_cons_of_mem _ (List.mem_append_right _ h)
  have hw1 := hts (Cond.fieldLink RX4 101 "FloeToFloeModel" "minute" "I") (List.mem_of_getElem? (i := 1) rfl)
  rw [fX4_from] at h
  refine lv_iload_n hx hb dX4_from_0 rfl (lv_at hl 1 rfl) ?_
  refine lv_iconst (v := (1 : Int32)) hx hb dX4_from_1 (by decide) ?_
  refine lv_bipush (v := (9 : Int32)) hx hb dX4_from_2 (by decide) ?_
  obtain ⟨q4, e4, h⟩ := bd_some h
  refine g_roS (wc := ([] : va_W)) ⟨hx, hb, hml, hown, hts⟩ hE hK hP hS [] rfl (mX4_bound l dC dI cI cC sk  p1 (1 : Int32) (9 : Int32) q4 e4) (va_cwS 3 hts gX4_from_X4_bound rfl rfl rfl (by decide +kernel) ⟨Nat.le_of_ble_eq_true rfl, Nat.le_of_ble_eq_true rfl⟩) (As := [.int p1, .int (1 : Int32), .int (9 : Int32)]) (rest := []) rfl hl.1 rfl (Nat.le_of_ble_eq_true rfl) dX4_from_4 ⟨Nat.zero_le _, Nat.zero_le _⟩ (fun H locs hP hS => ?_)
  refine lv_istore_n (lv' := [(2, .int q4), (0, .ref (f 0)), (1, .int p1)]) hx hb dX4_from_7 rfl hl (by decide) rfl (fun ls hl => ?_)
  refine lv_iload_n hx hb dX4_from_8 rfl (lv_at hl 0 rfl) ?_
  refine lv_if_eq (tgt := 18) hx hb dX4_from_9 (by decide) (fun c9 => ?_) (fun c9 => ?_)
  · have h := itT c9 h
    refine lv_iconst (v := (0 : Int32)) hx hb dX4_from_18 (by decide) ?_
    refine lv_istore_n (lv' := [(3, .int (0 : Int32)), (2, .int q4), (0, .ref (f 0)), (1, .int p1)]) hx hb dX4_from_19 rfl hl (by decide) rfl (fun ls hl => ?_)
    refine lv_iconst (v := (0 : Int32)) hx hb dX4_from_20 (by decide) ?_
    refine lv_istore (lv' := [(4, .int (0 : Int32)), (3, .int (0 : Int32)), (2, .int q4), (0, .ref (f 0)), (1, .int p1)]) hx hb dX4_from_21 hl (by decide) rfl (fun ls hl => ?_)
    have L23 : ∀ (K23 : Int32 → Option (Int32 × AR)), (∀ (k23_3 : Int32), K23 k23_3 = some z → ∀ (H : Heap) (locs : List Loc) (ls : Array Slot), va_P (dC, dI) vwCl (zwM cI cC f c_r c_refused c_tape c_letter c_letterAt c_number c_taped c_at c_statements c_kept c_hasImage c_isKeeping c_cursor c_poled c_barred c_leapsTo c_leapsThen c_lands c_row c_rowMany c_endsAt) H → va_D A (zwM cI cC f c_r c_refused c_tape c_letter c_letterAt c_number c_taped c_at c_statements c_kept c_hasImage c_isKeeping c_cursor c_poled c_barred c_leapsTo c_leapsThen c_lands c_row c_rowMany c_endsAt) → va_S A s.heap H locs → lv_has ls 5 [(3, .int k23_3)] → W p l e (RMk 6 143) s m args below meth c H locs 0 0 Q (F0 m 61 ls [])) → ∀ (n : Nat) (x23_3 : Int32) (x23_4 : Int32), fX4_from_L23 c_barred c_poled c_r p1 K23 n x23_3 x23_4 = some z → ∀ (H : Heap) (locs : List Loc) (ls : Array Slot), va_P (dC, dI) vwCl (zwM cI cC f c_r c_refused c_tape c_letter c_letterAt c_number c_taped c_at c_statements c_kept c_hasImage c_isKeeping c_cursor c_poled c_barred c_leapsTo c_leapsThen c_lands c_row c_rowMany c_endsAt) H → va_D A (zwM cI cC f c_r c_refused c_tape c_letter c_letterAt c_number c_taped c_at c_statements c_kept c_hasImage c_isKeeping c_cursor c_poled c_barred c_leapsTo c_leapsThen c_lands c_row c_rowMany c_endsAt) → va_S A s.heap H locs → lv_has ls 5 [(0, .ref (f 0)), (1, .int p1), (3, .int x23_3), (4, .int x23_4)] → W p l e (RMk 6 143) s m args below meth c H locs 0 0 Q (F0 m 23 ls []) := by
      intro K23 kx23 n
      induction n with
      | zero => intro x23_3 x23_4 h; rw [fX4_from_L23] at h; cases h
      | succ n ih23 =>
        intro x23_3 x23_4 h H locs ls hP hD hS hl
        rw [fX4_from_L23] at h
        refine lv_iload hx hb dX4_from_23 (lv_at hl 3 rfl) ?_
        refine lv_bipush (v := (10 : Int32)) hx hb dX4_from_25 (by decide) ?_
        refine lv_icmp_ge (tgt := 61) hx hb dX4_from_27 (by decide) (fun c27 => ?_) (fun c27 => ?_)
        · have h := itT c27 h
          exact kx23 _ h _ _ _ hP hD hS (lv_sub hl [2] rfl)
        have h := itF c27 h
        refine lv_iload_n hx hb dX4_from_30 rfl (lv_at hl 2 rfl) ?_
        refine lv_aload_n hx hb dX4_from_31 rfl (lv_at hl 0 rfl) ?_
        refine lv_iload_n hx hb dX4_from_32 rfl (lv_at hl 1 rfl) ?_
        refine lv_iload hx hb dX4_from_33 (lv_at hl 3 rfl) ?_
        refine lv_aload_n hx hb dX4_from_35 rfl (lv_at hl 0 rfl) ?_
        refine va_get (D := (dC, dI)) (ci := 4) (v := .int (R_minute c_r)) (C := RX4) (T := TX4) (N := 28) hx hb hts hiX4 hown hK hP 0 rfl rfl 8 (by decide) hw1 (fun _ h9 => h9) rfl dX4_from_36 ?_
        obtain ⟨q39, e39, h⟩ := bd_some h
        refine g_roV (wc := (zwM cI cC f c_r c_refused c_tape c_letter c_letterAt c_number c_taped c_at c_statements c_kept c_hasImage c_isKeeping c_cursor c_poled c_barred c_leapsTo c_leapsThen c_lands c_row c_rowMany c_endsAt)) ⟨hx, hb, hml, hown, hts⟩ hE hK hP hS [0, 1, 2, 3, 4, 5, 6, 7, 8, 9, 10, 11, 12, 13, 14, 15] rfl (mX4_soonestFrom l dC dI cI cC sk f p1 x23_4 (R_minute c_r) c_r c_refused c_tape c_letter c_letterAt c_number c_taped c_at c_statements c_kept c_hasImage c_isKeeping c_cursor c_poled c_barred c_leapsTo c_leapsThen c_lands c_row c_rowMany c_endsAt q39 e39) (cwV 3 hts gX4_from_X4_soonestFrom rfl rfl rfl (by decide +kernel) ⟨Nat.le_of_ble_eq_true rfl, Nat.le_of_ble_eq_true rfl⟩) (va_recv hK hP (ci := 4) (q0 := 0) rfl rfl) (As := [.int p1, .int x23_4, .int (R_minute c_r)]) (rest := [.int x23_3]) rfl hl.1 rfl (Nat.le_of_ble_eq_true rfl) dX4_from_39 ⟨Nat.zero_le _, Nat.zero_le _⟩ (fun H locs hP hS => ?_)
        refine lv_if_lt (tgt := 52) hx hb dX4_from_42 (by decide) (fun c42 => ?_) (fun c42 => ?_)
        · have h := itT c42 h
          refine lv_iconst (v := (0 : Int32)) hx hb dX4_from_52 (by decide) ?_
          refine lv_ior hx hb dX4_from_53 ?_
          refine lv_istore_n (lv' := [(3, .int (x23_3 ||| (0 : Int32))), (0, .ref (f 0)), (1, .int p1), (4, .int x23_4)]) hx hb dX4_from_54 rfl hl (by decide) rfl (fun ls hl => ?_)
          refine lv_iinc (v := (x23_4 + (1 : Int32))) (lv' := [(4, .int (x23_4 + (1 : Int32))), (3, .int (x23_3 ||| (0 : Int32))), (0, .ref (f 0)), (1, .int p1)]) hx hb dX4_from_55 hl (k := 3) rfl rfl (by decide) rfl (fun ls hl => ?_)
          refine lv_goto (tgt := 23) hx hb dX4_from_58 (by decide) ?_
          exact ih23 _ _ h _ _ _ hP hD hS (lv_sub hl [2, 3, 1, 0] rfl)
        have h := itF c42 h
        refine lv_iconst (v := (1 : Int32)) hx hb dX4_from_45 (by decide) ?_
        refine lv_iload hx hb dX4_from_46 (lv_at hl 3 rfl) ?_
        refine lv_ishl hx hb dX4_from_48 ?_
        refine lv_goto (tgt := 53) hx hb dX4_from_49 (by decide) ?_
        refine lv_ior hx hb dX4_from_53 ?_
        refine lv_istore_n (lv' := [(3, .int (x23_3 ||| ((1 : Int32) <<< (x23_4 &&& 31)))), (0, .ref (f 0)), (1, .int p1), (4, .int x23_4)]) hx hb dX4_from_54 rfl hl (by decide) rfl (fun ls hl => ?_)
        refine lv_iinc (v := (x23_4 + (1 : Int32))) (lv' := [(4, .int (x23_4 + (1 : Int32))), (3, .int (x23_3 ||| ((1 : Int32) <<< (x23_4 &&& 31)))), (0, .ref (f 0)), (1, .int p1)]) hx hb dX4_from_55 hl (k := 3) rfl rfl (by decide) rfl (fun ls hl => ?_)
        refine lv_goto (tgt := 23) hx hb dX4_from_58 (by decide) ?_
        exact ih23 _ _ h _ _ _ hP hD hS (lv_sub hl [2, 3, 1, 0] rfl)
    refine L23 _ (fun k23_3 h H locs ls hP hD hS hl => ?_) _ _ _ h _ _ _ hP hD hS (lv_sub hl [3, 4, 1, 0] rfl)
    refine lv_iload_n hx hb dX4_from_61 rfl (lv_at hl 0 rfl) ?_
    subst hQ
    exact retRW (zz := ((k23_3, c_refused) : Int32 × AR)) (fun z => z.1) (fun z => (zwM cI cC f c_r z.2 c_tape c_letter c_letterAt c_number c_taped c_at c_statements c_kept c_hasImage c_isKeeping c_cursor c_poled c_barred c_leapsTo c_leapsThen c_lands c_row c_rowMany c_endsAt)) hx hb hr hlocks rfl hS h rfl hP dX4_from_62
  have h := itF c9 h
  refine lv_aload_n hx hb dX4_from_12 rfl (lv_at hl 1 rfl) ?_
  refine lv_iload_n hx hb dX4_from_13 rfl (lv_at hl 0 rfl) ?_
  obtain ⟨q14, e14, h⟩ := bd_some h
  refine g_rwA (wc := (zwM cI cC f c_r c_refused c_tape c_letter c_letterAt c_number c_taped c_at c_statements c_kept c_hasImage c_isKeeping c_cursor c_poled c_barred c_leapsTo c_leapsThen c_lands c_row c_rowMany c_endsAt)) (wc' := (zwM cI cC f c_r q14.2 c_tape c_letter c_letterAt c_number c_taped c_at c_statements c_kept c_hasImage c_isKeeping c_cursor c_poled c_barred c_leapsTo c_leapsThen c_lands c_row c_rowMany c_endsAt)) ⟨hx, hb, hml, hown, hts⟩ hE hK hA hP hD hS rfl (mX4_no l dC dI cI cC sk f H.size q4 c_r c_refused c_tape c_letter c_letterAt c_number c_taped c_at c_statements c_kept c_hasImage c_isKeeping c_cursor c_poled c_barred c_leapsTo c_leapsThen c_lands c_row c_rowMany c_endsAt q14 e14) (cwV 1 hts gX4_from_X4_no rfl rfl rfl (by decide +kernel) ⟨Nat.le_of_ble_eq_true rfl, Nat.le_of_ble_eq_true rfl⟩) (va_recv hK hP (ci := 4) (q0 := 0) rfl rfl) (As := [.int q4]) (rest := []) rfl hl.1 rfl (Nat.le_of_ble_eq_true rfl) dX4_from_14 ⟨Nat.zero_le _, Nat.zero_le _⟩ (fun H locs hP hD hS => ?_)
  have hP : va_P (dC, dI) vwCl (zwM cI cC f c_r q14.2 c_tape c_letter c_letterAt c_number c_taped c_at c_statements c_kept c_hasImage c_isKeeping c_cursor c_poled c_barred c_leapsTo c_leapsThen c_lands c_row c_rowMany c_endsAt) H := hP
  have hD : va_D A (zwM cI cC f c_r q14.2 c_tape c_letter c_letterAt c_number c_taped c_at c_statements c_kept c_hasImage c_isKeeping c_cursor c_poled c_barred c_leapsTo c_leapsThen c_lands c_row c_rowMany c_endsAt) := hD
  subst hQ
  exact retRW (zz := ((q14.1, q14.2) : Int32 × AR)) (fun z => z.1) (fun z => (zwM cI cC f c_r z.2 c_tape c_letter c_letterAt c_number c_taped c_at c_statements c_kept c_hasImage c_isKeeping c_cursor c_poled c_barred c_leapsTo c_leapsThen c_lands c_row c_rowMany c_endsAt)) hx hb hr hlocks rfl hS h rfl hP dX4_from_17
