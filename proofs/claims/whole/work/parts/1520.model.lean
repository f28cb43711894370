theorem dX4_next_0 : decode cX4_next 0 = .ok (.aload_n 0, 1) := by decide +kernel
theorem dX4_next_1 : decode cX4_next 1 = .ok (.iload_n 1, 1) := by decide +kernel
theorem dX4_next_2 : decode cX4_next 2 = .ok (.invokevirtual 141, 3) := by decide +kernel
theorem dX4_next_5 : decode cX4_next 5 = .ok (.ifCond .ne 9, 3) := by decide +kernel
theorem dX4_next_8 : decode cX4_next 8 = .ok (.aload_n 0, 1) := by decide +kernel
theorem dX4_next_9 : decode cX4_next 9 = .ok (.iconst (-1), 1) := by decide +kernel
theorem dX4_next_10 : decode cX4_next 10 = .ok (.invokevirtual 73, 3) := by decide +kernel
theorem dX4_next_13 : decode cX4_next 13 = .ok (.ireturn, 1) := by decide +kernel
theorem dX4_next_14 : decode cX4_next 14 = .ok (.iconst 0, 1) := by decide +kernel
theorem dX4_next_15 : decode cX4_next 15 = .ok (.istore_n 2, 1) := by decide +kernel
theorem dX4_next_16 : decode cX4_next 16 = .ok (.iconst 0, 1) := by decide +kernel
theorem dX4_next_17 : decode cX4_next 17 = .ok (.istore_n 3, 1) := by decide +kernel
theorem dX4_next_18 : decode cX4_next 18 = .ok (.iload_n 3, 1) := by decide +kernel
theorem dX4_next_19 : decode cX4_next 19 = .ok (.aload_n 0, 1) := by decide +kernel
theorem dX4_next_20 : decode cX4_next 20 = .ok (.getfield 59, 3) := by decide +kernel
theorem dX4_next_23 : decode cX4_next 23 = .ok (.if_icmp .ge 32, 3) := by decide +kernel
theorem dX4_next_26 : decode cX4_next 26 = .ok (.iload_n 2, 1) := by decide +kernel
theorem dX4_next_27 : decode cX4_next 27 = .ok (.aload_n 0, 1) := by decide +kernel
theorem dX4_next_28 : decode cX4_next 28 = .ok (.iload_n 1, 1) := by decide +kernel
theorem dX4_next_29 : decode cX4_next 29 = .ok (.iload_n 3, 1) := by decide +kernel
theorem dX4_next_30 : decode cX4_next 30 = .ok (.aload_n 0, 1) := by decide +kernel
theorem dX4_next_31 : decode cX4_next 31 = .ok (.getfield 101, 3) := by decide +kernel
theorem dX4_next_34 : decode cX4_next 34 = .ok (.invokevirtual 154, 3) := by decide +kernel
theorem dX4_next_37 : decode cX4_next 37 = .ok (.ifCond .eq 9, 3) := by decide +kernel
theorem dX4_next_40 : decode cX4_next 40 = .ok (.iconst 1, 1) := by decide +kernel
theorem dX4_next_41 : decode cX4_next 41 = .ok (.iload_n 3, 1) := by decide +kernel
theorem dX4_next_42 : decode cX4_next 42 = .ok (.ishl, 1) := by decide +kernel
theorem dX4_next_43 : decode cX4_next 43 = .ok (.goto 4, 3) := by decide +kernel
theorem dX4_next_46 : decode cX4_next 46 = .ok (.iconst 0, 1) := by decide +kernel
theorem dX4_next_47 : decode cX4_next 47 = .ok (.ior, 1) := by decide +kernel
theorem dX4_next_48 : decode cX4_next 48 = .ok (.istore_n 2, 1) := by decide +kernel
theorem dX4_next_49 : decode cX4_next 49 = .ok (.iinc 3 1, 3) := by decide +kernel
theorem dX4_next_52 : decode cX4_next 52 = .ok (.goto (-34), 3) := by decide +kernel
theorem dX4_next_55 : decode cX4_next 55 = .ok (.iload_n 2, 1) := by decide +kernel
theorem dX4_next_56 : decode cX4_next 56 = .ok (.ireturn, 1) := by decide +kernel
set_option maxRecDepth 20000 in
theorem ggX4_next_X4_isFloe : GoodIn wsX4_next wsX4_isFloe := goodIn_r _ [7, 1, 35, 36, 37, 38, 39, 40, 41, 42, 43, 44, 45, 46, 47, 48, 49, 50, 51, 52, 53, 54, 55, 56, 57, 58, 59, 60, 61, 62] (by decide +kernel) (by decide +kernel)
set_option maxRecDepth 20000 in
theorem gX4_next_X4_isFloe : GoodIn wsX4_next (wsV RX4 141 RX4 yX4_isFloe wsX4_isFloe) := goodIn_app (goodIn_of _ (by decide +kernel)) ggX4_next_X4_isFloe
set_option maxRecDepth 20000 in
theorem ggX4_next_X4_no : GoodIn wsX4_next wsX4_no := goodIn_r _ [11, 12, 35, 36, 37, 38, 39, 40, 41, 42, 43, 44, 45, 46, 47, 48, 49, 50, 51, 52, 53, 54, 55, 56, 57, 58, 59, 60, 61, 62] (by decide +kernel) (by decide +kernel)
set_option maxRecDepth 20000 in
theorem gX4_next_X4_no : GoodIn wsX4_next (wsV RX4 73 RX4 yX4_no wsX4_no) := goodIn_app (goodIn_of _ (by decide +kernel)) ggX4_next_X4_no
set_option maxRecDepth 20000 in
theorem ggX4_next_X4_canLeap : GoodIn wsX4_next wsX4_canLeap := goodIn_r _ [16, 17, 18, 19, 20, 6, 21, 22, 2, 23, 24, 25, 26, 27, 28, 29, 30, 31, 32, 33, 34, 35, 36, 37, 38, 39, 40, 41, 42, 43, 44, 45, 46, 47, 48, 49, 50, 51, 52, 53, 54, 55, 56, 57, 58, 59, 60, 61, 62] (by decide +kernel) (by decide +kernel)
set_option maxRecDepth 20000 in
theorem gX4_next_X4_canLeap : GoodIn wsX4_next (wsV RX4 154 RX4 yX4_canLeap wsX4_canLeap) := goodIn_app (goodIn_of _ (by decide +kernel)) ggX4_next_X4_canLeap
set_option maxHeartbeats 4000000 in
set_option maxRecDepth 100000 in
theorem mX4_next (l : Launch) (dC : Nat → ClassId) (dI : Nat → Nat → Nat) (cI cC : ClassId) (sk : (Nat → Nat) × (Nat → Nat)) (f : Nat → Nat) (sz : Nat) (p1 : Int32) (c_r : RT) (c_refused : AR) (c_tape : AR) (c_letter : AR) (c_letterAt : AR) (c_number : AR) (c_taped : Int32) (c_at : Int32) (c_statements : Int32) (c_kept : AR) (c_hasImage : Int32) (c_isKeeping : Int32) (c_cursor : Int32) (c_poled : Int32) (c_barred : Int32) (c_leapsTo : AR) (c_leapsThen : AR) (c_lands : AR) (c_row : AR) (c_rowMany : Int32) (c_endsAt : Int32) (z : Int32 × AR) (h : fX4_next p1 c_r c_refused c_poled = some z) : cRW l yX4_next wsX4_next (RMk 3 67) sk (dC, dI) (tyz cI cC) sz (zwM cI cC f c_r c_refused c_tape c_letter c_letterAt c_number c_taped c_at c_statements c_kept c_hasImage c_isKeeping c_cursor c_poled c_barred c_leapsTo c_leapsThen c_lands c_row c_rowMany c_endsAt) (zwM cI cC f c_r z.2 c_tape c_letter c_letterAt c_number c_taped c_at c_statements c_kept c_hasImage c_isKeeping c_cursor c_poled c_barred c_leapsTo c_leapsThen c_lands c_row c_rowMany c_endsAt) [.ref (f 0), .int p1] z.1 := by
  refine ofRW (cc := cX4_next) (maxL := 4) (ret := (some .int)) (own := RX4) (plainFor_of_name (by decide)) rfl rfl (Nat.le_of_ble_eq_true rfl) ?_
  intro p e s m args below meth c A hA hx hb hml hr hts hown hlocks hE hK hP hD hS ls hl
  generalize hQ : qRW _ _ _ _ _ _ _ = Q
  have hl : lv_has ls 4 [(0, .ref (f 0)), (1, .int p1)] := hl
  have hiX4 : ∀ w ∈ wsX40, w ∈ wsX4_next := fun w h => List.mem_cons_of_mem _ (List.mem_append_right _ h)
  have hw1 := hts (Cond.fieldLink RX4 59 "FloeToFloeModel" "floes" "I") (List.mem_of_getElem? (i := 1) rfl)
  have hw2 := hts (Cond.fieldLink RX4 101 "FloeToFloeModel" "minute" "I") (List.mem_of_getElem? (i := 2) rfl)
  rw [fX4_next] at h
  refine lv_aload_n hx hb dX4_next_0 rfl (lv_at hl 0 rfl) ?_
  refine lv_iload_n hx hb dX4_next_1 rfl (lv_at hl 1 rfl) ?_
  obtain ⟨q2, e2, h⟩ := bd_some h
  refine g_roV (wc := (zwM cI cC f c_r c_refused c_tape c_letter c_letterAt c_number c_taped c_at c_statements c_kept c_hasImage c_isKeeping c_cursor c_poled c_barred c_leapsTo c_leapsThen c_lands c_row c_rowMany c_endsAt)) ⟨hx, hb, hml, hown, hts⟩ hE hK hP hS [0, 1, 2, 3, 4, 5, 6, 7, 8, 9, 10, 11, 12, 13, 14, 15] rfl (mX4_isFloe l dC dI cI cC sk f p1 c_r c_refused c_tape c_letter c_letterAt c_number c_taped c_at c_statements c_kept c_hasImage c_isKeeping c_cursor c_poled c_barred c_leapsTo c_leapsThen c_lands c_row c_rowMany c_endsAt q2 e2) (cwV 1 hts gX4_next_X4_isFloe rfl rfl rfl (by decide +kernel) ⟨Nat.le_of_ble_eq_true rfl, Nat.le_of_ble_eq_true rfl⟩) (va_recv hK hP (ci := 4) (q0 := 0) rfl rfl) (As := [.int p1]) (rest := []) rfl hl.1 rfl (Nat.le_of_ble_eq_true rfl) dX4_next_2 ⟨Nat.zero_le _, Nat.zero_le _⟩ (fun H locs hP hS => ?_)
  refine lv_if_ne (tgt := 14) hx hb dX4_next_5 (by decide) (fun c5 => ?_) (fun c5 => ?_)
  · have h := itF c5 h
    refine lv_iconst (v := (0 : Int32)) hx hb dX4_next_14 (by decide) ?_
    refine lv_istore_n (lv' := [(2, .int (0 : Int32)), (0, .ref (f 0)), (1, .int p1)]) hx hb dX4_next_15 rfl hl (by decide) rfl (fun ls hl => ?_)
    refine lv_iconst (v := (0 : Int32)) hx hb dX4_next_16 (by decide) ?_
    refine lv_istore_n (lv' := [(3, .int (0 : Int32)), (2, .int (0 : Int32)), (0, .ref (f 0)), (1, .int p1)]) hx hb dX4_next_17 rfl hl (by decide) rfl (fun ls hl => ?_)
    have L18 : ∀ (K18 : Int32 → Option (Int32 × AR)), (∀ (k18_2 : Int32), K18 k18_2 = some z → ∀ (H : Heap) (locs : List Loc) (ls : Array Slot), va_P (dC, dI) vwCl (zwM cI cC f c_r c_refused c_tape c_letter c_letterAt c_number c_taped c_at c_statements c_kept c_hasImage c_isKeeping c_cursor c_poled c_barred c_leapsTo c_leapsThen c_lands c_row c_rowMany c_endsAt) H → va_D A (zwM cI cC f c_r c_refused c_tape c_letter c_letterAt c_number c_taped c_at c_statements c_kept c_hasImage c_isKeeping c_cursor c_poled c_barred c_leapsTo c_leapsThen c_lands c_row c_rowMany c_endsAt) → va_S A s.heap H locs → lv_has ls 4 [(2, .int k18_2)] → W p l e (RMk 3 67) s m args below meth c H locs 0 0 Q (F0 m 55 ls [])) → ∀ (n : Nat) (x18_2 : Int32) (x18_3 : Int32), fX4_next_L18 c_poled c_r p1 K18 n x18_2 x18_3 = some z → ∀ (H : Heap) (locs : List Loc) (ls : Array Slot), va_P (dC, dI) vwCl (zwM cI cC f c_r c_refused c_tape c_letter c_letterAt c_number c_taped c_at c_statements c_kept c_hasImage c_isKeeping c_cursor c_poled c_barred c_leapsTo c_leapsThen c_lands c_row c_rowMany c_endsAt) H → va_D A (zwM cI cC f c_r c_refused c_tape c_letter c_letterAt c_number c_taped c_at c_statements c_kept c_hasImage c_isKeeping c_cursor c_poled c_barred c_leapsTo c_leapsThen c_lands c_row c_rowMany c_endsAt) → va_S A s.heap H locs → lv_has ls 4 [(0, .ref (f 0)), (1, .int p1), (2, .int x18_2), (3, .int x18_3)] → W p l e (RMk 3 67) s m args below meth c H locs 0 0 Q (F0 m 18 ls []) := by
      intro K18 kx18 n
      induction n with
      | zero => intro x18_2 x18_3 h; rw [fX4_next_L18] at h; cases h
      | succ n ih18 =>
        intro x18_2 x18_3 h H locs ls hP hD hS hl
        rw [fX4_next_L18] at h
        refine lv_iload_n hx hb dX4_next_18 rfl (lv_at hl 3 rfl) ?_
        refine lv_aload_n hx hb dX4_next_19 rfl (lv_at hl 0 rfl) ?_
        refine va_get (D := (dC, dI)) (ci := 4) (v := .int (R_floes c_r)) (C := RX4) (T := TX4) (N := 28) hx hb hts hiX4 hown hK hP 0 rfl rfl 6 (by decide) hw1 (fun _ h9 => h9) rfl dX4_next_20 ?_
        refine lv_icmp_ge (tgt := 55) hx hb dX4_next_23 (by decide) (fun c23 => ?_) (fun c23 => ?_)
        · have h := itT c23 h
          exact kx18 _ h _ _ _ hP hD hS (lv_sub hl [2] rfl)
        have h := itF c23 h
        refine lv_iload_n hx hb dX4_next_26 rfl (lv_at hl 2 rfl) ?_
        refine lv_aload_n hx hb dX4_next_27 rfl (lv_at hl 0 rfl) ?_
        refine lv_iload_n hx hb dX4_next_28 rfl (lv_at hl 1 rfl) ?_
        refine lv_iload_n hx hb dX4_next_29 rfl (lv_at hl 3 rfl) ?_
        refine lv_aload_n hx hb dX4_next_30 rfl (lv_at hl 0 rfl) ?_
        refine va_get (D := (dC, dI)) (ci := 4) (v := .int (R_minute c_r)) (C := RX4) (T := TX4) (N := 28) hx hb hts hiX4 hown hK hP 0 rfl rfl 8 (by decide) hw2 (fun _ h9 => h9) rfl dX4_next_31 ?_
        obtain ⟨q34, e34, h⟩ := bd_some h
        refine g_roV (wc := (zwM cI cC f c_r c_refused c_tape c_letter c_letterAt c_number c_taped c_at c_statements c_kept c_hasImage c_isKeeping c_cursor c_poled c_barred c_leapsTo c_leapsThen c_lands c_row c_rowMany c_endsAt)) ⟨hx, hb, hml, hown, hts⟩ hE hK hP hS [0, 1, 2, 3, 4, 5, 6, 7, 8, 9, 10, 11, 12, 13, 14, 15] rfl (mX4_canLeap l dC dI cI cC sk f p1 x18_3 (R_minute c_r) c_r c_refused c_tape c_letter c_letterAt c_number c_taped c_at c_statements c_kept c_hasImage c_isKeeping c_cursor c_poled c_barred c_leapsTo c_leapsThen c_lands c_row c_rowMany c_endsAt q34 e34) (cwV 3 hts gX4_next_X4_canLeap rfl rfl rfl (by decide +kernel) ⟨Nat.le_of_ble_eq_true rfl, Nat.le_of_ble_eq_true rfl⟩) (va_recv hK hP (ci := 4) (q0 := 0) rfl rfl) (As := [.int p1, .int x18_3, .int (R_minute c_r)]) (rest := [.int x18_2]) rfl hl.1 rfl (Nat.le_of_ble_eq_true rfl) dX4_next_34 ⟨Nat.zero_le _, Nat.zero_le _⟩ (fun H locs hP hS => ?_)
        refine lv_if_eq (tgt := 46) hx hb dX4_next_37 (by decide) (fun c37 => ?_) (fun c37 => ?_)
        · have h := itT c37 h
          refine lv_iconst (v := (0 : Int32)) hx hb dX4_next_46 (by decide) ?_
          refine lv_ior hx hb dX4_next_47 ?_
          refine lv_istore_n (lv' := [(2, .int (x18_2 ||| (0 : Int32))), (0, .ref (f 0)), (1, .int p1), (3, .int x18_3)]) hx hb dX4_next_48 rfl hl (by decide) rfl (fun ls hl => ?_)
          refine lv_iinc (v := (x18_3 + (1 : Int32))) (lv' := [(3, .int (x18_3 + (1 : Int32))), (2, .int (x18_2 ||| (0 : Int32))), (0, .ref (f 0)), (1, .int p1)]) hx hb dX4_next_49 hl (k := 3) rfl rfl (by decide) rfl (fun ls hl => ?_)
          refine lv_goto (tgt := 18) hx hb dX4_next_52 (by decide) ?_
          exact ih18 _ _ h _ _ _ hP hD hS (lv_sub hl [2, 3, 1, 0] rfl)
        have h := itF c37 h
        refine lv_iconst (v := (1 : Int32)) hx hb dX4_next_40 (by decide) ?_
        refine lv_iload_n hx hb dX4_next_41 rfl (lv_at hl 3 rfl) ?_
        refine lv_ishl hx hb dX4_next_42 ?_
        refine lv_goto (tgt := 47) hx hb dX4_next_43 (by decide) ?_
        refine lv_ior hx hb dX4_next_47 ?_
        refine lv_istore_n (lv' := [(2, .int (x18_2 ||| ((1 : Int32) <<< (x18_3 &&& 31)))), (0, .ref (f 0)), (1, .int p1), (3, .int x18_3)]) hx hb dX4_next_48 rfl hl (by decide) rfl (fun ls hl => ?_)
        refine lv_iinc (v := (x18_3 + (1 : Int32))) (lv' := [(3, .int (x18_3 + (1 : Int32))), (2, .int (x18_2 ||| ((1 : Int32) <<< (x18_3 &&& 31)))), (0, .ref (f 0)), (1, .int p1)]) hx hb dX4_next_49 hl (k := 3) rfl rfl (by decide) rfl (fun ls hl => ?_)
        refine lv_goto (tgt := 18) hx hb dX4_next_52 (by decide) ?_
        exact ih18 _ _ h _ _ _ hP hD hS (lv_sub hl [2, 3, 1, 0] rfl)
    refine L18 _ (fun k18_2 h H locs ls hP hD hS hl => ?_) _ _ _ h _ _ _ hP hD hS (lv_sub hl [2, 3, 1, 0] rfl)
    refine lv_iload_n hx hb dX4_next_55 rfl (lv_at hl 0 rfl) ?_
    subst hQ
    exact retRW (zz := ((k18_2, c_refused) : Int32 × AR)) (fun z => z.1) (fun z => (zwM cI cC f c_r z.2 c_tape c_letter c_letterAt c_number c_taped c_at c_statements c_kept c_hasImage c_isKeeping c_cursor c_poled c_barred c_leapsTo c_leapsThen c_lands c_row c_rowMany c_endsAt)) hx hb hr hlocks rfl hS h rfl hP dX4_next_56
  have h := itT c5 h
  refine lv_aload_n hx hb dX4_next_8 rfl (lv_at hl 0 rfl) ?_
  refine lv_iconst (v := (-1 : Int32)) hx hb dX4_next_9 (by decide) ?_
  obtain ⟨q10, e10, h⟩ := bd_some h
  refine g_rwA (wc := (zwM cI cC f c_r c_refused c_tape c_letter c_letterAt c_number c_taped c_at c_statements c_kept c_hasImage c_isKeeping c_cursor c_poled c_barred c_leapsTo c_leapsThen c_lands c_row c_rowMany c_endsAt)) (wc' := (zwM cI cC f c_r q10.2 c_tape c_letter c_letterAt c_number c_taped c_at c_statements c_kept c_hasImage c_isKeeping c_cursor c_poled c_barred c_leapsTo c_leapsThen c_lands c_row c_rowMany c_endsAt)) ⟨hx, hb, hml, hown, hts⟩ hE hK hA hP hD hS rfl (mX4_no l dC dI cI cC sk f H.size (-1 : Int32) c_r c_refused c_tape c_letter c_letterAt c_number c_taped c_at c_statements c_kept c_hasImage c_isKeeping c_cursor c_poled c_barred c_leapsTo c_leapsThen c_lands c_row c_rowMany c_endsAt q10 e10) (cwV 1 hts gX4_next_X4_no rfl rfl rfl (by decide +kernel) ⟨Nat.le_of_ble_eq_true rfl, Nat.le_of_ble_eq_true rfl⟩) (va_recv hK hP (ci := 4) (q0 := 0) rfl rfl) (As := [.int (-1 : Int32)]) (rest := []) rfl hl.1 rfl (Nat.le_of_ble_eq_true rfl) dX4_next_10 ⟨Nat.zero_le _, Nat.zero_le _⟩ (fun H locs hP hD hS => ?_)
  have hP : va_P (dC, dI) vwCl (zwM cI cC f c_r q10.2 c_tape c_letter c_letterAt c_number c_taped c_at c_statements c_kept c_hasImage c_isKeeping c_cursor c_poled c_barred c_leapsTo c_leapsThen c_lands c_row c_rowMany c_endsAt) H := hP
  have hD : va_D A (zwM cI cC f c_r q10.2 c_tape c_letter c_letterAt c_number c_taped c_at c_statements c_kept c_hasImage c_isKeeping c_cursor c_poled c_barred c_leapsTo c_leapsThen c_lands c_row c_rowMany c_endsAt) := hD
  subst hQ
  exact retRW (zz := ((q10.1, q10.2) : Int32 × AR)) (fun z => z.1) (fun z => (zwM cI cC f c_r z.2 c_tape c_letter c_letterAt c_number c_taped c_at c_statements c_kept c_hasImage c_isKeeping c_cursor c_poled c_barred c_leapsTo c_leapsThen c_lands c_row c_rowMany c_endsAt)) hx hb hr hlocks rfl hS h rfl hP dX4_next_13
