theorem dX4_await_0 : decode cX4_await 0 = .ok (.iload_n 1, 1) := by decide +kernel
theorem dX4_await_1 : decode cX4_await 1 = .ok (.iload_n 2, 1) := by decide +kernel
theorem dX4_await_2 : decode cX4_await 2 = .ok (.invokestatic 176, 3) := by decide +kernel
theorem dX4_await_5 : decode cX4_await 5 = .ok (.istore_n 3, 1) := by decide +kernel
theorem dX4_await_6 : decode cX4_await 6 = .ok (.iload_n 3, 1) := by decide +kernel
theorem dX4_await_7 : decode cX4_await 7 = .ok (.ifCond .eq 9, 3) := by decide +kernel
theorem dX4_await_10 : decode cX4_await 10 = .ok (.aload_n 0, 1) := by decide +kernel
theorem dX4_await_11 : decode cX4_await 11 = .ok (.iload_n 3, 1) := by decide +kernel
theorem dX4_await_12 : decode cX4_await 12 = .ok (.invokevirtual 73, 3) := by decide +kernel
theorem dX4_await_15 : decode cX4_await 15 = .ok (.ireturn, 1) := by decide +kernel
theorem dX4_await_16 : decode cX4_await 16 = .ok (.bipush 40, 2) := by decide +kernel
theorem dX4_await_18 : decode cX4_await 18 = .ok (.istore 4, 2) := by decide +kernel
theorem dX4_await_20 : decode cX4_await 20 = .ok (.iload 4, 2) := by decide +kernel
theorem dX4_await_22 : decode cX4_await 22 = .ok (.ifCond .lt 28, 3) := by decide +kernel
theorem dX4_await_25 : decode cX4_await 25 = .ok (.aload_n 0, 1) := by decide +kernel
theorem dX4_await_26 : decode cX4_await 26 = .ok (.iload_n 1, 1) := by decide +kernel
theorem dX4_await_27 : decode cX4_await 27 = .ok (.iload_n 2, 1) := by decide +kernel
theorem dX4_await_28 : decode cX4_await 28 = .ok (.aload_n 0, 1) := by decide +kernel
theorem dX4_await_29 : decode cX4_await 29 = .ok (.getfield 101, 3) := by decide +kernel
theorem dX4_await_32 : decode cX4_await 32 = .ok (.iload 4, 2) := by decide +kernel
theorem dX4_await_34 : decode cX4_await 34 = .ok (.iadd, 1) := by decide +kernel
theorem dX4_await_35 : decode cX4_await 35 = .ok (.invokevirtual 179, 3) := by decide +kernel
theorem dX4_await_38 : decode cX4_await 38 = .ok (.ifCond .lt 6, 3) := by decide +kernel
theorem dX4_await_41 : decode cX4_await 41 = .ok (.iload 4, 2) := by decide +kernel
theorem dX4_await_43 : decode cX4_await 43 = .ok (.ireturn, 1) := by decide +kernel
theorem dX4_await_44 : decode cX4_await 44 = .ok (.iinc 4 (-1), 3) := by decide +kernel
theorem dX4_await_47 : decode cX4_await 47 = .ok (.goto (-27), 3) := by decide +kernel
theorem dX4_await_50 : decode cX4_await 50 = .ok (.bipush (-9), 2) := by decide +kernel
theorem dX4_await_52 : decode cX4_await 52 = .ok (.ireturn, 1) := by decide +kernel
set_option maxRecDepth 20000 in
theorem ggX4_await_X4_notLoad : GoodIn wsX4_await wsX4_notLoad := goodIn_r _ [5, 6, 7, 4, 8, 9, 10, 11, 12, 13, 14] (by decide +kernel) (by decide +kernel)
set_option maxRecDepth 20000 in
theorem gX4_await_X4_notLoad : GoodIn wsX4_await (va_wsS RX4 176 yX4_notLoad wsX4_notLoad) := goodIn_app (goodIn_of _ (by decide +kernel)) ggX4_await_X4_notLoad
set_option maxRecDepth 20000 in
theorem ggX4_await_X4_no : GoodIn wsX4_await wsX4_no := goodIn_r _ [18, 19, 70, 71, 72, 73, 74, 75, 76, 77, 78, 79, 80, 81, 82, 83, 84, 85, 86, 87, 88, 89, 90, 91, 92, 93, 94, 95, 96, 97] (by decide +kernel) (by decide +kernel)
set_option maxRecDepth 20000 in
theorem gX4_await_X4_no : GoodIn wsX4_await (wsV RX4 73 RX4 yX4_no wsX4_no) := goodIn_app (goodIn_of _ (by decide +kernel)) ggX4_await_X4_no
set_option maxRecDepth 20000 in
theorem ggX4_await_X4_soonestFrom : GoodIn wsX4_await wsX4_soonestFrom := goodIn_r _ [23, 24, 25, 26, 4, 27, 28, 29, 30, 31, 32, 33, 34, 35, 36, 37, 38, 39, 40, 41, 42, 43, 44, 45, 46, 47, 48, 49, 50, 51, 52, 53, 54, 55, 9, 10, 11, 56, 57, 58, 59, 60, 1, 61, 62, 63, 64, 65, 66, 67, 68, 69, 70, 71, 72, 73, 74, 75, 76, 77, 78, 79, 80, 81, 82, 83, 84, 85, 86, 87, 88, 89, 90, 91, 92, 93, 94, 95, 96, 97] (by decide +kernel) (by decide +kernel)
set_option maxRecDepth 20000 in
theorem gX4_await_X4_soonestFrom : GoodIn wsX4_await (wsV RX4 179 RX4 yX4_soonestFrom wsX4_soonestFrom) := goodIn_app (goodIn_of _ (by decide +kernel)) ggX4_await_X4_soonestFrom
set_option maxHeartbeats 4000000 in
set_option maxRecDepth 100000 in
theorem mX4_await (l : Launch) (dC : Nat → ClassId) (dI : Nat → Nat → Nat) (cI cC : ClassId) (sk : (Nat → Nat) × (Nat → Nat)) (f : Nat → Nat) (sz : Nat) (p1 : Int32) (p2 : Int32) (c_r : RT) (c_refused : AR) (c_tape : AR) (c_letter : AR) (c_letterAt : AR) (c_number : AR) (c_taped : Int32) (c_at : Int32) (c_statements : Int32) (c_kept : AR) (c_hasImage : Int32) (c_isKeeping : Int32) (c_cursor : Int32) (c_poled : Int32) (c_barred : Int32) (c_leapsTo : AR) (c_leapsThen : AR) (c_lands : AR) (c_row : AR) (c_rowMany : Int32) (c_endsAt : Int32) (z : Int32 × AR) (h : fX4_await p1 p2 c_r c_refused c_poled c_barred = some z) : cRW l yX4_await wsX4_await (RMk 6 143) sk (dC, dI) (tyz cI cC) sz (zwM cI cC f c_r c_refused c_tape c_letter c_letterAt c_number c_taped c_at c_statements c_kept c_hasImage c_isKeeping c_cursor c_poled c_barred c_leapsTo c_leapsThen c_lands c_row c_rowMany c_endsAt) (zwM cI cC f c_r z.2 c_tape c_letter c_letterAt c_number c_taped c_at c_statements c_kept c_hasImage c_isKeeping c_cursor c_poled c_barred c_leapsTo c_leapsThen c_lands c_row c_rowMany c_endsAt) [.ref (f 0), .int p1, .int p2] z.1 := by
  refine ofRW (cc := cX4_await) (maxL := 5) (ret := (some .int)) (own := RX4) (plainFor_of_name (by decide)) rfl rfl (Nat.le_of_ble_eq_true rfl) ?_
  intro p e s m args below meth c A hA hx hb hml hr hts hown hlocks hE hK hP hD hS ls hl
  generalize hQ : qRW _ _ _ _ _ _ _ = Q
  have hl : lv_has ls 5 [(0, .ref (f 0)), (1, .int p1), (2, .int p2)] := hl
  have hiX4 : ∀ w ∈ wsX40, w ∈ wsX4_await := fun w h => List.mem_cons_of_mem _ (List.mem_append_right _ h)
  have hw1 := hts (Cond.fieldLink RX4 101 "FloeToFloeModel" "minute" "I") (List.mem_of_getElem? (i := 1) rfl)
  rw [fX4_await] at h
  refine lv_iload_n hx hb dX4_await_0 rfl (lv_at hl 1 rfl) ?_
  refine lv_iload_n hx hb dX4_await_1 rfl (lv_at hl 2 rfl) ?_
  obtain ⟨q2, e2, h⟩ := bd_some h
  refine g_roS (wc := ([] : va_W)) ⟨hx, hb, hml, hown, hts⟩ hE hK hP hS [] rfl (mX4_notLoad l dC dI cI cC sk  p1 p2 q2 e2) (va_cwS 2 hts gX4_await_X4_notLoad rfl rfl rfl (by decide +kernel) ⟨Nat.le_of_ble_eq_true rfl, Nat.le_of_ble_eq_true rfl⟩) (As := [.int p1, .int p2]) (rest := []) rfl hl.1 rfl (Nat.le_of_ble_eq_true rfl) dX4_await_2 ⟨Nat.zero_le _, Nat.zero_le _⟩ (fun H locs hP hS => ?_)
  refine lv_istore_n (lv' := [(3, .int q2), (0, .ref (f 0)), (1, .int p1), (2, .int p2)]) hx hb dX4_await_5 rfl hl (by decide) rfl (fun ls hl => ?_)
  refine lv_iload_n hx hb dX4_await_6 rfl (lv_at hl 0 rfl) ?_
  refine lv_if_eq (tgt := 16) hx hb dX4_await_7 (by decide) (fun c7 => ?_) (fun c7 => ?_)
  · have h := itT c7 h
    refine lv_bipush (v := (40 : Int32)) hx hb dX4_await_16 (by decide) ?_
    refine lv_istore (lv' := [(4, .int (40 : Int32)), (3, .int q2), (0, .ref (f 0)), (1, .int p1), (2, .int p2)]) hx hb dX4_await_18 hl (by decide) rfl (fun ls hl => ?_)
    have L20 : ∀ (K20 : Unit → Option (Int32 × AR)), (∀ (_ : Unit), K20 () = some z → ∀ (H : Heap) (locs : List Loc) (ls : Array Slot), va_P (dC, dI) vwCl (zwM cI cC f c_r c_refused c_tape c_letter c_letterAt c_number c_taped c_at c_statements c_kept c_hasImage c_isKeeping c_cursor c_poled c_barred c_leapsTo c_leapsThen c_lands c_row c_rowMany c_endsAt) H → va_D A (zwM cI cC f c_r c_refused c_tape c_letter c_letterAt c_number c_taped c_at c_statements c_kept c_hasImage c_isKeeping c_cursor c_poled c_barred c_leapsTo c_leapsThen c_lands c_row c_rowMany c_endsAt) → va_S A s.heap H locs → lv_has ls 5 [] → W p l e (RMk 6 143) s m args below meth c H locs 0 0 Q (F0 m 50 ls [])) → ∀ (n : Nat) (x20_4 : Int32), fX4_await_L20 c_barred c_poled c_r c_refused p1 p2 K20 n x20_4 = some z → ∀ (H : Heap) (locs : List Loc) (ls : Array Slot), va_P (dC, dI) vwCl (zwM cI cC f c_r c_refused c_tape c_letter c_letterAt c_number c_taped c_at c_statements c_kept c_hasImage c_isKeeping c_cursor c_poled c_barred c_leapsTo c_leapsThen c_lands c_row c_rowMany c_endsAt) H → va_D A (zwM cI cC f c_r c_refused c_tape c_letter c_letterAt c_number c_taped c_at c_statements c_kept c_hasImage c_isKeeping c_cursor c_poled c_barred c_leapsTo c_leapsThen c_lands c_row c_rowMany c_endsAt) → va_S A s.heap H locs → lv_has ls 5 [(0, .ref (f 0)), (1, .int p1), (2, .int p2), (4, .int x20_4)] → W p l e (RMk 6 143) s m args below meth c H locs 0 0 Q (F0 m 20 ls []) := by
      intro K20 kx20 n
      induction n with
      | zero => intro x20_4 h; rw [fX4_await_L20] at h; cases h
      | succ n ih20 =>
        intro x20_4 h H locs ls hP hD hS hl
        rw [fX4_await_L20] at h
        refine lv_iload hx hb dX4_await_20 (lv_at hl 3 rfl) ?_
        refine lv_if_lt (tgt := 50) hx hb dX4_await_22 (by decide) (fun c22 => ?_) (fun c22 => ?_)
        · have h := itT c22 h
          exact kx20 () h _ _ _ hP hD hS (lv_sub hl [] rfl)
        have h := itF c22 h
        refine lv_aload_n hx hb dX4_await_25 rfl (lv_at hl 0 rfl) ?_
        refine lv_iload_n hx hb dX4_await_26 rfl (lv_at hl 1 rfl) ?_
        refine lv_iload_n hx hb dX4_await_27 rfl (lv_at hl 2 rfl) ?_
        refine lv_aload_n hx hb dX4_await_28 rfl (lv_at hl 0 rfl) ?_
        refine va_get (D := (dC, dI)) (ci := 4) (v := .int (R_minute c_r)) (C := RX4) (T := TX4) (N := 28) hx hb hts hiX4 hown hK hP 0 rfl rfl 8 (by decide) hw1 (fun _ h9 => h9) rfl dX4_await_29 ?_
        refine lv_iload hx hb dX4_await_32 (lv_at hl 3 rfl) ?_
        refine lv_iadd hx hb dX4_await_34 ?_
        obtain ⟨q35, e35, h⟩ := bd_some h
        refine g_roV (wc := (zwM cI cC f c_r c_refused c_tape c_letter c_letterAt c_number c_taped c_at c_statements c_kept c_hasImage c_isKeeping c_cursor c_poled c_barred c_leapsTo c_leapsThen c_lands c_row c_rowMany c_endsAt)) ⟨hx, hb, hml, hown, hts⟩ hE hK hP hS [0, 1, 2, 3, 4, 5, 6, 7, 8, 9, 10, 11, 12, 13, 14, 15] rfl (mX4_soonestFrom l dC dI cI cC sk f p1 p2 ((R_minute c_r) + x20_4) c_r c_refused c_tape c_letter c_letterAt c_number c_taped c_at c_statements c_kept c_hasImage c_isKeeping c_cursor c_poled c_barred c_leapsTo c_leapsThen c_lands c_row c_rowMany c_endsAt q35 e35) (cwV 3 hts gX4_await_X4_soonestFrom rfl rfl rfl (by decide +kernel) ⟨Nat.le_of_ble_eq_true rfl, Nat.le_of_ble_eq_true rfl⟩) (va_recv hK hP (ci := 4) (q0 := 0) rfl rfl) (As := [.int p1, .int p2, .int ((R_minute c_r) + x20_4)]) (rest := []) rfl hl.1 rfl (Nat.le_of_ble_eq_true rfl) dX4_await_35 ⟨Nat.zero_le _, Nat.zero_le _⟩ (fun H locs hP hS => ?_)
        refine lv_if_lt (tgt := 44) hx hb dX4_await_38 (by decide) (fun c38 => ?_) (fun c38 => ?_)
        · have h := itT c38 h
          refine lv_iinc (v := (x20_4 + (-1 : Int32))) (lv' := [(4, .int (x20_4 + (-1 : Int32))), (0, .ref (f 0)), (1, .int p1), (2, .int p2)]) hx hb dX4_await_44 hl (k := 3) rfl rfl (by decide) rfl (fun ls hl => ?_)
          refine lv_goto (tgt := 20) hx hb dX4_await_47 (by decide) ?_
          exact ih20 _ h _ _ _ hP hD hS (lv_sub hl [1, 2, 3, 0] rfl)
        have h := itF c38 h
        refine lv_iload hx hb dX4_await_41 (lv_at hl 3 rfl) ?_
        subst hQ
        exact retRW (zz := ((x20_4, c_refused) : Int32 × AR)) (fun z => z.1) (fun z => (zwM cI cC f c_r z.2 c_tape c_letter c_letterAt c_number c_taped c_at c_statements c_kept c_hasImage c_isKeeping c_cursor c_poled c_barred c_leapsTo c_leapsThen c_lands c_row c_rowMany c_endsAt)) hx hb hr hlocks rfl hS h rfl hP dX4_await_43
    refine L20 _ (fun _ h H locs ls hP hD hS hl => ?_) _ _ h _ _ _ hP hD hS (lv_sub hl [2, 3, 4, 0] rfl)
    refine lv_bipush (v := (-9 : Int32)) hx hb dX4_await_50 (by decide) ?_
    subst hQ
    exact retRW (zz := (((-9 : Int32), c_refused) : Int32 × AR)) (fun z => z.1) (fun z => (zwM cI cC f c_r z.2 c_tape c_letter c_letterAt c_number c_taped c_at c_statements c_kept c_hasImage c_isKeeping c_cursor c_poled c_barred c_leapsTo c_leapsThen c_lands c_row c_rowMany c_endsAt)) hx hb hr hlocks rfl hS h rfl hP dX4_await_52
  have h := itF c7 h
  refine lv_aload_n hx hb dX4_await_10 rfl (lv_at hl 1 rfl) ?_
  refine lv_iload_n hx hb dX4_await_11 rfl (lv_at hl 0 rfl) ?_
  obtain ⟨q12, e12, h⟩ := bd_some h
  refine g_rwV (wc := (zwM cI cC f c_r c_refused c_tape c_letter c_letterAt c_number c_taped c_at c_statements c_kept c_hasImage c_isKeeping c_cursor c_poled c_barred c_leapsTo c_leapsThen c_lands c_row c_rowMany c_endsAt)) (wc' := (zwM cI cC f c_r q12.2 c_tape c_letter c_letterAt c_number c_taped c_at c_statements c_kept c_hasImage c_isKeeping c_cursor c_poled c_barred c_leapsTo c_leapsThen c_lands c_row c_rowMany c_endsAt)) ⟨hx, hb, hml, hown, hts⟩ hE hK hA hP hD hS [0, 1, 2, 3, 4, 5, 6, 7, 8, 9, 10, 11, 12, 13, 14, 15] rfl rfl rfl (mX4_no l dC dI cI cC sk f H.size q2 c_r c_refused c_tape c_letter c_letterAt c_number c_taped c_at c_statements c_kept c_hasImage c_isKeeping c_cursor c_poled c_barred c_leapsTo c_leapsThen c_lands c_row c_rowMany c_endsAt q12 e12) (cwV 1 hts gX4_await_X4_no rfl rfl rfl (by decide +kernel) ⟨Nat.le_of_ble_eq_true rfl, Nat.le_of_ble_eq_true rfl⟩) (va_recv hK hP (ci := 4) (q0 := 0) rfl rfl) (As := [.int q2]) (rest := []) rfl hl.1 rfl (Nat.le_of_ble_eq_true rfl) dX4_await_12 ⟨Nat.zero_le _, Nat.zero_le _⟩ (fun H locs hP hD hS => ?_)
  have hP : va_P (dC, dI) vwCl (zwM cI cC f c_r q12.2 c_tape c_letter c_letterAt c_number c_taped c_at c_statements c_kept c_hasImage c_isKeeping c_cursor c_poled c_barred c_leapsTo c_leapsThen c_lands c_row c_rowMany c_endsAt) H := hP
  have hD : va_D A (zwM cI cC f c_r q12.2 c_tape c_letter c_letterAt c_number c_taped c_at c_statements c_kept c_hasImage c_isKeeping c_cursor c_poled c_barred c_leapsTo c_leapsThen c_lands c_row c_rowMany c_endsAt) := hD
  subst hQ
  exact retRW (zz := ((q12.1, q12.2) : Int32 × AR)) (fun z => z.1) (fun z => (zwM cI cC f c_r z.2 c_tape c_letter c_letterAt c_number c_taped c_at c_statements c_kept c_hasImage c_isKeeping c_cursor c_poled c_barred c_leapsTo c_leapsThen c_lands c_row c_rowMany c_endsAt)) hx hb hr hlocks rfl hS h rfl hP dX4_await_15
theorem dX4_heaviest_0 : decode cX4_heaviest 0 = .ok (.iload_n 1, 1) := by decide +kernel
theorem dX4_heaviest_1 : decode cX4_heaviest 1 = .ok (.invokestatic 173, 3) := by decide +kernel
theorem dX4_heaviest_4 : decode cX4_heaviest 4 = .ok (.ifCond .ne 9, 3) := by decide +kernel
theorem dX4_heaviest_7 : decode cX4_heaviest 7 = .ok (.aload_n 0, 1) := by decide +kernel
theorem dX4_heaviest_8 : decode cX4_heaviest 8 = .ok (.iconst (-1), 1) := by decide +kernel
theorem dX4_heaviest_9 : decode cX4_heaviest 9 = .ok (.invokevirtual 73, 3) := by decide +kernel
theorem dX4_heaviest_12 : decode cX4_heaviest 12 = .ok (.ireturn, 1) := by decide +kernel
theorem dX4_heaviest_13 : decode cX4_heaviest 13 = .ok (.bipush 9, 2) := by decide +kernel
theorem dX4_heaviest_15 : decode cX4_heaviest 15 = .ok (.istore_n 2, 1) := by decide +kernel
theorem dX4_heaviest_16 : decode cX4_heaviest 16 = .ok (.iload_n 2, 1) := by decide +kernel
theorem dX4_heaviest_17 : decode cX4_heaviest 17 = .ok (.ifCond .le 22, 3) := by decide +kernel
theorem dX4_heaviest_20 : decode cX4_heaviest 20 = .ok (.aload_n 0, 1) := by decide +kernel
theorem dX4_heaviest_21 : decode cX4_heaviest 21 = .ok (.iload_n 2, 1) := by decide +kernel
theorem dX4_heaviest_22 : decode cX4_heaviest 22 = .ok (.iload_n 1, 1) := by decide +kernel
theorem dX4_heaviest_23 : decode cX4_heaviest 23 = .ok (.aload_n 0, 1) := by decide +kernel
theorem dX4_heaviest_24 : decode cX4_heaviest 24 = .ok (.getfield 101, 3) := by decide +kernel
theorem dX4_heaviest_27 : decode cX4_heaviest 27 = .ok (.invokevirtual 179, 3) := by decide +kernel
theorem dX4_heaviest_30 : decode cX4_heaviest 30 = .ok (.ifCond .ge 9, 3) := by decide +kernel
theorem dX4_heaviest_33 : decode cX4_heaviest 33 = .ok (.iinc 2 (-1), 3) := by decide +kernel
theorem dX4_heaviest_36 : decode cX4_heaviest 36 = .ok (.goto (-20), 3) := by decide +kernel
theorem dX4_heaviest_39 : decode cX4_heaviest 39 = .ok (.iload_n 2, 1) := by decide +kernel
theorem dX4_heaviest_40 : decode cX4_heaviest 40 = .ok (.ireturn, 1) := by decide +kernel
set_option maxRecDepth 20000 in
theorem ggX4_heaviest_X4_isCell : GoodIn wsX4_heaviest wsX4_isCell := goodIn_r _ [5, 6, 7, 4, 8] (by decide +kernel) (by decide +kernel)
set_option maxRecDepth 20000 in
theorem gX4_heaviest_X4_isCell : GoodIn wsX4_heaviest (va_wsS RX4 173 yX4_isCell wsX4_isCell) := goodIn_app (goodIn_of _ (by decide +kernel)) ggX4_heaviest_X4_isCell
set_option maxRecDepth 20000 in
theorem ggX4_heaviest_X4_no : GoodIn wsX4_heaviest wsX4_no := goodIn_r _ [12, 13, 64, 65, 66, 67, 68, 69, 70, 71, 72, 73, 74, 75, 76, 77, 78, 79, 80, 81, 82, 83, 84, 85, 86, 87, 88, 89, 90, 91] (by decide +kernel) (by decide +kernel)
set_option maxRecDepth 20000 in
theorem gX4_heaviest_X4_no : GoodIn wsX4_heaviest (wsV RX4 73 RX4 yX4_no wsX4_no) := goodIn_app (goodIn_of _ (by decide +kernel)) ggX4_heaviest_X4_no
set_option maxRecDepth 20000 in
theorem ggX4_heaviest_X4_soonestFrom : GoodIn wsX4_heaviest wsX4_soonestFrom := goodIn_r _ [17, 18, 19, 20, 4, 21, 22, 23, 24, 25, 26, 27, 28, 29, 30, 31, 32, 33, 34, 35, 36, 37, 38, 39, 40, 41, 42, 43, 44, 45, 46, 47, 48, 49, 6, 7, 8, 50, 51, 52, 53, 54, 1, 55, 56, 57, 58, 59, 60, 61, 62, 63, 64, 65, 66, 67, 68, 69, 70, 71, 72, 73, 74, 75, 76, 77, 78, 79, 80, 81, 82, 83, 84, 85, 86, 87, 88, 89, 90, 91] (by decide +kernel) (by decide +kernel)
set_option maxRecDepth 20000 in
theorem gX4_heaviest_X4_soonestFrom : GoodIn wsX4_heaviest (wsV RX4 179 RX4 yX4_soonestFrom wsX4_soonestFrom) := goodIn_app (goodIn_of _ (by decide +kernel)) ggX4_heaviest_X4_soonestFrom
set_option maxHeartbeats 4000000 in
set_option maxRecDepth 100000 in
theorem mX4_heaviest (l : Launch) (dC : Nat → ClassId) (dI : Nat → Nat → Nat) (cI cC : ClassId) (sk : (Nat → Nat) × (Nat → Nat)) (f : Nat → Nat) (sz : Nat) (p1 : Int32) (c_r : RT) (c_refused : AR) (c_tape : AR) (c_letter : AR) (c_letterAt : AR) (c_number : AR) (c_taped : Int32) (c_at : Int32) (c_statements : Int32) (c_kept : AR) (c_hasImage : Int32) (c_isKeeping : Int32) (c_cursor : Int32) (c_poled : Int32) (c_barred : Int32) (c_leapsTo : AR) (c_leapsThen : AR) (c_lands : AR) (c_row : AR) (c_rowMany : Int32) (c_endsAt : Int32) (z : Int32 × AR) (h : fX4_heaviest p1 c_r c_refused c_poled c_barred = some z) : cRW l yX4_heaviest wsX4_heaviest (RMk 6 143) sk (dC, dI) (tyz cI cC) sz (zwM cI cC f c_r c_refused c_tape c_letter c_letterAt c_number c_taped c_at c_statements c_kept c_hasImage c_isKeeping c_cursor c_poled c_barred c_leapsTo c_leapsThen c_lands c_row c_rowMany c_endsAt) (zwM cI cC f c_r z.2 c_tape c_letter c_letterAt c_number c_taped c_at c_statements c_kept c_hasImage c_isKeeping c_cursor c_poled c_barred c_leapsTo c_leapsThen c_lands c_row c_rowMany c_endsAt) [.ref (f 0), .int p1] z.1 := by
  refine ofRW (cc := cX4_heaviest) (maxL := 3) (ret := (some .int)) (own := RX4) (plainFor_of_name (by decide)) rfl rfl (Nat.le_of_ble_eq_true rfl) ?_
  intro p e s m args below meth c A hA hx hb hml hr hts hown hlocks hE hK hP hD hS ls hl
  generalize hQ : qRW _ _ _ _ _ _ _ = Q
  have hl : lv_has ls 3 [(0, .ref (f 0)), (1, .int p1)] := hl
  have hiX4 : ∀ w ∈ wsX40, w ∈ wsX4_heaviest := fun w h => List.mem_cons_of_mem _ (List.mem_append_right _ h)
  have hw1 := hts (Cond.fieldLink RX4 101 "FloeToFloeModel" "minute" "I") (List.mem_of_getElem? (i := 1) rfl)
  rw [fX4_heaviest] at h
  refine lv_iload_n hx hb dX4_heaviest_0 rfl (lv_at hl 1 rfl) ?_
  obtain ⟨q1, e1, h⟩ := bd_some h
  refine g_roS (wc := ([] : va_W)) ⟨hx, hb, hml, hown, hts⟩ hE hK hP hS [] rfl (mX4_isCell l dC dI cI cC sk  p1 q1 e1) (va_cwS 1 hts gX4_heaviest_X4_isCell rfl rfl rfl (by decide +kernel) ⟨Nat.le_of_ble_eq_true rfl, Nat.le_of_ble_eq_true rfl⟩) (As := [.int p1]) (rest := []) rfl hl.1 rfl (Nat.le_of_ble_eq_true rfl) dX4_heaviest_1 ⟨Nat.zero_le _, Nat.zero_le _⟩ (fun H locs hP hS => ?_)
  refine lv_if_ne (tgt := 13) hx hb dX4_heaviest_4 (by decide) (fun c4 => ?_) (fun c4 => ?_)
  · have h := itF c4 h
    refine lv_bipush (v := (9 : Int32)) hx hb dX4_heaviest_13 (by decide) ?_
    refine lv_istore_n (lv' := [(2, .int (9 : Int32)), (0, .ref (f 0)), (1, .int p1)]) hx hb dX4_heaviest_15 rfl hl (by decide) rfl (fun ls hl => ?_)
    have L16 : ∀ (K16 : Int32 → Option (Int32 × AR)), (∀ (k16_2 : Int32), K16 k16_2 = some z → ∀ (H : Heap) (locs : List Loc) (ls : Array Slot), va_P (dC, dI) vwCl (zwM cI cC f c_r c_refused c_tape c_letter c_letterAt c_number c_taped c_at c_statements c_kept c_hasImage c_isKeeping c_cursor c_poled c_barred c_leapsTo c_leapsThen c_lands c_row c_rowMany c_endsAt) H → va_D A (zwM cI cC f c_r c_refused c_tape c_letter c_letterAt c_number c_taped c_at c_statements c_kept c_hasImage c_isKeeping c_cursor c_poled c_barred c_leapsTo c_leapsThen c_lands c_row c_rowMany c_endsAt) → va_S A s.heap H locs → lv_has ls 3 [(2, .int k16_2)] → W p l e (RMk 6 143) s m args below meth c H locs 0 0 Q (F0 m 39 ls [])) → ∀ (n : Nat) (x16_2 : Int32), fX4_heaviest_L16 c_barred c_poled c_r p1 K16 n x16_2 = some z → ∀ (H : Heap) (locs : List Loc) (ls : Array Slot), va_P (dC, dI) vwCl (zwM cI cC f c_r c_refused c_tape c_letter c_letterAt c_number c_taped c_at c_statements c_kept c_hasImage c_isKeeping c_cursor c_poled c_barred c_leapsTo c_leapsThen c_lands c_row c_rowMany c_endsAt) H → va_D A (zwM cI cC f c_r c_refused c_tape c_letter c_letterAt c_number c_taped c_at c_statements c_kept c_hasImage c_isKeeping c_cursor c_poled c_barred c_leapsTo c_leapsThen c_lands c_row c_rowMany c_endsAt) → va_S A s.heap H locs → lv_has ls 3 [(0, .ref (f 0)), (1, .int p1), (2, .int x16_2)] → W p l e (RMk 6 143) s m args below meth c H locs 0 0 Q (F0 m 16 ls []) := by
      intro K16 kx16 n
      induction n with
      | zero => intro x16_2 h; rw [fX4_heaviest_L16] at h; cases h
      | succ n ih16 =>
        intro x16_2 h H locs ls hP hD hS hl
        rw [fX4_heaviest_L16] at h
        refine lv_iload_n hx hb dX4_heaviest_16 rfl (lv_at hl 2 rfl) ?_
        refine lv_if_le (tgt := 39) hx hb dX4_heaviest_17 (by decide) (fun c17 => ?_) (fun c17 => ?_)
        · have h := itT c17 h
          exact kx16 _ h _ _ _ hP hD hS (lv_sub hl [2] rfl)
        have h := itF c17 h
        refine lv_aload_n hx hb dX4_heaviest_20 rfl (lv_at hl 0 rfl) ?_
        refine lv_iload_n hx hb dX4_heaviest_21 rfl (lv_at hl 2 rfl) ?_
        refine lv_iload_n hx hb dX4_heaviest_22 rfl (lv_at hl 1 rfl) ?_
        refine lv_aload_n hx hb dX4_heaviest_23 rfl (lv_at hl 0 rfl) ?_
        refine va_get (D := (dC, dI)) (ci := 4) (v := .int (R_minute c_r)) (C := RX4) (T := TX4) (N := 28) hx hb hts hiX4 hown hK hP 0 rfl rfl 8 (by decide) hw1 (fun _ h9 => h9) rfl dX4_heaviest_24 ?_
        obtain ⟨q27, e27, h⟩ := bd_some h
        refine g_roV (wc := (zwM cI cC f c_r c_refused c_tape c_letter c_letterAt c_number c_taped c_at c_statements c_kept c_hasImage c_isKeeping c_cursor c_poled c_barred c_leapsTo c_leapsThen c_lands c_row c_rowMany c_endsAt)) ⟨hx, hb, hml, hown, hts⟩ hE hK hP hS [0, 1, 2, 3, 4, 5, 6, 7, 8, 9, 10, 11, 12, 13, 14, 15] rfl (mX4_soonestFrom l dC dI cI cC sk f x16_2 p1 (R_minute c_r) c_r c_refused c_tape c_letter c_letterAt c_number c_taped c_at c_statements c_kept c_hasImage c_isKeeping c_cursor c_poled c_barred c_leapsTo c_leapsThen c_lands c_row c_rowMany c_endsAt q27 e27) (cwV 3 hts gX4_heaviest_X4_soonestFrom rfl rfl rfl (by decide +kernel) ⟨Nat.le_of_ble_eq_true rfl, Nat.le_of_ble_eq_true rfl⟩) (va_recv hK hP (ci := 4) (q0 := 0) rfl rfl) (As := [.int x16_2, .int p1, .int (R_minute c_r)]) (rest := []) rfl hl.1 rfl (Nat.le_of_ble_eq_true rfl) dX4_heaviest_27 ⟨Nat.zero_le _, Nat.zero_le _⟩ (fun H locs hP hS => ?_)
        refine lv_if_ge (tgt := 39) hx hb dX4_heaviest_30 (by decide) (fun c30 => ?_) (fun c30 => ?_)
        · have h := itT c30 h
          exact kx16 _ h _ _ _ hP hD hS (lv_sub hl [2] rfl)
        have h := itF c30 h
        refine lv_iinc (v := (x16_2 + (-1 : Int32))) (lv' := [(2, .int (x16_2 + (-1 : Int32))), (0, .ref (f 0)), (1, .int p1)]) hx hb dX4_heaviest_33 hl (k := 2) rfl rfl (by decide) rfl (fun ls hl => ?_)
        refine lv_goto (tgt := 16) hx hb dX4_heaviest_36 (by decide) ?_
        exact ih16 _ h _ _ _ hP hD hS (lv_sub hl [1, 2, 0] rfl)
    refine L16 _ (fun k16_2 h H locs ls hP hD hS hl => ?_) _ _ h _ _ _ hP hD hS (lv_sub hl [1, 2, 0] rfl)
    refine lv_iload_n hx hb dX4_heaviest_39 rfl (lv_at hl 0 rfl) ?_
    subst hQ
    exact retRW (zz := ((k16_2, c_refused) : Int32 × AR)) (fun z => z.1) (fun z => (zwM cI cC f c_r z.2 c_tape c_letter c_letterAt c_number c_taped c_at c_statements c_kept c_hasImage c_isKeeping c_cursor c_poled c_barred c_leapsTo c_leapsThen c_lands c_row c_rowMany c_endsAt)) hx hb hr hlocks rfl hS h rfl hP dX4_heaviest_40
  have h := itT c4 h
  refine lv_aload_n hx hb dX4_heaviest_7 rfl (lv_at hl 0 rfl) ?_
  refine lv_iconst (v := (-1 : Int32)) hx hb dX4_heaviest_8 (by decide) ?_
  obtain ⟨q9, e9, h⟩ := bd_some h
  refine g_rwV (wc := (zwM cI cC f c_r c_refused c_tape c_letter c_letterAt c_number c_taped c_at c_statements c_kept c_hasImage c_isKeeping c_cursor c_poled c_barred c_leapsTo c_leapsThen c_lands c_row c_rowMany c_endsAt)) (wc' := (zwM cI cC f c_r q9.2 c_tape c_letter c_letterAt c_number c_taped c_at c_statements c_kept c_hasImage c_isKeeping c_cursor c_poled c_barred c_leapsTo c_leapsThen c_lands c_row c_rowMany c_endsAt)) ⟨hx, hb, hml, hown, hts⟩ hE hK hA hP hD hS [0, 1, 2, 3, 4, 5, 6, 7, 8, 9, 10, 11, 12, 13, 14, 15] rfl rfl rfl (mX4_no l dC dI cI cC sk f H.size (-1 : Int32) c_r c_refused c_tape c_letter c_letterAt c_number c_taped c_at c_statements c_kept c_hasImage c_isKeeping c_cursor c_poled c_barred c_leapsTo c_leapsThen c_lands c_row c_rowMany c_endsAt q9 e9) (cwV 1 hts gX4_heaviest_X4_no rfl rfl rfl (by decide +kernel) ⟨Nat.le_of_ble_eq_true rfl, Nat.le_of_ble_eq_true rfl⟩) (va_recv hK hP (ci := 4) (q0 := 0) rfl rfl) (As := [.int (-1 : Int32)]) (rest := []) rfl hl.1 rfl (Nat.le_of_ble_eq_true rfl) dX4_heaviest_9 ⟨Nat.zero_le _, Nat.zero_le _⟩ (fun H locs hP hD hS => ?_)
  have hP : va_P (dC, dI) vwCl (zwM cI cC f c_r q9.2 c_tape c_letter c_letterAt c_number c_taped c_at c_statements c_kept c_hasImage c_isKeeping c_cursor c_poled c_barred c_leapsTo c_leapsThen c_lands c_row c_rowMany c_endsAt) H := hP
  have hD : va_D A (zwM cI cC f c_r q9.2 c_tape c_letter c_letterAt c_number c_taped c_at c_statements c_kept c_hasImage c_isKeeping c_cursor c_poled c_barred c_leapsTo c_leapsThen c_lands c_row c_rowMany c_endsAt) := hD
  subst hQ
  exact retRW (zz := ((q9.1, q9.2) : Int32 × AR)) (fun z => z.1) (fun z => (zwM cI cC f c_r z.2 c_tape c_letter c_letterAt c_number c_taped c_at c_statements c_kept c_hasImage c_isKeeping c_cursor c_poled c_barred c_leapsTo c_leapsThen c_lands c_row c_rowMany c_endsAt)) hx hb hr hlocks rfl hS h rfl hP dX4_heaviest_12
theorem dX4_needed_0 : decode cX4_needed 0 = .ok (.iload_n 1, 1) := by decide +kernel
theorem dX4_needed_1 : decode cX4_needed 1 = .ok (.iload_n 2, 1) := by decide +kernel
theorem dX4_needed_2 : decode cX4_needed 2 = .ok (.invokestatic 176, 3) := by decide +kernel
theorem dX4_needed_5 : decode cX4_needed 5 = .ok (.istore_n 3, 1) := by decide +kernel
theorem dX4_needed_6 : decode cX4_needed 6 = .ok (.iload_n 3, 1) := by decide +kernel
theorem dX4_needed_7 : decode cX4_needed 7 = .ok (.ifCond .eq 9, 3) := by decide +kernel
theorem dX4_needed_10 : decode cX4_needed 10 = .ok (.aload_n 0, 1) := by decide +kernel
theorem dX4_needed_11 : decode cX4_needed 11 = .ok (.iload_n 3, 1) := by decide +kernel
theorem dX4_needed_12 : decode cX4_needed 12 = .ok (.invokevirtual 73, 3) := by decide +kernel
theorem dX4_needed_15 : decode cX4_needed 15 = .ok (.ireturn, 1) := by decide +kernel
theorem dX4_needed_16 : decode cX4_needed 16 = .ok (.aload_n 0, 1) := by decide +kernel
theorem dX4_needed_17 : decode cX4_needed 17 = .ok (.iload_n 1, 1) := by decide +kernel
theorem dX4_needed_18 : decode cX4_needed 18 = .ok (.iload_n 2, 1) := by decide +kernel
theorem dX4_needed_19 : decode cX4_needed 19 = .ok (.aload_n 0, 1) := by decide +kernel
theorem dX4_needed_20 : decode cX4_needed 20 = .ok (.getfield 101, 3) := by decide +kernel
theorem dX4_needed_23 : decode cX4_needed 23 = .ok (.invokevirtual 179, 3) := by decide +kernel
theorem dX4_needed_26 : decode cX4_needed 26 = .ok (.ifCond .ge 5, 3) := by decide +kernel
theorem dX4_needed_29 : decode cX4_needed 29 = .ok (.iconst 0, 1) := by decide +kernel
theorem dX4_needed_30 : decode cX4_needed 30 = .ok (.ireturn, 1) := by decide +kernel
theorem dX4_needed_31 : decode cX4_needed 31 = .ok (.iconst 0, 1) := by decide +kernel
theorem dX4_needed_32 : decode cX4_needed 32 = .ok (.istore 4, 2) := by decide +kernel
theorem dX4_needed_34 : decode cX4_needed 34 = .ok (.iconst 0, 1) := by decide +kernel
theorem dX4_needed_35 : decode cX4_needed 35 = .ok (.istore 5, 2) := by decide +kernel
theorem dX4_needed_37 : decode cX4_needed 37 = .ok (.iload 5, 2) := by decide +kernel
theorem dX4_needed_39 : decode cX4_needed 39 = .ok (.aload_n 0, 1) := by decide +kernel
theorem dX4_needed_40 : decode cX4_needed 40 = .ok (.getfield 59, 3) := by decide +kernel
theorem dX4_needed_43 : decode cX4_needed 43 = .ok (.if_icmp .ge 43, 3) := by decide +kernel
theorem dX4_needed_46 : decode cX4_needed 46 = .ok (.aload_n 0, 1) := by decide +kernel
theorem dX4_needed_47 : decode cX4_needed 47 = .ok (.iconst 1, 1) := by decide +kernel
theorem dX4_needed_48 : decode cX4_needed 48 = .ok (.iload 5, 2) := by decide +kernel
theorem dX4_needed_50 : decode cX4_needed 50 = .ok (.ishl, 1) := by decide +kernel
theorem dX4_needed_51 : decode cX4_needed 51 = .ok (.putfield 157, 3) := by decide +kernel
theorem dX4_needed_54 : decode cX4_needed 54 = .ok (.iload 4, 2) := by decide +kernel
theorem dX4_needed_56 : decode cX4_needed 56 = .ok (.aload_n 0, 1) := by decide +kernel
theorem dX4_needed_57 : decode cX4_needed 57 = .ok (.iload_n 1, 1) := by decide +kernel
theorem dX4_needed_58 : decode cX4_needed 58 = .ok (.iload_n 2, 1) := by decide +kernel
theorem dX4_needed_59 : decode cX4_needed 59 = .ok (.aload_n 0, 1) := by decide +kernel
theorem dX4_needed_60 : decode cX4_needed 60 = .ok (.getfield 101, 3) := by decide +kernel
theorem dX4_needed_63 : decode cX4_needed 63 = .ok (.invokevirtual 179, 3) := by decide +kernel
theorem dX4_needed_66 : decode cX4_needed 66 = .ok (.ifCond .ge 10, 3) := by decide +kernel
theorem dX4_needed_69 : decode cX4_needed 69 = .ok (.iconst 1, 1) := by decide +kernel
theorem dX4_needed_70 : decode cX4_needed 70 = .ok (.iload 5, 2) := by decide +kernel
theorem dX4_needed_72 : decode cX4_needed 72 = .ok (.ishl, 1) := by decide +kernel
theorem dX4_needed_73 : decode cX4_needed 73 = .ok (.goto 4, 3) := by decide +kernel
theorem dX4_needed_76 : decode cX4_needed 76 = .ok (.iconst 0, 1) := by decide +kernel
theorem dX4_needed_77 : decode cX4_needed 77 = .ok (.ior, 1) := by decide +kernel
theorem dX4_needed_78 : decode cX4_needed 78 = .ok (.istore 4, 2) := by decide +kernel
theorem dX4_needed_80 : decode cX4_needed 80 = .ok (.iinc 5 1, 3) := by decide +kernel
theorem dX4_needed_83 : decode cX4_needed 83 = .ok (.goto (-46), 3) := by decide +kernel
theorem dX4_needed_86 : decode cX4_needed 86 = .ok (.aload_n 0, 1) := by decide +kernel
theorem dX4_needed_87 : decode cX4_needed 87 = .ok (.iconst 0, 1) := by decide +kernel
theorem dX4_needed_88 : decode cX4_needed 88 = .ok (.putfield 157, 3) := by decide +kernel
theorem dX4_needed_91 : decode cX4_needed 91 = .ok (.iload 4, 2) := by decide +kernel
theorem dX4_needed_93 : decode cX4_needed 93 = .ok (.ireturn, 1) := by decide +kernel
set_option maxRecDepth 20000 in
theorem ggX4_needed_X4_notLoad : GoodIn wsX4_needed wsX4_notLoad := goodIn_r _ [7, 8, 9, 6, 10, 11, 12, 13, 14, 15, 16] (by decide +kernel) (by decide +kernel)
set_option maxRecDepth 20000 in
theorem gX4_needed_X4_notLoad : GoodIn wsX4_needed (va_wsS RX4 176 yX4_notLoad wsX4_notLoad) := goodIn_app (goodIn_of _ (by decide +kernel)) ggX4_needed_X4_notLoad
set_option maxRecDepth 20000 in
theorem ggX4_needed_X4_no : GoodIn wsX4_needed wsX4_no := goodIn_r _ [20, 21, 70, 71, 72, 73, 74, 75, 76, 77, 78, 79, 80, 81, 82, 83, 84, 85, 86, 87, 88, 89, 90, 91, 92, 93, 94, 95, 96, 97] (by decide +kernel) (by decide +kernel)
set_option maxRecDepth 20000 in
theorem gX4_needed_X4_no : GoodIn wsX4_needed (wsV RX4 73 RX4 yX4_no wsX4_no) := goodIn_app (goodIn_of _ (by decide +kernel)) ggX4_needed_X4_no
set_option maxRecDepth 20000 in
theorem ggX4_needed_X4_soonestFrom : GoodIn wsX4_needed wsX4_soonestFrom := goodIn_r _ [25, 26, 27, 28, 6, 29, 30, 31, 32, 33, 34, 35, 36, 37, 3, 38, 39, 40, 41, 42, 43, 44, 45, 46, 47, 48, 49, 50, 51, 52, 53, 2, 54, 55, 11, 12, 13, 56, 57, 58, 59, 60, 1, 61, 62, 63, 64, 65, 66, 67, 68, 69, 70, 71, 72, 73, 74, 75, 76, 77, 78, 79, 80, 81, 82, 83, 84, 85, 86, 87, 88, 89, 90, 91, 92, 93, 94, 95, 96, 97] (by decide +kernel) (by decide +kernel)
set_option maxRecDepth 20000 in
theorem gX4_needed_X4_soonestFrom : GoodIn wsX4_needed (wsV RX4 179 RX4 yX4_soonestFrom wsX4_soonestFrom) := goodIn_app (goodIn_of _ (by decide +kernel)) ggX4_needed_X4_soonestFrom
set_option maxHeartbeats 4000000 in
set_option maxRecDepth 100000 in
theorem mX4_needed (l : Launch) (dC : Nat → ClassId) (dI : Nat → Nat → Nat) (cI cC : ClassId) (sk : (Nat → Nat) × (Nat → Nat)) (f : Nat → Nat) (sz : Nat) (p1 : Int32) (p2 : Int32) (c_r : RT) (c_refused : AR) (c_tape : AR) (c_letter : AR) (c_letterAt : AR) (c_number : AR) (c_taped : Int32) (c_at : Int32) (c_statements : Int32) (c_kept : AR) (c_hasImage : Int32) (c_isKeeping : Int32) (c_cursor : Int32) (c_poled : Int32) (c_barred : Int32) (c_leapsTo : AR) (c_leapsThen : AR) (c_lands : AR) (c_row : AR) (c_rowMany : Int32) (c_endsAt : Int32) (z : Int32 × AR × Int32) (h : fX4_needed p1 p2 c_r c_refused c_poled c_barred = some z) : cRW l yX4_needed wsX4_needed (RMk 6 143) sk (dC, dI) (tyz cI cC) sz (zwM cI cC f c_r c_refused c_tape c_letter c_letterAt c_number c_taped c_at c_statements c_kept c_hasImage c_isKeeping c_cursor c_poled c_barred c_leapsTo c_leapsThen c_lands c_row c_rowMany c_endsAt) (zwM cI cC f c_r z.2.1 c_tape c_letter c_letterAt c_number c_taped c_at c_statements c_kept c_hasImage c_isKeeping c_cursor c_poled z.2.2 c_leapsTo c_leapsThen c_lands c_row c_rowMany c_endsAt) [.ref (f 0), .int p1, .int p2] z.1 := by
  refine ofRW (cc := cX4_needed) (maxL := 6) (ret := (some .int)) (own := RX4) (plainFor_of_name (by decide)) rfl rfl (Nat.le_of_ble_eq_true rfl) ?_
  intro p e s m args below meth c A hA hx hb hml hr hts hown hlocks hE hK hP hD hS ls hl
  generalize hQ : qRW _ _ _ _ _ _ _ = Q
  have hl : lv_has ls 6 [(0, .ref (f 0)), (1, .int p1), (2, .int p2)] := hl
  have hiX4 : ∀ w ∈ wsX40, w ∈ wsX4_needed := fun w h => List.mem_cons_of_mem _ (List.mem_append_right _ h)
  have hw1 := hts (Cond.fieldLink RX4 101 "FloeToFloeModel" "minute" "I") (List.mem_of_getElem? (i := 1) rfl)
  have hw2 := hts (Cond.fieldLink RX4 59 "FloeToFloeModel" "floes" "I") (List.mem_of_getElem? (i := 2) rfl)
  have hw3 := hts (Cond.fieldLink RX4 157 "FloeToFloeModel" "barred" "I") (List.mem_of_getElem? (i := 3) rfl)
  rw [fX4_needed] at h
  refine lv_iload_n hx hb dX4_needed_0 rfl (lv_at hl 1 rfl) ?_
  refine lv_iload_n hx hb dX4_needed_1 rfl (lv_at hl 2 rfl) ?_
  obtain ⟨q2, e2, h⟩ := bd_some h
  refine g_roS (wc := ([] : va_W)) ⟨hx, hb, hml, hown, hts⟩ hE hK hP hS [] rfl (mX4_notLoad l dC dI cI cC sk  p1 p2 q2 e2) (va_cwS 2 hts gX4_needed_X4_notLoad rfl rfl rfl (by decide +kernel) ⟨Nat.le_of_ble_eq_true rfl, Nat.le_of_ble_eq_true rfl⟩) (As := [.int p1, .int p2]) (rest := []) rfl hl.1 rfl (Nat.le_of_ble_eq_true rfl) dX4_needed_2 ⟨Nat.zero_le _, Nat.zero_le _⟩ (fun H locs hP hS => ?_)
  refine lv_istore_n (lv' := [(3, .int q2), (0, .ref (f 0)), (1, .int p1), (2, .int p2)]) hx hb dX4_needed_5 rfl hl (by decide) rfl (fun ls hl => ?_)
  refine lv_iload_n hx hb dX4_needed_6 rfl (lv_at hl 0 rfl) ?_
  refine lv_if_eq (tgt := 16) hx hb dX4_needed_7 (by decide) (fun c7 => ?_) (fun c7 => ?_)
  · have h := itT c7 h
    refine lv_aload_n hx hb dX4_needed_16 rfl (lv_at hl 1 rfl) ?_
    refine lv_iload_n hx hb dX4_needed_17 rfl (lv_at hl 2 rfl) ?_
    refine lv_iload_n hx hb dX4_needed_18 rfl (lv_at hl 3 rfl) ?_
    refine lv_aload_n hx hb dX4_needed_19 rfl (lv_at hl 1 rfl) ?_
    refine va_get (D := (dC, dI)) (ci := 4) (v := .int (R_minute c_r)) (C := RX4) (T := TX4) (N := 28) hx hb hts hiX4 hown hK hP 0 rfl rfl 8 (by decide) hw1 (fun _ h9 => h9) rfl dX4_needed_20 ?_
    obtain ⟨q23, e23, h⟩ := bd_some h
    refine g_roV (wc := (zwM cI cC f c_r c_refused c_tape c_letter c_letterAt c_number c_taped c_at c_statements c_kept c_hasImage c_isKeeping c_cursor c_poled c_barred c_leapsTo c_leapsThen c_lands c_row c_rowMany c_endsAt)) ⟨hx, hb, hml, hown, hts⟩ hE hK hP hS [0, 1, 2, 3, 4, 5, 6, 7, 8, 9, 10, 11, 12, 13, 14, 15] rfl (mX4_soonestFrom l dC dI cI cC sk f p1 p2 (R_minute c_r) c_r c_refused c_tape c_letter c_letterAt c_number c_taped c_at c_statements c_kept c_hasImage c_isKeeping c_cursor c_poled c_barred c_leapsTo c_leapsThen c_lands c_row c_rowMany c_endsAt q23 e23) (cwV 3 hts gX4_needed_X4_soonestFrom rfl rfl rfl (by decide +kernel) ⟨Nat.le_of_ble_eq_true rfl, Nat.le_of_ble_eq_true rfl⟩) (va_recv hK hP (ci := 4) (q0 := 0) rfl rfl) (As := [.int p1, .int p2, .int (R_minute c_r)]) (rest := []) rfl hl.1 rfl (Nat.le_of_ble_eq_true rfl) dX4_needed_23 ⟨Nat.zero_le _, Nat.zero_le _⟩ (fun H locs hP hS => ?_)
    refine lv_if_ge (tgt := 31) hx hb dX4_needed_26 (by decide) (fun c26 => ?_) (fun c26 => ?_)
    · have h := itT c26 h
      refine lv_iconst (v := (0 : Int32)) hx hb dX4_needed_31 (by decide) ?_
      refine lv_istore (lv' := [(4, .int (0 : Int32)), (3, .int q2), (0, .ref (f 0)), (1, .int p1), (2, .int p2)]) hx hb dX4_needed_32 hl (by decide) rfl (fun ls hl => ?_)
      refine lv_iconst (v := (0 : Int32)) hx hb dX4_needed_34 (by decide) ?_
      refine lv_istore (lv' := [(5, .int (0 : Int32)), (4, .int (0 : Int32)), (3, .int q2), (0, .ref (f 0)), (1, .int p1), (2, .int p2)]) hx hb dX4_needed_35 hl (by decide) rfl (fun ls hl => ?_)
      have L37 : ∀ (K37 : Int32 → Int32 → Option (Int32 × AR × Int32)), (∀ (k37_4 : Int32) (k37_barred : Int32), K37 k37_4 k37_barred = some z → ∀ (H : Heap) (locs : List Loc) (ls : Array Slot), va_P (dC, dI) vwCl (zwM cI cC f c_r c_refused c_tape c_letter c_letterAt c_number c_taped c_at c_statements c_kept c_hasImage c_isKeeping c_cursor c_poled k37_barred c_leapsTo c_leapsThen c_lands c_row c_rowMany c_endsAt) H → va_D A (zwM cI cC f c_r c_refused c_tape c_letter c_letterAt c_number c_taped c_at c_statements c_kept c_hasImage c_isKeeping c_cursor c_poled k37_barred c_leapsTo c_leapsThen c_lands c_row c_rowMany c_endsAt) → va_S A s.heap H locs → lv_has ls 6 [(0, .ref (f 0)), (4, .int k37_4)] → W p l e (RMk 6 143) s m args below meth c H locs 0 0 Q (F0 m 86 ls [])) → ∀ (n : Nat) (x37_4 : Int32) (x37_5 : Int32) (x37_barred : Int32), fX4_needed_L37 c_poled c_r p1 p2 K37 n x37_4 x37_5 x37_barred = some z → ∀ (H : Heap) (locs : List Loc) (ls : Array Slot), va_P (dC, dI) vwCl (zwM cI cC f c_r c_refused c_tape c_letter c_letterAt c_number c_taped c_at c_statements c_kept c_hasImage c_isKeeping c_cursor c_poled x37_barred c_leapsTo c_leapsThen c_lands c_row c_rowMany c_endsAt) H → va_D A (zwM cI cC f c_r c_refused c_tape c_letter c_letterAt c_number c_taped c_at c_statements c_kept c_hasImage c_isKeeping c_cursor c_poled x37_barred c_leapsTo c_leapsThen c_lands c_row c_rowMany c_endsAt) → va_S A s.heap H locs → lv_has ls 6 [(0, .ref (f 0)), (1, .int p1), (2, .int p2), (4, .int x37_4), (5, .int x37_5)] → W p l e (RMk 6 143) s m args below meth c H locs 0 0 Q (F0 m 37 ls []) := by
        intro K37 kx37 n
        induction n with
        | zero => intro x37_4 x37_5 x37_barred h; rw [fX4_needed_L37] at h; cases h
        | succ n ih37 =>
          intro x37_4 x37_5 x37_barred h H locs ls hP hD hS hl
          rw [fX4_needed_L37] at h
          refine lv_iload hx hb dX4_needed_37 (lv_at hl 4 rfl) ?_
          refine lv_aload_n hx hb dX4_needed_39 rfl (lv_at hl 0 rfl) ?_
          refine va_get (D := (dC, dI)) (ci := 4) (v := .int (R_floes c_r)) (C := RX4) (T := TX4) (N := 28) hx hb hts hiX4 hown hK hP 0 rfl rfl 6 (by decide) hw2 (fun _ h9 => h9) rfl dX4_needed_40 ?_
          refine lv_icmp_ge (tgt := 86) hx hb dX4_needed_43 (by decide) (fun c43 => ?_) (fun c43 => ?_)
          · have h := itT c43 h
            exact kx37 _ _ h _ _ _ hP hD hS (lv_sub hl [0, 3] rfl)
          have h := itF c43 h
          refine lv_aload_n hx hb dX4_needed_46 rfl (lv_at hl 0 rfl) ?_
          refine lv_iconst (v := (1 : Int32)) hx hb dX4_needed_47 (by decide) ?_
          refine lv_iload hx hb dX4_needed_48 (lv_at hl 4 rfl) ?_
          refine lv_ishl hx hb dX4_needed_50 ?_
          refine va_put (D := (dC, dI)) (ci := 4) (v := .int ((1 : Int32) <<< (x37_5 &&& 31))) (ty := .int) (C := RX4) (T := TX4) (N := 28) hx hb hts hiX4 tyX4 tyX4_ok nmX4 hown hK hP hD hS 0 rfl rfl 21 (by decide) hw3 (fun _ h9 => h9) rfl (by decide +kernel) rfl rfl (Nat.le_of_ble_eq_true rfl) dX4_needed_51 (fun H locs hP hD hS => ?_)
          have hP : va_P (dC, dI) vwCl (zwM cI cC f c_r c_refused c_tape c_letter c_letterAt c_number c_taped c_at c_statements c_kept c_hasImage c_isKeeping c_cursor c_poled ((1 : Int32) <<< (x37_5 &&& 31)) c_leapsTo c_leapsThen c_lands c_row c_rowMany c_endsAt) H := hP
          have hD : va_D A (zwM cI cC f c_r c_refused c_tape c_letter c_letterAt c_number c_taped c_at c_statements c_kept c_hasImage c_isKeeping c_cursor c_poled ((1 : Int32) <<< (x37_5 &&& 31)) c_leapsTo c_leapsThen c_lands c_row c_rowMany c_endsAt) := hD
          refine lv_iload hx hb dX4_needed_54 (lv_at hl 3 rfl) ?_
          refine lv_aload_n hx hb dX4_needed_56 rfl (lv_at hl 0 rfl) ?_
          refine lv_iload_n hx hb dX4_needed_57 rfl (lv_at hl 1 rfl) ?_
          refine lv_iload_n hx hb dX4_needed_58 rfl (lv_at hl 2 rfl) ?_
          refine lv_aload_n hx hb dX4_needed_59 rfl (lv_at hl 0 rfl) ?_
          refine va_get (D := (dC, dI)) (ci := 4) (v := .int (R_minute c_r)) (C := RX4) (T := TX4) (N := 28) hx hb hts hiX4 hown hK hP 0 rfl rfl 8 (by decide) hw1 (fun _ h9 => h9) rfl dX4_needed_60 ?_
          obtain ⟨q63, e63, h⟩ := bd_some h
          refine g_roV (wc := (zwM cI cC f c_r c_refused c_tape c_letter c_letterAt c_number c_taped c_at c_statements c_kept c_hasImage c_isKeeping c_cursor c_poled ((1 : Int32) <<< (x37_5 &&& 31)) c_leapsTo c_leapsThen c_lands c_row c_rowMany c_endsAt)) ⟨hx, hb, hml, hown, hts⟩ hE hK hP hS [0, 1, 2, 3, 4, 5, 6, 7, 8, 9, 10, 11, 12, 13, 14, 15] rfl (mX4_soonestFrom l dC dI cI cC sk f p1 p2 (R_minute c_r) c_r c_refused c_tape c_letter c_letterAt c_number c_taped c_at c_statements c_kept c_hasImage c_isKeeping c_cursor c_poled ((1 : Int32) <<< (x37_5 &&& 31)) c_leapsTo c_leapsThen c_lands c_row c_rowMany c_endsAt q63 e63) (cwV 3 hts gX4_needed_X4_soonestFrom rfl rfl rfl (by decide +kernel) ⟨Nat.le_of_ble_eq_true rfl, Nat.le_of_ble_eq_true rfl⟩) (va_recv hK hP (ci := 4) (q0 := 0) rfl rfl) (As := [.int p1, .int p2, .int (R_minute c_r)]) (rest := [.int x37_4]) rfl hl.1 rfl (Nat.le_of_ble_eq_true rfl) dX4_needed_63 ⟨Nat.zero_le _, Nat.zero_le _⟩ (fun H locs hP hS => ?_)
          refine lv_if_ge (tgt := 76) hx hb dX4_needed_66 (by decide) (fun c66 => ?_) (fun c66 => ?_)
          · have h := itT c66 h
            refine lv_iconst (v := (0 : Int32)) hx hb dX4_needed_76 (by decide) ?_
            refine lv_ior hx hb dX4_needed_77 ?_
            refine lv_istore (lv' := [(4, .int (x37_4 ||| (0 : Int32))), (0, .ref (f 0)), (1, .int p1), (2, .int p2), (5, .int x37_5)]) hx hb dX4_needed_78 hl (by decide) rfl (fun ls hl => ?_)
            refine lv_iinc (v := (x37_5 + (1 : Int32))) (lv' := [(5, .int (x37_5 + (1 : Int32))), (4, .int (x37_4 ||| (0 : Int32))), (0, .ref (f 0)), (1, .int p1), (2, .int p2)]) hx hb dX4_needed_80 hl (k := 4) rfl rfl (by decide) rfl (fun ls hl => ?_)
            refine lv_goto (tgt := 37) hx hb dX4_needed_83 (by decide) ?_
            exact ih37 _ _ _ h _ _ _ hP hD hS (lv_sub hl [2, 3, 4, 1, 0] rfl)
          have h := itF c66 h
          refine lv_iconst (v := (1 : Int32)) hx hb dX4_needed_69 (by decide) ?_
          refine lv_iload hx hb dX4_needed_70 (lv_at hl 4 rfl) ?_
          refine lv_ishl hx hb dX4_needed_72 ?_
          refine lv_goto (tgt := 77) hx hb dX4_needed_73 (by decide) ?_
          refine lv_ior hx hb dX4_needed_77 ?_
          refine lv_istore (lv' := [(4, .int (x37_4 ||| ((1 : Int32) <<< (x37_5 &&& 31)))), (0, .ref (f 0)), (1, .int p1), (2, .int p2), (5, .int x37_5)]) hx hb dX4_needed_78 hl (by decide) rfl (fun ls hl => ?_)
          refine lv_iinc (v := (x37_5 + (1 : Int32))) (lv' := [(5, .int (x37_5 + (1 : Int32))), (4, .int (x37_4 ||| ((1 : Int32) <<< (x37_5 &&& 31)))), (0, .ref (f 0)), (1, .int p1), (2, .int p2)]) hx hb dX4_needed_80 hl (k := 4) rfl rfl (by decide) rfl (fun ls hl => ?_)
          refine lv_goto (tgt := 37) hx hb dX4_needed_83 (by decide) ?_
          exact ih37 _ _ _ h _ _ _ hP hD hS (lv_sub hl [2, 3, 4, 1, 0] rfl)
      refine L37 _ (fun k37_4 k37_barred h H locs ls hP hD hS hl => ?_) _ _ _ _ h _ _ _ hP hD hS (lv_sub hl [3, 4, 5, 1, 0] rfl)
      refine lv_aload_n hx hb dX4_needed_86 rfl (lv_at hl 0 rfl) ?_
      refine lv_iconst (v := (0 : Int32)) hx hb dX4_needed_87 (by decide) ?_
      refine va_put (D := (dC, dI)) (ci := 4) (v := .int (0 : Int32)) (ty := .int) (C := RX4) (T := TX4) (N := 28) hx hb hts hiX4 tyX4 tyX4_ok nmX4 hown hK hP hD hS 0 rfl rfl 21 (by decide) hw3 (fun _ h9 => h9) rfl (by decide +kernel) rfl rfl (Nat.le_of_ble_eq_true rfl) dX4_needed_88 (fun H locs hP hD hS => ?_)
      have hP : va_P (dC, dI) vwCl (zwM cI cC f c_r c_refused c_tape c_letter c_letterAt c_number c_taped c_at c_statements c_kept c_hasImage c_isKeeping c_cursor c_poled (0 : Int32) c_leapsTo c_leapsThen c_lands c_row c_rowMany c_endsAt) H := hP
      have hD : va_D A (zwM cI cC f c_r c_refused c_tape c_letter c_letterAt c_number c_taped c_at c_statements c_kept c_hasImage c_isKeeping c_cursor c_poled (0 : Int32) c_leapsTo c_leapsThen c_lands c_row c_rowMany c_endsAt) := hD
      refine lv_iload hx hb dX4_needed_91 (lv_at hl 1 rfl) ?_
      subst hQ
      exact retRW (zz := ((k37_4, c_refused, (0 : Int32)) : Int32 × AR × Int32)) (fun z => z.1) (fun z => (zwM cI cC f c_r z.2.1 c_tape c_letter c_letterAt c_number c_taped c_at c_statements c_kept c_hasImage c_isKeeping c_cursor c_poled z.2.2 c_leapsTo c_leapsThen c_lands c_row c_rowMany c_endsAt)) hx hb hr hlocks rfl hS h rfl hP dX4_needed_93
    have h := itF c26 h
    refine lv_iconst (v := (0 : Int32)) hx hb dX4_needed_29 (by decide) ?_
    subst hQ
    exact retRW (zz := (((0 : Int32), c_refused, c_barred) : Int32 × AR × Int32)) (fun z => z.1) (fun z => (zwM cI cC f c_r z.2.1 c_tape c_letter c_letterAt c_number c_taped c_at c_statements c_kept c_hasImage c_isKeeping c_cursor c_poled z.2.2 c_leapsTo c_leapsThen c_lands c_row c_rowMany c_endsAt)) hx hb hr hlocks rfl hS h rfl hP dX4_needed_30
  have h := itF c7 h
  refine lv_aload_n hx hb dX4_needed_10 rfl (lv_at hl 1 rfl) ?_
  refine lv_iload_n hx hb dX4_needed_11 rfl (lv_at hl 0 rfl) ?_
  obtain ⟨q12, e12, h⟩ := bd_some h
  refine g_rwV (wc := (zwM cI cC f c_r c_refused c_tape c_letter c_letterAt c_number c_taped c_at c_statements c_kept c_hasImage c_isKeeping c_cursor c_poled c_barred c_leapsTo c_leapsThen c_lands c_row c_rowMany c_endsAt)) (wc' := (zwM cI cC f c_r q12.2 c_tape c_letter c_letterAt c_number c_taped c_at c_statements c_kept c_hasImage c_isKeeping c_cursor c_poled c_barred c_leapsTo c_leapsThen c_lands c_row c_rowMany c_endsAt)) ⟨hx, hb, hml, hown, hts⟩ hE hK hA hP hD hS [0, 1, 2, 3, 4, 5, 6, 7, 8, 9, 10, 11, 12, 13, 14, 15] rfl rfl rfl (mX4_no l dC dI cI cC sk f H.size q2 c_r c_refused c_tape c_letter c_letterAt c_number c_taped c_at c_statements c_kept c_hasImage c_isKeeping c_cursor c_poled c_barred c_leapsTo c_leapsThen c_lands c_row c_rowMany c_endsAt q12 e12) (cwV 1 hts gX4_needed_X4_no rfl rfl rfl (by decide +kernel) ⟨Nat.le_of_ble_eq_true rfl, Nat.le_of_ble_eq_true rfl⟩) (va_recv hK hP (ci := 4) (q0 := 0) rfl rfl) (As := [.int q2]) (rest := []) rfl hl.1 rfl (Nat.le_of_ble_eq_true rfl) dX4_needed_12 ⟨Nat.zero_le _, Nat.zero_le _⟩ (fun H locs hP hD hS => ?_)
  have hP : va_P (dC, dI) vwCl (zwM cI cC f c_r q12.2 c_tape c_letter c_letterAt c_number c_taped c_at c_statements c_kept c_hasImage c_isKeeping c_cursor c_poled c_barred c_leapsTo c_leapsThen c_lands c_row c_rowMany c_endsAt) H := hP
  have hD : va_D A (zwM cI cC f c_r q12.2 c_tape c_letter c_letterAt c_number c_taped c_at c_statements c_kept c_hasImage c_isKeeping c_cursor c_poled c_barred c_leapsTo c_leapsThen c_lands c_row c_rowMany c_endsAt) := hD
  subst hQ
  exact retRW (zz := ((q12.1, q12.2, c_barred) : Int32 × AR × Int32)) (fun z => z.1) (fun z => (zwM cI cC f c_r z.2.1 c_tape c_letter c_letterAt c_number c_taped c_at c_statements c_kept c_hasImage c_isKeeping c_cursor c_poled z.2.2 c_leapsTo c_leapsThen c_lands c_row c_rowMany c_endsAt)) hx hb hr hlocks rfl hS h rfl hP dX4_needed_15
theorem dX4_bits_0 : decode cX4_bits 0 = .ok (.iconst 0, 1) := by decide +kernel
theorem dX4_bits_1 : decode cX4_bits 1 = .ok (.istore_n 1, 1) := by decide +kernel
theorem dX4_bits_2 : decode cX4_bits 2 = .ok (.iconst 0, 1) := by decide +kernel
theorem dX4_bits_3 : decode cX4_bits 3 = .ok (.istore_n 2, 1) := by decide +kernel
theorem dX4_bits_4 : decode cX4_bits 4 = .ok (.iload_n 2, 1) := by decide +kernel
theorem dX4_bits_5 : decode cX4_bits 5 = .ok (.bipush 31, 2) := by decide +kernel
theorem dX4_bits_7 : decode cX4_bits 7 = .ok (.if_icmp .ge 17, 3) := by decide +kernel
theorem dX4_bits_10 : decode cX4_bits 10 = .ok (.iload_n 1, 1) := by decide +kernel
theorem dX4_bits_11 : decode cX4_bits 11 = .ok (.iload_n 0, 1) := by decide +kernel
theorem dX4_bits_12 : decode cX4_bits 12 = .ok (.iload_n 2, 1) := by decide +kernel
theorem dX4_bits_13 : decode cX4_bits 13 = .ok (.ishr, 1) := by decide +kernel
theorem dX4_bits_14 : decode cX4_bits 14 = .ok (.iconst 1, 1) := by decide +kernel
theorem dX4_bits_15 : decode cX4_bits 15 = .ok (.iand, 1) := by decide +kernel
theorem dX4_bits_16 : decode cX4_bits 16 = .ok (.iadd, 1) := by decide +kernel
theorem dX4_bits_17 : decode cX4_bits 17 = .ok (.istore_n 1, 1) := by decide +kernel
theorem dX4_bits_18 : decode cX4_bits 18 = .ok (.iinc 2 1, 3) := by decide +kernel
theorem dX4_bits_21 : decode cX4_bits 21 = .ok (.goto (-17), 3) := by decide +kernel
theorem dX4_bits_24 : decode cX4_bits 24 = .ok (.iload_n 1, 1) := by decide +kernel
theorem dX4_bits_25 : decode cX4_bits 25 = .ok (.ireturn, 1) := by decide +kernel
set_option maxHeartbeats 4000000 in
set_option maxRecDepth 100000 in
theorem mX4_bits (l : Launch) (dC : Nat → ClassId) (dI : Nat → Nat → Nat) (cI cC : ClassId) (sk : (Nat → Nat) × (Nat → Nat))  (p0 : Int32)  (z : Int32) (h : fX4_bits p0 = some z) : cRO l yX4_bits wsX4_bits (RMk 0 0) sk (dC, dI) (tyz cI cC) ([] : va_W) [.int p0] z := by
  refine ofRO (cc := cX4_bits) (maxL := 3) (ret := (some .int)) (own := RX4) (plainFor_of_name (by decide)) rfl rfl (Nat.le_of_ble_eq_true rfl) ?_
  intro p e s m args below meth c hx hb hml hr hts hown hlocks hE hK hP hS ls hl
  generalize hQ : qRO _ _ _ _ = Q
  have hl : lv_has ls 3 [(0, .int p0)] := hl
  rw [fX4_bits] at h
  refine lv_iconst (v := (0 : Int32)) hx hb dX4_bits_0 (by decide) ?_
  refine lv_istore_n (lv' := [(1, .int (0 : Int32)), (0, .int p0)]) hx hb dX4_bits_1 rfl hl (by decide) rfl (fun ls hl => ?_)
  refine lv_iconst (v := (0 : Int32)) hx hb dX4_bits_2 (by decide) ?_
  refine lv_istore_n (lv' := [(2, .int (0 : Int32)), (1, .int (0 : Int32)), (0, .int p0)]) hx hb dX4_bits_3 rfl hl (by decide) rfl (fun ls hl => ?_)
  have L4 : ∀ (K4 : Int32 → Option (Int32)), (∀ (k4_1 : Int32), K4 k4_1 = some z → ∀ (H : Heap) (locs : List Loc) (ls : Array Slot), va_P (dC, dI) vwCl ([] : va_W) H → va_S noA s.heap H locs → lv_has ls 3 [(1, .int k4_1)] → W p l e (RMk 0 0) s m args below meth c H locs 0 0 Q (F0 m 24 ls [])) → ∀ (n : Nat) (x4_1 : Int32) (x4_2 : Int32), fX4_bits_L4 p0 K4 n x4_1 x4_2 = some z → ∀ (H : Heap) (locs : List Loc) (ls : Array Slot), va_P (dC, dI) vwCl ([] : va_W) H → va_S noA s.heap H locs → lv_has ls 3 [(0, .int p0), (1, .int x4_1), (2, .int x4_2)] → W p l e (RMk 0 0) s m args below meth c H locs 0 0 Q (F0 m 4 ls []) := by
    intro K4 kx4 n
    induction n with
    | zero => intro x4_1 x4_2 h; rw [fX4_bits_L4] at h; cases h
    | succ n ih4 =>
      intro x4_1 x4_2 h H locs ls hP hS hl
      rw [fX4_bits_L4] at h
      refine lv_iload_n hx hb dX4_bits_4 rfl (lv_at hl 2 rfl) ?_
      refine lv_bipush (v := (31 : Int32)) hx hb dX4_bits_5 (by decide) ?_
      refine lv_icmp_ge (tgt := 24) hx hb dX4_bits_7 (by decide) (fun c7 => ?_) (fun c7 => ?_)
      · have h := itT c7 h
        exact kx4 _ h _ _ _ hP hS (lv_sub hl [1] rfl)
      have h := itF c7 h
      refine lv_iload_n hx hb dX4_bits_10 rfl (lv_at hl 1 rfl) ?_
      refine lv_iload_n hx hb dX4_bits_11 rfl (lv_at hl 0 rfl) ?_
      refine lv_iload_n hx hb dX4_bits_12 rfl (lv_at hl 2 rfl) ?_
      refine lv_ishr hx hb dX4_bits_13 ?_
      refine lv_iconst (v := (1 : Int32)) hx hb dX4_bits_14 (by decide) ?_
      refine lv_iand hx hb dX4_bits_15 ?_
      refine lv_iadd hx hb dX4_bits_16 ?_
      refine lv_istore_n (lv' := [(1, .int (x4_1 + ((p0 >>> (x4_2 &&& 31)) &&& (1 : Int32)))), (0, .int p0), (2, .int x4_2)]) hx hb dX4_bits_17 rfl hl (by decide) rfl (fun ls hl => ?_)
      refine lv_iinc (v := (x4_2 + (1 : Int32))) (lv' := [(2, .int (x4_2 + (1 : Int32))), (1, .int (x4_1 + ((p0 >>> (x4_2 &&& 31)) &&& (1 : Int32)))), (0, .int p0)]) hx hb dX4_bits_18 hl (k := 2) rfl rfl (by decide) rfl (fun ls hl => ?_)
      refine lv_goto (tgt := 4) hx hb dX4_bits_21 (by decide) ?_
      exact ih4 _ _ h _ _ _ hP hS (lv_sub hl [2, 1, 0] rfl)
  refine L4 _ (fun k4_1 h H locs ls hP hS hl => ?_) _ _ _ h _ _ _ hP hS (lv_sub hl [2, 1, 0] rfl)
  refine lv_iload_n hx hb dX4_bits_24 rfl (lv_at hl 0 rfl) ?_
  subst hQ
  exact retRO hx hb hr hlocks rfl hS h dX4_bits_25
theorem dX4_floeBit_0 : decode cX4_floeBit 0 = .ok (.iload_n 1, 1) := by decide +kernel
theorem dX4_floeBit_1 : decode cX4_floeBit 1 = .ok (.iconst 1, 1) := by decide +kernel
theorem dX4_floeBit_2 : decode cX4_floeBit 2 = .ok (.if_icmp .ne 23, 3) := by decide +kernel
theorem dX4_floeBit_5 : decode cX4_floeBit 5 = .ok (.iload_n 0, 1) := by decide +kernel
theorem dX4_floeBit_6 : decode cX4_floeBit 6 = .ok (.bipush 10, 2) := by decide +kernel
theorem dX4_floeBit_8 : decode cX4_floeBit 8 = .ok (.bipush 17, 2) := by decide +kernel
theorem dX4_floeBit_10 : decode cX4_floeBit 10 = .ok (.invokestatic 62, 3) := by decide +kernel
theorem dX4_floeBit_13 : decode cX4_floeBit 13 = .ok (.ifCond .eq 12, 3) := by decide +kernel
theorem dX4_floeBit_16 : decode cX4_floeBit 16 = .ok (.iconst 1, 1) := by decide +kernel
theorem dX4_floeBit_17 : decode cX4_floeBit 17 = .ok (.iload_n 0, 1) := by decide +kernel
theorem dX4_floeBit_18 : decode cX4_floeBit 18 = .ok (.bipush 10, 2) := by decide +kernel
theorem dX4_floeBit_20 : decode cX4_floeBit 20 = .ok (.isub, 1) := by decide +kernel
theorem dX4_floeBit_21 : decode cX4_floeBit 21 = .ok (.ishl, 1) := by decide +kernel
theorem dX4_floeBit_22 : decode cX4_floeBit 22 = .ok (.goto 4, 3) := by decide +kernel
theorem dX4_floeBit_25 : decode cX4_floeBit 25 = .ok (.iconst 0, 1) := by decide +kernel
theorem dX4_floeBit_26 : decode cX4_floeBit 26 = .ok (.ireturn, 1) := by decide +kernel
set_option maxRecDepth 20000 in
theorem ggX4_floeBit_X4_isIn : GoodIn wsX4_floeBit wsX4_isIn := goodIn_r _ [4] (by decide +kernel) (by decide +kernel)
set_option maxRecDepth 20000 in
theorem gX4_floeBit_X4_isIn : GoodIn wsX4_floeBit (va_wsS RX4 62 yX4_isIn wsX4_isIn) := goodIn_app (goodIn_of _ (by decide +kernel)) ggX4_floeBit_X4_isIn
set_option maxHeartbeats 4000000 in
set_option maxRecDepth 100000 in
theorem mX4_floeBit (l : Launch) (dC : Nat → ClassId) (dI : Nat → Nat → Nat) (cI cC : ClassId) (sk : (Nat → Nat) × (Nat → Nat))  (p0 : Int32) (p1 : Int32)  (z : Int32) (h : fX4_floeBit p0 p1 = some z) : cRO l yX4_floeBit wsX4_floeBit (RMk 1 22) sk (dC, dI) (tyz cI cC) ([] : va_W) [.int p0, .int p1] z := by
  refine ofRO (cc := cX4_floeBit) (maxL := 2) (ret := (some .int)) (own := RX4) (plainFor_of_name (by decide)) rfl rfl (Nat.le_of_ble_eq_true rfl) ?_
  intro p e s m args below meth c hx hb hml hr hts hown hlocks hE hK hP hS ls hl
  generalize hQ : qRO _ _ _ _ = Q
  have hl : lv_has ls 2 [(0, .int p0), (1, .int p1)] := hl
  rw [fX4_floeBit] at h
  refine lv_iload_n hx hb dX4_floeBit_0 rfl (lv_at hl 1 rfl) ?_
  refine lv_iconst (v := (1 : Int32)) hx hb dX4_floeBit_1 (by decide) ?_
  refine lv_icmp_ne (tgt := 25) hx hb dX4_floeBit_2 (by decide) (fun c2 => ?_) (fun c2 => ?_)
  · have h := itF c2 h
    refine lv_iconst (v := (0 : Int32)) hx hb dX4_floeBit_25 (by decide) ?_
    subst hQ
    exact retRO hx hb hr hlocks rfl hS h dX4_floeBit_26
  have h := itT c2 h
  refine lv_iload_n hx hb dX4_floeBit_5 rfl (lv_at hl 0 rfl) ?_
  refine lv_bipush (v := (10 : Int32)) hx hb dX4_floeBit_6 (by decide) ?_
  refine lv_bipush (v := (17 : Int32)) hx hb dX4_floeBit_8 (by decide) ?_
  obtain ⟨q10, e10, h⟩ := bd_some h
  refine g_roS (wc := ([] : va_W)) ⟨hx, hb, hml, hown, hts⟩ hE hK hP hS [] rfl (mX4_isIn l dC dI cI cC sk  p0 (10 : Int32) (17 : Int32) q10 e10) (va_cwS 3 hts gX4_floeBit_X4_isIn rfl rfl rfl (by decide +kernel) ⟨Nat.le_of_ble_eq_true rfl, Nat.le_of_ble_eq_true rfl⟩) (As := [.int p0, .int (10 : Int32), .int (17 : Int32)]) (rest := []) rfl hl.1 rfl (Nat.le_of_ble_eq_true rfl) dX4_floeBit_10 ⟨Nat.zero_le _, Nat.zero_le _⟩ (fun H locs hP hS => ?_)
  refine lv_if_eq (tgt := 25) hx hb dX4_floeBit_13 (by decide) (fun c13 => ?_) (fun c13 => ?_)
  · have h := itT c13 h
    refine lv_iconst (v := (0 : Int32)) hx hb dX4_floeBit_25 (by decide) ?_
    subst hQ
    exact retRO hx hb hr hlocks rfl hS h dX4_floeBit_26
  have h := itF c13 h
  refine lv_iconst (v := (1 : Int32)) hx hb dX4_floeBit_16 (by decide) ?_
  refine lv_iload_n hx hb dX4_floeBit_17 rfl (lv_at hl 0 rfl) ?_
  refine lv_bipush (v := (10 : Int32)) hx hb dX4_floeBit_18 (by decide) ?_
  refine lv_isub hx hb dX4_floeBit_20 ?_
  refine lv_ishl hx hb dX4_floeBit_21 ?_
  refine lv_goto (tgt := 26) hx hb dX4_floeBit_22 (by decide) ?_
  subst hQ
  exact retRO hx hb hr hlocks rfl hS h dX4_floeBit_26
theorem dX4_landsFrom_0 : decode cX4_landsFrom 0 = .ok (.iconst 0, 1) := by decide +kernel
theorem dX4_landsFrom_1 : decode cX4_landsFrom 1 = .ok (.istore 5, 2) := by decide +kernel
theorem dX4_landsFrom_3 : decode cX4_landsFrom 3 = .ok (.iconst 0, 1) := by decide +kernel
theorem dX4_landsFrom_4 : decode cX4_landsFrom 4 = .ok (.istore 6, 2) := by decide +kernel
theorem dX4_landsFrom_6 : decode cX4_landsFrom 6 = .ok (.iload 6, 2) := by decide +kernel
theorem dX4_landsFrom_8 : decode cX4_landsFrom 8 = .ok (.bipush 19, 2) := by decide +kernel
theorem dX4_landsFrom_10 : decode cX4_landsFrom 10 = .ok (.if_icmp .ge 68, 3) := by decide +kernel
theorem dX4_landsFrom_13 : decode cX4_landsFrom 13 = .ok (.aload_n 0, 1) := by decide +kernel
theorem dX4_landsFrom_14 : decode cX4_landsFrom 14 = .ok (.iload_n 1, 1) := by decide +kernel
theorem dX4_landsFrom_15 : decode cX4_landsFrom 15 = .ok (.iload_n 2, 1) := by decide +kernel
theorem dX4_landsFrom_16 : decode cX4_landsFrom 16 = .ok (.iconst 2, 1) := by decide +kernel
theorem dX4_landsFrom_17 : decode cX4_landsFrom 17 = .ok (.idiv, 1) := by decide +kernel
theorem dX4_landsFrom_18 : decode cX4_landsFrom 18 = .ok (.invokestatic 192, 3) := by decide +kernel
theorem dX4_landsFrom_21 : decode cX4_landsFrom 21 = .ok (.iload 6, 2) := by decide +kernel
theorem dX4_landsFrom_23 : decode cX4_landsFrom 23 = .ok (.iload_n 2, 1) := by decide +kernel
theorem dX4_landsFrom_24 : decode cX4_landsFrom 24 = .ok (.iconst 2, 1) := by decide +kernel
theorem dX4_landsFrom_25 : decode cX4_landsFrom 25 = .ok (.irem, 1) := by decide +kernel
theorem dX4_landsFrom_26 : decode cX4_landsFrom 26 = .ok (.invokestatic 192, 3) := by decide +kernel
theorem dX4_landsFrom_29 : decode cX4_landsFrom 29 = .ok (.ior, 1) := by decide +kernel
theorem dX4_landsFrom_30 : decode cX4_landsFrom 30 = .ok (.putfield 132, 3) := by decide +kernel
theorem dX4_landsFrom_33 : decode cX4_landsFrom 33 = .ok (.iload 5, 2) := by decide +kernel
theorem dX4_landsFrom_35 : decode cX4_landsFrom 35 = .ok (.aload_n 0, 1) := by decide +kernel
theorem dX4_landsFrom_36 : decode cX4_landsFrom 36 = .ok (.iload_n 1, 1) := by decide +kernel
theorem dX4_landsFrom_37 : decode cX4_landsFrom 37 = .ok (.iload 6, 2) := by decide +kernel
theorem dX4_landsFrom_39 : decode cX4_landsFrom 39 = .ok (.iload_n 3, 1) := by decide +kernel
theorem dX4_landsFrom_40 : decode cX4_landsFrom 40 = .ok (.iload 4, 2) := by decide +kernel
theorem dX4_landsFrom_42 : decode cX4_landsFrom 42 = .ok (.invokevirtual 163, 3) := by decide +kernel
theorem dX4_landsFrom_45 : decode cX4_landsFrom 45 = .ok (.ifCond .ne 16, 3) := by decide +kernel
theorem dX4_landsFrom_48 : decode cX4_landsFrom 48 = .ok (.aload_n 0, 1) := by decide +kernel
theorem dX4_landsFrom_49 : decode cX4_landsFrom 49 = .ok (.iload_n 1, 1) := by decide +kernel
theorem dX4_landsFrom_50 : decode cX4_landsFrom 50 = .ok (.iload 6, 2) := by decide +kernel
theorem dX4_landsFrom_52 : decode cX4_landsFrom 52 = .ok (.iload_n 3, 1) := by decide +kernel
theorem dX4_landsFrom_53 : decode cX4_landsFrom 53 = .ok (.iload 4, 2) := by decide +kernel
theorem dX4_landsFrom_55 : decode cX4_landsFrom 55 = .ok (.invokevirtual 167, 3) := by decide +kernel
theorem dX4_landsFrom_58 : decode cX4_landsFrom 58 = .ok (.ifCond .eq 10, 3) := by decide +kernel
theorem dX4_landsFrom_61 : decode cX4_landsFrom 61 = .ok (.iconst 1, 1) := by decide +kernel
theorem dX4_landsFrom_62 : decode cX4_landsFrom 62 = .ok (.iload 6, 2) := by decide +kernel
theorem dX4_landsFrom_64 : decode cX4_landsFrom 64 = .ok (.ishl, 1) := by decide +kernel
theorem dX4_landsFrom_65 : decode cX4_landsFrom 65 = .ok (.goto 4, 3) := by decide +kernel
theorem dX4_landsFrom_68 : decode cX4_landsFrom 68 = .ok (.iconst 0, 1) := by decide +kernel
theorem dX4_landsFrom_69 : decode cX4_landsFrom 69 = .ok (.ior, 1) := by decide +kernel
theorem dX4_landsFrom_70 : decode cX4_landsFrom 70 = .ok (.istore 5, 2) := by decide +kernel
theorem dX4_landsFrom_72 : decode cX4_landsFrom 72 = .ok (.iinc 6 1, 3) := by decide +kernel
theorem dX4_landsFrom_75 : decode cX4_landsFrom 75 = .ok (.goto (-69), 3) := by decide +kernel
theorem dX4_landsFrom_78 : decode cX4_landsFrom 78 = .ok (.aload_n 0, 1) := by decide +kernel
theorem dX4_landsFrom_79 : decode cX4_landsFrom 79 = .ok (.iconst 0, 1) := by decide +kernel
theorem dX4_landsFrom_80 : decode cX4_landsFrom 80 = .ok (.putfield 132, 3) := by decide +kernel
theorem dX4_landsFrom_83 : decode cX4_landsFrom 83 = .ok (.iload 5, 2) := by decide +kernel
theorem dX4_landsFrom_85 : decode cX4_landsFrom 85 = .ok (.ireturn, 1) := by decide +kernel
set_option maxRecDepth 20000 in
theorem ggX4_landsFrom_X4_floeBit : GoodIn wsX4_landsFrom wsX4_floeBit := goodIn_r _ [5, 6, 7, 4, 8] (by decide +kernel) (by decide +kernel)
set_option maxRecDepth 20000 in
theorem gX4_landsFrom_X4_floeBit : GoodIn wsX4_landsFrom (va_wsS RX4 192 yX4_floeBit wsX4_floeBit) := goodIn_app (goodIn_of _ (by decide +kernel)) ggX4_landsFrom_X4_floeBit
set_option maxRecDepth 20000 in
theorem ggX4_landsFrom_X4_mayStay : GoodIn wsX4_landsFrom wsX4_mayStay := goodIn_r _ [12, 13, 14, 15, 4, 16, 17, 18, 19, 20, 21, 22, 23, 24, 25, 26, 27, 28, 29, 51, 52, 53, 54, 55, 56, 57, 58, 59, 60, 61, 62, 63, 64, 65, 66, 67, 68, 69, 70, 71, 72, 73, 74, 75, 76, 77, 78] (by decide +kernel) (by decide +kernel)
set_option maxRecDepth 20000 in
theorem gX4_landsFrom_X4_mayStay : GoodIn wsX4_landsFrom (wsV RX4 163 RX4 yX4_mayStay wsX4_mayStay) := goodIn_app (goodIn_of _ (by decide +kernel)) ggX4_landsFrom_X4_mayStay
set_option maxRecDepth 20000 in
theorem ggX4_landsFrom_X4_mayLeap : GoodIn wsX4_landsFrom wsX4_mayLeap := goodIn_r _ [33, 34, 35, 36, 6, 7, 4, 8, 13, 14, 15, 16, 17, 18, 19, 20, 21, 22, 23, 37, 38, 39, 40, 1, 41, 42, 43, 44, 45, 46, 27, 28, 29, 24, 25, 26, 47, 48, 49, 50, 51, 52, 53, 54, 55, 56, 57, 58, 59, 60, 61, 62, 63, 64, 65, 66, 67, 68, 69, 70, 71, 72, 73, 74, 75, 76, 77, 78] (by decide +kernel) (by decide +kernel)
set_option maxRecDepth 20000 in
theorem gX4_landsFrom_X4_mayLeap : GoodIn wsX4_landsFrom (wsV RX4 167 RX4 yX4_mayLeap wsX4_mayLeap) := goodIn_app (goodIn_of _ (by decide +kernel)) ggX4_landsFrom_X4_mayLeap
set_option maxHeartbeats 4000000 in
set_option maxRecDepth 100000 in
theorem mX4_landsFrom (l : Launch) (dC : Nat → ClassId) (dI : Nat → Nat → Nat) (cI cC : ClassId) (sk : (Nat → Nat) × (Nat → Nat)) (f : Nat → Nat) (sz : Nat) (p1 : Int32) (p2 : Int32) (p3 : Int32) (p4 : Int32) (c_r : RT) (c_refused : AR) (c_tape : AR) (c_letter : AR) (c_letterAt : AR) (c_number : AR) (c_taped : Int32) (c_at : Int32) (c_statements : Int32) (c_kept : AR) (c_hasImage : Int32) (c_isKeeping : Int32) (c_cursor : Int32) (c_poled : Int32) (c_barred : Int32) (c_leapsTo : AR) (c_leapsThen : AR) (c_lands : AR) (c_row : AR) (c_rowMany : Int32) (c_endsAt : Int32) (z : Int32 × Int32) (h : fX4_landsFrom p1 p2 p3 p4 c_r c_poled c_barred = some z) : cRW l yX4_landsFrom wsX4_landsFrom (RMk 4 92) sk (dC, dI) (tyz cI cC) sz (zwM cI cC f c_r c_refused c_tape c_letter c_letterAt c_number c_taped c_at c_statements c_kept c_hasImage c_isKeeping c_cursor c_poled c_barred c_leapsTo c_leapsThen c_lands c_row c_rowMany c_endsAt) (zwM cI cC f c_r c_refused c_tape c_letter c_letterAt c_number c_taped c_at c_statements c_kept c_hasImage c_isKeeping c_cursor z.2 c_barred c_leapsTo c_leapsThen c_lands c_row c_rowMany c_endsAt) [.ref (f 0), .int p1, .int p2, .int p3, .int p4] z.1 := by
  refine ofRW (cc := cX4_landsFrom) (maxL := 7) (ret := (some .int)) (own := RX4) (plainFor_of_name (by decide)) rfl rfl (Nat.le_of_ble_eq_true rfl) ?_
  intro p e s m args below meth c A hA hx hb hml hr hts hown hlocks hE hK hP hD hS ls hl
  generalize hQ : qRW _ _ _ _ _ _ _ = Q
  have hl : lv_has ls 7 [(0, .ref (f 0)), (1, .int p1), (2, .int p2), (3, .int p3), (4, .int p4)] := hl
  have hiX4 : ∀ w ∈ wsX40, w ∈ wsX4_landsFrom := fun w h => List.mem_cons_of_mem _ (List.mem_append_right _ h)
  have hw1 := hts (Cond.fieldLink RX4 132 "FloeToFloeModel" "poled" "I") (List.mem_of_getElem? (i := 1) rfl)
  rw [fX4_landsFrom] at h
  refine lv_iconst (v := (0 : Int32)) hx hb dX4_landsFrom_0 (by decide) ?_
  refine lv_istore (lv' := [(5, .int (0 : Int32)), (0, .ref (f 0)), (1, .int p1), (2, .int p2), (3, .int p3), (4, .int p4)]) hx hb dX4_landsFrom_1 hl (by decide) rfl (fun ls hl => ?_)
  refine lv_iconst (v := (0 : Int32)) hx hb dX4_landsFrom_3 (by decide) ?_
  refine lv_istore (lv' := [(6, .int (0 : Int32)), (5, .int (0 : Int32)), (0, .ref (f 0)), (1, .int p1), (2, .int p2), (3, .int p3), (4, .int p4)]) hx hb dX4_landsFrom_4 hl (by decide) rfl (fun ls hl => ?_)
  have L6 : ∀ (K6 : Int32 → Int32 → Option (Int32 × Int32)), (∀ (k6_5 : Int32) (k6_poled : Int32), K6 k6_5 k6_poled = some z → ∀ (H : Heap) (locs : List Loc) (ls : Array Slot), va_P (dC, dI) vwCl (zwM cI cC f c_r c_refused c_tape c_letter c_letterAt c_number c_taped c_at c_statements c_kept c_hasImage c_isKeeping c_cursor k6_poled c_barred c_leapsTo c_leapsThen c_lands c_row c_rowMany c_endsAt) H → va_D A (zwM cI cC f c_r c_refused c_tape c_letter c_letterAt c_number c_taped c_at c_statements c_kept c_hasImage c_isKeeping c_cursor k6_poled c_barred c_leapsTo c_leapsThen c_lands c_row c_rowMany c_endsAt) → va_S A s.heap H locs → lv_has ls 7 [(0, .ref (f 0)), (5, .int k6_5)] → W p l e (RMk 4 92) s m args below meth c H locs 0 0 Q (F0 m 78 ls [])) → ∀ (n : Nat) (x6_5 : Int32) (x6_6 : Int32) (x6_poled : Int32), fX4_landsFrom_L6 c_barred c_r p1 p2 p3 p4 K6 n x6_5 x6_6 x6_poled = some z → ∀ (H : Heap) (locs : List Loc) (ls : Array Slot), va_P (dC, dI) vwCl (zwM cI cC f c_r c_refused c_tape c_letter c_letterAt c_number c_taped c_at c_statements c_kept c_hasImage c_isKeeping c_cursor x6_poled c_barred c_leapsTo c_leapsThen c_lands c_row c_rowMany c_endsAt) H → va_D A (zwM cI cC f c_r c_refused c_tape c_letter c_letterAt c_number c_taped c_at c_statements c_kept c_hasImage c_isKeeping c_cursor x6_poled c_barred c_leapsTo c_leapsThen c_lands c_row c_rowMany c_endsAt) → va_S A s.heap H locs → lv_has ls 7 [(0, .ref (f 0)), (1, .int p1), (2, .int p2), (3, .int p3), (4, .int p4), (5, .int x6_5), (6, .int x6_6)] → W p l e (RMk 4 92) s m args below meth c H locs 0 0 Q (F0 m 6 ls []) := by
    intro K6 kx6 n
    induction n with
    | zero => intro x6_5 x6_6 x6_poled h; rw [fX4_landsFrom_L6] at h; cases h
    | succ n ih6 =>
      intro x6_5 x6_6 x6_poled h H locs ls hP hD hS hl
      rw [fX4_landsFrom_L6] at h
      refine lv_iload hx hb dX4_landsFrom_6 (lv_at hl 6 rfl) ?_
      refine lv_bipush (v := (19 : Int32)) hx hb dX4_landsFrom_8 (by decide) ?_
      refine lv_icmp_ge (tgt := 78) hx hb dX4_landsFrom_10 (by decide) (fun c10 => ?_) (fun c10 => ?_)
      · have h := itT c10 h
        exact kx6 _ _ h _ _ _ hP hD hS (lv_sub hl [0, 5] rfl)
      have h := itF c10 h
      refine lv_aload_n hx hb dX4_landsFrom_13 rfl (lv_at hl 0 rfl) ?_
      refine lv_iload_n hx hb dX4_landsFrom_14 rfl (lv_at hl 1 rfl) ?_
      refine lv_iload_n hx hb dX4_landsFrom_15 rfl (lv_at hl 2 rfl) ?_
      refine lv_iconst (v := (2 : Int32)) hx hb dX4_landsFrom_16 (by decide) ?_
      refine lv_idiv hx hb dX4_landsFrom_17 (by decide) ?_
      obtain ⟨q18, e18, h⟩ := bd_some h
      refine g_roS (wc := ([] : va_W)) ⟨hx, hb, hml, hown, hts⟩ hE hK hP hS [] rfl (mX4_floeBit l dC dI cI cC sk  p1 (p2 / (2 : Int32)) q18 e18) (va_cwS 2 hts gX4_landsFrom_X4_floeBit rfl rfl rfl (by decide +kernel) ⟨Nat.le_of_ble_eq_true rfl, Nat.le_of_ble_eq_true rfl⟩) (As := [.int p1, .int (p2 / (2 : Int32))]) (rest := [.ref (f 0)]) rfl hl.1 rfl (Nat.le_of_ble_eq_true rfl) dX4_landsFrom_18 ⟨Nat.zero_le _, Nat.zero_le _⟩ (fun H locs hP hS => ?_)
      refine lv_iload hx hb dX4_landsFrom_21 (lv_at hl 6 rfl) ?_
      refine lv_iload_n hx hb dX4_landsFrom_23 rfl (lv_at hl 2 rfl) ?_
      refine lv_iconst (v := (2 : Int32)) hx hb dX4_landsFrom_24 (by decide) ?_
      refine lv_irem hx hb dX4_landsFrom_25 (by decide) ?_
      obtain ⟨q26, e26, h⟩ := bd_some h
      refine g_roS (wc := ([] : va_W)) ⟨hx, hb, hml, hown, hts⟩ hE hK hP hS [] rfl (mX4_floeBit l dC dI cI cC sk  x6_6 (p2 - p2 / (2 : Int32) * (2 : Int32)) q26 e26) (va_cwS 2 hts gX4_landsFrom_X4_floeBit rfl rfl rfl (by decide +kernel) ⟨Nat.le_of_ble_eq_true rfl, Nat.le_of_ble_eq_true rfl⟩) (As := [.int x6_6, .int (p2 - p2 / (2 : Int32) * (2 : Int32))]) (rest := [.int q18, .ref (f 0)]) rfl hl.1 rfl (Nat.le_of_ble_eq_true rfl) dX4_landsFrom_26 ⟨Nat.zero_le _, Nat.zero_le _⟩ (fun H locs hP hS => ?_)
      refine lv_ior hx hb dX4_landsFrom_29 ?_
      refine va_put (D := (dC, dI)) (ci := 4) (v := .int (q18 ||| q26)) (ty := .int) (C := RX4) (T := TX4) (N := 28) hx hb hts hiX4 tyX4 tyX4_ok nmX4 hown hK hP hD hS 0 rfl rfl 20 (by decide) hw1 (fun _ h9 => h9) rfl (by decide +kernel) rfl rfl (Nat.le_of_ble_eq_true rfl) dX4_landsFrom_30 (fun H locs hP hD hS => ?_)
      have hP : va_P (dC, dI) vwCl (zwM cI cC f c_r c_refused c_tape c_letter c_letterAt c_number c_taped c_at c_statements c_kept c_hasImage c_isKeeping c_cursor (q18 ||| q26) c_barred c_leapsTo c_leapsThen c_lands c_row c_rowMany c_endsAt) H := hP
      have hD : va_D A (zwM cI cC f c_r c_refused c_tape c_letter c_letterAt c_number c_taped c_at c_statements c_kept c_hasImage c_isKeeping c_cursor (q18 ||| q26) c_barred c_leapsTo c_leapsThen c_lands c_row c_rowMany c_endsAt) := hD
      refine lv_iload hx hb dX4_landsFrom_33 (lv_at hl 5 rfl) ?_
      refine lv_aload_n hx hb dX4_landsFrom_35 rfl (lv_at hl 0 rfl) ?_
      refine lv_iload_n hx hb dX4_landsFrom_36 rfl (lv_at hl 1 rfl) ?_
      refine lv_iload hx hb dX4_landsFrom_37 (lv_at hl 6 rfl) ?_
      refine lv_iload_n hx hb dX4_landsFrom_39 rfl (lv_at hl 3 rfl) ?_
      refine lv_iload hx hb dX4_landsFrom_40 (lv_at hl 4 rfl) ?_
      obtain ⟨q42, e42, h⟩ := bd_some h
      refine g_roV (wc := (zwM cI cC f c_r c_refused c_tape c_letter c_letterAt c_number c_taped c_at c_statements c_kept c_hasImage c_isKeeping c_cursor (q18 ||| q26) c_barred c_leapsTo c_leapsThen c_lands c_row c_rowMany c_endsAt)) ⟨hx, hb, hml, hown, hts⟩ hE hK hP hS [0, 1, 2, 3, 4, 5, 6, 7, 8, 9, 10, 11, 12, 13, 14, 15] rfl (mX4_mayStay l dC dI cI cC sk f p1 x6_6 p3 p4 c_r c_refused c_tape c_letter c_letterAt c_number c_taped c_at c_statements c_kept c_hasImage c_isKeeping c_cursor (q18 ||| q26) c_barred c_leapsTo c_leapsThen c_lands c_row c_rowMany c_endsAt q42 e42) (cwV 4 hts gX4_landsFrom_X4_mayStay rfl rfl rfl (by decide +kernel) ⟨Nat.le_of_ble_eq_true rfl, Nat.le_of_ble_eq_true rfl⟩) (va_recv hK hP (ci := 4) (q0 := 0) rfl rfl) (As := [.int p1, .int x6_6, .int p3, .int p4]) (rest := [.int x6_5]) rfl hl.1 rfl (Nat.le_of_ble_eq_true rfl) dX4_landsFrom_42 ⟨Nat.zero_le _, Nat.zero_le _⟩ (fun H locs hP hS => ?_)
      refine jnW (fun (v61 : Unit) => ∀ (H : Heap) (locs : List Loc) (ls : Array Slot), va_P (dC, dI) vwCl (zwM cI cC f c_r c_refused c_tape c_letter c_letterAt c_number c_taped c_at c_statements c_kept c_hasImage c_isKeeping c_cursor (q18 ||| q26) c_barred c_leapsTo c_leapsThen c_lands c_row c_rowMany c_endsAt) H → va_D A (zwM cI cC f c_r c_refused c_tape c_letter c_letterAt c_number c_taped c_at c_statements c_kept c_hasImage c_isKeeping c_cursor (q18 ||| q26) c_barred c_leapsTo c_leapsThen c_lands c_row c_rowMany c_endsAt) → va_S A s.heap H locs → lv_has ls 7 [(0, .ref (f 0)), (1, .int p1), (2, .int p2), (3, .int p3), (4, .int p4), (6, .int x6_6)] → W p l e (RMk 4 92) s m args below meth c H locs 0 0 Q (F0 m 61 ls [.int x6_5])) h (fun v61 h H locs ls hP hD hS hl => ?_) (fun J61 j61 h => ?_)
      · refine lv_iconst (v := (1 : Int32)) hx hb dX4_landsFrom_61 (by decide) ?_
        refine lv_iload hx hb dX4_landsFrom_62 (lv_at hl 5 rfl) ?_
        refine lv_ishl hx hb dX4_landsFrom_64 ?_
        refine lv_goto (tgt := 69) hx hb dX4_landsFrom_65 (by decide) ?_
        refine lv_ior hx hb dX4_landsFrom_69 ?_
        refine lv_istore (lv' := [(5, .int (x6_5 ||| ((1 : Int32) <<< (x6_6 &&& 31)))), (0, .ref (f 0)), (1, .int p1), (2, .int p2), (3, .int p3), (4, .int p4), (6, .int x6_6)]) hx hb dX4_landsFrom_70 hl (by decide) rfl (fun ls hl => ?_)
        refine lv_iinc (v := (x6_6 + (1 : Int32))) (lv' := [(6, .int (x6_6 + (1 : Int32))), (5, .int (x6_5 ||| ((1 : Int32) <<< (x6_6 &&& 31)))), (0, .ref (f 0)), (1, .int p1), (2, .int p2), (3, .int p3), (4, .int p4)]) hx hb dX4_landsFrom_72 hl (k := 6) rfl rfl (by decide) rfl (fun ls hl => ?_)
        refine lv_goto (tgt := 6) hx hb dX4_landsFrom_75 (by decide) ?_
        exact ih6 _ _ _ h _ _ _ hP hD hS (lv_sub hl [2, 3, 4, 5, 6, 1, 0] rfl)
      refine lv_if_ne (tgt := 61) hx hb dX4_landsFrom_45 (by decide) (fun c45 => ?_) (fun c45 => ?_)
      · have h := itF c45 h
        exact j61 _ h _ _ _ hP hD hS (lv_sub hl [0, 1, 2, 3, 4, 6] rfl)
      have h := itT c45 h
      refine lv_aload_n hx hb dX4_landsFrom_48 rfl (lv_at hl 0 rfl) ?_
      refine lv_iload_n hx hb dX4_landsFrom_49 rfl (lv_at hl 1 rfl) ?_
      refine lv_iload hx hb dX4_landsFrom_50 (lv_at hl 6 rfl) ?_
      refine lv_iload_n hx hb dX4_landsFrom_52 rfl (lv_at hl 3 rfl) ?_
      refine lv_iload hx hb dX4_landsFrom_53 (lv_at hl 4 rfl) ?_
      obtain ⟨q55, e55, h⟩ := bd_some h
      refine g_roV (wc := (zwM cI cC f c_r c_refused c_tape c_letter c_letterAt c_number c_taped c_at c_statements c_kept c_hasImage c_isKeeping c_cursor (q18 ||| q26) c_barred c_leapsTo c_leapsThen c_lands c_row c_rowMany c_endsAt)) ⟨hx, hb, hml, hown, hts⟩ hE hK hP hS [0, 1, 2, 3, 4, 5, 6, 7, 8, 9, 10, 11, 12, 13, 14, 15] rfl (mX4_mayLeap l dC dI cI cC sk f p1 x6_6 p3 p4 c_r c_refused c_tape c_letter c_letterAt c_number c_taped c_at c_statements c_kept c_hasImage c_isKeeping c_cursor (q18 ||| q26) c_barred c_leapsTo c_leapsThen c_lands c_row c_rowMany c_endsAt q55 e55) (cwV 4 hts gX4_landsFrom_X4_mayLeap rfl rfl rfl (by decide +kernel) ⟨Nat.le_of_ble_eq_true rfl, Nat.le_of_ble_eq_true rfl⟩) (va_recv hK hP (ci := 4) (q0 := 0) rfl rfl) (As := [.int p1, .int x6_6, .int p3, .int p4]) (rest := [.int x6_5]) rfl hl.1 rfl (Nat.le_of_ble_eq_true rfl) dX4_landsFrom_55 ⟨Nat.zero_le _, Nat.zero_le _⟩ (fun H locs hP hS => ?_)
      refine lv_if_eq (tgt := 68) hx hb dX4_landsFrom_58 (by decide) (fun c58 => ?_) (fun c58 => ?_)
      · have h := itT c58 h
        refine lv_iconst (v := (0 : Int32)) hx hb dX4_landsFrom_68 (by decide) ?_
        refine lv_ior hx hb dX4_landsFrom_69 ?_
        refine lv_istore (lv' := [(5, .int (x6_5 ||| (0 : Int32))), (0, .ref (f 0)), (1, .int p1), (2, .int p2), (3, .int p3), (4, .int p4), (6, .int x6_6)]) hx hb dX4_landsFrom_70 hl (by decide) rfl (fun ls hl => ?_)
        refine lv_iinc (v := (x6_6 + (1 : Int32))) (lv' := [(6, .int (x6_6 + (1 : Int32))), (5, .int (x6_5 ||| (0 : Int32))), (0, .ref (f 0)), (1, .int p1), (2, .int p2), (3, .int p3), (4, .int p4)]) hx hb dX4_landsFrom_72 hl (k := 6) rfl rfl (by decide) rfl (fun ls hl => ?_)
        refine lv_goto (tgt := 6) hx hb dX4_landsFrom_75 (by decide) ?_
        exact ih6 _ _ _ h _ _ _ hP hD hS (lv_sub hl [2, 3, 4, 5, 6, 1, 0] rfl)
      have h := itF c58 h
      exact j61 _ h _ _ _ hP hD hS (lv_sub hl [0, 1, 2, 3, 4, 6] rfl)
  refine L6 _ (fun k6_5 k6_poled h H locs ls hP hD hS hl => ?_) _ _ _ _ h _ _ _ hP hD hS (lv_sub hl [2, 3, 4, 5, 6, 1, 0] rfl)
  refine lv_aload_n hx hb dX4_landsFrom_78 rfl (lv_at hl 0 rfl) ?_
  refine lv_iconst (v := (0 : Int32)) hx hb dX4_landsFrom_79 (by decide) ?_
  refine va_put (D := (dC, dI)) (ci := 4) (v := .int (0 : Int32)) (ty := .int) (C := RX4) (T := TX4) (N := 28) hx hb hts hiX4 tyX4 tyX4_ok nmX4 hown hK hP hD hS 0 rfl rfl 20 (by decide) hw1 (fun _ h9 => h9) rfl (by decide +kernel) rfl rfl (Nat.le_of_ble_eq_true rfl) dX4_landsFrom_80 (fun H locs hP hD hS => ?_)
  have hP : va_P (dC, dI) vwCl (zwM cI cC f c_r c_refused c_tape c_letter c_letterAt c_number c_taped c_at c_statements c_kept c_hasImage c_isKeeping c_cursor (0 : Int32) c_barred c_leapsTo c_leapsThen c_lands c_row c_rowMany c_endsAt) H := hP
  have hD : va_D A (zwM cI cC f c_r c_refused c_tape c_letter c_letterAt c_number c_taped c_at c_statements c_kept c_hasImage c_isKeeping c_cursor (0 : Int32) c_barred c_leapsTo c_leapsThen c_lands c_row c_rowMany c_endsAt) := hD
  refine lv_iload hx hb dX4_landsFrom_83 (lv_at hl 1 rfl) ?_
  subst hQ
  exact retRW (zz := ((k6_5, (0 : Int32)) : Int32 × Int32)) (fun z => z.1) (fun z => (zwM cI cC f c_r c_refused c_tape c_letter c_letterAt c_number c_taped c_at c_statements c_kept c_hasImage c_isKeeping c_cursor z.2 c_barred c_leapsTo c_leapsThen c_lands c_row c_rowMany c_endsAt)) hx hb hr hlocks rfl hS h rfl hP dX4_landsFrom_85
theorem dX4_findLands_0 : decode cX4_findLands 0 = .ok (.iconst 0, 1) := by decide +kernel
theorem dX4_findLands_1 : decode cX4_findLands 1 = .ok (.istore_n 2, 1) := by decide +kernel
theorem dX4_findLands_2 : decode cX4_findLands 2 = .ok (.iload_n 2, 1) := by decide +kernel
theorem dX4_findLands_3 : decode cX4_findLands 3 = .ok (.sipush 3116, 3) := by decide +kernel
theorem dX4_findLands_6 : decode cX4_findLands 6 = .ok (.if_icmp .ge 40, 3) := by decide +kernel
theorem dX4_findLands_9 : decode cX4_findLands 9 = .ok (.aload_n 0, 1) := by decide +kernel
theorem dX4_findLands_10 : decode cX4_findLands 10 = .ok (.getfield 53, 3) := by decide +kernel
theorem dX4_findLands_13 : decode cX4_findLands 13 = .ok (.iload_n 2, 1) := by decide +kernel
theorem dX4_findLands_14 : decode cX4_findLands 14 = .ok (.aload_n 0, 1) := by decide +kernel
theorem dX4_findLands_15 : decode cX4_findLands 15 = .ok (.iload_n 2, 1) := by decide +kernel
theorem dX4_findLands_16 : decode cX4_findLands 16 = .ok (.iconst 4, 1) := by decide +kernel
theorem dX4_findLands_17 : decode cX4_findLands 17 = .ok (.idiv, 1) := by decide +kernel
theorem dX4_findLands_18 : decode cX4_findLands 18 = .ok (.bipush 19, 2) := by decide +kernel
theorem dX4_findLands_20 : decode cX4_findLands 20 = .ok (.irem, 1) := by decide +kernel
theorem dX4_findLands_21 : decode cX4_findLands 21 = .ok (.iload_n 2, 1) := by decide +kernel
theorem dX4_findLands_22 : decode cX4_findLands 22 = .ok (.iconst 4, 1) := by decide +kernel
theorem dX4_findLands_23 : decode cX4_findLands 23 = .ok (.irem, 1) := by decide +kernel
theorem dX4_findLands_24 : decode cX4_findLands 24 = .ok (.iload_n 1, 1) := by decide +kernel
theorem dX4_findLands_25 : decode cX4_findLands 25 = .ok (.aload_n 0, 1) := by decide +kernel
theorem dX4_findLands_26 : decode cX4_findLands 26 = .ok (.getfield 101, 3) := by decide +kernel
theorem dX4_findLands_29 : decode cX4_findLands 29 = .ok (.iload_n 2, 1) := by decide +kernel
theorem dX4_findLands_30 : decode cX4_findLands 30 = .ok (.iconst 4, 1) := by decide +kernel
theorem dX4_findLands_31 : decode cX4_findLands 31 = .ok (.idiv, 1) := by decide +kernel
theorem dX4_findLands_32 : decode cX4_findLands 32 = .ok (.bipush 19, 2) := by decide +kernel
theorem dX4_findLands_34 : decode cX4_findLands 34 = .ok (.idiv, 1) := by decide +kernel
theorem dX4_findLands_35 : decode cX4_findLands 35 = .ok (.iadd, 1) := by decide +kernel
theorem dX4_findLands_36 : decode cX4_findLands 36 = .ok (.invokevirtual 195, 3) := by decide +kernel
theorem dX4_findLands_39 : decode cX4_findLands 39 = .ok (.iastore, 1) := by decide +kernel
theorem dX4_findLands_40 : decode cX4_findLands 40 = .ok (.iinc 2 1, 3) := by decide +kernel
theorem dX4_findLands_43 : decode cX4_findLands 43 = .ok (.goto (-41), 3) := by decide +kernel
theorem dX4_findLands_46 : decode cX4_findLands 46 = .ok (.return_, 1) := by decide +kernel
set_option maxRecDepth 20000 in
theorem ggX4_findLands_X4_landsFrom : GoodIn wsX4_findLands wsX4_landsFrom := goodIn_r _ [7, 8, 9, 10, 6, 11, 12, 13, 14, 15, 16, 17, 18, 19, 20, 21, 22, 23, 24, 25, 26, 27, 28, 29, 30, 31, 32, 33, 34, 35, 36, 37, 38, 39, 40, 41, 42, 43, 44, 45, 46, 2, 47, 48, 49, 50, 51, 52, 53, 54, 55, 56, 57, 58, 59, 60, 61, 62, 63, 64, 65, 66, 67, 68, 69, 70, 71, 72, 73, 74, 75, 76, 77, 78, 79, 80, 81, 82, 83] (by decide +kernel) (by decide +kernel)
set_option maxRecDepth 20000 in
theorem gX4_findLands_X4_landsFrom : GoodIn wsX4_findLands (wsV RX4 195 RX4 yX4_landsFrom wsX4_landsFrom) := goodIn_app (goodIn_of _ (by decide +kernel)) ggX4_findLands_X4_landsFrom
set_option maxHeartbeats 4000000 in
set_option maxRecDepth 100000 in
theorem mX4_findLands (l : Launch) (dC : Nat → ClassId) (dI : Nat → Nat → Nat) (cI cC : ClassId) (sk : (Nat → Nat) × (Nat → Nat)) (f : Nat → Nat) (sz : Nat) (p1 : Int32) (c_r : RT) (c_refused : AR) (c_tape : AR) (c_letter : AR) (c_letterAt : AR) (c_number : AR) (c_taped : Int32) (c_at : Int32) (c_statements : Int32) (c_kept : AR) (c_hasImage : Int32) (c_isKeeping : Int32) (c_cursor : Int32) (c_poled : Int32) (c_barred : Int32) (c_leapsTo : AR) (c_leapsThen : AR) (c_lands : AR) (c_row : AR) (c_rowMany : Int32) (c_endsAt : Int32) (z : Int32 × AR) (h : fX4_findLands p1 c_r c_poled c_barred c_lands = some z) : cRV l yX4_findLands wsX4_findLands (RMk 5 118) sk (dC, dI) (tyz cI cC) sz (zwM cI cC f c_r c_refused c_tape c_letter c_letterAt c_number c_taped c_at c_statements c_kept c_hasImage c_isKeeping c_cursor c_poled c_barred c_leapsTo c_leapsThen c_lands c_row c_rowMany c_endsAt) (zwM cI cC f c_r c_refused c_tape c_letter c_letterAt c_number c_taped c_at c_statements c_kept c_hasImage c_isKeeping c_cursor z.1 c_barred c_leapsTo c_leapsThen z.2 c_row c_rowMany c_endsAt) [.ref (f 0), .int p1] := by
  refine ofRV (cc := cX4_findLands) (maxL := 3) (ret := none) (own := RX4) (plainFor_of_name (by decide)) rfl rfl (Nat.le_of_ble_eq_true rfl) ?_
  intro p e s m args below meth c A hA hx hb hml hr hts hown hlocks hE hK hP hD hS ls hl
  generalize hQ : qRV _ _ _ _ _ _ = Q
  have hl : lv_has ls 3 [(0, .ref (f 0)), (1, .int p1)] := hl
  have hiX4 : ∀ w ∈ wsX40, w ∈ wsX4_findLands := fun w h => List.mem_cons_of_mem _ (List.mem_append_right _ h)
  have hw1 := hts (Cond.fieldLink RX4 53 "FloeToFloeModel" "lands" "[I") (List.mem_of_getElem? (i := 1) rfl)
  have hw2 := hts (Cond.fieldLink RX4 101 "FloeToFloeModel" "minute" "I") (List.mem_of_getElem? (i := 2) rfl)
  rw [fX4_findLands] at h
  refine lv_iconst (v := (0 : Int32)) hx hb dX4_findLands_0 (by decide) ?_
  refine lv_istore_n (lv' := [(2, .int (0 : Int32)), (0, .ref (f 0)), (1, .int p1)]) hx hb dX4_findLands_1 rfl hl (by decide) rfl (fun ls hl => ?_)
  have L2 : ∀ (K2 : Int32 → AR → Option (Int32 × AR)), (∀ (k2_poled : Int32) (k2_lands : AR), K2 k2_poled k2_lands = some z → ∀ (H : Heap) (locs : List Loc) (ls : Array Slot), va_P (dC, dI) vwCl (zwM cI cC f c_r c_refused c_tape c_letter c_letterAt c_number c_taped c_at c_statements c_kept c_hasImage c_isKeeping c_cursor k2_poled c_barred c_leapsTo c_leapsThen k2_lands c_row c_rowMany c_endsAt) H → va_D A (zwM cI cC f c_r c_refused c_tape c_letter c_letterAt c_number c_taped c_at c_statements c_kept c_hasImage c_isKeeping c_cursor k2_poled c_barred c_leapsTo c_leapsThen k2_lands c_row c_rowMany c_endsAt) → va_S A s.heap H locs → lv_has ls 3 [] → W p l e (RMk 5 118) s m args below meth c H locs 0 0 Q (F0 m 46 ls [])) → ∀ (n : Nat) (x2_2 : Int32) (x2_poled : Int32) (x2_lands : AR), fX4_findLands_L2 c_barred c_r p1 K2 n x2_2 x2_poled x2_lands = some z → ∀ (H : Heap) (locs : List Loc) (ls : Array Slot), va_P (dC, dI) vwCl (zwM cI cC f c_r c_refused c_tape c_letter c_letterAt c_number c_taped c_at c_statements c_kept c_hasImage c_isKeeping c_cursor x2_poled c_barred c_leapsTo c_leapsThen x2_lands c_row c_rowMany c_endsAt) H → va_D A (zwM cI cC f c_r c_refused c_tape c_letter c_letterAt c_number c_taped c_at c_statements c_kept c_hasImage c_isKeeping c_cursor x2_poled c_barred c_leapsTo c_leapsThen x2_lands c_row c_rowMany c_endsAt) → va_S A s.heap H locs → lv_has ls 3 [(0, .ref (f 0)), (1, .int p1), (2, .int x2_2)] → W p l e (RMk 5 118) s m args below meth c H locs 0 0 Q (F0 m 2 ls []) := by
    intro K2 kx2 n
    induction n with
    | zero => intro x2_2 x2_poled x2_lands h; rw [fX4_findLands_L2] at h; cases h
    | succ n ih2 =>
      intro x2_2 x2_poled x2_lands h H locs ls hP hD hS hl
      rw [fX4_findLands_L2] at h
      refine lv_iload_n hx hb dX4_findLands_2 rfl (lv_at hl 2 rfl) ?_
      refine lv_sipush (v := (3116 : Int32)) hx hb dX4_findLands_3 (by decide) ?_
      refine lv_icmp_ge (tgt := 46) hx hb dX4_findLands_6 (by decide) (fun c6 => ?_) (fun c6 => ?_)
      · have h := itT c6 h
        exact kx2 _ _ h _ _ _ hP hD hS (lv_sub hl [] rfl)
      have h := itF c6 h
      refine lv_aload_n hx hb dX4_findLands_9 rfl (lv_at hl 0 rfl) ?_
      refine va_get (D := (dC, dI)) (ci := 4) (v := .ref (f 14)) (C := RX4) (T := TX4) (N := 28) hx hb hts hiX4 hown hK hP 0 rfl rfl 24 (by decide) hw1 (fun _ h9 => h9) rfl dX4_findLands_10 ?_
      refine lv_iload_n hx hb dX4_findLands_13 rfl (lv_at hl 2 rfl) ?_
      refine lv_aload_n hx hb dX4_findLands_14 rfl (lv_at hl 0 rfl) ?_
      refine lv_iload_n hx hb dX4_findLands_15 rfl (lv_at hl 2 rfl) ?_
      refine lv_iconst (v := (4 : Int32)) hx hb dX4_findLands_16 (by decide) ?_
      refine lv_idiv hx hb dX4_findLands_17 (by decide) ?_
      refine lv_bipush (v := (19 : Int32)) hx hb dX4_findLands_18 (by decide) ?_
      refine lv_irem hx hb dX4_findLands_20 (by decide) ?_
      refine lv_iload_n hx hb dX4_findLands_21 rfl (lv_at hl 2 rfl) ?_
      refine lv_iconst (v := (4 : Int32)) hx hb dX4_findLands_22 (by decide) ?_
      refine lv_irem hx hb dX4_findLands_23 (by decide) ?_
      refine lv_iload_n hx hb dX4_findLands_24 rfl (lv_at hl 1 rfl) ?_
      refine lv_aload_n hx hb dX4_findLands_25 rfl (lv_at hl 0 rfl) ?_
      refine va_get (D := (dC, dI)) (ci := 4) (v := .int (R_minute c_r)) (C := RX4) (T := TX4) (N := 28) hx hb hts hiX4 hown hK hP 0 rfl rfl 8 (by decide) hw2 (fun _ h9 => h9) rfl dX4_findLands_26 ?_
      refine lv_iload_n hx hb dX4_findLands_29 rfl (lv_at hl 2 rfl) ?_
      refine lv_iconst (v := (4 : Int32)) hx hb dX4_findLands_30 (by decide) ?_
      refine lv_idiv hx hb dX4_findLands_31 (by decide) ?_
      refine lv_bipush (v := (19 : Int32)) hx hb dX4_findLands_32 (by decide) ?_
      refine lv_idiv hx hb dX4_findLands_34 (by decide) ?_
      refine lv_iadd hx hb dX4_findLands_35 ?_
      obtain ⟨q36, e36, h⟩ := bd_some h
      refine g_rwV (wc := (zwM cI cC f c_r c_refused c_tape c_letter c_letterAt c_number c_taped c_at c_statements c_kept c_hasImage c_isKeeping c_cursor x2_poled c_barred c_leapsTo c_leapsThen x2_lands c_row c_rowMany c_endsAt)) (wc' := (zwM cI cC f c_r c_refused c_tape c_letter c_letterAt c_number c_taped c_at c_statements c_kept c_hasImage c_isKeeping c_cursor q36.2 c_barred c_leapsTo c_leapsThen x2_lands c_row c_rowMany c_endsAt)) ⟨hx, hb, hml, hown, hts⟩ hE hK hA hP hD hS [0, 1, 2, 3, 4, 5, 6, 7, 8, 9, 10, 11, 12, 13, 14, 15] rfl rfl rfl (mX4_landsFrom l dC dI cI cC sk f H.size ((x2_2 / (4 : Int32)) - (x2_2 / (4 : Int32)) / (19 : Int32) * (19 : Int32)) (x2_2 - x2_2 / (4 : Int32) * (4 : Int32)) p1 ((R_minute c_r) + ((x2_2 / (4 : Int32)) / (19 : Int32))) c_r c_refused c_tape c_letter c_letterAt c_number c_taped c_at c_statements c_kept c_hasImage c_isKeeping c_cursor x2_poled c_barred c_leapsTo c_leapsThen x2_lands c_row c_rowMany c_endsAt q36 e36) (cwV 4 hts gX4_findLands_X4_landsFrom rfl rfl rfl (by decide +kernel) ⟨Nat.le_of_ble_eq_true rfl, Nat.le_of_ble_eq_true rfl⟩) (va_recv hK hP (ci := 4) (q0 := 0) rfl rfl) (As := [.int ((x2_2 / (4 : Int32)) - (x2_2 / (4 : Int32)) / (19 : Int32) * (19 : Int32)), .int (x2_2 - x2_2 / (4 : Int32) * (4 : Int32)), .int p1, .int ((R_minute c_r) + ((x2_2 / (4 : Int32)) / (19 : Int32)))]) (rest := [.int x2_2, .ref (f 14)]) rfl hl.1 rfl (Nat.le_of_ble_eq_true rfl) dX4_findLands_36 ⟨Nat.zero_le _, Nat.zero_le _⟩ (fun H locs hP hD hS => ?_)
      have hP : va_P (dC, dI) vwCl (zwM cI cC f c_r c_refused c_tape c_letter c_letterAt c_number c_taped c_at c_statements c_kept c_hasImage c_isKeeping c_cursor q36.2 c_barred c_leapsTo c_leapsThen x2_lands c_row c_rowMany c_endsAt) H := hP
      have hD : va_D A (zwM cI cC f c_r c_refused c_tape c_letter c_letterAt c_number c_taped c_at c_statements c_kept c_hasImage c_isKeeping c_cursor q36.2 c_barred c_leapsTo c_leapsThen x2_lands c_row c_rowMany c_endsAt) := hD
      obtain ⟨hin, h⟩ := ck_some h
      refine va_iast hx hb hK hP hD hS 14 0 rfl rfl hin dX4_findLands_39 (fun H locs hP hD hS => ?_)
      have hP : va_P (dC, dI) vwCl (zwM cI cC f c_r c_refused c_tape c_letter c_letterAt c_number c_taped c_at c_statements c_kept c_hasImage c_isKeeping c_cursor q36.2 c_barred c_leapsTo c_leapsThen (upd x2_lands (x2_2).toNatClampNeg q36.1) c_row c_rowMany c_endsAt) H := hP
      have hD : va_D A (zwM cI cC f c_r c_refused c_tape c_letter c_letterAt c_number c_taped c_at c_statements c_kept c_hasImage c_isKeeping c_cursor q36.2 c_barred c_leapsTo c_leapsThen (upd x2_lands (x2_2).toNatClampNeg q36.1) c_row c_rowMany c_endsAt) := hD
      refine lv_iinc (v := (x2_2 + (1 : Int32))) (lv' := [(2, .int (x2_2 + (1 : Int32))), (0, .ref (f 0)), (1, .int p1)]) hx hb dX4_findLands_40 hl (k := 2) rfl rfl (by decide) rfl (fun ls hl => ?_)
      refine lv_goto (tgt := 2) hx hb dX4_findLands_43 (by decide) ?_
      exact ih2 _ _ _ h _ _ _ hP hD hS (lv_sub hl [1, 2, 0] rfl)
  refine L2 _ (fun k2_poled k2_lands h H locs ls hP hD hS hl => ?_) _ _ _ _ h _ _ _ hP hD hS (lv_sub hl [1, 2, 0] rfl)
  subst hQ
  exact retRV (zz := ((k2_poled, k2_lands) : Int32 × AR)) (fun z => (zwM cI cC f c_r c_refused c_tape c_letter c_letterAt c_number c_taped c_at c_statements c_kept c_hasImage c_isKeeping c_cursor z.1 c_barred c_leapsTo c_leapsThen z.2 c_row c_rowMany c_endsAt)) hx hb hr hlocks hS h hP dX4_findLands_46
theorem dX4_goesOnHeld_0 : decode cX4_goesOnHeld 0 = .ok (.iconst 0, 1) := by decide +kernel
theorem dX4_goesOnHeld_1 : decode cX4_goesOnHeld 1 = .ok (.istore 4, 2) := by decide +kernel
theorem dX4_goesOnHeld_3 : decode cX4_goesOnHeld 3 = .ok (.iconst 0, 1) := by decide +kernel
theorem dX4_goesOnHeld_4 : decode cX4_goesOnHeld 4 = .ok (.istore 5, 2) := by decide +kernel
theorem dX4_goesOnHeld_6 : decode cX4_goesOnHeld 6 = .ok (.iload 5, 2) := by decide +kernel
theorem dX4_goesOnHeld_8 : decode cX4_goesOnHeld 8 = .ok (.bipush 19, 2) := by decide +kernel
theorem dX4_goesOnHeld_10 : decode cX4_goesOnHeld 10 = .ok (.if_icmp .ge 69, 3) := by decide +kernel
theorem dX4_goesOnHeld_13 : decode cX4_goesOnHeld 13 = .ok (.iload_n 1, 1) := by decide +kernel
theorem dX4_goesOnHeld_14 : decode cX4_goesOnHeld 14 = .ok (.iload 5, 2) := by decide +kernel
theorem dX4_goesOnHeld_16 : decode cX4_goesOnHeld 16 = .ok (.ishr, 1) := by decide +kernel
theorem dX4_goesOnHeld_17 : decode cX4_goesOnHeld 17 = .ok (.iconst 1, 1) := by decide +kernel
theorem dX4_goesOnHeld_18 : decode cX4_goesOnHeld 18 = .ok (.iand, 1) := by decide +kernel
theorem dX4_goesOnHeld_19 : decode cX4_goesOnHeld 19 = .ok (.ifCond .ne 6, 3) := by decide +kernel
theorem dX4_goesOnHeld_22 : decode cX4_goesOnHeld 22 = .ok (.goto 51, 3) := by decide +kernel
theorem dX4_goesOnHeld_25 : decode cX4_goesOnHeld 25 = .ok (.iconst 4, 1) := by decide +kernel
theorem dX4_goesOnHeld_26 : decode cX4_goesOnHeld 26 = .ok (.bipush 19, 2) := by decide +kernel
theorem dX4_goesOnHeld_28 : decode cX4_goesOnHeld 28 = .ok (.iload_n 2, 1) := by decide +kernel
theorem dX4_goesOnHeld_29 : decode cX4_goesOnHeld 29 = .ok (.imul, 1) := by decide +kernel
theorem dX4_goesOnHeld_30 : decode cX4_goesOnHeld 30 = .ok (.iload 5, 2) := by decide +kernel
theorem dX4_goesOnHeld_32 : decode cX4_goesOnHeld 32 = .ok (.iadd, 1) := by decide +kernel
theorem dX4_goesOnHeld_33 : decode cX4_goesOnHeld 33 = .ok (.imul, 1) := by decide +kernel
theorem dX4_goesOnHeld_34 : decode cX4_goesOnHeld 34 = .ok (.iconst 2, 1) := by decide +kernel
theorem dX4_goesOnHeld_35 : decode cX4_goesOnHeld 35 = .ok (.iload_n 3, 1) := by decide +kernel
theorem dX4_goesOnHeld_36 : decode cX4_goesOnHeld 36 = .ok (.iload 5, 2) := by decide +kernel
theorem dX4_goesOnHeld_38 : decode cX4_goesOnHeld 38 = .ok (.ishr, 1) := by decide +kernel
theorem dX4_goesOnHeld_39 : decode cX4_goesOnHeld 39 = .ok (.iconst 1, 1) := by decide +kernel
theorem dX4_goesOnHeld_40 : decode cX4_goesOnHeld 40 = .ok (.iand, 1) := by decide +kernel
theorem dX4_goesOnHeld_41 : decode cX4_goesOnHeld 41 = .ok (.imul, 1) := by decide +kernel
theorem dX4_goesOnHeld_42 : decode cX4_goesOnHeld 42 = .ok (.iadd, 1) := by decide +kernel
theorem dX4_goesOnHeld_43 : decode cX4_goesOnHeld 43 = .ok (.istore 6, 2) := by decide +kernel
theorem dX4_goesOnHeld_45 : decode cX4_goesOnHeld 45 = .ok (.iload 4, 2) := by decide +kernel
theorem dX4_goesOnHeld_47 : decode cX4_goesOnHeld 47 = .ok (.aload_n 0, 1) := by decide +kernel
theorem dX4_goesOnHeld_48 : decode cX4_goesOnHeld 48 = .ok (.getfield 53, 3) := by decide +kernel
theorem dX4_goesOnHeld_51 : decode cX4_goesOnHeld 51 = .ok (.iload 6, 2) := by decide +kernel
theorem dX4_goesOnHeld_53 : decode cX4_goesOnHeld 53 = .ok (.iaload, 1) := by decide +kernel
theorem dX4_goesOnHeld_54 : decode cX4_goesOnHeld 54 = .ok (.iload_n 3, 1) := by decide +kernel
theorem dX4_goesOnHeld_55 : decode cX4_goesOnHeld 55 = .ok (.iconst (-1), 1) := by decide +kernel
theorem dX4_goesOnHeld_56 : decode cX4_goesOnHeld 56 = .ok (.ixor, 1) := by decide +kernel
theorem dX4_goesOnHeld_57 : decode cX4_goesOnHeld 57 = .ok (.iand, 1) := by decide +kernel
theorem dX4_goesOnHeld_58 : decode cX4_goesOnHeld 58 = .ok (.aload_n 0, 1) := by decide +kernel
theorem dX4_goesOnHeld_59 : decode cX4_goesOnHeld 59 = .ok (.getfield 53, 3) := by decide +kernel
theorem dX4_goesOnHeld_62 : decode cX4_goesOnHeld 62 = .ok (.iload 6, 2) := by decide +kernel
theorem dX4_goesOnHeld_64 : decode cX4_goesOnHeld 64 = .ok (.iconst 1, 1) := by decide +kernel
theorem dX4_goesOnHeld_65 : decode cX4_goesOnHeld 65 = .ok (.iadd, 1) := by decide +kernel
theorem dX4_goesOnHeld_66 : decode cX4_goesOnHeld 66 = .ok (.iaload, 1) := by decide +kernel
theorem dX4_goesOnHeld_67 : decode cX4_goesOnHeld 67 = .ok (.iload_n 3, 1) := by decide +kernel
theorem dX4_goesOnHeld_68 : decode cX4_goesOnHeld 68 = .ok (.iand, 1) := by decide +kernel
theorem dX4_goesOnHeld_69 : decode cX4_goesOnHeld 69 = .ok (.ior, 1) := by decide +kernel
theorem dX4_goesOnHeld_70 : decode cX4_goesOnHeld 70 = .ok (.ior, 1) := by decide +kernel
theorem dX4_goesOnHeld_71 : decode cX4_goesOnHeld 71 = .ok (.istore 4, 2) := by decide +kernel
theorem dX4_goesOnHeld_73 : decode cX4_goesOnHeld 73 = .ok (.iinc 5 1, 3) := by decide +kernel
theorem dX4_goesOnHeld_76 : decode cX4_goesOnHeld 76 = .ok (.goto (-70), 3) := by decide +kernel
theorem dX4_goesOnHeld_79 : decode cX4_goesOnHeld 79 = .ok (.iload 4, 2) := by decide +kernel
theorem dX4_goesOnHeld_81 : decode cX4_goesOnHeld 81 = .ok (.ireturn, 1) := by decide +kernel
set_option maxHeartbeats 4000000 in
set_option maxRecDepth 100000 in
theorem mX4_goesOnHeld (l : Launch) (dC : Nat → ClassId) (dI : Nat → Nat → Nat) (cI cC : ClassId) (sk : (Nat → Nat) × (Nat → Nat)) (f : Nat → Nat) (p1 : Int32) (p2 : Int32) (p3 : Int32) (c_r : RT) (c_refused : AR) (c_tape : AR) (c_letter : AR) (c_letterAt : AR) (c_number : AR) (c_taped : Int32) (c_at : Int32) (c_statements : Int32) (c_kept : AR) (c_hasImage : Int32) (c_isKeeping : Int32) (c_cursor : Int32) (c_poled : Int32) (c_barred : Int32) (c_leapsTo : AR) (c_leapsThen : AR) (c_lands : AR) (c_row : AR) (c_rowMany : Int32) (c_endsAt : Int32) (z : Int32) (h : fX4_goesOnHeld p1 p2 p3 c_lands = some z) : cRO l yX4_goesOnHeld wsX4_goesOnHeld (RMk 0 0) sk (dC, dI) (tyz cI cC) (zwM cI cC f c_r c_refused c_tape c_letter c_letterAt c_number c_taped c_at c_statements c_kept c_hasImage c_isKeeping c_cursor c_poled c_barred c_leapsTo c_leapsThen c_lands c_row c_rowMany c_endsAt) [.ref (f 0), .int p1, .int p2, .int p3] z := by
  refine ofRO (cc := cX4_goesOnHeld) (maxL := 7) (ret := (some .int)) (own := RX4) (plainFor_of_name (by decide)) rfl rfl (Nat.le_of_ble_eq_true rfl) ?_
  intro p e s m args below meth c hx hb hml hr hts hown hlocks hE hK hP hS ls hl
  generalize hQ : qRO _ _ _ _ = Q
  have hl : lv_has ls 7 [(0, .ref (f 0)), (1, .int p1), (2, .int p2), (3, .int p3)] := hl
  have hiX4 : ∀ w ∈ wsX40, w ∈ wsX4_goesOnHeld := fun w h => List.mem_cons_of_mem _ (List.mem_append_right _ h)
  have hw1 := hts (Cond.fieldLink RX4 53 "FloeToFloeModel" "lands" "[I") (List.mem_of_getElem? (i := 1) rfl)
  rw [fX4_goesOnHeld] at h
  refine lv_iconst (v := (0 : Int32)) hx hb dX4_goesOnHeld_0 (by decide) ?_
  refine lv_istore (lv' := [(4, .int (0 : Int32)), (0, .ref (f 0)), (1, .int p1), (2, .int p2), (3, .int p3)]) hx hb dX4_goesOnHeld_1 hl (by decide) rfl (fun ls hl => ?_)
  refine lv_iconst (v := (0 : Int32)) hx hb dX4_goesOnHeld_3 (by decide) ?_
  refine lv_istore (lv' := [(5, .int (0 : Int32)), (4, .int (0 : Int32)), (0, .ref (f 0)), (1, .int p1), (2, .int p2), (3, .int p3)]) hx hb dX4_goesOnHeld_4 hl (by decide) rfl (fun ls hl => ?_)
  have L6 : ∀ (K6 : Int32 → Option (Int32)), (∀ (k6_4 : Int32), K6 k6_4 = some z → ∀ (H : Heap) (locs : List Loc) (ls : Array Slot), va_P (dC, dI) vwCl (zwM cI cC f c_r c_refused c_tape c_letter c_letterAt c_number c_taped c_at c_statements c_kept c_hasImage c_isKeeping c_cursor c_poled c_barred c_leapsTo c_leapsThen c_lands c_row c_rowMany c_endsAt) H → va_S noA s.heap H locs → lv_has ls 7 [(4, .int k6_4)] → W p l e (RMk 0 0) s m args below meth c H locs 0 0 Q (F0 m 79 ls [])) → ∀ (n : Nat) (x6_4 : Int32) (x6_5 : Int32), fX4_goesOnHeld_L6 c_lands p1 p2 p3 K6 n x6_4 x6_5 = some z → ∀ (H : Heap) (locs : List Loc) (ls : Array Slot), va_P (dC, dI) vwCl (zwM cI cC f c_r c_refused c_tape c_letter c_letterAt c_number c_taped c_at c_statements c_kept c_hasImage c_isKeeping c_cursor c_poled c_barred c_leapsTo c_leapsThen c_lands c_row c_rowMany c_endsAt) H → va_S noA s.heap H locs → lv_has ls 7 [(0, .ref (f 0)), (1, .int p1), (2, .int p2), (3, .int p3), (4, .int x6_4), (5, .int x6_5)] → W p l e (RMk 0 0) s m args below meth c H locs 0 0 Q (F0 m 6 ls []) := by
    intro K6 kx6 n
    induction n with
    | zero => intro x6_4 x6_5 h; rw [fX4_goesOnHeld_L6] at h; cases h
    | succ n ih6 =>
      intro x6_4 x6_5 h H locs ls hP hS hl
      rw [fX4_goesOnHeld_L6] at h
      refine lv_iload hx hb dX4_goesOnHeld_6 (lv_at hl 5 rfl) ?_
      refine lv_bipush (v := (19 : Int32)) hx hb dX4_goesOnHeld_8 (by decide) ?_
      refine lv_icmp_ge (tgt := 79) hx hb dX4_goesOnHeld_10 (by decide) (fun c10 => ?_) (fun c10 => ?_)
      · have h := itT c10 h
        exact kx6 _ h _ _ _ hP hS (lv_sub hl [4] rfl)
      have h := itF c10 h
      refine lv_iload_n hx hb dX4_goesOnHeld_13 rfl (lv_at hl 1 rfl) ?_
      refine lv_iload hx hb dX4_goesOnHeld_14 (lv_at hl 5 rfl) ?_
      refine lv_ishr hx hb dX4_goesOnHeld_16 ?_
      refine lv_iconst (v := (1 : Int32)) hx hb dX4_goesOnHeld_17 (by decide) ?_
      refine lv_iand hx hb dX4_goesOnHeld_18 ?_
      refine lv_if_ne (tgt := 25) hx hb dX4_goesOnHeld_19 (by decide) (fun c19 => ?_) (fun c19 => ?_)
      · have h := itF c19 h
        refine lv_iconst (v := (4 : Int32)) hx hb dX4_goesOnHeld_25 (by decide) ?_
        refine lv_bipush (v := (19 : Int32)) hx hb dX4_goesOnHeld_26 (by decide) ?_
        refine lv_iload_n hx hb dX4_goesOnHeld_28 rfl (lv_at hl 2 rfl) ?_
        refine lv_imul hx hb dX4_goesOnHeld_29 ?_
        refine lv_iload hx hb dX4_goesOnHeld_30 (lv_at hl 5 rfl) ?_
        refine lv_iadd hx hb dX4_goesOnHeld_32 ?_
        refine lv_imul hx hb dX4_goesOnHeld_33 ?_
        refine lv_iconst (v := (2 : Int32)) hx hb dX4_goesOnHeld_34 (by decide) ?_
        refine lv_iload_n hx hb dX4_goesOnHeld_35 rfl (lv_at hl 3 rfl) ?_
        refine lv_iload hx hb dX4_goesOnHeld_36 (lv_at hl 5 rfl) ?_
        refine lv_ishr hx hb dX4_goesOnHeld_38 ?_
        refine lv_iconst (v := (1 : Int32)) hx hb dX4_goesOnHeld_39 (by decide) ?_
        refine lv_iand hx hb dX4_goesOnHeld_40 ?_
        refine lv_imul hx hb dX4_goesOnHeld_41 ?_
        refine lv_iadd hx hb dX4_goesOnHeld_42 ?_
        refine lv_istore (lv' := [(6, .int (((4 : Int32) * (((19 : Int32) * p2) + x6_5)) + ((2 : Int32) * ((p3 >>> (x6_5 &&& 31)) &&& (1 : Int32))))), (0, .ref (f 0)), (1, .int p1), (2, .int p2), (3, .int p3), (4, .int x6_4), (5, .int x6_5)]) hx hb dX4_goesOnHeld_43 hl (by decide) rfl (fun ls hl => ?_)
        refine lv_iload hx hb dX4_goesOnHeld_45 (lv_at hl 5 rfl) ?_
        refine lv_aload_n hx hb dX4_goesOnHeld_47 rfl (lv_at hl 1 rfl) ?_
        refine va_get (D := (dC, dI)) (ci := 4) (v := .ref (f 14)) (C := RX4) (T := TX4) (N := 28) hx hb hts hiX4 hown hK hP 0 rfl rfl 24 (by decide) hw1 (fun _ h9 => h9) rfl dX4_goesOnHeld_48 ?_
        refine lv_iload hx hb dX4_goesOnHeld_51 (lv_at hl 0 rfl) ?_
        obtain ⟨hin, h⟩ := ck_some h
        refine va_iald hx hb hK hP 14 0 rfl rfl hin dX4_goesOnHeld_53 ?_
        refine lv_iload_n hx hb dX4_goesOnHeld_54 rfl (lv_at hl 4 rfl) ?_
        refine lv_iconst (v := (-1 : Int32)) hx hb dX4_goesOnHeld_55 (by decide) ?_
        refine lv_ixor hx hb dX4_goesOnHeld_56 ?_
        refine lv_iand hx hb dX4_goesOnHeld_57 ?_
        refine lv_aload_n hx hb dX4_goesOnHeld_58 rfl (lv_at hl 1 rfl) ?_
        refine va_get (D := (dC, dI)) (ci := 4) (v := .ref (f 14)) (C := RX4) (T := TX4) (N := 28) hx hb hts hiX4 hown hK hP 0 rfl rfl 24 (by decide) hw1 (fun _ h9 => h9) rfl dX4_goesOnHeld_59 ?_
        refine lv_iload hx hb dX4_goesOnHeld_62 (lv_at hl 0 rfl) ?_
        refine lv_iconst (v := (1 : Int32)) hx hb dX4_goesOnHeld_64 (by decide) ?_
        refine lv_iadd hx hb dX4_goesOnHeld_65 ?_
        obtain ⟨hin, h⟩ := ck_some h
        refine va_iald hx hb hK hP 14 0 rfl rfl hin dX4_goesOnHeld_66 ?_
        refine lv_iload_n hx hb dX4_goesOnHeld_67 rfl (lv_at hl 4 rfl) ?_
        refine lv_iand hx hb dX4_goesOnHeld_68 ?_
        refine lv_ior hx hb dX4_goesOnHeld_69 ?_
        refine lv_ior hx hb dX4_goesOnHeld_70 ?_
        refine lv_istore (lv' := [(4, .int (x6_4 ||| (((c_lands ((((4 : Int32) * (((19 : Int32) * p2) + x6_5)) + ((2 : Int32) * ((p3 >>> (x6_5 &&& 31)) &&& (1 : Int32))))).toNatClampNeg) &&& (p3 ^^^ (-1 : Int32))) ||| ((c_lands (((((4 : Int32) * (((19 : Int32) * p2) + x6_5)) + ((2 : Int32) * ((p3 >>> (x6_5 &&& 31)) &&& (1 : Int32)))) + (1 : Int32))).toNatClampNeg) &&& p3)))), (6, .int (((4 : Int32) * (((19 : Int32) * p2) + x6_5)) + ((2 : Int32) * ((p3 >>> (x6_5 &&& 31)) &&& (1 : Int32))))), (0, .ref (f 0)), (1, .int p1), (2, .int p2), (3, .int p3), (5, .int x6_5)]) hx hb dX4_goesOnHeld_71 hl (by decide) rfl (fun ls hl => ?_)
        refine lv_iinc (v := (x6_5 + (1 : Int32))) (lv' := [(5, .int (x6_5 + (1 : Int32))), (4, .int (x6_4 ||| (((c_lands ((((4 : Int32) * (((19 : Int32) * p2) + x6_5)) + ((2 : Int32) * ((p3 >>> (x6_5 &&& 31)) &&& (1 : Int32))))).toNatClampNeg) &&& (p3 ^^^ (-1 : Int32))) ||| ((c_lands (((((4 : Int32) * (((19 : Int32) * p2) + x6_5)) + ((2 : Int32) * ((p3 >>> (x6_5 &&& 31)) &&& (1 : Int32)))) + (1 : Int32))).toNatClampNeg) &&& p3)))), (6, .int (((4 : Int32) * (((19 : Int32) * p2) + x6_5)) + ((2 : Int32) * ((p3 >>> (x6_5 &&& 31)) &&& (1 : Int32))))), (0, .ref (f 0)), (1, .int p1), (2, .int p2), (3, .int p3)]) hx hb dX4_goesOnHeld_73 hl (k := 6) rfl rfl (by decide) rfl (fun ls hl => ?_)
        refine lv_goto (tgt := 6) hx hb dX4_goesOnHeld_76 (by decide) ?_
        exact ih6 _ _ h _ _ _ hP hS (lv_sub hl [3, 4, 5, 6, 1, 0] rfl)
      have h := itT c19 h
      refine lv_goto (tgt := 73) hx hb dX4_goesOnHeld_22 (by decide) ?_
      refine lv_iinc (v := (x6_5 + (1 : Int32))) (lv' := [(5, .int (x6_5 + (1 : Int32))), (0, .ref (f 0)), (1, .int p1), (2, .int p2), (3, .int p3), (4, .int x6_4)]) hx hb dX4_goesOnHeld_73 hl (k := 5) rfl rfl (by decide) rfl (fun ls hl => ?_)
      refine lv_goto (tgt := 6) hx hb dX4_goesOnHeld_76 (by decide) ?_
      exact ih6 _ _ h _ _ _ hP hS (lv_sub hl [1, 2, 3, 4, 5, 0] rfl)
  refine L6 _ (fun k6_4 h H locs ls hP hS hl => ?_) _ _ _ h _ _ _ hP hS (lv_sub hl [2, 3, 4, 5, 1, 0] rfl)
  refine lv_iload hx hb dX4_goesOnHeld_79 (lv_at hl 0 rfl) ?_
  subst hQ
  exact retRO hx hb hr hlocks rfl hS h dX4_goesOnHeld_81
theorem dX4_comesOverHeld_0 : decode cX4_comesOverHeld 0 = .ok (.iconst 1, 1) := by decide +kernel
theorem dX4_comesOverHeld_1 : decode cX4_comesOverHeld 1 = .ok (.iload_n 1, 1) := by decide +kernel
theorem dX4_comesOverHeld_2 : decode cX4_comesOverHeld 2 = .ok (.ishl, 1) := by decide +kernel
theorem dX4_comesOverHeld_3 : decode cX4_comesOverHeld 3 = .ok (.istore_n 3, 1) := by decide +kernel
theorem dX4_comesOverHeld_4 : decode cX4_comesOverHeld 4 = .ok (.iconst 0, 1) := by decide +kernel
theorem dX4_comesOverHeld_5 : decode cX4_comesOverHeld 5 = .ok (.istore 4, 2) := by decide +kernel
theorem dX4_comesOverHeld_7 : decode cX4_comesOverHeld 7 = .ok (.iload 4, 2) := by decide +kernel
theorem dX4_comesOverHeld_9 : decode cX4_comesOverHeld 9 = .ok (.bipush 40, 2) := by decide +kernel
theorem dX4_comesOverHeld_11 : decode cX4_comesOverHeld 11 = .ok (.if_icmp .gt 30, 3) := by decide +kernel
theorem dX4_comesOverHeld_14 : decode cX4_comesOverHeld 14 = .ok (.iload_n 3, 1) := by decide +kernel
theorem dX4_comesOverHeld_15 : decode cX4_comesOverHeld 15 = .ok (.bipush 18, 2) := by decide +kernel
theorem dX4_comesOverHeld_17 : decode cX4_comesOverHeld 17 = .ok (.ishr, 1) := by decide +kernel
theorem dX4_comesOverHeld_18 : decode cX4_comesOverHeld 18 = .ok (.iconst 1, 1) := by decide +kernel
theorem dX4_comesOverHeld_19 : decode cX4_comesOverHeld 19 = .ok (.iand, 1) := by decide +kernel
theorem dX4_comesOverHeld_20 : decode cX4_comesOverHeld 20 = .ok (.iconst 1, 1) := by decide +kernel
theorem dX4_comesOverHeld_21 : decode cX4_comesOverHeld 21 = .ok (.if_icmp .ne 5, 3) := by decide +kernel
theorem dX4_comesOverHeld_24 : decode cX4_comesOverHeld 24 = .ok (.iconst 1, 1) := by decide +kernel
theorem dX4_comesOverHeld_25 : decode cX4_comesOverHeld 25 = .ok (.ireturn, 1) := by decide +kernel
theorem dX4_comesOverHeld_26 : decode cX4_comesOverHeld 26 = .ok (.aload_n 0, 1) := by decide +kernel
theorem dX4_comesOverHeld_27 : decode cX4_comesOverHeld 27 = .ok (.iload_n 3, 1) := by decide +kernel
theorem dX4_comesOverHeld_28 : decode cX4_comesOverHeld 28 = .ok (.iload 4, 2) := by decide +kernel
theorem dX4_comesOverHeld_30 : decode cX4_comesOverHeld 30 = .ok (.iload_n 2, 1) := by decide +kernel
theorem dX4_comesOverHeld_31 : decode cX4_comesOverHeld 31 = .ok (.invokevirtual 199, 3) := by decide +kernel
theorem dX4_comesOverHeld_34 : decode cX4_comesOverHeld 34 = .ok (.istore_n 3, 1) := by decide +kernel
theorem dX4_comesOverHeld_35 : decode cX4_comesOverHeld 35 = .ok (.iinc 4 1, 3) := by decide +kernel
theorem dX4_comesOverHeld_38 : decode cX4_comesOverHeld 38 = .ok (.goto (-31), 3) := by decide +kernel
theorem dX4_comesOverHeld_41 : decode cX4_comesOverHeld 41 = .ok (.iconst 0, 1) := by decide +kernel
theorem dX4_comesOverHeld_42 : decode cX4_comesOverHeld 42 = .ok (.ireturn, 1) := by decide +kernel
set_option maxRecDepth 20000 in
theorem ggX4_comesOverHeld_X4_goesOnHeld : GoodIn wsX4_comesOverHeld wsX4_goesOnHeld := goodIn_r _ [5, 6, 7, 8, 9, 10, 11, 12, 13, 14, 15, 16, 17, 18, 19, 20, 21, 22, 23, 24, 25, 26, 27, 28, 29, 30, 31, 32, 33, 34] (by decide +kernel) (by decide +kernel)
set_option maxRecDepth 20000 in
theorem gX4_comesOverHeld_X4_goesOnHeld : GoodIn wsX4_comesOverHeld (wsV RX4 199 RX4 yX4_goesOnHeld wsX4_goesOnHeld) := goodIn_app (goodIn_of _ (by decide +kernel)) ggX4_comesOverHeld_X4_goesOnHeld
set_option maxHeartbeats 4000000 in
set_option maxRecDepth 100000 in
theorem mX4_comesOverHeld (l : Launch) (dC : Nat → ClassId) (dI : Nat → Nat → Nat) (cI cC : ClassId) (sk : (Nat → Nat) × (Nat → Nat)) (f : Nat → Nat) (p1 : Int32) (p2 : Int32) (c_r : RT) (c_refused : AR) (c_tape : AR) (c_letter : AR) (c_letterAt : AR) (c_number : AR) (c_taped : Int32) (c_at : Int32) (c_statements : Int32) (c_kept : AR) (c_hasImage : Int32) (c_isKeeping : Int32) (c_cursor : Int32) (c_poled : Int32) (c_barred : Int32) (c_leapsTo : AR) (c_leapsThen : AR) (c_lands : AR) (c_row : AR) (c_rowMany : Int32) (c_endsAt : Int32) (z : Int32) (h : fX4_comesOverHeld p1 p2 c_lands = some z) : cRO l yX4_comesOverHeld wsX4_comesOverHeld (RMk 1 26) sk (dC, dI) (tyz cI cC) (zwM cI cC f c_r c_refused c_tape c_letter c_letterAt c_number c_taped c_at c_statements c_kept c_hasImage c_isKeeping c_cursor c_poled c_barred c_leapsTo c_leapsThen c_lands c_row c_rowMany c_endsAt) [.ref (f 0), .int p1, .int p2] z := by
  refine ofRO (cc := cX4_comesOverHeld) (maxL := 5) (ret := (some .boolean)) (own := RX4) (plainFor_of_name (by decide)) rfl rfl (Nat.le_of_ble_eq_true rfl) ?_
  intro p e s m args below meth c hx hb hml hr hts hown hlocks hE hK hP hS ls hl
  generalize hQ : qRO _ _ _ _ = Q
  have hl : lv_has ls 5 [(0, .ref (f 0)), (1, .int p1), (2, .int p2)] := hl
  rw [fX4_comesOverHeld] at h
  refine lv_iconst (v := (1 : Int32)) hx hb dX4_comesOverHeld_0 (by decide) ?_
  refine lv_iload_n hx hb dX4_comesOverHeld_1 rfl (lv_at hl 1 rfl) ?_
  refine lv_ishl hx hb dX4_comesOverHeld_2 ?_
  refine lv_istore_n (lv' := [(3, .int ((1 : Int32) <<< (p1 &&& 31))), (0, .ref (f 0)), (1, .int p1), (2, .int p2)]) hx hb dX4_comesOverHeld_3 rfl hl (by decide) rfl (fun ls hl => ?_)
  refine lv_iconst (v := (0 : Int32)) hx hb dX4_comesOverHeld_4 (by decide) ?_
  refine lv_istore (lv' := [(4, .int (0 : Int32)), (3, .int ((1 : Int32) <<< (p1 &&& 31))), (0, .ref (f 0)), (1, .int p1), (2, .int p2)]) hx hb dX4_comesOverHeld_5 hl (by decide) rfl (fun ls hl => ?_)
  have L7 : ∀ (K7 : Unit → Option (Int32)), (∀ (_ : Unit), K7 () = some z → ∀ (H : Heap) (locs : List Loc) (ls : Array Slot), va_P (dC, dI) vwCl (zwM cI cC f c_r c_refused c_tape c_letter c_letterAt c_number c_taped c_at c_statements c_kept c_hasImage c_isKeeping c_cursor c_poled c_barred c_leapsTo c_leapsThen c_lands c_row c_rowMany c_endsAt) H → va_S noA s.heap H locs → lv_has ls 5 [] → W p l e (RMk 1 26) s m args below meth c H locs 0 0 Q (F0 m 41 ls [])) → ∀ (n : Nat) (x7_3 : Int32) (x7_4 : Int32), fX4_comesOverHeld_L7 c_lands p2 K7 n x7_3 x7_4 = some z → ∀ (H : Heap) (locs : List Loc) (ls : Array Slot), va_P (dC, dI) vwCl (zwM cI cC f c_r c_refused c_tape c_letter c_letterAt c_number c_taped c_at c_statements c_kept c_hasImage c_isKeeping c_cursor c_poled c_barred c_leapsTo c_leapsThen c_lands c_row c_rowMany c_endsAt) H → va_S noA s.heap H locs → lv_has ls 5 [(0, .ref (f 0)), (2, .int p2), (3, .int x7_3), (4, .int x7_4)] → W p l e (RMk 1 26) s m args below meth c H locs 0 0 Q (F0 m 7 ls []) := by
    intro K7 kx7 n
    induction n with
    | zero => intro x7_3 x7_4 h; rw [fX4_comesOverHeld_L7] at h; cases h
    | succ n ih7 =>
      intro x7_3 x7_4 h H locs ls hP hS hl
      rw [fX4_comesOverHeld_L7] at h
      refine lv_iload hx hb dX4_comesOverHeld_7 (lv_at hl 3 rfl) ?_
      refine lv_bipush (v := (40 : Int32)) hx hb dX4_comesOverHeld_9 (by decide) ?_
      refine lv_icmp_gt (tgt := 41) hx hb dX4_comesOverHeld_11 (by decide) (fun c11 => ?_) (fun c11 => ?_)
      · have h := itT c11 h
        exact kx7 () h _ _ _ hP hS (lv_sub hl [] rfl)
      have h := itF c11 h
      refine lv_iload_n hx hb dX4_comesOverHeld_14 rfl (lv_at hl 2 rfl) ?_
      refine lv_bipush (v := (18 : Int32)) hx hb dX4_comesOverHeld_15 (by decide) ?_
      refine lv_ishr hx hb dX4_comesOverHeld_17 ?_
      refine lv_iconst (v := (1 : Int32)) hx hb dX4_comesOverHeld_18 (by decide) ?_
      refine lv_iand hx hb dX4_comesOverHeld_19 ?_
      refine lv_iconst (v := (1 : Int32)) hx hb dX4_comesOverHeld_20 (by decide) ?_
      refine lv_icmp_ne (tgt := 26) hx hb dX4_comesOverHeld_21 (by decide) (fun c21 => ?_) (fun c21 => ?_)
      · have h := itF c21 h
        refine lv_aload_n hx hb dX4_comesOverHeld_26 rfl (lv_at hl 0 rfl) ?_
        refine lv_iload_n hx hb dX4_comesOverHeld_27 rfl (lv_at hl 2 rfl) ?_
        refine lv_iload hx hb dX4_comesOverHeld_28 (lv_at hl 3 rfl) ?_
        refine lv_iload_n hx hb dX4_comesOverHeld_30 rfl (lv_at hl 1 rfl) ?_
        obtain ⟨q31, e31, h⟩ := bd_some h
        refine g_roV (wc := (zwM cI cC f c_r c_refused c_tape c_letter c_letterAt c_number c_taped c_at c_statements c_kept c_hasImage c_isKeeping c_cursor c_poled c_barred c_leapsTo c_leapsThen c_lands c_row c_rowMany c_endsAt)) ⟨hx, hb, hml, hown, hts⟩ hE hK hP hS [0, 1, 2, 3, 4, 5, 6, 7, 8, 9, 10, 11, 12, 13, 14, 15] rfl (mX4_goesOnHeld l dC dI cI cC sk f x7_3 x7_4 p2 c_r c_refused c_tape c_letter c_letterAt c_number c_taped c_at c_statements c_kept c_hasImage c_isKeeping c_cursor c_poled c_barred c_leapsTo c_leapsThen c_lands c_row c_rowMany c_endsAt q31 e31) (cwV 3 hts gX4_comesOverHeld_X4_goesOnHeld rfl rfl rfl (by decide +kernel) ⟨Nat.le_of_ble_eq_true rfl, Nat.le_of_ble_eq_true rfl⟩) (va_recv hK hP (ci := 4) (q0 := 0) rfl rfl) (As := [.int x7_3, .int x7_4, .int p2]) (rest := []) rfl hl.1 rfl (Nat.le_of_ble_eq_true rfl) dX4_comesOverHeld_31 ⟨Nat.zero_le _, Nat.zero_le _⟩ (fun H locs hP hS => ?_)
        refine lv_istore_n (lv' := [(3, .int q31), (0, .ref (f 0)), (2, .int p2), (4, .int x7_4)]) hx hb dX4_comesOverHeld_34 rfl hl (by decide) rfl (fun ls hl => ?_)
        refine lv_iinc (v := (x7_4 + (1 : Int32))) (lv' := [(4, .int (x7_4 + (1 : Int32))), (3, .int q31), (0, .ref (f 0)), (2, .int p2)]) hx hb dX4_comesOverHeld_35 hl (k := 3) rfl rfl (by decide) rfl (fun ls hl => ?_)
        refine lv_goto (tgt := 7) hx hb dX4_comesOverHeld_38 (by decide) ?_
        exact ih7 _ _ h _ _ _ hP hS (lv_sub hl [2, 3, 1, 0] rfl)
      have h := itT c21 h
      refine lv_iconst (v := (1 : Int32)) hx hb dX4_comesOverHeld_24 (by decide) ?_
      subst hQ
      exact retRO hx hb hr hlocks rfl hS h dX4_comesOverHeld_25
  refine L7 _ (fun _ h H locs ls hP hS hl => ?_) _ _ _ h _ _ _ hP hS (lv_sub hl [2, 4, 1, 0] rfl)
  refine lv_iconst (v := (0 : Int32)) hx hb dX4_comesOverHeld_41 (by decide) ?_
  subst hQ
  exact retRO hx hb hr hlocks rfl hS h dX4_comesOverHeld_42
theorem dX4_poles_0 : decode cX4_poles 0 = .ok (.iload_n 1, 1) := by decide +kernel
theorem dX4_poles_1 : decode cX4_poles 1 = .ok (.iload_n 2, 1) := by decide +kernel
theorem dX4_poles_2 : decode cX4_poles 2 = .ok (.invokestatic 176, 3) := by decide +kernel
theorem dX4_poles_5 : decode cX4_poles 5 = .ok (.istore_n 3, 1) := by decide +kernel
theorem dX4_poles_6 : decode cX4_poles 6 = .ok (.iload_n 3, 1) := by decide +kernel
theorem dX4_poles_7 : decode cX4_poles 7 = .ok (.ifCond .eq 9, 3) := by decide +kernel
theorem dX4_poles_10 : decode cX4_poles 10 = .ok (.aload_n 0, 1) := by decide +kernel
theorem dX4_poles_11 : decode cX4_poles 11 = .ok (.iload_n 3, 1) := by decide +kernel
theorem dX4_poles_12 : decode cX4_poles 12 = .ok (.invokevirtual 73, 3) := by decide +kernel
theorem dX4_poles_15 : decode cX4_poles 15 = .ok (.ireturn, 1) := by decide +kernel
theorem dX4_poles_16 : decode cX4_poles 16 = .ok (.bipush (-9), 2) := by decide +kernel
theorem dX4_poles_18 : decode cX4_poles 18 = .ok (.istore 4, 2) := by decide +kernel
theorem dX4_poles_20 : decode cX4_poles 20 = .ok (.aload_n 0, 1) := by decide +kernel
theorem dX4_poles_21 : decode cX4_poles 21 = .ok (.iload_n 1, 1) := by decide +kernel
theorem dX4_poles_22 : decode cX4_poles 22 = .ok (.invokevirtual 202, 3) := by decide +kernel
theorem dX4_poles_25 : decode cX4_poles 25 = .ok (.iconst 1, 1) := by decide +kernel
theorem dX4_poles_26 : decode cX4_poles 26 = .ok (.aload_n 0, 1) := by decide +kernel
theorem dX4_poles_27 : decode cX4_poles 27 = .ok (.getfield 59, 3) := by decide +kernel
theorem dX4_poles_30 : decode cX4_poles 30 = .ok (.ishl, 1) := by decide +kernel
theorem dX4_poles_31 : decode cX4_poles 31 = .ok (.iconst 1, 1) := by decide +kernel
theorem dX4_poles_32 : decode cX4_poles 32 = .ok (.isub, 1) := by decide +kernel
theorem dX4_poles_33 : decode cX4_poles 33 = .ok (.istore 5, 2) := by decide +kernel
theorem dX4_poles_35 : decode cX4_poles 35 = .ok (.iload 5, 2) := by decide +kernel
theorem dX4_poles_37 : decode cX4_poles 37 = .ok (.ifCond .lt 44, 3) := by decide +kernel
theorem dX4_poles_40 : decode cX4_poles 40 = .ok (.iload 4, 2) := by decide +kernel
theorem dX4_poles_42 : decode cX4_poles 42 = .ok (.ifCond .lt 16, 3) := by decide +kernel
theorem dX4_poles_45 : decode cX4_poles 45 = .ok (.iload 5, 2) := by decide +kernel
theorem dX4_poles_47 : decode cX4_poles 47 = .ok (.invokestatic 206, 3) := by decide +kernel
theorem dX4_poles_50 : decode cX4_poles 50 = .ok (.iload 4, 2) := by decide +kernel
theorem dX4_poles_52 : decode cX4_poles 52 = .ok (.invokestatic 206, 3) := by decide +kernel
theorem dX4_poles_55 : decode cX4_poles 55 = .ok (.if_icmp .gt 20, 3) := by decide +kernel
theorem dX4_poles_58 : decode cX4_poles 58 = .ok (.aload_n 0, 1) := by decide +kernel
theorem dX4_poles_59 : decode cX4_poles 59 = .ok (.iload_n 2, 1) := by decide +kernel
theorem dX4_poles_60 : decode cX4_poles 60 = .ok (.iload 5, 2) := by decide +kernel
theorem dX4_poles_62 : decode cX4_poles 62 = .ok (.bipush 10, 2) := by decide +kernel
theorem dX4_poles_64 : decode cX4_poles 64 = .ok (.ishl, 1) := by decide +kernel
theorem dX4_poles_65 : decode cX4_poles 65 = .ok (.invokevirtual 209, 3) := by decide +kernel
theorem dX4_poles_68 : decode cX4_poles 68 = .ok (.ifCond .eq 7, 3) := by decide +kernel
theorem dX4_poles_71 : decode cX4_poles 71 = .ok (.iload 5, 2) := by decide +kernel
theorem dX4_poles_73 : decode cX4_poles 73 = .ok (.istore 4, 2) := by decide +kernel
theorem dX4_poles_75 : decode cX4_poles 75 = .ok (.iinc 5 (-1), 3) := by decide +kernel
theorem dX4_poles_78 : decode cX4_poles 78 = .ok (.goto (-43), 3) := by decide +kernel
theorem dX4_poles_81 : decode cX4_poles 81 = .ok (.iload 4, 2) := by decide +kernel
theorem dX4_poles_83 : decode cX4_poles 83 = .ok (.ireturn, 1) := by decide +kernel
set_option maxRecDepth 20000 in
theorem ggX4_poles_X4_notLoad : GoodIn wsX4_poles wsX4_notLoad := goodIn_r _ [5, 6, 7, 4, 8, 9, 10, 11, 12, 13, 14] (by decide +kernel) (by decide +kernel)
set_option maxRecDepth 20000 in
theorem gX4_poles_X4_notLoad : GoodIn wsX4_poles (va_wsS RX4 176 yX4_notLoad wsX4_notLoad) := goodIn_app (goodIn_of _ (by decide +kernel)) ggX4_poles_X4_notLoad
set_option maxRecDepth 20000 in
theorem ggX4_poles_X4_no : GoodIn wsX4_poles wsX4_no := goodIn_r _ [18, 19, 85, 86, 87, 88, 89, 90, 91, 92, 93, 94, 95, 96, 97, 98, 99, 100, 101, 102, 103, 104, 105, 106, 107, 108, 109, 110, 111, 112] (by decide +kernel) (by decide +kernel)
set_option maxRecDepth 20000 in
theorem gX4_poles_X4_no : GoodIn wsX4_poles (wsV RX4 73 RX4 yX4_no wsX4_no) := goodIn_app (goodIn_of _ (by decide +kernel)) ggX4_poles_X4_no
set_option maxRecDepth 20000 in
theorem ggX4_poles_X4_findLands : GoodIn wsX4_poles wsX4_findLands := goodIn_r _ [23, 24, 25, 26, 27, 28, 4, 29, 30, 31, 32, 33, 9, 10, 11, 34, 35, 36, 37, 38, 39, 40, 41, 42, 43, 44, 45, 46, 47, 48, 49, 50, 51, 52, 53, 54, 55, 56, 57, 58, 1, 59, 60, 61, 62, 63, 64, 65, 66, 67, 68, 69, 70, 71, 72, 73, 85, 86, 87, 88, 89, 90, 91, 92, 93, 94, 95, 96, 97, 98, 99, 100, 101, 102, 103, 104, 105, 106, 107, 108, 109, 110, 111, 112] (by decide +kernel) (by decide +kernel)
set_option maxRecDepth 20000 in
theorem gX4_poles_X4_findLands : GoodIn wsX4_poles (wsV RX4 202 RX4 yX4_findLands wsX4_findLands) := goodIn_app (goodIn_of _ (by decide +kernel)) ggX4_poles_X4_findLands
set_option maxRecDepth 20000 in
theorem ggX4_poles_X4_bits : GoodIn wsX4_poles wsX4_bits := goodIn_r _ [76] (by decide +kernel) (by decide +kernel)
set_option maxRecDepth 20000 in
theorem gX4_poles_X4_bits : GoodIn wsX4_poles (va_wsS RX4 206 yX4_bits wsX4_bits) := goodIn_app (goodIn_of _ (by decide +kernel)) ggX4_poles_X4_bits
set_option maxRecDepth 20000 in
theorem ggX4_poles_X4_comesOverHeld : GoodIn wsX4_poles wsX4_comesOverHeld := goodIn_r _ [80, 81, 82, 83, 4, 84, 24, 85, 86, 87, 88, 89, 90, 91, 92, 93, 94, 95, 96, 97, 98, 99, 100, 101, 102, 103, 104, 105, 106, 107, 108, 109, 110, 111, 112] (by decide +kernel) (by decide +kernel)
set_option maxRecDepth 20000 in
theorem gX4_poles_X4_comesOverHeld : GoodIn wsX4_poles (wsV RX4 209 RX4 yX4_comesOverHeld wsX4_comesOverHeld) := goodIn_app (goodIn_of _ (by decide +kernel)) ggX4_poles_X4_comesOverHeld
set_option maxHeartbeats 4000000 in
set_option maxRecDepth 100000 in
theorem mX4_poles (l : Launch) (dC : Nat → ClassId) (dI : Nat → Nat → Nat) (cI cC : ClassId) (sk : (Nat → Nat) × (Nat → Nat)) (f : Nat → Nat) (sz : Nat) (p1 : Int32) (p2 : Int32) (c_r : RT) (c_refused : AR) (c_tape : AR) (c_letter : AR) (c_letterAt : AR) (c_number : AR) (c_taped : Int32) (c_at : Int32) (c_statements : Int32) (c_kept : AR) (c_hasImage : Int32) (c_isKeeping : Int32) (c_cursor : Int32) (c_poled : Int32) (c_barred : Int32) (c_leapsTo : AR) (c_leapsThen : AR) (c_lands : AR) (c_row : AR) (c_rowMany : Int32) (c_endsAt : Int32) (z : Int32 × AR × Int32 × AR) (h : fX4_poles p1 p2 c_r c_refused c_poled c_barred c_lands = some z) : cRW l yX4_poles wsX4_poles (RMk 6 140) sk (dC, dI) (tyz cI cC) sz (zwM cI cC f c_r c_refused c_tape c_letter c_letterAt c_number c_taped c_at c_statements c_kept c_hasImage c_isKeeping c_cursor c_poled c_barred c_leapsTo c_leapsThen c_lands c_row c_rowMany c_endsAt) (zwM cI cC f c_r z.2.1 c_tape c_letter c_letterAt c_number c_taped c_at c_statements c_kept c_hasImage c_isKeeping c_cursor z.2.2.1 c_barred c_leapsTo c_leapsThen z.2.2.2 c_row c_rowMany c_endsAt) [.ref (f 0), .int p1, .int p2] z.1 := by
  refine ofRW (cc := cX4_poles) (maxL := 6) (ret := (some .int)) (own := RX4) (plainFor_of_name (by decide)) rfl rfl (Nat.le_of_ble_eq_true rfl) ?_
  intro p e s m args below meth c A hA hx hb hml hr hts hown hlocks hE hK hP hD hS ls hl
  generalize hQ : qRW _ _ _ _ _ _ _ = Q
  have hl : lv_has ls 6 [(0, .ref (f 0)), (1, .int p1), (2, .int p2)] := hl
  have hiX4 : ∀ w ∈ wsX40, w ∈ wsX4_poles := fun w h => List.mem_cons_of_mem _ (List.mem_append_right _ h)
  have hw1 := hts (Cond.fieldLink RX4 59 "FloeToFloeModel" "floes" "I") (List.mem_of_getElem? (i := 1) rfl)
  rw [fX4_poles] at h
  refine lv_iload_n hx hb dX4_poles_0 rfl (lv_at hl 1 rfl) ?_
  refine lv_iload_n hx hb dX4_poles_1 rfl (lv_at hl 2 rfl) ?_
  obtain ⟨q2, e2, h⟩ := bd_some h
  refine g_roS (wc := ([] : va_W)) ⟨hx, hb, hml, hown, hts⟩ hE hK hP hS [] rfl (mX4_notLoad l dC dI cI cC sk  p1 p2 q2 e2) (va_cwS 2 hts gX4_poles_X4_notLoad rfl rfl rfl (by decide +kernel) ⟨Nat.le_of_ble_eq_true rfl, Nat.le_of_ble_eq_true rfl⟩) (As := [.int p1, .int p2]) (rest := []) rfl hl.1 rfl (Nat.le_of_ble_eq_true rfl) dX4_poles_2 ⟨Nat.zero_le _, Nat.zero_le _⟩ (fun H locs hP hS => ?_)
  refine lv_istore_n (lv' := [(3, .int q2), (0, .ref (f 0)), (1, .int p1), (2, .int p2)]) hx hb dX4_poles_5 rfl hl (by decide) rfl (fun ls hl => ?_)
  refine lv_iload_n hx hb dX4_poles_6 rfl (lv_at hl 0 rfl) ?_
  refine lv_if_eq (tgt := 16) hx hb dX4_poles_7 (by decide) (fun c7 => ?_) (fun c7 => ?_)
  · have h := itT c7 h
    refine lv_bipush (v := (-9 : Int32)) hx hb dX4_poles_16 (by decide) ?_
    refine lv_istore (lv' := [(4, .int (-9 : Int32)), (3, .int q2), (0, .ref (f 0)), (1, .int p1), (2, .int p2)]) hx hb dX4_poles_18 hl (by decide) rfl (fun ls hl => ?_)
    refine lv_aload_n hx hb dX4_poles_20 rfl (lv_at hl 2 rfl) ?_
    refine lv_iload_n hx hb dX4_poles_21 rfl (lv_at hl 3 rfl) ?_
    obtain ⟨q22, e22, h⟩ := bd_some h
    refine g_rvV (wc := (zwM cI cC f c_r c_refused c_tape c_letter c_letterAt c_number c_taped c_at c_statements c_kept c_hasImage c_isKeeping c_cursor c_poled c_barred c_leapsTo c_leapsThen c_lands c_row c_rowMany c_endsAt)) (wc' := (zwM cI cC f c_r c_refused c_tape c_letter c_letterAt c_number c_taped c_at c_statements c_kept c_hasImage c_isKeeping c_cursor q22.1 c_barred c_leapsTo c_leapsThen q22.2 c_row c_rowMany c_endsAt)) ⟨hx, hb, hml, hown, hts⟩ hE hK hA hP hD hS [0, 1, 2, 3, 4, 5, 6, 7, 8, 9, 10, 11, 12, 13, 14, 15] rfl rfl rfl (mX4_findLands l dC dI cI cC sk f H.size p1 c_r c_refused c_tape c_letter c_letterAt c_number c_taped c_at c_statements c_kept c_hasImage c_isKeeping c_cursor c_poled c_barred c_leapsTo c_leapsThen c_lands c_row c_rowMany c_endsAt q22 e22) (cwV 1 hts gX4_poles_X4_findLands rfl rfl rfl (by decide +kernel) ⟨Nat.le_of_ble_eq_true rfl, Nat.le_of_ble_eq_true rfl⟩) (va_recv hK hP (ci := 4) (q0 := 0) rfl rfl) (As := [.int p1]) (rest := []) rfl hl.1 rfl (Nat.le_of_ble_eq_true rfl) dX4_poles_22 ⟨Nat.zero_le _, Nat.zero_le _⟩ (fun H locs hP hD hS => ?_)
    have hP : va_P (dC, dI) vwCl (zwM cI cC f c_r c_refused c_tape c_letter c_letterAt c_number c_taped c_at c_statements c_kept c_hasImage c_isKeeping c_cursor q22.1 c_barred c_leapsTo c_leapsThen q22.2 c_row c_rowMany c_endsAt) H := hP
    have hD : va_D A (zwM cI cC f c_r c_refused c_tape c_letter c_letterAt c_number c_taped c_at c_statements c_kept c_hasImage c_isKeeping c_cursor q22.1 c_barred c_leapsTo c_leapsThen q22.2 c_row c_rowMany c_endsAt) := hD
    refine lv_iconst (v := (1 : Int32)) hx hb dX4_poles_25 (by decide) ?_
    refine lv_aload_n hx hb dX4_poles_26 rfl (lv_at hl 2 rfl) ?_
    refine va_get (D := (dC, dI)) (ci := 4) (v := .int (R_floes c_r)) (C := RX4) (T := TX4) (N := 28) hx hb hts hiX4 hown hK hP 0 rfl rfl 6 (by decide) hw1 (fun _ h9 => h9) rfl dX4_poles_27 ?_
    refine lv_ishl hx hb dX4_poles_30 ?_
    refine lv_iconst (v := (1 : Int32)) hx hb dX4_poles_31 (by decide) ?_
    refine lv_isub hx hb dX4_poles_32 ?_
    refine lv_istore (lv' := [(5, .int (((1 : Int32) <<< ((R_floes c_r) &&& 31)) - (1 : Int32))), (4, .int (-9 : Int32)), (3, .int q2), (0, .ref (f 0)), (1, .int p1), (2, .int p2)]) hx hb dX4_poles_33 hl (by decide) rfl (fun ls hl => ?_)
    have L35 : ∀ (K35 : Int32 → Option (Int32 × AR × Int32 × AR)), (∀ (k35_4 : Int32), K35 k35_4 = some z → ∀ (H : Heap) (locs : List Loc) (ls : Array Slot), va_P (dC, dI) vwCl (zwM cI cC f c_r c_refused c_tape c_letter c_letterAt c_number c_taped c_at c_statements c_kept c_hasImage c_isKeeping c_cursor q22.1 c_barred c_leapsTo c_leapsThen q22.2 c_row c_rowMany c_endsAt) H → va_D A (zwM cI cC f c_r c_refused c_tape c_letter c_letterAt c_number c_taped c_at c_statements c_kept c_hasImage c_isKeeping c_cursor q22.1 c_barred c_leapsTo c_leapsThen q22.2 c_row c_rowMany c_endsAt) → va_S A s.heap H locs → lv_has ls 6 [(4, .int k35_4)] → W p l e (RMk 6 140) s m args below meth c H locs 0 0 Q (F0 m 81 ls [])) → ∀ (n : Nat) (x35_4 : Int32) (x35_5 : Int32), fX4_poles_L35 p2 q22 K35 n x35_4 x35_5 = some z → ∀ (H : Heap) (locs : List Loc) (ls : Array Slot), va_P (dC, dI) vwCl (zwM cI cC f c_r c_refused c_tape c_letter c_letterAt c_number c_taped c_at c_statements c_kept c_hasImage c_isKeeping c_cursor q22.1 c_barred c_leapsTo c_leapsThen q22.2 c_row c_rowMany c_endsAt) H → va_D A (zwM cI cC f c_r c_refused c_tape c_letter c_letterAt c_number c_taped c_at c_statements c_kept c_hasImage c_isKeeping c_cursor q22.1 c_barred c_leapsTo c_leapsThen q22.2 c_row c_rowMany c_endsAt) → va_S A s.heap H locs → lv_has ls 6 [(0, .ref (f 0)), (2, .int p2), (4, .int x35_4), (5, .int x35_5)] → W p l e (RMk 6 140) s m args below meth c H locs 0 0 Q (F0 m 35 ls []) := by
      intro K35 kx35 n
      induction n with
      | zero => intro x35_4 x35_5 h; rw [fX4_poles_L35] at h; cases h
      | succ n ih35 =>
        intro x35_4 x35_5 h H locs ls hP hD hS hl
        rw [fX4_poles_L35] at h
        refine lv_iload hx hb dX4_poles_35 (lv_at hl 3 rfl) ?_
        refine lv_if_lt (tgt := 81) hx hb dX4_poles_37 (by decide) (fun c37 => ?_) (fun c37 => ?_)
        · have h := itT c37 h
          exact kx35 _ h _ _ _ hP hD hS (lv_sub hl [2] rfl)
        have h := itF c37 h
        refine lv_iload hx hb dX4_poles_40 (lv_at hl 2 rfl) ?_
        refine jnW (fun (v58 : Unit) => ∀ (H : Heap) (locs : List Loc) (ls : Array Slot), va_P (dC, dI) vwCl (zwM cI cC f c_r c_refused c_tape c_letter c_letterAt c_number c_taped c_at c_statements c_kept c_hasImage c_isKeeping c_cursor q22.1 c_barred c_leapsTo c_leapsThen q22.2 c_row c_rowMany c_endsAt) H → va_D A (zwM cI cC f c_r c_refused c_tape c_letter c_letterAt c_number c_taped c_at c_statements c_kept c_hasImage c_isKeeping c_cursor q22.1 c_barred c_leapsTo c_leapsThen q22.2 c_row c_rowMany c_endsAt) → va_S A s.heap H locs → lv_has ls 6 [(0, .ref (f 0)), (2, .int p2), (4, .int x35_4), (5, .int x35_5)] → W p l e (RMk 6 140) s m args below meth c H locs 0 0 Q (F0 m 58 ls [])) h (fun v58 h H locs ls hP hD hS hl => ?_) (fun J58 j58 h => ?_)
        · refine lv_aload_n hx hb dX4_poles_58 rfl (lv_at hl 0 rfl) ?_
          refine lv_iload_n hx hb dX4_poles_59 rfl (lv_at hl 1 rfl) ?_
          refine lv_iload hx hb dX4_poles_60 (lv_at hl 3 rfl) ?_
          refine lv_bipush (v := (10 : Int32)) hx hb dX4_poles_62 (by decide) ?_
          refine lv_ishl hx hb dX4_poles_64 ?_
          obtain ⟨q65, e65, h⟩ := bd_some h
          refine g_roV (wc := (zwM cI cC f c_r c_refused c_tape c_letter c_letterAt c_number c_taped c_at c_statements c_kept c_hasImage c_isKeeping c_cursor q22.1 c_barred c_leapsTo c_leapsThen q22.2 c_row c_rowMany c_endsAt)) ⟨hx, hb, hml, hown, hts⟩ hE hK hP hS [0, 1, 2, 3, 4, 5, 6, 7, 8, 9, 10, 11, 12, 13, 14, 15] rfl (mX4_comesOverHeld l dC dI cI cC sk f p2 (x35_5 <<< ((10 : Int32) &&& 31)) c_r c_refused c_tape c_letter c_letterAt c_number c_taped c_at c_statements c_kept c_hasImage c_isKeeping c_cursor q22.1 c_barred c_leapsTo c_leapsThen q22.2 c_row c_rowMany c_endsAt q65 e65) (cwV 2 hts gX4_poles_X4_comesOverHeld rfl rfl rfl (by decide +kernel) ⟨Nat.le_of_ble_eq_true rfl, Nat.le_of_ble_eq_true rfl⟩) (va_recv hK hP (ci := 4) (q0 := 0) rfl rfl) (As := [.int p2, .int (x35_5 <<< ((10 : Int32) &&& 31))]) (rest := []) rfl hl.1 rfl (Nat.le_of_ble_eq_true rfl) dX4_poles_65 ⟨Nat.zero_le _, Nat.zero_le _⟩ (fun H locs hP hS => ?_)
          refine lv_if_eq (tgt := 75) hx hb dX4_poles_68 (by decide) (fun c68 => ?_) (fun c68 => ?_)
          · have h := itT c68 h
            refine lv_iinc (v := (x35_5 + (-1 : Int32))) (lv' := [(5, .int (x35_5 + (-1 : Int32))), (0, .ref (f 0)), (2, .int p2), (4, .int x35_4)]) hx hb dX4_poles_75 hl (k := 3) rfl rfl (by decide) rfl (fun ls hl => ?_)
            refine lv_goto (tgt := 35) hx hb dX4_poles_78 (by decide) ?_
            exact ih35 _ _ h _ _ _ hP hD hS (lv_sub hl [1, 2, 3, 0] rfl)
          have h := itF c68 h
          refine lv_iload hx hb dX4_poles_71 (lv_at hl 3 rfl) ?_
          refine lv_istore (lv' := [(4, .int x35_5), (0, .ref (f 0)), (2, .int p2), (5, .int x35_5)]) hx hb dX4_poles_73 hl (by decide) rfl (fun ls hl => ?_)
          refine lv_iinc (v := (x35_5 + (-1 : Int32))) (lv' := [(5, .int (x35_5 + (-1 : Int32))), (4, .int x35_5), (0, .ref (f 0)), (2, .int p2)]) hx hb dX4_poles_75 hl (k := 3) rfl rfl (by decide) rfl (fun ls hl => ?_)
          refine lv_goto (tgt := 35) hx hb dX4_poles_78 (by decide) ?_
          exact ih35 _ _ h _ _ _ hP hD hS (lv_sub hl [2, 3, 1, 0] rfl)
        refine lv_if_lt (tgt := 58) hx hb dX4_poles_42 (by decide) (fun c42 => ?_) (fun c42 => ?_)
        · have h := itT c42 h
          exact j58 _ h _ _ _ hP hD hS (lv_sub hl [0, 1, 2, 3] rfl)
        have h := itF c42 h
        refine lv_iload hx hb dX4_poles_45 (lv_at hl 3 rfl) ?_
        obtain ⟨q47, e47, h⟩ := bd_some h
        refine g_roS (wc := ([] : va_W)) ⟨hx, hb, hml, hown, hts⟩ hE hK hP hS [] rfl (mX4_bits l dC dI cI cC sk  x35_5 q47 e47) (va_cwS 1 hts gX4_poles_X4_bits rfl rfl rfl (by decide +kernel) ⟨Nat.le_of_ble_eq_true rfl, Nat.le_of_ble_eq_true rfl⟩) (As := [.int x35_5]) (rest := []) rfl hl.1 rfl (Nat.le_of_ble_eq_true rfl) dX4_poles_47 ⟨Nat.zero_le _, Nat.zero_le _⟩ (fun H locs hP hS => ?_)
        refine lv_iload hx hb dX4_poles_50 (lv_at hl 2 rfl) ?_
        obtain ⟨q52, e52, h⟩ := bd_some h
        refine g_roS (wc := ([] : va_W)) ⟨hx, hb, hml, hown, hts⟩ hE hK hP hS [] rfl (mX4_bits l dC dI cI cC sk  x35_4 q52 e52) (va_cwS 1 hts gX4_poles_X4_bits rfl rfl rfl (by decide +kernel) ⟨Nat.le_of_ble_eq_true rfl, Nat.le_of_ble_eq_true rfl⟩) (As := [.int x35_4]) (rest := [.int q47]) rfl hl.1 rfl (Nat.le_of_ble_eq_true rfl) dX4_poles_52 ⟨Nat.zero_le _, Nat.zero_le _⟩ (fun H locs hP hS => ?_)
        refine lv_icmp_gt (tgt := 75) hx hb dX4_poles_55 (by decide) (fun c55 => ?_) (fun c55 => ?_)
        · have h := itT c55 h
          refine lv_iinc (v := (x35_5 + (-1 : Int32))) (lv' := [(5, .int (x35_5 + (-1 : Int32))), (0, .ref (f 0)), (2, .int p2), (4, .int x35_4)]) hx hb dX4_poles_75 hl (k := 3) rfl rfl (by decide) rfl (fun ls hl => ?_)
          refine lv_goto (tgt := 35) hx hb dX4_poles_78 (by decide) ?_
          exact ih35 _ _ h _ _ _ hP hD hS (lv_sub hl [1, 2, 3, 0] rfl)
        have h := itF c55 h
        exact j58 _ h _ _ _ hP hD hS (lv_sub hl [0, 1, 2, 3] rfl)
    refine L35 _ (fun k35_4 h H locs ls hP hD hS hl => ?_) _ _ _ h _ _ _ hP hD hS (lv_sub hl [3, 5, 1, 0] rfl)
    refine lv_iload hx hb dX4_poles_81 (lv_at hl 0 rfl) ?_
    subst hQ
    exact retRW (zz := ((k35_4, c_refused, q22.1, q22.2) : Int32 × AR × Int32 × AR)) (fun z => z.1) (fun z => (zwM cI cC f c_r z.2.1 c_tape c_letter c_letterAt c_number c_taped c_at c_statements c_kept c_hasImage c_isKeeping c_cursor z.2.2.1 c_barred c_leapsTo c_leapsThen z.2.2.2 c_row c_rowMany c_endsAt)) hx hb hr hlocks rfl hS h rfl hP dX4_poles_83
  have h := itF c7 h
  refine lv_aload_n hx hb dX4_poles_10 rfl (lv_at hl 1 rfl) ?_
  refine lv_iload_n hx hb dX4_poles_11 rfl (lv_at hl 0 rfl) ?_
  obtain ⟨q12, e12, h⟩ := bd_some h
  refine g_rwV (wc := (zwM cI cC f c_r c_refused c_tape c_letter c_letterAt c_number c_taped c_at c_statements c_kept c_hasImage c_isKeeping c_cursor c_poled c_barred c_leapsTo c_leapsThen c_lands c_row c_rowMany c_endsAt)) (wc' := (zwM cI cC f c_r q12.2 c_tape c_letter c_letterAt c_number c_taped c_at c_statements c_kept c_hasImage c_isKeeping c_cursor c_poled c_barred c_leapsTo c_leapsThen c_lands c_row c_rowMany c_endsAt)) ⟨hx, hb, hml, hown, hts⟩ hE hK hA hP hD hS [0, 1, 2, 3, 4, 5, 6, 7, 8, 9, 10, 11, 12, 13, 14, 15] rfl rfl rfl (mX4_no l dC dI cI cC sk f H.size q2 c_r c_refused c_tape c_letter c_letterAt c_number c_taped c_at c_statements c_kept c_hasImage c_isKeeping c_cursor c_poled c_barred c_leapsTo c_leapsThen c_lands c_row c_rowMany c_endsAt q12 e12) (cwV 1 hts gX4_poles_X4_no rfl rfl rfl (by decide +kernel) ⟨Nat.le_of_ble_eq_true rfl, Nat.le_of_ble_eq_true rfl⟩) (va_recv hK hP (ci := 4) (q0 := 0) rfl rfl) (As := [.int q2]) (rest := []) rfl hl.1 rfl (Nat.le_of_ble_eq_true rfl) dX4_poles_12 ⟨Nat.zero_le _, Nat.zero_le _⟩ (fun H locs hP hD hS => ?_)
  have hP : va_P (dC, dI) vwCl (zwM cI cC f c_r q12.2 c_tape c_letter c_letterAt c_number c_taped c_at c_statements c_kept c_hasImage c_isKeeping c_cursor c_poled c_barred c_leapsTo c_leapsThen c_lands c_row c_rowMany c_endsAt) H := hP
  have hD : va_D A (zwM cI cC f c_r q12.2 c_tape c_letter c_letterAt c_number c_taped c_at c_statements c_kept c_hasImage c_isKeeping c_cursor c_poled c_barred c_leapsTo c_leapsThen c_lands c_row c_rowMany c_endsAt) := hD
  subst hQ
  exact retRW (zz := ((q12.1, q12.2, c_poled, c_lands) : Int32 × AR × Int32 × AR)) (fun z => z.1) (fun z => (zwM cI cC f c_r z.2.1 c_tape c_letter c_letterAt c_number c_taped c_at c_statements c_kept c_hasImage c_isKeeping c_cursor z.2.2.1 c_barred c_leapsTo c_leapsThen z.2.2.2 c_row c_rowMany c_endsAt)) hx hb hr hlocks rfl hS h rfl hP dX4_poles_15
theorem dX4_from_0 : decode cX4_from 0 = .ok (.iload_n 1, 1) := by decide +kernel
theorem dX4_from_1 : decode cX4_from 1 = .ok (.iconst 1, 1) := by decide +kernel
theorem dX4_from_2 : decode cX4_from 2 = .ok (.bipush 9, 2) := by decide +kernel
theorem dX4_from_4 : decode cX4_from 4 = .ok (.invokestatic 66, 3) := by decide +kernel
theorem dX4_from_7 : decode cX4_from 7 = .ok (.istore_n 2, 1) := by decide +kernel
theorem dX4_from_8 : decode cX4_from 8 = .ok (.iload_n 2, 1) := by decide +kernel
theorem dX4_from_9 : decode cX4_from 9 = .ok (.ifCond .eq 9, 3) := by decide +kernel
theorem dX4_from_12 : decode cX4_from 12 = .ok (.aload_n 0, 1) := by decide +kernel
theorem dX4_from_13 : decode cX4_from 13 = .ok (.iload_n 2, 1) := by decide +kernel
theorem dX4_from_14 : decode cX4_from 14 = .ok (.invokevirtual 73, 3) := by decide +kernel
theorem dX4_from_17 : decode cX4_from 17 = .ok (.ireturn, 1) := by decide +kernel
theorem dX4_from_18 : decode cX4_from 18 = .ok (.iconst 0, 1) := by decide +kernel
theorem dX4_from_19 : decode cX4_from 19 = .ok (.istore_n 3, 1) := by decide +kernel
theorem dX4_from_20 : decode cX4_from 20 = .ok (.iconst 0, 1) := by decide +kernel
theorem dX4_from_21 : decode cX4_from 21 = .ok (.istore 4, 2) := by decide +kernel
theorem dX4_from_23 : decode cX4_from 23 = .ok (.iload 4, 2) := by decide +kernel
theorem dX4_from_25 : decode cX4_from 25 = .ok (.bipush 10, 2) := by decide +kernel
theorem dX4_from_27 : decode cX4_from 27 = .ok (.if_icmp .ge 34, 3) := by decide +kernel
theorem dX4_from_30 : decode cX4_from 30 = .ok (.iload_n 3, 1) := by decide +kernel
theorem dX4_from_31 : decode cX4_from 31 = .ok (.aload_n 0, 1) := by decide +kernel
theorem dX4_from_32 : decode cX4_from 32 = .ok (.iload_n 1, 1) := by decide +kernel
theorem dX4_from_33 : decode cX4_from 33 = .ok (.iload 4, 2) := by decide +kernel
theorem dX4_from_35 : decode cX4_from 35 = .ok (.aload_n 0, 1) := by decide +kernel
theorem dX4_from_36 : decode cX4_from 36 = .ok (.getfield 101, 3) := by decide +kernel
theorem dX4_from_39 : decode cX4_from 39 = .ok (.invokevirtual 179, 3) := by decide +kernel
theorem dX4_from_42 : decode cX4_from 42 = .ok (.ifCond .lt 10, 3) := by decide +kernel
theorem dX4_from_45 : decode cX4_from 45 = .ok (.iconst 1, 1) := by decide +kernel
theorem dX4_from_46 : decode cX4_from 46 = .ok (.iload 4, 2) := by decide +kernel
theorem dX4_from_48 : decode cX4_from 48 = .ok (.ishl, 1) := by decide +kernel
theorem dX4_from_49 : decode cX4_from 49 = .ok (.goto 4, 3) := by decide +kernel
theorem dX4_from_52 : decode cX4_from 52 = .ok (.iconst 0, 1) := by decide +kernel
theorem dX4_from_53 : decode cX4_from 53 = .ok (.ior, 1) := by decide +kernel
theorem dX4_from_54 : decode cX4_from 54 = .ok (.istore_n 3, 1) := by decide +kernel
theorem dX4_from_55 : decode cX4_from 55 = .ok (.iinc 4 1, 3) := by decide +kernel
theorem dX4_from_58 : decode cX4_from 58 = .ok (.goto (-35), 3) := by decide +kernel
theorem dX4_from_61 : decode cX4_from 61 = .ok (.iload_n 3, 1) := by decide +kernel
theorem dX4_from_62 : decode cX4_from 62 = .ok (.ireturn, 1) := by decide +kernel
set_option maxRecDepth 20000 in
theorem ggX4_from_X4_bound : GoodIn wsX4_from wsX4_bound := goodIn_r _ [5] (by decide +kernel) (by decide +kernel)
set_option maxRecDepth 20000 in
theorem gX4_from_X4_bound : GoodIn wsX4_from (va_wsS RX4 66 yX4_bound wsX4_bound) := goodIn_app (goodIn_of _ (by decide +kernel)) ggX4_from_X4_bound
set_option maxRecDepth 20000 in
theorem ggX4_from_X4_no : GoodIn wsX4_from wsX4_no := goodIn_r _ [9, 10, 64, 65, 66, 67, 68, 69, 70, 71, 72, 73, 74, 75, 76, 77, 78, 79, 80, 81, 82, 83, 84, 85, 86, 87, 88, 89, 90, 91] (by decide +kernel) (by decide +kernel)
set_option maxRecDepth 20000 in
theorem gX4_from_X4_no : GoodIn wsX4_from (wsV RX4 73 RX4 yX4_no wsX4_no) := goodIn_app (goodIn_of _ (by decide +kernel)) ggX4_from_X4_no
set_option maxRecDepth 20000 in
theorem ggX4_from_X4_soonestFrom : GoodIn wsX4_from wsX4_soonestFrom := goodIn_r _ [14, 15, 16, 17, 4, 18, 19, 20, 21, 22, 23, 24, 25, 26, 27, 28, 29, 30, 31, 32, 33, 34, 35, 36, 37, 38, 39, 40, 41, 42, 43, 44, 45, 46, 47, 48, 49, 50, 51, 52, 53, 54, 1, 55, 56, 57, 58, 59, 60, 61, 62, 63, 64, 65, 66, 67, 68, 69, 70, 71, 72, 73, 74, 75, 76, 77, 78, 79, 80, 81, 82, 83, 84, 85, 86, 87, 88, 89, 90, 91] (by decide +kernel) (by decide +kernel)
set_option maxRecDepth 20000 in
theorem gX4_from_X4_soonestFrom : GoodIn wsX4_from (wsV RX4 179 RX4 yX4_soonestFrom wsX4_soonestFrom) := goodIn_app (goodIn_of _ (by decide +kernel)) ggX4_from_X4_soonestFrom
set_option maxHeartbeats 4000000 in
set_option maxRecDepth 100000 in
theorem mX4_from (l : Launch) (dC : Nat → ClassId) (dI : Nat → Nat → Nat) (cI cC : ClassId) (sk : (Nat → Nat) × (Nat → Nat)) (f : Nat → Nat) (sz : Nat) (p1 : Int32) (c_r : RT) (c_refused : AR) (c_tape : AR) (c_letter : AR) (c_letterAt : AR) (c_number : AR) (c_taped : Int32) (c_at : Int32) (c_statements : Int32) (c_kept : AR) (c_hasImage : Int32) (c_isKeeping : Int32) (c_cursor : Int32) (c_poled : Int32) (c_barred : Int32) (c_leapsTo : AR) (c_leapsThen : AR) (c_lands : AR) (c_row : AR) (c_rowMany : Int32) (c_endsAt : Int32) (z : Int32 × AR) (h : fX4_from p1 c_r c_refused c_poled c_barred = some z) : cRW l yX4_from wsX4_from (RMk 6 143) sk (dC, dI) (tyz cI cC) sz (zwM cI cC f c_r c_refused c_tape c_letter c_letterAt c_number c_taped c_at c_statements c_kept c_hasImage c_isKeeping c_cursor c_poled c_barred c_leapsTo c_leapsThen c_lands c_row c_rowMany c_endsAt) (zwM cI cC f c_r z.2 c_tape c_letter c_letterAt c_number c_taped c_at c_statements c_kept c_hasImage c_isKeeping c_cursor c_poled c_barred c_leapsTo c_leapsThen c_lands c_row c_rowMany c_endsAt) [.ref (f 0), .int p1] z.1 := by
  refine ofRW (cc := cX4_from) (maxL := 5) (ret := (some .int)) (own := RX4) (plainFor_of_name (by decide)) rfl rfl (Nat.le_of_ble_eq_true rfl) ?_
  intro p e s m args below meth c A hA hx hb hml hr hts hown hlocks hE hK hP hD hS ls hl
  generalize hQ : qRW _ _ _ _ _ _ _ = Q
  have hl : lv_has ls 5 [(0, .ref (f 0)), (1, .int p1)] := hl
  have hiX4 : ∀ w ∈ wsX40, w ∈ wsX4_from := fun w h => List.mem_cons_of_mem _ (List.mem_append_right _ h)
  have hw1 := hts (Cond.fieldLink RX4 101 "FloeToFloeModel" "minute" "I") (List.mem_of_getElem? (i := 1) rfl)
  rw [fX4_from] at h
  refine lv_iload_n hx hb dX4_from_0 rfl (lv_at hl 1 rfl) ?_
  refine lv_iconst (v := (1 : Int32)) hx hb dX4_from_1 (by decide) ?_
  refine lv_bipush (v := (9 : Int32)) hx hb dX4_from_2 (by decide) ?_
  obtain ⟨q4, e4, h⟩ := bd_some h
  refine g_roS (wc := ([] : va_W)) ⟨hx, hb, hml, hown, hts⟩ hE hK hP hS [] rfl (mX4_bound l dC dI cI cC sk  p1 (1 : Int32) (9 : Int32) q4 e4) (va_cwS 3 hts gX4_from_X4_bound rfl rfl rfl (by decide +kernel) ⟨Nat.le_of_ble_eq_true rfl, Nat.le_of_ble_eq_true rfl⟩) (As := [.int p1, .int (1 : Int32), .int (9 : Int32)]) (rest := []) rfl hl.1 rfl (Nat.le_of_ble_eq_true rfl) dX4_from_4 ⟨Nat.zero_le _, Nat.zero_le _⟩ (fun H locs hP hS => ?_)
  refine lv_istore_n (lv' := [(2, .int q4), (0, .ref (f 0)), (1, .int p1)]) hx hb dX4_from_7 rfl hl (by decide) rfl (fun ls hl => ?_)
  refine lv_iload_n hx hb dX4_from_8 rfl (lv_at hl 0 rfl) ?_
  refine lv_if_eq (tgt := 18) hx hb dX4_from_9 (by decide) (fun c9 => ?_) (fun c9 => ?_)
  · have h := itT c9 h
    refine lv_iconst (v := (0 : Int32)) hx hb dX4_from_18 (by decide) ?_
    refine lv_istore_n (lv' := [(3, .int (0 : Int32)), (2, .int q4), (0, .ref (f 0)), (1, .int p1)]) hx hb dX4_from_19 rfl hl (by decide) rfl (fun ls hl => ?_)
    refine lv_iconst (v := (0 : Int32)) hx hb dX4_from_20 (by decide) ?_
    refine lv_istore (lv' := [(4, .int (0 : Int32)), (3, .int (0 : Int32)), (2, .int q4), (0, .ref (f 0)), (1, .int p1)]) hx hb dX4_from_21 hl (by decide) rfl (fun ls hl => ?_)
    have L23 : ∀ (K23 : Int32 → Option (Int32 × AR)), (∀ (k23_3 : Int32), K23 k23_3 = some z → ∀ (H : Heap) (locs : List Loc) (ls : Array Slot), va_P (dC, dI) vwCl (zwM cI cC f c_r c_refused c_tape c_letter c_letterAt c_number c_taped c_at c_statements c_kept c_hasImage c_isKeeping c_cursor c_poled c_barred c_leapsTo c_leapsThen c_lands c_row c_rowMany c_endsAt) H → va_D A (zwM cI cC f c_r c_refused c_tape c_letter c_letterAt c_number c_taped c_at c_statements c_kept c_hasImage c_isKeeping c_cursor c_poled c_barred c_leapsTo c_leapsThen c_lands c_row c_rowMany c_endsAt) → va_S A s.heap H locs → lv_has ls 5 [(3, .int k23_3)] → W p l e (RMk 6 143) s m args below meth c H locs 0 0 Q (F0 m 61 ls [])) → ∀ (n : Nat) (x23_3 : Int32) (x23_4 : Int32), fX4_from_L23 c_barred c_poled c_r p1 K23 n x23_3 x23_4 = some z → ∀ (H : Heap) (locs : List Loc) (ls : Array Slot), va_P (dC, dI) vwCl (zwM cI cC f c_r c_refused c_tape c_letter c_letterAt c_number c_taped c_at c_statements c_kept c_hasImage c_isKeeping c_cursor c_poled c_barred c_leapsTo c_leapsThen c_lands c_row c_rowMany c_endsAt) H → va_D A (zwM cI cC f c_r c_refused c_tape c_letter c_letterAt c_number c_taped c_at c_statements c_kept c_hasImage c_isKeeping c_cursor c_poled c_barred c_leapsTo c_leapsThen c_lands c_row c_rowMany c_endsAt) → va_S A s.heap H locs → lv_has ls 5 [(0, .ref (f 0)), (1, .int p1), (3, .int x23_3), (4, .int x23_4)] → W p l e (RMk 6 143) s m args below meth c H locs 0 0 Q (F0 m 23 ls []) := by
      intro K23 kx23 n
      induction n with
      | zero => intro x23_3 x23_4 h; rw [fX4_from_L23] at h; cases h
      | succ n ih23 =>
        intro x23_3 x23_4 h H locs ls hP hD hS hl
        rw [fX4_from_L23] at h
        refine lv_iload hx hb dX4_from_23 (lv_at hl 3 rfl) ?_
        refine lv_bipush (v := (10 : Int32)) hx hb dX4_from_25 (by decide) ?_
        refine lv_icmp_ge (tgt := 61) hx hb dX4_from_27 (by decide) (fun c27 => ?_) (fun c27 => ?_)
        · have h := itT c27 h
          exact kx23 _ h _ _ _ hP hD hS (lv_sub hl [2] rfl)
        have h := itF c27 h
        refine lv_iload_n hx hb dX4_from_30 rfl (lv_at hl 2 rfl) ?_
        refine lv_aload_n hx hb dX4_from_31 rfl (lv_at hl 0 rfl) ?_
        refine lv_iload_n hx hb dX4_from_32 rfl (lv_at hl 1 rfl) ?_
        refine lv_iload hx hb dX4_from_33 (lv_at hl 3 rfl) ?_
        refine lv_aload_n hx hb dX4_from_35 rfl (lv_at hl 0 rfl) ?_
        refine va_get (D := (dC, dI)) (ci := 4) (v := .int (R_minute c_r)) (C := RX4) (T := TX4) (N := 28) hx hb hts hiX4 hown hK hP 0 rfl rfl 8 (by decide) hw1 (fun _ h9 => h9) rfl dX4_from_36 ?_
        obtain ⟨q39, e39, h⟩ := bd_some h
        refine g_roV (wc := (zwM cI cC f c_r c_refused c_tape c_letter c_letterAt c_number c_taped c_at c_statements c_kept c_hasImage c_isKeeping c_cursor c_poled c_barred c_leapsTo c_leapsThen c_lands c_row c_rowMany c_endsAt)) ⟨hx, hb, hml, hown, hts⟩ hE hK hP hS [0, 1, 2, 3, 4, 5, 6, 7, 8, 9, 10, 11, 12, 13, 14, 15] rfl (mX4_soonestFrom l dC dI cI cC sk f p1 x23_4 (R_minute c_r) c_r c_refused c_tape c_letter c_letterAt c_number c_taped c_at c_statements c_kept c_hasImage c_isKeeping c_cursor c_poled c_barred c_leapsTo c_leapsThen c_lands c_row c_rowMany c_endsAt q39 e39) (cwV 3 hts gX4_from_X4_soonestFrom rfl rfl rfl (by decide +kernel) ⟨Nat.le_of_ble_eq_true rfl, Nat.le_of_ble_eq_true rfl⟩) (va_recv hK hP (ci := 4) (q0 := 0) rfl rfl) (As := [.int p1, .int x23_4, .int (R_minute c_r)]) (rest := [.int x23_3]) rfl hl.1 rfl (Nat.le_of_ble_eq_true rfl) dX4_from_39 ⟨Nat.zero_le _, Nat.zero_le _⟩ (fun H locs hP hS => ?_)
        refine lv_if_lt (tgt := 52) hx hb dX4_from_42 (by decide) (fun c42 => ?_) (fun c42 => ?_)
        · have h := itT c42 h
          refine lv_iconst (v := (0 : Int32)) hx hb dX4_from_52 (by decide) ?_
          refine lv_ior hx hb dX4_from_53 ?_
          refine lv_istore_n (lv' := [(3, .int (x23_3 ||| (0 : Int32))), (0, .ref (f 0)), (1, .int p1), (4, .int x23_4)]) hx hb dX4_from_54 rfl hl (by decide) rfl (fun ls hl => ?_)
          refine lv_iinc (v := (x23_4 + (1 : Int32))) (lv' := [(4, .int (x23_4 + (1 : Int32))), (3, .int (x23_3 ||| (0 : Int32))), (0, .ref (f 0)), (1, .int p1)]) hx hb dX4_from_55 hl (k := 3) rfl rfl (by decide) rfl (fun ls hl => ?_)
          refine lv_goto (tgt := 23) hx hb dX4_from_58 (by decide) ?_
          exact ih23 _ _ h _ _ _ hP hD hS (lv_sub hl [2, 3, 1, 0] rfl)
        have h := itF c42 h
        refine lv_iconst (v := (1 : Int32)) hx hb dX4_from_45 (by decide) ?_
        refine lv_iload hx hb dX4_from_46 (lv_at hl 3 rfl) ?_
        refine lv_ishl hx hb dX4_from_48 ?_
        refine lv_goto (tgt := 53) hx hb dX4_from_49 (by decide) ?_
        refine lv_ior hx hb dX4_from_53 ?_
        refine lv_istore_n (lv' := [(3, .int (x23_3 ||| ((1 : Int32) <<< (x23_4 &&& 31)))), (0, .ref (f 0)), (1, .int p1), (4, .int x23_4)]) hx hb dX4_from_54 rfl hl (by decide) rfl (fun ls hl => ?_)
        refine lv_iinc (v := (x23_4 + (1 : Int32))) (lv' := [(4, .int (x23_4 + (1 : Int32))), (3, .int (x23_3 ||| ((1 : Int32) <<< (x23_4 &&& 31)))), (0, .ref (f 0)), (1, .int p1)]) hx hb dX4_from_55 hl (k := 3) rfl rfl (by decide) rfl (fun ls hl => ?_)
        refine lv_goto (tgt := 23) hx hb dX4_from_58 (by decide) ?_
        exact ih23 _ _ h _ _ _ hP hD hS (lv_sub hl [2, 3, 1, 0] rfl)
    refine L23 _ (fun k23_3 h H locs ls hP hD hS hl => ?_) _ _ _ h _ _ _ hP hD hS (lv_sub hl [3, 4, 1, 0] rfl)
    refine lv_iload_n hx hb dX4_from_61 rfl (lv_at hl 0 rfl) ?_
    subst hQ
    exact retRW (zz := ((k23_3, c_refused) : Int32 × AR)) (fun z => z.1) (fun z => (zwM cI cC f c_r z.2 c_tape c_letter c_letterAt c_number c_taped c_at c_statements c_kept c_hasImage c_isKeeping c_cursor c_poled c_barred c_leapsTo c_leapsThen c_lands c_row c_rowMany c_endsAt)) hx hb hr hlocks rfl hS h rfl hP dX4_from_62
  have h := itF c9 h
  refine lv_aload_n hx hb dX4_from_12 rfl (lv_at hl 1 rfl) ?_
  refine lv_iload_n hx hb dX4_from_13 rfl (lv_at hl 0 rfl) ?_
  obtain ⟨q14, e14, h⟩ := bd_some h
  refine g_rwV (wc := (zwM cI cC f c_r c_refused c_tape c_letter c_letterAt c_number c_taped c_at c_statements c_kept c_hasImage c_isKeeping c_cursor c_poled c_barred c_leapsTo c_leapsThen c_lands c_row c_rowMany c_endsAt)) (wc' := (zwM cI cC f c_r q14.2 c_tape c_letter c_letterAt c_number c_taped c_at c_statements c_kept c_hasImage c_isKeeping c_cursor c_poled c_barred c_leapsTo c_leapsThen c_lands c_row c_rowMany c_endsAt)) ⟨hx, hb, hml, hown, hts⟩ hE hK hA hP hD hS [0, 1, 2, 3, 4, 5, 6, 7, 8, 9, 10, 11, 12, 13, 14, 15] rfl rfl rfl (mX4_no l dC dI cI cC sk f H.size q4 c_r c_refused c_tape c_letter c_letterAt c_number c_taped c_at c_statements c_kept c_hasImage c_isKeeping c_cursor c_poled c_barred c_leapsTo c_leapsThen c_lands c_row c_rowMany c_endsAt q14 e14) (cwV 1 hts gX4_from_X4_no rfl rfl rfl (by decide +kernel) ⟨Nat.le_of_ble_eq_true rfl, Nat.le_of_ble_eq_true rfl⟩) (va_recv hK hP (ci := 4) (q0 := 0) rfl rfl) (As := [.int q4]) (rest := []) rfl hl.1 rfl (Nat.le_of_ble_eq_true rfl) dX4_from_14 ⟨Nat.zero_le _, Nat.zero_le _⟩ (fun H locs hP hD hS => ?_)
  have hP : va_P (dC, dI) vwCl (zwM cI cC f c_r q14.2 c_tape c_letter c_letterAt c_number c_taped c_at c_statements c_kept c_hasImage c_isKeeping c_cursor c_poled c_barred c_leapsTo c_leapsThen c_lands c_row c_rowMany c_endsAt) H := hP
  have hD : va_D A (zwM cI cC f c_r q14.2 c_tape c_letter c_letterAt c_number c_taped c_at c_statements c_kept c_hasImage c_isKeeping c_cursor c_poled c_barred c_leapsTo c_leapsThen c_lands c_row c_rowMany c_endsAt) := hD
  subst hQ
  exact retRW (zz := ((q14.1, q14.2) : Int32 × AR)) (fun z => z.1) (fun z => (zwM cI cC f c_r z.2 c_tape c_letter c_letterAt c_number c_taped c_at c_statements c_kept c_hasImage c_isKeeping c_cursor c_poled c_barred c_leapsTo c_leapsThen c_lands c_row c_rowMany c_endsAt)) hx hb hr hlocks rfl hS h rfl hP dX4_from_17
