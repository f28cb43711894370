theorem dX4_await_0 : decode cX4_await 0 = .ok (.iload_n 1, 1) := by decide +kernel
theorem dX4_await_1 : decode cX4_await 1 = .ok (.iload_n 2, 1) := by decide +kernel
theorem dX4_await_2 : decode cX4_await 2 = .ok (.invokestatic 176, 3) := by decide +kernel
theorem dX4_await_5 : decode cX4_await 5 = .ok (.istore_n 3, 1) := by decide +kernel
theorem dX4_await_6 : decode cX4_await 6 = .ok (.iload_n 3, 1) := by decide +kernel
theorem dX4_await_7 : decode cX4_await 7 = .ok (.ifCond .eq 9, 3) := by decide +kernel
theorem dX4_await_10 : decode cX4_await 10 = .ok (.aload_n 0, 1) := by decide +kernel
theorem dX4_await_11 : decode cX4_await 11 = .ok (.iload_n 3, 1) := by decide +kernel
theorem dX4_await_12 : decode cX4_await 12 = .ok (.invokevirtual 73, 3) := by decide +kernel
theorem dX4_await_15 : decode cX4_await 15 = .ok (.ireturn, 1) := by decide +kernel
theorem dX4_await_16 : decode cX4_await 16 = .ok (.bipush 40, 2) := by decide +kernel
theorem dX4_await_18 : decode cX4_await 18 = .ok (.istore 4, 2) := by decide +kernel
theorem dX4_await_20 : decode cX4_await 20 = .ok (.iload 4, 2) := by decide +kernel
theorem dX4_await_22 : decode cX4_await 22 = .ok (.ifCond .lt 28, 3) := by decide +kernel
theorem dX4_await_25 : decode cX4_await 25 = .ok (.aload_n 0, 1) := by decide +kernel
theorem dX4_await_26 : decode cX4_await 26 = .ok (.iload_n 1, 1) := by decide +kernel
theorem dX4_await_27 : decode cX4_await 27 = .ok (.iload_n 2, 1) := by decide +kernel
theorem dX4_await_28 : decode cX4_await 28 = .ok (.aload_n 0, 1) := by decide +kernel
theorem dX4_await_29 : decode cX4_await 29 = .ok (.getfield 101, 3) := by decide +kernel
theorem dX4_await_32 : decode cX4_await 32 = .ok (.iload 4, 2) := by decide +kernel
theorem dX4_await_34 : decode cX4_await 34 = .ok (.iadd, 1) := by decide +kernel
theorem dX4_await_35 : decode cX4_await 35 = .ok (.invokevirtual 179, 3) := by decide +kernel
theorem dX4_await_38 : decode cX4_await 38 = .ok (.ifCond .lt 6, 3) := by decide +kernel
theorem dX4_await_41 : decode cX4_await 41 = .ok (.iload 4, 2) := by decide +kernel
theorem dX4_await_43 : decode cX4_await 43 = .ok (.ireturn, 1) := by decide +kernel
theorem dX4_await_44 : decode cX4_await 44 = .ok (.iinc 4 (-1), 3) := by decide +kernel
theorem dX4_await_47 : decode cX4_await 47 = .ok (.goto (-27), 3) := by decide +kernel
theorem dX4_await_50 : decode cX4_await 50 = .ok (.bipush (-9), 2) := by decide +kernel
theorem dX4_await_52 : decode cX4_await 52 = .ok (.ireturn, 1) := by decide +kernel
set_option maxRecDepth 20000 in
theorem ggX4_await_X4_notLoad : GoodIn wsX4_await wsX4_notLoad := goodIn_r _ [5, 6, 7, 4, 8, 9, 10, 11, 12, 13, 14] (by decide +kernel) (by decide +kernel)
set_option maxRecDepth 20000 in
theorem gX4_await_X4_notLoad : GoodIn wsX4_await (va_wsS RX4 176 yX4_notLoad wsX4_notLoad) := goodIn_app (goodIn_of _ (by decide +kernel)) ggX4_await_X4_notLoad
set_option maxRecDepth 20000 in
theorem ggX4_await_X4_no : GoodIn wsX4_await wsX4_no := goodIn_r _ [18, 19, 70, 71, 72, 73, 74, 75, 76, 77, 78, 79, 80, 81, 82, 83, 84, 85, 86, 87, 88, 89, 90, 91, 92, 93, 94, 95, 96, 97] (by decide +kernel) (by decide +kernel)
set_option maxRecDepth 20000 in
theorem gX4_await_X4_no : GoodIn wsX4_await (wsV RX4 73 RX4 yX4_no wsX4_no) := goodIn_app (goodIn_of _ (by decide +kernel)) ggX4_await_X4_no
set_option maxRecDepth 20000 in
theorem ggX4_await_X4_soonestFrom : GoodIn wsX4_await wsX4_soonestFrom := goodIn_r _ [23, 24, 25, 26, 4, 27, 28, 29, 30, 31, 32, 33, 34, 35, 36, 37, 38, 39, 40, 41, 42, 43, 44, 45, 46, 47, 48, 49, 50, 51, 52, 53, 54, 55, 9, 10, 11, 56, 57, 58, 59, 60, 1, 61, 62, 63, 64, 65, 66, 67, 68, 69, 70, 71, 72, 73, 74, 75, 76, 77, 78, 79, 80, 81, 82, 83, 84, 85, 86, 87, 88, 89, 90, 91, 92, 93, 94, 95, 96, 97] (by decide +kernel) (by decide +kernel)
set_option maxRecDepth 20000 in
theorem gX4_await_X4_soonestFrom : GoodIn wsX4_await (wsV RX4 179 RX4 yX4_soonestFrom wsX4_soonestFrom) := goodIn_app (goodIn_of _ (by decide +kernel)) ggX4_await_X4_soonestFrom
set_option maxHeartbeats 4000000 in
set_option maxRecDepth 100000 in
theorem mX4_await (l : Launch) (dC : Nat → ClassId) (dI : Nat → Nat → Nat) (cI cC : ClassId) (sk : (Nat → Nat) × (Nat → Nat)) (f : Nat → Nat) (sz : Nat) (p1 : Int32) (p2 : Int32) (c_r : RT) (c_refused : AR) (c_tape : AR) (c_letter : AR) (c_letterAt : AR) (c_number : AR) (c_taped : Int32) (c_at : Int32) (c_statements : Int32) (c_kept : AR) (c_hasImage : Int32) (c_isKeeping : Int32) (c_cursor : Int32) (c_poled : Int32) (c_barred : Int32) (c_leapsTo : AR) (c_leapsThen : AR) (c_lands : AR) (c_row : AR) (c_rowMany : Int32) (c_endsAt : Int32) (z : Int32 × AR) (h : fX4_await p1 p2 c_r c_refused c_poled c_barred = some z) : cRW l yX4_await wsX4_await (RMk 6 143) sk (dC, dI) (tyz cI cC) sz (zwM cI cC f c_r c_refused c_tape c_letter c_letterAt c_number c_taped c_at c_statements c_kept c_hasImage c_isKeeping c_cursor c_poled c_barred c_leapsTo c_leapsThen c_lands c_row c_rowMany c_endsAt) (zwM cI cC f c_r z.2 c_tape c_letter c_letterAt c_number c_taped c_at c_statements c_kept c_hasImage c_isKeeping c_cursor c_poled c_barred c_leapsTo c_leapsThen c_lands c_row c_rowMany c_endsAt) [.ref (f 0), .int p1, .int p2] z.1 := by
  refine ofRW (cc := cX4_await) (maxL := 5) (ret := (some .int)) (own := RX4) (plainFor_of_name (by decide)) rfl rfl (Nat.le_of_ble_eq_true rfl) ?_
  intro p e s m args below meth c A hA hx hb hml hr hts hown hlocks hE hK hP hD hS ls hl
  generalize hQ : qRW _ _ _ _ _ _ _ = Q
  have hl : lv_has ls 5 [(0, .ref (f 0)), (1, .int p1), (2, .int p2)] := hl
  have hiX4 : ∀ w ∈ wsX40, w ∈ wsX4_await := fun w h => List.mem_cons_of_mem _ (List.mem_append_right _ h)
  have hw1 := hts (Cond.fieldLink RX4 101 "FloeToFloeModel" "minute" "I") (List.mem_of_getElem? (i := 1) rfl)
  rw [fX4_await] at h
  refine lv_iload_n hx hb dX4_await_0 rfl (lv_at hl 1 rfl) ?_
  refine lv_iload_n hx hb dX4_await_1 rfl (lv_at hl 2 rfl) ?_
  obtain ⟨q2, e2, h⟩ := bd_some h
  refine g_roS (wc := ([] : va_W)) ⟨hx, hb, hml, hown, hts⟩ hE hK hP hS [] rfl (mX4_notLoad l dC dI cI cC sk  p1 p2 q2 e2) (va_cwS 2 hts gX4_await_X4_notLoad rfl rfl rfl (by decide +kernel) ⟨Nat.le_of_ble_eq_true rfl, Nat.le_of_ble_eq_true rfl⟩) (As := [.int p1, .int p2]) (rest := []) rfl hl.1 rfl (Nat.le_of_ble_eq_true rfl) dX4_await_2 ⟨Nat.zero_le _, Nat.zero_le _⟩ (fun H locs hP hS => ?_)
  refine lv_istore_n (lv' := [(3, .int q2), (0, .ref (f 0)), (1, .int p1), (2, .int p2)]) hx hb dX4_await_5 rfl hl (by decide) rfl (fun ls hl => ?_)
  refine lv_iload_n hx hb dX4_await_6 rfl (lv_at hl 0 rfl) ?_
  refine lv_if_eq (tgt := 16) hx hb dX4_await_7 (by decide) (fun c7 => ?_) (fun c7 => ?_)
  · have h := itT c7 h
    refine lv_bipush (v := (40 : Int32)) hx hb dX4_await_16 (by decide) ?_
    refine lv_istore (lv' := [(4, .int (40 : Int32)), (3, .int q2), (0, .ref (f 0)), (1, .int p1), (2, .int p2)]) hx hb dX4_await_18 hl (by decide) rfl (fun ls hl => ?_)
    have L20 : ∀ (K20 : Unit → Option (Int32 × AR)), (∀ (_ : Unit), K20 () = some z → ∀ (H : Heap) (locs : List Loc) (ls : Array Slot), va_P (dC, dI) vwCl (zwM cI cC f c_r c_refused c_tape c_letter c_letterAt c_number c_taped c_at c_statements c_kept c_hasImage c_isKeeping c_cursor c_poled c_barred c_leapsTo c_leapsThen c_lands c_row c_rowMany c_endsAt) H → va_D A (zwM cI cC f c_r c_refused c_tape c_letter c_letterAt c_number c_taped c_at c_statements c_kept c_hasImage c_isKeeping c_cursor c_poled c_barred c_leapsTo c_leapsThen c_lands c_row c_rowMany c_endsAt) → va_S A s.heap H locs → lv_has ls 5 [] → W p l e (RMk 6 143) s m args below meth c H locs 0 0 Q (F0 m 50 ls [])) → ∀ (n : Nat) (x20_4 : Int32), fX4_await_L20 c_barred c_poled c_r c_refused p1 p2 K20 n x20_4 = some z → ∀ (H : Heap) (locs : List Loc) (ls : Array Slot), va_P (dC, dI) vwCl (zwM cI cC f c_r c_refused c_tape c_letter c_letterAt c_number c_taped c_at c_statements c_kept c_hasImage c_isKeeping c_cursor c_poled c_barred c_leapsTo c_leapsThen c_lands c_row c_rowMany c_endsAt) H → va_D A (zwM cI cC f c_r c_refused c_tape c_letter c_letterAt c_number c_taped c_at c_statements c_kept c_hasImage c_isKeeping c_cursor c_poled c_barred c_leapsTo c_leapsThen c_lands c_row c_rowMany c_endsAt) → va_S A s.heap H locs → lv_has ls 5 [(0, .ref (f 0)), (1, .int p1), (2, .int p2), (4, .int x20_4)] → W p l e (RMk 6 143) s m args below meth c H locs 0 0 Q (F0 m 20 ls []) := by
      intro K20 kx20 n
      induction n with
      | zero => intro x20_4 h; rw [fX4_await_L20] at h; cases h
      | succ n ih20 =>
        intro x20_4 h H locs ls hP hD hS hl
        rw [fX4_await_L20] at h
        refine lv_iload hx hb dX4_await_20 (lv_at hl 3 rfl) ?_
        refine lv_if_lt (tgt := 50) hx hb dX4_await_22 (by decide) (fun c22 => ?_) (fun c22 => ?_)
        · have h := itT c22 h
          exact kx20 () h _ _ _ hP hD hS (lv_sub hl [] rfl)
        have h := itF c22 h
        refine lv_aload_n hx hb dX4_await_25 rfl (lv_at hl 0 rfl) ?_
        refine lv_iload_n hx hb dX4_await_26 rfl (lv_at hl 1 rfl) ?_
        refine lv_iload_n hx hb dX4_await_27 rfl (lv_at hl 2 rfl) ?_
        refine lv_aload_n hx hb dX4_await_28 rfl (lv_at hl 0 rfl) ?_
        refine va_get (D := (dC, dI)) (ci := 4) (v := .int (R_minute c_r)) (C := RX4) (T := TX4) (N := 28) hx hb hts hiX4 hown hK hP 0 rfl rfl 8 (by decide) hw1 (fun _ h9 => h9) rfl dX4_await_29 ?_
        refine lv_iload hx hb dX4_await_32 (lv_at hl 3 rfl) ?_
        refine lv_iadd hx hb dX4_await_34 ?_
        obtain ⟨q35, e35, h⟩ := bd_some h
        refine g_roV (wc := (zwM cI cC f c_r c_refused c_tape c_letter c_letterAt c_number c_taped c_at c_statements c_kept c_hasImage c_isKeeping c_cursor c_poled c_barred c_leapsTo c_leapsThen c_lands c_row c_rowMany c_endsAt)) ⟨hx, hb, hml, hown, hts⟩ hE hK hP hS [0, 1, 2, 3, 4, 5, 6, 7, 8, 9, 10, 11, 12, 13, 14, 15] rfl (mX4_soonestFrom l dC dI cI cC sk f p1 p2 ((R_minute c_r) + x20_4) c_r c_refused c_tape c_letter c_letterAt c_number c_taped c_at c_statements c_kept c_hasImage c_isKeeping c_cursor c_poled c_barred c_leapsTo c_leapsThen c_lands c_row c_rowMany c_endsAt q35 e35) (cwV 3 hts gX4_await_X4_soonestFrom rfl rfl rfl (by decide +kernel) ⟨Nat.le_of_ble_eq_true rfl, Nat.le_of_ble_eq_true rfl⟩) (va_recv hK hP (ci := 4) (q0 := 0) rfl rfl) (As := [.int p1, .int p2, .int ((R_minute c_r) + x20_4)]) (rest := []) rfl hl.1 rfl (Nat.le_of_ble_eq_true rfl) dX4_await_35 ⟨Nat.zero_le _, Nat.zero_le _⟩ (fun H locs hP hS => ?_)
        refine lv_if_lt (tgt := 44) hx hb dX4_await_38 (by decide) (fun c38 => ?_) (fun c38 => ?_)
        · have h := itT c38 h
          refine lv_iinc (v := (x20_4 + (-1 : Int32))) (lv' := [(4, .int (x20_4 + (-1 : Int32))), (0, .ref (f 0)), (1, .int p1), (2, .int p2)]) hx hb dX4_await_44 hl (k := 3) rfl rfl (by decide) rfl (fun ls hl => ?_)
          refine lv_goto (tgt := 20) hx hb dX4_await_47 (by decide) ?_
          exact ih20 _ h _ _ _ hP hD hS (lv_sub hl [1, 2, 3, 0] rfl)
        have h := itF c38 h
        refine lv_iload hx hb dX4_await_41 (lv_at hl 3 rfl) ?_
        subst hQ
        exact retRW (zz := ((x20_4, c_refused) : Int32 × AR)) (fun z => z.1) (fun z => (zwM cI cC f c_r z.2 c_tape c_letter c_letterAt c_number c_taped c_at c_statements c_kept c_hasImage c_isKeeping c_cursor c_poled c_barred c_leapsTo c_leapsThen c_lands c_row c_rowMany c_endsAt)) hx hb hr hlocks rfl hS h rfl hP dX4_await_43
    refine L20 _ (fun _ h H locs ls hP hD hS hl => ?_) _ _ h _ _ _ hP hD hS (lv_sub hl [2, 3, 4, 0] rfl)
    refine lv_bipush (v := (-9 : Int32)) hx hb dX4_await_50 (by decide) ?_
    subst hQ
    exact retRW (zz := (((-9 : Int32), c_refused) : Int32 × AR)) (fun z => z.1) (fun z => (zwM cI cC f c_r z.2 c_tape c_letter c_letterAt c_number c_taped c_at c_statements c_kept c_hasImage c_isKeeping c_cursor c_poled c_barred c_leapsTo c_leapsThen c_lands c_row c_rowMany c_endsAt)) hx hb hr hlocks rfl hS h rfl hP dX4_await_52
  have h := itF c7 h
  refine lv_aload_n hx hb dX4_await_10 rfl (lv_at hl 1 rfl) ?_
  refine lv_iload_n hx hb dX4_await_11 rfl (lv_at hl 0 rfl) ?_
  obtain ⟨q12, e12, h⟩ := bd_some h
  refine g_rwA (wc := (zwM cI cC f c_r c_refused c_tape c_letter c_letterAt c_number c_taped c_at c_statements c_kept c_hasImage c_isKeeping c_cursor c_poled c_barred c_leapsTo c_leapsThen c_lands c_row c_rowMany c_endsAt)) (wc' := (zwM cI cC f c_r q12.2 c_tape c_letter c_letterAt c_number c_taped c_at c_statements c_kept c_hasImage c_isKeeping c_cursor c_poled c_barred c_leapsTo c_leapsThen c_lands c_row c_rowMany c_endsAt)) ⟨hx, hb, hml, hown, hts⟩ hE hK hA hP hD hS rfl (mX4_no l dC dI cI cC sk f H.size q2 c_r c_refused c_tape c_letter c_letterAt c_number c_taped c_at c_statements c_kept c_hasImage c_isKeeping c_cursor c_poled c_barred c_leapsTo c_leapsThen c_lands c_row c_rowMany c_endsAt q12 e12) (cwV 1 hts gX4_await_X4_no rfl rfl rfl (by decide +kernel) ⟨Nat.le_of_ble_eq_true rfl, Nat.le_of_ble_eq_true rfl⟩) (va_recv hK hP (ci := 4) (q0 := 0) rfl rfl) (As := [.int q2]) (rest := []) rfl hl.1 rfl (Nat.le_of_ble_eq_true rfl) dX4_await_12 ⟨Nat.zero_le _, Nat.zero_le _⟩ (fun H locs hP hD hS => ?_)
  have hP : va_P (dC, dI) vwCl (zwM cI cC f c_r q12.2 c_tape c_letter c_letterAt c_number c_taped c_at c_statements c_kept c_hasImage c_isKeeping c_cursor c_poled c_barred c_leapsTo c_leapsThen c_lands c_row c_rowMany c_endsAt) H := hP
  have hD : va_D A (zwM cI cC f c_r q12.2 c_tape c_letter c_letterAt c_number c_taped c_at c_statements c_kept c_hasImage c_isKeeping c_cursor c_poled c_barred c_leapsTo c_leapsThen c_lands c_row c_rowMany c_endsAt) := hD
  subst hQ
  exact retRW (zz := ((q12.1, q12.2) : Int32 × AR)) (fun z => z.1) (fun z => (zwM cI cC f c_r z.2 c_tape c_letter c_letterAt c_number c_taped c_at c_statements c_kept c_hasImage c_isKeeping c_cursor c_poled c_barred c_leapsTo c_leapsThen c_lands c_row c_rowMany c_endsAt)) hx hb hr hlocks rfl hS h rfl hP dX4_await_15
