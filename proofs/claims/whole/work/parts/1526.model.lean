theorem dX4_soonestFrom_0 : decode cX4_soonestFrom 0 = .ok (.iconst 1, 1) := by decide +kernel
theorem dX4_soonestFrom_1 : decode cX4_soonestFrom 1 = .ok (.iload_n 2, 1) := by decide +kernel
theorem dX4_soonestFrom_2 : decode cX4_soonestFrom 2 = .ok (.ishl, 1) := by decide +kernel
theorem dX4_soonestFrom_3 : decode cX4_soonestFrom 3 = .ok (.istore 4, 2) := by decide +kernel
theorem dX4_soonestFrom_5 : decode cX4_soonestFrom 5 = .ok (.iconst 0, 1) := by decide +kernel
theorem dX4_soonestFrom_6 : decode cX4_soonestFrom 6 = .ok (.istore 5, 2) := by decide +kernel
theorem dX4_soonestFrom_8 : decode cX4_soonestFrom 8 = .ok (.iload 5, 2) := by decide +kernel
theorem dX4_soonestFrom_10 : decode cX4_soonestFrom 10 = .ok (.bipush 40, 2) := by decide +kernel
theorem dX4_soonestFrom_12 : decode cX4_soonestFrom 12 = .ok (.if_icmp .gt 36, 3) := by decide +kernel
theorem dX4_soonestFrom_15 : decode cX4_soonestFrom 15 = .ok (.iload 4, 2) := by decide +kernel
theorem dX4_soonestFrom_17 : decode cX4_soonestFrom 17 = .ok (.bipush 18, 2) := by decide +kernel
theorem dX4_soonestFrom_19 : decode cX4_soonestFrom 19 = .ok (.ishr, 1) := by decide +kernel
theorem dX4_soonestFrom_20 : decode cX4_soonestFrom 20 = .ok (.iconst 1, 1) := by decide +kernel
theorem dX4_soonestFrom_21 : decode cX4_soonestFrom 21 = .ok (.iand, 1) := by decide +kernel
theorem dX4_soonestFrom_22 : decode cX4_soonestFrom 22 = .ok (.iconst 1, 1) := by decide +kernel
theorem dX4_soonestFrom_23 : decode cX4_soonestFrom 23 = .ok (.if_icmp .ne 6, 3) := by decide +kernel
theorem dX4_soonestFrom_26 : decode cX4_soonestFrom 26 = .ok (.iload 5, 2) := by decide +kernel
theorem dX4_soonestFrom_28 : decode cX4_soonestFrom 28 = .ok (.ireturn, 1) := by decide +kernel
theorem dX4_soonestFrom_29 : decode cX4_soonestFrom 29 = .ok (.aload_n 0, 1) := by decide +kernel
theorem dX4_soonestFrom_30 : decode cX4_soonestFrom 30 = .ok (.iload 4, 2) := by decide +kernel
theorem dX4_soonestFrom_32 : decode cX4_soonestFrom 32 = .ok (.iload_n 1, 1) := by decide +kernel
theorem dX4_soonestFrom_33 : decode cX4_soonestFrom 33 = .ok (.iload_n 3, 1) := by decide +kernel
theorem dX4_soonestFrom_34 : decode cX4_soonestFrom 34 = .ok (.iload 5, 2) := by decide +kernel
theorem dX4_soonestFrom_36 : decode cX4_soonestFrom 36 = .ok (.iadd, 1) := by decide +kernel
theorem dX4_soonestFrom_37 : decode cX4_soonestFrom 37 = .ok (.invokevirtual 170, 3) := by decide +kernel
theorem dX4_soonestFrom_40 : decode cX4_soonestFrom 40 = .ok (.istore 4, 2) := by decide +kernel
theorem dX4_soonestFrom_42 : decode cX4_soonestFrom 42 = .ok (.iinc 5 1, 3) := by decide +kernel
theorem dX4_soonestFrom_45 : decode cX4_soonestFrom 45 = .ok (.goto (-37), 3) := by decide +kernel
theorem dX4_soonestFrom_48 : decode cX4_soonestFrom 48 = .ok (.bipush (-9), 2) := by decide +kernel
theorem dX4_soonestFrom_50 : decode cX4_soonestFrom 50 = .ok (.ireturn, 1) := by decide +kernel
set_option maxRecDepth 20000 in
theorem ggX4_soonestFrom_X4_goesOn : GoodIn wsX4_soonestFrom wsX4_goesOn := goodIn_r _ [5, 6, 7, 8, 4, 9, 10, 11, 12, 13, 14, 15, 16, 17, 18, 19, 20, 21, 22, 23, 24, 25, 26, 27, 28, 29, 30, 31, 32, 33, 34, 35, 36, 37, 38, 39, 40, 41, 42, 43, 44, 45, 46, 47, 48, 49, 50, 51, 52, 53, 54, 55, 56, 57, 58, 59, 60, 61, 62, 63, 64, 65, 66, 67, 68, 69, 70, 71, 72, 73, 74, 75, 76, 77, 78, 79] (by decide +kernel) (by decide +kernel)
set_option maxRecDepth 20000 in
theorem gX4_soonestFrom_X4_goesOn : GoodIn wsX4_soonestFrom (wsV RX4 170 RX4 yX4_goesOn wsX4_goesOn) := goodIn_app (goodIn_of _ (by decide +kernel)) ggX4_soonestFrom_X4_goesOn
set_option maxHeartbeats 4000000 in
set_option maxRecDepth 100000 in
theorem mX4_soonestFrom (l : Launch) (dC : Nat → ClassId) (dI : Nat → Nat → Nat) (cI cC : ClassId) (sk : (Nat → Nat) × (Nat → Nat)) (f : Nat → Nat) (p1 : Int32) (p2 : Int32) (p3 : Int32) (c_r : RT) (c_refused : AR) (c_tape : AR) (c_letter : AR) (c_letterAt : AR) (c_number : AR) (c_taped : Int32) (c_at : Int32) (c_statements : Int32) (c_kept : AR) (c_hasImage : Int32) (c_isKeeping : Int32) (c_cursor : Int32) (c_poled : Int32) (c_barred : Int32) (c_leapsTo : AR) (c_leapsThen : AR) (c_lands : AR) (c_row : AR) (c_rowMany : Int32) (c_endsAt : Int32) (z : Int32) (h : fX4_soonestFrom p1 p2 p3 c_r c_poled c_barred = some z) : cRO l yX4_soonestFrom wsX4_soonestFrom (RMk 5 118) sk (dC, dI) (tyz cI cC) (zwM cI cC f c_r c_refused c_tape c_letter c_letterAt c_number c_taped c_at c_statements c_kept c_hasImage c_isKeeping c_cursor c_poled c_barred c_leapsTo c_leapsThen c_lands c_row c_rowMany c_endsAt) [.ref (f 0), .int p1, .int p2, .int p3] z := by
  refine ofRO (cc := cX4_soonestFrom) (maxL := 6) (ret := (some .int)) (own := RX4) (plainFor_of_name (by decide)) rfl rfl (Nat.le_of_ble_eq_true rfl) ?_
  intro p e s m args below meth c hx hb hml hr hts hown hlocks hE hK hP hS ls hl
  generalize hQ : qRO _ _ _ _ = Q
  have hl : lv_has ls 6 [(0, .ref (f 0)), (1, .int p1), (2, .int p2), (3, .int p3)] := hl
  rw [fX4_soonestFrom] at h
  refine lv_iconst (v := (1 : Int32)) hx hb dX4_soonestFrom_0 (by decide) ?_
  refine lv_iload_n hx hb dX4_soonestFrom_1 rfl (lv_at hl 2 rfl) ?_
  refine lv_ishl hx hb dX4_soonestFrom_2 ?_
  refine lv_istore (lv' := [(4, .int ((1 : Int32) <<< (p2 &&& 31))), (0, .ref (f 0)), (1, .int p1), (2, .int p2), (3, .int p3)]) hx hb dX4_soonestFrom_3 hl (by decide) rfl (fun ls hl => ?_)
  refine lv_iconst (v := (0 : Int32)) hx hb dX4_soonestFrom_5 (by decide) ?_
  refine lv_istore (lv' := [(5, .int (0 : Int32)), (4, .int ((1 : Int32) <<< (p2 &&& 31))), (0, .ref (f 0)), (1, .int p1), (2, .int p2), (3, .int p3)]) hx hb dX4_soonestFrom_6 hl (by decide) rfl (fun ls hl => ?_)
  have L8 : ∀ (K8 : Unit → Option (Int32)), (∀ (_ : Unit), K8 () = some z → ∀ (H : Heap) (locs : List Loc) (ls : Array Slot), va_P (dC, dI) vwCl (zwM cI cC f c_r c_refused c_tape c_letter c_letterAt c_number c_taped c_at c_statements c_kept c_hasImage c_isKeeping c_cursor c_poled c_barred c_leapsTo c_leapsThen c_lands c_row c_rowMany c_endsAt) H → va_S noA s.heap H locs → lv_has ls 6 [] → W p l e (RMk 5 118) s m args below meth c H locs 0 0 Q (F0 m 48 ls [])) → ∀ (n : Nat) (x8_4 : Int32) (x8_5 : Int32), fX4_soonestFrom_L8 c_barred c_poled c_r p1 p3 K8 n x8_4 x8_5 = some z → ∀ (H : Heap) (locs : List Loc) (ls : Array Slot), va_P (dC, dI) vwCl (zwM cI cC f c_r c_refused c_tape c_letter c_letterAt c_number c_taped c_at c_statements c_kept c_hasImage c_isKeeping c_cursor c_poled c_barred c_leapsTo c_leapsThen c_lands c_row c_rowMany c_endsAt) H → va_S noA s.heap H locs → lv_has ls 6 [(0, .ref (f 0)), (1, .int p1), (3, .int p3), (4, .int x8_4), (5, .int x8_5)] → W p l e (RMk 5 118) s m args below meth c H locs 0 0 Q (F0 m 8 ls []) := by
    intro K8 kx8 n
    induction n with
    | zero => intro x8_4 x8_5 h; rw [fX4_soonestFrom_L8] at h; cases h
    | succ n ih8 =>
      intro x8_4 x8_5 h H locs ls hP hS hl
      rw [fX4_soonestFrom_L8] at h
      refine lv_iload hx hb dX4_soonestFrom_8 (lv_at hl 4 rfl) ?_
      refine lv_bipush (v := (40 : Int32)) hx hb dX4_soonestFrom_10 (by decide) ?_
      refine lv_icmp_gt (tgt := 48) hx hb dX4_soonestFrom_12 (by decide) (fun c12 => ?_) (fun c12 => ?_)
      · have h := itT c12 h
        exact kx8 () h _ _ _ hP hS (lv_sub hl [] rfl)
      have h := itF c12 h
      refine lv_iload hx hb dX4_soonestFrom_15 (lv_at hl 3 rfl) ?_
      refine lv_bipush (v := (18 : Int32)) hx hb dX4_soonestFrom_17 (by decide) ?_
      refine lv_ishr hx hb dX4_soonestFrom_19 ?_
      refine lv_iconst (v := (1 : Int32)) hx hb dX4_soonestFrom_20 (by decide) ?_
      refine lv_iand hx hb dX4_soonestFrom_21 ?_
      refine lv_iconst (v := (1 : Int32)) hx hb dX4_soonestFrom_22 (by decide) ?_
      refine lv_icmp_ne (tgt := 29) hx hb dX4_soonestFrom_23 (by decide) (fun c23 => ?_) (fun c23 => ?_)
      · have h := itF c23 h
        refine lv_aload_n hx hb dX4_soonestFrom_29 rfl (lv_at hl 0 rfl) ?_
        refine lv_iload hx hb dX4_soonestFrom_30 (lv_at hl 3 rfl) ?_
        refine lv_iload_n hx hb dX4_soonestFrom_32 rfl (lv_at hl 1 rfl) ?_
        refine lv_iload_n hx hb dX4_soonestFrom_33 rfl (lv_at hl 2 rfl) ?_
        refine lv_iload hx hb dX4_soonestFrom_34 (lv_at hl 4 rfl) ?_
        refine lv_iadd hx hb dX4_soonestFrom_36 ?_
        obtain ⟨q37, e37, h⟩ := bd_some h
        refine g_roV (wc := (zwM cI cC f c_r c_refused c_tape c_letter c_letterAt c_number c_taped c_at c_statements c_kept c_hasImage c_isKeeping c_cursor c_poled c_barred c_leapsTo c_leapsThen c_lands c_row c_rowMany c_endsAt)) ⟨hx, hb, hml, hown, hts⟩ hE hK hP hS [0, 1, 2, 3, 4, 5, 6, 7, 8, 9, 10, 11, 12, 13, 14, 15] rfl (mX4_goesOn l dC dI cI cC sk f x8_4 p1 (p3 + x8_5) c_r c_refused c_tape c_letter c_letterAt c_number c_taped c_at c_statements c_kept c_hasImage c_isKeeping c_cursor c_poled c_barred c_leapsTo c_leapsThen c_lands c_row c_rowMany c_endsAt q37 e37) (cwV 3 hts gX4_soonestFrom_X4_goesOn rfl rfl rfl (by decide +kernel) ⟨Nat.le_of_ble_eq_true rfl, Nat.le_of_ble_eq_true rfl⟩) (va_recv hK hP (ci := 4) (q0 := 0) rfl rfl) (As := [.int x8_4, .int p1, .int (p3 + x8_5)]) (rest := []) rfl hl.1 rfl (Nat.le_of_ble_eq_true rfl) dX4_soonestFrom_37 ⟨Nat.zero_le _, Nat.zero_le _⟩ (fun H locs hP hS => ?_)
        refine lv_istore (lv' := [(4, .int q37), (0, .ref (f 0)), (1, .int p1), (3, .int p3), (5, .int x8_5)]) hx hb dX4_soonestFrom_40 hl (by decide) rfl (fun ls hl => ?_)
        refine lv_iinc (v := (x8_5 + (1 : Int32))) (lv' := [(5, .int (x8_5 + (1 : Int32))), (4, .int q37), (0, .ref (f 0)), (1, .int p1), (3, .int p3)]) hx hb dX4_soonestFrom_42 hl (k := 4) rfl rfl (by decide) rfl (fun ls hl => ?_)
        refine lv_goto (tgt := 8) hx hb dX4_soonestFrom_45 (by decide) ?_
        exact ih8 _ _ h _ _ _ hP hS (lv_sub hl [2, 3, 4, 1, 0] rfl)
      have h := itT c23 h
      refine lv_iload hx hb dX4_soonestFrom_26 (lv_at hl 4 rfl) ?_
      subst hQ
      exact retRO hx hb hr hlocks rfl hS h dX4_soonestFrom_28
  refine L8 _ (fun _ h H locs ls hP hS hl => ?_) _ _ _ h _ _ _ hP hS (lv_sub hl [2, 3, 5, 1, 0] rfl)
  refine lv_bipush (v := (-9 : Int32)) hx hb dX4_soonestFrom_48 (by decide) ?_
  subst hQ
  exact retRO hx hb hr hlocks rfl hS h dX4_soonestFrom_50
theorem dX4_notLoad_0 : decode cX4_notLoad 0 = .ok (.iload_n 1, 1) := by decide +kernel
theorem dX4_notLoad_1 : decode cX4_notLoad 1 = .ok (.invokestatic 173, 3) := by decide +kernel
theorem dX4_notLoad_4 : decode cX4_notLoad 4 = .ok (.ifCond .ne 7, 3) := by decide +kernel
theorem dX4_notLoad_7 : decode cX4_notLoad 7 = .ok (.iconst (-1), 1) := by decide +kernel
theorem dX4_notLoad_8 : decode cX4_notLoad 8 = .ok (.goto 10, 3) := by decide +kernel
theorem dX4_notLoad_11 : decode cX4_notLoad 11 = .ok (.iload_n 0, 1) := by decide +kernel
theorem dX4_notLoad_12 : decode cX4_notLoad 12 = .ok (.iconst 1, 1) := by decide +kernel
theorem dX4_notLoad_13 : decode cX4_notLoad 13 = .ok (.bipush 9, 2) := by decide +kernel
theorem dX4_notLoad_15 : decode cX4_notLoad 15 = .ok (.invokestatic 66, 3) := by decide +kernel
theorem dX4_notLoad_18 : decode cX4_notLoad 18 = .ok (.ireturn, 1) := by decide +kernel
set_option maxRecDepth 20000 in
theorem ggX4_notLoad_X4_isCell : GoodIn wsX4_notLoad wsX4_isCell := goodIn_r _ [4, 5, 6, 3, 7] (by decide +kernel) (by decide +kernel)
set_option maxRecDepth 20000 in
theorem gX4_notLoad_X4_isCell : GoodIn wsX4_notLoad (va_wsS RX4 173 yX4_isCell wsX4_isCell) := goodIn_app (goodIn_of _ (by decide +kernel)) ggX4_notLoad_X4_isCell
set_option maxRecDepth 20000 in
theorem ggX4_notLoad_X4_bound : GoodIn wsX4_notLoad wsX4_bound := goodIn_r _ [10] (by decide +kernel) (by decide +kernel)
set_option maxRecDepth 20000 in
theorem gX4_notLoad_X4_bound : GoodIn wsX4_notLoad (va_wsS RX4 66 yX4_bound wsX4_bound) := goodIn_app (goodIn_of _ (by decide +kernel)) ggX4_notLoad_X4_bound
set_option maxHeartbeats 4000000 in
set_option maxRecDepth 100000 in
theorem mX4_notLoad (l : Launch) (dC : Nat → ClassId) (dI : Nat → Nat → Nat) (cI cC : ClassId) (sk : (Nat → Nat) × (Nat → Nat))  (p0 : Int32) (p1 : Int32)  (z : Int32) (h : fX4_notLoad p0 p1 = some z) : cRO l yX4_notLoad wsX4_notLoad (RMk 2 42) sk (dC, dI) (tyz cI cC) ([] : va_W) [.int p0, .int p1] z := by
  refine ofRO (cc := cX4_notLoad) (maxL := 2) (ret := (some .int)) (own := RX4) (plainFor_of_name (by decide)) rfl rfl (Nat.le_of_ble_eq_true rfl) ?_
  intro p e s m args below meth c hx hb hml hr hts hown hlocks hE hK hP hS ls hl
  generalize hQ : qRO _ _ _ _ = Q
  have hl : lv_has ls 2 [(0, .int p0), (1, .int p1)] := hl
  rw [fX4_notLoad] at h
  refine lv_iload_n hx hb dX4_notLoad_0 rfl (lv_at hl 1 rfl) ?_
  obtain ⟨q1, e1, h⟩ := bd_some h
  refine g_roS (wc := ([] : va_W)) ⟨hx, hb, hml, hown, hts⟩ hE hK hP hS [] rfl (mX4_isCell l dC dI cI cC sk  p1 q1 e1) (va_cwS 1 hts gX4_notLoad_X4_isCell rfl rfl rfl (by decide +kernel) ⟨Nat.le_of_ble_eq_true rfl, Nat.le_of_ble_eq_true rfl⟩) (As := [.int p1]) (rest := []) rfl hl.1 rfl (Nat.le_of_ble_eq_true rfl) dX4_notLoad_1 ⟨Nat.zero_le _, Nat.zero_le _⟩ (fun H locs hP hS => ?_)
  refine lv_if_ne (tgt := 11) hx hb dX4_notLoad_4 (by decide) (fun c4 => ?_) (fun c4 => ?_)
  · have h := itF c4 h
    refine lv_iload_n hx hb dX4_notLoad_11 rfl (lv_at hl 0 rfl) ?_
    refine lv_iconst (v := (1 : Int32)) hx hb dX4_notLoad_12 (by decide) ?_
    refine lv_bipush (v := (9 : Int32)) hx hb dX4_notLoad_13 (by decide) ?_
    obtain ⟨q15, e15, h⟩ := bd_some h
    refine g_roS (wc := ([] : va_W)) ⟨hx, hb, hml, hown, hts⟩ hE hK hP hS [] rfl (mX4_bound l dC dI cI cC sk  p0 (1 : Int32) (9 : Int32) q15 e15) (va_cwS 3 hts gX4_notLoad_X4_bound rfl rfl rfl (by decide +kernel) ⟨Nat.le_of_ble_eq_true rfl, Nat.le_of_ble_eq_true rfl⟩) (As := [.int p0, .int (1 : Int32), .int (9 : Int32)]) (rest := []) rfl hl.1 rfl (Nat.le_of_ble_eq_true rfl) dX4_notLoad_15 ⟨Nat.zero_le _, Nat.zero_le _⟩ (fun H locs hP hS => ?_)
    subst hQ
    exact retRO hx hb hr hlocks rfl hS h dX4_notLoad_18
  have h := itT c4 h
  refine lv_iconst (v := (-1 : Int32)) hx hb dX4_notLoad_7 (by decide) ?_
  refine lv_goto (tgt := 18) hx hb dX4_notLoad_8 (by decide) ?_
  subst hQ
  exact retRO hx hb hr hlocks rfl hS h dX4_notLoad_18
theorem dX4_soonest_0 : decode cX4_soonest 0 = .ok (.iload_n 1, 1) := by decide +kernel
theorem dX4_soonest_1 : decode cX4_soonest 1 = .ok (.iload_n 2, 1) := by decide +kernel
theorem dX4_soonest_2 : decode cX4_soonest 2 = .ok (.invokestatic 176, 3) := by decide +kernel
theorem dX4_soonest_5 : decode cX4_soonest 5 = .ok (.istore_n 3, 1) := by decide +kernel
theorem dX4_soonest_6 : decode cX4_soonest 6 = .ok (.iload_n 3, 1) := by decide +kernel
theorem dX4_soonest_7 : decode cX4_soonest 7 = .ok (.ifCond .eq 11, 3) := by decide +kernel
theorem dX4_soonest_10 : decode cX4_soonest 10 = .ok (.aload_n 0, 1) := by decide +kernel
theorem dX4_soonest_11 : decode cX4_soonest 11 = .ok (.iload_n 3, 1) := by decide +kernel
theorem dX4_soonest_12 : decode cX4_soonest 12 = .ok (.invokevirtual 73, 3) := by decide +kernel
theorem dX4_soonest_15 : decode cX4_soonest 15 = .ok (.goto 13, 3) := by decide +kernel
theorem dX4_soonest_18 : decode cX4_soonest 18 = .ok (.aload_n 0, 1) := by decide +kernel
theorem dX4_soonest_19 : decode cX4_soonest 19 = .ok (.iload_n 1, 1) := by decide +kernel
theorem dX4_soonest_20 : decode cX4_soonest 20 = .ok (.iload_n 2, 1) := by decide +kernel
theorem dX4_soonest_21 : decode cX4_soonest 21 = .ok (.aload_n 0, 1) := by decide +kernel
theorem dX4_soonest_22 : decode cX4_soonest 22 = .ok (.getfield 101, 3) := by decide +kernel
theorem dX4_soonest_25 : decode cX4_soonest 25 = .ok (.invokevirtual 179, 3) := by decide +kernel
theorem dX4_soonest_28 : decode cX4_soonest 28 = .ok (.ireturn, 1) := by decide +kernel
set_option maxRecDepth 20000 in
theorem ggX4_soonest_X4_notLoad : GoodIn wsX4_soonest wsX4_notLoad := goodIn_r _ [5, 6, 7, 4, 8, 9, 10, 11, 12, 13, 14] (by decide +kernel) (by decide +kernel)
set_option maxRecDepth 20000 in
theorem gX4_soonest_X4_notLoad : GoodIn wsX4_soonest (va_wsS RX4 176 yX4_notLoad wsX4_notLoad) := goodIn_app (goodIn_of _ (by decide +kernel)) ggX4_soonest_X4_notLoad
set_option maxRecDepth 20000 in
theorem ggX4_soonest_X4_no : GoodIn wsX4_soonest wsX4_no := goodIn_r _ [18, 19, 70, 71, 72, 73, 74, 75, 76, 77, 78, 79, 80, 81, 82, 83, 84, 85, 86, 87, 88, 89, 90, 91, 92, 93, 94, 95, 96, 97] (by decide +kernel) (by decide +kernel)
set_option maxRecDepth 20000 in
theorem gX4_soonest_X4_no : GoodIn wsX4_soonest (wsV RX4 73 RX4 yX4_no wsX4_no) := goodIn_app (goodIn_of _ (by decide +kernel)) ggX4_soonest_X4_no
set_option maxRecDepth 20000 in
theorem ggX4_soonest_X4_soonestFrom : GoodIn wsX4_soonest wsX4_soonestFrom := goodIn_r _ [23, 24, 25, 26, 4, 27, 28, 29, 30, 31, 32, 33, 34, 35, 36, 37, 38, 39, 40, 41, 42, 43, 44, 45, 46, 47, 48, 49, 50, 51, 52, 53, 54, 55, 9, 10, 11, 56, 57, 58, 59, 60, 1, 61, 62, 63, 64, 65, 66, 67, 68, 69, 70, 71, 72, 73, 74, 75, 76, 77, 78, 79, 80, 81, 82, 83, 84, 85, 86, 87, 88, 89, 90, 91, 92, 93, 94, 95, 96, 97] (by decide +kernel) (by decide +kernel)
set_option maxRecDepth 20000 in
theorem gX4_soonest_X4_soonestFrom : GoodIn wsX4_soonest (wsV RX4 179 RX4 yX4_soonestFrom wsX4_soonestFrom) := goodIn_app (goodIn_of _ (by decide +kernel)) ggX4_soonest_X4_soonestFrom
set_option maxHeartbeats 4000000 in
set_option maxRecDepth 100000 in
theorem mX4_soonest (l : Launch) (dC : Nat → ClassId) (dI : Nat → Nat → Nat) (cI cC : ClassId) (sk : (Nat → Nat) × (Nat → Nat)) (f : Nat → Nat) (sz : Nat) (p1 : Int32) (p2 : Int32) (c_r : RT) (c_refused : AR) (c_tape : AR) (c_letter : AR) (c_letterAt : AR) (c_number : AR) (c_taped : Int32) (c_at : Int32) (c_statements : Int32) (c_kept : AR) (c_hasImage : Int32) (c_isKeeping : Int32) (c_cursor : Int32) (c_poled : Int32) (c_barred : Int32) (c_leapsTo : AR) (c_leapsThen : AR) (c_lands : AR) (c_row : AR) (c_rowMany : Int32) (c_endsAt : Int32) (z : Int32 × AR) (h : fX4_soonest p1 p2 c_r c_refused c_poled c_barred = some z) : cRW l yX4_soonest wsX4_soonest (RMk 6 143) sk (dC, dI) (tyz cI cC) sz (zwM cI cC f c_r c_refused c_tape c_letter c_letterAt c_number c_taped c_at c_statements c_kept c_hasImage c_isKeeping c_cursor c_poled c_barred c_leapsTo c_leapsThen c_lands c_row c_rowMany c_endsAt) (zwM cI cC f c_r z.2 c_tape c_letter c_letterAt c_number c_taped c_at c_statements c_kept c_hasImage c_isKeeping c_cursor c_poled c_barred c_leapsTo c_leapsThen c_lands c_row c_rowMany c_endsAt) [.ref (f 0), .int p1, .int p2] z.1 := by
  refine ofRW (cc := cX4_soonest) (maxL := 4) (ret := (some .int)) (own := RX4) (plainFor_of_name (by decide)) rfl rfl (Nat.le_of_ble_eq_true rfl) ?_
  intro p e s m args below meth c A hA hx hb hml hr hts hown hlocks hE hK hP hD hS ls hl
  generalize hQ : qRW _ _ _ _ _ _ _ = Q
  have hl : lv_has ls 4 [(0, .ref (f 0)), (1, .int p1), (2, .int p2)] := hl
  have hiX4 : ∀ w ∈ wsX40, w ∈ wsX4_soonest := fun w h => List.mem_cons_of_mem _ (List.mem_append_right _ h)
  have hw1 := hts (Cond.fieldLink RX4 101 "FloeToFloeModel" "minute" "I") (List.mem_of_getElem? (i := 1) rfl)
  rw [fX4_soonest] at h
  refine lv_iload_n hx hb dX4_soonest_0 rfl (lv_at hl 1 rfl) ?_
  refine lv_iload_n hx hb dX4_soonest_1 rfl (lv_at hl 2 rfl) ?_
  obtain ⟨q2, e2, h⟩ := bd_some h
  refine g_roS (wc := ([] : va_W)) ⟨hx, hb, hml, hown, hts⟩ hE hK hP hS [] rfl (mX4_notLoad l dC dI cI cC sk  p1 p2 q2 e2) (va_cwS 2 hts gX4_soonest_X4_notLoad rfl rfl rfl (by decide +kernel) ⟨Nat.le_of_ble_eq_true rfl, Nat.le_of_ble_eq_true rfl⟩) (As := [.int p1, .int p2]) (rest := []) rfl hl.1 rfl (Nat.le_of_ble_eq_true rfl) dX4_soonest_2 ⟨Nat.zero_le _, Nat.zero_le _⟩ (fun H locs hP hS => ?_)
  refine lv_istore_n (lv' := [(3, .int q2), (0, .ref (f 0)), (1, .int p1), (2, .int p2)]) hx hb dX4_soonest_5 rfl hl (by decide) rfl (fun ls hl => ?_)
  refine lv_iload_n hx hb dX4_soonest_6 rfl (lv_at hl 0 rfl) ?_
  refine lv_if_eq (tgt := 18) hx hb dX4_soonest_7 (by decide) (fun c7 => ?_) (fun c7 => ?_)
  · have h := itT c7 h
    refine lv_aload_n hx hb dX4_soonest_18 rfl (lv_at hl 1 rfl) ?_
    refine lv_iload_n hx hb dX4_soonest_19 rfl (lv_at hl 2 rfl) ?_
    refine lv_iload_n hx hb dX4_soonest_20 rfl (lv_at hl 3 rfl) ?_
    refine lv_aload_n hx hb dX4_soonest_21 rfl (lv_at hl 1 rfl) ?_
    refine va_get (D := (dC, dI)) (ci := 4) (v := .int (R_minute c_r)) (C := RX4) (T := TX4) (N := 28) hx hb hts hiX4 hown hK hP 0 rfl rfl 8 (by decide) hw1 (fun _ h9 => h9) rfl dX4_soonest_22 ?_
    obtain ⟨q25, e25, h⟩ := bd_some h
    refine g_roV (wc := (zwM cI cC f c_r c_refused c_tape c_letter c_letterAt c_number c_taped c_at c_statements c_kept c_hasImage c_isKeeping c_cursor c_poled c_barred c_leapsTo c_leapsThen c_lands c_row c_rowMany c_endsAt)) ⟨hx, hb, hml, hown, hts⟩ hE hK hP hS [0, 1, 2, 3, 4, 5, 6, 7, 8, 9, 10, 11, 12, 13, 14, 15] rfl (mX4_soonestFrom l dC dI cI cC sk f p1 p2 (R_minute c_r) c_r c_refused c_tape c_letter c_letterAt c_number c_taped c_at c_statements c_kept c_hasImage c_isKeeping c_cursor c_poled c_barred c_leapsTo c_leapsThen c_lands c_row c_rowMany c_endsAt q25 e25) (cwV 3 hts gX4_soonest_X4_soonestFrom rfl rfl rfl (by decide +kernel) ⟨Nat.le_of_ble_eq_true rfl, Nat.le_of_ble_eq_true rfl⟩) (va_recv hK hP (ci := 4) (q0 := 0) rfl rfl) (As := [.int p1, .int p2, .int (R_minute c_r)]) (rest := []) rfl hl.1 rfl (Nat.le_of_ble_eq_true rfl) dX4_soonest_25 ⟨Nat.zero_le _, Nat.zero_le _⟩ (fun H locs hP hS => ?_)
    subst hQ
    exact retRW (zz := ((q25, c_refused) : Int32 × AR)) (fun z => z.1) (fun z => (zwM cI cC f c_r z.2 c_tape c_letter c_letterAt c_number c_taped c_at c_statements c_kept c_hasImage c_isKeeping c_cursor c_poled c_barred c_leapsTo c_leapsThen c_lands c_row c_rowMany c_endsAt)) hx hb hr hlocks rfl hS h rfl hP dX4_soonest_28
  have h := itF c7 h
  refine lv_aload_n hx hb dX4_soonest_10 rfl (lv_at hl 1 rfl) ?_
  refine lv_iload_n hx hb dX4_soonest_11 rfl (lv_at hl 0 rfl) ?_
  obtain ⟨q12, e12, h⟩ := bd_some h
  refine g_rwA (wc := (zwM cI cC f c_r c_refused c_tape c_letter c_letterAt c_number c_taped c_at c_statements c_kept c_hasImage c_isKeeping c_cursor c_poled c_barred c_leapsTo c_leapsThen c_lands c_row c_rowMany c_endsAt)) (wc' := (zwM cI cC f c_r q12.2 c_tape c_letter c_letterAt c_number c_taped c_at c_statements c_kept c_hasImage c_isKeeping c_cursor c_poled c_barred c_leapsTo c_leapsThen c_lands c_row c_rowMany c_endsAt)) ⟨hx, hb, hml, hown, hts⟩ hE hK hA hP hD hS rfl (mX4_no l dC dI cI cC sk f H.size q2 c_r c_refused c_tape c_letter c_letterAt c_number c_taped c_at c_statements c_kept c_hasImage c_isKeeping c_cursor c_poled c_barred c_leapsTo c_leapsThen c_lands c_row c_rowMany c_endsAt q12 e12) (cwV 1 hts gX4_soonest_X4_no rfl rfl rfl (by decide +kernel) ⟨Nat.le_of_ble_eq_true rfl, Nat.le_of_ble_eq_true rfl⟩) (va_recv hK hP (ci := 4) (q0 := 0) rfl rfl) (As := [.int q2]) (rest := []) rfl hl.1 rfl (Nat.le_of_ble_eq_true rfl) dX4_soonest_12 ⟨Nat.zero_le _, Nat.zero_le _⟩ (fun H locs hP hD hS => ?_)
  have hP : va_P (dC, dI) vwCl (zwM cI cC f c_r q12.2 c_tape c_letter c_letterAt c_number c_taped c_at c_statements c_kept c_hasImage c_isKeeping c_cursor c_poled c_barred c_leapsTo c_leapsThen c_lands c_row c_rowMany c_endsAt) H := hP
  have hD : va_D A (zwM cI cC f c_r q12.2 c_tape c_letter c_letterAt c_number c_taped c_at c_statements c_kept c_hasImage c_isKeeping c_cursor c_poled c_barred c_leapsTo c_leapsThen c_lands c_row c_rowMany c_endsAt) := hD
  refine lv_goto (tgt := 28) hx hb dX4_soonest_15 (by decide) ?_
  subst hQ
  exact retRW (zz := ((q12.1, q12.2) : Int32 × AR)) (fun z => z.1) (fun z => (zwM cI cC f c_r z.2 c_tape c_letter c_letterAt c_number c_taped c_at c_statements c_kept c_hasImage c_isKeeping c_cursor c_poled c_barred c_leapsTo c_leapsThen c_lands c_row c_rowMany c_endsAt)) hx hb hr hlocks rfl hS h rfl hP dX4_soonest_28
