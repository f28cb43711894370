theorem dX4_byNow_0 : decode cX4_byNow 0 = .ok (.aload_n 0, 1) := by decide +kernel
theorem dX4_byNow_1 : decode cX4_byNow 1 = .ok (.iload_n 2, 1) := by decide +kernel
theorem dX4_byNow_2 : decode cX4_byNow 2 = .ok (.invokevirtual 141, 3) := by decide +kernel
theorem dX4_byNow_5 : decode cX4_byNow 5 = .ok (.ifCond .ne 7, 3) := by decide +kernel
theorem dX4_byNow_8 : decode cX4_byNow 8 = .ok (.iconst (-1), 1) := by decide +kernel
theorem dX4_byNow_9 : decode cX4_byNow 9 = .ok (.goto 37, 3) := by decide +kernel
theorem dX4_byNow_12 : decode cX4_byNow 12 = .ok (.iload_n 1, 1) := by decide +kernel
theorem dX4_byNow_13 : decode cX4_byNow 13 = .ok (.iconst 1, 1) := by decide +kernel
theorem dX4_byNow_14 : decode cX4_byNow 14 = .ok (.if_icmp .lt 7, 3) := by decide +kernel
theorem dX4_byNow_17 : decode cX4_byNow 17 = .ok (.iload_n 3, 1) := by decide +kernel
theorem dX4_byNow_18 : decode cX4_byNow 18 = .ok (.ifCond .ge 8, 3) := by decide +kernel
theorem dX4_byNow_21 : decode cX4_byNow 21 = .ok (.bipush (-4), 2) := by decide +kernel
theorem dX4_byNow_23 : decode cX4_byNow 23 = .ok (.goto 23, 3) := by decide +kernel
theorem dX4_byNow_26 : decode cX4_byNow 26 = .ok (.iload_n 1, 1) := by decide +kernel
theorem dX4_byNow_27 : decode cX4_byNow 27 = .ok (.bipush 9, 2) := by decide +kernel
theorem dX4_byNow_29 : decode cX4_byNow 29 = .ok (.if_icmp .gt 11, 3) := by decide +kernel
theorem dX4_byNow_32 : decode cX4_byNow 32 = .ok (.iload_n 3, 1) := by decide +kernel
theorem dX4_byNow_33 : decode cX4_byNow 33 = .ok (.aload_n 0, 1) := by decide +kernel
theorem dX4_byNow_34 : decode cX4_byNow 34 = .ok (.getfield 101, 3) := by decide +kernel
theorem dX4_byNow_37 : decode cX4_byNow 37 = .ok (.if_icmp .le 8, 3) := by decide +kernel
theorem dX4_byNow_40 : decode cX4_byNow 40 = .ok (.bipush (-6), 2) := by decide +kernel
theorem dX4_byNow_42 : decode cX4_byNow 42 = .ok (.goto 4, 3) := by decide +kernel
theorem dX4_byNow_45 : decode cX4_byNow 45 = .ok (.iconst 0, 1) := by decide +kernel
theorem dX4_byNow_46 : decode cX4_byNow 46 = .ok (.istore 4, 2) := by decide +kernel
theorem dX4_byNow_48 : decode cX4_byNow 48 = .ok (.iload 4, 2) := by decide +kernel
theorem dX4_byNow_50 : decode cX4_byNow 50 = .ok (.ifCond .eq 10, 3) := by decide +kernel
theorem dX4_byNow_53 : decode cX4_byNow 53 = .ok (.aload_n 0, 1) := by decide +kernel
theorem dX4_byNow_54 : decode cX4_byNow 54 = .ok (.iload 4, 2) := by decide +kernel
theorem dX4_byNow_56 : decode cX4_byNow 56 = .ok (.invokevirtual 73, 3) := by decide +kernel
theorem dX4_byNow_59 : decode cX4_byNow 59 = .ok (.ireturn, 1) := by decide +kernel
theorem dX4_byNow_60 : decode cX4_byNow 60 = .ok (.iconst 1, 1) := by decide +kernel
theorem dX4_byNow_61 : decode cX4_byNow 61 = .ok (.bipush 10, 2) := by decide +kernel
theorem dX4_byNow_63 : decode cX4_byNow 63 = .ok (.iload_n 2, 1) := by decide +kernel
theorem dX4_byNow_64 : decode cX4_byNow 64 = .ok (.iadd, 1) := by decide +kernel
theorem dX4_byNow_65 : decode cX4_byNow 65 = .ok (.ishl, 1) := by decide +kernel
theorem dX4_byNow_66 : decode cX4_byNow 66 = .ok (.istore 5, 2) := by decide +kernel
theorem dX4_byNow_68 : decode cX4_byNow 68 = .ok (.iload_n 3, 1) := by decide +kernel
theorem dX4_byNow_69 : decode cX4_byNow 69 = .ok (.istore 6, 2) := by decide +kernel
theorem dX4_byNow_71 : decode cX4_byNow 71 = .ok (.iload 6, 2) := by decide +kernel
theorem dX4_byNow_73 : decode cX4_byNow 73 = .ok (.ifCond .le 25, 3) := by decide +kernel
theorem dX4_byNow_76 : decode cX4_byNow 76 = .ok (.aload_n 0, 1) := by decide +kernel
theorem dX4_byNow_77 : decode cX4_byNow 77 = .ok (.iload 5, 2) := by decide +kernel
theorem dX4_byNow_79 : decode cX4_byNow 79 = .ok (.iload_n 1, 1) := by decide +kernel
theorem dX4_byNow_80 : decode cX4_byNow 80 = .ok (.aload_n 0, 1) := by decide +kernel
theorem dX4_byNow_81 : decode cX4_byNow 81 = .ok (.getfield 101, 3) := by decide +kernel
theorem dX4_byNow_84 : decode cX4_byNow 84 = .ok (.iload 6, 2) := by decide +kernel
theorem dX4_byNow_86 : decode cX4_byNow 86 = .ok (.isub, 1) := by decide +kernel
theorem dX4_byNow_87 : decode cX4_byNow 87 = .ok (.invokevirtual 170, 3) := by decide +kernel
theorem dX4_byNow_90 : decode cX4_byNow 90 = .ok (.istore 5, 2) := by decide +kernel
theorem dX4_byNow_92 : decode cX4_byNow 92 = .ok (.iinc 6 (-1), 3) := by decide +kernel
theorem dX4_byNow_95 : decode cX4_byNow 95 = .ok (.goto (-24), 3) := by decide +kernel
theorem dX4_byNow_98 : decode cX4_byNow 98 = .ok (.iload 5, 2) := by decide +kernel
theorem dX4_byNow_100 : decode cX4_byNow 100 = .ok (.invokestatic 189, 3) := by decide +kernel
theorem dX4_byNow_103 : decode cX4_byNow 103 = .ok (.ireturn, 1) := by decide +kernel
set_option maxRecDepth 20000 in
theorem ggX4_byNow_X4_isFloe : GoodIn wsX4_byNow wsX4_isFloe := goodIn_r _ [6, 7, 64, 65, 66, 67, 68, 69, 70, 71, 72, 73, 74, 75, 76, 77, 78, 79, 80, 81, 82, 83, 84, 85, 86, 87, 88, 89, 90, 91] (by decide +kernel) (by decide +kernel)
set_option maxRecDepth 20000 in
theorem gX4_byNow_X4_isFloe : GoodIn wsX4_byNow (wsV RX4 141 RX4 yX4_isFloe wsX4_isFloe) := goodIn_app (goodIn_of _ (by decide +kernel)) ggX4_byNow_X4_isFloe
set_option maxRecDepth 20000 in
theorem ggX4_byNow_X4_no : GoodIn wsX4_byNow wsX4_no := goodIn_r _ [11, 12, 64, 65, 66, 67, 68, 69, 70, 71, 72, 73, 74, 75, 76, 77, 78, 79, 80, 81, 82, 83, 84, 85, 86, 87, 88, 89, 90, 91] (by decide +kernel) (by decide +kernel)
set_option maxRecDepth 20000 in
theorem gX4_byNow_X4_no : GoodIn wsX4_byNow (wsV RX4 73 RX4 yX4_no wsX4_no) := goodIn_app (goodIn_of _ (by decide +kernel)) ggX4_byNow_X4_no
set_option maxRecDepth 20000 in
theorem ggX4_byNow_X4_goesOn : GoodIn wsX4_byNow wsX4_goesOn := goodIn_r _ [16, 17, 18, 19, 5, 20, 21, 22, 23, 24, 25, 26, 27, 28, 29, 30, 31, 32, 33, 34, 35, 36, 37, 38, 39, 40, 41, 7, 42, 43, 44, 45, 46, 47, 48, 49, 50, 51, 1, 52, 53, 54, 55, 56, 57, 58, 59, 60, 64, 65, 66, 67, 68, 69, 70, 71, 72, 73, 74, 75, 76, 77, 78, 79, 80, 81, 82, 83, 84, 85, 86, 87, 88, 89, 90, 91] (by decide +kernel) (by decide +kernel)
set_option maxRecDepth 20000 in
theorem gX4_byNow_X4_goesOn : GoodIn wsX4_byNow (wsV RX4 170 RX4 yX4_goesOn wsX4_goesOn) := goodIn_app (goodIn_of _ (by decide +kernel)) ggX4_byNow_X4_goesOn
set_option maxRecDepth 20000 in
theorem ggX4_byNow_X4_floesOf : GoodIn wsX4_byNow wsX4_floesOf := goodIn_r _ [63] (by decide +kernel) (by decide +kernel)
set_option maxRecDepth 20000 in
theorem gX4_byNow_X4_floesOf : GoodIn wsX4_byNow (va_wsS RX4 189 yX4_floesOf wsX4_floesOf) := goodIn_app (goodIn_of _ (by decide +kernel)) ggX4_byNow_X4_floesOf
set_option maxHeartbeats 4000000 in
set_option maxRecDepth 100000 in
theorem mX4_byNow (l : Launch) (dC : Nat → ClassId) (dI : Nat → Nat → Nat) (cI cC : ClassId) (sk : (Nat → Nat) × (Nat → Nat)) (f : Nat → Nat) (sz : Nat) (p1 : Int32) (p2 : Int32) (p3 : Int32) (c_r : RT) (c_refused : AR) (c_tape : AR) (c_letter : AR) (c_letterAt : AR) (c_number : AR) (c_taped : Int32) (c_at : Int32) (c_statements : Int32) (c_kept : AR) (c_hasImage : Int32) (c_isKeeping : Int32) (c_cursor : Int32) (c_poled : Int32) (c_barred : Int32) (c_leapsTo : AR) (c_leapsThen : AR) (c_lands : AR) (c_row : AR) (c_rowMany : Int32) (c_endsAt : Int32) (z : Int32 × AR) (h : fX4_byNow p1 p2 p3 c_r c_refused c_poled c_barred = some z) : cRW l yX4_byNow wsX4_byNow (RMk 5 118) sk (dC, dI) (tyz cI cC) sz (zwM cI cC f c_r c_refused c_tape c_letter c_letterAt c_number c_taped c_at c_statements c_kept c_hasImage c_isKeeping c_cursor c_poled c_barred c_leapsTo c_leapsThen c_lands c_row c_rowMany c_endsAt) (zwM cI cC f c_r z.2 c_tape c_letter c_letterAt c_number c_taped c_at c_statements c_kept c_hasImage c_isKeeping c_cursor c_poled c_barred c_leapsTo c_leapsThen c_lands c_row c_rowMany c_endsAt) [.ref (f 0), .int p1, .int p2, .int p3] z.1 := by
  refine ofRW (cc := cX4_byNow) (maxL := 7) (ret := (some .int)) (own := RX4) (plainFor_of_name (by decide)) rfl rfl (Nat.le_of_ble_eq_true rfl) ?_
  intro p e s m args below meth c A hA hx hb hml hr hts hown hlocks hE hK hP hD hS ls hl
  generalize hQ : qRW _ _ _ _ _ _ _ = Q
  have hl : lv_has ls 7 [(0, .ref (f 0)), (1, .int p1), (2, .int p2), (3, .int p3)] := hl
  have hiX4 : ∀ w ∈ wsX40, w ∈ wsX4_byNow := fun w h => List.mem_cons_of_mem _ (List.mem_append_right _ h)
  have hw1 := hts (Cond.fieldLink RX4 101 "FloeToFloeModel" "minute" "I") (List.mem_of_getElem? (i := 1) rfl)
  rw [fX4_byNow] at h
  refine lv_aload_n hx hb dX4_byNow_0 rfl (lv_at hl 0 rfl) ?_
  refine lv_iload_n hx hb dX4_byNow_1 rfl (lv_at hl 2 rfl) ?_
  obtain ⟨q2, e2, h⟩ := bd_some h
  refine g_roV (wc := (zwM cI cC f c_r c_refused c_tape c_letter c_letterAt c_number c_taped c_at c_statements c_kept c_hasImage c_isKeeping c_cursor c_poled c_barred c_leapsTo c_leapsThen c_lands c_row c_rowMany c_endsAt)) ⟨hx, hb, hml, hown, hts⟩ hE hK hP hS [0, 1, 2, 3, 4, 5, 6, 7, 8, 9, 10, 11, 12, 13, 14, 15] rfl (mX4_isFloe l dC dI cI cC sk f p2 c_r c_refused c_tape c_letter c_letterAt c_number c_taped c_at c_statements c_kept c_hasImage c_isKeeping c_cursor c_poled c_barred c_leapsTo c_leapsThen c_lands c_row c_rowMany c_endsAt q2 e2) (cwV 1 hts gX4_byNow_X4_isFloe rfl rfl rfl (by decide +kernel) ⟨Nat.le_of_ble_eq_true rfl, Nat.le_of_ble_eq_true rfl⟩) (va_recv hK hP (ci := 4) (q0 := 0) rfl rfl) (As := [.int p2]) (rest := []) rfl hl.1 rfl (Nat.le_of_ble_eq_true rfl) dX4_byNow_2 ⟨Nat.zero_le _, Nat.zero_le _⟩ (fun H locs hP hS => ?_)
  refine jnW (fun (v46 : Int32) => ∀ (H : Heap) (locs : List Loc) (ls : Array Slot), va_P (dC, dI) vwCl (zwM cI cC f c_r c_refused c_tape c_letter c_letterAt c_number c_taped c_at c_statements c_kept c_hasImage c_isKeeping c_cursor c_poled c_barred c_leapsTo c_leapsThen c_lands c_row c_rowMany c_endsAt) H → va_D A (zwM cI cC f c_r c_refused c_tape c_letter c_letterAt c_number c_taped c_at c_statements c_kept c_hasImage c_isKeeping c_cursor c_poled c_barred c_leapsTo c_leapsThen c_lands c_row c_rowMany c_endsAt) → va_S A s.heap H locs → lv_has ls 7 [(0, .ref (f 0)), (1, .int p1), (2, .int p2), (3, .int p3)] → W p l e (RMk 5 118) s m args below meth c H locs 0 0 Q (F0 m 46 ls [.int v46])) h (fun v46 h H locs ls hP hD hS hl => ?_) (fun J46 j46 h => ?_)
  · refine lv_istore (lv' := [(4, .int v46), (0, .ref (f 0)), (1, .int p1), (2, .int p2), (3, .int p3)]) hx hb dX4_byNow_46 hl (by decide) rfl (fun ls hl => ?_)
    refine lv_iload hx hb dX4_byNow_48 (lv_at hl 0 rfl) ?_
    refine lv_if_eq (tgt := 60) hx hb dX4_byNow_50 (by decide) (fun c50 => ?_) (fun c50 => ?_)
    · have h := itT c50 h
      refine lv_iconst (v := (1 : Int32)) hx hb dX4_byNow_60 (by decide) ?_
      refine lv_bipush (v := (10 : Int32)) hx hb dX4_byNow_61 (by decide) ?_
      refine lv_iload_n hx hb dX4_byNow_63 rfl (lv_at hl 3 rfl) ?_
      refine lv_iadd hx hb dX4_byNow_64 ?_
      refine lv_ishl hx hb dX4_byNow_65 ?_
      refine lv_istore (lv' := [(5, .int ((1 : Int32) <<< (((10 : Int32) + p2) &&& 31))), (4, .int v46), (0, .ref (f 0)), (1, .int p1), (2, .int p2), (3, .int p3)]) hx hb dX4_byNow_66 hl (by decide) rfl (fun ls hl => ?_)
      refine lv_iload_n hx hb dX4_byNow_68 rfl (lv_at hl 5 rfl) ?_
      refine lv_istore (lv' := [(6, .int p3), (5, .int ((1 : Int32) <<< (((10 : Int32) + p2) &&& 31))), (4, .int v46), (0, .ref (f 0)), (1, .int p1), (2, .int p2), (3, .int p3)]) hx hb dX4_byNow_69 hl (by decide) rfl (fun ls hl => ?_)
      have L71 : ∀ (K71 : Int32 → Option (Int32 × AR)), (∀ (k71_5 : Int32), K71 k71_5 = some z → ∀ (H : Heap) (locs : List Loc) (ls : Array Slot), va_P (dC, dI) vwCl (zwM cI cC f c_r c_refused c_tape c_letter c_letterAt c_number c_taped c_at c_statements c_kept c_hasImage c_isKeeping c_cursor c_poled c_barred c_leapsTo c_leapsThen c_lands c_row c_rowMany c_endsAt) H → va_D A (zwM cI cC f c_r c_refused c_tape c_letter c_letterAt c_number c_taped c_at c_statements c_kept c_hasImage c_isKeeping c_cursor c_poled c_barred c_leapsTo c_leapsThen c_lands c_row c_rowMany c_endsAt) → va_S A s.heap H locs → lv_has ls 7 [(5, .int k71_5)] → W p l e (RMk 5 118) s m args below meth c H locs 0 0 Q (F0 m 98 ls [])) → ∀ (n : Nat) (x71_5 : Int32) (x71_6 : Int32), fX4_byNow_L71 c_barred c_poled c_r p1 K71 n x71_5 x71_6 = some z → ∀ (H : Heap) (locs : List Loc) (ls : Array Slot), va_P (dC, dI) vwCl (zwM cI cC f c_r c_refused c_tape c_letter c_letterAt c_number c_taped c_at c_statements c_kept c_hasImage c_isKeeping c_cursor c_poled c_barred c_leapsTo c_leapsThen c_lands c_row c_rowMany c_endsAt) H → va_D A (zwM cI cC f c_r c_refused c_tape c_letter c_letterAt c_number c_taped c_at c_statements c_kept c_hasImage c_isKeeping c_cursor c_poled c_barred c_leapsTo c_leapsThen c_lands c_row c_rowMany c_endsAt) → va_S A s.heap H locs → lv_has ls 7 [(0, .ref (f 0)), (1, .int p1), (5, .int x71_5), (6, .int x71_6)] → W p l e (RMk 5 118) s m args below meth c H locs 0 0 Q (F0 m 71 ls []) := by
        intro K71 kx71 n
        induction n with
        | zero => intro x71_5 x71_6 h; rw [fX4_byNow_L71] at h; cases h
        | succ n ih71 =>
          intro x71_5 x71_6 h H locs ls hP hD hS hl
          rw [fX4_byNow_L71] at h
          refine lv_iload hx hb dX4_byNow_71 (lv_at hl 3 rfl) ?_
          refine lv_if_le (tgt := 98) hx hb dX4_byNow_73 (by decide) (fun c73 => ?_) (fun c73 => ?_)
          · have h := itT c73 h
            exact kx71 _ h _ _ _ hP hD hS (lv_sub hl [2] rfl)
          have h := itF c73 h
          refine lv_aload_n hx hb dX4_byNow_76 rfl (lv_at hl 0 rfl) ?_
          refine lv_iload hx hb dX4_byNow_77 (lv_at hl 2 rfl) ?_
          refine lv_iload_n hx hb dX4_byNow_79 rfl (lv_at hl 1 rfl) ?_
          refine lv_aload_n hx hb dX4_byNow_80 rfl (lv_at hl 0 rfl) ?_
          refine va_get (D := (dC, dI)) (ci := 4) (v := .int (R_minute c_r)) (C := RX4) (T := TX4) (N := 28) hx hb hts hiX4 hown hK hP 0 rfl rfl 8 (by decide) hw1 (fun _ h9 => h9) rfl dX4_byNow_81 ?_
          refine lv_iload hx hb dX4_byNow_84 (lv_at hl 3 rfl) ?_
          refine lv_isub hx hb dX4_byNow_86 ?_
          obtain ⟨q87, e87, h⟩ := bd_some h
          refine g_roV (wc := (zwM cI cC f c_r c_refused c_tape c_letter c_letterAt c_number c_taped c_at c_statements c_kept c_hasImage c_isKeeping c_cursor c_poled c_barred c_leapsTo c_leapsThen c_lands c_row c_rowMany c_endsAt)) ⟨hx, hb, hml, hown, hts⟩ hE hK hP hS [0, 1, 2, 3, 4, 5, 6, 7, 8, 9, 10, 11, 12, 13, 14, 15] rfl (mX4_goesOn l dC dI cI cC sk f x71_5 p1 ((R_minute c_r) - x71_6) c_r c_refused c_tape c_letter c_letterAt c_number c_taped c_at c_statements c_kept c_hasImage c_isKeeping c_cursor c_poled c_barred c_leapsTo c_leapsThen c_lands c_row c_rowMany c_endsAt q87 e87) (cwV 3 hts gX4_byNow_X4_goesOn rfl rfl rfl (by decide +kernel) ⟨Nat.le_of_ble_eq_true rfl, Nat.le_of_ble_eq_true rfl⟩) (va_recv hK hP (ci := 4) (q0 := 0) rfl rfl) (As := [.int x71_5, .int p1, .int ((R_minute c_r) - x71_6)]) (rest := []) rfl hl.1 rfl (Nat.le_of_ble_eq_true rfl) dX4_byNow_87 ⟨Nat.zero_le _, Nat.zero_le _⟩ (fun H locs hP hS => ?_)
          refine lv_istore (lv' := [(5, .int q87), (0, .ref (f 0)), (1, .int p1), (6, .int x71_6)]) hx hb dX4_byNow_90 hl (by decide) rfl (fun ls hl => ?_)
          refine lv_iinc (v := (x71_6 + (-1 : Int32))) (lv' := [(6, .int (x71_6 + (-1 : Int32))), (5, .int q87), (0, .ref (f 0)), (1, .int p1)]) hx hb dX4_byNow_92 hl (k := 3) rfl rfl (by decide) rfl (fun ls hl => ?_)
          refine lv_goto (tgt := 71) hx hb dX4_byNow_95 (by decide) ?_
          exact ih71 _ _ h _ _ _ hP hD hS (lv_sub hl [2, 3, 1, 0] rfl)
      refine L71 _ (fun k71_5 h H locs ls hP hD hS hl => ?_) _ _ _ h _ _ _ hP hD hS (lv_sub hl [3, 4, 1, 0] rfl)
      refine lv_iload hx hb dX4_byNow_98 (lv_at hl 0 rfl) ?_
      obtain ⟨q100, e100, h⟩ := bd_some h
      refine g_roS (wc := ([] : va_W)) ⟨hx, hb, hml, hown, hts⟩ hE hK hP hS [] rfl (mX4_floesOf l dC dI cI cC sk  k71_5 q100 e100) (va_cwS 1 hts gX4_byNow_X4_floesOf rfl rfl rfl (by decide +kernel) ⟨Nat.le_of_ble_eq_true rfl, Nat.le_of_ble_eq_true rfl⟩) (As := [.int k71_5]) (rest := []) rfl hl.1 rfl (Nat.le_of_ble_eq_true rfl) dX4_byNow_100 ⟨Nat.zero_le _, Nat.zero_le _⟩ (fun H locs hP hS => ?_)
      subst hQ
      exact retRW (zz := ((q100, c_refused) : Int32 × AR)) (fun z => z.1) (fun z => (zwM cI cC f c_r z.2 c_tape c_letter c_letterAt c_number c_taped c_at c_statements c_kept c_hasImage c_isKeeping c_cursor c_poled c_barred c_leapsTo c_leapsThen c_lands c_row c_rowMany c_endsAt)) hx hb hr hlocks rfl hS h rfl hP dX4_byNow_103
    have h := itF c50 h
    refine lv_aload_n hx hb dX4_byNow_53 rfl (lv_at hl 1 rfl) ?_
    refine lv_iload hx hb dX4_byNow_54 (lv_at hl 0 rfl) ?_
    obtain ⟨q56, e56, h⟩ := bd_some h
    refine g_rwA (wc := (zwM cI cC f c_r c_refused c_tape c_letter c_letterAt c_number c_taped c_at c_statements c_kept c_hasImage c_isKeeping c_cursor c_poled c_barred c_leapsTo c_leapsThen c_lands c_row c_rowMany c_endsAt)) (wc' := (zwM cI cC f c_r q56.2 c_tape c_letter c_letterAt c_number c_taped c_at c_statements c_kept c_hasImage c_isKeeping c_cursor c_poled c_barred c_leapsTo c_leapsThen c_lands c_row c_rowMany c_endsAt)) ⟨hx, hb, hml, hown, hts⟩ hE hK hA hP hD hS rfl (mX4_no l dC dI cI cC sk f H.size v46 c_r c_refused c_tape c_letter c_letterAt c_number c_taped c_at c_statements c_kept c_hasImage c_isKeeping c_cursor c_poled c_barred c_leapsTo c_leapsThen c_lands c_row c_rowMany c_endsAt q56 e56) (cwV 1 hts gX4_byNow_X4_no rfl rfl rfl (by decide +kernel) ⟨Nat.le_of_ble_eq_true rfl, Nat.le_of_ble_eq_true rfl⟩) (va_recv hK hP (ci := 4) (q0 := 0) rfl rfl) (As := [.int v46]) (rest := []) rfl hl.1 rfl (Nat.le_of_ble_eq_true rfl) dX4_byNow_56 ⟨Nat.zero_le _, Nat.zero_le _⟩ (fun H locs hP hD hS => ?_)
    have hP : va_P (dC, dI) vwCl (zwM cI cC f c_r q56.2 c_tape c_letter c_letterAt c_number c_taped c_at c_statements c_kept c_hasImage c_isKeeping c_cursor c_poled c_barred c_leapsTo c_leapsThen c_lands c_row c_rowMany c_endsAt) H := hP
    have hD : va_D A (zwM cI cC f c_r q56.2 c_tape c_letter c_letterAt c_number c_taped c_at c_statements c_kept c_hasImage c_isKeeping c_cursor c_poled c_barred c_leapsTo c_leapsThen c_lands c_row c_rowMany c_endsAt) := hD
    subst hQ
    exact retRW (zz := ((q56.1, q56.2) : Int32 × AR)) (fun z => z.1) (fun z => (zwM cI cC f c_r z.2 c_tape c_letter c_letterAt c_number c_taped c_at c_statements c_kept c_hasImage c_isKeeping c_cursor c_poled c_barred c_leapsTo c_leapsThen c_lands c_row c_rowMany c_endsAt)) hx hb hr hlocks rfl hS h rfl hP dX4_byNow_59
  refine lv_if_ne (tgt := 12) hx hb dX4_byNow_5 (by decide) (fun c5 => ?_) (fun c5 => ?_)
  · have h := itF c5 h
    refine lv_iload_n hx hb dX4_byNow_12 rfl (lv_at hl 1 rfl) ?_
    refine lv_iconst (v := (1 : Int32)) hx hb dX4_byNow_13 (by decide) ?_
    refine lv_icmp_lt (tgt := 21) hx hb dX4_byNow_14 (by decide) (fun c14 => ?_) (fun c14 => ?_)
    · have h := itT c14 h
      refine lv_bipush (v := (-4 : Int32)) hx hb dX4_byNow_21 (by decide) ?_
      refine lv_goto (tgt := 46) hx hb dX4_byNow_23 (by decide) ?_
      exact j46 _ h _ _ _ hP hD hS (lv_sub hl [0, 1, 2, 3] rfl)
    have h := itF c14 h
    refine lv_iload_n hx hb dX4_byNow_17 rfl (lv_at hl 3 rfl) ?_
    refine lv_if_ge (tgt := 26) hx hb dX4_byNow_18 (by decide) (fun c18 => ?_) (fun c18 => ?_)
    · have h := itT c18 h
      refine lv_iload_n hx hb dX4_byNow_26 rfl (lv_at hl 1 rfl) ?_
      refine lv_bipush (v := (9 : Int32)) hx hb dX4_byNow_27 (by decide) ?_
      refine lv_icmp_gt (tgt := 40) hx hb dX4_byNow_29 (by decide) (fun c29 => ?_) (fun c29 => ?_)
      · have h := itT c29 h
        refine lv_bipush (v := (-6 : Int32)) hx hb dX4_byNow_40 (by decide) ?_
        refine lv_goto (tgt := 46) hx hb dX4_byNow_42 (by decide) ?_
        exact j46 _ h _ _ _ hP hD hS (lv_sub hl [0, 1, 2, 3] rfl)
      have h := itF c29 h
      refine lv_iload_n hx hb dX4_byNow_32 rfl (lv_at hl 3 rfl) ?_
      refine lv_aload_n hx hb dX4_byNow_33 rfl (lv_at hl 0 rfl) ?_
      refine va_get (D := (dC, dI)) (ci := 4) (v := .int (R_minute c_r)) (C := RX4) (T := TX4) (N := 28) hx hb hts hiX4 hown hK hP 0 rfl rfl 8 (by decide) hw1 (fun _ h9 => h9) rfl dX4_byNow_34 ?_
      refine lv_icmp_le (tgt := 45) hx hb dX4_byNow_37 (by decide) (fun c37 => ?_) (fun c37 => ?_)
      · have h := itT c37 h
        refine lv_iconst (v := (0 : Int32)) hx hb dX4_byNow_45 (by decide) ?_
        exact j46 _ h _ _ _ hP hD hS (lv_sub hl [0, 1, 2, 3] rfl)
      have h := itF c37 h
      refine lv_bipush (v := (-6 : Int32)) hx hb dX4_byNow_40 (by decide) ?_
      refine lv_goto (tgt := 46) hx hb dX4_byNow_42 (by decide) ?_
      exact j46 _ h _ _ _ hP hD hS (lv_sub hl [0, 1, 2, 3] rfl)
    have h := itF c18 h
    refine lv_bipush (v := (-4 : Int32)) hx hb dX4_byNow_21 (by decide) ?_
    refine lv_goto (tgt := 46) hx hb dX4_byNow_23 (by decide) ?_
    exact j46 _ h _ _ _ hP hD hS (lv_sub hl [0, 1, 2, 3] rfl)
  have h := itT c5 h
  refine lv_iconst (v := (-1 : Int32)) hx hb dX4_byNow_8 (by decide) ?_
  refine lv_goto (tgt := 46) hx hb dX4_byNow_9 (by decide) ?_
  exact j46 _ h _ _ _ hP hD hS (lv_sub hl [0, 1, 2, 3] rfl)
