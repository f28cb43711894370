theorem dX4_byNow_0 : decode cX4_byNow 0 = .ok (.aload_n 0, 1) := by decide +kernel
theorem dX4_byNow_1 : decode cX4_byNow 1 = .ok (.iload_n 2, 1) := by decide +kernel
theorem dX4_byNow_2 : decode cX4_byNow 2 = .ok (.invokevirtual 141, 3) := by decide +kernel
theorem dX4_byNow_5 : decode cX4_byNow 5 = .ok (.ifCond .ne 7, 3) := by decide +kernel
theorem dX4_byNow_8 : decode cX4_byNow 8 = .ok (.iconst (-1), 1) := by decide +kernel
theorem dX4_byNow_9 : decode cX4_byNow 9 = .ok (.goto 37, 3) := by decide +kernel
theorem dX4_byNow_12 : decode cX4_byNow 12 = .ok (.iload_n 1, 1) := by decide +kernel
theorem dX4_byNow_13 : decode cX4_byNow 13 = .ok (.iconst 1, 1) := by decide +kernel
theorem dX4_byNow_14 : decode cX4_byNow 14 = .ok (.if_icmp .lt 7, 3) := by decide +kernel
theorem dX4_byNow_17 : decode cX4_byNow 17 = .ok (.iload_n 3, 1) := by decide +kernel
theorem dX4_byNow_18 : decode cX4_byNow 18 = .ok (.ifCond .ge 8, 3) := by decide +kernel
theorem dX4_byNow_21 : decode cX4_byNow 21 = .ok (.bipush (-4), 2) := by decide +kernel
theorem dX4_byNow_23 : decode cX4_byNow 23 = .ok (.goto 23, 3) := by decide +kernel
theorem dX4_byNow_26 : decode cX4_byNow 26 = .ok (.iload_n 1, 1) := by decide +kernel
theorem dX4_byNow_27 : decode cX4_byNow 27 = .ok (.bipush 9, 2) := by decide +kernel
theorem dX4_byNow_29 : decode cX4_byNow 29 = .ok (.if_icmp .gt 11, 3) := by decide +kernel
theorem dX4_byNow_32 : decode cX4_byNow 32 = .ok (.iload_n 3, 1) := by decide +kernel
theorem dX4_byNow_33 : decode cX4_byNow 33 = .ok (.aload_n 0, 1) := by decide +kernel
theorem dX4_byNow_34 : decode cX4_byNow 34 = .ok (.getfield 101, 3) := by decide +kernel
theorem dX4_byNow_37 : decode cX4_byNow 37 = .ok (.if_icmp .le 8, 3) := by decide +kernel
theorem dX4_byNow_40 : decode cX4_byNow 40 = .ok (.bipush (-6), 2) := by decide +kernel
theorem dX4_byNow_42 : decode cX4_byNow 42 = .ok (.goto 4, 3) := by decide +kernel
theorem dX4_byNow_45 : decode cX4_byNow 45 = .ok (.iconst 0, 1) := by decide +kernel
theorem dX4_byNow_46 : decode cX4_byNow 46 = .ok (.istore 4, 2) := by decide +kernel
theorem dX4_byNow_48 : decode cX4_byNow 48 = .ok (.iload 4, 2) := by decide +kernel
theorem dX4_byNow_50 : decode cX4_byNow 50 = .ok (.ifCond .eq 10, 3) := by decide +kernel
theorem dX4_byNow_53 : decode cX4_byNow 53 = .ok (.aload_n 0, 1) := by decide +kernel
theorem dX4_byNow_54 : decode cX4_byNow 54 = .ok (.iload 4, 2) := by decide +kernel
theorem dX4_byNow_56 : decode cX4_byNow 56 = .ok (.invokevirtual 73, 3) := by decide +kernel
theorem dX4_byNow_59 : decode cX4_byNow 59 = .ok (.ireturn, 1) := by decide +kernel
theorem dX4_byNow_60 : decode cX4_byNow 60 = .ok (.iconst 1, 1) := by decide +kernel
theorem dX4_byNow_61 : decode cX4_byNow 61 = .ok (.bipush 10, 2) := by decide +kernel
theorem dX4_byNow_63 : decode cX4_byNow 63 = .ok (.iload_n 2, 1) := by decide +kernel
theorem dX4_byNow_64 : decode cX4_byNow 64 = .ok (.iadd, 1) := by decide +kernel
theorem dX4_byNow_65 : decode cX4_byNow 65 = .ok (.ishl, 1) := by decide +kernel
theorem dX4_byNow_66 : decode cX4_byNow 66 = .ok (.istore 5, 2) := by decide +kernel
theorem dX4_byNow_68 : decode cX4_byNow 68 = .ok (.iload_n 3, 1) := by decide +kernel
theorem dX4_byNow_69 : decode cX4_byNow 69 = .ok (.istore 6, 2) := by decide +kernel
theorem dX4_byNow_71 : decode cX4_byNow 71 = .ok (.iload 6, 2) := by decide +kernel
theorem dX4_byNow_73 : decode cX4_byNow 73 = .ok (.ifCond .le 25, 3) := by decide +kernel
theorem dX4_byNow_76 : decode cX4_byNow 76 = .ok (.aload_n 0, 1) := by decide +kernel
theorem dX4_byNow_77 : decode cX4_byNow 77 = .ok (.iload 5, 2) := by decide +kernel
theorem dX4_byNow_79 : decode cX4_byNow 79 = .ok (.iload_n 1, 1) := by decide +kernel
theorem dX4_byNow_80 : decode cX4_byNow 80 = .ok (.aload_n 0, 1) := by decide +kernel
theorem dX4_byNow_81 : decode cX4_byNow 81 = .ok (.getfield 101, 3) := by decide +kernel
theorem dX4_byNow_84 : decode cX4_byNow 84 = .ok (.iload 6, 2) := by decide +kernel
theorem dX4_byNow_86 : decode cX4_byNow 86 = .ok (.isub, 1) := by decide +kernel
theorem dX4_byNow_87 : decode cX4_byNow 87 = .ok (.invokevirtual 170, 3) := by decide +kernel
theorem dX4_byNow_90 : decode cX4_byNow 90 = .ok (.istore 5, 2) := by decide +kernel
theorem dX4_byNow_92 : decode cX4_byNow 92 = .ok (.iinc 6 (-1), 3) := by decide +kernel
theorem dX4_byNow_95 : decode cX4_byNow 95 = .ok (.goto (-24), 3) := by decide +kernel
theorem dX4_byNow_98 : decode cX4_byNow 98 = .ok (.iload 5, 2) := by decide +kernel
theorem dX4_byNow_100 : decode cX4_byNow 100 = .ok (.invokestatic 189, 3) := by decide +kernel
theorem dX4_byNow_103 : decode cX4_byNow 103 = .ok (.ireturn, 1) := by decide +kernel
set_option maxRecDepth 20000 in
theorem ggX4_byNow_X4_isFloe : GoodIn wsX4_byNow wsX4_isFloe := goodIn_r _ [6, 7, 64, 65, 66, 67, 68, 69, 70, 71, 72, 73, 74, 75, 76, 77, 78, 79, 80, 81, 82, 83, 84, 85, 86, 87, 88, 89, 90, 91] (by decide +kernel) (by decide +kernel)
set_option maxRecDepth 20000 in
theorem gX4_byNow_X4_isFloe : GoodIn wsX4_byNow (wsV RX4 141 RX4 yX4_isFloe wsX4_isFloe) := goodIn_app (goodIn_of _ (by decide +kernel)) ggX4_byNow_X4_isFloe
set_option maxRecDepth 20000 in
theorem ggX4_byNow_X4_no : GoodIn wsX4_byNow wsX4_no := goodIn_r _ [11, 12, 64, 65, 66, 67, 68, 69, 70, 71, 72, 73, 74, 75, 76, 77, 78, 79, 80, 81, 82, 83, 84, 85, 86, 87, 88, 89, 90, 91] (by decide +kernel) (by decide +kernel)
set_option maxRecDepth 20000 in
theorem gX4_byNow_X4_no : GoodIn wsX4_byNow (wsV RX4 73 RX4 yX4_no wsX4_no) := goodIn_app (goodIn_of _ (by decide +kernel)) ggX4_byNow_X4_no
set_option maxRecDepth 20000 in
theorem ggX4_byNow_X4_goesOn : GoodIn wsX4_byNow wsX4_goesOn := goodIn_r _ [16, 17, 18, 19, 5, 20, 21, 22, 23, 24, 25, 26, 27, 28, 29, 30, 31, 32, 33, 34, 35, 36, 37, 38, 39, 40, 41, 7, 42, 43, 44, 45, 46, 47, 48, 49, 50, 51, 1, 52, 53, 54, 55, 56, 57, 58, 59, 60, 64, 65, 66, 67, 68, 69, 70, 71, 72, 73, 74, 75, 76, 77, 78, 79, 80, 81, 82, 83, 84, 85, 86, 87, 88, 89, 90, 91] (by decide +kernel) (by decide +kernel)
set_option maxRecDepth 20000 in
theorem gX4_byNow_X4_goesOn : GoodIn wsX4_byNow (wsV RX4 170 RX4 yX4_goesOn wsX4_goesOn) := goodIn_app (goodIn_of _ (by decide +kernel)) ggX4_byNow_X4_goesOn
set_option maxRecDepth 20000 in
theorem ggX4_byNow_X4_floesOf : GoodIn wsX4_byNow wsX4_floesOf := goodIn_r _ [63] (by decide +kernel) (by decide +kernel)
set_option maxRecDepth 20000 in
theorem gX4_byNow_X4_floesOf : GoodIn wsX4_byNow (va_wsS RX4 189 yX4_floesOf wsX4_floesOf) := goodIn_app (goodIn_of _ (by decide +kernel)) ggX4_byNow_X4_floesOf
set_option maxHeartbeats 4000000 in
set_option maxRecDepth 100000 in
theorem mX4_byNow (l : Launch) (dC : Nat → ClassId) (dI : Nat → Nat → Nat) (cI cC : ClassId) (sk : (Nat → Nat) × (Nat → Nat)) (f : Nat → Nat) (sz : Nat) (p1 : Int32) (p2 : Int32) (p3 : Int32) (c_r : RT) (c_refused : AR) (c_tape : AR) (c_letter : AR) (c_letterAt : AR) (c_number : AR) (c_taped : Int32) (c_at : Int32) (c_statements : Int32) (c_kept : AR) (c_hasImage : Int32) (c_isKeeping : Int32) (c_cursor : Int32) (c_poled : Int32) (c_barred : Int32) (c_leapsTo : AR) (c_leapsThen : AR) (c_lands : AR) (c_row : AR) (c_rowMany : Int32) (c_endsAt : Int32) (z : Int32 × AR) (h : fX4_byNow p1 p2 p3 c_r c_refused c_poled c_barred = some z) : cRW l yX4_byNow wsX4_byNow (RMk 5 118) sk (dC, dI) (tyz cI cC) sz (zwM cI cC f c_r c_refused c_tape c_letter c_letterAt c_number c_taped c_at c_statements c_kept c_hasImage c_isKeeping c_cursor c_poled c_barred c_leapsTo c_leapsThen c_lands c_row c_rowMany c_endsAt) (zwM cI cC f c_r z.2 c_tape c_letter c_letterAt c_number c_taped c_at c_statements c_kept c_hasImage c_isKeeping c_cursor c_poled c_barred c_leapsTo c_leapsThen c_lands c_row c_rowMany c_endsAt) [.ref (f 0), .int p1, .int p2, .int p3] z.1 := by
  refine ofRW (cc := cX4_byNow) (maxL := 7) (ret := (some .int)) (own := RX4) (plainFor_of_name (by decide)) rfl rfl (Nat.le_of_ble_eq_true rfl) ?_
  intro p e s m args below meth c A hA hx hb hml hr hts hown hlocks hE hK hP hD hS ls hl
  generalize hQ : qRW _ _ _ _ _ _ _ = Q
  have hl : lv_has ls 7 [(0, .ref (f 0)), (1, .int p1), (2, .int p2), (3, .int p3)] := hl
  have hiX4 : ∀ w ∈ wsX40, w ∈ wsX4_byNow := fun w h => List.mem_cons_of_mem _ (List.mem_append_right _ h)
  have hw1 := hts (Cond.fieldLink RX4 101 "FloeToFloeModel" "minute" "I") (List.mem_of_getElem? (i := 1) rfl)
  rw [fX4_byNow] at h
  refine lv_aload_n hx hb dX4_byNow_0 rfl (lv_at hl 0 rfl) ?_
  refine lv_iload_n hx hb dX4_byNow_1 rfl (lv_at hl 2 rfl) ?_
  obtain ⟨q2, e2, h⟩ := bd_some h
  refine g_roV (wc := (zwM cI cC f c_r c_refused c_tape c_letter c_letterAt c_number c_taped c_at c_statements c_kept c_hasImage c_isKeeping c_cursor c_poled c_barred c_leapsTo c_leapsThen c_lands c_row c_rowMany c_endsAt)) ⟨hx, hb, hml, hown, hts⟩ hE hK hP hS [0, 1, 2, 3, 4, 5, 6, 7, 8, 9, 10, 11, 12, 13, 14, 15] rfl (mX4_isFloe l dC dI cI cC sk f p2 c_r c_refused c_tape c_letter c_letterAt c_number c_taped c_at c_statements c_kept c_hasImage c_isKeeping c_cursor c_poled c_barred c_leapsTo c_leapsThen c_lands c_row c_rowMany c_endsAt q2 e2) (cwV 1 hts gX4_byNow_X4_isFloe rfl rfl rfl (by decide +kernel) ⟨Nat.le_of_ble_eq_true rfl, Nat.le_of_ble_eq_true rfl⟩) (va_recv hK hP (ci := 4) (q0 := 0) rfl rfl) (As := [.int p2]) (rest := []) rfl hl.1 rfl (Nat.le_of_ble_eq_true rfl) dX4_byNow_2 ⟨Nat.zero_le _, Nat.zero_le _⟩ (fun H locs hP hS => ?_)
  refine jnW (fun (v46 : Int32) => ∀ (H : Heap) (locs : List Loc) (ls : Array Slot), va_P (dC, dI) vwCl (zwM cI cC f c_r c_refused c_tape c_letter c_letterAt c_number c_taped c_at c_statements c_kept c_hasImage c_isKeeping c_cursor c_poled c_barred c_leapsTo c_leapsThen c_lands c_row c_rowMany c_endsAt) H → va_D A (zwM cI cC f c_r c_refused c_tape c_letter c_letterAt c_number c_taped c_at c_statements c_kept c_hasImage c_isKeeping c_cursor c_poled c_barred c_leapsTo c_leapsThen c_lands c_row c_rowMany c_endsAt) → va_S A s.heap H locs → lv_has ls 7 [(0, .ref (f 0)), (1, .int p1), (2, .int p2), (3, .int p3)] → W p l e (RMk 5 118) s m args below meth c H locs 0 0 Q (F0 m 46 ls [.int v46])) h (fun v46 h H locs ls hP hD hS hl => ?_) (fun J46 j46 h => ?_)
  · refine lv_istore (lv' := [(4, .int v46), (0, .ref (f 0)), (1, .int p1), (2, .int p2), (3, .int p3)]) hx hb dX4_byNow_46 hl (by decide) rfl (fun ls hl => ?_)
    refine lv_iload hx hb dX4_byNow_48 (lv_at hl 0 rfl) ?_
    refine lv_if_eq (tgt := 60) hx hb dX4_byNow_50 (by decide) (fun c50 => ?_) (fun c50 => ?_)
    · have h := itT c50 h
      refine lv_iconst (v := (1 : Int32)) hx hb dX4_byNow_60 (by decide) ?_
      refine lv_bipush (v := (10 : Int32)) hx hb dX4_byNow_61 (by decide) ?_
      refine lv_iload_n hx hb dX4_byNow_63 rfl (lv_at hl 3 rfl) ?_
      refine lv_iadd hx hb dX4_byNow_64 ?_
      refine lv_ishl hx hb dX4_byNow_65 ?_
      refine lv_istore (lv' := [(5, .int ((1 : Int32) <<< (((10 : Int32) + p2) &&& 31))), (4, .int v46), (0, .ref (f 0)), (1, .int p1), (2, .int p2), (3, .int p3)]) hx hb dX4_byNow_66 hl (by decide) rfl (fun ls hl => ?_)
      refine lv_iload_n hx hb dX4_byNow_68 rfl (lv_at hl 5 rfl) ?_
      refine lv_istore (lv' := [(6, .int p3), (5, .int ((1 : Int32) <<< (((10 : Int32) + p2) &&& 31))), (4, .int v46), (0, .ref (f 0)), (1, .int p1), (2, .int p2), (3, .int p3)]) hx hb dX4_byNow_69 hl (by decide) rfl (fun ls hl => ?_)
      have L71 : ∀ (K71 : Int32 → Option (Int32 × AR)), (∀ (k71_5 : Int32), K71 k71_5 = some z → ∀ (H : Heap) (locs : List Loc) (ls : Array Slot), va_P (dC, dI) vwCl (zwM cI cC f c_r c_refused c_tape c_letter c_letterAt c_number c_taped c_at c_statements c_kept c_hasImage c_isKeeping c_cursor c_poled c_barred c_leapsTo c_leapsThen c_lands c_row c_rowMany c_endsAt) H → va_D A (zwM cI cC f c_r c_refused c_tape c_letter c_letterAt c_number c_taped c_at c_statements c_kept c_hasImage c_isKeeping c_cursor c_poled c_barred c_leapsTo c_leapsThen c_lands c_row c_rowMany c_endsAt) → va_S A s.heap H locs → lv_has ls 7 [(5, .int k71_5)] → W p l e (RMk 5 118) s m args below meth c H locs 0 0 Q (F0 m 98 ls [])) → ∀ (n : Nat) (x71_5 : Int32) (x71_6 : Int32), fX4_byNow_L71 c_barred c_poled c_r p1 K71 n x71_5 x71_6 = some z → ∀ (H : Heap) (locs : List Loc) (ls : Array Slot), va_P (dC, dI) vwCl (zwM cI cC f c_r c_refused c_tape c_letter c_letterAt c_number c_taped c_at c_statements c_kept c_hasImage c_isKeeping c_cursor c_poled c_barred c_leapsTo c_leapsThen c_lands c_row c_rowMany c_endsAt) H → va_D A (zwM cI cC f c_r c_refused c_tape c_letter c_letterAt c_number c_taped c_at c_statements c_kept c_hasImage c_isKeeping c_cursor c_poled c_barred c_leapsTo c_leapsThen c_lands c_row c_rowMany c_endsAt) → va_S A s.heap H locs → lv_has ls 7 [(0, .ref (f 0)), (1, .int p1), (5, .int x71_5), (6, .int x71_6)] → W p l e (RMk 5 118) s m args below meth c H locs 0 0 Q (F0 m 71 ls []) := by
        intro K71 kx71 n
        induction n with
        | zero => intro x71_5 x71_6 h; rw [fX4_byNow_L71] at h; cases h
        | succ n ih71 =>
          intro x71_5 x71_6 h H locs ls hP hD hS hl
          rw [fX4_byNow_L71] at h
          refine lv_iload hx hb dX4_byNow_71 (lv_at hl 3 rfl) ?_
          refine lv_if_le (tgt := 98) hx hb dX4_byNow_73 (by decide) (fun c73 => ?_) (fun c73 => ?_)
          · have h := itT c73 h
            exact kx71 _ h _ _ _ hP hD hS (lv_sub hl [2] rfl)
          have h := itF c73 h
          refine lv_aload_n hx hb dX4_byNow_76 rfl (lv_at hl 0 rfl) ?_
          refine lv_iload hx hb dX4_byNow_77 (lv_at hl 2 rfl) ?_
          refine lv_iload_n hx hb dX4_byNow_79 rfl (lv_at hl 1 rfl) ?_
          refine lv_aload_n hx hb dX4_byNow_80 rfl (lv_at hl 0 rfl) ?_
          refine va_get (D := (dC, dI)) (ci := 4) (v := .int (R_minute c_r)) (C := RX4) (T := TX4) (N := 28) hx hb hts hiX4 hown hK hP 0 rfl rfl 8 (by decide) hw1 (fun _ h9 => h9) rfl dX4_byNow_81 ?_
          refine lv_iload hx hb dX4_byNow_84 (lv_at hl 3 rfl) ?_
          refine lv_isub hx hb dX4_byNow_86 ?_
          obtain ⟨q87, e87, h⟩ := bd_some h
          refine g_roV (wc := (zwM cI cC f c_r c_refused c_tape c_letter c_letterAt c_number c_taped c_at c_statements c_kept c_hasImage c_isKeeping c_cursor c_poled c_barred c_leapsTo c_leapsThen c_lands c_row c_rowMany c_endsAt)) ⟨hx, hb, hml, hown, hts⟩ hE hK hP hS [0, 1, 2, 3, 4, 5, 6, 7, 8, 9, 10, 11, 12, 13, 14, 15] rfl (mX4_goesOn l dC dI cI cC sk f x71_5 p1 ((R_minute c_r) - x71_6) c_r c_refused c_tape c_letter c_letterAt c_number c_taped c_at c_statements c_kept c_hasImage c_isKeeping c_cursor c_poled c_barred c_leapsTo c_leapsThen c_lands c_row c_rowMany c_endsAt q87 e87) (cwV 3 hts gX4_byNow_X4_goesOn rfl rfl rfl (by decide +kernel) ⟨Nat.le_of_ble_eq_true rfl, Nat.le_of_ble_eq_true rfl⟩) (va_recv hK hP (ci := 4) (q0 := 0) rfl rfl) (As := [.int x71_5, .int p1, .int ((R_minute c_r) - x71_6)]) (rest := []) rfl hl.1 rfl (Nat.le_of_ble_eq_true rfl) dX4_byNow_87 ⟨Nat.zero_le _, Nat.zero_le _⟩ (fun H locs hP hS => ?_)
          refine lv_istore (lv' := [(5, .int q87), (0, .ref (f 0)), (1, .int p1), (6, .int x71_6)]) hx hb dX4_byNow_90 hl (by decide) rfl (fun ls hl => ?_)
          refine lv_iinc (v := (x71_6 + (-1 : Int32))) (lv' := [(6, .int (x71_6 + (-1 : Int32))), (5, .int q87), (0, .ref (f 0)), (1, .int p1)]) hx hb dX4_byNow_92 hl (k := 3) rfl rfl (by decide) rfl (fun ls hl => ?_)
          refine lv_goto (tgt := 71) hx hb dX4_byNow_95 (by decide) ?_
          exact ih71 _ _ h _ _ _ hP hD hS (lv_sub hl [2, 3, 1, 0] rfl)
      refine L71 _ (fun k71_5 h H locs ls hP hD hS hl => ?_) _ _ _ h _ _ _ hP hD hS (lv_sub hl [3, 4, 1, 0] rfl)
      refine lv_iload hx hb dX4_byNow_98 (lv_at hl 0 rfl) ?_
      obtain ⟨q100, e100, h⟩ := bd_some h
      refine g_roS (wc := ([] : va_W)) ⟨hx, hb, hml, hown, hts⟩ hE hK hP hS [] rfl (mX4_floesOf l dC dI cI cC sk  k71_5 q100 e100) (va_cwS 1 hts gX4_byNow_X4_floesOf rfl rfl rfl (by decide +kernel) ⟨Nat.le_of_ble_eq_true rfl, Nat.le_of_ble_eq_true rfl⟩) (As := [.int k71_5]) (rest := []) rfl hl.1 rfl (Nat.le_of_ble_eq_true rfl) dX4_byNow_100 ⟨Nat.zero_le _, Nat.zero_le _⟩ (fun H locs hP hS => ?_)
      subst hQ
      exact retRW (zz := ((q100, c_refused) : Int32 × AR)) (fun z => z.1) (fun z => (zwM cI cC f c_r z.2 c_tape c_letter c_letterAt c_number c_taped c_at c_statements c_kept c_hasImage c_isKeeping c_cursor c_poled c_barred c_leapsTo c_leapsThen c_lands c_row c_rowMany c_endsAt)) hx hb hr hlocks rfl hS h rfl hP dX4_byNow_103
    have h := itF c50 h
    refine lv_aload_n hx hb dX4_byNow_53 rfl (lv_at hl 1 rfl) ?_
    refine lv_iload hx hb dX4_byNow_54 (lv_at hl 0 rfl) ?_
    obtain ⟨q56, e56, h⟩ := bd_some h
    refine g_rwV (wc := (zwM cI cC f c_r c_refused c_tape c_letter c_letterAt c_number c_taped c_at c_statements c_kept c_hasImage c_isKeeping c_cursor c_poled c_barred c_leapsTo c_leapsThen c_lands c_row c_rowMany c_endsAt)) (wc' := (zwM cI cC f c_r q56.2 c_tape c_letter c_letterAt c_number c_taped c_at c_statements c_kept c_hasImage c_isKeeping c_cursor c_poled c_barred c_leapsTo c_leapsThen c_lands c_row c_rowMany c_endsAt)) ⟨hx, hb, hml, hown, hts⟩ hE hK hA hP hD hS [0, 1, 2, 3, 4, 5, 6, 7, 8, 9, 10, 11, 12, 13, 14, 15] rfl rfl rfl (mX4_no l dC dI cI cC sk f H.size v46 c_r c_refused c_tape c_letter c_letterAt c_number c_taped c_at c_statements c_kept c_hasImage c_isKeeping c_cursor c_poled c_barred c_leapsTo c_leapsThen c_lands c_row c_rowMany c_endsAt q56 e56) (cwV 1 hts gX4_byNow_X4_no rfl rfl rfl (by decide +kernel) ⟨Nat.le_of_ble_eq_true rfl, Nat.le_of_ble_eq_true rfl⟩) (va_recv hK hP (ci := 4) (q0 := 0) rfl rfl) (As := [.int v46]) (rest := []) rfl hl.1 rfl (Nat.le_of_ble_eq_true rfl) dX4_byNow_56 ⟨Nat.zero_le _, Nat.zero_le _⟩ (fun H locs hP hD hS => ?_)
    have hP : va_P (dC, dI) vwCl (zwM cI cC f c_r q56.2 c_tape c_letter c_letterAt c_number c_taped c_at c_statements c_kept c_hasImage c_isKeeping c_cursor c_poled c_barred c_leapsTo c_leapsThen c_lands c_row c_rowMany c_endsAt) H := hP
    have hD : va_D A (zwM cI cC f c_r q56.2 c_tape c_letter c_letterAt c_number c_taped c_at c_statements c_kept c_hasImage c_isKeeping c_cursor c_poled c_barred c_leapsTo c_leapsThen c_lands c_row c_rowMany c_endsAt) := hD
    subst hQ
    exact retRW (zz := ((q56.1, q56.2) : Int32 × AR)) (fun z => z.1) (fun z => (zwM cI cC f c_r z.2 c_tape c_letter c_letterAt c_number c_taped c_at c_statements c_kept c_hasImage c_isKeeping c_cursor c_poled c_barred c_leapsTo c_leapsThen c_lands c_row c_rowMany c_endsAt)) hx hb hr hlocks rfl hS h rfl hP dX4_byNow_59
  refine lv_if_ne (tgt := 12) hx hb dX4_byNow_5 (by decide) (fun c5 => ?_) (fun c5 => ?_)
  · have h := itF c5 h
    refine lv_iload_n hx hb dX4_byNow_12 rfl (lv_at hl 1 rfl) ?_
    refine lv_iconst (v := (1 : Int32)) hx hb dX4_byNow_13 (by decide) ?_
    refine lv_icmp_lt (tgt := 21) hx hb dX4_byNow_14 (by decide) (fun c14 => ?_) (fun c14 => ?_)
    · have h := itT c14 h
      refine lv_bipush (v := (-4 : Int32)) hx hb dX4_byNow_21 (by decide) ?_
      refine lv_goto (tgt := 46) hx hb dX4_byNow_23 (by decide) ?_
      exact j46 _ h _ _ _ hP hD hS (lv_sub hl [0, 1, 2, 3] rfl)
    have h := itF c14 h
    refine lv_iload_n hx hb dX4_byNow_17 rfl (lv_at hl 3 rfl) ?_
    refine lv_if_ge (tgt := 26) hx hb dX4_byNow_18 (by decide) (fun c18 => ?_) (fun c18 => ?_)
    · have h := itT c18 h
      refine lv_iload_n hx hb dX4_byNow_26 rfl (lv_at hl 1 rfl) ?_
      refine lv_bipush (v := (9 : Int32)) hx hb dX4_byNow_27 (by decide) ?_
      refine lv_icmp_gt (tgt := 40) hx hb dX4_byNow_29 (by decide) (fun c29 => ?_) (fun c29 => ?_)
      · have h := itT c29 h
        refine lv_bipush (v := (-6 : Int32)) hx hb dX4_byNow_40 (by decide) ?_
        refine lv_goto (tgt := 46) hx hb dX4_byNow_42 (by decide) ?_
        exact j46 _ h _ _ _ hP hD hS (lv_sub hl [0, 1, 2, 3] rfl)
      have h := itF c29 h
      refine lv_iload_n hx hb dX4_byNow_32 rfl (lv_at hl 3 rfl) ?_
      refine lv_aload_n hx hb dX4_byNow_33 rfl (lv_at hl 0 rfl) ?_
      refine va_get (D := (dC, dI)) (ci := 4) (v := .int (R_minute c_r)) (C := RX4) (T := TX4) (N := 28) hx hb hts hiX4 hown hK hP 0 rfl rfl 8 (by decide) hw1 (fun _ h9 => h9) rfl dX4_byNow_34 ?_
      refine lv_icmp_le (tgt := 45) hx hb dX4_byNow_37 (by decide) (fun c37 => ?_) (fun c37 => ?_)
      · have h := itT c37 h
        refine lv_iconst (v := (0 : Int32)) hx hb dX4_byNow_45 (by decide) ?_
        exact j46 _ h _ _ _ hP hD hS (lv_sub hl [0, 1, 2, 3] rfl)
      have h := itF c37 h
      refine lv_bipush (v := (-6 : Int32)) hx hb dX4_byNow_40 (by decide) ?_
      refine lv_goto (tgt := 46) hx hb dX4_byNow_42 (by decide) ?_
      exact j46 _ h _ _ _ hP hD hS (lv_sub hl [0, 1, 2, 3] rfl)
    have h := itF c18 h
    refine lv_bipush (v := (-4 : Int32)) hx hb dX4_byNow_21 (by decide) ?_
    refine lv_goto (tgt := 46) hx hb dX4_byNow_23 (by decide) ?_
    exact j46 _ h _ _ _ hP hD hS (lv_sub hl [0, 1, 2, 3] rfl)
  have h := itT c5 h
  refine lv_iconst (v := (-1 : Int32)) hx hb dX4_byNow_8 (by decide) ?_
  refine lv_goto (tgt := 46) hx hb dX4_byNow_9 (by decide) ?_
  exact j46 _ h _ _ _ hP hD hS (lv_sub hl [0, 1, 2, 3] rfl)
theorem dX4_row_0 : decode cX4_row 0 = .ok (.iload_n 1, 1) := by decide +kernel
theorem dX4_row_1 : decode cX4_row 1 = .ok (.iconst 0, 1) := by decide +kernel
theorem dX4_row_2 : decode cX4_row 2 = .ok (.bipush 12, 2) := by decide +kernel
theorem dX4_row_4 : decode cX4_row 4 = .ok (.invokestatic 66, 3) := by decide +kernel
theorem dX4_row_7 : decode cX4_row 7 = .ok (.istore_n 2, 1) := by decide +kernel
theorem dX4_row_8 : decode cX4_row 8 = .ok (.iload_n 2, 1) := by decide +kernel
theorem dX4_row_9 : decode cX4_row 9 = .ok (.ifCond .ne 15, 3) := by decide +kernel
theorem dX4_row_12 : decode cX4_row 12 = .ok (.aload_n 0, 1) := by decide +kernel
theorem dX4_row_13 : decode cX4_row 13 = .ok (.getfield 212, 3) := by decide +kernel
theorem dX4_row_16 : decode cX4_row 16 = .ok (.bipush 12, 2) := by decide +kernel
theorem dX4_row_18 : decode cX4_row 18 = .ok (.if_icmp .ne 6, 3) := by decide +kernel
theorem dX4_row_21 : decode cX4_row 21 = .ok (.bipush (-6), 2) := by decide +kernel
theorem dX4_row_23 : decode cX4_row 23 = .ok (.istore_n 2, 1) := by decide +kernel
theorem dX4_row_24 : decode cX4_row 24 = .ok (.iload_n 2, 1) := by decide +kernel
theorem dX4_row_25 : decode cX4_row 25 = .ok (.ifCond .eq 9, 3) := by decide +kernel
theorem dX4_row_28 : decode cX4_row 28 = .ok (.aload_n 0, 1) := by decide +kernel
theorem dX4_row_29 : decode cX4_row 29 = .ok (.iload_n 2, 1) := by decide +kernel
theorem dX4_row_30 : decode cX4_row 30 = .ok (.invokevirtual 73, 3) := by decide +kernel
theorem dX4_row_33 : decode cX4_row 33 = .ok (.ireturn, 1) := by decide +kernel
theorem dX4_row_34 : decode cX4_row 34 = .ok (.aload_n 0, 1) := by decide +kernel
theorem dX4_row_35 : decode cX4_row 35 = .ok (.getfield 56, 3) := by decide +kernel
theorem dX4_row_38 : decode cX4_row 38 = .ok (.aload_n 0, 1) := by decide +kernel
theorem dX4_row_39 : decode cX4_row 39 = .ok (.getfield 212, 3) := by decide +kernel
theorem dX4_row_42 : decode cX4_row 42 = .ok (.iload_n 1, 1) := by decide +kernel
theorem dX4_row_43 : decode cX4_row 43 = .ok (.iastore, 1) := by decide +kernel
theorem dX4_row_44 : decode cX4_row 44 = .ok (.aload_n 0, 1) := by decide +kernel
theorem dX4_row_45 : decode cX4_row 45 = .ok (.dup, 1) := by decide +kernel
theorem dX4_row_46 : decode cX4_row 46 = .ok (.getfield 212, 3) := by decide +kernel
theorem dX4_row_49 : decode cX4_row 49 = .ok (.iconst 1, 1) := by decide +kernel
theorem dX4_row_50 : decode cX4_row 50 = .ok (.iadd, 1) := by decide +kernel
theorem dX4_row_51 : decode cX4_row 51 = .ok (.putfield 212, 3) := by decide +kernel
theorem dX4_row_54 : decode cX4_row 54 = .ok (.aload_n 0, 1) := by decide +kernel
theorem dX4_row_55 : decode cX4_row 55 = .ok (.getfield 212, 3) := by decide +kernel
theorem dX4_row_58 : decode cX4_row 58 = .ok (.ireturn, 1) := by decide +kernel
set_option maxRecDepth 20000 in
theorem ggX4_row_X4_bound : GoodIn wsX4_row wsX4_bound := goodIn_r _ [6] (by decide +kernel) (by decide +kernel)
set_option maxRecDepth 20000 in
theorem gX4_row_X4_bound : GoodIn wsX4_row (va_wsS RX4 66 yX4_bound wsX4_bound) := goodIn_app (goodIn_of _ (by decide +kernel)) ggX4_row_X4_bound
set_option maxRecDepth 20000 in
theorem ggX4_row_X4_no : GoodIn wsX4_row wsX4_no := goodIn_r _ [10, 11, 12, 13, 14, 15, 16, 17, 18, 19, 20, 21, 22, 23, 24, 25, 26, 27, 28, 29, 30, 31, 32, 33, 34, 35, 36, 37, 38, 39] (by decide +kernel) (by decide +kernel)
set_option maxRecDepth 20000 in
theorem gX4_row_X4_no : GoodIn wsX4_row (wsV RX4 73 RX4 yX4_no wsX4_no) := goodIn_app (goodIn_of _ (by decide +kernel)) ggX4_row_X4_no
set_option maxHeartbeats 4000000 in
set_option maxRecDepth 100000 in
theorem mX4_row (l : Launch) (dC : Nat → ClassId) (dI : Nat → Nat → Nat) (cI cC : ClassId) (sk : (Nat → Nat) × (Nat → Nat)) (f : Nat → Nat) (sz : Nat) (p1 : Int32) (c_r : RT) (c_refused : AR) (c_tape : AR) (c_letter : AR) (c_letterAt : AR) (c_number : AR) (c_taped : Int32) (c_at : Int32) (c_statements : Int32) (c_kept : AR) (c_hasImage : Int32) (c_isKeeping : Int32) (c_cursor : Int32) (c_poled : Int32) (c_barred : Int32) (c_leapsTo : AR) (c_leapsThen : AR) (c_lands : AR) (c_row : AR) (c_rowMany : Int32) (c_endsAt : Int32) (z : Int32 × AR × AR × Int32) (h : fX4_row p1 c_refused c_row c_rowMany = some z) : cRW l yX4_row wsX4_row (RMk 1 22) sk (dC, dI) (tyz cI cC) sz (zwM cI cC f c_r c_refused c_tape c_letter c_letterAt c_number c_taped c_at c_statements c_kept c_hasImage c_isKeeping c_cursor c_poled c_barred c_leapsTo c_leapsThen c_lands c_row c_rowMany c_endsAt) (zwM cI cC f c_r z.2.1 c_tape c_letter c_letterAt c_number c_taped c_at c_statements c_kept c_hasImage c_isKeeping c_cursor c_poled c_barred c_leapsTo c_leapsThen c_lands z.2.2.1 z.2.2.2 c_endsAt) [.ref (f 0), .int p1] z.1 := by
  refine ofRW (cc := cX4_row) (maxL := 3) (ret := (some .int)) (own := RX4) (plainFor_of_name (by decide)) rfl rfl (Nat.le_of_ble_eq_true rfl) ?_
  intro p e s m args below meth c A hA hx hb hml hr hts hown hlocks hE hK hP hD hS ls hl
  generalize hQ : qRW _ _ _ _ _ _ _ = Q
  have hl : lv_has ls 3 [(0, .ref (f 0)), (1, .int p1)] := hl
  have hiX4 : ∀ w ∈ wsX40, w ∈ wsX4_row := fun w h => List.mem_cons_of_mem _ (List.mem_append_right _ h)
  have hw1 := hts (Cond.fieldLink RX4 212 "FloeToFloeModel" "rowMany" "I") (List.mem_of_getElem? (i := 1) rfl)
  have hw2 := hts (Cond.fieldLink RX4 56 "FloeToFloeModel" "row" "[I") (List.mem_of_getElem? (i := 2) rfl)
  rw [fX4_row] at h
  refine lv_iload_n hx hb dX4_row_0 rfl (lv_at hl 1 rfl) ?_
  refine lv_iconst (v := (0 : Int32)) hx hb dX4_row_1 (by decide) ?_
  refine lv_bipush (v := (12 : Int32)) hx hb dX4_row_2 (by decide) ?_
  obtain ⟨q4, e4, h⟩ := bd_some h
  refine g_roS (wc := ([] : va_W)) ⟨hx, hb, hml, hown, hts⟩ hE hK hP hS [] rfl (mX4_bound l dC dI cI cC sk  p1 (0 : Int32) (12 : Int32) q4 e4) (va_cwS 3 hts gX4_row_X4_bound rfl rfl rfl (by decide +kernel) ⟨Nat.le_of_ble_eq_true rfl, Nat.le_of_ble_eq_true rfl⟩) (As := [.int p1, .int (0 : Int32), .int (12 : Int32)]) (rest := []) rfl hl.1 rfl (Nat.le_of_ble_eq_true rfl) dX4_row_4 ⟨Nat.zero_le _, Nat.zero_le _⟩ (fun H locs hP hS => ?_)
  refine lv_istore_n (lv' := [(2, .int q4), (0, .ref (f 0)), (1, .int p1)]) hx hb dX4_row_7 rfl hl (by decide) rfl (fun ls hl => ?_)
  refine lv_iload_n hx hb dX4_row_8 rfl (lv_at hl 0 rfl) ?_
  refine jnW (fun (v24 : Int32) => ∀ (H : Heap) (locs : List Loc) (ls : Array Slot), va_P (dC, dI) vwCl (zwM cI cC f c_r c_refused c_tape c_letter c_letterAt c_number c_taped c_at c_statements c_kept c_hasImage c_isKeeping c_cursor c_poled c_barred c_leapsTo c_leapsThen c_lands c_row c_rowMany c_endsAt) H → va_D A (zwM cI cC f c_r c_refused c_tape c_letter c_letterAt c_number c_taped c_at c_statements c_kept c_hasImage c_isKeeping c_cursor c_poled c_barred c_leapsTo c_leapsThen c_lands c_row c_rowMany c_endsAt) → va_S A s.heap H locs → lv_has ls 3 [(0, .ref (f 0)), (1, .int p1), (2, .int v24)] → W p l e (RMk 1 22) s m args below meth c H locs 0 0 Q (F0 m 24 ls [])) h (fun v24 h H locs ls hP hD hS hl => ?_) (fun J24 j24 h => ?_)
  · refine lv_iload_n hx hb dX4_row_24 rfl (lv_at hl 2 rfl) ?_
    refine lv_if_eq (tgt := 34) hx hb dX4_row_25 (by decide) (fun c25 => ?_) (fun c25 => ?_)
    · have h := itT c25 h
      refine lv_aload_n hx hb dX4_row_34 rfl (lv_at hl 0 rfl) ?_
      refine va_get (D := (dC, dI)) (ci := 4) (v := .ref (f 15)) (C := RX4) (T := TX4) (N := 28) hx hb hts hiX4 hown hK hP 0 rfl rfl 25 (by decide) hw2 (fun _ h9 => h9) rfl dX4_row_35 ?_
      refine lv_aload_n hx hb dX4_row_38 rfl (lv_at hl 0 rfl) ?_
      refine va_get (D := (dC, dI)) (ci := 4) (v := .int c_rowMany) (C := RX4) (T := TX4) (N := 28) hx hb hts hiX4 hown hK hP 0 rfl rfl 26 (by decide) hw1 (fun _ h9 => h9) rfl dX4_row_39 ?_
      refine lv_iload_n hx hb dX4_row_42 rfl (lv_at hl 1 rfl) ?_
      obtain ⟨hin, h⟩ := ck_some h
      refine va_iast hx hb hK hP hD hS 15 0 rfl rfl hin dX4_row_43 (fun H locs hP hD hS => ?_)
      have hP : va_P (dC, dI) vwCl (zwM cI cC f c_r c_refused c_tape c_letter c_letterAt c_number c_taped c_at c_statements c_kept c_hasImage c_isKeeping c_cursor c_poled c_barred c_leapsTo c_leapsThen c_lands (upd c_row (c_rowMany).toNatClampNeg p1) c_rowMany c_endsAt) H := hP
      have hD : va_D A (zwM cI cC f c_r c_refused c_tape c_letter c_letterAt c_number c_taped c_at c_statements c_kept c_hasImage c_isKeeping c_cursor c_poled c_barred c_leapsTo c_leapsThen c_lands (upd c_row (c_rowMany).toNatClampNeg p1) c_rowMany c_endsAt) := hD
      refine lv_aload_n hx hb dX4_row_44 rfl (lv_at hl 0 rfl) ?_
      refine lv_dup hx hb dX4_row_45 rfl ?_
      refine va_get (D := (dC, dI)) (ci := 4) (v := .int c_rowMany) (C := RX4) (T := TX4) (N := 28) hx hb hts hiX4 hown hK hP 0 rfl rfl 26 (by decide) hw1 (fun _ h9 => h9) rfl dX4_row_46 ?_
      refine lv_iconst (v := (1 : Int32)) hx hb dX4_row_49 (by decide) ?_
      refine lv_iadd hx hb dX4_row_50 ?_
      refine va_put (D := (dC, dI)) (ci := 4) (v := .int (c_rowMany + (1 : Int32))) (ty := .int) (C := RX4) (T := TX4) (N := 28) hx hb hts hiX4 tyX4 tyX4_ok nmX4 hown hK hP hD hS 0 rfl rfl 26 (by decide) hw1 (fun _ h9 => h9) rfl (by decide +kernel) rfl rfl (Nat.le_of_ble_eq_true rfl) dX4_row_51 (fun H locs hP hD hS => ?_)
      have hP : va_P (dC, dI) vwCl (zwM cI cC f c_r c_refused c_tape c_letter c_letterAt c_number c_taped c_at c_statements c_kept c_hasImage c_isKeeping c_cursor c_poled c_barred c_leapsTo c_leapsThen c_lands (upd c_row (c_rowMany).toNatClampNeg p1) (c_rowMany + (1 : Int32)) c_endsAt) H := hP
      have hD : va_D A (zwM cI cC f c_r c_refused c_tape c_letter c_letterAt c_number c_taped c_at c_statements c_kept c_hasImage c_isKeeping c_cursor c_poled c_barred c_leapsTo c_leapsThen c_lands (upd c_row (c_rowMany).toNatClampNeg p1) (c_rowMany + (1 : Int32)) c_endsAt) := hD
      refine lv_aload_n hx hb dX4_row_54 rfl (lv_at hl 0 rfl) ?_
      refine va_get (D := (dC, dI)) (ci := 4) (v := .int (c_rowMany + (1 : Int32))) (C := RX4) (T := TX4) (N := 28) hx hb hts hiX4 hown hK hP 0 rfl rfl 26 (by decide) hw1 (fun _ h9 => h9) rfl dX4_row_55 ?_
      subst hQ
      exact retRW (zz := (((c_rowMany + (1 : Int32)), c_refused, (upd c_row (c_rowMany).toNatClampNeg p1), (c_rowMany + (1 : Int32))) : Int32 × AR × AR × Int32)) (fun z => z.1) (fun z => (zwM cI cC f c_r z.2.1 c_tape c_letter c_letterAt c_number c_taped c_at c_statements c_kept c_hasImage c_isKeeping c_cursor c_poled c_barred c_leapsTo c_leapsThen c_lands z.2.2.1 z.2.2.2 c_endsAt)) hx hb hr hlocks rfl hS h rfl hP dX4_row_58
    have h := itF c25 h
    refine lv_aload_n hx hb dX4_row_28 rfl (lv_at hl 0 rfl) ?_
    refine lv_iload_n hx hb dX4_row_29 rfl (lv_at hl 2 rfl) ?_
    obtain ⟨q30, e30, h⟩ := bd_some h
    refine g_rwV (wc := (zwM cI cC f c_r c_refused c_tape c_letter c_letterAt c_number c_taped c_at c_statements c_kept c_hasImage c_isKeeping c_cursor c_poled c_barred c_leapsTo c_leapsThen c_lands c_row c_rowMany c_endsAt)) (wc' := (zwM cI cC f c_r q30.2 c_tape c_letter c_letterAt c_number c_taped c_at c_statements c_kept c_hasImage c_isKeeping c_cursor c_poled c_barred c_leapsTo c_leapsThen c_lands c_row c_rowMany c_endsAt)) ⟨hx, hb, hml, hown, hts⟩ hE hK hA hP hD hS [0, 1, 2, 3, 4, 5, 6, 7, 8, 9, 10, 11, 12, 13, 14, 15] rfl rfl rfl (mX4_no l dC dI cI cC sk f H.size v24 c_r c_refused c_tape c_letter c_letterAt c_number c_taped c_at c_statements c_kept c_hasImage c_isKeeping c_cursor c_poled c_barred c_leapsTo c_leapsThen c_lands c_row c_rowMany c_endsAt q30 e30) (cwV 1 hts gX4_row_X4_no rfl rfl rfl (by decide +kernel) ⟨Nat.le_of_ble_eq_true rfl, Nat.le_of_ble_eq_true rfl⟩) (va_recv hK hP (ci := 4) (q0 := 0) rfl rfl) (As := [.int v24]) (rest := []) rfl hl.1 rfl (Nat.le_of_ble_eq_true rfl) dX4_row_30 ⟨Nat.zero_le _, Nat.zero_le _⟩ (fun H locs hP hD hS => ?_)
    have hP : va_P (dC, dI) vwCl (zwM cI cC f c_r q30.2 c_tape c_letter c_letterAt c_number c_taped c_at c_statements c_kept c_hasImage c_isKeeping c_cursor c_poled c_barred c_leapsTo c_leapsThen c_lands c_row c_rowMany c_endsAt) H := hP
    have hD : va_D A (zwM cI cC f c_r q30.2 c_tape c_letter c_letterAt c_number c_taped c_at c_statements c_kept c_hasImage c_isKeeping c_cursor c_poled c_barred c_leapsTo c_leapsThen c_lands c_row c_rowMany c_endsAt) := hD
    subst hQ
    exact retRW (zz := ((q30.1, q30.2, c_row, c_rowMany) : Int32 × AR × AR × Int32)) (fun z => z.1) (fun z => (zwM cI cC f c_r z.2.1 c_tape c_letter c_letterAt c_number c_taped c_at c_statements c_kept c_hasImage c_isKeeping c_cursor c_poled c_barred c_leapsTo c_leapsThen c_lands z.2.2.1 z.2.2.2 c_endsAt)) hx hb hr hlocks rfl hS h rfl hP dX4_row_33
  refine lv_if_ne (tgt := 24) hx hb dX4_row_9 (by decide) (fun c9 => ?_) (fun c9 => ?_)
  · have h := itF c9 h
    exact j24 _ h _ _ _ hP hD hS (lv_sub hl [1, 2, 0] rfl)
  have h := itT c9 h
  refine lv_aload_n hx hb dX4_row_12 rfl (lv_at hl 1 rfl) ?_
  refine va_get (D := (dC, dI)) (ci := 4) (v := .int c_rowMany) (C := RX4) (T := TX4) (N := 28) hx hb hts hiX4 hown hK hP 0 rfl rfl 26 (by decide) hw1 (fun _ h9 => h9) rfl dX4_row_13 ?_
  refine lv_bipush (v := (12 : Int32)) hx hb dX4_row_16 (by decide) ?_
  refine lv_icmp_ne (tgt := 24) hx hb dX4_row_18 (by decide) (fun c18 => ?_) (fun c18 => ?_)
  · have h := itF c18 h
    exact j24 _ h _ _ _ hP hD hS (lv_sub hl [1, 2, 0] rfl)
  have h := itT c18 h
  refine lv_bipush (v := (-6 : Int32)) hx hb dX4_row_21 (by decide) ?_
  refine lv_istore_n (lv' := [(2, .int (-6 : Int32)), (0, .ref (f 0)), (1, .int p1)]) hx hb dX4_row_23 rfl hl (by decide) rfl (fun ls hl => ?_)
  exact j24 _ h _ _ _ hP hD hS (lv_sub hl [1, 2, 0] rfl)
theorem dX4_clear_0 : decode cX4_clear 0 = .ok (.aload_n 0, 1) := by decide +kernel
theorem dX4_clear_1 : decode cX4_clear 1 = .ok (.getfield 212, 3) := by decide +kernel
theorem dX4_clear_4 : decode cX4_clear 4 = .ok (.istore_n 1, 1) := by decide +kernel
theorem dX4_clear_5 : decode cX4_clear 5 = .ok (.aload_n 0, 1) := by decide +kernel
theorem dX4_clear_6 : decode cX4_clear 6 = .ok (.iconst 0, 1) := by decide +kernel
theorem dX4_clear_7 : decode cX4_clear 7 = .ok (.putfield 212, 3) := by decide +kernel
theorem dX4_clear_10 : decode cX4_clear 10 = .ok (.iload_n 1, 1) := by decide +kernel
theorem dX4_clear_11 : decode cX4_clear 11 = .ok (.ireturn, 1) := by decide +kernel
set_option maxHeartbeats 4000000 in
set_option maxRecDepth 100000 in
theorem mX4_clear (l : Launch) (dC : Nat → ClassId) (dI : Nat → Nat → Nat) (cI cC : ClassId) (sk : (Nat → Nat) × (Nat → Nat)) (f : Nat → Nat) (sz : Nat)  (c_r : RT) (c_refused : AR) (c_tape : AR) (c_letter : AR) (c_letterAt : AR) (c_number : AR) (c_taped : Int32) (c_at : Int32) (c_statements : Int32) (c_kept : AR) (c_hasImage : Int32) (c_isKeeping : Int32) (c_cursor : Int32) (c_poled : Int32) (c_barred : Int32) (c_leapsTo : AR) (c_leapsThen : AR) (c_lands : AR) (c_row : AR) (c_rowMany : Int32) (c_endsAt : Int32) (z : Int32 × Int32) (h : fX4_clear c_rowMany = some z) : cRW l yX4_clear wsX4_clear (RMk 0 0) sk (dC, dI) (tyz cI cC) sz (zwM cI cC f c_r c_refused c_tape c_letter c_letterAt c_number c_taped c_at c_statements c_kept c_hasImage c_isKeeping c_cursor c_poled c_barred c_leapsTo c_leapsThen c_lands c_row c_rowMany c_endsAt) (zwM cI cC f c_r c_refused c_tape c_letter c_letterAt c_number c_taped c_at c_statements c_kept c_hasImage c_isKeeping c_cursor c_poled c_barred c_leapsTo c_leapsThen c_lands c_row z.2 c_endsAt) [.ref (f 0)] z.1 := by
  refine ofRW (cc := cX4_clear) (maxL := 2) (ret := (some .int)) (own := RX4) (plainFor_of_name (by decide)) rfl rfl (Nat.le_of_ble_eq_true rfl) ?_
  intro p e s m args below meth c A hA hx hb hml hr hts hown hlocks hE hK hP hD hS ls hl
  generalize hQ : qRW _ _ _ _ _ _ _ = Q
  have hl : lv_has ls 2 [(0, .ref (f 0))] := hl
  have hiX4 : ∀ w ∈ wsX40, w ∈ wsX4_clear := fun w h => List.mem_cons_of_mem _ (List.mem_append_right _ h)
  have hw1 := hts (Cond.fieldLink RX4 212 "FloeToFloeModel" "rowMany" "I") (List.mem_of_getElem? (i := 1) rfl)
  rw [fX4_clear] at h
  refine lv_aload_n hx hb dX4_clear_0 rfl (lv_at hl 0 rfl) ?_
  refine va_get (D := (dC, dI)) (ci := 4) (v := .int c_rowMany) (C := RX4) (T := TX4) (N := 28) hx hb hts hiX4 hown hK hP 0 rfl rfl 26 (by decide) hw1 (fun _ h9 => h9) rfl dX4_clear_1 ?_
  refine lv_istore_n (lv' := [(1, .int c_rowMany), (0, .ref (f 0))]) hx hb dX4_clear_4 rfl hl (by decide) rfl (fun ls hl => ?_)
  refine lv_aload_n hx hb dX4_clear_5 rfl (lv_at hl 1 rfl) ?_
  refine lv_iconst (v := (0 : Int32)) hx hb dX4_clear_6 (by decide) ?_
  refine va_put (D := (dC, dI)) (ci := 4) (v := .int (0 : Int32)) (ty := .int) (C := RX4) (T := TX4) (N := 28) hx hb hts hiX4 tyX4 tyX4_ok nmX4 hown hK hP hD hS 0 rfl rfl 26 (by decide) hw1 (fun _ h9 => h9) rfl (by decide +kernel) rfl rfl (Nat.le_of_ble_eq_true rfl) dX4_clear_7 (fun H locs hP hD hS => ?_)
  have hP : va_P (dC, dI) vwCl (zwM cI cC f c_r c_refused c_tape c_letter c_letterAt c_number c_taped c_at c_statements c_kept c_hasImage c_isKeeping c_cursor c_poled c_barred c_leapsTo c_leapsThen c_lands c_row (0 : Int32) c_endsAt) H := hP
  have hD : va_D A (zwM cI cC f c_r c_refused c_tape c_letter c_letterAt c_number c_taped c_at c_statements c_kept c_hasImage c_isKeeping c_cursor c_poled c_barred c_leapsTo c_leapsThen c_lands c_row (0 : Int32) c_endsAt) := hD
  refine lv_iload_n hx hb dX4_clear_10 rfl (lv_at hl 0 rfl) ?_
  subst hQ
  exact retRW (zz := ((c_rowMany, (0 : Int32)) : Int32 × Int32)) (fun z => z.1) (fun z => (zwM cI cC f c_r c_refused c_tape c_letter c_letterAt c_number c_taped c_at c_statements c_kept c_hasImage c_isKeeping c_cursor c_poled c_barred c_leapsTo c_leapsThen c_lands c_row z.2 c_endsAt)) hx hb hr hlocks rfl hS h rfl hP dX4_clear_11
theorem dX4_isSeen_0 : decode cX4_isSeen 0 = .ok (.iconst 0, 1) := by decide +kernel
theorem dX4_isSeen_1 : decode cX4_isSeen 1 = .ok (.istore_n 3, 1) := by decide +kernel
theorem dX4_isSeen_2 : decode cX4_isSeen 2 = .ok (.iload_n 3, 1) := by decide +kernel
theorem dX4_isSeen_3 : decode cX4_isSeen 3 = .ok (.aload_n 0, 1) := by decide +kernel
theorem dX4_isSeen_4 : decode cX4_isSeen 4 = .ok (.getfield 212, 3) := by decide +kernel
theorem dX4_isSeen_7 : decode cX4_isSeen 7 = .ok (.if_icmp .ge 69, 3) := by decide +kernel
theorem dX4_isSeen_10 : decode cX4_isSeen 10 = .ok (.iload_n 1, 1) := by decide +kernel
theorem dX4_isSeen_11 : decode cX4_isSeen 11 = .ok (.iconst 2, 1) := by decide +kernel
theorem dX4_isSeen_12 : decode cX4_isSeen 12 = .ok (.if_icmp .ne 7, 3) := by decide +kernel
theorem dX4_isSeen_15 : decode cX4_isSeen 15 = .ok (.iconst 0, 1) := by decide +kernel
theorem dX4_isSeen_16 : decode cX4_isSeen 16 = .ok (.goto 16, 3) := by decide +kernel
theorem dX4_isSeen_19 : decode cX4_isSeen 19 = .ok (.iload_n 1, 1) := by decide +kernel
theorem dX4_isSeen_20 : decode cX4_isSeen 20 = .ok (.iconst 1, 1) := by decide +kernel
theorem dX4_isSeen_21 : decode cX4_isSeen 21 = .ok (.if_icmp .ne 10, 3) := by decide +kernel
theorem dX4_isSeen_24 : decode cX4_isSeen 24 = .ok (.iload_n 3, 1) := by decide +kernel
theorem dX4_isSeen_25 : decode cX4_isSeen 25 = .ok (.invokestatic 135, 3) := by decide +kernel
theorem dX4_isSeen_28 : decode cX4_isSeen 28 = .ok (.goto 4, 3) := by decide +kernel
theorem dX4_isSeen_31 : decode cX4_isSeen 31 = .ok (.iload_n 3, 1) := by decide +kernel
theorem dX4_isSeen_32 : decode cX4_isSeen 32 = .ok (.istore 4, 2) := by decide +kernel
theorem dX4_isSeen_34 : decode cX4_isSeen 34 = .ok (.aload_n 0, 1) := by decide +kernel
theorem dX4_isSeen_35 : decode cX4_isSeen 35 = .ok (.getfield 56, 3) := by decide +kernel
theorem dX4_isSeen_38 : decode cX4_isSeen 38 = .ok (.iload_n 3, 1) := by decide +kernel
theorem dX4_isSeen_39 : decode cX4_isSeen 39 = .ok (.iaload, 1) := by decide +kernel
theorem dX4_isSeen_40 : decode cX4_isSeen 40 = .ok (.bipush 9, 2) := by decide +kernel
theorem dX4_isSeen_42 : decode cX4_isSeen 42 = .ok (.if_icmp .gt 26, 3) := by decide +kernel
theorem dX4_isSeen_45 : decode cX4_isSeen 45 = .ok (.aload_n 0, 1) := by decide +kernel
theorem dX4_isSeen_46 : decode cX4_isSeen 46 = .ok (.getfield 56, 3) := by decide +kernel
theorem dX4_isSeen_49 : decode cX4_isSeen 49 = .ok (.iload_n 3, 1) := by decide +kernel
theorem dX4_isSeen_50 : decode cX4_isSeen 50 = .ok (.iaload, 1) := by decide +kernel
theorem dX4_isSeen_51 : decode cX4_isSeen 51 = .ok (.aload_n 0, 1) := by decide +kernel
theorem dX4_isSeen_52 : decode cX4_isSeen 52 = .ok (.getfield 56, 3) := by decide +kernel
theorem dX4_isSeen_55 : decode cX4_isSeen 55 = .ok (.iconst 0, 1) := by decide +kernel
theorem dX4_isSeen_56 : decode cX4_isSeen 56 = .ok (.iaload, 1) := by decide +kernel
theorem dX4_isSeen_57 : decode cX4_isSeen 57 = .ok (.iload_n 2, 1) := by decide +kernel
theorem dX4_isSeen_58 : decode cX4_isSeen 58 = .ok (.iload 4, 2) := by decide +kernel
theorem dX4_isSeen_60 : decode cX4_isSeen 60 = .ok (.imul, 1) := by decide +kernel
theorem dX4_isSeen_61 : decode cX4_isSeen 61 = .ok (.iadd, 1) := by decide +kernel
theorem dX4_isSeen_62 : decode cX4_isSeen 62 = .ok (.invokestatic 138, 3) := by decide +kernel
theorem dX4_isSeen_65 : decode cX4_isSeen 65 = .ok (.if_icmp .eq 5, 3) := by decide +kernel
theorem dX4_isSeen_68 : decode cX4_isSeen 68 = .ok (.iconst 0, 1) := by decide +kernel
theorem dX4_isSeen_69 : decode cX4_isSeen 69 = .ok (.ireturn, 1) := by decide +kernel
theorem dX4_isSeen_70 : decode cX4_isSeen 70 = .ok (.iinc 3 1, 3) := by decide +kernel
theorem dX4_isSeen_73 : decode cX4_isSeen 73 = .ok (.goto (-71), 3) := by decide +kernel
theorem dX4_isSeen_76 : decode cX4_isSeen 76 = .ok (.aload_n 0, 1) := by decide +kernel
theorem dX4_isSeen_77 : decode cX4_isSeen 77 = .ok (.getfield 212, 3) := by decide +kernel
theorem dX4_isSeen_80 : decode cX4_isSeen 80 = .ok (.ifCond .le 7, 3) := by decide +kernel
theorem dX4_isSeen_83 : decode cX4_isSeen 83 = .ok (.iconst 1, 1) := by decide +kernel
theorem dX4_isSeen_84 : decode cX4_isSeen 84 = .ok (.goto 4, 3) := by decide +kernel
theorem dX4_isSeen_87 : decode cX4_isSeen 87 = .ok (.iconst 0, 1) := by decide +kernel
theorem dX4_isSeen_88 : decode cX4_isSeen 88 = .ok (.ireturn, 1) := by decide +kernel
set_option maxRecDepth 20000 in
theorem ggX4_isSeen_X4_turned : GoodIn wsX4_isSeen wsX4_turned := goodIn_r _ [6] (by decide +kernel) (by decide +kernel)
set_option maxRecDepth 20000 in
theorem gX4_isSeen_X4_turned : GoodIn wsX4_isSeen (va_wsS RX4 135 yX4_turned wsX4_turned) := goodIn_app (goodIn_of _ (by decide +kernel)) ggX4_isSeen_X4_turned
set_option maxRecDepth 20000 in
theorem ggX4_isSeen_X4_round : GoodIn wsX4_isSeen wsX4_round := goodIn_r _ [9] (by decide +kernel) (by decide +kernel)
set_option maxRecDepth 20000 in
theorem gX4_isSeen_X4_round : GoodIn wsX4_isSeen (va_wsS RX4 138 yX4_round wsX4_round) := goodIn_app (goodIn_of _ (by decide +kernel)) ggX4_isSeen_X4_round
set_option maxHeartbeats 4000000 in
set_option maxRecDepth 100000 in
theorem mX4_isSeen (l : Launch) (dC : Nat → ClassId) (dI : Nat → Nat → Nat) (cI cC : ClassId) (sk : (Nat → Nat) × (Nat → Nat)) (f : Nat → Nat) (p1 : Int32) (p2 : Int32) (c_r : RT) (c_refused : AR) (c_tape : AR) (c_letter : AR) (c_letterAt : AR) (c_number : AR) (c_taped : Int32) (c_at : Int32) (c_statements : Int32) (c_kept : AR) (c_hasImage : Int32) (c_isKeeping : Int32) (c_cursor : Int32) (c_poled : Int32) (c_barred : Int32) (c_leapsTo : AR) (c_leapsThen : AR) (c_lands : AR) (c_row : AR) (c_rowMany : Int32) (c_endsAt : Int32) (z : Int32) (h : fX4_isSeen p1 p2 c_row c_rowMany = some z) : cRO l yX4_isSeen wsX4_isSeen (RMk 1 20) sk (dC, dI) (tyz cI cC) (zwM cI cC f c_r c_refused c_tape c_letter c_letterAt c_number c_taped c_at c_statements c_kept c_hasImage c_isKeeping c_cursor c_poled c_barred c_leapsTo c_leapsThen c_lands c_row c_rowMany c_endsAt) [.ref (f 0), .int p1, .int p2] z := by
  refine ofRO (cc := cX4_isSeen) (maxL := 5) (ret := (some .boolean)) (own := RX4) (plainFor_of_name (by decide)) rfl rfl (Nat.le_of_ble_eq_true rfl) ?_
  intro p e s m args below meth c hx hb hml hr hts hown hlocks hE hK hP hS ls hl
  generalize hQ : qRO _ _ _ _ = Q
  have hl : lv_has ls 5 [(0, .ref (f 0)), (1, .int p1), (2, .int p2)] := hl
  have hiX4 : ∀ w ∈ wsX40, w ∈ wsX4_isSeen := fun w h => List.mem_cons_of_mem _ (List.mem_append_right _ h)
  have hw1 := hts (Cond.fieldLink RX4 212 "FloeToFloeModel" "rowMany" "I") (List.mem_of_getElem? (i := 1) rfl)
  have hw2 := hts (Cond.fieldLink RX4 56 "FloeToFloeModel" "row" "[I") (List.mem_of_getElem? (i := 2) rfl)
  rw [fX4_isSeen] at h
  refine lv_iconst (v := (0 : Int32)) hx hb dX4_isSeen_0 (by decide) ?_
  refine lv_istore_n (lv' := [(3, .int (0 : Int32)), (0, .ref (f 0)), (1, .int p1), (2, .int p2)]) hx hb dX4_isSeen_1 rfl hl (by decide) rfl (fun ls hl => ?_)
  have L2 : ∀ (K2 : Unit → Option (Int32)), (∀ (_ : Unit), K2 () = some z → ∀ (H : Heap) (locs : List Loc) (ls : Array Slot), va_P (dC, dI) vwCl (zwM cI cC f c_r c_refused c_tape c_letter c_letterAt c_number c_taped c_at c_statements c_kept c_hasImage c_isKeeping c_cursor c_poled c_barred c_leapsTo c_leapsThen c_lands c_row c_rowMany c_endsAt) H → va_S noA s.heap H locs → lv_has ls 5 [(0, .ref (f 0))] → W p l e (RMk 1 20) s m args below meth c H locs 0 0 Q (F0 m 76 ls [])) → ∀ (n : Nat) (x2_3 : Int32), fX4_isSeen_L2 c_row c_rowMany p1 p2 K2 n x2_3 = some z → ∀ (H : Heap) (locs : List Loc) (ls : Array Slot), va_P (dC, dI) vwCl (zwM cI cC f c_r c_refused c_tape c_letter c_letterAt c_number c_taped c_at c_statements c_kept c_hasImage c_isKeeping c_cursor c_poled c_barred c_leapsTo c_leapsThen c_lands c_row c_rowMany c_endsAt) H → va_S noA s.heap H locs → lv_has ls 5 [(0, .ref (f 0)), (1, .int p1), (2, .int p2), (3, .int x2_3)] → W p l e (RMk 1 20) s m args below meth c H locs 0 0 Q (F0 m 2 ls []) := by
    intro K2 kx2 n
    induction n with
    | zero => intro x2_3 h; rw [fX4_isSeen_L2] at h; cases h
    | succ n ih2 =>
      intro x2_3 h H locs ls hP hS hl
      rw [fX4_isSeen_L2] at h
      refine lv_iload_n hx hb dX4_isSeen_2 rfl (lv_at hl 3 rfl) ?_
      refine lv_aload_n hx hb dX4_isSeen_3 rfl (lv_at hl 0 rfl) ?_
      refine va_get (D := (dC, dI)) (ci := 4) (v := .int c_rowMany) (C := RX4) (T := TX4) (N := 28) hx hb hts hiX4 hown hK hP 0 rfl rfl 26 (by decide) hw1 (fun _ h9 => h9) rfl dX4_isSeen_4 ?_
      refine lv_icmp_ge (tgt := 76) hx hb dX4_isSeen_7 (by decide) (fun c7 => ?_) (fun c7 => ?_)
      · have h := itT c7 h
        exact kx2 () h _ _ _ hP hS (lv_sub hl [0] rfl)
      have h := itF c7 h
      refine lv_iload_n hx hb dX4_isSeen_10 rfl (lv_at hl 1 rfl) ?_
      refine lv_iconst (v := (2 : Int32)) hx hb dX4_isSeen_11 (by decide) ?_
      refine jnW (fun (v32 : Int32) => ∀ (H : Heap) (locs : List Loc) (ls : Array Slot), va_P (dC, dI) vwCl (zwM cI cC f c_r c_refused c_tape c_letter c_letterAt c_number c_taped c_at c_statements c_kept c_hasImage c_isKeeping c_cursor c_poled c_barred c_leapsTo c_leapsThen c_lands c_row c_rowMany c_endsAt) H → va_S noA s.heap H locs → lv_has ls 5 [(0, .ref (f 0)), (1, .int p1), (2, .int p2), (3, .int x2_3)] → W p l e (RMk 1 20) s m args below meth c H locs 0 0 Q (F0 m 32 ls [.int v32])) h (fun v32 h H locs ls hP hS hl => ?_) (fun J32 j32 h => ?_)
      · refine lv_istore (lv' := [(4, .int v32), (0, .ref (f 0)), (1, .int p1), (2, .int p2), (3, .int x2_3)]) hx hb dX4_isSeen_32 hl (by decide) rfl (fun ls hl => ?_)
        refine lv_aload_n hx hb dX4_isSeen_34 rfl (lv_at hl 1 rfl) ?_
        refine va_get (D := (dC, dI)) (ci := 4) (v := .ref (f 15)) (C := RX4) (T := TX4) (N := 28) hx hb hts hiX4 hown hK hP 0 rfl rfl 25 (by decide) hw2 (fun _ h9 => h9) rfl dX4_isSeen_35 ?_
        refine lv_iload_n hx hb dX4_isSeen_38 rfl (lv_at hl 4 rfl) ?_
        obtain ⟨hin, h⟩ := ck_some h
        refine va_iald hx hb hK hP 15 0 rfl rfl hin dX4_isSeen_39 ?_
        refine lv_bipush (v := (9 : Int32)) hx hb dX4_isSeen_40 (by decide) ?_
        refine lv_icmp_gt (tgt := 68) hx hb dX4_isSeen_42 (by decide) (fun c42 => ?_) (fun c42 => ?_)
        · have h := itT c42 h
          refine lv_iconst (v := (0 : Int32)) hx hb dX4_isSeen_68 (by decide) ?_
          subst hQ
          exact retRO hx hb hr hlocks rfl hS h dX4_isSeen_69
        have h := itF c42 h
        refine lv_aload_n hx hb dX4_isSeen_45 rfl (lv_at hl 1 rfl) ?_
        refine va_get (D := (dC, dI)) (ci := 4) (v := .ref (f 15)) (C := RX4) (T := TX4) (N := 28) hx hb hts hiX4 hown hK hP 0 rfl rfl 25 (by decide) hw2 (fun _ h9 => h9) rfl dX4_isSeen_46 ?_
        refine lv_iload_n hx hb dX4_isSeen_49 rfl (lv_at hl 4 rfl) ?_
        obtain ⟨hin, h⟩ := ck_some h
        refine va_iald hx hb hK hP 15 0 rfl rfl hin dX4_isSeen_50 ?_
        refine lv_aload_n hx hb dX4_isSeen_51 rfl (lv_at hl 1 rfl) ?_
        refine va_get (D := (dC, dI)) (ci := 4) (v := .ref (f 15)) (C := RX4) (T := TX4) (N := 28) hx hb hts hiX4 hown hK hP 0 rfl rfl 25 (by decide) hw2 (fun _ h9 => h9) rfl dX4_isSeen_52 ?_
        refine lv_iconst (v := (0 : Int32)) hx hb dX4_isSeen_55 (by decide) ?_
        obtain ⟨hin, h⟩ := ck_some h
        refine va_iald hx hb hK hP 15 0 rfl rfl hin dX4_isSeen_56 ?_
        refine lv_iload_n hx hb dX4_isSeen_57 rfl (lv_at hl 3 rfl) ?_
        refine lv_iload hx hb dX4_isSeen_58 (lv_at hl 0 rfl) ?_
        refine lv_imul hx hb dX4_isSeen_60 ?_
        refine lv_iadd hx hb dX4_isSeen_61 ?_
        obtain ⟨q62, e62, h⟩ := bd_some h
        refine g_roS (wc := ([] : va_W)) ⟨hx, hb, hml, hown, hts⟩ hE hK hP hS [] rfl (mX4_round l dC dI cI cC sk  ((c_row ((0 : Int32)).toNatClampNeg) + (p2 * v32)) q62 e62) (va_cwS 1 hts gX4_isSeen_X4_round rfl rfl rfl (by decide +kernel) ⟨Nat.le_of_ble_eq_true rfl, Nat.le_of_ble_eq_true rfl⟩) (As := [.int ((c_row ((0 : Int32)).toNatClampNeg) + (p2 * v32))]) (rest := [.int (c_row (x2_3).toNatClampNeg)]) rfl hl.1 rfl (Nat.le_of_ble_eq_true rfl) dX4_isSeen_62 ⟨Nat.zero_le _, Nat.zero_le _⟩ (fun H locs hP hS => ?_)
        refine lv_icmp_eq (tgt := 70) hx hb dX4_isSeen_65 (by decide) (fun c65 => ?_) (fun c65 => ?_)
        · have h := itT c65 h
          refine lv_iinc (v := (x2_3 + (1 : Int32))) (lv' := [(3, .int (x2_3 + (1 : Int32))), (4, .int v32), (0, .ref (f 0)), (1, .int p1), (2, .int p2)]) hx hb dX4_isSeen_70 hl (k := 4) rfl rfl (by decide) rfl (fun ls hl => ?_)
          refine lv_goto (tgt := 2) hx hb dX4_isSeen_73 (by decide) ?_
          exact ih2 _ h _ _ _ hP hS (lv_sub hl [2, 3, 4, 0] rfl)
        have h := itF c65 h
        refine lv_iconst (v := (0 : Int32)) hx hb dX4_isSeen_68 (by decide) ?_
        subst hQ
        exact retRO hx hb hr hlocks rfl hS h dX4_isSeen_69
      refine lv_icmp_ne (tgt := 19) hx hb dX4_isSeen_12 (by decide) (fun c12 => ?_) (fun c12 => ?_)
      · have h := itF c12 h
        refine lv_iload_n hx hb dX4_isSeen_19 rfl (lv_at hl 1 rfl) ?_
        refine lv_iconst (v := (1 : Int32)) hx hb dX4_isSeen_20 (by decide) ?_
        refine lv_icmp_ne (tgt := 31) hx hb dX4_isSeen_21 (by decide) (fun c21 => ?_) (fun c21 => ?_)
        · have h := itF c21 h
          refine lv_iload_n hx hb dX4_isSeen_31 rfl (lv_at hl 3 rfl) ?_
          exact j32 _ h _ _ _ hP hS (lv_sub hl [0, 1, 2, 3] rfl)
        have h := itT c21 h
        refine lv_iload_n hx hb dX4_isSeen_24 rfl (lv_at hl 3 rfl) ?_
        obtain ⟨q25, e25, h⟩ := bd_some h
        refine g_roS (wc := ([] : va_W)) ⟨hx, hb, hml, hown, hts⟩ hE hK hP hS [] rfl (mX4_turned l dC dI cI cC sk  x2_3 q25 e25) (va_cwS 1 hts gX4_isSeen_X4_turned rfl rfl rfl (by decide +kernel) ⟨Nat.le_of_ble_eq_true rfl, Nat.le_of_ble_eq_true rfl⟩) (As := [.int x2_3]) (rest := []) rfl hl.1 rfl (Nat.le_of_ble_eq_true rfl) dX4_isSeen_25 ⟨Nat.zero_le _, Nat.zero_le _⟩ (fun H locs hP hS => ?_)
        refine lv_goto (tgt := 32) hx hb dX4_isSeen_28 (by decide) ?_
        exact j32 _ h _ _ _ hP hS (lv_sub hl [0, 1, 2, 3] rfl)
      have h := itT c12 h
      refine lv_iconst (v := (0 : Int32)) hx hb dX4_isSeen_15 (by decide) ?_
      refine lv_goto (tgt := 32) hx hb dX4_isSeen_16 (by decide) ?_
      exact j32 _ h _ _ _ hP hS (lv_sub hl [0, 1, 2, 3] rfl)
  refine L2 _ (fun _ h H locs ls hP hS hl => ?_) _ _ h _ _ _ hP hS (lv_sub hl [1, 2, 3, 0] rfl)
  refine lv_aload_n hx hb dX4_isSeen_76 rfl (lv_at hl 0 rfl) ?_
  refine va_get (D := (dC, dI)) (ci := 4) (v := .int c_rowMany) (C := RX4) (T := TX4) (N := 28) hx hb hts hiX4 hown hK hP 0 rfl rfl 26 (by decide) hw1 (fun _ h9 => h9) rfl dX4_isSeen_77 ?_
  refine lv_if_le (tgt := 87) hx hb dX4_isSeen_80 (by decide) (fun c80 => ?_) (fun c80 => ?_)
  · have h := itT c80 h
    refine lv_iconst (v := (0 : Int32)) hx hb dX4_isSeen_87 (by decide) ?_
    subst hQ
    exact retRO hx hb hr hlocks rfl hS h dX4_isSeen_88
  have h := itF c80 h
  refine lv_iconst (v := (1 : Int32)) hx hb dX4_isSeen_83 (by decide) ?_
  refine lv_goto (tgt := 88) hx hb dX4_isSeen_84 (by decide) ?_
  subst hQ
  exact retRO hx hb hr hlocks rfl hS h dX4_isSeen_88
theorem dX4_fitting_0 : decode cX4_fitting 0 = .ok (.iload_n 1, 1) := by decide +kernel
theorem dX4_fitting_1 : decode cX4_fitting 1 = .ok (.iconst 0, 1) := by decide +kernel
theorem dX4_fitting_2 : decode cX4_fitting 2 = .ok (.iconst 1, 1) := by decide +kernel
theorem dX4_fitting_3 : decode cX4_fitting 3 = .ok (.invokestatic 62, 3) := by decide +kernel
theorem dX4_fitting_6 : decode cX4_fitting 6 = .ok (.ifCond .ne 10, 3) := by decide +kernel
theorem dX4_fitting_9 : decode cX4_fitting 9 = .ok (.aload_n 0, 1) := by decide +kernel
theorem dX4_fitting_10 : decode cX4_fitting 10 = .ok (.bipush (-2), 2) := by decide +kernel
theorem dX4_fitting_12 : decode cX4_fitting 12 = .ok (.invokevirtual 73, 3) := by decide +kernel
theorem dX4_fitting_15 : decode cX4_fitting 15 = .ok (.ireturn, 1) := by decide +kernel
theorem dX4_fitting_16 : decode cX4_fitting 16 = .ok (.iconst 0, 1) := by decide +kernel
theorem dX4_fitting_17 : decode cX4_fitting 17 = .ok (.istore_n 2, 1) := by decide +kernel
theorem dX4_fitting_18 : decode cX4_fitting 18 = .ok (.bipush (-9), 2) := by decide +kernel
theorem dX4_fitting_20 : decode cX4_fitting 20 = .ok (.istore_n 3, 1) := by decide +kernel
theorem dX4_fitting_21 : decode cX4_fitting 21 = .ok (.iconst 0, 1) := by decide +kernel
theorem dX4_fitting_22 : decode cX4_fitting 22 = .ok (.istore 4, 2) := by decide +kernel
theorem dX4_fitting_24 : decode cX4_fitting 24 = .ok (.iload 4, 2) := by decide +kernel
theorem dX4_fitting_26 : decode cX4_fitting 26 = .ok (.bipush 15, 2) := by decide +kernel
theorem dX4_fitting_28 : decode cX4_fitting 28 = .ok (.if_icmp .ge 53, 3) := by decide +kernel
theorem dX4_fitting_31 : decode cX4_fitting 31 = .ok (.aload_n 0, 1) := by decide +kernel
theorem dX4_fitting_32 : decode cX4_fitting 32 = .ok (.iload 4, 2) := by decide +kernel
theorem dX4_fitting_34 : decode cX4_fitting 34 = .ok (.iconst 5, 1) := by decide +kernel
theorem dX4_fitting_35 : decode cX4_fitting 35 = .ok (.idiv, 1) := by decide +kernel
theorem dX4_fitting_36 : decode cX4_fitting 36 = .ok (.iload 4, 2) := by decide +kernel
theorem dX4_fitting_38 : decode cX4_fitting 38 = .ok (.iconst 5, 1) := by decide +kernel
theorem dX4_fitting_39 : decode cX4_fitting 39 = .ok (.irem, 1) := by decide +kernel
theorem dX4_fitting_40 : decode cX4_fitting 40 = .ok (.iconst 2, 1) := by decide +kernel
theorem dX4_fitting_41 : decode cX4_fitting 41 = .ok (.isub, 1) := by decide +kernel
theorem dX4_fitting_42 : decode cX4_fitting 42 = .ok (.invokevirtual 215, 3) := by decide +kernel
theorem dX4_fitting_45 : decode cX4_fitting 45 = .ok (.ifCond .ne 6, 3) := by decide +kernel
theorem dX4_fitting_48 : decode cX4_fitting 48 = .ok (.goto 27, 3) := by decide +kernel
theorem dX4_fitting_51 : decode cX4_fitting 51 = .ok (.iload_n 2, 1) := by decide +kernel
theorem dX4_fitting_52 : decode cX4_fitting 52 = .ok (.ifCond .ne 18, 3) := by decide +kernel
theorem dX4_fitting_55 : decode cX4_fitting 55 = .ok (.bipush 10, 2) := by decide +kernel
theorem dX4_fitting_57 : decode cX4_fitting 57 = .ok (.iload 4, 2) := by decide +kernel
theorem dX4_fitting_59 : decode cX4_fitting 59 = .ok (.iconst 5, 1) := by decide +kernel
theorem dX4_fitting_60 : decode cX4_fitting 60 = .ok (.idiv, 1) := by decide +kernel
theorem dX4_fitting_61 : decode cX4_fitting 61 = .ok (.imul, 1) := by decide +kernel
theorem dX4_fitting_62 : decode cX4_fitting 62 = .ok (.iload 4, 2) := by decide +kernel
theorem dX4_fitting_64 : decode cX4_fitting 64 = .ok (.iconst 5, 1) := by decide +kernel
theorem dX4_fitting_65 : decode cX4_fitting 65 = .ok (.irem, 1) := by decide +kernel
theorem dX4_fitting_66 : decode cX4_fitting 66 = .ok (.iadd, 1) := by decide +kernel
theorem dX4_fitting_67 : decode cX4_fitting 67 = .ok (.goto 4, 3) := by decide +kernel
theorem dX4_fitting_70 : decode cX4_fitting 70 = .ok (.iload_n 3, 1) := by decide +kernel
theorem dX4_fitting_71 : decode cX4_fitting 71 = .ok (.istore_n 3, 1) := by decide +kernel
theorem dX4_fitting_72 : decode cX4_fitting 72 = .ok (.iinc 2 1, 3) := by decide +kernel
theorem dX4_fitting_75 : decode cX4_fitting 75 = .ok (.iinc 4 1, 3) := by decide +kernel
theorem dX4_fitting_78 : decode cX4_fitting 78 = .ok (.goto (-54), 3) := by decide +kernel
theorem dX4_fitting_81 : decode cX4_fitting 81 = .ok (.iload_n 1, 1) := by decide +kernel
theorem dX4_fitting_82 : decode cX4_fitting 82 = .ok (.ifCond .ne 7, 3) := by decide +kernel
theorem dX4_fitting_85 : decode cX4_fitting 85 = .ok (.iload_n 2, 1) := by decide +kernel
theorem dX4_fitting_86 : decode cX4_fitting 86 = .ok (.goto 4, 3) := by decide +kernel
theorem dX4_fitting_89 : decode cX4_fitting 89 = .ok (.iload_n 3, 1) := by decide +kernel
theorem dX4_fitting_90 : decode cX4_fitting 90 = .ok (.ireturn, 1) := by decide +kernel
set_option maxRecDepth 20000 in
theorem ggX4_fitting_X4_isIn : GoodIn wsX4_fitting wsX4_isIn := goodIn_r _ [4] (by decide +kernel) (by decide +kernel)
set_option maxRecDepth 20000 in
theorem gX4_fitting_X4_isIn : GoodIn wsX4_fitting (va_wsS RX4 62 yX4_isIn wsX4_isIn) := goodIn_app (goodIn_of _ (by decide +kernel)) ggX4_fitting_X4_isIn
set_option maxRecDepth 20000 in
theorem ggX4_fitting_X4_no : GoodIn wsX4_fitting wsX4_no := goodIn_r _ [8, 9, 22, 23, 24, 25, 26, 27, 28, 29, 30, 31, 32, 33, 34, 35, 36, 37, 38, 39, 40, 41, 42, 43, 44, 45, 46, 47, 48, 49] (by decide +kernel) (by decide +kernel)
set_option maxRecDepth 20000 in
theorem gX4_fitting_X4_no : GoodIn wsX4_fitting (wsV RX4 73 RX4 yX4_no wsX4_no) := goodIn_app (goodIn_of _ (by decide +kernel)) ggX4_fitting_X4_no
set_option maxRecDepth 20000 in
theorem ggX4_fitting_X4_isSeen : GoodIn wsX4_fitting wsX4_isSeen := goodIn_r _ [13, 14, 15, 16, 17, 3, 18, 19, 20, 21, 22, 23, 24, 25, 26, 27, 28, 29, 30, 31, 32, 33, 34, 35, 36, 37, 38, 39, 40, 41, 42, 43, 44, 45, 46, 47, 48, 49] (by decide +kernel) (by decide +kernel)
set_option maxRecDepth 20000 in
theorem gX4_fitting_X4_isSeen : GoodIn wsX4_fitting (wsV RX4 215 RX4 yX4_isSeen wsX4_isSeen) := goodIn_app (goodIn_of _ (by decide +kernel)) ggX4_fitting_X4_isSeen
set_option maxHeartbeats 4000000 in
set_option maxRecDepth 100000 in
theorem mX4_fitting (l : Launch) (dC : Nat → ClassId) (dI : Nat → Nat → Nat) (cI cC : ClassId) (sk : (Nat → Nat) × (Nat → Nat)) (f : Nat → Nat) (sz : Nat) (p1 : Int32) (c_r : RT) (c_refused : AR) (c_tape : AR) (c_letter : AR) (c_letterAt : AR) (c_number : AR) (c_taped : Int32) (c_at : Int32) (c_statements : Int32) (c_kept : AR) (c_hasImage : Int32) (c_isKeeping : Int32) (c_cursor : Int32) (c_poled : Int32) (c_barred : Int32) (c_leapsTo : AR) (c_leapsThen : AR) (c_lands : AR) (c_row : AR) (c_rowMany : Int32) (c_endsAt : Int32) (z : Int32 × AR) (h : fX4_fitting p1 c_refused c_row c_rowMany = some z) : cRW l yX4_fitting wsX4_fitting (RMk 2 44) sk (dC, dI) (tyz cI cC) sz (zwM cI cC f c_r c_refused c_tape c_letter c_letterAt c_number c_taped c_at c_statements c_kept c_hasImage c_isKeeping c_cursor c_poled c_barred c_leapsTo c_leapsThen c_lands c_row c_rowMany c_endsAt) (zwM cI cC f c_r z.2 c_tape c_letter c_letterAt c_number c_taped c_at c_statements c_kept c_hasImage c_isKeeping c_cursor c_poled c_barred c_leapsTo c_leapsThen c_lands c_row c_rowMany c_endsAt) [.ref (f 0), .int p1] z.1 := by
  refine ofRW (cc := cX4_fitting) (maxL := 5) (ret := (some .int)) (own := RX4) (plainFor_of_name (by decide)) rfl rfl (Nat.le_of_ble_eq_true rfl) ?_
  intro p e s m args below meth c A hA hx hb hml hr hts hown hlocks hE hK hP hD hS ls hl
  generalize hQ : qRW _ _ _ _ _ _ _ = Q
  have hl : lv_has ls 5 [(0, .ref (f 0)), (1, .int p1)] := hl
  rw [fX4_fitting] at h
  refine lv_iload_n hx hb dX4_fitting_0 rfl (lv_at hl 1 rfl) ?_
  refine lv_iconst (v := (0 : Int32)) hx hb dX4_fitting_1 (by decide) ?_
  refine lv_iconst (v := (1 : Int32)) hx hb dX4_fitting_2 (by decide) ?_
  obtain ⟨q3, e3, h⟩ := bd_some h
  refine g_roS (wc := ([] : va_W)) ⟨hx, hb, hml, hown, hts⟩ hE hK hP hS [] rfl (mX4_isIn l dC dI cI cC sk  p1 (0 : Int32) (1 : Int32) q3 e3) (va_cwS 3 hts gX4_fitting_X4_isIn rfl rfl rfl (by decide +kernel) ⟨Nat.le_of_ble_eq_true rfl, Nat.le_of_ble_eq_true rfl⟩) (As := [.int p1, .int (0 : Int32), .int (1 : Int32)]) (rest := []) rfl hl.1 rfl (Nat.le_of_ble_eq_true rfl) dX4_fitting_3 ⟨Nat.zero_le _, Nat.zero_le _⟩ (fun H locs hP hS => ?_)
  refine lv_if_ne (tgt := 16) hx hb dX4_fitting_6 (by decide) (fun c6 => ?_) (fun c6 => ?_)
  · have h := itF c6 h
    refine lv_iconst (v := (0 : Int32)) hx hb dX4_fitting_16 (by decide) ?_
    refine lv_istore_n (lv' := [(2, .int (0 : Int32)), (0, .ref (f 0)), (1, .int p1)]) hx hb dX4_fitting_17 rfl hl (by decide) rfl (fun ls hl => ?_)
    refine lv_bipush (v := (-9 : Int32)) hx hb dX4_fitting_18 (by decide) ?_
    refine lv_istore_n (lv' := [(3, .int (-9 : Int32)), (2, .int (0 : Int32)), (0, .ref (f 0)), (1, .int p1)]) hx hb dX4_fitting_20 rfl hl (by decide) rfl (fun ls hl => ?_)
    refine lv_iconst (v := (0 : Int32)) hx hb dX4_fitting_21 (by decide) ?_
    refine lv_istore (lv' := [(4, .int (0 : Int32)), (3, .int (-9 : Int32)), (2, .int (0 : Int32)), (0, .ref (f 0)), (1, .int p1)]) hx hb dX4_fitting_22 hl (by decide) rfl (fun ls hl => ?_)
    have L24 : ∀ (K24 : Int32 → Int32 → Option (Int32 × AR)), (∀ (k24_2 : Int32) (k24_3 : Int32), K24 k24_2 k24_3 = some z → ∀ (H : Heap) (locs : List Loc) (ls : Array Slot), va_P (dC, dI) vwCl (zwM cI cC f c_r c_refused c_tape c_letter c_letterAt c_number c_taped c_at c_statements c_kept c_hasImage c_isKeeping c_cursor c_poled c_barred c_leapsTo c_leapsThen c_lands c_row c_rowMany c_endsAt) H → va_D A (zwM cI cC f c_r c_refused c_tape c_letter c_letterAt c_number c_taped c_at c_statements c_kept c_hasImage c_isKeeping c_cursor c_poled c_barred c_leapsTo c_leapsThen c_lands c_row c_rowMany c_endsAt) → va_S A s.heap H locs → lv_has ls 5 [(1, .int p1), (2, .int k24_2), (3, .int k24_3)] → W p l e (RMk 2 44) s m args below meth c H locs 0 0 Q (F0 m 81 ls [])) → ∀ (n : Nat) (x24_2 : Int32) (x24_3 : Int32) (x24_4 : Int32), fX4_fitting_L24 c_row c_rowMany K24 n x24_2 x24_3 x24_4 = some z → ∀ (H : Heap) (locs : List Loc) (ls : Array Slot), va_P (dC, dI) vwCl (zwM cI cC f c_r c_refused c_tape c_letter c_letterAt c_number c_taped c_at c_statements c_kept c_hasImage c_isKeeping c_cursor c_poled c_barred c_leapsTo c_leapsThen c_lands c_row c_rowMany c_endsAt) H → va_D A (zwM cI cC f c_r c_refused c_tape c_letter c_letterAt c_number c_taped c_at c_statements c_kept c_hasImage c_isKeeping c_cursor c_poled c_barred c_leapsTo c_leapsThen c_lands c_row c_rowMany c_endsAt) → va_S A s.heap H locs → lv_has ls 5 [(0, .ref (f 0)), (1, .int p1), (2, .int x24_2), (3, .int x24_3), (4, .int x24_4)] → W p l e (RMk 2 44) s m args below meth c H locs 0 0 Q (F0 m 24 ls []) := by
      intro K24 kx24 n
      induction n with
      | zero => intro x24_2 x24_3 x24_4 h; rw [fX4_fitting_L24] at h; cases h
      | succ n ih24 =>
        intro x24_2 x24_3 x24_4 h H locs ls hP hD hS hl
        rw [fX4_fitting_L24] at h
        refine lv_iload hx hb dX4_fitting_24 (lv_at hl 4 rfl) ?_
        refine lv_bipush (v := (15 : Int32)) hx hb dX4_fitting_26 (by decide) ?_
        refine lv_icmp_ge (tgt := 81) hx hb dX4_fitting_28 (by decide) (fun c28 => ?_) (fun c28 => ?_)
        · have h := itT c28 h
          exact kx24 _ _ h _ _ _ hP hD hS (lv_sub hl [1, 2, 3] rfl)
        have h := itF c28 h
        refine lv_aload_n hx hb dX4_fitting_31 rfl (lv_at hl 0 rfl) ?_
        refine lv_iload hx hb dX4_fitting_32 (lv_at hl 4 rfl) ?_
        refine lv_iconst (v := (5 : Int32)) hx hb dX4_fitting_34 (by decide) ?_
        refine lv_idiv hx hb dX4_fitting_35 (by decide) ?_
        refine lv_iload hx hb dX4_fitting_36 (lv_at hl 4 rfl) ?_
        refine lv_iconst (v := (5 : Int32)) hx hb dX4_fitting_38 (by decide) ?_
        refine lv_irem hx hb dX4_fitting_39 (by decide) ?_
        refine lv_iconst (v := (2 : Int32)) hx hb dX4_fitting_40 (by decide) ?_
        refine lv_isub hx hb dX4_fitting_41 ?_
        obtain ⟨q42, e42, h⟩ := bd_some h
        refine g_roV (wc := (zwM cI cC f c_r c_refused c_tape c_letter c_letterAt c_number c_taped c_at c_statements c_kept c_hasImage c_isKeeping c_cursor c_poled c_barred c_leapsTo c_leapsThen c_lands c_row c_rowMany c_endsAt)) ⟨hx, hb, hml, hown, hts⟩ hE hK hP hS [0, 1, 2, 3, 4, 5, 6, 7, 8, 9, 10, 11, 12, 13, 14, 15] rfl (mX4_isSeen l dC dI cI cC sk f (x24_4 / (5 : Int32)) ((x24_4 - x24_4 / (5 : Int32) * (5 : Int32)) - (2 : Int32)) c_r c_refused c_tape c_letter c_letterAt c_number c_taped c_at c_statements c_kept c_hasImage c_isKeeping c_cursor c_poled c_barred c_leapsTo c_leapsThen c_lands c_row c_rowMany c_endsAt q42 e42) (cwV 2 hts gX4_fitting_X4_isSeen rfl rfl rfl (by decide +kernel) ⟨Nat.le_of_ble_eq_true rfl, Nat.le_of_ble_eq_true rfl⟩) (va_recv hK hP (ci := 4) (q0 := 0) rfl rfl) (As := [.int (x24_4 / (5 : Int32)), .int ((x24_4 - x24_4 / (5 : Int32) * (5 : Int32)) - (2 : Int32))]) (rest := []) rfl hl.1 rfl (Nat.le_of_ble_eq_true rfl) dX4_fitting_42 ⟨Nat.zero_le _, Nat.zero_le _⟩ (fun H locs hP hS => ?_)
        refine lv_if_ne (tgt := 51) hx hb dX4_fitting_45 (by decide) (fun c45 => ?_) (fun c45 => ?_)
        · have h := itF c45 h
          refine lv_iload_n hx hb dX4_fitting_51 rfl (lv_at hl 2 rfl) ?_
          refine lv_if_ne (tgt := 70) hx hb dX4_fitting_52 (by decide) (fun c52 => ?_) (fun c52 => ?_)
          · have h := itF c52 h
            refine lv_iload_n hx hb dX4_fitting_70 rfl (lv_at hl 3 rfl) ?_
            refine lv_istore_n (lv' := [(3, .int x24_3), (0, .ref (f 0)), (1, .int p1), (2, .int x24_2), (4, .int x24_4)]) hx hb dX4_fitting_71 rfl hl (by decide) rfl (fun ls hl => ?_)
            refine lv_iinc (v := (x24_2 + (1 : Int32))) (lv' := [(2, .int (x24_2 + (1 : Int32))), (3, .int x24_3), (0, .ref (f 0)), (1, .int p1), (4, .int x24_4)]) hx hb dX4_fitting_72 hl (k := 3) rfl rfl (by decide) rfl (fun ls hl => ?_)
            refine lv_iinc (v := (x24_4 + (1 : Int32))) (lv' := [(4, .int (x24_4 + (1 : Int32))), (2, .int (x24_2 + (1 : Int32))), (3, .int x24_3), (0, .ref (f 0)), (1, .int p1)]) hx hb dX4_fitting_75 hl (k := 4) rfl rfl (by decide) rfl (fun ls hl => ?_)
            refine lv_goto (tgt := 24) hx hb dX4_fitting_78 (by decide) ?_
            exact ih24 _ _ _ h _ _ _ hP hD hS (lv_sub hl [3, 4, 1, 2, 0] rfl)
          have h := itT c52 h
          refine lv_bipush (v := (10 : Int32)) hx hb dX4_fitting_55 (by decide) ?_
          refine lv_iload hx hb dX4_fitting_57 (lv_at hl 4 rfl) ?_
          refine lv_iconst (v := (5 : Int32)) hx hb dX4_fitting_59 (by decide) ?_
          refine lv_idiv hx hb dX4_fitting_60 (by decide) ?_
          refine lv_imul hx hb dX4_fitting_61 ?_
          refine lv_iload hx hb dX4_fitting_62 (lv_at hl 4 rfl) ?_
          refine lv_iconst (v := (5 : Int32)) hx hb dX4_fitting_64 (by decide) ?_
          refine lv_irem hx hb dX4_fitting_65 (by decide) ?_
          refine lv_iadd hx hb dX4_fitting_66 ?_
          refine lv_goto (tgt := 71) hx hb dX4_fitting_67 (by decide) ?_
          refine lv_istore_n (lv' := [(3, .int (((10 : Int32) * (x24_4 / (5 : Int32))) + (x24_4 - x24_4 / (5 : Int32) * (5 : Int32)))), (0, .ref (f 0)), (1, .int p1), (2, .int x24_2), (4, .int x24_4)]) hx hb dX4_fitting_71 rfl hl (by decide) rfl (fun ls hl => ?_)
          refine lv_iinc (v := (x24_2 + (1 : Int32))) (lv' := [(2, .int (x24_2 + (1 : Int32))), (3, .int (((10 : Int32) * (x24_4 / (5 : Int32))) + (x24_4 - x24_4 / (5 : Int32) * (5 : Int32)))), (0, .ref (f 0)), (1, .int p1), (4, .int x24_4)]) hx hb dX4_fitting_72 hl (k := 3) rfl rfl (by decide) rfl (fun ls hl => ?_)
          refine lv_iinc (v := (x24_4 + (1 : Int32))) (lv' := [(4, .int (x24_4 + (1 : Int32))), (2, .int (x24_2 + (1 : Int32))), (3, .int (((10 : Int32) * (x24_4 / (5 : Int32))) + (x24_4 - x24_4 / (5 : Int32) * (5 : Int32)))), (0, .ref (f 0)), (1, .int p1)]) hx hb dX4_fitting_75 hl (k := 4) rfl rfl (by decide) rfl (fun ls hl => ?_)
          refine lv_goto (tgt := 24) hx hb dX4_fitting_78 (by decide) ?_
          exact ih24 _ _ _ h _ _ _ hP hD hS (lv_sub hl [3, 4, 1, 2, 0] rfl)
        have h := itT c45 h
        refine lv_goto (tgt := 75) hx hb dX4_fitting_48 (by decide) ?_
        refine lv_iinc (v := (x24_4 + (1 : Int32))) (lv' := [(4, .int (x24_4 + (1 : Int32))), (0, .ref (f 0)), (1, .int p1), (2, .int x24_2), (3, .int x24_3)]) hx hb dX4_fitting_75 hl (k := 4) rfl rfl (by decide) rfl (fun ls hl => ?_)
        refine lv_goto (tgt := 24) hx hb dX4_fitting_78 (by decide) ?_
        exact ih24 _ _ _ h _ _ _ hP hD hS (lv_sub hl [1, 2, 3, 4, 0] rfl)
    refine L24 _ (fun k24_2 k24_3 h H locs ls hP hD hS hl => ?_) _ _ _ _ h _ _ _ hP hD hS (lv_sub hl [3, 4, 2, 1, 0] rfl)
    refine lv_iload_n hx hb dX4_fitting_81 rfl (lv_at hl 0 rfl) ?_
    refine lv_if_ne (tgt := 89) hx hb dX4_fitting_82 (by decide) (fun c82 => ?_) (fun c82 => ?_)
    · have h := itF c82 h
      refine lv_iload_n hx hb dX4_fitting_89 rfl (lv_at hl 2 rfl) ?_
      subst hQ
      exact retRW (zz := ((k24_3, c_refused) : Int32 × AR)) (fun z => z.1) (fun z => (zwM cI cC f c_r z.2 c_tape c_letter c_letterAt c_number c_taped c_at c_statements c_kept c_hasImage c_isKeeping c_cursor c_poled c_barred c_leapsTo c_leapsThen c_lands c_row c_rowMany c_endsAt)) hx hb hr hlocks rfl hS h rfl hP dX4_fitting_90
    have h := itT c82 h
    refine lv_iload_n hx hb dX4_fitting_85 rfl (lv_at hl 1 rfl) ?_
    refine lv_goto (tgt := 90) hx hb dX4_fitting_86 (by decide) ?_
    subst hQ
    exact retRW (zz := ((k24_2, c_refused) : Int32 × AR)) (fun z => z.1) (fun z => (zwM cI cC f c_r z.2 c_tape c_letter c_letterAt c_number c_taped c_at c_statements c_kept c_hasImage c_isKeeping c_cursor c_poled c_barred c_leapsTo c_leapsThen c_lands c_row c_rowMany c_endsAt)) hx hb hr hlocks rfl hS h rfl hP dX4_fitting_90
  have h := itT c6 h
  refine lv_aload_n hx hb dX4_fitting_9 rfl (lv_at hl 0 rfl) ?_
  refine lv_bipush (v := (-2 : Int32)) hx hb dX4_fitting_10 (by decide) ?_
  obtain ⟨q12, e12, h⟩ := bd_some h
  refine g_rwV (wc := (zwM cI cC f c_r c_refused c_tape c_letter c_letterAt c_number c_taped c_at c_statements c_kept c_hasImage c_isKeeping c_cursor c_poled c_barred c_leapsTo c_leapsThen c_lands c_row c_rowMany c_endsAt)) (wc' := (zwM cI cC f c_r q12.2 c_tape c_letter c_letterAt c_number c_taped c_at c_statements c_kept c_hasImage c_isKeeping c_cursor c_poled c_barred c_leapsTo c_leapsThen c_lands c_row c_rowMany c_endsAt)) ⟨hx, hb, hml, hown, hts⟩ hE hK hA hP hD hS [0, 1, 2, 3, 4, 5, 6, 7, 8, 9, 10, 11, 12, 13, 14, 15] rfl rfl rfl (mX4_no l dC dI cI cC sk f H.size (-2 : Int32) c_r c_refused c_tape c_letter c_letterAt c_number c_taped c_at c_statements c_kept c_hasImage c_isKeeping c_cursor c_poled c_barred c_leapsTo c_leapsThen c_lands c_row c_rowMany c_endsAt q12 e12) (cwV 1 hts gX4_fitting_X4_no rfl rfl rfl (by decide +kernel) ⟨Nat.le_of_ble_eq_true rfl, Nat.le_of_ble_eq_true rfl⟩) (va_recv hK hP (ci := 4) (q0 := 0) rfl rfl) (As := [.int (-2 : Int32)]) (rest := []) rfl hl.1 rfl (Nat.le_of_ble_eq_true rfl) dX4_fitting_12 ⟨Nat.zero_le _, Nat.zero_le _⟩ (fun H locs hP hD hS => ?_)
  have hP : va_P (dC, dI) vwCl (zwM cI cC f c_r q12.2 c_tape c_letter c_letterAt c_number c_taped c_at c_statements c_kept c_hasImage c_isKeeping c_cursor c_poled c_barred c_leapsTo c_leapsThen c_lands c_row c_rowMany c_endsAt) H := hP
  have hD : va_D A (zwM cI cC f c_r q12.2 c_tape c_letter c_letterAt c_number c_taped c_at c_statements c_kept c_hasImage c_isKeeping c_cursor c_poled c_barred c_leapsTo c_leapsThen c_lands c_row c_rowMany c_endsAt) := hD
  subst hQ
  exact retRW (zz := ((q12.1, q12.2) : Int32 × AR)) (fun z => z.1) (fun z => (zwM cI cC f c_r z.2 c_tape c_letter c_letterAt c_number c_taped c_at c_statements c_kept c_hasImage c_isKeeping c_cursor c_poled c_barred c_leapsTo c_leapsThen c_lands c_row c_rowMany c_endsAt)) hx hb hr hlocks rfl hS h rfl hP dX4_fitting_15
theorem dX4_leadsTo_0 : decode cX4_leadsTo 0 = .ok (.iload_n 2, 1) := by decide +kernel
theorem dX4_leadsTo_1 : decode cX4_leadsTo 1 = .ok (.bipush 18, 2) := by decide +kernel
theorem dX4_leadsTo_3 : decode cX4_leadsTo 3 = .ok (.if_icmp .ne 6, 3) := by decide +kernel
theorem dX4_leadsTo_6 : decode cX4_leadsTo 6 = .ok (.bipush (-9), 2) := by decide +kernel
theorem dX4_leadsTo_8 : decode cX4_leadsTo 8 = .ok (.ireturn, 1) := by decide +kernel
theorem dX4_leadsTo_9 : decode cX4_leadsTo 9 = .ok (.iload_n 1, 1) := by decide +kernel
theorem dX4_leadsTo_10 : decode cX4_leadsTo 10 = .ok (.bipush 9, 2) := by decide +kernel
theorem dX4_leadsTo_12 : decode cX4_leadsTo 12 = .ok (.if_icmp .ne 22, 3) := by decide +kernel
theorem dX4_leadsTo_15 : decode cX4_leadsTo 15 = .ok (.aload_n 0, 1) := by decide +kernel
theorem dX4_leadsTo_16 : decode cX4_leadsTo 16 = .ok (.iload_n 2, 1) := by decide +kernel
theorem dX4_leadsTo_17 : decode cX4_leadsTo 17 = .ok (.iload_n 2, 1) := by decide +kernel
theorem dX4_leadsTo_18 : decode cX4_leadsTo 18 = .ok (.iload_n 3, 1) := by decide +kernel
theorem dX4_leadsTo_19 : decode cX4_leadsTo 19 = .ok (.iload 4, 2) := by decide +kernel
theorem dX4_leadsTo_21 : decode cX4_leadsTo 21 = .ok (.invokevirtual 163, 3) := by decide +kernel
theorem dX4_leadsTo_24 : decode cX4_leadsTo 24 = .ok (.ifCond .eq 7, 3) := by decide +kernel
theorem dX4_leadsTo_27 : decode cX4_leadsTo 27 = .ok (.iload_n 2, 1) := by decide +kernel
theorem dX4_leadsTo_28 : decode cX4_leadsTo 28 = .ok (.goto 5, 3) := by decide +kernel
theorem dX4_leadsTo_31 : decode cX4_leadsTo 31 = .ok (.bipush (-9), 2) := by decide +kernel
theorem dX4_leadsTo_33 : decode cX4_leadsTo 33 = .ok (.ireturn, 1) := by decide +kernel
theorem dX4_leadsTo_34 : decode cX4_leadsTo 34 = .ok (.iload_n 1, 1) := by decide +kernel
theorem dX4_leadsTo_35 : decode cX4_leadsTo 35 = .ok (.bipush 10, 2) := by decide +kernel
theorem dX4_leadsTo_37 : decode cX4_leadsTo 37 = .ok (.if_icmp .eq 9, 3) := by decide +kernel
theorem dX4_leadsTo_40 : decode cX4_leadsTo 40 = .ok (.iload_n 1, 1) := by decide +kernel
theorem dX4_leadsTo_41 : decode cX4_leadsTo 41 = .ok (.bipush 11, 2) := by decide +kernel
theorem dX4_leadsTo_43 : decode cX4_leadsTo 43 = .ok (.if_icmp .ne 31, 3) := by decide +kernel
theorem dX4_leadsTo_46 : decode cX4_leadsTo 46 = .ok (.iload_n 2, 1) := by decide +kernel
theorem dX4_leadsTo_47 : decode cX4_leadsTo 47 = .ok (.bipush 10, 2) := by decide +kernel
theorem dX4_leadsTo_49 : decode cX4_leadsTo 49 = .ok (.if_icmp .ge 22, 3) := by decide +kernel
theorem dX4_leadsTo_52 : decode cX4_leadsTo 52 = .ok (.iload_n 2, 1) := by decide +kernel
theorem dX4_leadsTo_53 : decode cX4_leadsTo 53 = .ok (.iload_n 1, 1) := by decide +kernel
theorem dX4_leadsTo_54 : decode cX4_leadsTo 54 = .ok (.bipush 10, 2) := by decide +kernel
theorem dX4_leadsTo_56 : decode cX4_leadsTo 56 = .ok (.if_icmp .ne 7, 3) := by decide +kernel
theorem dX4_leadsTo_59 : decode cX4_leadsTo 59 = .ok (.iconst (-1), 1) := by decide +kernel
theorem dX4_leadsTo_60 : decode cX4_leadsTo 60 = .ok (.goto 4, 3) := by decide +kernel
theorem dX4_leadsTo_63 : decode cX4_leadsTo 63 = .ok (.iconst 1, 1) := by decide +kernel
theorem dX4_leadsTo_64 : decode cX4_leadsTo 64 = .ok (.iadd, 1) := by decide +kernel
theorem dX4_leadsTo_65 : decode cX4_leadsTo 65 = .ok (.invokestatic 138, 3) := by decide +kernel
theorem dX4_leadsTo_68 : decode cX4_leadsTo 68 = .ok (.goto 5, 3) := by decide +kernel
theorem dX4_leadsTo_71 : decode cX4_leadsTo 71 = .ok (.bipush (-9), 2) := by decide +kernel
theorem dX4_leadsTo_73 : decode cX4_leadsTo 73 = .ok (.ireturn, 1) := by decide +kernel
theorem dX4_leadsTo_74 : decode cX4_leadsTo 74 = .ok (.iload_n 1, 1) := by decide +kernel
theorem dX4_leadsTo_75 : decode cX4_leadsTo 75 = .ok (.bipush 8, 2) := by decide +kernel
theorem dX4_leadsTo_77 : decode cX4_leadsTo 77 = .ok (.if_icmp .ne 8, 3) := by decide +kernel
theorem dX4_leadsTo_80 : decode cX4_leadsTo 80 = .ok (.bipush 18, 2) := by decide +kernel
theorem dX4_leadsTo_82 : decode cX4_leadsTo 82 = .ok (.goto 7, 3) := by decide +kernel
theorem dX4_leadsTo_85 : decode cX4_leadsTo 85 = .ok (.bipush 10, 2) := by decide +kernel
theorem dX4_leadsTo_87 : decode cX4_leadsTo 87 = .ok (.iload_n 1, 1) := by decide +kernel
theorem dX4_leadsTo_88 : decode cX4_leadsTo 88 = .ok (.iadd, 1) := by decide +kernel
theorem dX4_leadsTo_89 : decode cX4_leadsTo 89 = .ok (.istore 5, 2) := by decide +kernel
theorem dX4_leadsTo_91 : decode cX4_leadsTo 91 = .ok (.iload_n 1, 1) := by decide +kernel
theorem dX4_leadsTo_92 : decode cX4_leadsTo 92 = .ok (.bipush 12, 2) := by decide +kernel
theorem dX4_leadsTo_94 : decode cX4_leadsTo 94 = .ok (.if_icmp .ne 31, 3) := by decide +kernel
theorem dX4_leadsTo_97 : decode cX4_leadsTo 97 = .ok (.iload_n 2, 1) := by decide +kernel
theorem dX4_leadsTo_98 : decode cX4_leadsTo 98 = .ok (.bipush 10, 2) := by decide +kernel
theorem dX4_leadsTo_100 : decode cX4_leadsTo 100 = .ok (.bipush 17, 2) := by decide +kernel
theorem dX4_leadsTo_102 : decode cX4_leadsTo 102 = .ok (.invokestatic 62, 3) := by decide +kernel
theorem dX4_leadsTo_105 : decode cX4_leadsTo 105 = .ok (.ifCond .eq 16, 3) := by decide +kernel
theorem dX4_leadsTo_108 : decode cX4_leadsTo 108 = .ok (.aload_n 0, 1) := by decide +kernel
theorem dX4_leadsTo_109 : decode cX4_leadsTo 109 = .ok (.iload_n 2, 1) := by decide +kernel
theorem dX4_leadsTo_110 : decode cX4_leadsTo 110 = .ok (.bipush 10, 2) := by decide +kernel
theorem dX4_leadsTo_112 : decode cX4_leadsTo 112 = .ok (.isub, 1) := by decide +kernel
theorem dX4_leadsTo_113 : decode cX4_leadsTo 113 = .ok (.iload 4, 2) := by decide +kernel
theorem dX4_leadsTo_115 : decode cX4_leadsTo 115 = .ok (.invokevirtual 144, 3) := by decide +kernel
theorem dX4_leadsTo_118 : decode cX4_leadsTo 118 = .ok (.goto 5, 3) := by decide +kernel
theorem dX4_leadsTo_121 : decode cX4_leadsTo 121 = .ok (.bipush 18, 2) := by decide +kernel
theorem dX4_leadsTo_123 : decode cX4_leadsTo 123 = .ok (.istore 5, 2) := by decide +kernel
theorem dX4_leadsTo_125 : decode cX4_leadsTo 125 = .ok (.aload_n 0, 1) := by decide +kernel
theorem dX4_leadsTo_126 : decode cX4_leadsTo 126 = .ok (.iload_n 2, 1) := by decide +kernel
theorem dX4_leadsTo_127 : decode cX4_leadsTo 127 = .ok (.iload 5, 2) := by decide +kernel
theorem dX4_leadsTo_129 : decode cX4_leadsTo 129 = .ok (.iload_n 3, 1) := by decide +kernel
theorem dX4_leadsTo_130 : decode cX4_leadsTo 130 = .ok (.iload 4, 2) := by decide +kernel
theorem dX4_leadsTo_132 : decode cX4_leadsTo 132 = .ok (.invokevirtual 167, 3) := by decide +kernel
theorem dX4_leadsTo_135 : decode cX4_leadsTo 135 = .ok (.ifCond .eq 21, 3) := by decide +kernel
theorem dX4_leadsTo_138 : decode cX4_leadsTo 138 = .ok (.iload_n 1, 1) := by decide +kernel
theorem dX4_leadsTo_139 : decode cX4_leadsTo 139 = .ok (.bipush 12, 2) := by decide +kernel
theorem dX4_leadsTo_141 : decode cX4_leadsTo 141 = .ok (.if_icmp .ne 10, 3) := by decide +kernel
theorem dX4_leadsTo_144 : decode cX4_leadsTo 144 = .ok (.iload 5, 2) := by decide +kernel
theorem dX4_leadsTo_146 : decode cX4_leadsTo 146 = .ok (.bipush 10, 2) := by decide +kernel
theorem dX4_leadsTo_148 : decode cX4_leadsTo 148 = .ok (.if_icmp .ge 8, 3) := by decide +kernel
theorem dX4_leadsTo_151 : decode cX4_leadsTo 151 = .ok (.iload 5, 2) := by decide +kernel
theorem dX4_leadsTo_153 : decode cX4_leadsTo 153 = .ok (.goto 5, 3) := by decide +kernel
theorem dX4_leadsTo_156 : decode cX4_leadsTo 156 = .ok (.bipush (-9), 2) := by decide +kernel
theorem dX4_leadsTo_158 : decode cX4_leadsTo 158 = .ok (.ireturn, 1) := by decide +kernel
set_option maxRecDepth 20000 in
theorem ggX4_leadsTo_X4_mayStay : GoodIn wsX4_leadsTo wsX4_mayStay := goodIn_r _ [5, 6, 7, 8, 4, 9, 10, 11, 12, 13, 14, 15, 16, 17, 18, 19, 20, 21, 22, 48, 49, 50, 51, 52, 53, 54, 55, 56, 57, 58, 59, 60, 61, 62, 63, 64, 65, 66, 67, 68, 69, 70, 71, 72, 73, 74, 75] (by decide +kernel) (by decide +kernel)
set_option maxRecDepth 20000 in
theorem gX4_leadsTo_X4_mayStay : GoodIn wsX4_leadsTo (wsV RX4 163 RX4 yX4_mayStay wsX4_mayStay) := goodIn_app (goodIn_of _ (by decide +kernel)) ggX4_leadsTo_X4_mayStay
set_option maxRecDepth 20000 in
theorem ggX4_leadsTo_X4_round : GoodIn wsX4_leadsTo wsX4_round := goodIn_r _ [22] (by decide +kernel) (by decide +kernel)
set_option maxRecDepth 20000 in
theorem gX4_leadsTo_X4_round : GoodIn wsX4_leadsTo (va_wsS RX4 138 yX4_round wsX4_round) := goodIn_app (goodIn_of _ (by decide +kernel)) ggX4_leadsTo_X4_round
set_option maxRecDepth 20000 in
theorem ggX4_leadsTo_X4_isIn : GoodIn wsX4_leadsTo wsX4_isIn := goodIn_r _ [25] (by decide +kernel) (by decide +kernel)
set_option maxRecDepth 20000 in
theorem gX4_leadsTo_X4_isIn : GoodIn wsX4_leadsTo (va_wsS RX4 62 yX4_isIn wsX4_isIn) := goodIn_app (goodIn_of _ (by decide +kernel)) ggX4_leadsTo_X4_isIn
set_option maxRecDepth 20000 in
theorem ggX4_leadsTo_X4_whereIs : GoodIn wsX4_leadsTo wsX4_whereIs := goodIn_r _ [29, 30, 31, 16, 32, 33, 34, 35, 4, 36, 20, 21, 22, 48, 49, 50, 51, 52, 53, 54, 55, 56, 57, 58, 59, 60, 61, 62, 63, 64, 65, 66, 67, 68, 69, 70, 71, 72, 73, 74, 75] (by decide +kernel) (by decide +kernel)
set_option maxRecDepth 20000 in
theorem gX4_leadsTo_X4_whereIs : GoodIn wsX4_leadsTo (wsV RX4 144 RX4 yX4_whereIs wsX4_whereIs) := goodIn_app (goodIn_of _ (by decide +kernel)) ggX4_leadsTo_X4_whereIs
set_option maxRecDepth 20000 in
theorem ggX4_leadsTo_X4_mayLeap : GoodIn wsX4_leadsTo wsX4_mayLeap := goodIn_r _ [40, 41, 42, 43, 23, 24, 4, 25, 6, 7, 8, 9, 10, 11, 12, 13, 14, 15, 16, 26, 27, 28, 29, 30, 31, 32, 33, 34, 35, 36, 20, 21, 22, 17, 18, 19, 44, 45, 46, 47, 48, 49, 50, 51, 52, 53, 54, 55, 56, 57, 58, 59, 60, 61, 62, 63, 64, 65, 66, 67, 68, 69, 70, 71, 72, 73, 74, 75] (by decide +kernel) (by decide +kernel)
set_option maxRecDepth 20000 in
theorem gX4_leadsTo_X4_mayLeap : GoodIn wsX4_leadsTo (wsV RX4 167 RX4 yX4_mayLeap wsX4_mayLeap) := goodIn_app (goodIn_of _ (by decide +kernel)) ggX4_leadsTo_X4_mayLeap
set_option maxHeartbeats 4000000 in
set_option maxRecDepth 100000 in
theorem mX4_leadsTo (l : Launch) (dC : Nat → ClassId) (dI : Nat → Nat → Nat) (cI cC : ClassId) (sk : (Nat → Nat) × (Nat → Nat)) (f : Nat → Nat) (p1 : Int32) (p2 : Int32) (p3 : Int32) (p4 : Int32) (c_r : RT) (c_refused : AR) (c_tape : AR) (c_letter : AR) (c_letterAt : AR) (c_number : AR) (c_taped : Int32) (c_at : Int32) (c_statements : Int32) (c_kept : AR) (c_hasImage : Int32) (c_isKeeping : Int32) (c_cursor : Int32) (c_poled : Int32) (c_barred : Int32) (c_leapsTo : AR) (c_leapsThen : AR) (c_lands : AR) (c_row : AR) (c_rowMany : Int32) (c_endsAt : Int32) (z : Int32) (h : fX4_leadsTo p1 p2 p3 p4 c_r c_poled c_barred = some z) : cRO l yX4_leadsTo wsX4_leadsTo (RMk 4 92) sk (dC, dI) (tyz cI cC) (zwM cI cC f c_r c_refused c_tape c_letter c_letterAt c_number c_taped c_at c_statements c_kept c_hasImage c_isKeeping c_cursor c_poled c_barred c_leapsTo c_leapsThen c_lands c_row c_rowMany c_endsAt) [.ref (f 0), .int p1, .int p2, .int p3, .int p4] z := by
  refine ofRO (cc := cX4_leadsTo) (maxL := 6) (ret := (some .int)) (own := RX4) (plainFor_of_name (by decide)) rfl rfl (Nat.le_of_ble_eq_true rfl) ?_
  intro p e s m args below meth c hx hb hml hr hts hown hlocks hE hK hP hS ls hl
  generalize hQ : qRO _ _ _ _ = Q
  have hl : lv_has ls 6 [(0, .ref (f 0)), (1, .int p1), (2, .int p2), (3, .int p3), (4, .int p4)] := hl
  rw [fX4_leadsTo] at h
  refine lv_iload_n hx hb dX4_leadsTo_0 rfl (lv_at hl 2 rfl) ?_
  refine lv_bipush (v := (18 : Int32)) hx hb dX4_leadsTo_1 (by decide) ?_
  refine lv_icmp_ne (tgt := 9) hx hb dX4_leadsTo_3 (by decide) (fun c3 => ?_) (fun c3 => ?_)
  · have h := itF c3 h
    refine lv_iload_n hx hb dX4_leadsTo_9 rfl (lv_at hl 1 rfl) ?_
    refine lv_bipush (v := (9 : Int32)) hx hb dX4_leadsTo_10 (by decide) ?_
    refine lv_icmp_ne (tgt := 34) hx hb dX4_leadsTo_12 (by decide) (fun c12 => ?_) (fun c12 => ?_)
    · have h := itF c12 h
      refine lv_iload_n hx hb dX4_leadsTo_34 rfl (lv_at hl 1 rfl) ?_
      refine lv_bipush (v := (10 : Int32)) hx hb dX4_leadsTo_35 (by decide) ?_
      refine jnW (fun (v46 : Unit) => ∀ (H : Heap) (locs : List Loc) (ls : Array Slot), va_P (dC, dI) vwCl (zwM cI cC f c_r c_refused c_tape c_letter c_letterAt c_number c_taped c_at c_statements c_kept c_hasImage c_isKeeping c_cursor c_poled c_barred c_leapsTo c_leapsThen c_lands c_row c_rowMany c_endsAt) H → va_S noA s.heap H locs → lv_has ls 6 [(1, .int p1), (2, .int p2)] → W p l e (RMk 4 92) s m args below meth c H locs 0 0 Q (F0 m 46 ls [])) h (fun v46 h H locs ls hP hS hl => ?_) (fun J46 j46 h => ?_)
      · refine lv_iload_n hx hb dX4_leadsTo_46 rfl (lv_at hl 1 rfl) ?_
        refine lv_bipush (v := (10 : Int32)) hx hb dX4_leadsTo_47 (by decide) ?_
        refine lv_icmp_ge (tgt := 71) hx hb dX4_leadsTo_49 (by decide) (fun c49 => ?_) (fun c49 => ?_)
        · have h := itT c49 h
          refine lv_bipush (v := (-9 : Int32)) hx hb dX4_leadsTo_71 (by decide) ?_
          subst hQ
          exact retRO hx hb hr hlocks rfl hS h dX4_leadsTo_73
        have h := itF c49 h
        refine lv_iload_n hx hb dX4_leadsTo_52 rfl (lv_at hl 1 rfl) ?_
        refine lv_iload_n hx hb dX4_leadsTo_53 rfl (lv_at hl 0 rfl) ?_
        refine lv_bipush (v := (10 : Int32)) hx hb dX4_leadsTo_54 (by decide) ?_
        refine jnW (fun (v64 : Int32) => ∀ (H : Heap) (locs : List Loc) (ls : Array Slot), va_P (dC, dI) vwCl (zwM cI cC f c_r c_refused c_tape c_letter c_letterAt c_number c_taped c_at c_statements c_kept c_hasImage c_isKeeping c_cursor c_poled c_barred c_leapsTo c_leapsThen c_lands c_row c_rowMany c_endsAt) H → va_S noA s.heap H locs → lv_has ls 6 [] → W p l e (RMk 4 92) s m args below meth c H locs 0 0 Q (F0 m 64 ls [.int v64, .int p2])) h (fun v64 h H locs ls hP hS hl => ?_) (fun J64 j64 h => ?_)
        · refine lv_iadd hx hb dX4_leadsTo_64 ?_
          obtain ⟨q65, e65, h⟩ := bd_some h
          refine g_roS (wc := ([] : va_W)) ⟨hx, hb, hml, hown, hts⟩ hE hK hP hS [] rfl (mX4_round l dC dI cI cC sk  (p2 + v64) q65 e65) (va_cwS 1 hts gX4_leadsTo_X4_round rfl rfl rfl (by decide +kernel) ⟨Nat.le_of_ble_eq_true rfl, Nat.le_of_ble_eq_true rfl⟩) (As := [.int (p2 + v64)]) (rest := []) rfl hl.1 rfl (Nat.le_of_ble_eq_true rfl) dX4_leadsTo_65 ⟨Nat.zero_le _, Nat.zero_le _⟩ (fun H locs hP hS => ?_)
          refine lv_goto (tgt := 73) hx hb dX4_leadsTo_68 (by decide) ?_
          subst hQ
          exact retRO hx hb hr hlocks rfl hS h dX4_leadsTo_73
        refine lv_icmp_ne (tgt := 63) hx hb dX4_leadsTo_56 (by decide) (fun c56 => ?_) (fun c56 => ?_)
        · have h := itF c56 h
          refine lv_iconst (v := (1 : Int32)) hx hb dX4_leadsTo_63 (by decide) ?_
          exact j64 _ h _ _ _ hP hS (lv_sub hl [] rfl)
        have h := itT c56 h
        refine lv_iconst (v := (-1 : Int32)) hx hb dX4_leadsTo_59 (by decide) ?_
        refine lv_goto (tgt := 64) hx hb dX4_leadsTo_60 (by decide) ?_
        exact j64 _ h _ _ _ hP hS (lv_sub hl [] rfl)
      refine lv_icmp_eq (tgt := 46) hx hb dX4_leadsTo_37 (by decide) (fun c37 => ?_) (fun c37 => ?_)
      · have h := itT c37 h
        exact j46 _ h _ _ _ hP hS (lv_sub hl [1, 2] rfl)
      have h := itF c37 h
      refine lv_iload_n hx hb dX4_leadsTo_40 rfl (lv_at hl 1 rfl) ?_
      refine lv_bipush (v := (11 : Int32)) hx hb dX4_leadsTo_41 (by decide) ?_
      refine lv_icmp_ne (tgt := 74) hx hb dX4_leadsTo_43 (by decide) (fun c43 => ?_) (fun c43 => ?_)
      · have h := itF c43 h
        refine lv_iload_n hx hb dX4_leadsTo_74 rfl (lv_at hl 1 rfl) ?_
        refine lv_bipush (v := (8 : Int32)) hx hb dX4_leadsTo_75 (by decide) ?_
        refine jnW (fun (v89 : Int32) => ∀ (H : Heap) (locs : List Loc) (ls : Array Slot), va_P (dC, dI) vwCl (zwM cI cC f c_r c_refused c_tape c_letter c_letterAt c_number c_taped c_at c_statements c_kept c_hasImage c_isKeeping c_cursor c_poled c_barred c_leapsTo c_leapsThen c_lands c_row c_rowMany c_endsAt) H → va_S noA s.heap H locs → lv_has ls 6 [(0, .ref (f 0)), (1, .int p1), (2, .int p2), (3, .int p3), (4, .int p4)] → W p l e (RMk 4 92) s m args below meth c H locs 0 0 Q (F0 m 89 ls [.int v89])) h (fun v89 h H locs ls hP hS hl => ?_) (fun J89 j89 h => ?_)
        · refine lv_istore (lv' := [(5, .int v89), (0, .ref (f 0)), (1, .int p1), (2, .int p2), (3, .int p3), (4, .int p4)]) hx hb dX4_leadsTo_89 hl (by decide) rfl (fun ls hl => ?_)
          refine lv_iload_n hx hb dX4_leadsTo_91 rfl (lv_at hl 2 rfl) ?_
          refine lv_bipush (v := (12 : Int32)) hx hb dX4_leadsTo_92 (by decide) ?_
          refine jnW (fun (v125 : Int32) => ∀ (H : Heap) (locs : List Loc) (ls : Array Slot), va_P (dC, dI) vwCl (zwM cI cC f c_r c_refused c_tape c_letter c_letterAt c_number c_taped c_at c_statements c_kept c_hasImage c_isKeeping c_cursor c_poled c_barred c_leapsTo c_leapsThen c_lands c_row c_rowMany c_endsAt) H → va_S noA s.heap H locs → lv_has ls 6 [(0, .ref (f 0)), (1, .int p1), (2, .int p2), (3, .int p3), (4, .int p4), (5, .int v125)] → W p l e (RMk 4 92) s m args below meth c H locs 0 0 Q (F0 m 125 ls [])) h (fun v125 h H locs ls hP hS hl => ?_) (fun J125 j125 h => ?_)
          · refine lv_aload_n hx hb dX4_leadsTo_125 rfl (lv_at hl 0 rfl) ?_
            refine lv_iload_n hx hb dX4_leadsTo_126 rfl (lv_at hl 2 rfl) ?_
            refine lv_iload hx hb dX4_leadsTo_127 (lv_at hl 5 rfl) ?_
            refine lv_iload_n hx hb dX4_leadsTo_129 rfl (lv_at hl 3 rfl) ?_
            refine lv_iload hx hb dX4_leadsTo_130 (lv_at hl 4 rfl) ?_
            obtain ⟨q132, e132, h⟩ := bd_some h
            refine g_roV (wc := (zwM cI cC f c_r c_refused c_tape c_letter c_letterAt c_number c_taped c_at c_statements c_kept c_hasImage c_isKeeping c_cursor c_poled c_barred c_leapsTo c_leapsThen c_lands c_row c_rowMany c_endsAt)) ⟨hx, hb, hml, hown, hts⟩ hE hK hP hS [0, 1, 2, 3, 4, 5, 6, 7, 8, 9, 10, 11, 12, 13, 14, 15] rfl (mX4_mayLeap l dC dI cI cC sk f p2 v125 p3 p4 c_r c_refused c_tape c_letter c_letterAt c_number c_taped c_at c_statements c_kept c_hasImage c_isKeeping c_cursor c_poled c_barred c_leapsTo c_leapsThen c_lands c_row c_rowMany c_endsAt q132 e132) (cwV 4 hts gX4_leadsTo_X4_mayLeap rfl rfl rfl (by decide +kernel) ⟨Nat.le_of_ble_eq_true rfl, Nat.le_of_ble_eq_true rfl⟩) (va_recv hK hP (ci := 4) (q0 := 0) rfl rfl) (As := [.int p2, .int v125, .int p3, .int p4]) (rest := []) rfl hl.1 rfl (Nat.le_of_ble_eq_true rfl) dX4_leadsTo_132 ⟨Nat.zero_le _, Nat.zero_le _⟩ (fun H locs hP hS => ?_)
            refine lv_if_eq (tgt := 156) hx hb dX4_leadsTo_135 (by decide) (fun c135 => ?_) (fun c135 => ?_)
            · have h := itT c135 h
              refine lv_bipush (v := (-9 : Int32)) hx hb dX4_leadsTo_156 (by decide) ?_
              subst hQ
              exact retRO hx hb hr hlocks rfl hS h dX4_leadsTo_158
            have h := itF c135 h
            refine lv_iload_n hx hb dX4_leadsTo_138 rfl (lv_at hl 1 rfl) ?_
            refine lv_bipush (v := (12 : Int32)) hx hb dX4_leadsTo_139 (by decide) ?_
            refine lv_icmp_ne (tgt := 151) hx hb dX4_leadsTo_141 (by decide) (fun c141 => ?_) (fun c141 => ?_)
            · have h := itF c141 h
              refine lv_iload hx hb dX4_leadsTo_151 (lv_at hl 5 rfl) ?_
              refine lv_goto (tgt := 158) hx hb dX4_leadsTo_153 (by decide) ?_
              subst hQ
              exact retRO hx hb hr hlocks rfl hS h dX4_leadsTo_158
            have h := itT c141 h
            refine lv_iload hx hb dX4_leadsTo_144 (lv_at hl 5 rfl) ?_
            refine lv_bipush (v := (10 : Int32)) hx hb dX4_leadsTo_146 (by decide) ?_
            refine lv_icmp_ge (tgt := 156) hx hb dX4_leadsTo_148 (by decide) (fun c148 => ?_) (fun c148 => ?_)
            · have h := itT c148 h
              refine lv_bipush (v := (-9 : Int32)) hx hb dX4_leadsTo_156 (by decide) ?_
              subst hQ
              exact retRO hx hb hr hlocks rfl hS h dX4_leadsTo_158
            have h := itF c148 h
            refine lv_iload hx hb dX4_leadsTo_151 (lv_at hl 5 rfl) ?_
            refine lv_goto (tgt := 158) hx hb dX4_leadsTo_153 (by decide) ?_
            subst hQ
            exact retRO hx hb hr hlocks rfl hS h dX4_leadsTo_158
          refine lv_icmp_ne (tgt := 125) hx hb dX4_leadsTo_94 (by decide) (fun c94 => ?_) (fun c94 => ?_)
          · have h := itF c94 h
            exact j125 _ h _ _ _ hP hS (lv_sub hl [1, 2, 3, 4, 5, 0] rfl)
          have h := itT c94 h
          refine lv_iload_n hx hb dX4_leadsTo_97 rfl (lv_at hl 3 rfl) ?_
          refine lv_bipush (v := (10 : Int32)) hx hb dX4_leadsTo_98 (by decide) ?_
          refine lv_bipush (v := (17 : Int32)) hx hb dX4_leadsTo_100 (by decide) ?_
          obtain ⟨q102, e102, h⟩ := bd_some h
          refine g_roS (wc := ([] : va_W)) ⟨hx, hb, hml, hown, hts⟩ hE hK hP hS [] rfl (mX4_isIn l dC dI cI cC sk  p2 (10 : Int32) (17 : Int32) q102 e102) (va_cwS 3 hts gX4_leadsTo_X4_isIn rfl rfl rfl (by decide +kernel) ⟨Nat.le_of_ble_eq_true rfl, Nat.le_of_ble_eq_true rfl⟩) (As := [.int p2, .int (10 : Int32), .int (17 : Int32)]) (rest := []) rfl hl.1 rfl (Nat.le_of_ble_eq_true rfl) dX4_leadsTo_102 ⟨Nat.zero_le _, Nat.zero_le _⟩ (fun H locs hP hS => ?_)
          refine lv_if_eq (tgt := 121) hx hb dX4_leadsTo_105 (by decide) (fun c105 => ?_) (fun c105 => ?_)
          · have h := itT c105 h
            refine lv_bipush (v := (18 : Int32)) hx hb dX4_leadsTo_121 (by decide) ?_
            refine lv_istore (lv' := [(5, .int (18 : Int32)), (0, .ref (f 0)), (1, .int p1), (2, .int p2), (3, .int p3), (4, .int p4)]) hx hb dX4_leadsTo_123 hl (by decide) rfl (fun ls hl => ?_)
            exact j125 _ h _ _ _ hP hS (lv_sub hl [1, 2, 3, 4, 5, 0] rfl)
          have h := itF c105 h
          refine lv_aload_n hx hb dX4_leadsTo_108 rfl (lv_at hl 1 rfl) ?_
          refine lv_iload_n hx hb dX4_leadsTo_109 rfl (lv_at hl 3 rfl) ?_
          refine lv_bipush (v := (10 : Int32)) hx hb dX4_leadsTo_110 (by decide) ?_
          refine lv_isub hx hb dX4_leadsTo_112 ?_
          refine lv_iload hx hb dX4_leadsTo_113 (lv_at hl 5 rfl) ?_
          obtain ⟨q115, e115, h⟩ := bd_some h
          refine g_roV (wc := (zwM cI cC f c_r c_refused c_tape c_letter c_letterAt c_number c_taped c_at c_statements c_kept c_hasImage c_isKeeping c_cursor c_poled c_barred c_leapsTo c_leapsThen c_lands c_row c_rowMany c_endsAt)) ⟨hx, hb, hml, hown, hts⟩ hE hK hP hS [0, 1, 2, 3, 4, 5, 6, 7, 8, 9, 10, 11, 12, 13, 14, 15] rfl (mX4_whereIs l dC dI cI cC sk f (p2 - (10 : Int32)) p4 c_r c_refused c_tape c_letter c_letterAt c_number c_taped c_at c_statements c_kept c_hasImage c_isKeeping c_cursor c_poled c_barred c_leapsTo c_leapsThen c_lands c_row c_rowMany c_endsAt q115 e115) (cwV 2 hts gX4_leadsTo_X4_whereIs rfl rfl rfl (by decide +kernel) ⟨Nat.le_of_ble_eq_true rfl, Nat.le_of_ble_eq_true rfl⟩) (va_recv hK hP (ci := 4) (q0 := 0) rfl rfl) (As := [.int (p2 - (10 : Int32)), .int p4]) (rest := []) rfl hl.1 rfl (Nat.le_of_ble_eq_true rfl) dX4_leadsTo_115 ⟨Nat.zero_le _, Nat.zero_le _⟩ (fun H locs hP hS => ?_)
          refine lv_goto (tgt := 123) hx hb dX4_leadsTo_118 (by decide) ?_
          refine lv_istore (lv' := [(5, .int q115), (0, .ref (f 0)), (1, .int p1), (2, .int p2), (3, .int p3), (4, .int p4)]) hx hb dX4_leadsTo_123 hl (by decide) rfl (fun ls hl => ?_)
          exact j125 _ h _ _ _ hP hS (lv_sub hl [1, 2, 3, 4, 5, 0] rfl)
        refine lv_icmp_ne (tgt := 85) hx hb dX4_leadsTo_77 (by decide) (fun c77 => ?_) (fun c77 => ?_)
        · have h := itF c77 h
          refine lv_bipush (v := (10 : Int32)) hx hb dX4_leadsTo_85 (by decide) ?_
          refine lv_iload_n hx hb dX4_leadsTo_87 rfl (lv_at hl 1 rfl) ?_
          refine lv_iadd hx hb dX4_leadsTo_88 ?_
          exact j89 _ h _ _ _ hP hS (lv_sub hl [0, 1, 2, 3, 4] rfl)
        have h := itT c77 h
        refine lv_bipush (v := (18 : Int32)) hx hb dX4_leadsTo_80 (by decide) ?_
        refine lv_goto (tgt := 89) hx hb dX4_leadsTo_82 (by decide) ?_
        exact j89 _ h _ _ _ hP hS (lv_sub hl [0, 1, 2, 3, 4] rfl)
      have h := itT c43 h
      exact j46 _ h _ _ _ hP hS (lv_sub hl [1, 2] rfl)
    have h := itT c12 h
    refine lv_aload_n hx hb dX4_leadsTo_15 rfl (lv_at hl 0 rfl) ?_
    refine lv_iload_n hx hb dX4_leadsTo_16 rfl (lv_at hl 2 rfl) ?_
    refine lv_iload_n hx hb dX4_leadsTo_17 rfl (lv_at hl 2 rfl) ?_
    refine lv_iload_n hx hb dX4_leadsTo_18 rfl (lv_at hl 3 rfl) ?_
    refine lv_iload hx hb dX4_leadsTo_19 (lv_at hl 4 rfl) ?_
    obtain ⟨q21, e21, h⟩ := bd_some h
    refine g_roV (wc := (zwM cI cC f c_r c_refused c_tape c_letter c_letterAt c_number c_taped c_at c_statements c_kept c_hasImage c_isKeeping c_cursor c_poled c_barred c_leapsTo c_leapsThen c_lands c_row c_rowMany c_endsAt)) ⟨hx, hb, hml, hown, hts⟩ hE hK hP hS [0, 1, 2, 3, 4, 5, 6, 7, 8, 9, 10, 11, 12, 13, 14, 15] rfl (mX4_mayStay l dC dI cI cC sk f p2 p2 p3 p4 c_r c_refused c_tape c_letter c_letterAt c_number c_taped c_at c_statements c_kept c_hasImage c_isKeeping c_cursor c_poled c_barred c_leapsTo c_leapsThen c_lands c_row c_rowMany c_endsAt q21 e21) (cwV 4 hts gX4_leadsTo_X4_mayStay rfl rfl rfl (by decide +kernel) ⟨Nat.le_of_ble_eq_true rfl, Nat.le_of_ble_eq_true rfl⟩) (va_recv hK hP (ci := 4) (q0 := 0) rfl rfl) (As := [.int p2, .int p2, .int p3, .int p4]) (rest := []) rfl hl.1 rfl (Nat.le_of_ble_eq_true rfl) dX4_leadsTo_21 ⟨Nat.zero_le _, Nat.zero_le _⟩ (fun H locs hP hS => ?_)
    refine lv_if_eq (tgt := 31) hx hb dX4_leadsTo_24 (by decide) (fun c24 => ?_) (fun c24 => ?_)
    · have h := itT c24 h
      refine lv_bipush (v := (-9 : Int32)) hx hb dX4_leadsTo_31 (by decide) ?_
      subst hQ
      exact retRO hx hb hr hlocks rfl hS h dX4_leadsTo_33
    have h := itF c24 h
    refine lv_iload_n hx hb dX4_leadsTo_27 rfl (lv_at hl 2 rfl) ?_
    refine lv_goto (tgt := 33) hx hb dX4_leadsTo_28 (by decide) ?_
    subst hQ
    exact retRO hx hb hr hlocks rfl hS h dX4_leadsTo_33
  have h := itT c3 h
  refine lv_bipush (v := (-9 : Int32)) hx hb dX4_leadsTo_6 (by decide) ?_
  subst hQ
  exact retRO hx hb hr hlocks rfl hS h dX4_leadsTo_8
theorem dX4_firstWrong_0 : decode cX4_firstWrong 0 = .ok (.aload_n 0, 1) := by decide +kernel
theorem dX4_firstWrong_1 : decode cX4_firstWrong 1 = .ok (.iload_n 2, 1) := by decide +kernel
theorem dX4_firstWrong_2 : decode cX4_firstWrong 2 = .ok (.putfield 218, 3) := by decide +kernel
theorem dX4_firstWrong_5 : decode cX4_firstWrong 5 = .ok (.iconst 0, 1) := by decide +kernel
theorem dX4_firstWrong_6 : decode cX4_firstWrong 6 = .ok (.istore_n 3, 1) := by decide +kernel
theorem dX4_firstWrong_7 : decode cX4_firstWrong 7 = .ok (.iload_n 3, 1) := by decide +kernel
theorem dX4_firstWrong_8 : decode cX4_firstWrong 8 = .ok (.aload_n 0, 1) := by decide +kernel
theorem dX4_firstWrong_9 : decode cX4_firstWrong 9 = .ok (.getfield 212, 3) := by decide +kernel
theorem dX4_firstWrong_12 : decode cX4_firstWrong 12 = .ok (.if_icmp .ge 45, 3) := by decide +kernel
theorem dX4_firstWrong_15 : decode cX4_firstWrong 15 = .ok (.aload_n 0, 1) := by decide +kernel
theorem dX4_firstWrong_16 : decode cX4_firstWrong 16 = .ok (.aload_n 0, 1) := by decide +kernel
theorem dX4_firstWrong_17 : decode cX4_firstWrong 17 = .ok (.getfield 56, 3) := by decide +kernel
theorem dX4_firstWrong_20 : decode cX4_firstWrong 20 = .ok (.iload_n 3, 1) := by decide +kernel
theorem dX4_firstWrong_21 : decode cX4_firstWrong 21 = .ok (.iaload, 1) := by decide +kernel
theorem dX4_firstWrong_22 : decode cX4_firstWrong 22 = .ok (.aload_n 0, 1) := by decide +kernel
theorem dX4_firstWrong_23 : decode cX4_firstWrong 23 = .ok (.getfield 218, 3) := by decide +kernel
theorem dX4_firstWrong_26 : decode cX4_firstWrong 26 = .ok (.iload_n 1, 1) := by decide +kernel
theorem dX4_firstWrong_27 : decode cX4_firstWrong 27 = .ok (.aload_n 0, 1) := by decide +kernel
theorem dX4_firstWrong_28 : decode cX4_firstWrong 28 = .ok (.getfield 101, 3) := by decide +kernel
theorem dX4_firstWrong_31 : decode cX4_firstWrong 31 = .ok (.iload_n 3, 1) := by decide +kernel
theorem dX4_firstWrong_32 : decode cX4_firstWrong 32 = .ok (.iadd, 1) := by decide +kernel
theorem dX4_firstWrong_33 : decode cX4_firstWrong 33 = .ok (.invokevirtual 221, 3) := by decide +kernel
theorem dX4_firstWrong_36 : decode cX4_firstWrong 36 = .ok (.istore 4, 2) := by decide +kernel
theorem dX4_firstWrong_38 : decode cX4_firstWrong 38 = .ok (.iload 4, 2) := by decide +kernel
theorem dX4_firstWrong_40 : decode cX4_firstWrong 40 = .ok (.ifCond .ge 5, 3) := by decide +kernel
theorem dX4_firstWrong_43 : decode cX4_firstWrong 43 = .ok (.iload_n 3, 1) := by decide +kernel
theorem dX4_firstWrong_44 : decode cX4_firstWrong 44 = .ok (.ireturn, 1) := by decide +kernel
theorem dX4_firstWrong_45 : decode cX4_firstWrong 45 = .ok (.aload_n 0, 1) := by decide +kernel
theorem dX4_firstWrong_46 : decode cX4_firstWrong 46 = .ok (.iload 4, 2) := by decide +kernel
theorem dX4_firstWrong_48 : decode cX4_firstWrong 48 = .ok (.putfield 218, 3) := by decide +kernel
theorem dX4_firstWrong_51 : decode cX4_firstWrong 51 = .ok (.iinc 3 1, 3) := by decide +kernel
theorem dX4_firstWrong_54 : decode cX4_firstWrong 54 = .ok (.goto (-47), 3) := by decide +kernel
theorem dX4_firstWrong_57 : decode cX4_firstWrong 57 = .ok (.bipush (-9), 2) := by decide +kernel
theorem dX4_firstWrong_59 : decode cX4_firstWrong 59 = .ok (.ireturn, 1) := by decide +kernel
set_option maxRecDepth 20000 in
theorem ggX4_firstWrong_X4_leadsTo : GoodIn wsX4_firstWrong wsX4_leadsTo := goodIn_r _ [9, 10, 11, 12, 8, 13, 14, 15, 16, 17, 18, 19, 20, 21, 22, 23, 24, 25, 26, 27, 28, 29, 30, 31, 32, 33, 34, 35, 36, 37, 38, 4, 39, 40, 41, 42, 43, 44, 45, 46, 47, 48, 49, 50, 51, 52, 53, 54, 55, 56, 57, 58, 59, 60, 61, 62, 63, 64, 65, 66, 67, 68, 69, 70, 71, 72, 73, 74, 75, 76, 77, 78, 79, 80, 81, 82] (by decide +kernel) (by decide +kernel)
set_option maxRecDepth 20000 in
theorem gX4_firstWrong_X4_leadsTo : GoodIn wsX4_firstWrong (wsV RX4 221 RX4 yX4_leadsTo wsX4_leadsTo) := goodIn_app (goodIn_of _ (by decide +kernel)) ggX4_firstWrong_X4_leadsTo
set_option maxHeartbeats 4000000 in
set_option maxRecDepth 100000 in
theorem mX4_firstWrong (l : Launch) (dC : Nat → ClassId) (dI : Nat → Nat → Nat) (cI cC : ClassId) (sk : (Nat → Nat) × (Nat → Nat)) (f : Nat → Nat) (sz : Nat) (p1 : Int32) (p2 : Int32) (c_r : RT) (c_refused : AR) (c_tape : AR) (c_letter : AR) (c_letterAt : AR) (c_number : AR) (c_taped : Int32) (c_at : Int32) (c_statements : Int32) (c_kept : AR) (c_hasImage : Int32) (c_isKeeping : Int32) (c_cursor : Int32) (c_poled : Int32) (c_barred : Int32) (c_leapsTo : AR) (c_leapsThen : AR) (c_lands : AR) (c_row : AR) (c_rowMany : Int32) (c_endsAt : Int32) (z : Int32 × Int32) (h : fX4_firstWrong p1 p2 c_r c_poled c_barred c_row c_rowMany = some z) : cRW l yX4_firstWrong wsX4_firstWrong (RMk 5 117) sk (dC, dI) (tyz cI cC) sz (zwM cI cC f c_r c_refused c_tape c_letter c_letterAt c_number c_taped c_at c_statements c_kept c_hasImage c_isKeeping c_cursor c_poled c_barred c_leapsTo c_leapsThen c_lands c_row c_rowMany c_endsAt) (zwM cI cC f c_r c_refused c_tape c_letter c_letterAt c_number c_taped c_at c_statements c_kept c_hasImage c_isKeeping c_cursor c_poled c_barred c_leapsTo c_leapsThen c_lands c_row c_rowMany z.2) [.ref (f 0), .int p1, .int p2] z.1 := by
  refine ofRW (cc := cX4_firstWrong) (maxL := 5) (ret := (some .int)) (own := RX4) (plainFor_of_name (by decide)) rfl rfl (Nat.le_of_ble_eq_true rfl) ?_
  intro p e s m args below meth c A hA hx hb hml hr hts hown hlocks hE hK hP hD hS ls hl
  generalize hQ : qRW _ _ _ _ _ _ _ = Q
  have hl : lv_has ls 5 [(0, .ref (f 0)), (1, .int p1), (2, .int p2)] := hl
  have hiX4 : ∀ w ∈ wsX40, w ∈ wsX4_firstWrong := fun w h => List.mem_cons_of_mem _ (List.mem_append_right _ h)
  have hw1 := hts (Cond.fieldLink RX4 218 "FloeToFloeModel" "endsAt" "I") (List.mem_of_getElem? (i := 1) rfl)
  have hw2 := hts (Cond.fieldLink RX4 212 "FloeToFloeModel" "rowMany" "I") (List.mem_of_getElem? (i := 2) rfl)
  have hw3 := hts (Cond.fieldLink RX4 56 "FloeToFloeModel" "row" "[I") (List.mem_of_getElem? (i := 3) rfl)
  have hw4 := hts (Cond.fieldLink RX4 101 "FloeToFloeModel" "minute" "I") (List.mem_of_getElem? (i := 4) rfl)
  rw [fX4_firstWrong] at h
  refine lv_aload_n hx hb dX4_firstWrong_0 rfl (lv_at hl 0 rfl) ?_
  refine lv_iload_n hx hb dX4_firstWrong_1 rfl (lv_at hl 2 rfl) ?_
  refine va_put (D := (dC, dI)) (ci := 4) (v := .int p2) (ty := .int) (C := RX4) (T := TX4) (N := 28) hx hb hts hiX4 tyX4 tyX4_ok nmX4 hown hK hP hD hS 0 rfl rfl 27 (by decide) hw1 (fun _ h9 => h9) rfl (by decide +kernel) rfl rfl (Nat.le_of_ble_eq_true rfl) dX4_firstWrong_2 (fun H locs hP hD hS => ?_)
  have hP : va_P (dC, dI) vwCl (zwM cI cC f c_r c_refused c_tape c_letter c_letterAt c_number c_taped c_at c_statements c_kept c_hasImage c_isKeeping c_cursor c_poled c_barred c_leapsTo c_leapsThen c_lands c_row c_rowMany p2) H := hP
  have hD : va_D A (zwM cI cC f c_r c_refused c_tape c_letter c_letterAt c_number c_taped c_at c_statements c_kept c_hasImage c_isKeeping c_cursor c_poled c_barred c_leapsTo c_leapsThen c_lands c_row c_rowMany p2) := hD
  refine lv_iconst (v := (0 : Int32)) hx hb dX4_firstWrong_5 (by decide) ?_
  refine lv_istore_n (lv' := [(3, .int (0 : Int32)), (0, .ref (f 0)), (1, .int p1), (2, .int p2)]) hx hb dX4_firstWrong_6 rfl hl (by decide) rfl (fun ls hl => ?_)
  have L7 : ∀ (K7 : Int32 → Option (Int32 × Int32)), (∀ (k7_endsAt : Int32), K7 k7_endsAt = some z → ∀ (H : Heap) (locs : List Loc) (ls : Array Slot), va_P (dC, dI) vwCl (zwM cI cC f c_r c_refused c_tape c_letter c_letterAt c_number c_taped c_at c_statements c_kept c_hasImage c_isKeeping c_cursor c_poled c_barred c_leapsTo c_leapsThen c_lands c_row c_rowMany k7_endsAt) H → va_D A (zwM cI cC f c_r c_refused c_tape c_letter c_letterAt c_number c_taped c_at c_statements c_kept c_hasImage c_isKeeping c_cursor c_poled c_barred c_leapsTo c_leapsThen c_lands c_row c_rowMany k7_endsAt) → va_S A s.heap H locs → lv_has ls 5 [] → W p l e (RMk 5 117) s m args below meth c H locs 0 0 Q (F0 m 57 ls [])) → ∀ (n : Nat) (x7_3 : Int32) (x7_endsAt : Int32), fX4_firstWrong_L7 c_barred c_poled c_r c_row c_rowMany p1 K7 n x7_3 x7_endsAt = some z → ∀ (H : Heap) (locs : List Loc) (ls : Array Slot), va_P (dC, dI) vwCl (zwM cI cC f c_r c_refused c_tape c_letter c_letterAt c_number c_taped c_at c_statements c_kept c_hasImage c_isKeeping c_cursor c_poled c_barred c_leapsTo c_leapsThen c_lands c_row c_rowMany x7_endsAt) H → va_D A (zwM cI cC f c_r c_refused c_tape c_letter c_letterAt c_number c_taped c_at c_statements c_kept c_hasImage c_isKeeping c_cursor c_poled c_barred c_leapsTo c_leapsThen c_lands c_row c_rowMany x7_endsAt) → va_S A s.heap H locs → lv_has ls 5 [(0, .ref (f 0)), (1, .int p1), (3, .int x7_3)] → W p l e (RMk 5 117) s m args below meth c H locs 0 0 Q (F0 m 7 ls []) := by
    intro K7 kx7 n
    induction n with
    | zero => intro x7_3 x7_endsAt h; rw [fX4_firstWrong_L7] at h; cases h
    | succ n ih7 =>
      intro x7_3 x7_endsAt h H locs ls hP hD hS hl
      rw [fX4_firstWrong_L7] at h
      refine lv_iload_n hx hb dX4_firstWrong_7 rfl (lv_at hl 2 rfl) ?_
      refine lv_aload_n hx hb dX4_firstWrong_8 rfl (lv_at hl 0 rfl) ?_
      refine va_get (D := (dC, dI)) (ci := 4) (v := .int c_rowMany) (C := RX4) (T := TX4) (N := 28) hx hb hts hiX4 hown hK hP 0 rfl rfl 26 (by decide) hw2 (fun _ h9 => h9) rfl dX4_firstWrong_9 ?_
      refine lv_icmp_ge (tgt := 57) hx hb dX4_firstWrong_12 (by decide) (fun c12 => ?_) (fun c12 => ?_)
      · have h := itT c12 h
        exact kx7 _ h _ _ _ hP hD hS (lv_sub hl [] rfl)
      have h := itF c12 h
      refine lv_aload_n hx hb dX4_firstWrong_15 rfl (lv_at hl 0 rfl) ?_
      refine lv_aload_n hx hb dX4_firstWrong_16 rfl (lv_at hl 0 rfl) ?_
      refine va_get (D := (dC, dI)) (ci := 4) (v := .ref (f 15)) (C := RX4) (T := TX4) (N := 28) hx hb hts hiX4 hown hK hP 0 rfl rfl 25 (by decide) hw3 (fun _ h9 => h9) rfl dX4_firstWrong_17 ?_
      refine lv_iload_n hx hb dX4_firstWrong_20 rfl (lv_at hl 2 rfl) ?_
      obtain ⟨hin, h⟩ := ck_some h
      refine va_iald hx hb hK hP 15 0 rfl rfl hin dX4_firstWrong_21 ?_
      refine lv_aload_n hx hb dX4_firstWrong_22 rfl (lv_at hl 0 rfl) ?_
      refine va_get (D := (dC, dI)) (ci := 4) (v := .int x7_endsAt) (C := RX4) (T := TX4) (N := 28) hx hb hts hiX4 hown hK hP 0 rfl rfl 27 (by decide) hw1 (fun _ h9 => h9) rfl dX4_firstWrong_23 ?_
      refine lv_iload_n hx hb dX4_firstWrong_26 rfl (lv_at hl 1 rfl) ?_
      refine lv_aload_n hx hb dX4_firstWrong_27 rfl (lv_at hl 0 rfl) ?_
      refine va_get (D := (dC, dI)) (ci := 4) (v := .int (R_minute c_r)) (C := RX4) (T := TX4) (N := 28) hx hb hts hiX4 hown hK hP 0 rfl rfl 8 (by decide) hw4 (fun _ h9 => h9) rfl dX4_firstWrong_28 ?_
      refine lv_iload_n hx hb dX4_firstWrong_31 rfl (lv_at hl 2 rfl) ?_
      refine lv_iadd hx hb dX4_firstWrong_32 ?_
      obtain ⟨q33, e33, h⟩ := bd_some h
      refine g_roV (wc := (zwM cI cC f c_r c_refused c_tape c_letter c_letterAt c_number c_taped c_at c_statements c_kept c_hasImage c_isKeeping c_cursor c_poled c_barred c_leapsTo c_leapsThen c_lands c_row c_rowMany x7_endsAt)) ⟨hx, hb, hml, hown, hts⟩ hE hK hP hS [0, 1, 2, 3, 4, 5, 6, 7, 8, 9, 10, 11, 12, 13, 14, 15] rfl (mX4_leadsTo l dC dI cI cC sk f (c_row (x7_3).toNatClampNeg) x7_endsAt p1 ((R_minute c_r) + x7_3) c_r c_refused c_tape c_letter c_letterAt c_number c_taped c_at c_statements c_kept c_hasImage c_isKeeping c_cursor c_poled c_barred c_leapsTo c_leapsThen c_lands c_row c_rowMany x7_endsAt q33 e33) (cwV 4 hts gX4_firstWrong_X4_leadsTo rfl rfl rfl (by decide +kernel) ⟨Nat.le_of_ble_eq_true rfl, Nat.le_of_ble_eq_true rfl⟩) (va_recv hK hP (ci := 4) (q0 := 0) rfl rfl) (As := [.int (c_row (x7_3).toNatClampNeg), .int x7_endsAt, .int p1, .int ((R_minute c_r) + x7_3)]) (rest := []) rfl hl.1 rfl (Nat.le_of_ble_eq_true rfl) dX4_firstWrong_33 ⟨Nat.zero_le _, Nat.zero_le _⟩ (fun H locs hP hS => ?_)
      refine lv_istore (lv' := [(4, .int q33), (0, .ref (f 0)), (1, .int p1), (3, .int x7_3)]) hx hb dX4_firstWrong_36 hl (by decide) rfl (fun ls hl => ?_)
      refine lv_iload hx hb dX4_firstWrong_38 (lv_at hl 0 rfl) ?_
      refine lv_if_ge (tgt := 45) hx hb dX4_firstWrong_40 (by decide) (fun c40 => ?_) (fun c40 => ?_)
      · have h := itT c40 h
        refine lv_aload_n hx hb dX4_firstWrong_45 rfl (lv_at hl 1 rfl) ?_
        refine lv_iload hx hb dX4_firstWrong_46 (lv_at hl 0 rfl) ?_
        refine va_put (D := (dC, dI)) (ci := 4) (v := .int q33) (ty := .int) (C := RX4) (T := TX4) (N := 28) hx hb hts hiX4 tyX4 tyX4_ok nmX4 hown hK hP hD hS 0 rfl rfl 27 (by decide) hw1 (fun _ h9 => h9) rfl (by decide +kernel) rfl rfl (Nat.le_of_ble_eq_true rfl) dX4_firstWrong_48 (fun H locs hP hD hS => ?_)
        have hP : va_P (dC, dI) vwCl (zwM cI cC f c_r c_refused c_tape c_letter c_letterAt c_number c_taped c_at c_statements c_kept c_hasImage c_isKeeping c_cursor c_poled c_barred c_leapsTo c_leapsThen c_lands c_row c_rowMany q33) H := hP
        have hD : va_D A (zwM cI cC f c_r c_refused c_tape c_letter c_letterAt c_number c_taped c_at c_statements c_kept c_hasImage c_isKeeping c_cursor c_poled c_barred c_leapsTo c_leapsThen c_lands c_row c_rowMany q33) := hD
        refine lv_iinc (v := (x7_3 + (1 : Int32))) (lv' := [(3, .int (x7_3 + (1 : Int32))), (4, .int q33), (0, .ref (f 0)), (1, .int p1)]) hx hb dX4_firstWrong_51 hl (k := 3) rfl rfl (by decide) rfl (fun ls hl => ?_)
        refine lv_goto (tgt := 7) hx hb dX4_firstWrong_54 (by decide) ?_
        exact ih7 _ _ h _ _ _ hP hD hS (lv_sub hl [2, 3, 0] rfl)
      have h := itF c40 h
      refine lv_iload_n hx hb dX4_firstWrong_43 rfl (lv_at hl 3 rfl) ?_
      subst hQ
      exact retRW (zz := ((x7_3, x7_endsAt) : Int32 × Int32)) (fun z => z.1) (fun z => (zwM cI cC f c_r c_refused c_tape c_letter c_letterAt c_number c_taped c_at c_statements c_kept c_hasImage c_isKeeping c_cursor c_poled c_barred c_leapsTo c_leapsThen c_lands c_row c_rowMany z.2)) hx hb hr hlocks rfl hS h rfl hP dX4_firstWrong_44
  refine L7 _ (fun k7_endsAt h H locs ls hP hD hS hl => ?_) _ _ _ h _ _ _ hP hD hS (lv_sub hl [1, 2, 0] rfl)
  refine lv_bipush (v := (-9 : Int32)) hx hb dX4_firstWrong_57 (by decide) ?_
  subst hQ
  exact retRW (zz := (((-9 : Int32), k7_endsAt) : Int32 × Int32)) (fun z => z.1) (fun z => (zwM cI cC f c_r c_refused c_tape c_letter c_letterAt c_number c_taped c_at c_statements c_kept c_hasImage c_isKeeping c_cursor c_poled c_barred c_leapsTo c_leapsThen c_lands c_row c_rowMany z.2)) hx hb hr hlocks rfl hS h rfl hP dX4_firstWrong_59
theorem dX4_judge_0 : decode cX4_judge 0 = .ok (.iload_n 1, 1) := by decide +kernel
theorem dX4_judge_1 : decode cX4_judge 1 = .ok (.iload_n 2, 1) := by decide +kernel
theorem dX4_judge_2 : decode cX4_judge 2 = .ok (.invokestatic 176, 3) := by decide +kernel
theorem dX4_judge_5 : decode cX4_judge 5 = .ok (.istore_n 3, 1) := by decide +kernel
theorem dX4_judge_6 : decode cX4_judge 6 = .ok (.iload_n 3, 1) := by decide +kernel
theorem dX4_judge_7 : decode cX4_judge 7 = .ok (.ifCond .eq 11, 3) := by decide +kernel
theorem dX4_judge_10 : decode cX4_judge 10 = .ok (.aload_n 0, 1) := by decide +kernel
theorem dX4_judge_11 : decode cX4_judge 11 = .ok (.iload_n 3, 1) := by decide +kernel
theorem dX4_judge_12 : decode cX4_judge 12 = .ok (.invokevirtual 73, 3) := by decide +kernel
theorem dX4_judge_15 : decode cX4_judge 15 = .ok (.goto 9, 3) := by decide +kernel
theorem dX4_judge_18 : decode cX4_judge 18 = .ok (.aload_n 0, 1) := by decide +kernel
theorem dX4_judge_19 : decode cX4_judge 19 = .ok (.iload_n 1, 1) := by decide +kernel
theorem dX4_judge_20 : decode cX4_judge 20 = .ok (.iload_n 2, 1) := by decide +kernel
theorem dX4_judge_21 : decode cX4_judge 21 = .ok (.invokevirtual 224, 3) := by decide +kernel
theorem dX4_judge_24 : decode cX4_judge 24 = .ok (.ireturn, 1) := by decide +kernel
set_option maxRecDepth 20000 in
theorem ggX4_judge_X4_notLoad : GoodIn wsX4_judge wsX4_notLoad := goodIn_r _ [4, 5, 6, 3, 7, 8, 9, 10, 11, 12, 13] (by decide +kernel) (by decide +kernel)
set_option maxRecDepth 20000 in
theorem gX4_judge_X4_notLoad : GoodIn wsX4_judge (va_wsS RX4 176 yX4_notLoad wsX4_notLoad) := goodIn_app (goodIn_of _ (by decide +kernel)) ggX4_judge_X4_notLoad
set_option maxRecDepth 20000 in
theorem ggX4_judge_X4_no : GoodIn wsX4_judge wsX4_no := goodIn_r _ [17, 18, 73, 74, 75, 76, 77, 78, 79, 80, 81, 82, 83, 84, 85, 86, 87, 88, 89, 90, 91, 92, 93, 94, 95, 96, 97, 98, 99, 100] (by decide +kernel) (by decide +kernel)
set_option maxRecDepth 20000 in
theorem gX4_judge_X4_no : GoodIn wsX4_judge (wsV RX4 73 RX4 yX4_no wsX4_no) := goodIn_app (goodIn_of _ (by decide +kernel)) ggX4_judge_X4_no
set_option maxRecDepth 20000 in
theorem ggX4_judge_X4_firstWrong : GoodIn wsX4_judge wsX4_firstWrong := goodIn_r _ [22, 23, 24, 25, 26, 27, 28, 29, 3, 30, 31, 32, 33, 34, 35, 36, 37, 38, 39, 40, 41, 42, 43, 44, 45, 46, 47, 48, 49, 50, 51, 8, 9, 10, 52, 53, 54, 55, 56, 57, 58, 59, 60, 61, 62, 63, 64, 65, 66, 67, 68, 69, 70, 71, 72, 73, 74, 75, 76, 77, 78, 79, 80, 81, 82, 83, 84, 85, 86, 87, 88, 89, 90, 91, 92, 93, 94, 95, 96, 97, 98, 99, 100] (by decide +kernel) (by decide +kernel)
set_option maxRecDepth 20000 in
theorem gX4_judge_X4_firstWrong : GoodIn wsX4_judge (wsV RX4 224 RX4 yX4_firstWrong wsX4_firstWrong) := goodIn_app (goodIn_of _ (by decide +kernel)) ggX4_judge_X4_firstWrong
set_option maxHeartbeats 4000000 in
set_option maxRecDepth 100000 in
theorem mX4_judge (l : Launch) (dC : Nat → ClassId) (dI : Nat → Nat → Nat) (cI cC : ClassId) (sk : (Nat → Nat) × (Nat → Nat)) (f : Nat → Nat) (sz : Nat) (p1 : Int32) (p2 : Int32) (c_r : RT) (c_refused : AR) (c_tape : AR) (c_letter : AR) (c_letterAt : AR) (c_number : AR) (c_taped : Int32) (c_at : Int32) (c_statements : Int32) (c_kept : AR) (c_hasImage : Int32) (c_isKeeping : Int32) (c_cursor : Int32) (c_poled : Int32) (c_barred : Int32) (c_leapsTo : AR) (c_leapsThen : AR) (c_lands : AR) (c_row : AR) (c_rowMany : Int32) (c_endsAt : Int32) (z : Int32 × AR × Int32) (h : fX4_judge p1 p2 c_r c_refused c_poled c_barred c_row c_rowMany c_endsAt = some z) : cRW l yX4_judge wsX4_judge (RMk 6 141) sk (dC, dI) (tyz cI cC) sz (zwM cI cC f c_r c_refused c_tape c_letter c_letterAt c_number c_taped c_at c_statements c_kept c_hasImage c_isKeeping c_cursor c_poled c_barred c_leapsTo c_leapsThen c_lands c_row c_rowMany c_endsAt) (zwM cI cC f c_r z.2.1 c_tape c_letter c_letterAt c_number c_taped c_at c_statements c_kept c_hasImage c_isKeeping c_cursor c_poled c_barred c_leapsTo c_leapsThen c_lands c_row c_rowMany z.2.2) [.ref (f 0), .int p1, .int p2] z.1 := by
  refine ofRW (cc := cX4_judge) (maxL := 4) (ret := (some .int)) (own := RX4) (plainFor_of_name (by decide)) rfl rfl (Nat.le_of_ble_eq_true rfl) ?_
  intro p e s m args below meth c A hA hx hb hml hr hts hown hlocks hE hK hP hD hS ls hl
  generalize hQ : qRW _ _ _ _ _ _ _ = Q
  have hl : lv_has ls 4 [(0, .ref (f 0)), (1, .int p1), (2, .int p2)] := hl
  rw [fX4_judge] at h
  refine lv_iload_n hx hb dX4_judge_0 rfl (lv_at hl 1 rfl) ?_
  refine lv_iload_n hx hb dX4_judge_1 rfl (lv_at hl 2 rfl) ?_
  obtain ⟨q2, e2, h⟩ := bd_some h
  refine g_roS (wc := ([] : va_W)) ⟨hx, hb, hml, hown, hts⟩ hE hK hP hS [] rfl (mX4_notLoad l dC dI cI cC sk  p1 p2 q2 e2) (va_cwS 2 hts gX4_judge_X4_notLoad rfl rfl rfl (by decide +kernel) ⟨Nat.le_of_ble_eq_true rfl, Nat.le_of_ble_eq_true rfl⟩) (As := [.int p1, .int p2]) (rest := []) rfl hl.1 rfl (Nat.le_of_ble_eq_true rfl) dX4_judge_2 ⟨Nat.zero_le _, Nat.zero_le _⟩ (fun H locs hP hS => ?_)
  refine lv_istore_n (lv' := [(3, .int q2), (0, .ref (f 0)), (1, .int p1), (2, .int p2)]) hx hb dX4_judge_5 rfl hl (by decide) rfl (fun ls hl => ?_)
  refine lv_iload_n hx hb dX4_judge_6 rfl (lv_at hl 0 rfl) ?_
  refine lv_if_eq (tgt := 18) hx hb dX4_judge_7 (by decide) (fun c7 => ?_) (fun c7 => ?_)
  · have h := itT c7 h
    refine lv_aload_n hx hb dX4_judge_18 rfl (lv_at hl 1 rfl) ?_
    refine lv_iload_n hx hb dX4_judge_19 rfl (lv_at hl 2 rfl) ?_
    refine lv_iload_n hx hb dX4_judge_20 rfl (lv_at hl 3 rfl) ?_
    obtain ⟨q21, e21, h⟩ := bd_some h
    refine g_rwV (wc := (zwM cI cC f c_r c_refused c_tape c_letter c_letterAt c_number c_taped c_at c_statements c_kept c_hasImage c_isKeeping c_cursor c_poled c_barred c_leapsTo c_leapsThen c_lands c_row c_rowMany c_endsAt)) (wc' := (zwM cI cC f c_r c_refused c_tape c_letter c_letterAt c_number c_taped c_at c_statements c_kept c_hasImage c_isKeeping c_cursor c_poled c_barred c_leapsTo c_leapsThen c_lands c_row c_rowMany q21.2)) ⟨hx, hb, hml, hown, hts⟩ hE hK hA hP hD hS [0, 1, 2, 3, 4, 5, 6, 7, 8, 9, 10, 11, 12, 13, 14, 15] rfl rfl rfl (mX4_firstWrong l dC dI cI cC sk f H.size p1 p2 c_r c_refused c_tape c_letter c_letterAt c_number c_taped c_at c_statements c_kept c_hasImage c_isKeeping c_cursor c_poled c_barred c_leapsTo c_leapsThen c_lands c_row c_rowMany c_endsAt q21 e21) (cwV 2 hts gX4_judge_X4_firstWrong rfl rfl rfl (by decide +kernel) ⟨Nat.le_of_ble_eq_true rfl, Nat.le_of_ble_eq_true rfl⟩) (va_recv hK hP (ci := 4) (q0 := 0) rfl rfl) (As := [.int p1, .int p2]) (rest := []) rfl hl.1 rfl (Nat.le_of_ble_eq_true rfl) dX4_judge_21 ⟨Nat.zero_le _, Nat.zero_le _⟩ (fun H locs hP hD hS => ?_)
    have hP : va_P (dC, dI) vwCl (zwM cI cC f c_r c_refused c_tape c_letter c_letterAt c_number c_taped c_at c_statements c_kept c_hasImage c_isKeeping c_cursor c_poled c_barred c_leapsTo c_leapsThen c_lands c_row c_rowMany q21.2) H := hP
    have hD : va_D A (zwM cI cC f c_r c_refused c_tape c_letter c_letterAt c_number c_taped c_at c_statements c_kept c_hasImage c_isKeeping c_cursor c_poled c_barred c_leapsTo c_leapsThen c_lands c_row c_rowMany q21.2) := hD
    subst hQ
    exact retRW (zz := ((q21.1, c_refused, q21.2) : Int32 × AR × Int32)) (fun z => z.1) (fun z => (zwM cI cC f c_r z.2.1 c_tape c_letter c_letterAt c_number c_taped c_at c_statements c_kept c_hasImage c_isKeeping c_cursor c_poled c_barred c_leapsTo c_leapsThen c_lands c_row c_rowMany z.2.2)) hx hb hr hlocks rfl hS h rfl hP dX4_judge_24
  have h := itF c7 h
  refine lv_aload_n hx hb dX4_judge_10 rfl (lv_at hl 1 rfl) ?_
  refine lv_iload_n hx hb dX4_judge_11 rfl (lv_at hl 0 rfl) ?_
  obtain ⟨q12, e12, h⟩ := bd_some h
  refine g_rwV (wc := (zwM cI cC f c_r c_refused c_tape c_letter c_letterAt c_number c_taped c_at c_statements c_kept c_hasImage c_isKeeping c_cursor c_poled c_barred c_leapsTo c_leapsThen c_lands c_row c_rowMany c_endsAt)) (wc' := (zwM cI cC f c_r q12.2 c_tape c_letter c_letterAt c_number c_taped c_at c_statements c_kept c_hasImage c_isKeeping c_cursor c_poled c_barred c_leapsTo c_leapsThen c_lands c_row c_rowMany c_endsAt)) ⟨hx, hb, hml, hown, hts⟩ hE hK hA hP hD hS [0, 1, 2, 3, 4, 5, 6, 7, 8, 9, 10, 11, 12, 13, 14, 15] rfl rfl rfl (mX4_no l dC dI cI cC sk f H.size q2 c_r c_refused c_tape c_letter c_letterAt c_number c_taped c_at c_statements c_kept c_hasImage c_isKeeping c_cursor c_poled c_barred c_leapsTo c_leapsThen c_lands c_row c_rowMany c_endsAt q12 e12) (cwV 1 hts gX4_judge_X4_no rfl rfl rfl (by decide +kernel) ⟨Nat.le_of_ble_eq_true rfl, Nat.le_of_ble_eq_true rfl⟩) (va_recv hK hP (ci := 4) (q0 := 0) rfl rfl) (As := [.int q2]) (rest := []) rfl hl.1 rfl (Nat.le_of_ble_eq_true rfl) dX4_judge_12 ⟨Nat.zero_le _, Nat.zero_le _⟩ (fun H locs hP hD hS => ?_)
  have hP : va_P (dC, dI) vwCl (zwM cI cC f c_r q12.2 c_tape c_letter c_letterAt c_number c_taped c_at c_statements c_kept c_hasImage c_isKeeping c_cursor c_poled c_barred c_leapsTo c_leapsThen c_lands c_row c_rowMany c_endsAt) H := hP
  have hD : va_D A (zwM cI cC f c_r q12.2 c_tape c_letter c_letterAt c_number c_taped c_at c_statements c_kept c_hasImage c_isKeeping c_cursor c_poled c_barred c_leapsTo c_leapsThen c_lands c_row c_rowMany c_endsAt) := hD
  refine lv_goto (tgt := 24) hx hb dX4_judge_15 (by decide) ?_
  subst hQ
  exact retRW (zz := ((q12.1, q12.2, c_endsAt) : Int32 × AR × Int32)) (fun z => z.1) (fun z => (zwM cI cC f c_r z.2.1 c_tape c_letter c_letterAt c_number c_taped c_at c_statements c_kept c_hasImage c_isKeeping c_cursor c_poled c_barred c_leapsTo c_leapsThen c_lands c_row c_rowMany z.2.2)) hx hb hr hlocks rfl hS h rfl hP dX4_judge_24
theorem dX4_ends_0 : decode cX4_ends 0 = .ok (.iload_n 1, 1) := by decide +kernel
theorem dX4_ends_1 : decode cX4_ends 1 = .ok (.iload_n 2, 1) := by decide +kernel
theorem dX4_ends_2 : decode cX4_ends 2 = .ok (.invokestatic 176, 3) := by decide +kernel
theorem dX4_ends_5 : decode cX4_ends 5 = .ok (.istore_n 3, 1) := by decide +kernel
theorem dX4_ends_6 : decode cX4_ends 6 = .ok (.iload_n 3, 1) := by decide +kernel
theorem dX4_ends_7 : decode cX4_ends 7 = .ok (.ifCond .eq 9, 3) := by decide +kernel
theorem dX4_ends_10 : decode cX4_ends 10 = .ok (.aload_n 0, 1) := by decide +kernel
theorem dX4_ends_11 : decode cX4_ends 11 = .ok (.iload_n 3, 1) := by decide +kernel
theorem dX4_ends_12 : decode cX4_ends 12 = .ok (.invokevirtual 73, 3) := by decide +kernel
theorem dX4_ends_15 : decode cX4_ends 15 = .ok (.ireturn, 1) := by decide +kernel
theorem dX4_ends_16 : decode cX4_ends 16 = .ok (.aload_n 0, 1) := by decide +kernel
theorem dX4_ends_17 : decode cX4_ends 17 = .ok (.iload_n 1, 1) := by decide +kernel
theorem dX4_ends_18 : decode cX4_ends 18 = .ok (.iload_n 2, 1) := by decide +kernel
theorem dX4_ends_19 : decode cX4_ends 19 = .ok (.invokevirtual 224, 3) := by decide +kernel
theorem dX4_ends_22 : decode cX4_ends 22 = .ok (.pop, 1) := by decide +kernel
theorem dX4_ends_23 : decode cX4_ends 23 = .ok (.aload_n 0, 1) := by decide +kernel
theorem dX4_ends_24 : decode cX4_ends 24 = .ok (.getfield 218, 3) := by decide +kernel
theorem dX4_ends_27 : decode cX4_ends 27 = .ok (.bipush 18, 2) := by decide +kernel
theorem dX4_ends_29 : decode cX4_ends 29 = .ok (.if_icmp .ne 8, 3) := by decide +kernel
theorem dX4_ends_32 : decode cX4_ends 32 = .ok (.bipush 8, 2) := by decide +kernel
theorem dX4_ends_34 : decode cX4_ends 34 = .ok (.goto 29, 3) := by decide +kernel
theorem dX4_ends_37 : decode cX4_ends 37 = .ok (.aload_n 0, 1) := by decide +kernel
theorem dX4_ends_38 : decode cX4_ends 38 = .ok (.getfield 218, 3) := by decide +kernel
theorem dX4_ends_41 : decode cX4_ends 41 = .ok (.bipush 10, 2) := by decide +kernel
theorem dX4_ends_43 : decode cX4_ends 43 = .ok (.if_icmp .ge 13, 3) := by decide +kernel
theorem dX4_ends_46 : decode cX4_ends 46 = .ok (.bipush 10, 2) := by decide +kernel
theorem dX4_ends_48 : decode cX4_ends 48 = .ok (.aload_n 0, 1) := by decide +kernel
theorem dX4_ends_49 : decode cX4_ends 49 = .ok (.getfield 218, 3) := by decide +kernel
theorem dX4_ends_52 : decode cX4_ends 52 = .ok (.iadd, 1) := by decide +kernel
theorem dX4_ends_53 : decode cX4_ends 53 = .ok (.goto 10, 3) := by decide +kernel
theorem dX4_ends_56 : decode cX4_ends 56 = .ok (.aload_n 0, 1) := by decide +kernel
theorem dX4_ends_57 : decode cX4_ends 57 = .ok (.getfield 218, 3) := by decide +kernel
theorem dX4_ends_60 : decode cX4_ends 60 = .ok (.bipush 10, 2) := by decide +kernel
theorem dX4_ends_62 : decode cX4_ends 62 = .ok (.isub, 1) := by decide +kernel
theorem dX4_ends_63 : decode cX4_ends 63 = .ok (.ireturn, 1) := by decide +kernel
set_option maxRecDepth 20000 in
theorem ggX4_ends_X4_notLoad : GoodIn wsX4_ends wsX4_notLoad := goodIn_r _ [5, 6, 7, 4, 8, 9, 10, 11, 12, 13, 14] (by decide +kernel) (by decide +kernel)
set_option maxRecDepth 20000 in
theorem gX4_ends_X4_notLoad : GoodIn wsX4_ends (va_wsS RX4 176 yX4_notLoad wsX4_notLoad) := goodIn_app (goodIn_of _ (by decide +kernel)) ggX4_ends_X4_notLoad
set_option maxRecDepth 20000 in
theorem ggX4_ends_X4_no : GoodIn wsX4_ends wsX4_no := goodIn_r _ [18, 19, 73, 74, 75, 76, 77, 78, 79, 80, 81, 82, 83, 84, 85, 86, 87, 88, 89, 90, 91, 92, 93, 94, 95, 96, 97, 98, 99, 100] (by decide +kernel) (by decide +kernel)
set_option maxRecDepth 20000 in
theorem gX4_ends_X4_no : GoodIn wsX4_ends (wsV RX4 73 RX4 yX4_no wsX4_no) := goodIn_app (goodIn_of _ (by decide +kernel)) ggX4_ends_X4_no
set_option maxRecDepth 20000 in
theorem ggX4_ends_X4_firstWrong : GoodIn wsX4_ends wsX4_firstWrong := goodIn_r _ [23, 1, 24, 25, 26, 27, 28, 29, 4, 30, 31, 32, 33, 34, 35, 36, 37, 38, 39, 40, 41, 42, 43, 44, 45, 46, 47, 48, 49, 50, 51, 9, 10, 11, 52, 53, 54, 55, 56, 57, 58, 59, 60, 61, 62, 63, 64, 65, 66, 67, 68, 69, 70, 71, 72, 73, 74, 75, 76, 77, 78, 79, 80, 81, 82, 83, 84, 85, 86, 87, 88, 89, 90, 91, 92, 93, 94, 95, 96, 97, 98, 99, 100] (by decide +kernel) (by decide +kernel)
set_option maxRecDepth 20000 in
theorem gX4_ends_X4_firstWrong : GoodIn wsX4_ends (wsV RX4 224 RX4 yX4_firstWrong wsX4_firstWrong) := goodIn_app (goodIn_of _ (by decide +kernel)) ggX4_ends_X4_firstWrong
set_option maxHeartbeats 4000000 in
set_option maxRecDepth 100000 in
theorem mX4_ends (l : Launch) (dC : Nat → ClassId) (dI : Nat → Nat → Nat) (cI cC : ClassId) (sk : (Nat → Nat) × (Nat → Nat)) (f : Nat → Nat) (sz : Nat) (p1 : Int32) (p2 : Int32) (c_r : RT) (c_refused : AR) (c_tape : AR) (c_letter : AR) (c_letterAt : AR) (c_number : AR) (c_taped : Int32) (c_at : Int32) (c_statements : Int32) (c_kept : AR) (c_hasImage : Int32) (c_isKeeping : Int32) (c_cursor : Int32) (c_poled : Int32) (c_barred : Int32) (c_leapsTo : AR) (c_leapsThen : AR) (c_lands : AR) (c_row : AR) (c_rowMany : Int32) (c_endsAt : Int32) (z : Int32 × AR × Int32) (h : fX4_ends p1 p2 c_r c_refused c_poled c_barred c_row c_rowMany c_endsAt = some z) : cRW l yX4_ends wsX4_ends (RMk 6 141) sk (dC, dI) (tyz cI cC) sz (zwM cI cC f c_r c_refused c_tape c_letter c_letterAt c_number c_taped c_at c_statements c_kept c_hasImage c_isKeeping c_cursor c_poled c_barred c_leapsTo c_leapsThen c_lands c_row c_rowMany c_endsAt) (zwM cI cC f c_r z.2.1 c_tape c_letter c_letterAt c_number c_taped c_at c_statements c_kept c_hasImage c_isKeeping c_cursor c_poled c_barred c_leapsTo c_leapsThen c_lands c_row c_rowMany z.2.2) [.ref (f 0), .int p1, .int p2] z.1 := by
  refine ofRW (cc := cX4_ends) (maxL := 4) (ret := (some .int)) (own := RX4) (plainFor_of_name (by decide)) rfl rfl (Nat.le_of_ble_eq_true rfl) ?_
  intro p e s m args below meth c A hA hx hb hml hr hts hown hlocks hE hK hP hD hS ls hl
  generalize hQ : qRW _ _ _ _ _ _ _ = Q
  have hl : lv_has ls 4 [(0, .ref (f 0)), (1, .int p1), (2, .int p2)] := hl
  have hiX4 : ∀ w ∈ wsX40, w ∈ wsX4_ends := fun w h => List.mem_cons_of_mem _ (List.mem_append_right _ h)
  have hw1 := hts (Cond.fieldLink RX4 218 "FloeToFloeModel" "endsAt" "I") (List.mem_of_getElem? (i := 1) rfl)
  rw [fX4_ends] at h
  refine lv_iload_n hx hb dX4_ends_0 rfl (lv_at hl 1 rfl) ?_
  refine lv_iload_n hx hb dX4_ends_1 rfl (lv_at hl 2 rfl) ?_
  obtain ⟨q2, e2, h⟩ := bd_some h
  refine g_roS (wc := ([] : va_W)) ⟨hx, hb, hml, hown, hts⟩ hE hK hP hS [] rfl (mX4_notLoad l dC dI cI cC sk  p1 p2 q2 e2) (va_cwS 2 hts gX4_ends_X4_notLoad rfl rfl rfl (by decide +kernel) ⟨Nat.le_of_ble_eq_true rfl, Nat.le_of_ble_eq_true rfl⟩) (As := [.int p1, .int p2]) (rest := []) rfl hl.1 rfl (Nat.le_of_ble_eq_true rfl) dX4_ends_2 ⟨Nat.zero_le _, Nat.zero_le _⟩ (fun H locs hP hS => ?_)
  refine lv_istore_n (lv' := [(3, .int q2), (0, .ref (f 0)), (1, .int p1), (2, .int p2)]) hx hb dX4_ends_5 rfl hl (by decide) rfl (fun ls hl => ?_)
  refine lv_iload_n hx hb dX4_ends_6 rfl (lv_at hl 0 rfl) ?_
  refine lv_if_eq (tgt := 16) hx hb dX4_ends_7 (by decide) (fun c7 => ?_) (fun c7 => ?_)
  · have h := itT c7 h
    refine lv_aload_n hx hb dX4_ends_16 rfl (lv_at hl 1 rfl) ?_
    refine lv_iload_n hx hb dX4_ends_17 rfl (lv_at hl 2 rfl) ?_
    refine lv_iload_n hx hb dX4_ends_18 rfl (lv_at hl 3 rfl) ?_
    obtain ⟨q19, e19, h⟩ := bd_some h
    refine g_rwV (wc := (zwM cI cC f c_r c_refused c_tape c_letter c_letterAt c_number c_taped c_at c_statements c_kept c_hasImage c_isKeeping c_cursor c_poled c_barred c_leapsTo c_leapsThen c_lands c_row c_rowMany c_endsAt)) (wc' := (zwM cI cC f c_r c_refused c_tape c_letter c_letterAt c_number c_taped c_at c_statements c_kept c_hasImage c_isKeeping c_cursor c_poled c_barred c_leapsTo c_leapsThen c_lands c_row c_rowMany q19.2)) ⟨hx, hb, hml, hown, hts⟩ hE hK hA hP hD hS [0, 1, 2, 3, 4, 5, 6, 7, 8, 9, 10, 11, 12, 13, 14, 15] rfl rfl rfl (mX4_firstWrong l dC dI cI cC sk f H.size p1 p2 c_r c_refused c_tape c_letter c_letterAt c_number c_taped c_at c_statements c_kept c_hasImage c_isKeeping c_cursor c_poled c_barred c_leapsTo c_leapsThen c_lands c_row c_rowMany c_endsAt q19 e19) (cwV 2 hts gX4_ends_X4_firstWrong rfl rfl rfl (by decide +kernel) ⟨Nat.le_of_ble_eq_true rfl, Nat.le_of_ble_eq_true rfl⟩) (va_recv hK hP (ci := 4) (q0 := 0) rfl rfl) (As := [.int p1, .int p2]) (rest := []) rfl hl.1 rfl (Nat.le_of_ble_eq_true rfl) dX4_ends_19 ⟨Nat.zero_le _, Nat.zero_le _⟩ (fun H locs hP hD hS => ?_)
    have hP : va_P (dC, dI) vwCl (zwM cI cC f c_r c_refused c_tape c_letter c_letterAt c_number c_taped c_at c_statements c_kept c_hasImage c_isKeeping c_cursor c_poled c_barred c_leapsTo c_leapsThen c_lands c_row c_rowMany q19.2) H := hP
    have hD : va_D A (zwM cI cC f c_r c_refused c_tape c_letter c_letterAt c_number c_taped c_at c_statements c_kept c_hasImage c_isKeeping c_cursor c_poled c_barred c_leapsTo c_leapsThen c_lands c_row c_rowMany q19.2) := hD
    refine lv_pop hx hb dX4_ends_22 rfl ?_
    refine lv_aload_n hx hb dX4_ends_23 rfl (lv_at hl 1 rfl) ?_
    refine va_get (D := (dC, dI)) (ci := 4) (v := .int q19.2) (C := RX4) (T := TX4) (N := 28) hx hb hts hiX4 hown hK hP 0 rfl rfl 27 (by decide) hw1 (fun _ h9 => h9) rfl dX4_ends_24 ?_
    refine lv_bipush (v := (18 : Int32)) hx hb dX4_ends_27 (by decide) ?_
    refine lv_icmp_ne (tgt := 37) hx hb dX4_ends_29 (by decide) (fun c29 => ?_) (fun c29 => ?_)
    · have h := itF c29 h
      refine lv_aload_n hx hb dX4_ends_37 rfl (lv_at hl 1 rfl) ?_
      refine va_get (D := (dC, dI)) (ci := 4) (v := .int q19.2) (C := RX4) (T := TX4) (N := 28) hx hb hts hiX4 hown hK hP 0 rfl rfl 27 (by decide) hw1 (fun _ h9 => h9) rfl dX4_ends_38 ?_
      refine lv_bipush (v := (10 : Int32)) hx hb dX4_ends_41 (by decide) ?_
      refine lv_icmp_ge (tgt := 56) hx hb dX4_ends_43 (by decide) (fun c43 => ?_) (fun c43 => ?_)
      · have h := itT c43 h
        refine lv_aload_n hx hb dX4_ends_56 rfl (lv_at hl 1 rfl) ?_
        refine va_get (D := (dC, dI)) (ci := 4) (v := .int q19.2) (C := RX4) (T := TX4) (N := 28) hx hb hts hiX4 hown hK hP 0 rfl rfl 27 (by decide) hw1 (fun _ h9 => h9) rfl dX4_ends_57 ?_
        refine lv_bipush (v := (10 : Int32)) hx hb dX4_ends_60 (by decide) ?_
        refine lv_isub hx hb dX4_ends_62 ?_
        subst hQ
        exact retRW (zz := (((q19.2 - (10 : Int32)), c_refused, q19.2) : Int32 × AR × Int32)) (fun z => z.1) (fun z => (zwM cI cC f c_r z.2.1 c_tape c_letter c_letterAt c_number c_taped c_at c_statements c_kept c_hasImage c_isKeeping c_cursor c_poled c_barred c_leapsTo c_leapsThen c_lands c_row c_rowMany z.2.2)) hx hb hr hlocks rfl hS h rfl hP dX4_ends_63
      have h := itF c43 h
      refine lv_bipush (v := (10 : Int32)) hx hb dX4_ends_46 (by decide) ?_
      refine lv_aload_n hx hb dX4_ends_48 rfl (lv_at hl 1 rfl) ?_
      refine va_get (D := (dC, dI)) (ci := 4) (v := .int q19.2) (C := RX4) (T := TX4) (N := 28) hx hb hts hiX4 hown hK hP 0 rfl rfl 27 (by decide) hw1 (fun _ h9 => h9) rfl dX4_ends_49 ?_
      refine lv_iadd hx hb dX4_ends_52 ?_
      refine lv_goto (tgt := 63) hx hb dX4_ends_53 (by decide) ?_
      subst hQ
      exact retRW (zz := ((((10 : Int32) + q19.2), c_refused, q19.2) : Int32 × AR × Int32)) (fun z => z.1) (fun z => (zwM cI cC f c_r z.2.1 c_tape c_letter c_letterAt c_number c_taped c_at c_statements c_kept c_hasImage c_isKeeping c_cursor c_poled c_barred c_leapsTo c_leapsThen c_lands c_row c_rowMany z.2.2)) hx hb hr hlocks rfl hS h rfl hP dX4_ends_63
    have h := itT c29 h
    refine lv_bipush (v := (8 : Int32)) hx hb dX4_ends_32 (by decide) ?_
    refine lv_goto (tgt := 63) hx hb dX4_ends_34 (by decide) ?_
    subst hQ
    exact retRW (zz := (((8 : Int32), c_refused, q19.2) : Int32 × AR × Int32)) (fun z => z.1) (fun z => (zwM cI cC f c_r z.2.1 c_tape c_letter c_letterAt c_number c_taped c_at c_statements c_kept c_hasImage c_isKeeping c_cursor c_poled c_barred c_leapsTo c_leapsThen c_lands c_row c_rowMany z.2.2)) hx hb hr hlocks rfl hS h rfl hP dX4_ends_63
  have h := itF c7 h
  refine lv_aload_n hx hb dX4_ends_10 rfl (lv_at hl 1 rfl) ?_
  refine lv_iload_n hx hb dX4_ends_11 rfl (lv_at hl 0 rfl) ?_
  obtain ⟨q12, e12, h⟩ := bd_some h
  refine g_rwV (wc := (zwM cI cC f c_r c_refused c_tape c_letter c_letterAt c_number c_taped c_at c_statements c_kept c_hasImage c_isKeeping c_cursor c_poled c_barred c_leapsTo c_leapsThen c_lands c_row c_rowMany c_endsAt)) (wc' := (zwM cI cC f c_r q12.2 c_tape c_letter c_letterAt c_number c_taped c_at c_statements c_kept c_hasImage c_isKeeping c_cursor c_poled c_barred c_leapsTo c_leapsThen c_lands c_row c_rowMany c_endsAt)) ⟨hx, hb, hml, hown, hts⟩ hE hK hA hP hD hS [0, 1, 2, 3, 4, 5, 6, 7, 8, 9, 10, 11, 12, 13, 14, 15] rfl rfl rfl (mX4_no l dC dI cI cC sk f H.size q2 c_r c_refused c_tape c_letter c_letterAt c_number c_taped c_at c_statements c_kept c_hasImage c_isKeeping c_cursor c_poled c_barred c_leapsTo c_leapsThen c_lands c_row c_rowMany c_endsAt q12 e12) (cwV 1 hts gX4_ends_X4_no rfl rfl rfl (by decide +kernel) ⟨Nat.le_of_ble_eq_true rfl, Nat.le_of_ble_eq_true rfl⟩) (va_recv hK hP (ci := 4) (q0 := 0) rfl rfl) (As := [.int q2]) (rest := []) rfl hl.1 rfl (Nat.le_of_ble_eq_true rfl) dX4_ends_12 ⟨Nat.zero_le _, Nat.zero_le _⟩ (fun H locs hP hD hS => ?_)
  have hP : va_P (dC, dI) vwCl (zwM cI cC f c_r q12.2 c_tape c_letter c_letterAt c_number c_taped c_at c_statements c_kept c_hasImage c_isKeeping c_cursor c_poled c_barred c_leapsTo c_leapsThen c_lands c_row c_rowMany c_endsAt) H := hP
  have hD : va_D A (zwM cI cC f c_r q12.2 c_tape c_letter c_letterAt c_number c_taped c_at c_statements c_kept c_hasImage c_isKeeping c_cursor c_poled c_barred c_leapsTo c_leapsThen c_lands c_row c_rowMany c_endsAt) := hD
  subst hQ
  exact retRW (zz := ((q12.1, q12.2, c_endsAt) : Int32 × AR × Int32)) (fun z => z.1) (fun z => (zwM cI cC f c_r z.2.1 c_tape c_letter c_letterAt c_number c_taped c_at c_statements c_kept c_hasImage c_isKeeping c_cursor c_poled c_barred c_leapsTo c_leapsThen c_lands c_row c_rowMany z.2.2)) hx hb hr hlocks rfl hS h rfl hP dX4_ends_15
theorem dX4_seeds_0 : decode cX4_seeds 0 = .ok (.iload_n 1, 1) := by decide +kernel
theorem dX4_seeds_1 : decode cX4_seeds 1 = .ok (.iconst 1, 1) := by decide +kernel
theorem dX4_seeds_2 : decode cX4_seeds 2 = .ok (.bipush 20, 2) := by decide +kernel
theorem dX4_seeds_4 : decode cX4_seeds 4 = .ok (.invokestatic 66, 3) := by decide +kernel
theorem dX4_seeds_7 : decode cX4_seeds 7 = .ok (.istore_n 3, 1) := by decide +kernel
theorem dX4_seeds_8 : decode cX4_seeds 8 = .ok (.iload_n 3, 1) := by decide +kernel
theorem dX4_seeds_9 : decode cX4_seeds 9 = .ok (.ifCond .eq 9, 3) := by decide +kernel
theorem dX4_seeds_12 : decode cX4_seeds 12 = .ok (.aload_n 0, 1) := by decide +kernel
theorem dX4_seeds_13 : decode cX4_seeds 13 = .ok (.iload_n 3, 1) := by decide +kernel
theorem dX4_seeds_14 : decode cX4_seeds 14 = .ok (.invokevirtual 73, 3) := by decide +kernel
theorem dX4_seeds_17 : decode cX4_seeds 17 = .ok (.ireturn, 1) := by decide +kernel
theorem dX4_seeds_18 : decode cX4_seeds 18 = .ok (.iload_n 2, 1) := by decide +kernel
theorem dX4_seeds_19 : decode cX4_seeds 19 = .ok (.istore 4, 2) := by decide +kernel
theorem dX4_seeds_21 : decode cX4_seeds 21 = .ok (.iconst 0, 1) := by decide +kernel
theorem dX4_seeds_22 : decode cX4_seeds 22 = .ok (.istore 5, 2) := by decide +kernel
theorem dX4_seeds_24 : decode cX4_seeds 24 = .ok (.iconst 0, 1) := by decide +kernel
theorem dX4_seeds_25 : decode cX4_seeds 25 = .ok (.istore 6, 2) := by decide +kernel
theorem dX4_seeds_27 : decode cX4_seeds 27 = .ok (.iload 6, 2) := by decide +kernel
theorem dX4_seeds_29 : decode cX4_seeds 29 = .ok (.iload_n 1, 1) := by decide +kernel
theorem dX4_seeds_30 : decode cX4_seeds 30 = .ok (.if_icmp .ge 84, 3) := by decide +kernel
theorem dX4_seeds_33 : decode cX4_seeds 33 = .ok (.iload 4, 2) := by decide +kernel
theorem dX4_seeds_35 : decode cX4_seeds 35 = .ok (.ldc 227, 2) := by decide +kernel
theorem dX4_seeds_37 : decode cX4_seeds 37 = .ok (.imul, 1) := by decide +kernel
theorem dX4_seeds_38 : decode cX4_seeds 38 = .ok (.ldc 228, 2) := by decide +kernel
theorem dX4_seeds_40 : decode cX4_seeds 40 = .ok (.iadd, 1) := by decide +kernel
theorem dX4_seeds_41 : decode cX4_seeds 41 = .ok (.istore 4, 2) := by decide +kernel
theorem dX4_seeds_43 : decode cX4_seeds 43 = .ok (.iload 4, 2) := by decide +kernel
theorem dX4_seeds_45 : decode cX4_seeds 45 = .ok (.ldc 229, 2) := by decide +kernel
theorem dX4_seeds_47 : decode cX4_seeds 47 = .ok (.iand, 1) := by decide +kernel
theorem dX4_seeds_48 : decode cX4_seeds 48 = .ok (.sipush 256, 3) := by decide +kernel
theorem dX4_seeds_51 : decode cX4_seeds 51 = .ok (.idiv, 1) := by decide +kernel
theorem dX4_seeds_52 : decode cX4_seeds 52 = .ok (.bipush 10, 2) := by decide +kernel
theorem dX4_seeds_54 : decode cX4_seeds 54 = .ok (.irem, 1) := by decide +kernel
theorem dX4_seeds_55 : decode cX4_seeds 55 = .ok (.istore 7, 2) := by decide +kernel
theorem dX4_seeds_57 : decode cX4_seeds 57 = .ok (.iload 4, 2) := by decide +kernel
theorem dX4_seeds_59 : decode cX4_seeds 59 = .ok (.ldc 227, 2) := by decide +kernel
theorem dX4_seeds_61 : decode cX4_seeds 61 = .ok (.imul, 1) := by decide +kernel
theorem dX4_seeds_62 : decode cX4_seeds 62 = .ok (.ldc 228, 2) := by decide +kernel
theorem dX4_seeds_64 : decode cX4_seeds 64 = .ok (.iadd, 1) := by decide +kernel
theorem dX4_seeds_65 : decode cX4_seeds 65 = .ok (.istore 4, 2) := by decide +kernel
theorem dX4_seeds_67 : decode cX4_seeds 67 = .ok (.iload 4, 2) := by decide +kernel
theorem dX4_seeds_69 : decode cX4_seeds 69 = .ok (.ldc 229, 2) := by decide +kernel
theorem dX4_seeds_71 : decode cX4_seeds 71 = .ok (.iand, 1) := by decide +kernel
theorem dX4_seeds_72 : decode cX4_seeds 72 = .ok (.sipush 256, 3) := by decide +kernel
theorem dX4_seeds_75 : decode cX4_seeds 75 = .ok (.idiv, 1) := by decide +kernel
theorem dX4_seeds_76 : decode cX4_seeds 76 = .ok (.bipush 9, 2) := by decide +kernel
theorem dX4_seeds_78 : decode cX4_seeds 78 = .ok (.irem, 1) := by decide +kernel
theorem dX4_seeds_79 : decode cX4_seeds 79 = .ok (.iconst 1, 1) := by decide +kernel
theorem dX4_seeds_80 : decode cX4_seeds 80 = .ok (.iadd, 1) := by decide +kernel
theorem dX4_seeds_81 : decode cX4_seeds 81 = .ok (.istore 8, 2) := by decide +kernel
theorem dX4_seeds_83 : decode cX4_seeds 83 = .ok (.iload 5, 2) := by decide +kernel
theorem dX4_seeds_85 : decode cX4_seeds 85 = .ok (.aload_n 0, 1) := by decide +kernel
theorem dX4_seeds_86 : decode cX4_seeds 86 = .ok (.iload 8, 2) := by decide +kernel
theorem dX4_seeds_88 : decode cX4_seeds 88 = .ok (.iload 7, 2) := by decide +kernel
theorem dX4_seeds_90 : decode cX4_seeds 90 = .ok (.aload_n 0, 1) := by decide +kernel
theorem dX4_seeds_91 : decode cX4_seeds 91 = .ok (.getfield 101, 3) := by decide +kernel
theorem dX4_seeds_94 : decode cX4_seeds 94 = .ok (.invokevirtual 179, 3) := by decide +kernel
theorem dX4_seeds_97 : decode cX4_seeds 97 = .ok (.ifCond .lt 7, 3) := by decide +kernel
theorem dX4_seeds_100 : decode cX4_seeds 100 = .ok (.iconst 1, 1) := by decide +kernel
theorem dX4_seeds_101 : decode cX4_seeds 101 = .ok (.goto 4, 3) := by decide +kernel
theorem dX4_seeds_104 : decode cX4_seeds 104 = .ok (.iconst 0, 1) := by decide +kernel
theorem dX4_seeds_105 : decode cX4_seeds 105 = .ok (.iadd, 1) := by decide +kernel
theorem dX4_seeds_106 : decode cX4_seeds 106 = .ok (.istore 5, 2) := by decide +kernel
theorem dX4_seeds_108 : decode cX4_seeds 108 = .ok (.iinc 6 1, 3) := by decide +kernel
theorem dX4_seeds_111 : decode cX4_seeds 111 = .ok (.goto (-84), 3) := by decide +kernel
theorem dX4_seeds_114 : decode cX4_seeds 114 = .ok (.iload 5, 2) := by decide +kernel
theorem dX4_seeds_116 : decode cX4_seeds 116 = .ok (.ireturn, 1) := by decide +kernel
set_option maxRecDepth 20000 in
theorem ggX4_seeds_X4_bound : GoodIn wsX4_seeds wsX4_bound := goodIn_r _ [8] (by decide +kernel) (by decide +kernel)
set_option maxRecDepth 20000 in
theorem gX4_seeds_X4_bound : GoodIn wsX4_seeds (va_wsS RX4 66 yX4_bound wsX4_bound) := goodIn_app (goodIn_of _ (by decide +kernel)) ggX4_seeds_X4_bound
set_option maxRecDepth 20000 in
theorem ggX4_seeds_X4_no : GoodIn wsX4_seeds wsX4_no := goodIn_r _ [12, 13, 67, 68, 69, 70, 71, 72, 73, 74, 75, 76, 77, 78, 79, 80, 81, 82, 83, 84, 85, 86, 87, 88, 89, 90, 91, 92, 93, 94] (by decide +kernel) (by decide +kernel)
set_option maxRecDepth 20000 in
theorem gX4_seeds_X4_no : GoodIn wsX4_seeds (wsV RX4 73 RX4 yX4_no wsX4_no) := goodIn_app (goodIn_of _ (by decide +kernel)) ggX4_seeds_X4_no
set_option maxRecDepth 20000 in
theorem ggX4_seeds_X4_soonestFrom : GoodIn wsX4_seeds wsX4_soonestFrom := goodIn_r _ [17, 18, 19, 20, 7, 21, 22, 23, 24, 25, 26, 27, 28, 29, 30, 31, 32, 33, 34, 35, 36, 37, 38, 39, 40, 41, 42, 43, 44, 45, 46, 47, 48, 49, 50, 51, 52, 53, 54, 55, 56, 57, 4, 58, 59, 60, 61, 62, 63, 64, 65, 66, 67, 68, 69, 70, 71, 72, 73, 74, 75, 76, 77, 78, 79, 80, 81, 82, 83, 84, 85, 86, 87, 88, 89, 90, 91, 92, 93, 94] (by decide +kernel) (by decide +kernel)
set_option maxRecDepth 20000 in
theorem gX4_seeds_X4_soonestFrom : GoodIn wsX4_seeds (wsV RX4 179 RX4 yX4_soonestFrom wsX4_soonestFrom) := goodIn_app (goodIn_of _ (by decide +kernel)) ggX4_seeds_X4_soonestFrom
set_option maxHeartbeats 4000000 in
set_option maxRecDepth 100000 in
theorem mX4_seeds (l : Launch) (dC : Nat → ClassId) (dI : Nat → Nat → Nat) (cI cC : ClassId) (sk : (Nat → Nat) × (Nat → Nat)) (f : Nat → Nat) (sz : Nat) (p1 : Int32) (p2 : Int32) (c_r : RT) (c_refused : AR) (c_tape : AR) (c_letter : AR) (c_letterAt : AR) (c_number : AR) (c_taped : Int32) (c_at : Int32) (c_statements : Int32) (c_kept : AR) (c_hasImage : Int32) (c_isKeeping : Int32) (c_cursor : Int32) (c_poled : Int32) (c_barred : Int32) (c_leapsTo : AR) (c_leapsThen : AR) (c_lands : AR) (c_row : AR) (c_rowMany : Int32) (c_endsAt : Int32) (z : Int32 × AR) (h : fX4_seeds p1 p2 c_r c_refused c_poled c_barred = some z) : cRW l yX4_seeds wsX4_seeds (RMk 6 143) sk (dC, dI) (tyz cI cC) sz (zwM cI cC f c_r c_refused c_tape c_letter c_letterAt c_number c_taped c_at c_statements c_kept c_hasImage c_isKeeping c_cursor c_poled c_barred c_leapsTo c_leapsThen c_lands c_row c_rowMany c_endsAt) (zwM cI cC f c_r z.2 c_tape c_letter c_letterAt c_number c_taped c_at c_statements c_kept c_hasImage c_isKeeping c_cursor c_poled c_barred c_leapsTo c_leapsThen c_lands c_row c_rowMany c_endsAt) [.ref (f 0), .int p1, .int p2] z.1 := by
  refine ofRW (cc := cX4_seeds) (maxL := 9) (ret := (some .int)) (own := RX4) (plainFor_of_name (by decide)) rfl rfl (Nat.le_of_ble_eq_true rfl) ?_
  intro p e s m args below meth c A hA hx hb hml hr hts hown hlocks hE hK hP hD hS ls hl
  generalize hQ : qRW _ _ _ _ _ _ _ = Q
  have hl : lv_has ls 9 [(0, .ref (f 0)), (1, .int p1), (2, .int p2)] := hl
  have hiX4 : ∀ w ∈ wsX40, w ∈ wsX4_seeds := fun w h => List.mem_cons_of_mem _ (List.mem_append_right _ h)
  have hw1 := hts (Cond.constant RX4 227 (1664525)) (List.mem_of_getElem? (i := 1) rfl)
  have hw2 := hts (Cond.constant RX4 228 (1013904223)) (List.mem_of_getElem? (i := 2) rfl)
  have hw3 := hts (Cond.constant RX4 229 (2147483647)) (List.mem_of_getElem? (i := 3) rfl)
  have hw4 := hts (Cond.fieldLink RX4 101 "FloeToFloeModel" "minute" "I") (List.mem_of_getElem? (i := 4) rfl)
  rw [fX4_seeds] at h
  refine lv_iload_n hx hb dX4_seeds_0 rfl (lv_at hl 1 rfl) ?_
  refine lv_iconst (v := (1 : Int32)) hx hb dX4_seeds_1 (by decide) ?_
  refine lv_bipush (v := (20 : Int32)) hx hb dX4_seeds_2 (by decide) ?_
  obtain ⟨q4, e4, h⟩ := bd_some h
  refine g_roS (wc := ([] : va_W)) ⟨hx, hb, hml, hown, hts⟩ hE hK hP hS [] rfl (mX4_bound l dC dI cI cC sk  p1 (1 : Int32) (20 : Int32) q4 e4) (va_cwS 3 hts gX4_seeds_X4_bound rfl rfl rfl (by decide +kernel) ⟨Nat.le_of_ble_eq_true rfl, Nat.le_of_ble_eq_true rfl⟩) (As := [.int p1, .int (1 : Int32), .int (20 : Int32)]) (rest := []) rfl hl.1 rfl (Nat.le_of_ble_eq_true rfl) dX4_seeds_4 ⟨Nat.zero_le _, Nat.zero_le _⟩ (fun H locs hP hS => ?_)
  refine lv_istore_n (lv' := [(3, .int q4), (0, .ref (f 0)), (1, .int p1), (2, .int p2)]) hx hb dX4_seeds_7 rfl hl (by decide) rfl (fun ls hl => ?_)
  refine lv_iload_n hx hb dX4_seeds_8 rfl (lv_at hl 0 rfl) ?_
  refine lv_if_eq (tgt := 18) hx hb dX4_seeds_9 (by decide) (fun c9 => ?_) (fun c9 => ?_)
  · have h := itT c9 h
    refine lv_iload_n hx hb dX4_seeds_18 rfl (lv_at hl 3 rfl) ?_
    refine lv_istore (lv' := [(4, .int p2), (3, .int q4), (0, .ref (f 0)), (1, .int p1), (2, .int p2)]) hx hb dX4_seeds_19 hl (by decide) rfl (fun ls hl => ?_)
    refine lv_iconst (v := (0 : Int32)) hx hb dX4_seeds_21 (by decide) ?_
    refine lv_istore (lv' := [(5, .int (0 : Int32)), (4, .int p2), (3, .int q4), (0, .ref (f 0)), (1, .int p1), (2, .int p2)]) hx hb dX4_seeds_22 hl (by decide) rfl (fun ls hl => ?_)
    refine lv_iconst (v := (0 : Int32)) hx hb dX4_seeds_24 (by decide) ?_
    refine lv_istore (lv' := [(6, .int (0 : Int32)), (5, .int (0 : Int32)), (4, .int p2), (3, .int q4), (0, .ref (f 0)), (1, .int p1), (2, .int p2)]) hx hb dX4_seeds_25 hl (by decide) rfl (fun ls hl => ?_)
    have L27 : ∀ (K27 : Int32 → Option (Int32 × AR)), (∀ (k27_5 : Int32), K27 k27_5 = some z → ∀ (H : Heap) (locs : List Loc) (ls : Array Slot), va_P (dC, dI) vwCl (zwM cI cC f c_r c_refused c_tape c_letter c_letterAt c_number c_taped c_at c_statements c_kept c_hasImage c_isKeeping c_cursor c_poled c_barred c_leapsTo c_leapsThen c_lands c_row c_rowMany c_endsAt) H → va_D A (zwM cI cC f c_r c_refused c_tape c_letter c_letterAt c_number c_taped c_at c_statements c_kept c_hasImage c_isKeeping c_cursor c_poled c_barred c_leapsTo c_leapsThen c_lands c_row c_rowMany c_endsAt) → va_S A s.heap H locs → lv_has ls 9 [(5, .int k27_5)] → W p l e (RMk 6 143) s m args below meth c H locs 0 0 Q (F0 m 114 ls [])) → ∀ (n : Nat) (x27_4 : Int32) (x27_5 : Int32) (x27_6 : Int32), fX4_seeds_L27 c_barred c_poled c_r p1 K27 n x27_4 x27_5 x27_6 = some z → ∀ (H : Heap) (locs : List Loc) (ls : Array Slot), va_P (dC, dI) vwCl (zwM cI cC f c_r c_refused c_tape c_letter c_letterAt c_number c_taped c_at c_statements c_kept c_hasImage c_isKeeping c_cursor c_poled c_barred c_leapsTo c_leapsThen c_lands c_row c_rowMany c_endsAt) H → va_D A (zwM cI cC f c_r c_refused c_tape c_letter c_letterAt c_number c_taped c_at c_statements c_kept c_hasImage c_isKeeping c_cursor c_poled c_barred c_leapsTo c_leapsThen c_lands c_row c_rowMany c_endsAt) → va_S A s.heap H locs → lv_has ls 9 [(0, .ref (f 0)), (1, .int p1), (4, .int x27_4), (5, .int x27_5), (6, .int x27_6)] → W p l e (RMk 6 143) s m args below meth c H locs 0 0 Q (F0 m 27 ls []) := by
      intro K27 kx27 n
      induction n with
      | zero => intro x27_4 x27_5 x27_6 h; rw [fX4_seeds_L27] at h; cases h
      | succ n ih27 =>
        intro x27_4 x27_5 x27_6 h H locs ls hP hD hS hl
        rw [fX4_seeds_L27] at h
        refine lv_iload hx hb dX4_seeds_27 (lv_at hl 4 rfl) ?_
        refine lv_iload_n hx hb dX4_seeds_29 rfl (lv_at hl 1 rfl) ?_
        refine lv_icmp_ge (tgt := 114) hx hb dX4_seeds_30 (by decide) (fun c30 => ?_) (fun c30 => ?_)
        · have h := itT c30 h
          exact kx27 _ h _ _ _ hP hD hS (lv_sub hl [3] rfl)
        have h := itF c30 h
        refine lv_iload hx hb dX4_seeds_33 (lv_at hl 2 rfl) ?_
        refine lv_ldc hx hb hown hw1 dX4_seeds_35 ?_
        refine lv_imul hx hb dX4_seeds_37 ?_
        refine lv_ldc hx hb hown hw2 dX4_seeds_38 ?_
        refine lv_iadd hx hb dX4_seeds_40 ?_
        refine lv_istore (lv' := [(4, .int ((x27_4 * (1664525 : Int32)) + (1013904223 : Int32))), (0, .ref (f 0)), (1, .int p1), (5, .int x27_5), (6, .int x27_6)]) hx hb dX4_seeds_41 hl (by decide) rfl (fun ls hl => ?_)
        refine lv_iload hx hb dX4_seeds_43 (lv_at hl 0 rfl) ?_
        refine lv_ldc hx hb hown hw3 dX4_seeds_45 ?_
        refine lv_iand hx hb dX4_seeds_47 ?_
        refine lv_sipush (v := (256 : Int32)) hx hb dX4_seeds_48 (by decide) ?_
        refine lv_idiv hx hb dX4_seeds_51 (by decide) ?_
        refine lv_bipush (v := (10 : Int32)) hx hb dX4_seeds_52 (by decide) ?_
        refine lv_irem hx hb dX4_seeds_54 (by decide) ?_
        refine lv_istore (lv' := [(7, .int (((((x27_4 * (1664525 : Int32)) + (1013904223 : Int32)) &&& (2147483647 : Int32)) / (256 : Int32)) - ((((x27_4 * (1664525 : Int32)) + (1013904223 : Int32)) &&& (2147483647 : Int32)) / (256 : Int32)) / (10 : Int32) * (10 : Int32))), (4, .int ((x27_4 * (1664525 : Int32)) + (1013904223 : Int32))), (0, .ref (f 0)), (1, .int p1), (5, .int x27_5), (6, .int x27_6)]) hx hb dX4_seeds_55 hl (by decide) rfl (fun ls hl => ?_)
        refine lv_iload hx hb dX4_seeds_57 (lv_at hl 1 rfl) ?_
        refine lv_ldc hx hb hown hw1 dX4_seeds_59 ?_
        refine lv_imul hx hb dX4_seeds_61 ?_
        refine lv_ldc hx hb hown hw2 dX4_seeds_62 ?_
        refine lv_iadd hx hb dX4_seeds_64 ?_
        refine lv_istore (lv' := [(4, .int ((((x27_4 * (1664525 : Int32)) + (1013904223 : Int32)) * (1664525 : Int32)) + (1013904223 : Int32))), (7, .int (((((x27_4 * (1664525 : Int32)) + (1013904223 : Int32)) &&& (2147483647 : Int32)) / (256 : Int32)) - ((((x27_4 * (1664525 : Int32)) + (1013904223 : Int32)) &&& (2147483647 : Int32)) / (256 : Int32)) / (10 : Int32) * (10 : Int32))), (0, .ref (f 0)), (1, .int p1), (5, .int x27_5), (6, .int x27_6)]) hx hb dX4_seeds_65 hl (by decide) rfl (fun ls hl => ?_)
        refine lv_iload hx hb dX4_seeds_67 (lv_at hl 0 rfl) ?_
        refine lv_ldc hx hb hown hw3 dX4_seeds_69 ?_
        refine lv_iand hx hb dX4_seeds_71 ?_
        refine lv_sipush (v := (256 : Int32)) hx hb dX4_seeds_72 (by decide) ?_
        refine lv_idiv hx hb dX4_seeds_75 (by decide) ?_
        refine lv_bipush (v := (9 : Int32)) hx hb dX4_seeds_76 (by decide) ?_
        refine lv_irem hx hb dX4_seeds_78 (by decide) ?_
        refine lv_iconst (v := (1 : Int32)) hx hb dX4_seeds_79 (by decide) ?_
        refine lv_iadd hx hb dX4_seeds_80 ?_
        refine lv_istore (lv' := [(8, .int ((((((((x27_4 * (1664525 : Int32)) + (1013904223 : Int32)) * (1664525 : Int32)) + (1013904223 : Int32)) &&& (2147483647 : Int32)) / (256 : Int32)) - ((((((x27_4 * (1664525 : Int32)) + (1013904223 : Int32)) * (1664525 : Int32)) + (1013904223 : Int32)) &&& (2147483647 : Int32)) / (256 : Int32)) / (9 : Int32) * (9 : Int32)) + (1 : Int32))), (4, .int ((((x27_4 * (1664525 : Int32)) + (1013904223 : Int32)) * (1664525 : Int32)) + (1013904223 : Int32))), (7, .int (((((x27_4 * (1664525 : Int32)) + (1013904223 : Int32)) &&& (2147483647 : Int32)) / (256 : Int32)) - ((((x27_4 * (1664525 : Int32)) + (1013904223 : Int32)) &&& (2147483647 : Int32)) / (256 : Int32)) / (10 : Int32) * (10 : Int32))), (0, .ref (f 0)), (1, .int p1), (5, .int x27_5), (6, .int x27_6)]) hx hb dX4_seeds_81 hl (by decide) rfl (fun ls hl => ?_)
        refine lv_iload hx hb dX4_seeds_83 (lv_at hl 5 rfl) ?_
        refine lv_aload_n hx hb dX4_seeds_85 rfl (lv_at hl 3 rfl) ?_
        refine lv_iload hx hb dX4_seeds_86 (lv_at hl 0 rfl) ?_
        refine lv_iload hx hb dX4_seeds_88 (lv_at hl 2 rfl) ?_
        refine lv_aload_n hx hb dX4_seeds_90 rfl (lv_at hl 3 rfl) ?_
        refine va_get (D := (dC, dI)) (ci := 4) (v := .int (R_minute c_r)) (C := RX4) (T := TX4) (N := 28) hx hb hts hiX4 hown hK hP 0 rfl rfl 8 (by decide) hw4 (fun _ h9 => h9) rfl dX4_seeds_91 ?_
        obtain ⟨q94, e94, h⟩ := bd_some h
        refine g_roV (wc := (zwM cI cC f c_r c_refused c_tape c_letter c_letterAt c_number c_taped c_at c_statements c_kept c_hasImage c_isKeeping c_cursor c_poled c_barred c_leapsTo c_leapsThen c_lands c_row c_rowMany c_endsAt)) ⟨hx, hb, hml, hown, hts⟩ hE hK hP hS [0, 1, 2, 3, 4, 5, 6, 7, 8, 9, 10, 11, 12, 13, 14, 15] rfl (mX4_soonestFrom l dC dI cI cC sk f ((((((((x27_4 * (1664525 : Int32)) + (1013904223 : Int32)) * (1664525 : Int32)) + (1013904223 : Int32)) &&& (2147483647 : Int32)) / (256 : Int32)) - ((((((x27_4 * (1664525 : Int32)) + (1013904223 : Int32)) * (1664525 : Int32)) + (1013904223 : Int32)) &&& (2147483647 : Int32)) / (256 : Int32)) / (9 : Int32) * (9 : Int32)) + (1 : Int32)) (((((x27_4 * (1664525 : Int32)) + (1013904223 : Int32)) &&& (2147483647 : Int32)) / (256 : Int32)) - ((((x27_4 * (1664525 : Int32)) + (1013904223 : Int32)) &&& (2147483647 : Int32)) / (256 : Int32)) / (10 : Int32) * (10 : Int32)) (R_minute c_r) c_r c_refused c_tape c_letter c_letterAt c_number c_taped c_at c_statements c_kept c_hasImage c_isKeeping c_cursor c_poled c_barred c_leapsTo c_leapsThen c_lands c_row c_rowMany c_endsAt q94 e94) (cwV 3 hts gX4_seeds_X4_soonestFrom rfl rfl rfl (by decide +kernel) ⟨Nat.le_of_ble_eq_true rfl, Nat.le_of_ble_eq_true rfl⟩) (va_recv hK hP (ci := 4) (q0 := 0) rfl rfl) (As := [.int ((((((((x27_4 * (1664525 : Int32)) + (1013904223 : Int32)) * (1664525 : Int32)) + (1013904223 : Int32)) &&& (2147483647 : Int32)) / (256 : Int32)) - ((((((x27_4 * (1664525 : Int32)) + (1013904223 : Int32)) * (1664525 : Int32)) + (1013904223 : Int32)) &&& (2147483647 : Int32)) / (256 : Int32)) / (9 : Int32) * (9 : Int32)) + (1 : Int32)), .int (((((x27_4 * (1664525 : Int32)) + (1013904223 : Int32)) &&& (2147483647 : Int32)) / (256 : Int32)) - ((((x27_4 * (1664525 : Int32)) + (1013904223 : Int32)) &&& (2147483647 : Int32)) / (256 : Int32)) / (10 : Int32) * (10 : Int32)), .int (R_minute c_r)]) (rest := [.int x27_5]) rfl hl.1 rfl (Nat.le_of_ble_eq_true rfl) dX4_seeds_94 ⟨Nat.zero_le _, Nat.zero_le _⟩ (fun H locs hP hS => ?_)
        refine lv_if_lt (tgt := 104) hx hb dX4_seeds_97 (by decide) (fun c97 => ?_) (fun c97 => ?_)
        · have h := itT c97 h
          refine lv_iconst (v := (0 : Int32)) hx hb dX4_seeds_104 (by decide) ?_
          refine lv_iadd hx hb dX4_seeds_105 ?_
          refine lv_istore (lv' := [(5, .int (x27_5 + (0 : Int32))), (8, .int ((((((((x27_4 * (1664525 : Int32)) + (1013904223 : Int32)) * (1664525 : Int32)) + (1013904223 : Int32)) &&& (2147483647 : Int32)) / (256 : Int32)) - ((((((x27_4 * (1664525 : Int32)) + (1013904223 : Int32)) * (1664525 : Int32)) + (1013904223 : Int32)) &&& (2147483647 : Int32)) / (256 : Int32)) / (9 : Int32) * (9 : Int32)) + (1 : Int32))), (4, .int ((((x27_4 * (1664525 : Int32)) + (1013904223 : Int32)) * (1664525 : Int32)) + (1013904223 : Int32))), (7, .int (((((x27_4 * (1664525 : Int32)) + (1013904223 : Int32)) &&& (2147483647 : Int32)) / (256 : Int32)) - ((((x27_4 * (1664525 : Int32)) + (1013904223 : Int32)) &&& (2147483647 : Int32)) / (256 : Int32)) / (10 : Int32) * (10 : Int32))), (0, .ref (f 0)), (1, .int p1), (6, .int x27_6)]) hx hb dX4_seeds_106 hl (by decide) rfl (fun ls hl => ?_)
          refine lv_iinc (v := (x27_6 + (1 : Int32))) (lv' := [(6, .int (x27_6 + (1 : Int32))), (5, .int (x27_5 + (0 : Int32))), (8, .int ((((((((x27_4 * (1664525 : Int32)) + (1013904223 : Int32)) * (1664525 : Int32)) + (1013904223 : Int32)) &&& (2147483647 : Int32)) / (256 : Int32)) - ((((((x27_4 * (1664525 : Int32)) + (1013904223 : Int32)) * (1664525 : Int32)) + (1013904223 : Int32)) &&& (2147483647 : Int32)) / (256 : Int32)) / (9 : Int32) * (9 : Int32)) + (1 : Int32))), (4, .int ((((x27_4 * (1664525 : Int32)) + (1013904223 : Int32)) * (1664525 : Int32)) + (1013904223 : Int32))), (7, .int (((((x27_4 * (1664525 : Int32)) + (1013904223 : Int32)) &&& (2147483647 : Int32)) / (256 : Int32)) - ((((x27_4 * (1664525 : Int32)) + (1013904223 : Int32)) &&& (2147483647 : Int32)) / (256 : Int32)) / (10 : Int32) * (10 : Int32))), (0, .ref (f 0)), (1, .int p1)]) hx hb dX4_seeds_108 hl (k := 6) rfl rfl (by decide) rfl (fun ls hl => ?_)
          refine lv_goto (tgt := 27) hx hb dX4_seeds_111 (by decide) ?_
          exact ih27 _ _ _ h _ _ _ hP hD hS (lv_sub hl [5, 6, 3, 1, 0] rfl)
        have h := itF c97 h
        refine lv_iconst (v := (1 : Int32)) hx hb dX4_seeds_100 (by decide) ?_
        refine lv_goto (tgt := 105) hx hb dX4_seeds_101 (by decide) ?_
        refine lv_iadd hx hb dX4_seeds_105 ?_
        refine lv_istore (lv' := [(5, .int (x27_5 + (1 : Int32))), (8, .int ((((((((x27_4 * (1664525 : Int32)) + (1013904223 : Int32)) * (1664525 : Int32)) + (1013904223 : Int32)) &&& (2147483647 : Int32)) / (256 : Int32)) - ((((((x27_4 * (1664525 : Int32)) + (1013904223 : Int32)) * (1664525 : Int32)) + (1013904223 : Int32)) &&& (2147483647 : Int32)) / (256 : Int32)) / (9 : Int32) * (9 : Int32)) + (1 : Int32))), (4, .int ((((x27_4 * (1664525 : Int32)) + (1013904223 : Int32)) * (1664525 : Int32)) + (1013904223 : Int32))), (7, .int (((((x27_4 * (1664525 : Int32)) + (1013904223 : Int32)) &&& (2147483647 : Int32)) / (256 : Int32)) - ((((x27_4 * (1664525 : Int32)) + (1013904223 : Int32)) &&& (2147483647 : Int32)) / (256 : Int32)) / (10 : Int32) * (10 : Int32))), (0, .ref (f 0)), (1, .int p1), (6, .int x27_6)]) hx hb dX4_seeds_106 hl (by decide) rfl (fun ls hl => ?_)
        refine lv_iinc (v := (x27_6 + (1 : Int32))) (lv' := [(6, .int (x27_6 + (1 : Int32))), (5, .int (x27_5 + (1 : Int32))), (8, .int ((((((((x27_4 * (1664525 : Int32)) + (1013904223 : Int32)) * (1664525 : Int32)) + (1013904223 : Int32)) &&& (2147483647 : Int32)) / (256 : Int32)) - ((((((x27_4 * (1664525 : Int32)) + (1013904223 : Int32)) * (1664525 : Int32)) + (1013904223 : Int32)) &&& (2147483647 : Int32)) / (256 : Int32)) / (9 : Int32) * (9 : Int32)) + (1 : Int32))), (4, .int ((((x27_4 * (1664525 : Int32)) + (1013904223 : Int32)) * (1664525 : Int32)) + (1013904223 : Int32))), (7, .int (((((x27_4 * (1664525 : Int32)) + (1013904223 : Int32)) &&& (2147483647 : Int32)) / (256 : Int32)) - ((((x27_4 * (1664525 : Int32)) + (1013904223 : Int32)) &&& (2147483647 : Int32)) / (256 : Int32)) / (10 : Int32) * (10 : Int32))), (0, .ref (f 0)), (1, .int p1)]) hx hb dX4_seeds_108 hl (k := 6) rfl rfl (by decide) rfl (fun ls hl => ?_)
        refine lv_goto (tgt := 27) hx hb dX4_seeds_111 (by decide) ?_
        exact ih27 _ _ _ h _ _ _ hP hD hS (lv_sub hl [5, 6, 3, 1, 0] rfl)
    refine L27 _ (fun k27_5 h H locs ls hP hD hS hl => ?_) _ _ _ _ h _ _ _ hP hD hS (lv_sub hl [4, 5, 2, 1, 0] rfl)
    refine lv_iload hx hb dX4_seeds_114 (lv_at hl 0 rfl) ?_
    subst hQ
    exact retRW (zz := ((k27_5, c_refused) : Int32 × AR)) (fun z => z.1) (fun z => (zwM cI cC f c_r z.2 c_tape c_letter c_letterAt c_number c_taped c_at c_statements c_kept c_hasImage c_isKeeping c_cursor c_poled c_barred c_leapsTo c_leapsThen c_lands c_row c_rowMany c_endsAt)) hx hb hr hlocks rfl hS h rfl hP dX4_seeds_116
  have h := itF c9 h
  refine lv_aload_n hx hb dX4_seeds_12 rfl (lv_at hl 1 rfl) ?_
  refine lv_iload_n hx hb dX4_seeds_13 rfl (lv_at hl 0 rfl) ?_
  obtain ⟨q14, e14, h⟩ := bd_some h
  refine g_rwV (wc := (zwM cI cC f c_r c_refused c_tape c_letter c_letterAt c_number c_taped c_at c_statements c_kept c_hasImage c_isKeeping c_cursor c_poled c_barred c_leapsTo c_leapsThen c_lands c_row c_rowMany c_endsAt)) (wc' := (zwM cI cC f c_r q14.2 c_tape c_letter c_letterAt c_number c_taped c_at c_statements c_kept c_hasImage c_isKeeping c_cursor c_poled c_barred c_leapsTo c_leapsThen c_lands c_row c_rowMany c_endsAt)) ⟨hx, hb, hml, hown, hts⟩ hE hK hA hP hD hS [0, 1, 2, 3, 4, 5, 6, 7, 8, 9, 10, 11, 12, 13, 14, 15] rfl rfl rfl (mX4_no l dC dI cI cC sk f H.size q4 c_r c_refused c_tape c_letter c_letterAt c_number c_taped c_at c_statements c_kept c_hasImage c_isKeeping c_cursor c_poled c_barred c_leapsTo c_leapsThen c_lands c_row c_rowMany c_endsAt q14 e14) (cwV 1 hts gX4_seeds_X4_no rfl rfl rfl (by decide +kernel) ⟨Nat.le_of_ble_eq_true rfl, Nat.le_of_ble_eq_true rfl⟩) (va_recv hK hP (ci := 4) (q0 := 0) rfl rfl) (As := [.int q4]) (rest := []) rfl hl.1 rfl (Nat.le_of_ble_eq_true rfl) dX4_seeds_14 ⟨Nat.zero_le _, Nat.zero_le _⟩ (fun H locs hP hD hS => ?_)
  have hP : va_P (dC, dI) vwCl (zwM cI cC f c_r q14.2 c_tape c_letter c_letterAt c_number c_taped c_at c_statements c_kept c_hasImage c_isKeeping c_cursor c_poled c_barred c_leapsTo c_leapsThen c_lands c_row c_rowMany c_endsAt) H := hP
  have hD : va_D A (zwM cI cC f c_r q14.2 c_tape c_letter c_letterAt c_number c_taped c_at c_statements c_kept c_hasImage c_isKeeping c_cursor c_poled c_barred c_leapsTo c_leapsThen c_lands c_row c_rowMany c_endsAt) := hD
  subst hQ
  exact retRW (zz := ((q14.1, q14.2) : Int32 × AR)) (fun z => z.1) (fun z => (zwM cI cC f c_r z.2 c_tape c_letter c_letterAt c_number c_taped c_at c_statements c_kept c_hasImage c_isKeeping c_cursor c_poled c_barred c_leapsTo c_leapsThen c_lands c_row c_rowMany c_endsAt)) hx hb hr hlocks rfl hS h rfl hP dX4_seeds_17
