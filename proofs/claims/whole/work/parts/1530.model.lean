theorem dX4_reach_0 : decode cX4_reach 0 = .ok (.iload_n 2, 1) := by decide +kernel
theorem dX4_reach_1 : decode cX4_reach 1 = .ok (.invokestatic 173, 3) := by decide +kernel
theorem dX4_reach_4 : decode cX4_reach 4 = .ok (.ifCond .ne 7, 3) := by decide +kernel
theorem dX4_reach_7 : decode cX4_reach 7 = .ok (.iconst (-1), 1) := by decide +kernel
theorem dX4_reach_8 : decode cX4_reach 8 = .ok (.goto 35, 3) := by decide +kernel
theorem dX4_reach_11 : decode cX4_reach 11 = .ok (.iload_n 1, 1) := by decide +kernel
theorem dX4_reach_12 : decode cX4_reach 12 = .ok (.iconst 1, 1) := by decide +kernel
theorem dX4_reach_13 : decode cX4_reach 13 = .ok (.if_icmp .lt 7, 3) := by decide +kernel
theorem dX4_reach_16 : decode cX4_reach 16 = .ok (.iload_n 3, 1) := by decide +kernel
theorem dX4_reach_17 : decode cX4_reach 17 = .ok (.ifCond .ge 8, 3) := by decide +kernel
theorem dX4_reach_20 : decode cX4_reach 20 = .ok (.bipush (-4), 2) := by decide +kernel
theorem dX4_reach_22 : decode cX4_reach 22 = .ok (.goto 21, 3) := by decide +kernel
theorem dX4_reach_25 : decode cX4_reach 25 = .ok (.iload_n 1, 1) := by decide +kernel
theorem dX4_reach_26 : decode cX4_reach 26 = .ok (.bipush 9, 2) := by decide +kernel
theorem dX4_reach_28 : decode cX4_reach 28 = .ok (.if_icmp .gt 9, 3) := by decide +kernel
theorem dX4_reach_31 : decode cX4_reach 31 = .ok (.iload_n 3, 1) := by decide +kernel
theorem dX4_reach_32 : decode cX4_reach 32 = .ok (.bipush 40, 2) := by decide +kernel
theorem dX4_reach_34 : decode cX4_reach 34 = .ok (.if_icmp .le 8, 3) := by decide +kernel
theorem dX4_reach_37 : decode cX4_reach 37 = .ok (.bipush (-6), 2) := by decide +kernel
theorem dX4_reach_39 : decode cX4_reach 39 = .ok (.goto 4, 3) := by decide +kernel
theorem dX4_reach_42 : decode cX4_reach 42 = .ok (.iconst 0, 1) := by decide +kernel
theorem dX4_reach_43 : decode cX4_reach 43 = .ok (.istore 4, 2) := by decide +kernel
theorem dX4_reach_45 : decode cX4_reach 45 = .ok (.iload 4, 2) := by decide +kernel
theorem dX4_reach_47 : decode cX4_reach 47 = .ok (.ifCond .eq 10, 3) := by decide +kernel
theorem dX4_reach_50 : decode cX4_reach 50 = .ok (.aload_n 0, 1) := by decide +kernel
theorem dX4_reach_51 : decode cX4_reach 51 = .ok (.iload 4, 2) := by decide +kernel
theorem dX4_reach_53 : decode cX4_reach 53 = .ok (.invokevirtual 73, 3) := by decide +kernel
theorem dX4_reach_56 : decode cX4_reach 56 = .ok (.ireturn, 1) := by decide +kernel
theorem dX4_reach_57 : decode cX4_reach 57 = .ok (.iconst 1, 1) := by decide +kernel
theorem dX4_reach_58 : decode cX4_reach 58 = .ok (.iload_n 2, 1) := by decide +kernel
theorem dX4_reach_59 : decode cX4_reach 59 = .ok (.ishl, 1) := by decide +kernel
theorem dX4_reach_60 : decode cX4_reach 60 = .ok (.istore 5, 2) := by decide +kernel
theorem dX4_reach_62 : decode cX4_reach 62 = .ok (.iconst 0, 1) := by decide +kernel
theorem dX4_reach_63 : decode cX4_reach 63 = .ok (.istore 6, 2) := by decide +kernel
theorem dX4_reach_65 : decode cX4_reach 65 = .ok (.iload 6, 2) := by decide +kernel
theorem dX4_reach_67 : decode cX4_reach 67 = .ok (.iload_n 3, 1) := by decide +kernel
theorem dX4_reach_68 : decode cX4_reach 68 = .ok (.if_icmp .ge 25, 3) := by decide +kernel
theorem dX4_reach_71 : decode cX4_reach 71 = .ok (.aload_n 0, 1) := by decide +kernel
theorem dX4_reach_72 : decode cX4_reach 72 = .ok (.iload 5, 2) := by decide +kernel
theorem dX4_reach_74 : decode cX4_reach 74 = .ok (.iload_n 1, 1) := by decide +kernel
theorem dX4_reach_75 : decode cX4_reach 75 = .ok (.aload_n 0, 1) := by decide +kernel
theorem dX4_reach_76 : decode cX4_reach 76 = .ok (.getfield 101, 3) := by decide +kernel
theorem dX4_reach_79 : decode cX4_reach 79 = .ok (.iload 6, 2) := by decide +kernel
theorem dX4_reach_81 : decode cX4_reach 81 = .ok (.iadd, 1) := by decide +kernel
theorem dX4_reach_82 : decode cX4_reach 82 = .ok (.invokevirtual 170, 3) := by decide +kernel
theorem dX4_reach_85 : decode cX4_reach 85 = .ok (.istore 5, 2) := by decide +kernel
theorem dX4_reach_87 : decode cX4_reach 87 = .ok (.iinc 6 1, 3) := by decide +kernel
theorem dX4_reach_90 : decode cX4_reach 90 = .ok (.goto (-25), 3) := by decide +kernel
theorem dX4_reach_93 : decode cX4_reach 93 = .ok (.iload 5, 2) := by decide +kernel
theorem dX4_reach_95 : decode cX4_reach 95 = .ok (.invokestatic 189, 3) := by decide +kernel
theorem dX4_reach_98 : decode cX4_reach 98 = .ok (.iload 5, 2) := by decide +kernel
theorem dX4_reach_100 : decode cX4_reach 100 = .ok (.bipush 18, 2) := by decide +kernel
theorem dX4_reach_102 : decode cX4_reach 102 = .ok (.ishr, 1) := by decide +kernel
theorem dX4_reach_103 : decode cX4_reach 103 = .ok (.iconst 1, 1) := by decide +kernel
theorem dX4_reach_104 : decode cX4_reach 104 = .ok (.iand, 1) := by decide +kernel
theorem dX4_reach_105 : decode cX4_reach 105 = .ok (.sipush 256, 3) := by decide +kernel
theorem dX4_reach_108 : decode cX4_reach 108 = .ok (.imul, 1) := by decide +kernel
theorem dX4_reach_109 : decode cX4_reach 109 = .ok (.iadd, 1) := by decide +kernel
theorem dX4_reach_110 : decode cX4_reach 110 = .ok (.iload 5, 2) := by decide +kernel
theorem dX4_reach_112 : decode cX4_reach 112 = .ok (.sipush 1023, 3) := by decide +kernel
theorem dX4_reach_115 : decode cX4_reach 115 = .ok (.iand, 1) := by decide +kernel
theorem dX4_reach_116 : decode cX4_reach 116 = .ok (.ifCond .eq 9, 3) := by decide +kernel
theorem dX4_reach_119 : decode cX4_reach 119 = .ok (.sipush 512, 3) := by decide +kernel
theorem dX4_reach_122 : decode cX4_reach 122 = .ok (.goto 4, 3) := by decide +kernel
theorem dX4_reach_125 : decode cX4_reach 125 = .ok (.iconst 0, 1) := by decide +kernel
theorem dX4_reach_126 : decode cX4_reach 126 = .ok (.iadd, 1) := by decide +kernel
theorem dX4_reach_127 : decode cX4_reach 127 = .ok (.ireturn, 1) := by decide +kernel
set_option maxRecDepth 20000 in
theorem ggX4_reach_X4_isCell : GoodIn wsX4_reach wsX4_isCell := goodIn_r _ [5, 6, 7, 4, 8] (by decide +kernel) (by decide +kernel)
set_option maxRecDepth 20000 in
theorem gX4_reach_X4_isCell : GoodIn wsX4_reach (va_wsS RX4 173 yX4_isCell wsX4_isCell) := goodIn_app (goodIn_of _ (by decide +kernel)) ggX4_reach_X4_isCell
set_option maxRecDepth 20000 in
theorem ggX4_reach_X4_no : GoodIn wsX4_reach wsX4_no := goodIn_r _ [12, 13, 63, 64, 65, 66, 67, 68, 69, 70, 71, 72, 73, 74, 75, 76, 77, 78, 79, 80, 81, 82, 83, 84, 85, 86, 87, 88, 89, 90] (by decide +kernel) (by decide +kernel)
set_option maxRecDepth 20000 in
theorem gX4_reach_X4_no : GoodIn wsX4_reach (wsV RX4 73 RX4 yX4_no wsX4_no) := goodIn_app (goodIn_of _ (by decide +kernel)) ggX4_reach_X4_no
set_option maxRecDepth 20000 in
theorem ggX4_reach_X4_goesOn : GoodIn wsX4_reach wsX4_goesOn := goodIn_r _ [17, 18, 19, 20, 4, 21, 22, 23, 24, 25, 26, 27, 28, 29, 30, 31, 32, 33, 34, 35, 36, 37, 38, 39, 40, 41, 42, 43, 44, 45, 6, 7, 8, 46, 47, 48, 49, 50, 1, 51, 52, 53, 54, 55, 56, 57, 58, 59, 63, 64, 65, 66, 67, 68, 69, 70, 71, 72, 73, 74, 75, 76, 77, 78, 79, 80, 81, 82, 83, 84, 85, 86, 87, 88, 89, 90] (by decide +kernel) (by decide +kernel)
set_option maxRecDepth 20000 in
theorem gX4_reach_X4_goesOn : GoodIn wsX4_reach (wsV RX4 170 RX4 yX4_goesOn wsX4_goesOn) := goodIn_app (goodIn_of _ (by decide +kernel)) ggX4_reach_X4_goesOn
set_option maxRecDepth 20000 in
theorem ggX4_reach_X4_floesOf : GoodIn wsX4_reach wsX4_floesOf := goodIn_r _ [62] (by decide +kernel) (by decide +kernel)
set_option maxRecDepth 20000 in
theorem gX4_reach_X4_floesOf : GoodIn wsX4_reach (va_wsS RX4 189 yX4_floesOf wsX4_floesOf) := goodIn_app (goodIn_of _ (by decide +kernel)) ggX4_reach_X4_floesOf
set_option maxHeartbeats 4000000 in
set_option maxRecDepth 100000 in
theorem mX4_reach (l : Launch) (dC : Nat → ClassId) (dI : Nat → Nat → Nat) (cI cC : ClassId) (sk : (Nat → Nat) × (Nat → Nat)) (f : Nat → Nat) (sz : Nat) (p1 : Int32) (p2 : Int32) (p3 : Int32) (c_r : RT) (c_refused : AR) (c_tape : AR) (c_letter : AR) (c_letterAt : AR) (c_number : AR) (c_taped : Int32) (c_at : Int32) (c_statements : Int32) (c_kept : AR) (c_hasImage : Int32) (c_isKeeping : Int32) (c_cursor : Int32) (c_poled : Int32) (c_barred : Int32) (c_leapsTo : AR) (c_leapsThen : AR) (c_lands : AR) (c_row : AR) (c_rowMany : Int32) (c_endsAt : Int32) (z : Int32 × AR) (h : fX4_reach p1 p2 p3 c_r c_refused c_poled c_barred = some z) : cRW l yX4_reach wsX4_reach (RMk 5 118) sk (dC, dI) (tyz cI cC) sz (zwM cI cC f c_r c_refused c_tape c_letter c_letterAt c_number c_taped c_at c_statements c_kept c_hasImage c_isKeeping c_cursor c_poled c_barred c_leapsTo c_leapsThen c_lands c_row c_rowMany c_endsAt) (zwM cI cC f c_r z.2 c_tape c_letter c_letterAt c_number c_taped c_at c_statements c_kept c_hasImage c_isKeeping c_cursor c_poled c_barred c_leapsTo c_leapsThen c_lands c_row c_rowMany c_endsAt) [.ref (f 0), .int p1, .int p2, .int p3] z.1 := by
  refine ofRW (cc := cX4_reach) (maxL := 7) (ret := (some .int)) (own := RX4) (plainFor_of_name (by decide)) rfl rfl (Nat.le_of_ble_eq_true rfl) ?_
  intro p e s m args below meth c A hA hx hb hml hr hts hown hlocks hE hK hP hD hS ls hl
  generalize hQ : qRW _ _ _ _ _ _ _ = Q
  have hl : lv_has ls 7 [(0, .ref (f 0)), (1, .int p1), (2, .int p2), (3, .int p3)] := hl
  have hiX4 : ∀ w ∈ wsX40, w ∈ wsX4_reach := fun w h => List.mem_cons_of_mem _ (List.mem_append_right _ h)
  have hw1 := hts (Cond.fieldLink RX4 101 "FloeToFloeModel" "minute" "I") (List.mem_of_getElem? (i := 1) rfl)
  rw [fX4_reach] at h
  refine lv_iload_n hx hb dX4_reach_0 rfl (lv_at hl 2 rfl) ?_
  obtain ⟨q1, e1, h⟩ := bd_some h
  refine g_roS (wc := ([] : va_W)) ⟨hx, hb, hml, hown, hts⟩ hE hK hP hS [] rfl (mX4_isCell l dC dI cI cC sk  p2 q1 e1) (va_cwS 1 hts gX4_reach_X4_isCell rfl rfl rfl (by decide +kernel) ⟨Nat.le_of_ble_eq_true rfl, Nat.le_of_ble_eq_true rfl⟩) (As := [.int p2]) (rest := []) rfl hl.1 rfl (Nat.le_of_ble_eq_true rfl) dX4_reach_1 ⟨Nat.zero_le _, Nat.zero_le _⟩ (fun H locs hP hS => ?_)
  refine jnW (fun (v43 : Int32) => ∀ (H : Heap) (locs : List Loc) (ls : Array Slot), va_P (dC, dI) vwCl (zwM cI cC f c_r c_refused c_tape c_letter c_letterAt c_number c_taped c_at c_statements c_kept c_hasImage c_isKeeping c_cursor c_poled c_barred c_leapsTo c_leapsThen c_lands c_row c_rowMany c_endsAt) H → va_D A (zwM cI cC f c_r c_refused c_tape c_letter c_letterAt c_number c_taped c_at c_statements c_kept c_hasImage c_isKeeping c_cursor c_poled c_barred c_leapsTo c_leapsThen c_lands c_row c_rowMany c_endsAt) → va_S A s.heap H locs → lv_has ls 7 [(0, .ref (f 0)), (1, .int p1), (2, .int p2), (3, .int p3)] → W p l e (RMk 5 118) s m args below meth c H locs 0 0 Q (F0 m 43 ls [.int v43])) h (fun v43 h H locs ls hP hD hS hl => ?_) (fun J43 j43 h => ?_)
  · refine lv_istore (lv' := [(4, .int v43), (0, .ref (f 0)), (1, .int p1), (2, .int p2), (3, .int p3)]) hx hb dX4_reach_43 hl (by decide) rfl (fun ls hl => ?_)
    refine lv_iload hx hb dX4_reach_45 (lv_at hl 0 rfl) ?_
    refine lv_if_eq (tgt := 57) hx hb dX4_reach_47 (by decide) (fun c47 => ?_) (fun c47 => ?_)
    · have h := itT c47 h
      refine lv_iconst (v := (1 : Int32)) hx hb dX4_reach_57 (by decide) ?_
      refine lv_iload_n hx hb dX4_reach_58 rfl (lv_at hl 3 rfl) ?_
      refine lv_ishl hx hb dX4_reach_59 ?_
      refine lv_istore (lv' := [(5, .int ((1 : Int32) <<< (p2 &&& 31))), (4, .int v43), (0, .ref (f 0)), (1, .int p1), (2, .int p2), (3, .int p3)]) hx hb dX4_reach_60 hl (by decide) rfl (fun ls hl => ?_)
      refine lv_iconst (v := (0 : Int32)) hx hb dX4_reach_62 (by decide) ?_
      refine lv_istore (lv' := [(6, .int (0 : Int32)), (5, .int ((1 : Int32) <<< (p2 &&& 31))), (4, .int v43), (0, .ref (f 0)), (1, .int p1), (2, .int p2), (3, .int p3)]) hx hb dX4_reach_63 hl (by decide) rfl (fun ls hl => ?_)
      have L65 : ∀ (K65 : Int32 → Option (Int32 × AR)), (∀ (k65_5 : Int32), K65 k65_5 = some z → ∀ (H : Heap) (locs : List Loc) (ls : Array Slot), va_P (dC, dI) vwCl (zwM cI cC f c_r c_refused c_tape c_letter c_letterAt c_number c_taped c_at c_statements c_kept c_hasImage c_isKeeping c_cursor c_poled c_barred c_leapsTo c_leapsThen c_lands c_row c_rowMany c_endsAt) H → va_D A (zwM cI cC f c_r c_refused c_tape c_letter c_letterAt c_number c_taped c_at c_statements c_kept c_hasImage c_isKeeping c_cursor c_poled c_barred c_leapsTo c_leapsThen c_lands c_row c_rowMany c_endsAt) → va_S A s.heap H locs → lv_has ls 7 [(5, .int k65_5)] → W p l e (RMk 5 118) s m args below meth c H locs 0 0 Q (F0 m 93 ls [])) → ∀ (n : Nat) (x65_5 : Int32) (x65_6 : Int32), fX4_reach_L65 c_barred c_poled c_r p1 p3 K65 n x65_5 x65_6 = some z → ∀ (H : Heap) (locs : List Loc) (ls : Array Slot), va_P (dC, dI) vwCl (zwM cI cC f c_r c_refused c_tape c_letter c_letterAt c_number c_taped c_at c_statements c_kept c_hasImage c_isKeeping c_cursor c_poled c_barred c_leapsTo c_leapsThen c_lands c_row c_rowMany c_endsAt) H → va_D A (zwM cI cC f c_r c_refused c_tape c_letter c_letterAt c_number c_taped c_at c_statements c_kept c_hasImage c_isKeeping c_cursor c_poled c_barred c_leapsTo c_leapsThen c_lands c_row c_rowMany c_endsAt) → va_S A s.heap H locs → lv_has ls 7 [(0, .ref (f 0)), (1, .int p1), (3, .int p3), (5, .int x65_5), (6, .int x65_6)] → W p l e (RMk 5 118) s m args below meth c H locs 0 0 Q (F0 m 65 ls []) := by
        intro K65 kx65 n
        induction n with
        | zero => intro x65_5 x65_6 h; rw [fX4_reach_L65] at h; cases h
        | succ n ih65 =>
          intro x65_5 x65_6 h H locs ls hP hD hS hl
          rw [fX4_reach_L65] at h
          refine lv_iload hx hb dX4_reach_65 (lv_at hl 4 rfl) ?_
          refine lv_iload_n hx hb dX4_reach_67 rfl (lv_at hl 2 rfl) ?_
          refine lv_icmp_ge (tgt := 93) hx hb dX4_reach_68 (by decide) (fun c68 => ?_) (fun c68 => ?_)
          · have h := itT c68 h
            exact kx65 _ h _ _ _ hP hD hS (lv_sub hl [3] rfl)
          have h := itF c68 h
          refine lv_aload_n hx hb dX4_reach_71 rfl (lv_at hl 0 rfl) ?_
          refine lv_iload hx hb dX4_reach_72 (lv_at hl 3 rfl) ?_
          refine lv_iload_n hx hb dX4_reach_74 rfl (lv_at hl 1 rfl) ?_
          refine lv_aload_n hx hb dX4_reach_75 rfl (lv_at hl 0 rfl) ?_
          refine va_get (D := (dC, dI)) (ci := 4) (v := .int (R_minute c_r)) (C := RX4) (T := TX4) (N := 28) hx hb hts hiX4 hown hK hP 0 rfl rfl 8 (by decide) hw1 (fun _ h9 => h9) rfl dX4_reach_76 ?_
          refine lv_iload hx hb dX4_reach_79 (lv_at hl 4 rfl) ?_
          refine lv_iadd hx hb dX4_reach_81 ?_
          obtain ⟨q82, e82, h⟩ := bd_some h
          refine g_roV (wc := (zwM cI cC f c_r c_refused c_tape c_letter c_letterAt c_number c_taped c_at c_statements c_kept c_hasImage c_isKeeping c_cursor c_poled c_barred c_leapsTo c_leapsThen c_lands c_row c_rowMany c_endsAt)) ⟨hx, hb, hml, hown, hts⟩ hE hK hP hS [0, 1, 2, 3, 4, 5, 6, 7, 8, 9, 10, 11, 12, 13, 14, 15] rfl (mX4_goesOn l dC dI cI cC sk f x65_5 p1 ((R_minute c_r) + x65_6) c_r c_refused c_tape c_letter c_letterAt c_number c_taped c_at c_statements c_kept c_hasImage c_isKeeping c_cursor c_poled c_barred c_leapsTo c_leapsThen c_lands c_row c_rowMany c_endsAt q82 e82) (cwV 3 hts gX4_reach_X4_goesOn rfl rfl rfl (by decide +kernel) ⟨Nat.le_of_ble_eq_true rfl, Nat.le_of_ble_eq_true rfl⟩) (va_recv hK hP (ci := 4) (q0 := 0) rfl rfl) (As := [.int x65_5, .int p1, .int ((R_minute c_r) + x65_6)]) (rest := []) rfl hl.1 rfl (Nat.le_of_ble_eq_true rfl) dX4_reach_82 ⟨Nat.zero_le _, Nat.zero_le _⟩ (fun H locs hP hS => ?_)
          refine lv_istore (lv' := [(5, .int q82), (0, .ref (f 0)), (1, .int p1), (3, .int p3), (6, .int x65_6)]) hx hb dX4_reach_85 hl (by decide) rfl (fun ls hl => ?_)
          refine lv_iinc (v := (x65_6 + (1 : Int32))) (lv' := [(6, .int (x65_6 + (1 : Int32))), (5, .int q82), (0, .ref (f 0)), (1, .int p1), (3, .int p3)]) hx hb dX4_reach_87 hl (k := 4) rfl rfl (by decide) rfl (fun ls hl => ?_)
          refine lv_goto (tgt := 65) hx hb dX4_reach_90 (by decide) ?_
          exact ih65 _ _ h _ _ _ hP hD hS (lv_sub hl [2, 3, 4, 1, 0] rfl)
      refine L65 _ (fun k65_5 h H locs ls hP hD hS hl => ?_) _ _ _ h _ _ _ hP hD hS (lv_sub hl [3, 4, 6, 1, 0] rfl)
      refine lv_iload hx hb dX4_reach_93 (lv_at hl 0 rfl) ?_
      obtain ⟨q95, e95, h⟩ := bd_some h
      refine g_roS (wc := ([] : va_W)) ⟨hx, hb, hml, hown, hts⟩ hE hK hP hS [] rfl (mX4_floesOf l dC dI cI cC sk  k65_5 q95 e95) (va_cwS 1 hts gX4_reach_X4_floesOf rfl rfl rfl (by decide +kernel) ⟨Nat.le_of_ble_eq_true rfl, Nat.le_of_ble_eq_true rfl⟩) (As := [.int k65_5]) (rest := []) rfl hl.1 rfl (Nat.le_of_ble_eq_true rfl) dX4_reach_95 ⟨Nat.zero_le _, Nat.zero_le _⟩ (fun H locs hP hS => ?_)
      refine lv_iload hx hb dX4_reach_98 (lv_at hl 0 rfl) ?_
      refine lv_bipush (v := (18 : Int32)) hx hb dX4_reach_100 (by decide) ?_
      refine lv_ishr hx hb dX4_reach_102 ?_
      refine lv_iconst (v := (1 : Int32)) hx hb dX4_reach_103 (by decide) ?_
      refine lv_iand hx hb dX4_reach_104 ?_
      refine lv_sipush (v := (256 : Int32)) hx hb dX4_reach_105 (by decide) ?_
      refine lv_imul hx hb dX4_reach_108 ?_
      refine lv_iadd hx hb dX4_reach_109 ?_
      refine lv_iload hx hb dX4_reach_110 (lv_at hl 0 rfl) ?_
      refine lv_sipush (v := (1023 : Int32)) hx hb dX4_reach_112 (by decide) ?_
      refine lv_iand hx hb dX4_reach_115 ?_
      refine lv_if_eq (tgt := 125) hx hb dX4_reach_116 (by decide) (fun c116 => ?_) (fun c116 => ?_)
      · have h := itT c116 h
        refine lv_iconst (v := (0 : Int32)) hx hb dX4_reach_125 (by decide) ?_
        refine lv_iadd hx hb dX4_reach_126 ?_
        subst hQ
        exact retRW (zz := ((((q95 + (((k65_5 >>> ((18 : Int32) &&& 31)) &&& (1 : Int32)) * (256 : Int32))) + (0 : Int32)), c_refused) : Int32 × AR)) (fun z => z.1) (fun z => (zwM cI cC f c_r z.2 c_tape c_letter c_letterAt c_number c_taped c_at c_statements c_kept c_hasImage c_isKeeping c_cursor c_poled c_barred c_leapsTo c_leapsThen c_lands c_row c_rowMany c_endsAt)) hx hb hr hlocks rfl hS h rfl hP dX4_reach_127
      have h := itF c116 h
      refine lv_sipush (v := (512 : Int32)) hx hb dX4_reach_119 (by decide) ?_
      refine lv_goto (tgt := 126) hx hb dX4_reach_122 (by decide) ?_
      refine lv_iadd hx hb dX4_reach_126 ?_
      subst hQ
      exact retRW (zz := ((((q95 + (((k65_5 >>> ((18 : Int32) &&& 31)) &&& (1 : Int32)) * (256 : Int32))) + (512 : Int32)), c_refused) : Int32 × AR)) (fun z => z.1) (fun z => (zwM cI cC f c_r z.2 c_tape c_letter c_letterAt c_number c_taped c_at c_statements c_kept c_hasImage c_isKeeping c_cursor c_poled c_barred c_leapsTo c_leapsThen c_lands c_row c_rowMany c_endsAt)) hx hb hr hlocks rfl hS h rfl hP dX4_reach_127
    have h := itF c47 h
    refine lv_aload_n hx hb dX4_reach_50 rfl (lv_at hl 1 rfl) ?_
    refine lv_iload hx hb dX4_reach_51 (lv_at hl 0 rfl) ?_
    obtain ⟨q53, e53, h⟩ := bd_some h
    refine g_rwA (wc := (zwM cI cC f c_r c_refused c_tape c_letter c_letterAt c_number c_taped c_at c_statements c_kept c_hasImage c_isKeeping c_cursor c_poled c_barred c_leapsTo c_leapsThen c_lands c_row c_rowMany c_endsAt)) (wc' := (zwM cI cC f c_r q53.2 c_tape c_letter c_letterAt c_number c_taped c_at c_statements c_kept c_hasImage c_isKeeping c_cursor c_poled c_barred c_leapsTo c_leapsThen c_lands c_row c_rowMany c_endsAt)) ⟨hx, hb, hml, hown, hts⟩ hE hK hA hP hD hS rfl (mX4_no l dC dI cI cC sk f H.size v43 c_r c_refused c_tape c_letter c_letterAt c_number c_taped c_at c_statements c_kept c_hasImage c_isKeeping c_cursor c_poled c_barred c_leapsTo c_leapsThen c_lands c_row c_rowMany c_endsAt q53 e53) (cwV 1 hts gX4_reach_X4_no rfl rfl rfl (by decide +kernel) ⟨Nat.le_of_ble_eq_true rfl, Nat.le_of_ble_eq_true rfl⟩) (va_recv hK hP (ci := 4) (q0 := 0) rfl rfl) (As := [.int v43]) (rest := []) rfl hl.1 rfl (Nat.le_of_ble_eq_true rfl) dX4_reach_53 ⟨Nat.zero_le _, Nat.zero_le _⟩ (fun H locs hP hD hS => ?_)
    have hP : va_P (dC, dI) vwCl (zwM cI cC f c_r q53.2 c_tape c_letter c_letterAt c_number c_taped c_at c_statements c_kept c_hasImage c_isKeeping c_cursor c_poled c_barred c_leapsTo c_leapsThen c_lands c_row c_rowMany c_endsAt) H := hP
    have hD : va_D A (zwM cI cC f c_r q53.2 c_tape c_letter c_letterAt c_number c_taped c_at c_statements c_kept c_hasImage c_isKeeping c_cursor c_poled c_barred c_leapsTo c_leapsThen c_lands c_row c_rowMany c_endsAt) := hD
    subst hQ
    exact retRW (zz := ((q53.1, q53.2) : Int32 × AR)) (fun z => z.1) (fun z => (zwM cI cC f c_r z.2 c_tape c_letter c_letterAt c_number c_taped c_at c_statements c_kept c_hasImage c_isKeeping c_cursor c_poled c_barred c_leapsTo c_leapsThen c_lands c_row c_rowMany c_endsAt)) hx hb hr hlocks rfl hS h rfl hP dX4_reach_56
  refine lv_if_ne (tgt := 11) hx hb dX4_reach_4 (by decide) (fun c4 => ?_) (fun c4 => ?_)
  · have h := itF c4 h
    refine lv_iload_n hx hb dX4_reach_11 rfl (lv_at hl 1 rfl) ?_
    refine lv_iconst (v := (1 : Int32)) hx hb dX4_reach_12 (by decide) ?_
    refine lv_icmp_lt (tgt := 20) hx hb dX4_reach_13 (by decide) (fun c13 => ?_) (fun c13 => ?_)
    · have h := itT c13 h
      refine lv_bipush (v := (-4 : Int32)) hx hb dX4_reach_20 (by decide) ?_
      refine lv_goto (tgt := 43) hx hb dX4_reach_22 (by decide) ?_
      exact j43 _ h _ _ _ hP hD hS (lv_sub hl [0, 1, 2, 3] rfl)
    have h := itF c13 h
    refine lv_iload_n hx hb dX4_reach_16 rfl (lv_at hl 3 rfl) ?_
    refine lv_if_ge (tgt := 25) hx hb dX4_reach_17 (by decide) (fun c17 => ?_) (fun c17 => ?_)
    · have h := itT c17 h
      refine lv_iload_n hx hb dX4_reach_25 rfl (lv_at hl 1 rfl) ?_
      refine lv_bipush (v := (9 : Int32)) hx hb dX4_reach_26 (by decide) ?_
      refine lv_icmp_gt (tgt := 37) hx hb dX4_reach_28 (by decide) (fun c28 => ?_) (fun c28 => ?_)
      · have h := itT c28 h
        refine lv_bipush (v := (-6 : Int32)) hx hb dX4_reach_37 (by decide) ?_
        refine lv_goto (tgt := 43) hx hb dX4_reach_39 (by decide) ?_
        exact j43 _ h _ _ _ hP hD hS (lv_sub hl [0, 1, 2, 3] rfl)
      have h := itF c28 h
      refine lv_iload_n hx hb dX4_reach_31 rfl (lv_at hl 3 rfl) ?_
      refine lv_bipush (v := (40 : Int32)) hx hb dX4_reach_32 (by decide) ?_
      refine lv_icmp_le (tgt := 42) hx hb dX4_reach_34 (by decide) (fun c34 => ?_) (fun c34 => ?_)
      · have h := itT c34 h
        refine lv_iconst (v := (0 : Int32)) hx hb dX4_reach_42 (by decide) ?_
        exact j43 _ h _ _ _ hP hD hS (lv_sub hl [0, 1, 2, 3] rfl)
      have h := itF c34 h
      refine lv_bipush (v := (-6 : Int32)) hx hb dX4_reach_37 (by decide) ?_
      refine lv_goto (tgt := 43) hx hb dX4_reach_39 (by decide) ?_
      exact j43 _ h _ _ _ hP hD hS (lv_sub hl [0, 1, 2, 3] rfl)
    have h := itF c17 h
    refine lv_bipush (v := (-4 : Int32)) hx hb dX4_reach_20 (by decide) ?_
    refine lv_goto (tgt := 43) hx hb dX4_reach_22 (by decide) ?_
    exact j43 _ h _ _ _ hP hD hS (lv_sub hl [0, 1, 2, 3] rfl)
  have h := itT c4 h
  refine lv_iconst (v := (-1 : Int32)) hx hb dX4_reach_7 (by decide) ?_
  refine lv_goto (tgt := 43) hx hb dX4_reach_8 (by decide) ?_
  exact j43 _ h _ _ _ hP hD hS (lv_sub hl [0, 1, 2, 3] rfl)
