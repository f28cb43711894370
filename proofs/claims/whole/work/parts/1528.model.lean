theorem dX4_goesOnLeaping_0 : decode cX4_goesOnLeaping 0 = .ok (.iconst 0, 1) := by decide +kernel
theorem dX4_goesOnLeaping_1 : decode cX4_goesOnLeaping 1 = .ok (.istore_n 3, 1) := by decide +kernel
theorem dX4_goesOnLeaping_2 : decode cX4_goesOnLeaping 2 = .ok (.iload_n 3, 1) := by decide +kernel
theorem dX4_goesOnLeaping_3 : decode cX4_goesOnLeaping 3 = .ok (.bipush 19, 2) := by decide +kernel
theorem dX4_goesOnLeaping_5 : decode cX4_goesOnLeaping 5 = .ok (.if_icmp .ge 17, 3) := by decide +kernel
theorem dX4_goesOnLeaping_8 : decode cX4_goesOnLeaping 8 = .ok (.aload_n 0, 1) := by decide +kernel
theorem dX4_goesOnLeaping_9 : decode cX4_goesOnLeaping 9 = .ok (.getfield 50, 3) := by decide +kernel
theorem dX4_goesOnLeaping_12 : decode cX4_goesOnLeaping 12 = .ok (.iload_n 3, 1) := by decide +kernel
theorem dX4_goesOnLeaping_13 : decode cX4_goesOnLeaping 13 = .ok (.bipush (-9), 2) := by decide +kernel
theorem dX4_goesOnLeaping_15 : decode cX4_goesOnLeaping 15 = .ok (.iastore, 1) := by decide +kernel
theorem dX4_goesOnLeaping_16 : decode cX4_goesOnLeaping 16 = .ok (.iinc 3 1, 3) := by decide +kernel
theorem dX4_goesOnLeaping_19 : decode cX4_goesOnLeaping 19 = .ok (.goto (-17), 3) := by decide +kernel
theorem dX4_goesOnLeaping_22 : decode cX4_goesOnLeaping 22 = .ok (.iconst 0, 1) := by decide +kernel
theorem dX4_goesOnLeaping_23 : decode cX4_goesOnLeaping 23 = .ok (.istore_n 3, 1) := by decide +kernel
theorem dX4_goesOnLeaping_24 : decode cX4_goesOnLeaping 24 = .ok (.iload_n 3, 1) := by decide +kernel
theorem dX4_goesOnLeaping_25 : decode cX4_goesOnLeaping 25 = .ok (.bipush 19, 2) := by decide +kernel
theorem dX4_goesOnLeaping_27 : decode cX4_goesOnLeaping 27 = .ok (.if_icmp .ge 84, 3) := by decide +kernel
theorem dX4_goesOnLeaping_30 : decode cX4_goesOnLeaping 30 = .ok (.iconst 0, 1) := by decide +kernel
theorem dX4_goesOnLeaping_31 : decode cX4_goesOnLeaping 31 = .ok (.istore 4, 2) := by decide +kernel
theorem dX4_goesOnLeaping_33 : decode cX4_goesOnLeaping 33 = .ok (.iload 4, 2) := by decide +kernel
theorem dX4_goesOnLeaping_35 : decode cX4_goesOnLeaping 35 = .ok (.bipush 19, 2) := by decide +kernel
theorem dX4_goesOnLeaping_37 : decode cX4_goesOnLeaping 37 = .ok (.if_icmp .ge 68, 3) := by decide +kernel
theorem dX4_goesOnLeaping_40 : decode cX4_goesOnLeaping 40 = .ok (.aload_n 0, 1) := by decide +kernel
theorem dX4_goesOnLeaping_41 : decode cX4_goesOnLeaping 41 = .ok (.getfield 47, 3) := by decide +kernel
theorem dX4_goesOnLeaping_44 : decode cX4_goesOnLeaping 44 = .ok (.iload_n 3, 1) := by decide +kernel
theorem dX4_goesOnLeaping_45 : decode cX4_goesOnLeaping 45 = .ok (.iaload, 1) := by decide +kernel
theorem dX4_goesOnLeaping_46 : decode cX4_goesOnLeaping 46 = .ok (.ifCond .lt 59, 3) := by decide +kernel
theorem dX4_goesOnLeaping_49 : decode cX4_goesOnLeaping 49 = .ok (.aload_n 0, 1) := by decide +kernel
theorem dX4_goesOnLeaping_50 : decode cX4_goesOnLeaping 50 = .ok (.iload_n 3, 1) := by decide +kernel
theorem dX4_goesOnLeaping_51 : decode cX4_goesOnLeaping 51 = .ok (.iload 4, 2) := by decide +kernel
theorem dX4_goesOnLeaping_53 : decode cX4_goesOnLeaping 53 = .ok (.iload_n 1, 1) := by decide +kernel
theorem dX4_goesOnLeaping_54 : decode cX4_goesOnLeaping 54 = .ok (.iload_n 2, 1) := by decide +kernel
theorem dX4_goesOnLeaping_55 : decode cX4_goesOnLeaping 55 = .ok (.invokevirtual 163, 3) := by decide +kernel
theorem dX4_goesOnLeaping_58 : decode cX4_goesOnLeaping 58 = .ok (.ifCond .eq 15, 3) := by decide +kernel
theorem dX4_goesOnLeaping_61 : decode cX4_goesOnLeaping 61 = .ok (.aload_n 0, 1) := by decide +kernel
theorem dX4_goesOnLeaping_62 : decode cX4_goesOnLeaping 62 = .ok (.iload 4, 2) := by decide +kernel
theorem dX4_goesOnLeaping_64 : decode cX4_goesOnLeaping 64 = .ok (.aload_n 0, 1) := by decide +kernel
theorem dX4_goesOnLeaping_65 : decode cX4_goesOnLeaping 65 = .ok (.getfield 47, 3) := by decide +kernel
theorem dX4_goesOnLeaping_68 : decode cX4_goesOnLeaping 68 = .ok (.iload_n 3, 1) := by decide +kernel
theorem dX4_goesOnLeaping_69 : decode cX4_goesOnLeaping 69 = .ok (.iaload, 1) := by decide +kernel
theorem dX4_goesOnLeaping_70 : decode cX4_goesOnLeaping 70 = .ok (.invokevirtual 182, 3) := by decide +kernel
theorem dX4_goesOnLeaping_73 : decode cX4_goesOnLeaping 73 = .ok (.aload_n 0, 1) := by decide +kernel
theorem dX4_goesOnLeaping_74 : decode cX4_goesOnLeaping 74 = .ok (.iload_n 3, 1) := by decide +kernel
theorem dX4_goesOnLeaping_75 : decode cX4_goesOnLeaping 75 = .ok (.iload 4, 2) := by decide +kernel
theorem dX4_goesOnLeaping_77 : decode cX4_goesOnLeaping 77 = .ok (.iload_n 1, 1) := by decide +kernel
theorem dX4_goesOnLeaping_78 : decode cX4_goesOnLeaping 78 = .ok (.iload_n 2, 1) := by decide +kernel
theorem dX4_goesOnLeaping_79 : decode cX4_goesOnLeaping 79 = .ok (.invokevirtual 167, 3) := by decide +kernel
theorem dX4_goesOnLeaping_82 : decode cX4_goesOnLeaping 82 = .ok (.ifCond .eq 17, 3) := by decide +kernel
theorem dX4_goesOnLeaping_85 : decode cX4_goesOnLeaping 85 = .ok (.aload_n 0, 1) := by decide +kernel
theorem dX4_goesOnLeaping_86 : decode cX4_goesOnLeaping 86 = .ok (.iload 4, 2) := by decide +kernel
theorem dX4_goesOnLeaping_88 : decode cX4_goesOnLeaping 88 = .ok (.aload_n 0, 1) := by decide +kernel
theorem dX4_goesOnLeaping_89 : decode cX4_goesOnLeaping 89 = .ok (.getfield 47, 3) := by decide +kernel
theorem dX4_goesOnLeaping_92 : decode cX4_goesOnLeaping 92 = .ok (.iload_n 3, 1) := by decide +kernel
theorem dX4_goesOnLeaping_93 : decode cX4_goesOnLeaping 93 = .ok (.iaload, 1) := by decide +kernel
theorem dX4_goesOnLeaping_94 : decode cX4_goesOnLeaping 94 = .ok (.iconst 1, 1) := by decide +kernel
theorem dX4_goesOnLeaping_95 : decode cX4_goesOnLeaping 95 = .ok (.iadd, 1) := by decide +kernel
theorem dX4_goesOnLeaping_96 : decode cX4_goesOnLeaping 96 = .ok (.invokevirtual 182, 3) := by decide +kernel
theorem dX4_goesOnLeaping_99 : decode cX4_goesOnLeaping 99 = .ok (.iinc 4 1, 3) := by decide +kernel
theorem dX4_goesOnLeaping_102 : decode cX4_goesOnLeaping 102 = .ok (.goto (-69), 3) := by decide +kernel
theorem dX4_goesOnLeaping_105 : decode cX4_goesOnLeaping 105 = .ok (.iinc 3 1, 3) := by decide +kernel
theorem dX4_goesOnLeaping_108 : decode cX4_goesOnLeaping 108 = .ok (.goto (-84), 3) := by decide +kernel
theorem dX4_goesOnLeaping_111 : decode cX4_goesOnLeaping 111 = .ok (.iconst 0, 1) := by decide +kernel
theorem dX4_goesOnLeaping_112 : decode cX4_goesOnLeaping 112 = .ok (.istore_n 3, 1) := by decide +kernel
theorem dX4_goesOnLeaping_113 : decode cX4_goesOnLeaping 113 = .ok (.iload_n 3, 1) := by decide +kernel
theorem dX4_goesOnLeaping_114 : decode cX4_goesOnLeaping 114 = .ok (.bipush 19, 2) := by decide +kernel
theorem dX4_goesOnLeaping_116 : decode cX4_goesOnLeaping 116 = .ok (.if_icmp .ge 21, 3) := by decide +kernel
theorem dX4_goesOnLeaping_119 : decode cX4_goesOnLeaping 119 = .ok (.aload_n 0, 1) := by decide +kernel
theorem dX4_goesOnLeaping_120 : decode cX4_goesOnLeaping 120 = .ok (.getfield 47, 3) := by decide +kernel
theorem dX4_goesOnLeaping_123 : decode cX4_goesOnLeaping 123 = .ok (.iload_n 3, 1) := by decide +kernel
theorem dX4_goesOnLeaping_124 : decode cX4_goesOnLeaping 124 = .ok (.aload_n 0, 1) := by decide +kernel
theorem dX4_goesOnLeaping_125 : decode cX4_goesOnLeaping 125 = .ok (.getfield 50, 3) := by decide +kernel
theorem dX4_goesOnLeaping_128 : decode cX4_goesOnLeaping 128 = .ok (.iload_n 3, 1) := by decide +kernel
theorem dX4_goesOnLeaping_129 : decode cX4_goesOnLeaping 129 = .ok (.iaload, 1) := by decide +kernel
theorem dX4_goesOnLeaping_130 : decode cX4_goesOnLeaping 130 = .ok (.iastore, 1) := by decide +kernel
theorem dX4_goesOnLeaping_131 : decode cX4_goesOnLeaping 131 = .ok (.iinc 3 1, 3) := by decide +kernel
theorem dX4_goesOnLeaping_134 : decode cX4_goesOnLeaping 134 = .ok (.goto (-21), 3) := by decide +kernel
theorem dX4_goesOnLeaping_137 : decode cX4_goesOnLeaping 137 = .ok (.return_, 1) := by decide +kernel
set_option maxRecDepth 20000 in
theorem ggX4_goesOnLeaping_X4_mayStay : GoodIn wsX4_goesOnLeaping wsX4_mayStay := goodIn_r _ [7, 8, 9, 10, 6, 11, 12, 13, 14, 15, 16, 17, 18, 19, 20, 21, 22, 23, 24, 54, 55, 56, 57, 58, 59, 60, 61, 62, 63, 64, 65, 66, 67, 68, 69, 70, 71, 72, 73, 74, 75, 76, 77, 78, 79, 80, 81] (by decide +kernel) (by decide +kernel)
set_option maxRecDepth 20000 in
theorem gX4_goesOnLeaping_X4_mayStay : GoodIn wsX4_goesOnLeaping (wsV RX4 163 RX4 yX4_mayStay wsX4_mayStay) := goodIn_app (goodIn_of _ (by decide +kernel)) ggX4_goesOnLeaping_X4_mayStay
set_option maxRecDepth 20000 in
theorem ggX4_goesOnLeaping_X4_lowers : GoodIn wsX4_goesOnLeaping wsX4_lowers := goodIn_r _ [28, 1, 54, 55, 56, 57, 58, 59, 60, 61, 62, 63, 64, 65, 66, 67, 68, 69, 70, 71, 72, 73, 74, 75, 76, 77, 78, 79, 80, 81] (by decide +kernel) (by decide +kernel)
set_option maxRecDepth 20000 in
theorem gX4_goesOnLeaping_X4_lowers : GoodIn wsX4_goesOnLeaping (wsV RX4 182 RX4 yX4_lowers wsX4_lowers) := goodIn_app (goodIn_of _ (by decide +kernel)) ggX4_goesOnLeaping_X4_lowers
set_option maxRecDepth 20000 in
theorem ggX4_goesOnLeaping_X4_mayLeap : GoodIn wsX4_goesOnLeaping wsX4_mayLeap := goodIn_r _ [32, 33, 34, 35, 36, 37, 6, 38, 8, 9, 10, 11, 12, 13, 14, 15, 16, 17, 18, 39, 40, 41, 42, 43, 44, 45, 46, 47, 48, 49, 22, 23, 24, 19, 20, 21, 50, 51, 52, 53, 54, 55, 56, 57, 58, 59, 60, 61, 62, 63, 64, 65, 66, 67, 68, 69, 70, 71, 72, 73, 74, 75, 76, 77, 78, 79, 80, 81] (by decide +kernel) (by decide +kernel)
set_option maxRecDepth 20000 in
theorem gX4_goesOnLeaping_X4_mayLeap : GoodIn wsX4_goesOnLeaping (wsV RX4 167 RX4 yX4_mayLeap wsX4_mayLeap) := goodIn_app (goodIn_of _ (by decide +kernel)) ggX4_goesOnLeaping_X4_mayLeap
set_option maxHeartbeats 4000000 in
set_option maxRecDepth 100000 in
theorem mX4_goesOnLeaping (l : Launch) (dC : Nat → ClassId) (dI : Nat → Nat → Nat) (cI cC : ClassId) (sk : (Nat → Nat) × (Nat → Nat)) (f : Nat → Nat) (sz : Nat) (p1 : Int32) (p2 : Int32) (c_r : RT) (c_refused : AR) (c_tape : AR) (c_letter : AR) (c_letterAt : AR) (c_number : AR) (c_taped : Int32) (c_at : Int32) (c_statements : Int32) (c_kept : AR) (c_hasImage : Int32) (c_isKeeping : Int32) (c_cursor : Int32) (c_poled : Int32) (c_barred : Int32) (c_leapsTo : AR) (c_leapsThen : AR) (c_lands : AR) (c_row : AR) (c_rowMany : Int32) (c_endsAt : Int32) (z : AR × AR) (h : fX4_goesOnLeaping p1 p2 c_r c_poled c_barred c_leapsTo c_leapsThen = some z) : cRV l yX4_goesOnLeaping wsX4_goesOnLeaping (RMk 4 92) sk (dC, dI) (tyz cI cC) sz (zwM cI cC f c_r c_refused c_tape c_letter c_letterAt c_number c_taped c_at c_statements c_kept c_hasImage c_isKeeping c_cursor c_poled c_barred c_leapsTo c_leapsThen c_lands c_row c_rowMany c_endsAt) (zwM cI cC f c_r c_refused c_tape c_letter c_letterAt c_number c_taped c_at c_statements c_kept c_hasImage c_isKeeping c_cursor c_poled c_barred z.1 z.2 c_lands c_row c_rowMany c_endsAt) [.ref (f 0), .int p1, .int p2] := by
  refine ofRV (cc := cX4_goesOnLeaping) (maxL := 5) (ret := none) (own := RX4) (plainFor_of_name (by decide)) rfl rfl (Nat.le_of_ble_eq_true rfl) ?_
  intro p e s m args below meth c A hA hx hb hml hr hts hown hlocks hE hK hP hD hS ls hl
  generalize hQ : qRV _ _ _ _ _ _ = Q
  have hl : lv_has ls 5 [(0, .ref (f 0)), (1, .int p1), (2, .int p2)] := hl
  have hiX4 : ∀ w ∈ wsX40, w ∈ wsX4_goesOnLeaping := fun w h => List.mem_cons_of_mem _ (List.mem_append_right _ h)
  have hw1 := hts (Cond.fieldLink RX4 50 "FloeToFloeModel" "leapsThen" "[I") (List.mem_of_getElem? (i := 1) rfl)
  have hw2 := hts (Cond.fieldLink RX4 47 "FloeToFloeModel" "leapsTo" "[I") (List.mem_of_getElem? (i := 2) rfl)
  rw [fX4_goesOnLeaping] at h
  refine lv_iconst (v := (0 : Int32)) hx hb dX4_goesOnLeaping_0 (by decide) ?_
  refine lv_istore_n (lv' := [(3, .int (0 : Int32)), (0, .ref (f 0)), (1, .int p1), (2, .int p2)]) hx hb dX4_goesOnLeaping_1 rfl hl (by decide) rfl (fun ls hl => ?_)
  have L2 : ∀ (K2 : AR → Option (AR × AR)), (∀ (k2_leapsThen : AR), K2 k2_leapsThen = some z → ∀ (H : Heap) (locs : List Loc) (ls : Array Slot), va_P (dC, dI) vwCl (zwM cI cC f c_r c_refused c_tape c_letter c_letterAt c_number c_taped c_at c_statements c_kept c_hasImage c_isKeeping c_cursor c_poled c_barred c_leapsTo k2_leapsThen c_lands c_row c_rowMany c_endsAt) H → va_D A (zwM cI cC f c_r c_refused c_tape c_letter c_letterAt c_number c_taped c_at c_statements c_kept c_hasImage c_isKeeping c_cursor c_poled c_barred c_leapsTo k2_leapsThen c_lands c_row c_rowMany c_endsAt) → va_S A s.heap H locs → lv_has ls 5 [(0, .ref (f 0)), (1, .int p1), (2, .int p2)] → W p l e (RMk 4 92) s m args below meth c H locs 0 0 Q (F0 m 22 ls [])) → ∀ (n : Nat) (x2_3 : Int32) (x2_leapsThen : AR), fX4_goesOnLeaping_L2  K2 n x2_3 x2_leapsThen = some z → ∀ (H : Heap) (locs : List Loc) (ls : Array Slot), va_P (dC, dI) vwCl (zwM cI cC f c_r c_refused c_tape c_letter c_letterAt c_number c_taped c_at c_statements c_kept c_hasImage c_isKeeping c_cursor c_poled c_barred c_leapsTo x2_leapsThen c_lands c_row c_rowMany c_endsAt) H → va_D A (zwM cI cC f c_r c_refused c_tape c_letter c_letterAt c_number c_taped c_at c_statements c_kept c_hasImage c_isKeeping c_cursor c_poled c_barred c_leapsTo x2_leapsThen c_lands c_row c_rowMany c_endsAt) → va_S A s.heap H locs → lv_has ls 5 [(0, .ref (f 0)), (1, .int p1), (2, .int p2), (3, .int x2_3)] → W p l e (RMk 4 92) s m args below meth c H locs 0 0 Q (F0 m 2 ls []) := by
    intro K2 kx2 n
    induction n with
    | zero => intro x2_3 x2_leapsThen h; rw [fX4_goesOnLeaping_L2] at h; cases h
    | succ n ih2 =>
      intro x2_3 x2_leapsThen h H locs ls hP hD hS hl
      rw [fX4_goesOnLeaping_L2] at h
      refine lv_iload_n hx hb dX4_goesOnLeaping_2 rfl (lv_at hl 3 rfl) ?_
      refine lv_bipush (v := (19 : Int32)) hx hb dX4_goesOnLeaping_3 (by decide) ?_
      refine lv_icmp_ge (tgt := 22) hx hb dX4_goesOnLeaping_5 (by decide) (fun c5 => ?_) (fun c5 => ?_)
      · have h := itT c5 h
        exact kx2 _ h _ _ _ hP hD hS (lv_sub hl [0, 1, 2] rfl)
      have h := itF c5 h
      refine lv_aload_n hx hb dX4_goesOnLeaping_8 rfl (lv_at hl 0 rfl) ?_
      refine va_get (D := (dC, dI)) (ci := 4) (v := .ref (f 13)) (C := RX4) (T := TX4) (N := 28) hx hb hts hiX4 hown hK hP 0 rfl rfl 23 (by decide) hw1 (fun _ h9 => h9) rfl dX4_goesOnLeaping_9 ?_
      refine lv_iload_n hx hb dX4_goesOnLeaping_12 rfl (lv_at hl 3 rfl) ?_
      refine lv_bipush (v := (-9 : Int32)) hx hb dX4_goesOnLeaping_13 (by decide) ?_
      obtain ⟨hin, h⟩ := ck_some h
      refine va_iast hx hb hK hP hD hS 13 0 rfl rfl hin dX4_goesOnLeaping_15 (fun H locs hP hD hS => ?_)
      have hP : va_P (dC, dI) vwCl (zwM cI cC f c_r c_refused c_tape c_letter c_letterAt c_number c_taped c_at c_statements c_kept c_hasImage c_isKeeping c_cursor c_poled c_barred c_leapsTo (upd x2_leapsThen (x2_3).toNatClampNeg (-9 : Int32)) c_lands c_row c_rowMany c_endsAt) H := hP
      have hD : va_D A (zwM cI cC f c_r c_refused c_tape c_letter c_letterAt c_number c_taped c_at c_statements c_kept c_hasImage c_isKeeping c_cursor c_poled c_barred c_leapsTo (upd x2_leapsThen (x2_3).toNatClampNeg (-9 : Int32)) c_lands c_row c_rowMany c_endsAt) := hD
      refine lv_iinc (v := (x2_3 + (1 : Int32))) (lv' := [(3, .int (x2_3 + (1 : Int32))), (0, .ref (f 0)), (1, .int p1), (2, .int p2)]) hx hb dX4_goesOnLeaping_16 hl (k := 3) rfl rfl (by decide) rfl (fun ls hl => ?_)
      refine lv_goto (tgt := 2) hx hb dX4_goesOnLeaping_19 (by decide) ?_
      exact ih2 _ _ h _ _ _ hP hD hS (lv_sub hl [1, 2, 3, 0] rfl)
  refine L2 _ (fun k2_leapsThen h H locs ls hP hD hS hl => ?_) _ _ _ h _ _ _ hP hD hS (lv_sub hl [1, 2, 3, 0] rfl)
  refine lv_iconst (v := (0 : Int32)) hx hb dX4_goesOnLeaping_22 (by decide) ?_
  refine lv_istore_n (lv' := [(3, .int (0 : Int32)), (0, .ref (f 0)), (1, .int p1), (2, .int p2)]) hx hb dX4_goesOnLeaping_23 rfl hl (by decide) rfl (fun ls hl => ?_)
  have L24 : ∀ (K24 : AR → Option (AR × AR)), (∀ (k24_leapsThen : AR), K24 k24_leapsThen = some z → ∀ (H : Heap) (locs : List Loc) (ls : Array Slot), va_P (dC, dI) vwCl (zwM cI cC f c_r c_refused c_tape c_letter c_letterAt c_number c_taped c_at c_statements c_kept c_hasImage c_isKeeping c_cursor c_poled c_barred c_leapsTo k24_leapsThen c_lands c_row c_rowMany c_endsAt) H → va_D A (zwM cI cC f c_r c_refused c_tape c_letter c_letterAt c_number c_taped c_at c_statements c_kept c_hasImage c_isKeeping c_cursor c_poled c_barred c_leapsTo k24_leapsThen c_lands c_row c_rowMany c_endsAt) → va_S A s.heap H locs → lv_has ls 5 [(0, .ref (f 0))] → W p l e (RMk 4 92) s m args below meth c H locs 0 0 Q (F0 m 111 ls [])) → ∀ (n : Nat) (x24_3 : Int32) (x24_leapsThen : AR), fX4_goesOnLeaping_L24 c_barred c_leapsTo c_poled c_r p1 p2 K24 n x24_3 x24_leapsThen = some z → ∀ (H : Heap) (locs : List Loc) (ls : Array Slot), va_P (dC, dI) vwCl (zwM cI cC f c_r c_refused c_tape c_letter c_letterAt c_number c_taped c_at c_statements c_kept c_hasImage c_isKeeping c_cursor c_poled c_barred c_leapsTo x24_leapsThen c_lands c_row c_rowMany c_endsAt) H → va_D A (zwM cI cC f c_r c_refused c_tape c_letter c_letterAt c_number c_taped c_at c_statements c_kept c_hasImage c_isKeeping c_cursor c_poled c_barred c_leapsTo x24_leapsThen c_lands c_row c_rowMany c_endsAt) → va_S A s.heap H locs → lv_has ls 5 [(0, .ref (f 0)), (1, .int p1), (2, .int p2), (3, .int x24_3)] → W p l e (RMk 4 92) s m args below meth c H locs 0 0 Q (F0 m 24 ls []) := by
    intro K24 kx24 n
    induction n with
    | zero => intro x24_3 x24_leapsThen h; rw [fX4_goesOnLeaping_L24] at h; cases h
    | succ n ih24 =>
      intro x24_3 x24_leapsThen h H locs ls hP hD hS hl
      rw [fX4_goesOnLeaping_L24] at h
      refine lv_iload_n hx hb dX4_goesOnLeaping_24 rfl (lv_at hl 3 rfl) ?_
      refine lv_bipush (v := (19 : Int32)) hx hb dX4_goesOnLeaping_25 (by decide) ?_
      refine lv_icmp_ge (tgt := 111) hx hb dX4_goesOnLeaping_27 (by decide) (fun c27 => ?_) (fun c27 => ?_)
      · have h := itT c27 h
        exact kx24 _ h _ _ _ hP hD hS (lv_sub hl [0] rfl)
      have h := itF c27 h
      refine lv_iconst (v := (0 : Int32)) hx hb dX4_goesOnLeaping_30 (by decide) ?_
      refine lv_istore (lv' := [(4, .int (0 : Int32)), (0, .ref (f 0)), (1, .int p1), (2, .int p2), (3, .int x24_3)]) hx hb dX4_goesOnLeaping_31 hl (by decide) rfl (fun ls hl => ?_)
      have L33 : ∀ (K33 : AR → Option (AR × AR)), (∀ (k33_leapsThen : AR), K33 k33_leapsThen = some z → ∀ (H : Heap) (locs : List Loc) (ls : Array Slot), va_P (dC, dI) vwCl (zwM cI cC f c_r c_refused c_tape c_letter c_letterAt c_number c_taped c_at c_statements c_kept c_hasImage c_isKeeping c_cursor c_poled c_barred c_leapsTo k33_leapsThen c_lands c_row c_rowMany c_endsAt) H → va_D A (zwM cI cC f c_r c_refused c_tape c_letter c_letterAt c_number c_taped c_at c_statements c_kept c_hasImage c_isKeeping c_cursor c_poled c_barred c_leapsTo k33_leapsThen c_lands c_row c_rowMany c_endsAt) → va_S A s.heap H locs → lv_has ls 5 [(0, .ref (f 0)), (1, .int p1), (2, .int p2), (3, .int x24_3)] → W p l e (RMk 4 92) s m args below meth c H locs 0 0 Q (F0 m 105 ls [])) → ∀ (n : Nat) (x33_4 : Int32) (x33_leapsThen : AR), fX4_goesOnLeaping_L33 c_barred c_leapsTo c_poled c_r p1 p2 x24_3 K33 n x33_4 x33_leapsThen = some z → ∀ (H : Heap) (locs : List Loc) (ls : Array Slot), va_P (dC, dI) vwCl (zwM cI cC f c_r c_refused c_tape c_letter c_letterAt c_number c_taped c_at c_statements c_kept c_hasImage c_isKeeping c_cursor c_poled c_barred c_leapsTo x33_leapsThen c_lands c_row c_rowMany c_endsAt) H → va_D A (zwM cI cC f c_r c_refused c_tape c_letter c_letterAt c_number c_taped c_at c_statements c_kept c_hasImage c_isKeeping c_cursor c_poled c_barred c_leapsTo x33_leapsThen c_lands c_row c_rowMany c_endsAt) → va_S A s.heap H locs → lv_has ls 5 [(0, .ref (f 0)), (1, .int p1), (2, .int p2), (3, .int x24_3), (4, .int x33_4)] → W p l e (RMk 4 92) s m args below meth c H locs 0 0 Q (F0 m 33 ls []) := by
        intro K33 kx33 n
        induction n with
        | zero => intro x33_4 x33_leapsThen h; rw [fX4_goesOnLeaping_L33] at h; cases h
        | succ n ih33 =>
          intro x33_4 x33_leapsThen h H locs ls hP hD hS hl
          rw [fX4_goesOnLeaping_L33] at h
          refine lv_iload hx hb dX4_goesOnLeaping_33 (lv_at hl 4 rfl) ?_
          refine lv_bipush (v := (19 : Int32)) hx hb dX4_goesOnLeaping_35 (by decide) ?_
          refine lv_icmp_ge (tgt := 105) hx hb dX4_goesOnLeaping_37 (by decide) (fun c37 => ?_) (fun c37 => ?_)
          · have h := itT c37 h
            exact kx33 _ h _ _ _ hP hD hS (lv_sub hl [0, 1, 2, 3] rfl)
          have h := itF c37 h
          refine lv_aload_n hx hb dX4_goesOnLeaping_40 rfl (lv_at hl 0 rfl) ?_
          refine va_get (D := (dC, dI)) (ci := 4) (v := .ref (f 12)) (C := RX4) (T := TX4) (N := 28) hx hb hts hiX4 hown hK hP 0 rfl rfl 22 (by decide) hw2 (fun _ h9 => h9) rfl dX4_goesOnLeaping_41 ?_
          refine lv_iload_n hx hb dX4_goesOnLeaping_44 rfl (lv_at hl 3 rfl) ?_
          obtain ⟨hin, h⟩ := ck_some h
          refine va_iald hx hb hK hP 12 0 rfl rfl hin dX4_goesOnLeaping_45 ?_
          refine lv_if_lt (tgt := 105) hx hb dX4_goesOnLeaping_46 (by decide) (fun c46 => ?_) (fun c46 => ?_)
          · have h := itT c46 h
            exact kx33 _ h _ _ _ hP hD hS (lv_sub hl [0, 1, 2, 3] rfl)
          have h := itF c46 h
          refine lv_aload_n hx hb dX4_goesOnLeaping_49 rfl (lv_at hl 0 rfl) ?_
          refine lv_iload_n hx hb dX4_goesOnLeaping_50 rfl (lv_at hl 3 rfl) ?_
          refine lv_iload hx hb dX4_goesOnLeaping_51 (lv_at hl 4 rfl) ?_
          refine lv_iload_n hx hb dX4_goesOnLeaping_53 rfl (lv_at hl 1 rfl) ?_
          refine lv_iload_n hx hb dX4_goesOnLeaping_54 rfl (lv_at hl 2 rfl) ?_
          obtain ⟨q55, e55, h⟩ := bd_some h
          refine g_roV (wc := (zwM cI cC f c_r c_refused c_tape c_letter c_letterAt c_number c_taped c_at c_statements c_kept c_hasImage c_isKeeping c_cursor c_poled c_barred c_leapsTo x33_leapsThen c_lands c_row c_rowMany c_endsAt)) ⟨hx, hb, hml, hown, hts⟩ hE hK hP hS [0, 1, 2, 3, 4, 5, 6, 7, 8, 9, 10, 11, 12, 13, 14, 15] rfl (mX4_mayStay l dC dI cI cC sk f x24_3 x33_4 p1 p2 c_r c_refused c_tape c_letter c_letterAt c_number c_taped c_at c_statements c_kept c_hasImage c_isKeeping c_cursor c_poled c_barred c_leapsTo x33_leapsThen c_lands c_row c_rowMany c_endsAt q55 e55) (cwV 4 hts gX4_goesOnLeaping_X4_mayStay rfl rfl rfl (by decide +kernel) ⟨Nat.le_of_ble_eq_true rfl, Nat.le_of_ble_eq_true rfl⟩) (va_recv hK hP (ci := 4) (q0 := 0) rfl rfl) (As := [.int x24_3, .int x33_4, .int p1, .int p2]) (rest := []) rfl hl.1 rfl (Nat.le_of_ble_eq_true rfl) dX4_goesOnLeaping_55 ⟨Nat.zero_le _, Nat.zero_le _⟩ (fun H locs hP hS => ?_)
          refine jnW (fun (v73 : AR) => ∀ (H : Heap) (locs : List Loc) (ls : Array Slot), va_P (dC, dI) vwCl (zwM cI cC f c_r c_refused c_tape c_letter c_letterAt c_number c_taped c_at c_statements c_kept c_hasImage c_isKeeping c_cursor c_poled c_barred c_leapsTo v73 c_lands c_row c_rowMany c_endsAt) H → va_D A (zwM cI cC f c_r c_refused c_tape c_letter c_letterAt c_number c_taped c_at c_statements c_kept c_hasImage c_isKeeping c_cursor c_poled c_barred c_leapsTo v73 c_lands c_row c_rowMany c_endsAt) → va_S A s.heap H locs → lv_has ls 5 [(0, .ref (f 0)), (1, .int p1), (2, .int p2), (3, .int x24_3), (4, .int x33_4)] → W p l e (RMk 4 92) s m args below meth c H locs 0 0 Q (F0 m 73 ls [])) h (fun v73 h H locs ls hP hD hS hl => ?_) (fun J73 j73 h => ?_)
          · refine lv_aload_n hx hb dX4_goesOnLeaping_73 rfl (lv_at hl 0 rfl) ?_
            refine lv_iload_n hx hb dX4_goesOnLeaping_74 rfl (lv_at hl 3 rfl) ?_
            refine lv_iload hx hb dX4_goesOnLeaping_75 (lv_at hl 4 rfl) ?_
            refine lv_iload_n hx hb dX4_goesOnLeaping_77 rfl (lv_at hl 1 rfl) ?_
            refine lv_iload_n hx hb dX4_goesOnLeaping_78 rfl (lv_at hl 2 rfl) ?_
            obtain ⟨q79, e79, h⟩ := bd_some h
            refine g_roV (wc := (zwM cI cC f c_r c_refused c_tape c_letter c_letterAt c_number c_taped c_at c_statements c_kept c_hasImage c_isKeeping c_cursor c_poled c_barred c_leapsTo v73 c_lands c_row c_rowMany c_endsAt)) ⟨hx, hb, hml, hown, hts⟩ hE hK hP hS [0, 1, 2, 3, 4, 5, 6, 7, 8, 9, 10, 11, 12, 13, 14, 15] rfl (mX4_mayLeap l dC dI cI cC sk f x24_3 x33_4 p1 p2 c_r c_refused c_tape c_letter c_letterAt c_number c_taped c_at c_statements c_kept c_hasImage c_isKeeping c_cursor c_poled c_barred c_leapsTo v73 c_lands c_row c_rowMany c_endsAt q79 e79) (cwV 4 hts gX4_goesOnLeaping_X4_mayLeap rfl rfl rfl (by decide +kernel) ⟨Nat.le_of_ble_eq_true rfl, Nat.le_of_ble_eq_true rfl⟩) (va_recv hK hP (ci := 4) (q0 := 0) rfl rfl) (As := [.int x24_3, .int x33_4, .int p1, .int p2]) (rest := []) rfl hl.1 rfl (Nat.le_of_ble_eq_true rfl) dX4_goesOnLeaping_79 ⟨Nat.zero_le _, Nat.zero_le _⟩ (fun H locs hP hS => ?_)
            refine lv_if_eq (tgt := 99) hx hb dX4_goesOnLeaping_82 (by decide) (fun c82 => ?_) (fun c82 => ?_)
            · have h := itT c82 h
              refine lv_iinc (v := (x33_4 + (1 : Int32))) (lv' := [(4, .int (x33_4 + (1 : Int32))), (0, .ref (f 0)), (1, .int p1), (2, .int p2), (3, .int x24_3)]) hx hb dX4_goesOnLeaping_99 hl (k := 4) rfl rfl (by decide) rfl (fun ls hl => ?_)
              refine lv_goto (tgt := 33) hx hb dX4_goesOnLeaping_102 (by decide) ?_
              exact ih33 _ _ h _ _ _ hP hD hS (lv_sub hl [1, 2, 3, 4, 0] rfl)
            have h := itF c82 h
            refine lv_aload_n hx hb dX4_goesOnLeaping_85 rfl (lv_at hl 0 rfl) ?_
            refine lv_iload hx hb dX4_goesOnLeaping_86 (lv_at hl 4 rfl) ?_
            refine lv_aload_n hx hb dX4_goesOnLeaping_88 rfl (lv_at hl 0 rfl) ?_
            refine va_get (D := (dC, dI)) (ci := 4) (v := .ref (f 12)) (C := RX4) (T := TX4) (N := 28) hx hb hts hiX4 hown hK hP 0 rfl rfl 22 (by decide) hw2 (fun _ h9 => h9) rfl dX4_goesOnLeaping_89 ?_
            refine lv_iload_n hx hb dX4_goesOnLeaping_92 rfl (lv_at hl 3 rfl) ?_
            obtain ⟨hin, h⟩ := ck_some h
            refine va_iald hx hb hK hP 12 0 rfl rfl hin dX4_goesOnLeaping_93 ?_
            refine lv_iconst (v := (1 : Int32)) hx hb dX4_goesOnLeaping_94 (by decide) ?_
            refine lv_iadd hx hb dX4_goesOnLeaping_95 ?_
            obtain ⟨q96, e96, h⟩ := bd_some h
            refine g_rvA (wc := (zwM cI cC f c_r c_refused c_tape c_letter c_letterAt c_number c_taped c_at c_statements c_kept c_hasImage c_isKeeping c_cursor c_poled c_barred c_leapsTo v73 c_lands c_row c_rowMany c_endsAt)) (wc' := (zwM cI cC f c_r c_refused c_tape c_letter c_letterAt c_number c_taped c_at c_statements c_kept c_hasImage c_isKeeping c_cursor c_poled c_barred c_leapsTo q96 c_lands c_row c_rowMany c_endsAt)) ⟨hx, hb, hml, hown, hts⟩ hE hK hA hP hD hS rfl (mX4_lowers l dC dI cI cC sk f H.size x33_4 ((c_leapsTo (x24_3).toNatClampNeg) + (1 : Int32)) c_r c_refused c_tape c_letter c_letterAt c_number c_taped c_at c_statements c_kept c_hasImage c_isKeeping c_cursor c_poled c_barred c_leapsTo v73 c_lands c_row c_rowMany c_endsAt q96 e96) (cwV 2 hts gX4_goesOnLeaping_X4_lowers rfl rfl rfl (by decide +kernel) ⟨Nat.le_of_ble_eq_true rfl, Nat.le_of_ble_eq_true rfl⟩) (va_recv hK hP (ci := 4) (q0 := 0) rfl rfl) (As := [.int x33_4, .int ((c_leapsTo (x24_3).toNatClampNeg) + (1 : Int32))]) (rest := []) rfl hl.1 rfl (Nat.le_of_ble_eq_true rfl) dX4_goesOnLeaping_96 ⟨Nat.zero_le _, Nat.zero_le _⟩ (fun H locs hP hD hS => ?_)
            have hP : va_P (dC, dI) vwCl (zwM cI cC f c_r c_refused c_tape c_letter c_letterAt c_number c_taped c_at c_statements c_kept c_hasImage c_isKeeping c_cursor c_poled c_barred c_leapsTo q96 c_lands c_row c_rowMany c_endsAt) H := hP
            have hD : va_D A (zwM cI cC f c_r c_refused c_tape c_letter c_letterAt c_number c_taped c_at c_statements c_kept c_hasImage c_isKeeping c_cursor c_poled c_barred c_leapsTo q96 c_lands c_row c_rowMany c_endsAt) := hD
            refine lv_iinc (v := (x33_4 + (1 : Int32))) (lv' := [(4, .int (x33_4 + (1 : Int32))), (0, .ref (f 0)), (1, .int p1), (2, .int p2), (3, .int x24_3)]) hx hb dX4_goesOnLeaping_99 hl (k := 4) rfl rfl (by decide) rfl (fun ls hl => ?_)
            refine lv_goto (tgt := 33) hx hb dX4_goesOnLeaping_102 (by decide) ?_
            exact ih33 _ _ h _ _ _ hP hD hS (lv_sub hl [1, 2, 3, 4, 0] rfl)
          refine lv_if_eq (tgt := 73) hx hb dX4_goesOnLeaping_58 (by decide) (fun c58 => ?_) (fun c58 => ?_)
          · have h := itT c58 h
            exact j73 _ h _ _ _ hP hD hS (lv_sub hl [0, 1, 2, 3, 4] rfl)
          have h := itF c58 h
          refine lv_aload_n hx hb dX4_goesOnLeaping_61 rfl (lv_at hl 0 rfl) ?_
          refine lv_iload hx hb dX4_goesOnLeaping_62 (lv_at hl 4 rfl) ?_
          refine lv_aload_n hx hb dX4_goesOnLeaping_64 rfl (lv_at hl 0 rfl) ?_
          refine va_get (D := (dC, dI)) (ci := 4) (v := .ref (f 12)) (C := RX4) (T := TX4) (N := 28) hx hb hts hiX4 hown hK hP 0 rfl rfl 22 (by decide) hw2 (fun _ h9 => h9) rfl dX4_goesOnLeaping_65 ?_
          refine lv_iload_n hx hb dX4_goesOnLeaping_68 rfl (lv_at hl 3 rfl) ?_
          obtain ⟨hin, h⟩ := ck_some h
          refine va_iald hx hb hK hP 12 0 rfl rfl hin dX4_goesOnLeaping_69 ?_
          obtain ⟨q70, e70, h⟩ := bd_some h
          refine g_rvA (wc := (zwM cI cC f c_r c_refused c_tape c_letter c_letterAt c_number c_taped c_at c_statements c_kept c_hasImage c_isKeeping c_cursor c_poled c_barred c_leapsTo x33_leapsThen c_lands c_row c_rowMany c_endsAt)) (wc' := (zwM cI cC f c_r c_refused c_tape c_letter c_letterAt c_number c_taped c_at c_statements c_kept c_hasImage c_isKeeping c_cursor c_poled c_barred c_leapsTo q70 c_lands c_row c_rowMany c_endsAt)) ⟨hx, hb, hml, hown, hts⟩ hE hK hA hP hD hS rfl (mX4_lowers l dC dI cI cC sk f H.size x33_4 (c_leapsTo (x24_3).toNatClampNeg) c_r c_refused c_tape c_letter c_letterAt c_number c_taped c_at c_statements c_kept c_hasImage c_isKeeping c_cursor c_poled c_barred c_leapsTo x33_leapsThen c_lands c_row c_rowMany c_endsAt q70 e70) (cwV 2 hts gX4_goesOnLeaping_X4_lowers rfl rfl rfl (by decide +kernel) ⟨Nat.le_of_ble_eq_true rfl, Nat.le_of_ble_eq_true rfl⟩) (va_recv hK hP (ci := 4) (q0 := 0) rfl rfl) (As := [.int x33_4, .int (c_leapsTo (x24_3).toNatClampNeg)]) (rest := []) rfl hl.1 rfl (Nat.le_of_ble_eq_true rfl) dX4_goesOnLeaping_70 ⟨Nat.zero_le _, Nat.zero_le _⟩ (fun H locs hP hD hS => ?_)
          have hP : va_P (dC, dI) vwCl (zwM cI cC f c_r c_refused c_tape c_letter c_letterAt c_number c_taped c_at c_statements c_kept c_hasImage c_isKeeping c_cursor c_poled c_barred c_leapsTo q70 c_lands c_row c_rowMany c_endsAt) H := hP
          have hD : va_D A (zwM cI cC f c_r c_refused c_tape c_letter c_letterAt c_number c_taped c_at c_statements c_kept c_hasImage c_isKeeping c_cursor c_poled c_barred c_leapsTo q70 c_lands c_row c_rowMany c_endsAt) := hD
          exact j73 _ h _ _ _ hP hD hS (lv_sub hl [0, 1, 2, 3, 4] rfl)
      refine L33 _ (fun k33_leapsThen h H locs ls hP hD hS hl => ?_) _ _ _ h _ _ _ hP hD hS (lv_sub hl [1, 2, 3, 4, 0] rfl)
      refine lv_iinc (v := (x24_3 + (1 : Int32))) (lv' := [(3, .int (x24_3 + (1 : Int32))), (0, .ref (f 0)), (1, .int p1), (2, .int p2)]) hx hb dX4_goesOnLeaping_105 hl (k := 3) rfl rfl (by decide) rfl (fun ls hl => ?_)
      refine lv_goto (tgt := 24) hx hb dX4_goesOnLeaping_108 (by decide) ?_
      exact ih24 _ _ h _ _ _ hP hD hS (lv_sub hl [1, 2, 3, 0] rfl)
  refine L24 _ (fun k24_leapsThen h H locs ls hP hD hS hl => ?_) _ _ _ h _ _ _ hP hD hS (lv_sub hl [1, 2, 3, 0] rfl)
  refine lv_iconst (v := (0 : Int32)) hx hb dX4_goesOnLeaping_111 (by decide) ?_
  refine lv_istore_n (lv' := [(3, .int (0 : Int32)), (0, .ref (f 0))]) hx hb dX4_goesOnLeaping_112 rfl hl (by decide) rfl (fun ls hl => ?_)
  have L113 : ∀ (K113 : AR → Option (AR × AR)), (∀ (k113_leapsTo : AR), K113 k113_leapsTo = some z → ∀ (H : Heap) (locs : List Loc) (ls : Array Slot), va_P (dC, dI) vwCl (zwM cI cC f c_r c_refused c_tape c_letter c_letterAt c_number c_taped c_at c_statements c_kept c_hasImage c_isKeeping c_cursor c_poled c_barred k113_leapsTo k24_leapsThen c_lands c_row c_rowMany c_endsAt) H → va_D A (zwM cI cC f c_r c_refused c_tape c_letter c_letterAt c_number c_taped c_at c_statements c_kept c_hasImage c_isKeeping c_cursor c_poled c_barred k113_leapsTo k24_leapsThen c_lands c_row c_rowMany c_endsAt) → va_S A s.heap H locs → lv_has ls 5 [] → W p l e (RMk 4 92) s m args below meth c H locs 0 0 Q (F0 m 137 ls [])) → ∀ (n : Nat) (x113_3 : Int32) (x113_leapsTo : AR), fX4_goesOnLeaping_L113 k24_leapsThen K113 n x113_3 x113_leapsTo = some z → ∀ (H : Heap) (locs : List Loc) (ls : Array Slot), va_P (dC, dI) vwCl (zwM cI cC f c_r c_refused c_tape c_letter c_letterAt c_number c_taped c_at c_statements c_kept c_hasImage c_isKeeping c_cursor c_poled c_barred x113_leapsTo k24_leapsThen c_lands c_row c_rowMany c_endsAt) H → va_D A (zwM cI cC f c_r c_refused c_tape c_letter c_letterAt c_number c_taped c_at c_statements c_kept c_hasImage c_isKeeping c_cursor c_poled c_barred x113_leapsTo k24_leapsThen c_lands c_row c_rowMany c_endsAt) → va_S A s.heap H locs → lv_has ls 5 [(0, .ref (f 0)), (3, .int x113_3)] → W p l e (RMk 4 92) s m args below meth c H locs 0 0 Q (F0 m 113 ls []) := by
    intro K113 kx113 n
    induction n with
    | zero => intro x113_3 x113_leapsTo h; rw [fX4_goesOnLeaping_L113] at h; cases h
    | succ n ih113 =>
      intro x113_3 x113_leapsTo h H locs ls hP hD hS hl
      rw [fX4_goesOnLeaping_L113] at h
      refine lv_iload_n hx hb dX4_goesOnLeaping_113 rfl (lv_at hl 1 rfl) ?_
      refine lv_bipush (v := (19 : Int32)) hx hb dX4_goesOnLeaping_114 (by decide) ?_
      refine lv_icmp_ge (tgt := 137) hx hb dX4_goesOnLeaping_116 (by decide) (fun c116 => ?_) (fun c116 => ?_)
      · have h := itT c116 h
        exact kx113 _ h _ _ _ hP hD hS (lv_sub hl [] rfl)
      have h := itF c116 h
      refine lv_aload_n hx hb dX4_goesOnLeaping_119 rfl (lv_at hl 0 rfl) ?_
      refine va_get (D := (dC, dI)) (ci := 4) (v := .ref (f 12)) (C := RX4) (T := TX4) (N := 28) hx hb hts hiX4 hown hK hP 0 rfl rfl 22 (by decide) hw2 (fun _ h9 => h9) rfl dX4_goesOnLeaping_120 ?_
      refine lv_iload_n hx hb dX4_goesOnLeaping_123 rfl (lv_at hl 1 rfl) ?_
      refine lv_aload_n hx hb dX4_goesOnLeaping_124 rfl (lv_at hl 0 rfl) ?_
      refine va_get (D := (dC, dI)) (ci := 4) (v := .ref (f 13)) (C := RX4) (T := TX4) (N := 28) hx hb hts hiX4 hown hK hP 0 rfl rfl 23 (by decide) hw1 (fun _ h9 => h9) rfl dX4_goesOnLeaping_125 ?_
      refine lv_iload_n hx hb dX4_goesOnLeaping_128 rfl (lv_at hl 1 rfl) ?_
      obtain ⟨hin, h⟩ := ck_some h
      refine va_iald hx hb hK hP 13 0 rfl rfl hin dX4_goesOnLeaping_129 ?_
      obtain ⟨hin, h⟩ := ck_some h
      refine va_iast hx hb hK hP hD hS 12 0 rfl rfl hin dX4_goesOnLeaping_130 (fun H locs hP hD hS => ?_)
      have hP : va_P (dC, dI) vwCl (zwM cI cC f c_r c_refused c_tape c_letter c_letterAt c_number c_taped c_at c_statements c_kept c_hasImage c_isKeeping c_cursor c_poled c_barred (upd x113_leapsTo (x113_3).toNatClampNeg (k24_leapsThen (x113_3).toNatClampNeg)) k24_leapsThen c_lands c_row c_rowMany c_endsAt) H := hP
      have hD : va_D A (zwM cI cC f c_r c_refused c_tape c_letter c_letterAt c_number c_taped c_at c_statements c_kept c_hasImage c_isKeeping c_cursor c_poled c_barred (upd x113_leapsTo (x113_3).toNatClampNeg (k24_leapsThen (x113_3).toNatClampNeg)) k24_leapsThen c_lands c_row c_rowMany c_endsAt) := hD
      refine lv_iinc (v := (x113_3 + (1 : Int32))) (lv' := [(3, .int (x113_3 + (1 : Int32))), (0, .ref (f 0))]) hx hb dX4_goesOnLeaping_131 hl (k := 1) rfl rfl (by decide) rfl (fun ls hl => ?_)
      refine lv_goto (tgt := 113) hx hb dX4_goesOnLeaping_134 (by decide) ?_
      exact ih113 _ _ h _ _ _ hP hD hS (lv_sub hl [1, 0] rfl)
  refine L113 _ (fun k113_leapsTo h H locs ls hP hD hS hl => ?_) _ _ _ h _ _ _ hP hD hS (lv_sub hl [1, 0] rfl)
  subst hQ
  exact retRV (zz := ((k113_leapsTo, k24_leapsThen) : AR × AR)) (fun z => (zwM cI cC f c_r c_refused c_tape c_letter c_letterAt c_number c_taped c_at c_statements c_kept c_hasImage c_isKeeping c_cursor c_poled c_barred z.1 z.2 c_lands c_row c_rowMany c_endsAt)) hx hb hr hlocks hS h hP dX4_goesOnLeaping_137
