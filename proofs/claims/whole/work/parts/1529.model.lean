theorem dX4_leaps_0 : decode cX4_leaps 0 = .ok (.iload_n 1, 1) := by decide +kernel
theorem dX4_leaps_1 : decode cX4_leaps 1 = .ok (.iload_n 2, 1) := by decide +kernel
theorem dX4_leaps_2 : decode cX4_leaps 2 = .ok (.invokestatic 176, 3) := by decide +kernel
theorem dX4_leaps_5 : decode cX4_leaps 5 = .ok (.istore_n 3, 1) := by decide +kernel
theorem dX4_leaps_6 : decode cX4_leaps 6 = .ok (.iload_n 3, 1) := by decide +kernel
theorem dX4_leaps_7 : decode cX4_leaps 7 = .ok (.ifCond .eq 9, 3) := by decide +kernel
theorem dX4_leaps_10 : decode cX4_leaps 10 = .ok (.aload_n 0, 1) := by decide +kernel
theorem dX4_leaps_11 : decode cX4_leaps 11 = .ok (.iload_n 3, 1) := by decide +kernel
theorem dX4_leaps_12 : decode cX4_leaps 12 = .ok (.invokevirtual 73, 3) := by decide +kernel
theorem dX4_leaps_15 : decode cX4_leaps 15 = .ok (.ireturn, 1) := by decide +kernel
theorem dX4_leaps_16 : decode cX4_leaps 16 = .ok (.iconst 0, 1) := by decide +kernel
theorem dX4_leaps_17 : decode cX4_leaps 17 = .ok (.istore 4, 2) := by decide +kernel
theorem dX4_leaps_19 : decode cX4_leaps 19 = .ok (.iload 4, 2) := by decide +kernel
theorem dX4_leaps_21 : decode cX4_leaps 21 = .ok (.bipush 19, 2) := by decide +kernel
theorem dX4_leaps_23 : decode cX4_leaps 23 = .ok (.if_icmp .ge 28, 3) := by decide +kernel
theorem dX4_leaps_26 : decode cX4_leaps 26 = .ok (.aload_n 0, 1) := by decide +kernel
theorem dX4_leaps_27 : decode cX4_leaps 27 = .ok (.getfield 47, 3) := by decide +kernel
theorem dX4_leaps_30 : decode cX4_leaps 30 = .ok (.iload 4, 2) := by decide +kernel
theorem dX4_leaps_32 : decode cX4_leaps 32 = .ok (.iload 4, 2) := by decide +kernel
theorem dX4_leaps_34 : decode cX4_leaps 34 = .ok (.iload_n 2, 1) := by decide +kernel
theorem dX4_leaps_35 : decode cX4_leaps 35 = .ok (.if_icmp .ne 7, 3) := by decide +kernel
theorem dX4_leaps_38 : decode cX4_leaps 38 = .ok (.iconst 0, 1) := by decide +kernel
theorem dX4_leaps_39 : decode cX4_leaps 39 = .ok (.goto 5, 3) := by decide +kernel
theorem dX4_leaps_42 : decode cX4_leaps 42 = .ok (.bipush (-9), 2) := by decide +kernel
theorem dX4_leaps_44 : decode cX4_leaps 44 = .ok (.iastore, 1) := by decide +kernel
theorem dX4_leaps_45 : decode cX4_leaps 45 = .ok (.iinc 4 1, 3) := by decide +kernel
theorem dX4_leaps_48 : decode cX4_leaps 48 = .ok (.goto (-29), 3) := by decide +kernel
theorem dX4_leaps_51 : decode cX4_leaps 51 = .ok (.iconst 0, 1) := by decide +kernel
theorem dX4_leaps_52 : decode cX4_leaps 52 = .ok (.istore 4, 2) := by decide +kernel
theorem dX4_leaps_54 : decode cX4_leaps 54 = .ok (.iload 4, 2) := by decide +kernel
theorem dX4_leaps_56 : decode cX4_leaps 56 = .ok (.bipush 40, 2) := by decide +kernel
theorem dX4_leaps_58 : decode cX4_leaps 58 = .ok (.if_icmp .ge 21, 3) := by decide +kernel
theorem dX4_leaps_61 : decode cX4_leaps 61 = .ok (.aload_n 0, 1) := by decide +kernel
theorem dX4_leaps_62 : decode cX4_leaps 62 = .ok (.iload_n 1, 1) := by decide +kernel
theorem dX4_leaps_63 : decode cX4_leaps 63 = .ok (.aload_n 0, 1) := by decide +kernel
theorem dX4_leaps_64 : decode cX4_leaps 64 = .ok (.getfield 101, 3) := by decide +kernel
theorem dX4_leaps_67 : decode cX4_leaps 67 = .ok (.iload 4, 2) := by decide +kernel
theorem dX4_leaps_69 : decode cX4_leaps 69 = .ok (.iadd, 1) := by decide +kernel
theorem dX4_leaps_70 : decode cX4_leaps 70 = .ok (.invokevirtual 186, 3) := by decide +kernel
theorem dX4_leaps_73 : decode cX4_leaps 73 = .ok (.iinc 4 1, 3) := by decide +kernel
theorem dX4_leaps_76 : decode cX4_leaps 76 = .ok (.goto (-22), 3) := by decide +kernel
theorem dX4_leaps_79 : decode cX4_leaps 79 = .ok (.aload_n 0, 1) := by decide +kernel
theorem dX4_leaps_80 : decode cX4_leaps 80 = .ok (.getfield 47, 3) := by decide +kernel
theorem dX4_leaps_83 : decode cX4_leaps 83 = .ok (.bipush 18, 2) := by decide +kernel
theorem dX4_leaps_85 : decode cX4_leaps 85 = .ok (.iaload, 1) := by decide +kernel
theorem dX4_leaps_86 : decode cX4_leaps 86 = .ok (.ireturn, 1) := by decide +kernel
set_option maxRecDepth 20000 in
theorem ggX4_leaps_X4_notLoad : GoodIn wsX4_leaps wsX4_notLoad := goodIn_r _ [6, 7, 8, 5, 9, 10, 11, 12, 13, 14, 15] (by decide +kernel) (by decide +kernel)
set_option maxRecDepth 20000 in
theorem gX4_leaps_X4_notLoad : GoodIn wsX4_leaps (va_wsS RX4 176 yX4_notLoad wsX4_notLoad) := goodIn_app (goodIn_of _ (by decide +kernel)) ggX4_leaps_X4_notLoad
set_option maxRecDepth 20000 in
theorem ggX4_leaps_X4_no : GoodIn wsX4_leaps wsX4_no := goodIn_r _ [19, 20, 72, 73, 74, 75, 76, 77, 78, 79, 80, 81, 82, 83, 84, 85, 86, 87, 88, 89, 90, 91, 92, 93, 94, 95, 96, 97, 98, 99] (by decide +kernel) (by decide +kernel)
set_option maxRecDepth 20000 in
theorem gX4_leaps_X4_no : GoodIn wsX4_leaps (wsV RX4 73 RX4 yX4_no wsX4_no) := goodIn_app (goodIn_of _ (by decide +kernel)) ggX4_leaps_X4_no
set_option maxRecDepth 20000 in
theorem ggX4_leaps_X4_goesOnLeaping : GoodIn wsX4_leaps wsX4_goesOnLeaping := goodIn_r _ [24, 25, 1, 26, 27, 28, 5, 29, 30, 31, 32, 33, 34, 35, 36, 37, 38, 39, 40, 41, 42, 43, 44, 45, 46, 47, 48, 49, 50, 51, 52, 53, 54, 55, 56, 57, 10, 11, 12, 58, 59, 60, 61, 62, 2, 63, 64, 65, 66, 67, 68, 69, 70, 71, 72, 73, 74, 75, 76, 77, 78, 79, 80, 81, 82, 83, 84, 85, 86, 87, 88, 89, 90, 91, 92, 93, 94, 95, 96, 97, 98, 99] (by decide +kernel) (by decide +kernel)
set_option maxRecDepth 20000 in
theorem gX4_leaps_X4_goesOnLeaping : GoodIn wsX4_leaps (wsV RX4 186 RX4 yX4_goesOnLeaping wsX4_goesOnLeaping) := goodIn_app (goodIn_of _ (by decide +kernel)) ggX4_leaps_X4_goesOnLeaping
set_option maxHeartbeats 4000000 in
set_option maxRecDepth 100000 in
theorem mX4_leaps (l : Launch) (dC : Nat → ClassId) (dI : Nat → Nat → Nat) (cI cC : ClassId) (sk : (Nat → Nat) × (Nat → Nat)) (f : Nat → Nat) (sz : Nat) (p1 : Int32) (p2 : Int32) (c_r : RT) (c_refused : AR) (c_tape : AR) (c_letter : AR) (c_letterAt : AR) (c_number : AR) (c_taped : Int32) (c_at : Int32) (c_statements : Int32) (c_kept : AR) (c_hasImage : Int32) (c_isKeeping : Int32) (c_cursor : Int32) (c_poled : Int32) (c_barred : Int32) (c_leapsTo : AR) (c_leapsThen : AR) (c_lands : AR) (c_row : AR) (c_rowMany : Int32) (c_endsAt : Int32) (z : Int32 × AR × AR × AR) (h : fX4_leaps p1 p2 c_r c_refused c_poled c_barred c_leapsTo c_leapsThen = some z) : cRW l yX4_leaps wsX4_leaps (RMk 5 116) sk (dC, dI) (tyz cI cC) sz (zwM cI cC f c_r c_refused c_tape c_letter c_letterAt c_number c_taped c_at c_statements c_kept c_hasImage c_isKeeping c_cursor c_poled c_barred c_leapsTo c_leapsThen c_lands c_row c_rowMany c_endsAt) (zwM cI cC f c_r z.2.1 c_tape c_letter c_letterAt c_number c_taped c_at c_statements c_kept c_hasImage c_isKeeping c_cursor c_poled c_barred z.2.2.1 z.2.2.2 c_lands c_row c_rowMany c_endsAt) [.ref (f 0), .int p1, .int p2] z.1 := by
  refine ofRW (cc := cX4_leaps) (maxL := 5) (ret := (some .int)) (own := RX4) (plainFor_of_name (by decide)) rfl rfl (Nat.le_of_ble_eq_true rfl) ?_
  intro p e s m args below meth c A hA hx hb hml hr hts hown hlocks hE hK hP hD hS ls hl
  generalize hQ : qRW _ _ _ _ _ _ _ = Q
  have hl : lv_has ls 5 [(0, .ref (f 0)), (1, .int p1), (2, .int p2)] := hl
  have hiX4 : ∀ w ∈ wsX40, w ∈ wsX4_leaps := fun w h => List.mem_cons_of_mem _ (List.mem_append_right _ h)
  have hw1 := hts (Cond.fieldLink RX4 47 "FloeToFloeModel" "leapsTo" "[I") (List.mem_of_getElem? (i := 1) rfl)
  have hw2 := hts (Cond.fieldLink RX4 101 "FloeToFloeModel" "minute" "I") (List.mem_of_getElem? (i := 2) rfl)
  rw [fX4_leaps] at h
  refine lv_iload_n hx hb dX4_leaps_0 rfl (lv_at hl 1 rfl) ?_
  refine lv_iload_n hx hb dX4_leaps_1 rfl (lv_at hl 2 rfl) ?_
  obtain ⟨q2, e2, h⟩ := bd_some h
  refine g_roS (wc := ([] : va_W)) ⟨hx, hb, hml, hown, hts⟩ hE hK hP hS [] rfl (mX4_notLoad l dC dI cI cC sk  p1 p2 q2 e2) (va_cwS 2 hts gX4_leaps_X4_notLoad rfl rfl rfl (by decide +kernel) ⟨Nat.le_of_ble_eq_true rfl, Nat.le_of_ble_eq_true rfl⟩) (As := [.int p1, .int p2]) (rest := []) rfl hl.1 rfl (Nat.le_of_ble_eq_true rfl) dX4_leaps_2 ⟨Nat.zero_le _, Nat.zero_le _⟩ (fun H locs hP hS => ?_)
  refine lv_istore_n (lv' := [(3, .int q2), (0, .ref (f 0)), (1, .int p1), (2, .int p2)]) hx hb dX4_leaps_5 rfl hl (by decide) rfl (fun ls hl => ?_)
  refine lv_iload_n hx hb dX4_leaps_6 rfl (lv_at hl 0 rfl) ?_
  refine lv_if_eq (tgt := 16) hx hb dX4_leaps_7 (by decide) (fun c7 => ?_) (fun c7 => ?_)
  · have h := itT c7 h
    refine lv_iconst (v := (0 : Int32)) hx hb dX4_leaps_16 (by decide) ?_
    refine lv_istore (lv' := [(4, .int (0 : Int32)), (3, .int q2), (0, .ref (f 0)), (1, .int p1), (2, .int p2)]) hx hb dX4_leaps_17 hl (by decide) rfl (fun ls hl => ?_)
    have L19 : ∀ (K19 : AR → Option (Int32 × AR × AR × AR)), (∀ (k19_leapsTo : AR), K19 k19_leapsTo = some z → ∀ (H : Heap) (locs : List Loc) (ls : Array Slot), va_P (dC, dI) vwCl (zwM cI cC f c_r c_refused c_tape c_letter c_letterAt c_number c_taped c_at c_statements c_kept c_hasImage c_isKeeping c_cursor c_poled c_barred k19_leapsTo c_leapsThen c_lands c_row c_rowMany c_endsAt) H → va_D A (zwM cI cC f c_r c_refused c_tape c_letter c_letterAt c_number c_taped c_at c_statements c_kept c_hasImage c_isKeeping c_cursor c_poled c_barred k19_leapsTo c_leapsThen c_lands c_row c_rowMany c_endsAt) → va_S A s.heap H locs → lv_has ls 5 [(0, .ref (f 0)), (1, .int p1)] → W p l e (RMk 5 116) s m args below meth c H locs 0 0 Q (F0 m 51 ls [])) → ∀ (n : Nat) (x19_4 : Int32) (x19_leapsTo : AR), fX4_leaps_L19 p2 K19 n x19_4 x19_leapsTo = some z → ∀ (H : Heap) (locs : List Loc) (ls : Array Slot), va_P (dC, dI) vwCl (zwM cI cC f c_r c_refused c_tape c_letter c_letterAt c_number c_taped c_at c_statements c_kept c_hasImage c_isKeeping c_cursor c_poled c_barred x19_leapsTo c_leapsThen c_lands c_row c_rowMany c_endsAt) H → va_D A (zwM cI cC f c_r c_refused c_tape c_letter c_letterAt c_number c_taped c_at c_statements c_kept c_hasImage c_isKeeping c_cursor c_poled c_barred x19_leapsTo c_leapsThen c_lands c_row c_rowMany c_endsAt) → va_S A s.heap H locs → lv_has ls 5 [(0, .ref (f 0)), (1, .int p1), (2, .int p2), (4, .int x19_4)] → W p l e (RMk 5 116) s m args below meth c H locs 0 0 Q (F0 m 19 ls []) := by
      intro K19 kx19 n
      induction n with
      | zero => intro x19_4 x19_leapsTo h; rw [fX4_leaps_L19] at h; cases h
      | succ n ih19 =>
        intro x19_4 x19_leapsTo h H locs ls hP hD hS hl
        rw [fX4_leaps_L19] at h
        refine lv_iload hx hb dX4_leaps_19 (lv_at hl 3 rfl) ?_
        refine lv_bipush (v := (19 : Int32)) hx hb dX4_leaps_21 (by decide) ?_
        refine lv_icmp_ge (tgt := 51) hx hb dX4_leaps_23 (by decide) (fun c23 => ?_) (fun c23 => ?_)
        · have h := itT c23 h
          exact kx19 _ h _ _ _ hP hD hS (lv_sub hl [0, 1] rfl)
        have h := itF c23 h
        refine lv_aload_n hx hb dX4_leaps_26 rfl (lv_at hl 0 rfl) ?_
        refine va_get (D := (dC, dI)) (ci := 4) (v := .ref (f 12)) (C := RX4) (T := TX4) (N := 28) hx hb hts hiX4 hown hK hP 0 rfl rfl 22 (by decide) hw1 (fun _ h9 => h9) rfl dX4_leaps_27 ?_
        refine lv_iload hx hb dX4_leaps_30 (lv_at hl 3 rfl) ?_
        refine lv_iload hx hb dX4_leaps_32 (lv_at hl 3 rfl) ?_
        refine lv_iload_n hx hb dX4_leaps_34 rfl (lv_at hl 2 rfl) ?_
        refine jnW (fun (v44 : Int32) => ∀ (H : Heap) (locs : List Loc) (ls : Array Slot), va_P (dC, dI) vwCl (zwM cI cC f c_r c_refused c_tape c_letter c_letterAt c_number c_taped c_at c_statements c_kept c_hasImage c_isKeeping c_cursor c_poled c_barred x19_leapsTo c_leapsThen c_lands c_row c_rowMany c_endsAt) H → va_D A (zwM cI cC f c_r c_refused c_tape c_letter c_letterAt c_number c_taped c_at c_statements c_kept c_hasImage c_isKeeping c_cursor c_poled c_barred x19_leapsTo c_leapsThen c_lands c_row c_rowMany c_endsAt) → va_S A s.heap H locs → lv_has ls 5 [(0, .ref (f 0)), (1, .int p1), (2, .int p2), (4, .int x19_4)] → W p l e (RMk 5 116) s m args below meth c H locs 0 0 Q (F0 m 44 ls [.int v44, .int x19_4, .ref (f 12)])) h (fun v44 h H locs ls hP hD hS hl => ?_) (fun J44 j44 h => ?_)
        · obtain ⟨hin, h⟩ := ck_some h
          refine va_iast hx hb hK hP hD hS 12 0 rfl rfl hin dX4_leaps_44 (fun H locs hP hD hS => ?_)
          have hP : va_P (dC, dI) vwCl (zwM cI cC f c_r c_refused c_tape c_letter c_letterAt c_number c_taped c_at c_statements c_kept c_hasImage c_isKeeping c_cursor c_poled c_barred (upd x19_leapsTo (x19_4).toNatClampNeg v44) c_leapsThen c_lands c_row c_rowMany c_endsAt) H := hP
          have hD : va_D A (zwM cI cC f c_r c_refused c_tape c_letter c_letterAt c_number c_taped c_at c_statements c_kept c_hasImage c_isKeeping c_cursor c_poled c_barred (upd x19_leapsTo (x19_4).toNatClampNeg v44) c_leapsThen c_lands c_row c_rowMany c_endsAt) := hD
          refine lv_iinc (v := (x19_4 + (1 : Int32))) (lv' := [(4, .int (x19_4 + (1 : Int32))), (0, .ref (f 0)), (1, .int p1), (2, .int p2)]) hx hb dX4_leaps_45 hl (k := 3) rfl rfl (by decide) rfl (fun ls hl => ?_)
          refine lv_goto (tgt := 19) hx hb dX4_leaps_48 (by decide) ?_
          exact ih19 _ _ h _ _ _ hP hD hS (lv_sub hl [1, 2, 3, 0] rfl)
        refine lv_icmp_ne (tgt := 42) hx hb dX4_leaps_35 (by decide) (fun c35 => ?_) (fun c35 => ?_)
        · have h := itF c35 h
          refine lv_bipush (v := (-9 : Int32)) hx hb dX4_leaps_42 (by decide) ?_
          exact j44 _ h _ _ _ hP hD hS (lv_sub hl [0, 1, 2, 3] rfl)
        have h := itT c35 h
        refine lv_iconst (v := (0 : Int32)) hx hb dX4_leaps_38 (by decide) ?_
        refine lv_goto (tgt := 44) hx hb dX4_leaps_39 (by decide) ?_
        exact j44 _ h _ _ _ hP hD hS (lv_sub hl [0, 1, 2, 3] rfl)
    refine L19 _ (fun k19_leapsTo h H locs ls hP hD hS hl => ?_) _ _ _ h _ _ _ hP hD hS (lv_sub hl [2, 3, 4, 0] rfl)
    refine lv_iconst (v := (0 : Int32)) hx hb dX4_leaps_51 (by decide) ?_
    refine lv_istore (lv' := [(4, .int (0 : Int32)), (0, .ref (f 0)), (1, .int p1)]) hx hb dX4_leaps_52 hl (by decide) rfl (fun ls hl => ?_)
    have L54 : ∀ (K54 : AR → AR → Option (Int32 × AR × AR × AR)), (∀ (k54_leapsTo : AR) (k54_leapsThen : AR), K54 k54_leapsTo k54_leapsThen = some z → ∀ (H : Heap) (locs : List Loc) (ls : Array Slot), va_P (dC, dI) vwCl (zwM cI cC f c_r c_refused c_tape c_letter c_letterAt c_number c_taped c_at c_statements c_kept c_hasImage c_isKeeping c_cursor c_poled c_barred k54_leapsTo k54_leapsThen c_lands c_row c_rowMany c_endsAt) H → va_D A (zwM cI cC f c_r c_refused c_tape c_letter c_letterAt c_number c_taped c_at c_statements c_kept c_hasImage c_isKeeping c_cursor c_poled c_barred k54_leapsTo k54_leapsThen c_lands c_row c_rowMany c_endsAt) → va_S A s.heap H locs → lv_has ls 5 [(0, .ref (f 0))] → W p l e (RMk 5 116) s m args below meth c H locs 0 0 Q (F0 m 79 ls [])) → ∀ (n : Nat) (x54_4 : Int32) (x54_leapsTo : AR) (x54_leapsThen : AR), fX4_leaps_L54 c_barred c_poled c_r p1 K54 n x54_4 x54_leapsTo x54_leapsThen = some z → ∀ (H : Heap) (locs : List Loc) (ls : Array Slot), va_P (dC, dI) vwCl (zwM cI cC f c_r c_refused c_tape c_letter c_letterAt c_number c_taped c_at c_statements c_kept c_hasImage c_isKeeping c_cursor c_poled c_barred x54_leapsTo x54_leapsThen c_lands c_row c_rowMany c_endsAt) H → va_D A (zwM cI cC f c_r c_refused c_tape c_letter c_letterAt c_number c_taped c_at c_statements c_kept c_hasImage c_isKeeping c_cursor c_poled c_barred x54_leapsTo x54_leapsThen c_lands c_row c_rowMany c_endsAt) → va_S A s.heap H locs → lv_has ls 5 [(0, .ref (f 0)), (1, .int p1), (4, .int x54_4)] → W p l e (RMk 5 116) s m args below meth c H locs 0 0 Q (F0 m 54 ls []) := by
      intro K54 kx54 n
      induction n with
      | zero => intro x54_4 x54_leapsTo x54_leapsThen h; rw [fX4_leaps_L54] at h; cases h
      | succ n ih54 =>
        intro x54_4 x54_leapsTo x54_leapsThen h H locs ls hP hD hS hl
        rw [fX4_leaps_L54] at h
        refine lv_iload hx hb dX4_leaps_54 (lv_at hl 2 rfl) ?_
        refine lv_bipush (v := (40 : Int32)) hx hb dX4_leaps_56 (by decide) ?_
        refine lv_icmp_ge (tgt := 79) hx hb dX4_leaps_58 (by decide) (fun c58 => ?_) (fun c58 => ?_)
        · have h := itT c58 h
          exact kx54 _ _ h _ _ _ hP hD hS (lv_sub hl [0] rfl)
        have h := itF c58 h
        refine lv_aload_n hx hb dX4_leaps_61 rfl (lv_at hl 0 rfl) ?_
        refine lv_iload_n hx hb dX4_leaps_62 rfl (lv_at hl 1 rfl) ?_
        refine lv_aload_n hx hb dX4_leaps_63 rfl (lv_at hl 0 rfl) ?_
        refine va_get (D := (dC, dI)) (ci := 4) (v := .int (R_minute c_r)) (C := RX4) (T := TX4) (N := 28) hx hb hts hiX4 hown hK hP 0 rfl rfl 8 (by decide) hw2 (fun _ h9 => h9) rfl dX4_leaps_64 ?_
        refine lv_iload hx hb dX4_leaps_67 (lv_at hl 2 rfl) ?_
        refine lv_iadd hx hb dX4_leaps_69 ?_
        obtain ⟨q70, e70, h⟩ := bd_some h
        refine g_rvA (wc := (zwM cI cC f c_r c_refused c_tape c_letter c_letterAt c_number c_taped c_at c_statements c_kept c_hasImage c_isKeeping c_cursor c_poled c_barred x54_leapsTo x54_leapsThen c_lands c_row c_rowMany c_endsAt)) (wc' := (zwM cI cC f c_r c_refused c_tape c_letter c_letterAt c_number c_taped c_at c_statements c_kept c_hasImage c_isKeeping c_cursor c_poled c_barred q70.1 q70.2 c_lands c_row c_rowMany c_endsAt)) ⟨hx, hb, hml, hown, hts⟩ hE hK hA hP hD hS rfl (mX4_goesOnLeaping l dC dI cI cC sk f H.size p1 ((R_minute c_r) + x54_4) c_r c_refused c_tape c_letter c_letterAt c_number c_taped c_at c_statements c_kept c_hasImage c_isKeeping c_cursor c_poled c_barred x54_leapsTo x54_leapsThen c_lands c_row c_rowMany c_endsAt q70 e70) (cwV 2 hts gX4_leaps_X4_goesOnLeaping rfl rfl rfl (by decide +kernel) ⟨Nat.le_of_ble_eq_true rfl, Nat.le_of_ble_eq_true rfl⟩) (va_recv hK hP (ci := 4) (q0 := 0) rfl rfl) (As := [.int p1, .int ((R_minute c_r) + x54_4)]) (rest := []) rfl hl.1 rfl (Nat.le_of_ble_eq_true rfl) dX4_leaps_70 ⟨Nat.zero_le _, Nat.zero_le _⟩ (fun H locs hP hD hS => ?_)
        have hP : va_P (dC, dI) vwCl (zwM cI cC f c_r c_refused c_tape c_letter c_letterAt c_number c_taped c_at c_statements c_kept c_hasImage c_isKeeping c_cursor c_poled c_barred q70.1 q70.2 c_lands c_row c_rowMany c_endsAt) H := hP
        have hD : va_D A (zwM cI cC f c_r c_refused c_tape c_letter c_letterAt c_number c_taped c_at c_statements c_kept c_hasImage c_isKeeping c_cursor c_poled c_barred q70.1 q70.2 c_lands c_row c_rowMany c_endsAt) := hD
        refine lv_iinc (v := (x54_4 + (1 : Int32))) (lv' := [(4, .int (x54_4 + (1 : Int32))), (0, .ref (f 0)), (1, .int p1)]) hx hb dX4_leaps_73 hl (k := 2) rfl rfl (by decide) rfl (fun ls hl => ?_)
        refine lv_goto (tgt := 54) hx hb dX4_leaps_76 (by decide) ?_
        exact ih54 _ _ _ h _ _ _ hP hD hS (lv_sub hl [1, 2, 0] rfl)
    refine L54 _ (fun k54_leapsTo k54_leapsThen h H locs ls hP hD hS hl => ?_) _ _ _ _ h _ _ _ hP hD hS (lv_sub hl [1, 2, 0] rfl)
    refine lv_aload_n hx hb dX4_leaps_79 rfl (lv_at hl 0 rfl) ?_
    refine va_get (D := (dC, dI)) (ci := 4) (v := .ref (f 12)) (C := RX4) (T := TX4) (N := 28) hx hb hts hiX4 hown hK hP 0 rfl rfl 22 (by decide) hw1 (fun _ h9 => h9) rfl dX4_leaps_80 ?_
    refine lv_bipush (v := (18 : Int32)) hx hb dX4_leaps_83 (by decide) ?_
    obtain ⟨hin, h⟩ := ck_some h
    refine va_iald hx hb hK hP 12 0 rfl rfl hin dX4_leaps_85 ?_
    subst hQ
    exact retRW (zz := (((k54_leapsTo ((18 : Int32)).toNatClampNeg), c_refused, k54_leapsTo, k54_leapsThen) : Int32 × AR × AR × AR)) (fun z => z.1) (fun z => (zwM cI cC f c_r z.2.1 c_tape c_letter c_letterAt c_number c_taped c_at c_statements c_kept c_hasImage c_isKeeping c_cursor c_poled c_barred z.2.2.1 z.2.2.2 c_lands c_row c_rowMany c_endsAt)) hx hb hr hlocks rfl hS h rfl hP dX4_leaps_86
  have h := itF c7 h
  refine lv_aload_n hx hb dX4_leaps_10 rfl (lv_at hl 1 rfl) ?_
  refine lv_iload_n hx hb dX4_leaps_11 rfl (lv_at hl 0 rfl) ?_
  obtain ⟨q12, e12, h⟩ := bd_some h
  refine g_rwA (wc := (zwM cI cC f c_r c_refused c_tape c_letter c_letterAt c_number c_taped c_at c_statements c_kept c_hasImage c_isKeeping c_cursor c_poled c_barred c_leapsTo c_leapsThen c_lands c_row c_rowMany c_endsAt)) (wc' := (zwM cI cC f c_r q12.2 c_tape c_letter c_letterAt c_number c_taped c_at c_statements c_kept c_hasImage c_isKeeping c_cursor c_poled c_barred c_leapsTo c_leapsThen c_lands c_row c_rowMany c_endsAt)) ⟨hx, hb, hml, hown, hts⟩ hE hK hA hP hD hS rfl (mX4_no l dC dI cI cC sk f H.size q2 c_r c_refused c_tape c_letter c_letterAt c_number c_taped c_at c_statements c_kept c_hasImage c_isKeeping c_cursor c_poled c_barred c_leapsTo c_leapsThen c_lands c_row c_rowMany c_endsAt q12 e12) (cwV 1 hts gX4_leaps_X4_no rfl rfl rfl (by decide +kernel) ⟨Nat.le_of_ble_eq_true rfl, Nat.le_of_ble_eq_true rfl⟩) (va_recv hK hP (ci := 4) (q0 := 0) rfl rfl) (As := [.int q2]) (rest := []) rfl hl.1 rfl (Nat.le_of_ble_eq_true rfl) dX4_leaps_12 ⟨Nat.zero_le _, Nat.zero_le _⟩ (fun H locs hP hD hS => ?_)
  have hP : va_P (dC, dI) vwCl (zwM cI cC f c_r q12.2 c_tape c_letter c_letterAt c_number c_taped c_at c_statements c_kept c_hasImage c_isKeeping c_cursor c_poled c_barred c_leapsTo c_leapsThen c_lands c_row c_rowMany c_endsAt) H := hP
  have hD : va_D A (zwM cI cC f c_r q12.2 c_tape c_letter c_letterAt c_number c_taped c_at c_statements c_kept c_hasImage c_isKeeping c_cursor c_poled c_barred c_leapsTo c_leapsThen c_lands c_row c_rowMany c_endsAt) := hD
  subst hQ
  exact retRW (zz := ((q12.1, q12.2, c_leapsTo, c_leapsThen) : Int32 × AR × AR × AR)) (fun z => z.1) (fun z => (zwM cI cC f c_r z.2.1 c_tape c_letter c_letterAt c_number c_taped c_at c_statements c_kept c_hasImage c_isKeeping c_cursor c_poled c_barred z.2.2.1 z.2.2.2 c_lands c_row c_rowMany c_endsAt)) hx hb hr hlocks rfl hS h rfl hP dX4_leaps_15
theorem dX4_floesOf_0 : decode cX4_floesOf 0 = .ok (.iload_n 0, 1) := by decide +kernel
theorem dX4_floesOf_1 : decode cX4_floesOf 1 = .ok (.bipush 10, 2) := by decide +kernel
theorem dX4_floesOf_3 : decode cX4_floesOf 3 = .ok (.ishr, 1) := by decide +kernel
theorem dX4_floesOf_4 : decode cX4_floesOf 4 = .ok (.sipush 255, 3) := by decide +kernel
theorem dX4_floesOf_7 : decode cX4_floesOf 7 = .ok (.iand, 1) := by decide +kernel
theorem dX4_floesOf_8 : decode cX4_floesOf 8 = .ok (.ireturn, 1) := by decide +kernel
set_option maxHeartbeats 4000000 in
set_option maxRecDepth 100000 in
theorem mX4_floesOf (l : Launch) (dC : Nat → ClassId) (dI : Nat → Nat → Nat) (cI cC : ClassId) (sk : (Nat → Nat) × (Nat → Nat))  (p0 : Int32)  (z : Int32) (h : fX4_floesOf p0 = some z) : cRO l yX4_floesOf wsX4_floesOf (RMk 0 0) sk (dC, dI) (tyz cI cC) ([] : va_W) [.int p0] z := by
  refine ofRO (cc := cX4_floesOf) (maxL := 1) (ret := (some .int)) (own := RX4) (plainFor_of_name (by decide)) rfl rfl (Nat.le_of_ble_eq_true rfl) ?_
  intro p e s m args below meth c hx hb hml hr hts hown hlocks hE hK hP hS ls hl
  generalize hQ : qRO _ _ _ _ = Q
  have hl : lv_has ls 1 [(0, .int p0)] := hl
  rw [fX4_floesOf] at h
  refine lv_iload_n hx hb dX4_floesOf_0 rfl (lv_at hl 0 rfl) ?_
  refine lv_bipush (v := (10 : Int32)) hx hb dX4_floesOf_1 (by decide) ?_
  refine lv_ishr hx hb dX4_floesOf_3 ?_
  refine lv_sipush (v := (255 : Int32)) hx hb dX4_floesOf_4 (by decide) ?_
  refine lv_iand hx hb dX4_floesOf_7 ?_
  subst hQ
  exact retRO hx hb hr hlocks rfl hS h dX4_floesOf_8
