theorem dX4_statement_0 : decode cX4_statement 0 = .ok (.aload_n 0, 1) := by decide +kernel
theorem dX4_statement_1 : decode cX4_statement 1 = .ok (.invokevirtual 80, 3) := by decide +kernel
theorem dX4_statement_4 : decode cX4_statement 4 = .ok (.istore_n 1, 1) := by decide +kernel
theorem dX4_statement_5 : decode cX4_statement 5 = .ok (.iload_n 1, 1) := by decide +kernel
theorem dX4_statement_6 : decode cX4_statement 6 = .ok (.bipush 114, 2) := by decide +kernel
theorem dX4_statement_8 : decode cX4_statement 8 = .ok (.if_icmp .eq 17, 3) := by decide +kernel
theorem dX4_statement_11 : decode cX4_statement 11 = .ok (.iload_n 1, 1) := by decide +kernel
theorem dX4_statement_12 : decode cX4_statement 12 = .ok (.bipush 102, 2) := by decide +kernel
theorem dX4_statement_14 : decode cX4_statement 14 = .ok (.if_icmp .eq 11, 3) := by decide +kernel
theorem dX4_statement_17 : decode cX4_statement 17 = .ok (.iload_n 1, 1) := by decide +kernel
theorem dX4_statement_18 : decode cX4_statement 18 = .ok (.bipush 109, 2) := by decide +kernel
theorem dX4_statement_20 : decode cX4_statement 20 = .ok (.if_icmp .eq 5, 3) := by decide +kernel
theorem dX4_statement_23 : decode cX4_statement 23 = .ok (.iconst 0, 1) := by decide +kernel
theorem dX4_statement_24 : decode cX4_statement 24 = .ok (.ireturn, 1) := by decide +kernel
theorem dX4_statement_25 : decode cX4_statement 25 = .ok (.aload_n 0, 1) := by decide +kernel
theorem dX4_statement_26 : decode cX4_statement 26 = .ok (.getfield 35, 3) := by decide +kernel
theorem dX4_statement_29 : decode cX4_statement 29 = .ok (.aload_n 0, 1) := by decide +kernel
theorem dX4_statement_30 : decode cX4_statement 30 = .ok (.getfield 91, 3) := by decide +kernel
theorem dX4_statement_33 : decode cX4_statement 33 = .ok (.iload_n 1, 1) := by decide +kernel
theorem dX4_statement_34 : decode cX4_statement 34 = .ok (.iastore, 1) := by decide +kernel
theorem dX4_statement_35 : decode cX4_statement 35 = .ok (.aload_n 0, 1) := by decide +kernel
theorem dX4_statement_36 : decode cX4_statement 36 = .ok (.getfield 38, 3) := by decide +kernel
theorem dX4_statement_39 : decode cX4_statement 39 = .ok (.aload_n 0, 1) := by decide +kernel
theorem dX4_statement_40 : decode cX4_statement 40 = .ok (.getfield 91, 3) := by decide +kernel
theorem dX4_statement_43 : decode cX4_statement 43 = .ok (.aload_n 0, 1) := by decide +kernel
theorem dX4_statement_44 : decode cX4_statement 44 = .ok (.getfield 77, 3) := by decide +kernel
theorem dX4_statement_47 : decode cX4_statement 47 = .ok (.iastore, 1) := by decide +kernel
theorem dX4_statement_48 : decode cX4_statement 48 = .ok (.aload_n 0, 1) := by decide +kernel
theorem dX4_statement_49 : decode cX4_statement 49 = .ok (.dup, 1) := by decide +kernel
theorem dX4_statement_50 : decode cX4_statement 50 = .ok (.getfield 77, 3) := by decide +kernel
theorem dX4_statement_53 : decode cX4_statement 53 = .ok (.iconst 1, 1) := by decide +kernel
theorem dX4_statement_54 : decode cX4_statement 54 = .ok (.iadd, 1) := by decide +kernel
theorem dX4_statement_55 : decode cX4_statement 55 = .ok (.putfield 77, 3) := by decide +kernel
theorem dX4_statement_58 : decode cX4_statement 58 = .ok (.iconst 5, 1) := by decide +kernel
theorem dX4_statement_59 : decode cX4_statement 59 = .ok (.aload_n 0, 1) := by decide +kernel
theorem dX4_statement_60 : decode cX4_statement 60 = .ok (.getfield 91, 3) := by decide +kernel
theorem dX4_statement_63 : decode cX4_statement 63 = .ok (.imul, 1) := by decide +kernel
theorem dX4_statement_64 : decode cX4_statement 64 = .ok (.istore_n 2, 1) := by decide +kernel
theorem dX4_statement_65 : decode cX4_statement 65 = .ok (.iload_n 1, 1) := by decide +kernel
theorem dX4_statement_66 : decode cX4_statement 66 = .ok (.bipush 102, 2) := by decide +kernel
theorem dX4_statement_68 : decode cX4_statement 68 = .ok (.if_icmp .ne 14, 3) := by decide +kernel
theorem dX4_statement_71 : decode cX4_statement 71 = .ok (.aload_n 0, 1) := by decide +kernel
theorem dX4_statement_72 : decode cX4_statement 72 = .ok (.iload_n 2, 1) := by decide +kernel
theorem dX4_statement_73 : decode cX4_statement 73 = .ok (.invokevirtual 94, 3) := by decide +kernel
theorem dX4_statement_76 : decode cX4_statement 76 = .ok (.ifCond .eq 34, 3) := by decide +kernel
theorem dX4_statement_79 : decode cX4_statement 79 = .ok (.goto 22, 3) := by decide +kernel
theorem dX4_statement_82 : decode cX4_statement 82 = .ok (.aload_n 0, 1) := by decide +kernel
theorem dX4_statement_83 : decode cX4_statement 83 = .ok (.iload_n 2, 1) := by decide +kernel
theorem dX4_statement_84 : decode cX4_statement 84 = .ok (.iload_n 1, 1) := by decide +kernel
theorem dX4_statement_85 : decode cX4_statement 85 = .ok (.bipush 109, 2) := by decide +kernel
theorem dX4_statement_87 : decode cX4_statement 87 = .ok (.if_icmp .ne 7, 3) := by decide +kernel
theorem dX4_statement_90 : decode cX4_statement 90 = .ok (.iconst 2, 1) := by decide +kernel
theorem dX4_statement_91 : decode cX4_statement 91 = .ok (.goto 4, 3) := by decide +kernel
theorem dX4_statement_94 : decode cX4_statement 94 = .ok (.iconst 1, 1) := by decide +kernel
theorem dX4_statement_95 : decode cX4_statement 95 = .ok (.invokevirtual 87, 3) := by decide +kernel
theorem dX4_statement_98 : decode cX4_statement 98 = .ok (.ifCond .eq 12, 3) := by decide +kernel
theorem dX4_statement_101 : decode cX4_statement 101 = .ok (.aload_n 0, 1) := by decide +kernel
theorem dX4_statement_102 : decode cX4_statement 102 = .ok (.invokevirtual 80, 3) := by decide +kernel
theorem dX4_statement_105 : decode cX4_statement 105 = .ok (.bipush 59, 2) := by decide +kernel
theorem dX4_statement_107 : decode cX4_statement 107 = .ok (.if_icmp .eq 5, 3) := by decide +kernel
theorem dX4_statement_110 : decode cX4_statement 110 = .ok (.iconst 0, 1) := by decide +kernel
theorem dX4_statement_111 : decode cX4_statement 111 = .ok (.ireturn, 1) := by decide +kernel
theorem dX4_statement_112 : decode cX4_statement 112 = .ok (.aload_n 0, 1) := by decide +kernel
theorem dX4_statement_113 : decode cX4_statement 113 = .ok (.dup, 1) := by decide +kernel
theorem dX4_statement_114 : decode cX4_statement 114 = .ok (.getfield 77, 3) := by decide +kernel
theorem dX4_statement_117 : decode cX4_statement 117 = .ok (.iconst 1, 1) := by decide +kernel
theorem dX4_statement_118 : decode cX4_statement 118 = .ok (.iadd, 1) := by decide +kernel
theorem dX4_statement_119 : decode cX4_statement 119 = .ok (.putfield 77, 3) := by decide +kernel
theorem dX4_statement_122 : decode cX4_statement 122 = .ok (.iconst 1, 1) := by decide +kernel
theorem dX4_statement_123 : decode cX4_statement 123 = .ok (.ireturn, 1) := by decide +kernel
set_option maxRecDepth 20000 in
theorem ggX4_statement_X4_nextLetter : GoodIn wsX4_statement wsX4_nextLetter := goodIn_r _ [9, 4, 10, 11, 27, 28, 29, 30, 31, 32, 33, 34, 35, 36, 37, 38, 39, 40, 41, 42, 43, 44, 45, 46, 47, 48, 49, 50, 51, 52, 53, 54] (by decide +kernel) (by decide +kernel)
set_option maxRecDepth 20000 in
theorem gX4_statement_X4_nextLetter : GoodIn wsX4_statement (wsV RX4 80 RX4 yX4_nextLetter wsX4_nextLetter) := goodIn_app (goodIn_of _ (by decide +kernel)) ggX4_statement_X4_nextLetter
set_option maxRecDepth 20000 in
theorem ggX4_statement_X4_readsFloe : GoodIn wsX4_statement wsX4_readsFloe := goodIn_r _ [15, 16, 4, 5, 6, 7, 8, 9, 10, 11, 17, 18, 19, 20, 21, 22, 23, 24, 25, 26, 27, 28, 29, 30, 31, 32, 33, 34, 35, 36, 37, 38, 39, 40, 41, 42, 43, 44, 45, 46, 47, 48, 49, 50, 51, 52, 53, 54] (by decide +kernel) (by decide +kernel)
set_option maxRecDepth 20000 in
theorem gX4_statement_X4_readsFloe : GoodIn wsX4_statement (wsV RX4 94 RX4 yX4_readsFloe wsX4_readsFloe) := goodIn_app (goodIn_of _ (by decide +kernel)) ggX4_statement_X4_readsFloe
set_option maxRecDepth 20000 in
theorem ggX4_statement_X4_reads : GoodIn wsX4_statement wsX4_reads := goodIn_r _ [23, 4, 16, 5, 6, 7, 8, 9, 10, 11, 24, 25, 26, 27, 28, 29, 30, 31, 32, 33, 34, 35, 36, 37, 38, 39, 40, 41, 42, 43, 44, 45, 46, 47, 48, 49, 50, 51, 52, 53, 54] (by decide +kernel) (by decide +kernel)
set_option maxRecDepth 20000 in
theorem gX4_statement_X4_reads : GoodIn wsX4_statement (wsV RX4 87 RX4 yX4_reads wsX4_reads) := goodIn_app (goodIn_of _ (by decide +kernel)) ggX4_statement_X4_reads
set_option maxHeartbeats 4000000 in
set_option maxRecDepth 100000 in
theorem mX4_statement (l : Launch) (dC : Nat → ClassId) (dI : Nat → Nat → Nat) (cI cC : ClassId) (sk : (Nat → Nat) × (Nat → Nat)) (f : Nat → Nat) (sz : Nat)  (c_r : RT) (c_refused : AR) (c_tape : AR) (c_letter : AR) (c_letterAt : AR) (c_number : AR) (c_taped : Int32) (c_at : Int32) (c_statements : Int32) (c_kept : AR) (c_hasImage : Int32) (c_isKeeping : Int32) (c_cursor : Int32) (c_poled : Int32) (c_barred : Int32) (c_leapsTo : AR) (c_leapsThen : AR) (c_lands : AR) (c_row : AR) (c_rowMany : Int32) (c_endsAt : Int32) (z : Int32 × AR × AR × AR × Int32) (h : fX4_statement c_tape c_letter c_letterAt c_number c_taped c_at c_statements = some z) : cRW l yX4_statement wsX4_statement (RMk 3 68) sk (dC, dI) (tyz cI cC) sz (zwM cI cC f c_r c_refused c_tape c_letter c_letterAt c_number c_taped c_at c_statements c_kept c_hasImage c_isKeeping c_cursor c_poled c_barred c_leapsTo c_leapsThen c_lands c_row c_rowMany c_endsAt) (zwM cI cC f c_r c_refused c_tape z.2.1 z.2.2.1 z.2.2.2.1 c_taped z.2.2.2.2 c_statements c_kept c_hasImage c_isKeeping c_cursor c_poled c_barred c_leapsTo c_leapsThen c_lands c_row c_rowMany c_endsAt) [.ref (f 0)] z.1 := by
  refine ofRW (cc := cX4_statement) (maxL := 3) (ret := (some .boolean)) (own := RX4) (plainFor_of_name (by decide)) rfl rfl (Nat.le_of_ble_eq_true rfl) ?_
  intro p e s m args below meth c A hA hx hb hml hr hts hown hlocks hE hK hP hD hS ls hl
  generalize hQ : qRW _ _ _ _ _ _ _ = Q
  have hl : lv_has ls 3 [(0, .ref (f 0))] := hl
  have hiX4 : ∀ w ∈ wsX40, w ∈ wsX4_statement := fun w h => List.mem_cons_of_mem _ (List.mem_append_right _ h)
  have hw1 := hts (Cond.fieldLink RX4 35 "FloeToFloeModel" "letter" "[I") (List.mem_of_getElem? (i := 1) rfl)
  have hw2 := hts (Cond.fieldLink RX4 91 "FloeToFloeModel" "statements" "I") (List.mem_of_getElem? (i := 2) rfl)
  have hw3 := hts (Cond.fieldLink RX4 38 "FloeToFloeModel" "letterAt" "[I") (List.mem_of_getElem? (i := 3) rfl)
  have hw4 := hts (Cond.fieldLink RX4 77 "FloeToFloeModel" "at" "I") (List.mem_of_getElem? (i := 4) rfl)
  rw [fX4_statement] at h
  refine lv_aload_n hx hb dX4_statement_0 rfl (lv_at hl 0 rfl) ?_
  obtain ⟨q1, e1, h⟩ := bd_some h
  refine g_roV (wc := (zwM cI cC f c_r c_refused c_tape c_letter c_letterAt c_number c_taped c_at c_statements c_kept c_hasImage c_isKeeping c_cursor c_poled c_barred c_leapsTo c_leapsThen c_lands c_row c_rowMany c_endsAt)) ⟨hx, hb, hml, hown, hts⟩ hE hK hP hS [0, 1, 2, 3, 4, 5, 6, 7, 8, 9, 10, 11, 12, 13, 14, 15] rfl (mX4_nextLetter l dC dI cI cC sk f c_r c_refused c_tape c_letter c_letterAt c_number c_taped c_at c_statements c_kept c_hasImage c_isKeeping c_cursor c_poled c_barred c_leapsTo c_leapsThen c_lands c_row c_rowMany c_endsAt q1 e1) (cwV 0 hts gX4_statement_X4_nextLetter rfl rfl rfl (by decide +kernel) ⟨Nat.le_of_ble_eq_true rfl, Nat.le_of_ble_eq_true rfl⟩) (va_recv hK hP (ci := 4) (q0 := 0) rfl rfl) (As := []) (rest := []) rfl hl.1 rfl (Nat.le_of_ble_eq_true rfl) dX4_statement_1 ⟨Nat.zero_le _, Nat.zero_le _⟩ (fun H locs hP hS => ?_)
  refine lv_istore_n (lv' := [(1, .int q1), (0, .ref (f 0))]) hx hb dX4_statement_4 rfl hl (by decide) rfl (fun ls hl => ?_)
  refine lv_iload_n hx hb dX4_statement_5 rfl (lv_at hl 0 rfl) ?_
  refine lv_bipush (v := (114 : Int32)) hx hb dX4_statement_6 (by decide) ?_
  refine jnW (fun (v25 : Unit) => ∀ (H : Heap) (locs : List Loc) (ls : Array Slot), va_P (dC, dI) vwCl (zwM cI cC f c_r c_refused c_tape c_letter c_letterAt c_number c_taped c_at c_statements c_kept c_hasImage c_isKeeping c_cursor c_poled c_barred c_leapsTo c_leapsThen c_lands c_row c_rowMany c_endsAt) H → va_D A (zwM cI cC f c_r c_refused c_tape c_letter c_letterAt c_number c_taped c_at c_statements c_kept c_hasImage c_isKeeping c_cursor c_poled c_barred c_leapsTo c_leapsThen c_lands c_row c_rowMany c_endsAt) → va_S A s.heap H locs → lv_has ls 3 [(0, .ref (f 0)), (1, .int q1)] → W p l e (RMk 3 68) s m args below meth c H locs 0 0 Q (F0 m 25 ls [])) h (fun v25 h H locs ls hP hD hS hl => ?_) (fun J25 j25 h => ?_)
  · refine lv_aload_n hx hb dX4_statement_25 rfl (lv_at hl 0 rfl) ?_
    refine va_get (D := (dC, dI)) (ci := 4) (v := .ref (f 8)) (C := RX4) (T := TX4) (N := 28) hx hb hts hiX4 hown hK hP 0 rfl rfl 10 (by decide) hw1 (fun _ h9 => h9) rfl dX4_statement_26 ?_
    refine lv_aload_n hx hb dX4_statement_29 rfl (lv_at hl 0 rfl) ?_
    refine va_get (D := (dC, dI)) (ci := 4) (v := .int c_statements) (C := RX4) (T := TX4) (N := 28) hx hb hts hiX4 hown hK hP 0 rfl rfl 15 (by decide) hw2 (fun _ h9 => h9) rfl dX4_statement_30 ?_
    refine lv_iload_n hx hb dX4_statement_33 rfl (lv_at hl 1 rfl) ?_
    obtain ⟨hin, h⟩ := ck_some h
    refine va_iast hx hb hK hP hD hS 8 0 rfl rfl hin dX4_statement_34 (fun H locs hP hD hS => ?_)
    have hP : va_P (dC, dI) vwCl (zwM cI cC f c_r c_refused c_tape (upd c_letter (c_statements).toNatClampNeg q1) c_letterAt c_number c_taped c_at c_statements c_kept c_hasImage c_isKeeping c_cursor c_poled c_barred c_leapsTo c_leapsThen c_lands c_row c_rowMany c_endsAt) H := hP
    have hD : va_D A (zwM cI cC f c_r c_refused c_tape (upd c_letter (c_statements).toNatClampNeg q1) c_letterAt c_number c_taped c_at c_statements c_kept c_hasImage c_isKeeping c_cursor c_poled c_barred c_leapsTo c_leapsThen c_lands c_row c_rowMany c_endsAt) := hD
    refine lv_aload_n hx hb dX4_statement_35 rfl (lv_at hl 0 rfl) ?_
    refine va_get (D := (dC, dI)) (ci := 4) (v := .ref (f 9)) (C := RX4) (T := TX4) (N := 28) hx hb hts hiX4 hown hK hP 0 rfl rfl 11 (by decide) hw3 (fun _ h9 => h9) rfl dX4_statement_36 ?_
    refine lv_aload_n hx hb dX4_statement_39 rfl (lv_at hl 0 rfl) ?_
    refine va_get (D := (dC, dI)) (ci := 4) (v := .int c_statements) (C := RX4) (T := TX4) (N := 28) hx hb hts hiX4 hown hK hP 0 rfl rfl 15 (by decide) hw2 (fun _ h9 => h9) rfl dX4_statement_40 ?_
    refine lv_aload_n hx hb dX4_statement_43 rfl (lv_at hl 0 rfl) ?_
    refine va_get (D := (dC, dI)) (ci := 4) (v := .int c_at) (C := RX4) (T := TX4) (N := 28) hx hb hts hiX4 hown hK hP 0 rfl rfl 14 (by decide) hw4 (fun _ h9 => h9) rfl dX4_statement_44 ?_
    obtain ⟨hin, h⟩ := ck_some h
    refine va_iast hx hb hK hP hD hS 9 0 rfl rfl hin dX4_statement_47 (fun H locs hP hD hS => ?_)
    have hP : va_P (dC, dI) vwCl (zwM cI cC f c_r c_refused c_tape (upd c_letter (c_statements).toNatClampNeg q1) (upd c_letterAt (c_statements).toNatClampNeg c_at) c_number c_taped c_at c_statements c_kept c_hasImage c_isKeeping c_cursor c_poled c_barred c_leapsTo c_leapsThen c_lands c_row c_rowMany c_endsAt) H := hP
    have hD : va_D A (zwM cI cC f c_r c_refused c_tape (upd c_letter (c_statements).toNatClampNeg q1) (upd c_letterAt (c_statements).toNatClampNeg c_at) c_number c_taped c_at c_statements c_kept c_hasImage c_isKeeping c_cursor c_poled c_barred c_leapsTo c_leapsThen c_lands c_row c_rowMany c_endsAt) := hD
    refine lv_aload_n hx hb dX4_statement_48 rfl (lv_at hl 0 rfl) ?_
    refine lv_dup hx hb dX4_statement_49 rfl ?_
    refine va_get (D := (dC, dI)) (ci := 4) (v := .int c_at) (C := RX4) (T := TX4) (N := 28) hx hb hts hiX4 hown hK hP 0 rfl rfl 14 (by decide) hw4 (fun _ h9 => h9) rfl dX4_statement_50 ?_
    refine lv_iconst (v := (1 : Int32)) hx hb dX4_statement_53 (by decide) ?_
    refine lv_iadd hx hb dX4_statement_54 ?_
    refine va_put (D := (dC, dI)) (ci := 4) (v := .int (c_at + (1 : Int32))) (ty := .int) (C := RX4) (T := TX4) (N := 28) hx hb hts hiX4 tyX4 tyX4_ok nmX4 hown hK hP hD hS 0 rfl rfl 14 (by decide) hw4 (fun _ h9 => h9) rfl (by decide +kernel) rfl rfl (Nat.le_of_ble_eq_true rfl) dX4_statement_55 (fun H locs hP hD hS => ?_)
    have hP : va_P (dC, dI) vwCl (zwM cI cC f c_r c_refused c_tape (upd c_letter (c_statements).toNatClampNeg q1) (upd c_letterAt (c_statements).toNatClampNeg c_at) c_number c_taped (c_at + (1 : Int32)) c_statements c_kept c_hasImage c_isKeeping c_cursor c_poled c_barred c_leapsTo c_leapsThen c_lands c_row c_rowMany c_endsAt) H := hP
    have hD : va_D A (zwM cI cC f c_r c_refused c_tape (upd c_letter (c_statements).toNatClampNeg q1) (upd c_letterAt (c_statements).toNatClampNeg c_at) c_number c_taped (c_at + (1 : Int32)) c_statements c_kept c_hasImage c_isKeeping c_cursor c_poled c_barred c_leapsTo c_leapsThen c_lands c_row c_rowMany c_endsAt) := hD
    refine lv_iconst (v := (5 : Int32)) hx hb dX4_statement_58 (by decide) ?_
    refine lv_aload_n hx hb dX4_statement_59 rfl (lv_at hl 0 rfl) ?_
    refine va_get (D := (dC, dI)) (ci := 4) (v := .int c_statements) (C := RX4) (T := TX4) (N := 28) hx hb hts hiX4 hown hK hP 0 rfl rfl 15 (by decide) hw2 (fun _ h9 => h9) rfl dX4_statement_60 ?_
    refine lv_imul hx hb dX4_statement_63 ?_
    refine lv_istore_n (lv' := [(2, .int ((5 : Int32) * c_statements)), (0, .ref (f 0)), (1, .int q1)]) hx hb dX4_statement_64 rfl hl (by decide) rfl (fun ls hl => ?_)
    refine lv_iload_n hx hb dX4_statement_65 rfl (lv_at hl 2 rfl) ?_
    refine lv_bipush (v := (102 : Int32)) hx hb dX4_statement_66 (by decide) ?_
    refine jnW (fun (v101 : AR × Int32) => ∀ (H : Heap) (locs : List Loc) (ls : Array Slot), va_P (dC, dI) vwCl (zwM cI cC f c_r c_refused c_tape (upd c_letter (c_statements).toNatClampNeg q1) (upd c_letterAt (c_statements).toNatClampNeg c_at) v101.1 c_taped v101.2 c_statements c_kept c_hasImage c_isKeeping c_cursor c_poled c_barred c_leapsTo c_leapsThen c_lands c_row c_rowMany c_endsAt) H → va_D A (zwM cI cC f c_r c_refused c_tape (upd c_letter (c_statements).toNatClampNeg q1) (upd c_letterAt (c_statements).toNatClampNeg c_at) v101.1 c_taped v101.2 c_statements c_kept c_hasImage c_isKeeping c_cursor c_poled c_barred c_leapsTo c_leapsThen c_lands c_row c_rowMany c_endsAt) → va_S A s.heap H locs → lv_has ls 3 [(0, .ref (f 0))] → W p l e (RMk 3 68) s m args below meth c H locs 0 0 Q (F0 m 101 ls [])) h (fun v101 h H locs ls hP hD hS hl => ?_) (fun J101 j101 h => ?_)
    · refine lv_aload_n hx hb dX4_statement_101 rfl (lv_at hl 0 rfl) ?_
      obtain ⟨q102, e102, h⟩ := bd_some h
      refine g_roV (wc := (zwM cI cC f c_r c_refused c_tape (upd c_letter (c_statements).toNatClampNeg q1) (upd c_letterAt (c_statements).toNatClampNeg c_at) v101.1 c_taped v101.2 c_statements c_kept c_hasImage c_isKeeping c_cursor c_poled c_barred c_leapsTo c_leapsThen c_lands c_row c_rowMany c_endsAt)) ⟨hx, hb, hml, hown, hts⟩ hE hK hP hS [0, 1, 2, 3, 4, 5, 6, 7, 8, 9, 10, 11, 12, 13, 14, 15] rfl (mX4_nextLetter l dC dI cI cC sk f c_r c_refused c_tape (upd c_letter (c_statements).toNatClampNeg q1) (upd c_letterAt (c_statements).toNatClampNeg c_at) v101.1 c_taped v101.2 c_statements c_kept c_hasImage c_isKeeping c_cursor c_poled c_barred c_leapsTo c_leapsThen c_lands c_row c_rowMany c_endsAt q102 e102) (cwV 0 hts gX4_statement_X4_nextLetter rfl rfl rfl (by decide +kernel) ⟨Nat.le_of_ble_eq_true rfl, Nat.le_of_ble_eq_true rfl⟩) (va_recv hK hP (ci := 4) (q0 := 0) rfl rfl) (As := []) (rest := []) rfl hl.1 rfl (Nat.le_of_ble_eq_true rfl) dX4_statement_102 ⟨Nat.zero_le _, Nat.zero_le _⟩ (fun H locs hP hS => ?_)
      refine lv_bipush (v := (59 : Int32)) hx hb dX4_statement_105 (by decide) ?_
      refine lv_icmp_eq (tgt := 112) hx hb dX4_statement_107 (by decide) (fun c107 => ?_) (fun c107 => ?_)
      · have h := itT c107 h
        refine lv_aload_n hx hb dX4_statement_112 rfl (lv_at hl 0 rfl) ?_
        refine lv_dup hx hb dX4_statement_113 rfl ?_
        refine va_get (D := (dC, dI)) (ci := 4) (v := .int v101.2) (C := RX4) (T := TX4) (N := 28) hx hb hts hiX4 hown hK hP 0 rfl rfl 14 (by decide) hw4 (fun _ h9 => h9) rfl dX4_statement_114 ?_
        refine lv_iconst (v := (1 : Int32)) hx hb dX4_statement_117 (by decide) ?_
        refine lv_iadd hx hb dX4_statement_118 ?_
        refine va_put (D := (dC, dI)) (ci := 4) (v := .int (v101.2 + (1 : Int32))) (ty := .int) (C := RX4) (T := TX4) (N := 28) hx hb hts hiX4 tyX4 tyX4_ok nmX4 hown hK hP hD hS 0 rfl rfl 14 (by decide) hw4 (fun _ h9 => h9) rfl (by decide +kernel) rfl rfl (Nat.le_of_ble_eq_true rfl) dX4_statement_119 (fun H locs hP hD hS => ?_)
        have hP : va_P (dC, dI) vwCl (zwM cI cC f c_r c_refused c_tape (upd c_letter (c_statements).toNatClampNeg q1) (upd c_letterAt (c_statements).toNatClampNeg c_at) v101.1 c_taped (v101.2 + (1 : Int32)) c_statements c_kept c_hasImage c_isKeeping c_cursor c_poled c_barred c_leapsTo c_leapsThen c_lands c_row c_rowMany c_endsAt) H := hP
        have hD : va_D A (zwM cI cC f c_r c_refused c_tape (upd c_letter (c_statements).toNatClampNeg q1) (upd c_letterAt (c_statements).toNatClampNeg c_at) v101.1 c_taped (v101.2 + (1 : Int32)) c_statements c_kept c_hasImage c_isKeeping c_cursor c_poled c_barred c_leapsTo c_leapsThen c_lands c_row c_rowMany c_endsAt) := hD
        refine lv_iconst (v := (1 : Int32)) hx hb dX4_statement_122 (by decide) ?_
        subst hQ
        exact retRW (zz := (((1 : Int32), (upd c_letter (c_statements).toNatClampNeg q1), (upd c_letterAt (c_statements).toNatClampNeg c_at), v101.1, (v101.2 + (1 : Int32))) : Int32 × AR × AR × AR × Int32)) (fun z => z.1) (fun z => (zwM cI cC f c_r c_refused c_tape z.2.1 z.2.2.1 z.2.2.2.1 c_taped z.2.2.2.2 c_statements c_kept c_hasImage c_isKeeping c_cursor c_poled c_barred c_leapsTo c_leapsThen c_lands c_row c_rowMany c_endsAt)) hx hb hr hlocks rfl hS h rfl hP dX4_statement_123
      have h := itF c107 h
      refine lv_iconst (v := (0 : Int32)) hx hb dX4_statement_110 (by decide) ?_
      subst hQ
      exact retRW (zz := (((0 : Int32), (upd c_letter (c_statements).toNatClampNeg q1), (upd c_letterAt (c_statements).toNatClampNeg c_at), v101.1, v101.2) : Int32 × AR × AR × AR × Int32)) (fun z => z.1) (fun z => (zwM cI cC f c_r c_refused c_tape z.2.1 z.2.2.1 z.2.2.2.1 c_taped z.2.2.2.2 c_statements c_kept c_hasImage c_isKeeping c_cursor c_poled c_barred c_leapsTo c_leapsThen c_lands c_row c_rowMany c_endsAt)) hx hb hr hlocks rfl hS h rfl hP dX4_statement_111
    refine lv_icmp_ne (tgt := 82) hx hb dX4_statement_68 (by decide) (fun c68 => ?_) (fun c68 => ?_)
    · have h := itF c68 h
      refine lv_aload_n hx hb dX4_statement_82 rfl (lv_at hl 1 rfl) ?_
      refine lv_iload_n hx hb dX4_statement_83 rfl (lv_at hl 0 rfl) ?_
      refine lv_iload_n hx hb dX4_statement_84 rfl (lv_at hl 2 rfl) ?_
      refine lv_bipush (v := (109 : Int32)) hx hb dX4_statement_85 (by decide) ?_
      refine jnW (fun (v95 : Int32) => ∀ (H : Heap) (locs : List Loc) (ls : Array Slot), va_P (dC, dI) vwCl (zwM cI cC f c_r c_refused c_tape (upd c_letter (c_statements).toNatClampNeg q1) (upd c_letterAt (c_statements).toNatClampNeg c_at) c_number c_taped (c_at + (1 : Int32)) c_statements c_kept c_hasImage c_isKeeping c_cursor c_poled c_barred c_leapsTo c_leapsThen c_lands c_row c_rowMany c_endsAt) H → va_D A (zwM cI cC f c_r c_refused c_tape (upd c_letter (c_statements).toNatClampNeg q1) (upd c_letterAt (c_statements).toNatClampNeg c_at) c_number c_taped (c_at + (1 : Int32)) c_statements c_kept c_hasImage c_isKeeping c_cursor c_poled c_barred c_leapsTo c_leapsThen c_lands c_row c_rowMany c_endsAt) → va_S A s.heap H locs → lv_has ls 3 [(0, .ref (f 0))] → W p l e (RMk 3 68) s m args below meth c H locs 0 0 Q (F0 m 95 ls [.int v95, .int ((5 : Int32) * c_statements), .ref (f 0)])) h (fun v95 h H locs ls hP hD hS hl => ?_) (fun J95 j95 h => ?_)
      · obtain ⟨q95, e95, h⟩ := bd_some h
        refine g_rwA (wc := (zwM cI cC f c_r c_refused c_tape (upd c_letter (c_statements).toNatClampNeg q1) (upd c_letterAt (c_statements).toNatClampNeg c_at) c_number c_taped (c_at + (1 : Int32)) c_statements c_kept c_hasImage c_isKeeping c_cursor c_poled c_barred c_leapsTo c_leapsThen c_lands c_row c_rowMany c_endsAt)) (wc' := (zwM cI cC f c_r c_refused c_tape (upd c_letter (c_statements).toNatClampNeg q1) (upd c_letterAt (c_statements).toNatClampNeg c_at) q95.2.1 c_taped q95.2.2 c_statements c_kept c_hasImage c_isKeeping c_cursor c_poled c_barred c_leapsTo c_leapsThen c_lands c_row c_rowMany c_endsAt)) ⟨hx, hb, hml, hown, hts⟩ hE hK hA hP hD hS rfl (mX4_reads l dC dI cI cC sk f H.size ((5 : Int32) * c_statements) v95 c_r c_refused c_tape (upd c_letter (c_statements).toNatClampNeg q1) (upd c_letterAt (c_statements).toNatClampNeg c_at) c_number c_taped (c_at + (1 : Int32)) c_statements c_kept c_hasImage c_isKeeping c_cursor c_poled c_barred c_leapsTo c_leapsThen c_lands c_row c_rowMany c_endsAt q95 e95) (cwV 2 hts gX4_statement_X4_reads rfl rfl rfl (by decide +kernel) ⟨Nat.le_of_ble_eq_true rfl, Nat.le_of_ble_eq_true rfl⟩) (va_recv hK hP (ci := 4) (q0 := 0) rfl rfl) (As := [.int ((5 : Int32) * c_statements), .int v95]) (rest := []) rfl hl.1 rfl (Nat.le_of_ble_eq_true rfl) dX4_statement_95 ⟨Nat.zero_le _, Nat.zero_le _⟩ (fun H locs hP hD hS => ?_)
        have hP : va_P (dC, dI) vwCl (zwM cI cC f c_r c_refused c_tape (upd c_letter (c_statements).toNatClampNeg q1) (upd c_letterAt (c_statements).toNatClampNeg c_at) q95.2.1 c_taped q95.2.2 c_statements c_kept c_hasImage c_isKeeping c_cursor c_poled c_barred c_leapsTo c_leapsThen c_lands c_row c_rowMany c_endsAt) H := hP
        have hD : va_D A (zwM cI cC f c_r c_refused c_tape (upd c_letter (c_statements).toNatClampNeg q1) (upd c_letterAt (c_statements).toNatClampNeg c_at) q95.2.1 c_taped q95.2.2 c_statements c_kept c_hasImage c_isKeeping c_cursor c_poled c_barred c_leapsTo c_leapsThen c_lands c_row c_rowMany c_endsAt) := hD
        refine lv_if_eq (tgt := 110) hx hb dX4_statement_98 (by decide) (fun c98 => ?_) (fun c98 => ?_)
        · have h := itT c98 h
          refine lv_iconst (v := (0 : Int32)) hx hb dX4_statement_110 (by decide) ?_
          subst hQ
          exact retRW (zz := (((0 : Int32), (upd c_letter (c_statements).toNatClampNeg q1), (upd c_letterAt (c_statements).toNatClampNeg c_at), q95.2.1, q95.2.2) : Int32 × AR × AR × AR × Int32)) (fun z => z.1) (fun z => (zwM cI cC f c_r c_refused c_tape z.2.1 z.2.2.1 z.2.2.2.1 c_taped z.2.2.2.2 c_statements c_kept c_hasImage c_isKeeping c_cursor c_poled c_barred c_leapsTo c_leapsThen c_lands c_row c_rowMany c_endsAt)) hx hb hr hlocks rfl hS h rfl hP dX4_statement_111
        have h := itF c98 h
        exact j101 _ h _ _ _ hP hD hS (lv_sub hl [0] rfl)
      refine lv_icmp_ne (tgt := 94) hx hb dX4_statement_87 (by decide) (fun c87 => ?_) (fun c87 => ?_)
      · have h := itF c87 h
        refine lv_iconst (v := (1 : Int32)) hx hb dX4_statement_94 (by decide) ?_
        exact j95 _ h _ _ _ hP hD hS (lv_sub hl [1] rfl)
      have h := itT c87 h
      refine lv_iconst (v := (2 : Int32)) hx hb dX4_statement_90 (by decide) ?_
      refine lv_goto (tgt := 95) hx hb dX4_statement_91 (by decide) ?_
      exact j95 _ h _ _ _ hP hD hS (lv_sub hl [1] rfl)
    have h := itT c68 h
    refine lv_aload_n hx hb dX4_statement_71 rfl (lv_at hl 1 rfl) ?_
    refine lv_iload_n hx hb dX4_statement_72 rfl (lv_at hl 0 rfl) ?_
    obtain ⟨q73, e73, h⟩ := bd_some h
    refine g_rwA (wc := (zwM cI cC f c_r c_refused c_tape (upd c_letter (c_statements).toNatClampNeg q1) (upd c_letterAt (c_statements).toNatClampNeg c_at) c_number c_taped (c_at + (1 : Int32)) c_statements c_kept c_hasImage c_isKeeping c_cursor c_poled c_barred c_leapsTo c_leapsThen c_lands c_row c_rowMany c_endsAt)) (wc' := (zwM cI cC f c_r c_refused c_tape (upd c_letter (c_statements).toNatClampNeg q1) (upd c_letterAt (c_statements).toNatClampNeg c_at) q73.2.1 c_taped q73.2.2 c_statements c_kept c_hasImage c_isKeeping c_cursor c_poled c_barred c_leapsTo c_leapsThen c_lands c_row c_rowMany c_endsAt)) ⟨hx, hb, hml, hown, hts⟩ hE hK hA hP hD hS rfl (mX4_readsFloe l dC dI cI cC sk f H.size ((5 : Int32) * c_statements) c_r c_refused c_tape (upd c_letter (c_statements).toNatClampNeg q1) (upd c_letterAt (c_statements).toNatClampNeg c_at) c_number c_taped (c_at + (1 : Int32)) c_statements c_kept c_hasImage c_isKeeping c_cursor c_poled c_barred c_leapsTo c_leapsThen c_lands c_row c_rowMany c_endsAt q73 e73) (cwV 1 hts gX4_statement_X4_readsFloe rfl rfl rfl (by decide +kernel) ⟨Nat.le_of_ble_eq_true rfl, Nat.le_of_ble_eq_true rfl⟩) (va_recv hK hP (ci := 4) (q0 := 0) rfl rfl) (As := [.int ((5 : Int32) * c_statements)]) (rest := []) rfl hl.1 rfl (Nat.le_of_ble_eq_true rfl) dX4_statement_73 ⟨Nat.zero_le _, Nat.zero_le _⟩ (fun H locs hP hD hS => ?_)
    have hP : va_P (dC, dI) vwCl (zwM cI cC f c_r c_refused c_tape (upd c_letter (c_statements).toNatClampNeg q1) (upd c_letterAt (c_statements).toNatClampNeg c_at) q73.2.1 c_taped q73.2.2 c_statements c_kept c_hasImage c_isKeeping c_cursor c_poled c_barred c_leapsTo c_leapsThen c_lands c_row c_rowMany c_endsAt) H := hP
    have hD : va_D A (zwM cI cC f c_r c_refused c_tape (upd c_letter (c_statements).toNatClampNeg q1) (upd c_letterAt (c_statements).toNatClampNeg c_at) q73.2.1 c_taped q73.2.2 c_statements c_kept c_hasImage c_isKeeping c_cursor c_poled c_barred c_leapsTo c_leapsThen c_lands c_row c_rowMany c_endsAt) := hD
    refine lv_if_eq (tgt := 110) hx hb dX4_statement_76 (by decide) (fun c76 => ?_) (fun c76 => ?_)
    · have h := itT c76 h
      refine lv_iconst (v := (0 : Int32)) hx hb dX4_statement_110 (by decide) ?_
      subst hQ
      exact retRW (zz := (((0 : Int32), (upd c_letter (c_statements).toNatClampNeg q1), (upd c_letterAt (c_statements).toNatClampNeg c_at), q73.2.1, q73.2.2) : Int32 × AR × AR × AR × Int32)) (fun z => z.1) (fun z => (zwM cI cC f c_r c_refused c_tape z.2.1 z.2.2.1 z.2.2.2.1 c_taped z.2.2.2.2 c_statements c_kept c_hasImage c_isKeeping c_cursor c_poled c_barred c_leapsTo c_leapsThen c_lands c_row c_rowMany c_endsAt)) hx hb hr hlocks rfl hS h rfl hP dX4_statement_111
    have h := itF c76 h
    refine lv_goto (tgt := 101) hx hb dX4_statement_79 (by decide) ?_
    exact j101 _ h _ _ _ hP hD hS (lv_sub hl [1] rfl)
  refine lv_icmp_eq (tgt := 25) hx hb dX4_statement_8 (by decide) (fun c8 => ?_) (fun c8 => ?_)
  · have h := itT c8 h
    exact j25 _ h _ _ _ hP hD hS (lv_sub hl [1, 0] rfl)
  have h := itF c8 h
  refine lv_iload_n hx hb dX4_statement_11 rfl (lv_at hl 0 rfl) ?_
  refine lv_bipush (v := (102 : Int32)) hx hb dX4_statement_12 (by decide) ?_
  refine lv_icmp_eq (tgt := 25) hx hb dX4_statement_14 (by decide) (fun c14 => ?_) (fun c14 => ?_)
  · have h := itT c14 h
    exact j25 _ h _ _ _ hP hD hS (lv_sub hl [1, 0] rfl)
  have h := itF c14 h
  refine lv_iload_n hx hb dX4_statement_17 rfl (lv_at hl 0 rfl) ?_
  refine lv_bipush (v := (109 : Int32)) hx hb dX4_statement_18 (by decide) ?_
  refine lv_icmp_eq (tgt := 25) hx hb dX4_statement_20 (by decide) (fun c20 => ?_) (fun c20 => ?_)
  · have h := itT c20 h
    exact j25 _ h _ _ _ hP hD hS (lv_sub hl [1, 0] rfl)
  have h := itF c20 h
  refine lv_iconst (v := (0 : Int32)) hx hb dX4_statement_23 (by decide) ?_
  subst hQ
  exact retRW (zz := (((0 : Int32), c_letter, c_letterAt, c_number, c_at) : Int32 × AR × AR × AR × Int32)) (fun z => z.1) (fun z => (zwM cI cC f c_r c_refused c_tape z.2.1 z.2.2.1 z.2.2.2.1 c_taped z.2.2.2.2 c_statements c_kept c_hasImage c_isKeeping c_cursor c_poled c_barred c_leapsTo c_leapsThen c_lands c_row c_rowMany c_endsAt)) hx hb hr hlocks rfl hS h rfl hP dX4_statement_24
