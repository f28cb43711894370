theorem dX4_readsFloe_0 : decode cX4_readsFloe 0 = .ok (.aload_n 0, 1) := by decide +kernel
theorem dX4_readsFloe_1 : decode cX4_readsFloe 1 = .ok (.getfield 41, 3) := by decide +kernel
theorem dX4_readsFloe_4 : decode cX4_readsFloe 4 = .ok (.iload_n 1, 1) := by decide +kernel
theorem dX4_readsFloe_5 : decode cX4_readsFloe 5 = .ok (.aload_n 0, 1) := by decide +kernel
theorem dX4_readsFloe_6 : decode cX4_readsFloe 6 = .ok (.invokevirtual 80, 3) := by decide +kernel
theorem dX4_readsFloe_9 : decode cX4_readsFloe 9 = .ok (.invokestatic 84, 3) := by decide +kernel
theorem dX4_readsFloe_12 : decode cX4_readsFloe 12 = .ok (.iastore, 1) := by decide +kernel
theorem dX4_readsFloe_13 : decode cX4_readsFloe 13 = .ok (.aload_n 0, 1) := by decide +kernel
theorem dX4_readsFloe_14 : decode cX4_readsFloe 14 = .ok (.getfield 41, 3) := by decide +kernel
theorem dX4_readsFloe_17 : decode cX4_readsFloe 17 = .ok (.iload_n 1, 1) := by decide +kernel
theorem dX4_readsFloe_18 : decode cX4_readsFloe 18 = .ok (.iaload, 1) := by decide +kernel
theorem dX4_readsFloe_19 : decode cX4_readsFloe 19 = .ok (.ifCond .ge 5, 3) := by decide +kernel
theorem dX4_readsFloe_22 : decode cX4_readsFloe 22 = .ok (.iconst 0, 1) := by decide +kernel
theorem dX4_readsFloe_23 : decode cX4_readsFloe 23 = .ok (.ireturn, 1) := by decide +kernel
theorem dX4_readsFloe_24 : decode cX4_readsFloe 24 = .ok (.aload_n 0, 1) := by decide +kernel
theorem dX4_readsFloe_25 : decode cX4_readsFloe 25 = .ok (.dup, 1) := by decide +kernel
theorem dX4_readsFloe_26 : decode cX4_readsFloe 26 = .ok (.getfield 77, 3) := by decide +kernel
theorem dX4_readsFloe_29 : decode cX4_readsFloe 29 = .ok (.iconst 1, 1) := by decide +kernel
theorem dX4_readsFloe_30 : decode cX4_readsFloe 30 = .ok (.iadd, 1) := by decide +kernel
theorem dX4_readsFloe_31 : decode cX4_readsFloe 31 = .ok (.putfield 77, 3) := by decide +kernel
theorem dX4_readsFloe_34 : decode cX4_readsFloe 34 = .ok (.aload_n 0, 1) := by decide +kernel
theorem dX4_readsFloe_35 : decode cX4_readsFloe 35 = .ok (.iload_n 1, 1) := by decide +kernel
theorem dX4_readsFloe_36 : decode cX4_readsFloe 36 = .ok (.iconst 1, 1) := by decide +kernel
theorem dX4_readsFloe_37 : decode cX4_readsFloe 37 = .ok (.iadd, 1) := by decide +kernel
theorem dX4_readsFloe_38 : decode cX4_readsFloe 38 = .ok (.iconst 1, 1) := by decide +kernel
theorem dX4_readsFloe_39 : decode cX4_readsFloe 39 = .ok (.invokevirtual 87, 3) := by decide +kernel
theorem dX4_readsFloe_42 : decode cX4_readsFloe 42 = .ok (.ifCond .eq 14, 3) := by decide +kernel
theorem dX4_readsFloe_45 : decode cX4_readsFloe 45 = .ok (.aload_n 0, 1) := by decide +kernel
theorem dX4_readsFloe_46 : decode cX4_readsFloe 46 = .ok (.iload_n 1, 1) := by decide +kernel
theorem dX4_readsFloe_47 : decode cX4_readsFloe 47 = .ok (.iconst 2, 1) := by decide +kernel
theorem dX4_readsFloe_48 : decode cX4_readsFloe 48 = .ok (.iadd, 1) := by decide +kernel
theorem dX4_readsFloe_49 : decode cX4_readsFloe 49 = .ok (.iconst 1, 1) := by decide +kernel
theorem dX4_readsFloe_50 : decode cX4_readsFloe 50 = .ok (.invokevirtual 87, 3) := by decide +kernel
theorem dX4_readsFloe_53 : decode cX4_readsFloe 53 = .ok (.ifCond .ne 5, 3) := by decide +kernel
theorem dX4_readsFloe_56 : decode cX4_readsFloe 56 = .ok (.iconst 0, 1) := by decide +kernel
theorem dX4_readsFloe_57 : decode cX4_readsFloe 57 = .ok (.ireturn, 1) := by decide +kernel
theorem dX4_readsFloe_58 : decode cX4_readsFloe 58 = .ok (.aload_n 0, 1) := by decide +kernel
theorem dX4_readsFloe_59 : decode cX4_readsFloe 59 = .ok (.invokevirtual 80, 3) := by decide +kernel
theorem dX4_readsFloe_62 : decode cX4_readsFloe 62 = .ok (.bipush 108, 2) := by decide +kernel
theorem dX4_readsFloe_64 : decode cX4_readsFloe 64 = .ok (.if_icmp .ne 7, 3) := by decide +kernel
theorem dX4_readsFloe_67 : decode cX4_readsFloe 67 = .ok (.iconst (-1), 1) := by decide +kernel
theorem dX4_readsFloe_68 : decode cX4_readsFloe 68 = .ok (.goto 17, 3) := by decide +kernel
theorem dX4_readsFloe_71 : decode cX4_readsFloe 71 = .ok (.aload_n 0, 1) := by decide +kernel
theorem dX4_readsFloe_72 : decode cX4_readsFloe 72 = .ok (.invokevirtual 80, 3) := by decide +kernel
theorem dX4_readsFloe_75 : decode cX4_readsFloe 75 = .ok (.bipush 114, 2) := by decide +kernel
theorem dX4_readsFloe_77 : decode cX4_readsFloe 77 = .ok (.if_icmp .ne 7, 3) := by decide +kernel
theorem dX4_readsFloe_80 : decode cX4_readsFloe 80 = .ok (.iconst 1, 1) := by decide +kernel
theorem dX4_readsFloe_81 : decode cX4_readsFloe 81 = .ok (.goto 4, 3) := by decide +kernel
theorem dX4_readsFloe_84 : decode cX4_readsFloe 84 = .ok (.iconst 0, 1) := by decide +kernel
theorem dX4_readsFloe_85 : decode cX4_readsFloe 85 = .ok (.istore_n 2, 1) := by decide +kernel
theorem dX4_readsFloe_86 : decode cX4_readsFloe 86 = .ok (.iload_n 2, 1) := by decide +kernel
theorem dX4_readsFloe_87 : decode cX4_readsFloe 87 = .ok (.ifCond .ne 5, 3) := by decide +kernel
theorem dX4_readsFloe_90 : decode cX4_readsFloe 90 = .ok (.iconst 0, 1) := by decide +kernel
theorem dX4_readsFloe_91 : decode cX4_readsFloe 91 = .ok (.ireturn, 1) := by decide +kernel
theorem dX4_readsFloe_92 : decode cX4_readsFloe 92 = .ok (.aload_n 0, 1) := by decide +kernel
theorem dX4_readsFloe_93 : decode cX4_readsFloe 93 = .ok (.dup, 1) := by decide +kernel
theorem dX4_readsFloe_94 : decode cX4_readsFloe 94 = .ok (.getfield 77, 3) := by decide +kernel
theorem dX4_readsFloe_97 : decode cX4_readsFloe 97 = .ok (.iconst 1, 1) := by decide +kernel
theorem dX4_readsFloe_98 : decode cX4_readsFloe 98 = .ok (.iadd, 1) := by decide +kernel
theorem dX4_readsFloe_99 : decode cX4_readsFloe 99 = .ok (.putfield 77, 3) := by decide +kernel
theorem dX4_readsFloe_102 : decode cX4_readsFloe 102 = .ok (.aload_n 0, 1) := by decide +kernel
theorem dX4_readsFloe_103 : decode cX4_readsFloe 103 = .ok (.iload_n 1, 1) := by decide +kernel
theorem dX4_readsFloe_104 : decode cX4_readsFloe 104 = .ok (.iconst 3, 1) := by decide +kernel
theorem dX4_readsFloe_105 : decode cX4_readsFloe 105 = .ok (.iadd, 1) := by decide +kernel
theorem dX4_readsFloe_106 : decode cX4_readsFloe 106 = .ok (.iconst 1, 1) := by decide +kernel
theorem dX4_readsFloe_107 : decode cX4_readsFloe 107 = .ok (.invokevirtual 87, 3) := by decide +kernel
theorem dX4_readsFloe_110 : decode cX4_readsFloe 110 = .ok (.ifCond .eq 14, 3) := by decide +kernel
theorem dX4_readsFloe_113 : decode cX4_readsFloe 113 = .ok (.aload_n 0, 1) := by decide +kernel
theorem dX4_readsFloe_114 : decode cX4_readsFloe 114 = .ok (.iload_n 1, 1) := by decide +kernel
theorem dX4_readsFloe_115 : decode cX4_readsFloe 115 = .ok (.iconst 4, 1) := by decide +kernel
theorem dX4_readsFloe_116 : decode cX4_readsFloe 116 = .ok (.iadd, 1) := by decide +kernel
theorem dX4_readsFloe_117 : decode cX4_readsFloe 117 = .ok (.iconst 1, 1) := by decide +kernel
theorem dX4_readsFloe_118 : decode cX4_readsFloe 118 = .ok (.invokevirtual 87, 3) := by decide +kernel
theorem dX4_readsFloe_121 : decode cX4_readsFloe 121 = .ok (.ifCond .ne 5, 3) := by decide +kernel
theorem dX4_readsFloe_124 : decode cX4_readsFloe 124 = .ok (.iconst 0, 1) := by decide +kernel
theorem dX4_readsFloe_125 : decode cX4_readsFloe 125 = .ok (.ireturn, 1) := by decide +kernel
theorem dX4_readsFloe_126 : decode cX4_readsFloe 126 = .ok (.aload_n 0, 1) := by decide +kernel
theorem dX4_readsFloe_127 : decode cX4_readsFloe 127 = .ok (.getfield 41, 3) := by decide +kernel
theorem dX4_readsFloe_130 : decode cX4_readsFloe 130 = .ok (.iload_n 1, 1) := by decide +kernel
theorem dX4_readsFloe_131 : decode cX4_readsFloe 131 = .ok (.iconst 3, 1) := by decide +kernel
theorem dX4_readsFloe_132 : decode cX4_readsFloe 132 = .ok (.iadd, 1) := by decide +kernel
theorem dX4_readsFloe_133 : decode cX4_readsFloe 133 = .ok (.dup2, 1) := by decide +kernel
theorem dX4_readsFloe_134 : decode cX4_readsFloe 134 = .ok (.iaload, 1) := by decide +kernel
theorem dX4_readsFloe_135 : decode cX4_readsFloe 135 = .ok (.iload_n 2, 1) := by decide +kernel
theorem dX4_readsFloe_136 : decode cX4_readsFloe 136 = .ok (.imul, 1) := by decide +kernel
theorem dX4_readsFloe_137 : decode cX4_readsFloe 137 = .ok (.iastore, 1) := by decide +kernel
theorem dX4_readsFloe_138 : decode cX4_readsFloe 138 = .ok (.iconst 1, 1) := by decide +kernel
theorem dX4_readsFloe_139 : decode cX4_readsFloe 139 = .ok (.ireturn, 1) := by decide +kernel
set_option maxRecDepth 20000 in
theorem ggX4_readsFloe_X4_nextLetter : GoodIn wsX4_readsFloe wsX4_nextLetter := goodIn_r _ [7, 2, 8, 9, 20, 21, 22, 23, 24, 25, 26, 27, 28, 29, 30, 31, 32, 33, 34, 35, 36, 37, 38, 39, 40, 41, 42, 43, 44, 45, 46, 47] (by decide +kernel) (by decide +kernel)
set_option maxRecDepth 20000 in
theorem gX4_readsFloe_X4_nextLetter : GoodIn wsX4_readsFloe (wsV RX4 80 RX4 yX4_nextLetter wsX4_nextLetter) := goodIn_app (goodIn_of _ (by decide +kernel)) ggX4_readsFloe_X4_nextLetter
set_option maxRecDepth 20000 in
theorem ggX4_readsFloe_X4_kindOf : GoodIn wsX4_readsFloe wsX4_kindOf := goodIn_r _ [12] (by decide +kernel) (by decide +kernel)
set_option maxRecDepth 20000 in
theorem gX4_readsFloe_X4_kindOf : GoodIn wsX4_readsFloe (va_wsS RX4 84 yX4_kindOf wsX4_kindOf) := goodIn_app (goodIn_of _ (by decide +kernel)) ggX4_readsFloe_X4_kindOf
set_option maxRecDepth 20000 in
theorem ggX4_readsFloe_X4_reads : GoodIn wsX4_readsFloe wsX4_reads := goodIn_r _ [16, 2, 1, 3, 4, 5, 6, 7, 8, 9, 17, 18, 19, 20, 21, 22, 23, 24, 25, 26, 27, 28, 29, 30, 31, 32, 33, 34, 35, 36, 37, 38, 39, 40, 41, 42, 43, 44, 45, 46, 47] (by decide +kernel) (by decide +kernel)
set_option maxRecDepth 20000 in
theorem gX4_readsFloe_X4_reads : GoodIn wsX4_readsFloe (wsV RX4 87 RX4 yX4_reads wsX4_reads) := goodIn_app (goodIn_of _ (by decide +kernel)) ggX4_readsFloe_X4_reads
set_option maxHeartbeats 4000000 in
set_option maxRecDepth 100000 in
theorem mX4_readsFloe (l : Launch) (dC : Nat → ClassId) (dI : Nat → Nat → Nat) (cI cC : ClassId) (sk : (Nat → Nat) × (Nat → Nat)) (f : Nat → Nat) (sz : Nat) (p1 : Int32) (c_r : RT) (c_refused : AR) (c_tape : AR) (c_letter : AR) (c_letterAt : AR) (c_number : AR) (c_taped : Int32) (c_at : Int32) (c_statements : Int32) (c_kept : AR) (c_hasImage : Int32) (c_isKeeping : Int32) (c_cursor : Int32) (c_poled : Int32) (c_barred : Int32) (c_leapsTo : AR) (c_leapsThen : AR) (c_lands : AR) (c_row : AR) (c_rowMany : Int32) (c_endsAt : Int32) (z : Int32 × AR × Int32) (h : fX4_readsFloe p1 c_tape c_number c_taped c_at = some z) : cRW l yX4_readsFloe wsX4_readsFloe (RMk 2 46) sk (dC, dI) (tyz cI cC) sz (zwM cI cC f c_r c_refused c_tape c_letter c_letterAt c_number c_taped c_at c_statements c_kept c_hasImage c_isKeeping c_cursor c_poled c_barred c_leapsTo c_leapsThen c_lands c_row c_rowMany c_endsAt) (zwM cI cC f c_r c_refused c_tape c_letter c_letterAt z.2.1 c_taped z.2.2 c_statements c_kept c_hasImage c_isKeeping c_cursor c_poled c_barred c_leapsTo c_leapsThen c_lands c_row c_rowMany c_endsAt) [.ref (f 0), .int p1] z.1 := by
  refine ofRW (cc := cX4_readsFloe) (maxL := 3) (ret := (some .boolean)) (own := RX4) (plainFor_of_name (by decide)) rfl rfl (Nat.le_of_ble_eq_true rfl) ?_
  intro p e s m args below meth c A hA hx hb hml hr hts hown hlocks hE hK hP hD hS ls hl
  generalize hQ : qRW _ _ _ _ _ _ _ = Q
  have hl : lv_has ls 3 [(0, .ref (f 0)), (1, .int p1)] := hl
  have hiX4 : ∀ w ∈ wsX40, w ∈ wsX4_readsFloe := fun w h => List.mem_cons_of_mem _ (List.mem_append_right _ h)
  have hw1 := hts (Cond.fieldLink RX4 41 "FloeToFloeModel" "number" "[I") (List.mem_of_getElem? (i := 1) rfl)
  have hw2 := hts (Cond.fieldLink RX4 77 "FloeToFloeModel" "at" "I") (List.mem_of_getElem? (i := 2) rfl)
  rw [fX4_readsFloe] at h
  refine lv_aload_n hx hb dX4_readsFloe_0 rfl (lv_at hl 0 rfl) ?_
  refine va_get (D := (dC, dI)) (ci := 4) (v := .ref (f 10)) (C := RX4) (T := TX4) (N := 28) hx hb hts hiX4 hown hK hP 0 rfl rfl 12 (by decide) hw1 (fun _ h9 => h9) rfl dX4_readsFloe_1 ?_
  refine lv_iload_n hx hb dX4_readsFloe_4 rfl (lv_at hl 1 rfl) ?_
  refine lv_aload_n hx hb dX4_readsFloe_5 rfl (lv_at hl 0 rfl) ?_
  obtain ⟨q6, e6, h⟩ := bd_some h
  refine g_roV (wc := (zwM cI cC f c_r c_refused c_tape c_letter c_letterAt c_number c_taped c_at c_statements c_kept c_hasImage c_isKeeping c_cursor c_poled c_barred c_leapsTo c_leapsThen c_lands c_row c_rowMany c_endsAt)) ⟨hx, hb, hml, hown, hts⟩ hE hK hP hS [0, 1, 2, 3, 4, 5, 6, 7, 8, 9, 10, 11, 12, 13, 14, 15] rfl (mX4_nextLetter l dC dI cI cC sk f c_r c_refused c_tape c_letter c_letterAt c_number c_taped c_at c_statements c_kept c_hasImage c_isKeeping c_cursor c_poled c_barred c_leapsTo c_leapsThen c_lands c_row c_rowMany c_endsAt q6 e6) (cwV 0 hts gX4_readsFloe_X4_nextLetter rfl rfl rfl (by decide +kernel) ⟨Nat.le_of_ble_eq_true rfl, Nat.le_of_ble_eq_true rfl⟩) (va_recv hK hP (ci := 4) (q0 := 0) rfl rfl) (As := []) (rest := [.int p1, .ref (f 10)]) rfl hl.1 rfl (Nat.le_of_ble_eq_true rfl) dX4_readsFloe_6 ⟨Nat.zero_le _, Nat.zero_le _⟩ (fun H locs hP hS => ?_)
  obtain ⟨q9, e9, h⟩ := bd_some h
  refine g_roS (wc := ([] : va_W)) ⟨hx, hb, hml, hown, hts⟩ hE hK hP hS [] rfl (mX4_kindOf l dC dI cI cC sk  q6 q9 e9) (va_cwS 1 hts gX4_readsFloe_X4_kindOf rfl rfl rfl (by decide +kernel) ⟨Nat.le_of_ble_eq_true rfl, Nat.le_of_ble_eq_true rfl⟩) (As := [.int q6]) (rest := [.int p1, .ref (f 10)]) rfl hl.1 rfl (Nat.le_of_ble_eq_true rfl) dX4_readsFloe_9 ⟨Nat.zero_le _, Nat.zero_le _⟩ (fun H locs hP hS => ?_)
  obtain ⟨hin, h⟩ := ck_some h
  refine va_iast hx hb hK hP hD hS 10 0 rfl rfl hin dX4_readsFloe_12 (fun H locs hP hD hS => ?_)
  have hP : va_P (dC, dI) vwCl (zwM cI cC f c_r c_refused c_tape c_letter c_letterAt (upd c_number (p1).toNatClampNeg q9) c_taped c_at c_statements c_kept c_hasImage c_isKeeping c_cursor c_poled c_barred c_leapsTo c_leapsThen c_lands c_row c_rowMany c_endsAt) H := hP
  have hD : va_D A (zwM cI cC f c_r c_refused c_tape c_letter c_letterAt (upd c_number (p1).toNatClampNeg q9) c_taped c_at c_statements c_kept c_hasImage c_isKeeping c_cursor c_poled c_barred c_leapsTo c_leapsThen c_lands c_row c_rowMany c_endsAt) := hD
  refine lv_aload_n hx hb dX4_readsFloe_13 rfl (lv_at hl 0 rfl) ?_
  refine va_get (D := (dC, dI)) (ci := 4) (v := .ref (f 10)) (C := RX4) (T := TX4) (N := 28) hx hb hts hiX4 hown hK hP 0 rfl rfl 12 (by decide) hw1 (fun _ h9 => h9) rfl dX4_readsFloe_14 ?_
  refine lv_iload_n hx hb dX4_readsFloe_17 rfl (lv_at hl 1 rfl) ?_
  obtain ⟨hin, h⟩ := ck_some h
  refine va_iald hx hb hK hP 10 0 rfl rfl hin dX4_readsFloe_18 ?_
  refine lv_if_ge (tgt := 24) hx hb dX4_readsFloe_19 (by decide) (fun c19 => ?_) (fun c19 => ?_)
  · have h := itT c19 h
    refine lv_aload_n hx hb dX4_readsFloe_24 rfl (lv_at hl 0 rfl) ?_
    refine lv_dup hx hb dX4_readsFloe_25 rfl ?_
    refine va_get (D := (dC, dI)) (ci := 4) (v := .int c_at) (C := RX4) (T := TX4) (N := 28) hx hb hts hiX4 hown hK hP 0 rfl rfl 14 (by decide) hw2 (fun _ h9 => h9) rfl dX4_readsFloe_26 ?_
    refine lv_iconst (v := (1 : Int32)) hx hb dX4_readsFloe_29 (by decide) ?_
    refine lv_iadd hx hb dX4_readsFloe_30 ?_
    refine va_put (D := (dC, dI)) (ci := 4) (v := .int (c_at + (1 : Int32))) (ty := .int) (C := RX4) (T := TX4) (N := 28) hx hb hts hiX4 tyX4 tyX4_ok nmX4 hown hK hP hD hS 0 rfl rfl 14 (by decide) hw2 (fun _ h9 => h9) rfl (by decide +kernel) rfl rfl (Nat.le_of_ble_eq_true rfl) dX4_readsFloe_31 (fun H locs hP hD hS => ?_)
    have hP : va_P (dC, dI) vwCl (zwM cI cC f c_r c_refused c_tape c_letter c_letterAt (upd c_number (p1).toNatClampNeg q9) c_taped (c_at + (1 : Int32)) c_statements c_kept c_hasImage c_isKeeping c_cursor c_poled c_barred c_leapsTo c_leapsThen c_lands c_row c_rowMany c_endsAt) H := hP
    have hD : va_D A (zwM cI cC f c_r c_refused c_tape c_letter c_letterAt (upd c_number (p1).toNatClampNeg q9) c_taped (c_at + (1 : Int32)) c_statements c_kept c_hasImage c_isKeeping c_cursor c_poled c_barred c_leapsTo c_leapsThen c_lands c_row c_rowMany c_endsAt) := hD
    refine lv_aload_n hx hb dX4_readsFloe_34 rfl (lv_at hl 0 rfl) ?_
    refine lv_iload_n hx hb dX4_readsFloe_35 rfl (lv_at hl 1 rfl) ?_
    refine lv_iconst (v := (1 : Int32)) hx hb dX4_readsFloe_36 (by decide) ?_
    refine lv_iadd hx hb dX4_readsFloe_37 ?_
    refine lv_iconst (v := (1 : Int32)) hx hb dX4_readsFloe_38 (by decide) ?_
    obtain ⟨q39, e39, h⟩ := bd_some h
    refine g_rwA (wc := (zwM cI cC f c_r c_refused c_tape c_letter c_letterAt (upd c_number (p1).toNatClampNeg q9) c_taped (c_at + (1 : Int32)) c_statements c_kept c_hasImage c_isKeeping c_cursor c_poled c_barred c_leapsTo c_leapsThen c_lands c_row c_rowMany c_endsAt)) (wc' := (zwM cI cC f c_r c_refused c_tape c_letter c_letterAt q39.2.1 c_taped q39.2.2 c_statements c_kept c_hasImage c_isKeeping c_cursor c_poled c_barred c_leapsTo c_leapsThen c_lands c_row c_rowMany c_endsAt)) ⟨hx, hb, hml, hown, hts⟩ hE hK hA hP hD hS rfl (mX4_reads l dC dI cI cC sk f H.size (p1 + (1 : Int32)) (1 : Int32) c_r c_refused c_tape c_letter c_letterAt (upd c_number (p1).toNatClampNeg q9) c_taped (c_at + (1 : Int32)) c_statements c_kept c_hasImage c_isKeeping c_cursor c_poled c_barred c_leapsTo c_leapsThen c_lands c_row c_rowMany c_endsAt q39 e39) (cwV 2 hts gX4_readsFloe_X4_reads rfl rfl rfl (by decide +kernel) ⟨Nat.le_of_ble_eq_true rfl, Nat.le_of_ble_eq_true rfl⟩) (va_recv hK hP (ci := 4) (q0 := 0) rfl rfl) (As := [.int (p1 + (1 : Int32)), .int (1 : Int32)]) (rest := []) rfl hl.1 rfl (Nat.le_of_ble_eq_true rfl) dX4_readsFloe_39 ⟨Nat.zero_le _, Nat.zero_le _⟩ (fun H locs hP hD hS => ?_)
    have hP : va_P (dC, dI) vwCl (zwM cI cC f c_r c_refused c_tape c_letter c_letterAt q39.2.1 c_taped q39.2.2 c_statements c_kept c_hasImage c_isKeeping c_cursor c_poled c_barred c_leapsTo c_leapsThen c_lands c_row c_rowMany c_endsAt) H := hP
    have hD : va_D A (zwM cI cC f c_r c_refused c_tape c_letter c_letterAt q39.2.1 c_taped q39.2.2 c_statements c_kept c_hasImage c_isKeeping c_cursor c_poled c_barred c_leapsTo c_leapsThen c_lands c_row c_rowMany c_endsAt) := hD
    refine lv_if_eq (tgt := 56) hx hb dX4_readsFloe_42 (by decide) (fun c42 => ?_) (fun c42 => ?_)
    · have h := itT c42 h
      refine lv_iconst (v := (0 : Int32)) hx hb dX4_readsFloe_56 (by decide) ?_
      subst hQ
      exact retRW (zz := (((0 : Int32), q39.2.1, q39.2.2) : Int32 × AR × Int32)) (fun z => z.1) (fun z => (zwM cI cC f c_r c_refused c_tape c_letter c_letterAt z.2.1 c_taped z.2.2 c_statements c_kept c_hasImage c_isKeeping c_cursor c_poled c_barred c_leapsTo c_leapsThen c_lands c_row c_rowMany c_endsAt)) hx hb hr hlocks rfl hS h rfl hP dX4_readsFloe_57
    have h := itF c42 h
    refine lv_aload_n hx hb dX4_readsFloe_45 rfl (lv_at hl 0 rfl) ?_
    refine lv_iload_n hx hb dX4_readsFloe_46 rfl (lv_at hl 1 rfl) ?_
    refine lv_iconst (v := (2 : Int32)) hx hb dX4_readsFloe_47 (by decide) ?_
    refine lv_iadd hx hb dX4_readsFloe_48 ?_
    refine lv_iconst (v := (1 : Int32)) hx hb dX4_readsFloe_49 (by decide) ?_
    obtain ⟨q50, e50, h⟩ := bd_some h
    refine g_rwA (wc := (zwM cI cC f c_r c_refused c_tape c_letter c_letterAt q39.2.1 c_taped q39.2.2 c_statements c_kept c_hasImage c_isKeeping c_cursor c_poled c_barred c_leapsTo c_leapsThen c_lands c_row c_rowMany c_endsAt)) (wc' := (zwM cI cC f c_r c_refused c_tape c_letter c_letterAt q50.2.1 c_taped q50.2.2 c_statements c_kept c_hasImage c_isKeeping c_cursor c_poled c_barred c_leapsTo c_leapsThen c_lands c_row c_rowMany c_endsAt)) ⟨hx, hb, hml, hown, hts⟩ hE hK hA hP hD hS rfl (mX4_reads l dC dI cI cC sk f H.size (p1 + (2 : Int32)) (1 : Int32) c_r c_refused c_tape c_letter c_letterAt q39.2.1 c_taped q39.2.2 c_statements c_kept c_hasImage c_isKeeping c_cursor c_poled c_barred c_leapsTo c_leapsThen c_lands c_row c_rowMany c_endsAt q50 e50) (cwV 2 hts gX4_readsFloe_X4_reads rfl rfl rfl (by decide +kernel) ⟨Nat.le_of_ble_eq_true rfl, Nat.le_of_ble_eq_true rfl⟩) (va_recv hK hP (ci := 4) (q0 := 0) rfl rfl) (As := [.int (p1 + (2 : Int32)), .int (1 : Int32)]) (rest := []) rfl hl.1 rfl (Nat.le_of_ble_eq_true rfl) dX4_readsFloe_50 ⟨Nat.zero_le _, Nat.zero_le _⟩ (fun H locs hP hD hS => ?_)
    have hP : va_P (dC, dI) vwCl (zwM cI cC f c_r c_refused c_tape c_letter c_letterAt q50.2.1 c_taped q50.2.2 c_statements c_kept c_hasImage c_isKeeping c_cursor c_poled c_barred c_leapsTo c_leapsThen c_lands c_row c_rowMany c_endsAt) H := hP
    have hD : va_D A (zwM cI cC f c_r c_refused c_tape c_letter c_letterAt q50.2.1 c_taped q50.2.2 c_statements c_kept c_hasImage c_isKeeping c_cursor c_poled c_barred c_leapsTo c_leapsThen c_lands c_row c_rowMany c_endsAt) := hD
    refine lv_if_ne (tgt := 58) hx hb dX4_readsFloe_53 (by decide) (fun c53 => ?_) (fun c53 => ?_)
    · have h := itF c53 h
      refine lv_aload_n hx hb dX4_readsFloe_58 rfl (lv_at hl 0 rfl) ?_
      obtain ⟨q59, e59, h⟩ := bd_some h
      refine g_roV (wc := (zwM cI cC f c_r c_refused c_tape c_letter c_letterAt q50.2.1 c_taped q50.2.2 c_statements c_kept c_hasImage c_isKeeping c_cursor c_poled c_barred c_leapsTo c_leapsThen c_lands c_row c_rowMany c_endsAt)) ⟨hx, hb, hml, hown, hts⟩ hE hK hP hS [0, 1, 2, 3, 4, 5, 6, 7, 8, 9, 10, 11, 12, 13, 14, 15] rfl (mX4_nextLetter l dC dI cI cC sk f c_r c_refused c_tape c_letter c_letterAt q50.2.1 c_taped q50.2.2 c_statements c_kept c_hasImage c_isKeeping c_cursor c_poled c_barred c_leapsTo c_leapsThen c_lands c_row c_rowMany c_endsAt q59 e59) (cwV 0 hts gX4_readsFloe_X4_nextLetter rfl rfl rfl (by decide +kernel) ⟨Nat.le_of_ble_eq_true rfl, Nat.le_of_ble_eq_true rfl⟩) (va_recv hK hP (ci := 4) (q0 := 0) rfl rfl) (As := []) (rest := []) rfl hl.1 rfl (Nat.le_of_ble_eq_true rfl) dX4_readsFloe_59 ⟨Nat.zero_le _, Nat.zero_le _⟩ (fun H locs hP hS => ?_)
      refine lv_bipush (v := (108 : Int32)) hx hb dX4_readsFloe_62 (by decide) ?_
      refine jnW (fun (v85 : Int32) => ∀ (H : Heap) (locs : List Loc) (ls : Array Slot), va_P (dC, dI) vwCl (zwM cI cC f c_r c_refused c_tape c_letter c_letterAt q50.2.1 c_taped q50.2.2 c_statements c_kept c_hasImage c_isKeeping c_cursor c_poled c_barred c_leapsTo c_leapsThen c_lands c_row c_rowMany c_endsAt) H → va_D A (zwM cI cC f c_r c_refused c_tape c_letter c_letterAt q50.2.1 c_taped q50.2.2 c_statements c_kept c_hasImage c_isKeeping c_cursor c_poled c_barred c_leapsTo c_leapsThen c_lands c_row c_rowMany c_endsAt) → va_S A s.heap H locs → lv_has ls 3 [(0, .ref (f 0)), (1, .int p1)] → W p l e (RMk 2 46) s m args below meth c H locs 0 0 Q (F0 m 85 ls [.int v85])) h (fun v85 h H locs ls hP hD hS hl => ?_) (fun J85 j85 h => ?_)
      · refine lv_istore_n (lv' := [(2, .int v85), (0, .ref (f 0)), (1, .int p1)]) hx hb dX4_readsFloe_85 rfl hl (by decide) rfl (fun ls hl => ?_)
        refine lv_iload_n hx hb dX4_readsFloe_86 rfl (lv_at hl 0 rfl) ?_
        refine lv_if_ne (tgt := 92) hx hb dX4_readsFloe_87 (by decide) (fun c87 => ?_) (fun c87 => ?_)
        · have h := itF c87 h
          refine lv_aload_n hx hb dX4_readsFloe_92 rfl (lv_at hl 1 rfl) ?_
          refine lv_dup hx hb dX4_readsFloe_93 rfl ?_
          refine va_get (D := (dC, dI)) (ci := 4) (v := .int q50.2.2) (C := RX4) (T := TX4) (N := 28) hx hb hts hiX4 hown hK hP 0 rfl rfl 14 (by decide) hw2 (fun _ h9 => h9) rfl dX4_readsFloe_94 ?_
          refine lv_iconst (v := (1 : Int32)) hx hb dX4_readsFloe_97 (by decide) ?_
          refine lv_iadd hx hb dX4_readsFloe_98 ?_
          refine va_put (D := (dC, dI)) (ci := 4) (v := .int (q50.2.2 + (1 : Int32))) (ty := .int) (C := RX4) (T := TX4) (N := 28) hx hb hts hiX4 tyX4 tyX4_ok nmX4 hown hK hP hD hS 0 rfl rfl 14 (by decide) hw2 (fun _ h9 => h9) rfl (by decide +kernel) rfl rfl (Nat.le_of_ble_eq_true rfl) dX4_readsFloe_99 (fun H locs hP hD hS => ?_)
          have hP : va_P (dC, dI) vwCl (zwM cI cC f c_r c_refused c_tape c_letter c_letterAt q50.2.1 c_taped (q50.2.2 + (1 : Int32)) c_statements c_kept c_hasImage c_isKeeping c_cursor c_poled c_barred c_leapsTo c_leapsThen c_lands c_row c_rowMany c_endsAt) H := hP
          have hD : va_D A (zwM cI cC f c_r c_refused c_tape c_letter c_letterAt q50.2.1 c_taped (q50.2.2 + (1 : Int32)) c_statements c_kept c_hasImage c_isKeeping c_cursor c_poled c_barred c_leapsTo c_leapsThen c_lands c_row c_rowMany c_endsAt) := hD
          refine lv_aload_n hx hb dX4_readsFloe_102 rfl (lv_at hl 1 rfl) ?_
          refine lv_iload_n hx hb dX4_readsFloe_103 rfl (lv_at hl 2 rfl) ?_
          refine lv_iconst (v := (3 : Int32)) hx hb dX4_readsFloe_104 (by decide) ?_
          refine lv_iadd hx hb dX4_readsFloe_105 ?_
          refine lv_iconst (v := (1 : Int32)) hx hb dX4_readsFloe_106 (by decide) ?_
          obtain ⟨q107, e107, h⟩ := bd_some h
          refine g_rwA (wc := (zwM cI cC f c_r c_refused c_tape c_letter c_letterAt q50.2.1 c_taped (q50.2.2 + (1 : Int32)) c_statements c_kept c_hasImage c_isKeeping c_cursor c_poled c_barred c_leapsTo c_leapsThen c_lands c_row c_rowMany c_endsAt)) (wc' := (zwM cI cC f c_r c_refused c_tape c_letter c_letterAt q107.2.1 c_taped q107.2.2 c_statements c_kept c_hasImage c_isKeeping c_cursor c_poled c_barred c_leapsTo c_leapsThen c_lands c_row c_rowMany c_endsAt)) ⟨hx, hb, hml, hown, hts⟩ hE hK hA hP hD hS rfl (mX4_reads l dC dI cI cC sk f H.size (p1 + (3 : Int32)) (1 : Int32) c_r c_refused c_tape c_letter c_letterAt q50.2.1 c_taped (q50.2.2 + (1 : Int32)) c_statements c_kept c_hasImage c_isKeeping c_cursor c_poled c_barred c_leapsTo c_leapsThen c_lands c_row c_rowMany c_endsAt q107 e107) (cwV 2 hts gX4_readsFloe_X4_reads rfl rfl rfl (by decide +kernel) ⟨Nat.le_of_ble_eq_true rfl, Nat.le_of_ble_eq_true rfl⟩) (va_recv hK hP (ci := 4) (q0 := 0) rfl rfl) (As := [.int (p1 + (3 : Int32)), .int (1 : Int32)]) (rest := []) rfl hl.1 rfl (Nat.le_of_ble_eq_true rfl) dX4_readsFloe_107 ⟨Nat.zero_le _, Nat.zero_le _⟩ (fun H locs hP hD hS => ?_)
          have hP : va_P (dC, dI) vwCl (zwM cI cC f c_r c_refused c_tape c_letter c_letterAt q107.2.1 c_taped q107.2.2 c_statements c_kept c_hasImage c_isKeeping c_cursor c_poled c_barred c_leapsTo c_leapsThen c_lands c_row c_rowMany c_endsAt) H := hP
          have hD : va_D A (zwM cI cC f c_r c_refused c_tape c_letter c_letterAt q107.2.1 c_taped q107.2.2 c_statements c_kept c_hasImage c_isKeeping c_cursor c_poled c_barred c_leapsTo c_leapsThen c_lands c_row c_rowMany c_endsAt) := hD
          refine lv_if_eq (tgt := 124) hx hb dX4_readsFloe_110 (by decide) (fun c110 => ?_) (fun c110 => ?_)
          · have h := itT c110 h
            refine lv_iconst (v := (0 : Int32)) hx hb dX4_readsFloe_124 (by decide) ?_
            subst hQ
            exact retRW (zz := (((0 : Int32), q107.2.1, q107.2.2) : Int32 × AR × Int32)) (fun z => z.1) (fun z => (zwM cI cC f c_r c_refused c_tape c_letter c_letterAt z.2.1 c_taped z.2.2 c_statements c_kept c_hasImage c_isKeeping c_cursor c_poled c_barred c_leapsTo c_leapsThen c_lands c_row c_rowMany c_endsAt)) hx hb hr hlocks rfl hS h rfl hP dX4_readsFloe_125
          have h := itF c110 h
          refine lv_aload_n hx hb dX4_readsFloe_113 rfl (lv_at hl 1 rfl) ?_
          refine lv_iload_n hx hb dX4_readsFloe_114 rfl (lv_at hl 2 rfl) ?_
          refine lv_iconst (v := (4 : Int32)) hx hb dX4_readsFloe_115 (by decide) ?_
          refine lv_iadd hx hb dX4_readsFloe_116 ?_
          refine lv_iconst (v := (1 : Int32)) hx hb dX4_readsFloe_117 (by decide) ?_
          obtain ⟨q118, e118, h⟩ := bd_some h
          refine g_rwA (wc := (zwM cI cC f c_r c_refused c_tape c_letter c_letterAt q107.2.1 c_taped q107.2.2 c_statements c_kept c_hasImage c_isKeeping c_cursor c_poled c_barred c_leapsTo c_leapsThen c_lands c_row c_rowMany c_endsAt)) (wc' := (zwM cI cC f c_r c_refused c_tape c_letter c_letterAt q118.2.1 c_taped q118.2.2 c_statements c_kept c_hasImage c_isKeeping c_cursor c_poled c_barred c_leapsTo c_leapsThen c_lands c_row c_rowMany c_endsAt)) ⟨hx, hb, hml, hown, hts⟩ hE hK hA hP hD hS rfl (mX4_reads l dC dI cI cC sk f H.size (p1 + (4 : Int32)) (1 : Int32) c_r c_refused c_tape c_letter c_letterAt q107.2.1 c_taped q107.2.2 c_statements c_kept c_hasImage c_isKeeping c_cursor c_poled c_barred c_leapsTo c_leapsThen c_lands c_row c_rowMany c_endsAt q118 e118) (cwV 2 hts gX4_readsFloe_X4_reads rfl rfl rfl (by decide +kernel) ⟨Nat.le_of_ble_eq_true rfl, Nat.le_of_ble_eq_true rfl⟩) (va_recv hK hP (ci := 4) (q0 := 0) rfl rfl) (As := [.int (p1 + (4 : Int32)), .int (1 : Int32)]) (rest := []) rfl hl.1 rfl (Nat.le_of_ble_eq_true rfl) dX4_readsFloe_118 ⟨Nat.zero_le _, Nat.zero_le _⟩ (fun H locs hP hD hS => ?_)
          have hP : va_P (dC, dI) vwCl (zwM cI cC f c_r c_refused c_tape c_letter c_letterAt q118.2.1 c_taped q118.2.2 c_statements c_kept c_hasImage c_isKeeping c_cursor c_poled c_barred c_leapsTo c_leapsThen c_lands c_row c_rowMany c_endsAt) H := hP
          have hD : va_D A (zwM cI cC f c_r c_refused c_tape c_letter c_letterAt q118.2.1 c_taped q118.2.2 c_statements c_kept c_hasImage c_isKeeping c_cursor c_poled c_barred c_leapsTo c_leapsThen c_lands c_row c_rowMany c_endsAt) := hD
          refine lv_if_ne (tgt := 126) hx hb dX4_readsFloe_121 (by decide) (fun c121 => ?_) (fun c121 => ?_)
          · have h := itF c121 h
            refine lv_aload_n hx hb dX4_readsFloe_126 rfl (lv_at hl 1 rfl) ?_
            refine va_get (D := (dC, dI)) (ci := 4) (v := .ref (f 10)) (C := RX4) (T := TX4) (N := 28) hx hb hts hiX4 hown hK hP 0 rfl rfl 12 (by decide) hw1 (fun _ h9 => h9) rfl dX4_readsFloe_127 ?_
            refine lv_iload_n hx hb dX4_readsFloe_130 rfl (lv_at hl 2 rfl) ?_
            refine lv_iconst (v := (3 : Int32)) hx hb dX4_readsFloe_131 (by decide) ?_
            refine lv_iadd hx hb dX4_readsFloe_132 ?_
            refine lv_dup2_11 hx hb dX4_readsFloe_133 rfl rfl ?_
            obtain ⟨hin, h⟩ := ck_some h
            refine va_iald hx hb hK hP 10 0 rfl rfl hin dX4_readsFloe_134 ?_
            refine lv_iload_n hx hb dX4_readsFloe_135 rfl (lv_at hl 0 rfl) ?_
            refine lv_imul hx hb dX4_readsFloe_136 ?_
            obtain ⟨hin, h⟩ := ck_some h
            refine va_iast hx hb hK hP hD hS 10 0 rfl rfl hin dX4_readsFloe_137 (fun H locs hP hD hS => ?_)
            have hP : va_P (dC, dI) vwCl (zwM cI cC f c_r c_refused c_tape c_letter c_letterAt (upd q118.2.1 ((p1 + (3 : Int32))).toNatClampNeg ((q118.2.1 ((p1 + (3 : Int32))).toNatClampNeg) * v85)) c_taped q118.2.2 c_statements c_kept c_hasImage c_isKeeping c_cursor c_poled c_barred c_leapsTo c_leapsThen c_lands c_row c_rowMany c_endsAt) H := hP
            have hD : va_D A (zwM cI cC f c_r c_refused c_tape c_letter c_letterAt (upd q118.2.1 ((p1 + (3 : Int32))).toNatClampNeg ((q118.2.1 ((p1 + (3 : Int32))).toNatClampNeg) * v85)) c_taped q118.2.2 c_statements c_kept c_hasImage c_isKeeping c_cursor c_poled c_barred c_leapsTo c_leapsThen c_lands c_row c_rowMany c_endsAt) := hD
            refine lv_iconst (v := (1 : Int32)) hx hb dX4_readsFloe_138 (by decide) ?_
            subst hQ
            exact retRW (zz := (((1 : Int32), (upd q118.2.1 ((p1 + (3 : Int32))).toNatClampNeg ((q118.2.1 ((p1 + (3 : Int32))).toNatClampNeg) * v85)), q118.2.2) : Int32 × AR × Int32)) (fun z => z.1) (fun z => (zwM cI cC f c_r c_refused c_tape c_letter c_letterAt z.2.1 c_taped z.2.2 c_statements c_kept c_hasImage c_isKeeping c_cursor c_poled c_barred c_leapsTo c_leapsThen c_lands c_row c_rowMany c_endsAt)) hx hb hr hlocks rfl hS h rfl hP dX4_readsFloe_139
          have h := itT c121 h
          refine lv_iconst (v := (0 : Int32)) hx hb dX4_readsFloe_124 (by decide) ?_
          subst hQ
          exact retRW (zz := (((0 : Int32), q118.2.1, q118.2.2) : Int32 × AR × Int32)) (fun z => z.1) (fun z => (zwM cI cC f c_r c_refused c_tape c_letter c_letterAt z.2.1 c_taped z.2.2 c_statements c_kept c_hasImage c_isKeeping c_cursor c_poled c_barred c_leapsTo c_leapsThen c_lands c_row c_rowMany c_endsAt)) hx hb hr hlocks rfl hS h rfl hP dX4_readsFloe_125
        have h := itT c87 h
        refine lv_iconst (v := (0 : Int32)) hx hb dX4_readsFloe_90 (by decide) ?_
        subst hQ
        exact retRW (zz := (((0 : Int32), q50.2.1, q50.2.2) : Int32 × AR × Int32)) (fun z => z.1) (fun z => (zwM cI cC f c_r c_refused c_tape c_letter c_letterAt z.2.1 c_taped z.2.2 c_statements c_kept c_hasImage c_isKeeping c_cursor c_poled c_barred c_leapsTo c_leapsThen c_lands c_row c_rowMany c_endsAt)) hx hb hr hlocks rfl hS h rfl hP dX4_readsFloe_91
      refine lv_icmp_ne (tgt := 71) hx hb dX4_readsFloe_64 (by decide) (fun c64 => ?_) (fun c64 => ?_)
      · have h := itF c64 h
        refine lv_aload_n hx hb dX4_readsFloe_71 rfl (lv_at hl 0 rfl) ?_
        obtain ⟨q72, e72, h⟩ := bd_some h
        refine g_roV (wc := (zwM cI cC f c_r c_refused c_tape c_letter c_letterAt q50.2.1 c_taped q50.2.2 c_statements c_kept c_hasImage c_isKeeping c_cursor c_poled c_barred c_leapsTo c_leapsThen c_lands c_row c_rowMany c_endsAt)) ⟨hx, hb, hml, hown, hts⟩ hE hK hP hS [0, 1, 2, 3, 4, 5, 6, 7, 8, 9, 10, 11, 12, 13, 14, 15] rfl (mX4_nextLetter l dC dI cI cC sk f c_r c_refused c_tape c_letter c_letterAt q50.2.1 c_taped q50.2.2 c_statements c_kept c_hasImage c_isKeeping c_cursor c_poled c_barred c_leapsTo c_leapsThen c_lands c_row c_rowMany c_endsAt q72 e72) (cwV 0 hts gX4_readsFloe_X4_nextLetter rfl rfl rfl (by decide +kernel) ⟨Nat.le_of_ble_eq_true rfl, Nat.le_of_ble_eq_true rfl⟩) (va_recv hK hP (ci := 4) (q0 := 0) rfl rfl) (As := []) (rest := []) rfl hl.1 rfl (Nat.le_of_ble_eq_true rfl) dX4_readsFloe_72 ⟨Nat.zero_le _, Nat.zero_le _⟩ (fun H locs hP hS => ?_)
        refine lv_bipush (v := (114 : Int32)) hx hb dX4_readsFloe_75 (by decide) ?_
        refine lv_icmp_ne (tgt := 84) hx hb dX4_readsFloe_77 (by decide) (fun c77 => ?_) (fun c77 => ?_)
        · have h := itF c77 h
          refine lv_iconst (v := (0 : Int32)) hx hb dX4_readsFloe_84 (by decide) ?_
          exact j85 _ h _ _ _ hP hD hS (lv_sub hl [0, 1] rfl)
        have h := itT c77 h
        refine lv_iconst (v := (1 : Int32)) hx hb dX4_readsFloe_80 (by decide) ?_
        refine lv_goto (tgt := 85) hx hb dX4_readsFloe_81 (by decide) ?_
        exact j85 _ h _ _ _ hP hD hS (lv_sub hl [0, 1] rfl)
      have h := itT c64 h
      refine lv_iconst (v := (-1 : Int32)) hx hb dX4_readsFloe_67 (by decide) ?_
      refine lv_goto (tgt := 85) hx hb dX4_readsFloe_68 (by decide) ?_
      exact j85 _ h _ _ _ hP hD hS (lv_sub hl [0, 1] rfl)
    have h := itT c53 h
    refine lv_iconst (v := (0 : Int32)) hx hb dX4_readsFloe_56 (by decide) ?_
    subst hQ
    exact retRW (zz := (((0 : Int32), q50.2.1, q50.2.2) : Int32 × AR × Int32)) (fun z => z.1) (fun z => (zwM cI cC f c_r c_refused c_tape c_letter c_letterAt z.2.1 c_taped z.2.2 c_statements c_kept c_hasImage c_isKeeping c_cursor c_poled c_barred c_leapsTo c_leapsThen c_lands c_row c_rowMany c_endsAt)) hx hb hr hlocks rfl hS h rfl hP dX4_readsFloe_57
  have h := itF c19 h
  refine lv_iconst (v := (0 : Int32)) hx hb dX4_readsFloe_22 (by decide) ?_
  subst hQ
  exact retRW (zz := (((0 : Int32), (upd c_number (p1).toNatClampNeg q9), c_at) : Int32 × AR × Int32)) (fun z => z.1) (fun z => (zwM cI cC f c_r c_refused c_tape c_letter c_letterAt z.2.1 c_taped z.2.2 c_statements c_kept c_hasImage c_isKeeping c_cursor c_poled c_barred c_leapsTo c_leapsThen c_lands c_row c_rowMany c_endsAt)) hx hb hr hlocks rfl hS h rfl hP dX4_readsFloe_23
