theorem dX4_reads_0 : decode cX4_reads 0 = .ok (.aload_n 0, 1) := by decide +kernel
theorem dX4_reads_1 : decode cX4_reads 1 = .ok (.invokevirtual 80, 3) := by decide +kernel
theorem dX4_reads_4 : decode cX4_reads 4 = .ok (.bipush 48, 2) := by decide +kernel
theorem dX4_reads_6 : decode cX4_reads 6 = .ok (.bipush 57, 2) := by decide +kernel
theorem dX4_reads_8 : decode cX4_reads 8 = .ok (.invokestatic 62, 3) := by decide +kernel
theorem dX4_reads_11 : decode cX4_reads 11 = .ok (.ifCond .ne 5, 3) := by decide +kernel
theorem dX4_reads_14 : decode cX4_reads 14 = .ok (.iconst 0, 1) := by decide +kernel
theorem dX4_reads_15 : decode cX4_reads 15 = .ok (.ireturn, 1) := by decide +kernel
theorem dX4_reads_16 : decode cX4_reads 16 = .ok (.iconst 0, 1) := by decide +kernel
theorem dX4_reads_17 : decode cX4_reads 17 = .ok (.istore_n 3, 1) := by decide +kernel
theorem dX4_reads_18 : decode cX4_reads 18 = .ok (.iconst 0, 1) := by decide +kernel
theorem dX4_reads_19 : decode cX4_reads 19 = .ok (.istore 4, 2) := by decide +kernel
theorem dX4_reads_21 : decode cX4_reads 21 = .ok (.iload 4, 2) := by decide +kernel
theorem dX4_reads_23 : decode cX4_reads 23 = .ok (.iload_n 2, 1) := by decide +kernel
theorem dX4_reads_24 : decode cX4_reads 24 = .ok (.if_icmp .ge 46, 3) := by decide +kernel
theorem dX4_reads_27 : decode cX4_reads 27 = .ok (.aload_n 0, 1) := by decide +kernel
theorem dX4_reads_28 : decode cX4_reads 28 = .ok (.invokevirtual 80, 3) := by decide +kernel
theorem dX4_reads_31 : decode cX4_reads 31 = .ok (.bipush 48, 2) := by decide +kernel
theorem dX4_reads_33 : decode cX4_reads 33 = .ok (.bipush 57, 2) := by decide +kernel
theorem dX4_reads_35 : decode cX4_reads 35 = .ok (.invokestatic 62, 3) := by decide +kernel
theorem dX4_reads_38 : decode cX4_reads 38 = .ok (.ifCond .eq 32, 3) := by decide +kernel
theorem dX4_reads_41 : decode cX4_reads 41 = .ok (.bipush 10, 2) := by decide +kernel
theorem dX4_reads_43 : decode cX4_reads 43 = .ok (.iload_n 3, 1) := by decide +kernel
theorem dX4_reads_44 : decode cX4_reads 44 = .ok (.imul, 1) := by decide +kernel
theorem dX4_reads_45 : decode cX4_reads 45 = .ok (.aload_n 0, 1) := by decide +kernel
theorem dX4_reads_46 : decode cX4_reads 46 = .ok (.invokevirtual 80, 3) := by decide +kernel
theorem dX4_reads_49 : decode cX4_reads 49 = .ok (.iadd, 1) := by decide +kernel
theorem dX4_reads_50 : decode cX4_reads 50 = .ok (.bipush 48, 2) := by decide +kernel
theorem dX4_reads_52 : decode cX4_reads 52 = .ok (.isub, 1) := by decide +kernel
theorem dX4_reads_53 : decode cX4_reads 53 = .ok (.istore_n 3, 1) := by decide +kernel
theorem dX4_reads_54 : decode cX4_reads 54 = .ok (.aload_n 0, 1) := by decide +kernel
theorem dX4_reads_55 : decode cX4_reads 55 = .ok (.dup, 1) := by decide +kernel
theorem dX4_reads_56 : decode cX4_reads 56 = .ok (.getfield 77, 3) := by decide +kernel
theorem dX4_reads_59 : decode cX4_reads 59 = .ok (.iconst 1, 1) := by decide +kernel
theorem dX4_reads_60 : decode cX4_reads 60 = .ok (.iadd, 1) := by decide +kernel
theorem dX4_reads_61 : decode cX4_reads 61 = .ok (.putfield 77, 3) := by decide +kernel
theorem dX4_reads_64 : decode cX4_reads 64 = .ok (.iinc 4 1, 3) := by decide +kernel
theorem dX4_reads_67 : decode cX4_reads 67 = .ok (.goto (-46), 3) := by decide +kernel
theorem dX4_reads_70 : decode cX4_reads 70 = .ok (.aload_n 0, 1) := by decide +kernel
theorem dX4_reads_71 : decode cX4_reads 71 = .ok (.getfield 41, 3) := by decide +kernel
theorem dX4_reads_74 : decode cX4_reads 74 = .ok (.iload_n 1, 1) := by decide +kernel
theorem dX4_reads_75 : decode cX4_reads 75 = .ok (.iload_n 3, 1) := by decide +kernel
theorem dX4_reads_76 : decode cX4_reads 76 = .ok (.iastore, 1) := by decide +kernel
theorem dX4_reads_77 : decode cX4_reads 77 = .ok (.iconst 1, 1) := by decide +kernel
theorem dX4_reads_78 : decode cX4_reads 78 = .ok (.ireturn, 1) := by decide +kernel
set_option maxRecDepth 20000 in
theorem ggX4_reads_X4_nextLetter : GoodIn wsX4_reads wsX4_nextLetter := goodIn_r _ [7, 1, 8, 9, 13, 14, 15, 16, 17, 18, 19, 20, 21, 22, 23, 24, 25, 26, 27, 28, 29, 30, 31, 32, 33, 34, 35, 36, 37, 38, 39, 40] (by decide +kernel) (by decide +kernel)
set_option maxRecDepth 20000 in
theorem gX4_reads_X4_nextLetter : GoodIn wsX4_reads (wsV RX4 80 RX4 yX4_nextLetter wsX4_nextLetter) := goodIn_app (goodIn_of _ (by decide +kernel)) ggX4_reads_X4_nextLetter
set_option maxRecDepth 20000 in
theorem ggX4_reads_X4_isIn : GoodIn wsX4_reads wsX4_isIn := goodIn_r _ [12] (by decide +kernel) (by decide +kernel)
set_option maxRecDepth 20000 in
theorem gX4_reads_X4_isIn : GoodIn wsX4_reads (va_wsS RX4 62 yX4_isIn wsX4_isIn) := goodIn_app (goodIn_of _ (by decide +kernel)) ggX4_reads_X4_isIn
set_option maxHeartbeats 4000000 in
set_option maxRecDepth 100000 in
theorem mX4_reads (l : Launch) (dC : Nat → ClassId) (dI : Nat → Nat → Nat) (cI cC : ClassId) (sk : (Nat → Nat) × (Nat → Nat)) (f : Nat → Nat) (sz : Nat) (p1 : Int32) (p2 : Int32) (c_r : RT) (c_refused : AR) (c_tape : AR) (c_letter : AR) (c_letterAt : AR) (c_number : AR) (c_taped : Int32) (c_at : Int32) (c_statements : Int32) (c_kept : AR) (c_hasImage : Int32) (c_isKeeping : Int32) (c_cursor : Int32) (c_poled : Int32) (c_barred : Int32) (c_leapsTo : AR) (c_leapsThen : AR) (c_lands : AR) (c_row : AR) (c_rowMany : Int32) (c_endsAt : Int32) (z : Int32 × AR × Int32) (h : fX4_reads p1 p2 c_tape c_number c_taped c_at = some z) : cRW l yX4_reads wsX4_reads (RMk 1 22) sk (dC, dI) (tyz cI cC) sz (zwM cI cC f c_r c_refused c_tape c_letter c_letterAt c_number c_taped c_at c_statements c_kept c_hasImage c_isKeeping c_cursor c_poled c_barred c_leapsTo c_leapsThen c_lands c_row c_rowMany c_endsAt) (zwM cI cC f c_r c_refused c_tape c_letter c_letterAt z.2.1 c_taped z.2.2 c_statements c_kept c_hasImage c_isKeeping c_cursor c_poled c_barred c_leapsTo c_leapsThen c_lands c_row c_rowMany c_endsAt) [.ref (f 0), .int p1, .int p2] z.1 := by
  refine ofRW (cc := cX4_reads) (maxL := 5) (ret := (some .boolean)) (own := RX4) (plainFor_of_name (by decide)) rfl rfl (Nat.le_of_ble_eq_true rfl) ?_
  intro p e s m args below meth c A hA hx hb hml hr hts hown hlocks hE hK hP hD hS ls hl
  generalize hQ : qRW _ _ _ _ _ _ _ = Q
  have hl : lv_has ls 5 [(0, .ref (f 0)), (1, .int p1), (2, .int p2)] := hl
  have hiX4 : ∀ w ∈ wsX40, w ∈ wsX4_reads := fun w h => List.mem_cons_of_mem _ (List.mem_append_right _ h)
  have hw1 := hts (Cond.fieldLink RX4 77 "FloeToFloeModel" "at" "I") (List.mem_of_getElem? (i := 1) rfl)
  have hw2 := hts (Cond.fieldLink RX4 41 "FloeToFloeModel" "number" "[I") (List.mem_of_getElem? (i := 2) rfl)
  rw [fX4_reads] at h
  refine lv_aload_n hx hb dX4_reads_0 rfl (lv_at hl 0 rfl) ?_
  obtain ⟨q1, e1, h⟩ := bd_some h
  refine g_roV (wc := (zwM cI cC f c_r c_refused c_tape c_letter c_letterAt c_number c_taped c_at c_statements c_kept c_hasImage c_isKeeping c_cursor c_poled c_barred c_leapsTo c_leapsThen c_lands c_row c_rowMany c_endsAt)) ⟨hx, hb, hml, hown, hts⟩ hE hK hP hS [0, 1, 2, 3, 4, 5, 6, 7, 8, 9, 10, 11, 12, 13, 14, 15] rfl (mX4_nextLetter l dC dI cI cC sk f c_r c_refused c_tape c_letter c_letterAt c_number c_taped c_at c_statements c_kept c_hasImage c_isKeeping c_cursor c_poled c_barred c_leapsTo c_leapsThen c_lands c_row c_rowMany c_endsAt q1 e1) (cwV 0 hts gX4_reads_X4_nextLetter rfl rfl rfl (by decide +kernel) ⟨Nat.le_of_ble_eq_true rfl, Nat.le_of_ble_eq_true rfl⟩) (va_recv hK hP (ci := 4) (q0 := 0) rfl rfl) (As := []) (rest := []) rfl hl.1 rfl (Nat.le_of_ble_eq_true rfl) dX4_reads_1 ⟨Nat.zero_le _, Nat.zero_le _⟩ (fun H locs hP hS => ?_)
  refine lv_bipush (v := (48 : Int32)) hx hb dX4_reads_4 (by decide) ?_
  refine lv_bipush (v := (57 : Int32)) hx hb dX4_reads_6 (by decide) ?_
  obtain ⟨q8, e8, h⟩ := bd_some h
  refine g_roS (wc := ([] : va_W)) ⟨hx, hb, hml, hown, hts⟩ hE hK hP hS [] rfl (mX4_isIn l dC dI cI cC sk  q1 (48 : Int32) (57 : Int32) q8 e8) (va_cwS 3 hts gX4_reads_X4_isIn rfl rfl rfl (by decide +kernel) ⟨Nat.le_of_ble_eq_true rfl, Nat.le_of_ble_eq_true rfl⟩) (As := [.int q1, .int (48 : Int32), .int (57 : Int32)]) (rest := []) rfl hl.1 rfl (Nat.le_of_ble_eq_true rfl) dX4_reads_8 ⟨Nat.zero_le _, Nat.zero_le _⟩ (fun H locs hP hS => ?_)
  refine lv_if_ne (tgt := 16) hx hb dX4_reads_11 (by decide) (fun c11 => ?_) (fun c11 => ?_)
  · have h := itF c11 h
    refine lv_iconst (v := (0 : Int32)) hx hb dX4_reads_16 (by decide) ?_
    refine lv_istore_n (lv' := [(3, .int (0 : Int32)), (0, .ref (f 0)), (1, .int p1), (2, .int p2)]) hx hb dX4_reads_17 rfl hl (by decide) rfl (fun ls hl => ?_)
    refine lv_iconst (v := (0 : Int32)) hx hb dX4_reads_18 (by decide) ?_
    refine lv_istore (lv' := [(4, .int (0 : Int32)), (3, .int (0 : Int32)), (0, .ref (f 0)), (1, .int p1), (2, .int p2)]) hx hb dX4_reads_19 hl (by decide) rfl (fun ls hl => ?_)
    have L21 : ∀ (K21 : Int32 → Int32 → Option (Int32 × AR × Int32)), (∀ (k21_3 : Int32) (k21_at : Int32), K21 k21_3 k21_at = some z → ∀ (H : Heap) (locs : List Loc) (ls : Array Slot), va_P (dC, dI) vwCl (zwM cI cC f c_r c_refused c_tape c_letter c_letterAt c_number c_taped k21_at c_statements c_kept c_hasImage c_isKeeping c_cursor c_poled c_barred c_leapsTo c_leapsThen c_lands c_row c_rowMany c_endsAt) H → va_D A (zwM cI cC f c_r c_refused c_tape c_letter c_letterAt c_number c_taped k21_at c_statements c_kept c_hasImage c_isKeeping c_cursor c_poled c_barred c_leapsTo c_leapsThen c_lands c_row c_rowMany c_endsAt) → va_S A s.heap H locs → lv_has ls 5 [(0, .ref (f 0)), (1, .int p1), (3, .int k21_3)] → W p l e (RMk 1 22) s m args below meth c H locs 0 0 Q (F0 m 70 ls [])) → ∀ (n : Nat) (x21_3 : Int32) (x21_4 : Int32) (x21_at : Int32), fX4_reads_L21 c_tape c_taped p2 K21 n x21_3 x21_4 x21_at = some z → ∀ (H : Heap) (locs : List Loc) (ls : Array Slot), va_P (dC, dI) vwCl (zwM cI cC f c_r c_refused c_tape c_letter c_letterAt c_number c_taped x21_at c_statements c_kept c_hasImage c_isKeeping c_cursor c_poled c_barred c_leapsTo c_leapsThen c_lands c_row c_rowMany c_endsAt) H → va_D A (zwM cI cC f c_r c_refused c_tape c_letter c_letterAt c_number c_taped x21_at c_statements c_kept c_hasImage c_isKeeping c_cursor c_poled c_barred c_leapsTo c_leapsThen c_lands c_row c_rowMany c_endsAt) → va_S A s.heap H locs → lv_has ls 5 [(0, .ref (f 0)), (1, .int p1), (2, .int p2), (3, .int x21_3), (4, .int x21_4)] → W p l e (RMk 1 22) s m args below meth c H locs 0 0 Q (F0 m 21 ls []) := by
      intro K21 kx21 n
      induction n with
      | zero => intro x21_3 x21_4 x21_at h; rw [fX4_reads_L21] at h; cases h
      | succ n ih21 =>
        intro x21_3 x21_4 x21_at h H locs ls hP hD hS hl
        rw [fX4_reads_L21] at h
        refine lv_iload hx hb dX4_reads_21 (lv_at hl 4 rfl) ?_
        refine lv_iload_n hx hb dX4_reads_23 rfl (lv_at hl 2 rfl) ?_
        refine lv_icmp_ge (tgt := 70) hx hb dX4_reads_24 (by decide) (fun c24 => ?_) (fun c24 => ?_)
        · have h := itT c24 h
          exact kx21 _ _ h _ _ _ hP hD hS (lv_sub hl [0, 1, 3] rfl)
        have h := itF c24 h
        refine lv_aload_n hx hb dX4_reads_27 rfl (lv_at hl 0 rfl) ?_
        obtain ⟨q28, e28, h⟩ := bd_some h
        refine g_roV (wc := (zwM cI cC f c_r c_refused c_tape c_letter c_letterAt c_number c_taped x21_at c_statements c_kept c_hasImage c_isKeeping c_cursor c_poled c_barred c_leapsTo c_leapsThen c_lands c_row c_rowMany c_endsAt)) ⟨hx, hb, hml, hown, hts⟩ hE hK hP hS [0, 1, 2, 3, 4, 5, 6, 7, 8, 9, 10, 11, 12, 13, 14, 15] rfl (mX4_nextLetter l dC dI cI cC sk f c_r c_refused c_tape c_letter c_letterAt c_number c_taped x21_at c_statements c_kept c_hasImage c_isKeeping c_cursor c_poled c_barred c_leapsTo c_leapsThen c_lands c_row c_rowMany c_endsAt q28 e28) (cwV 0 hts gX4_reads_X4_nextLetter rfl rfl rfl (by decide +kernel) ⟨Nat.le_of_ble_eq_true rfl, Nat.le_of_ble_eq_true rfl⟩) (va_recv hK hP (ci := 4) (q0 := 0) rfl rfl) (As := []) (rest := []) rfl hl.1 rfl (Nat.le_of_ble_eq_true rfl) dX4_reads_28 ⟨Nat.zero_le _, Nat.zero_le _⟩ (fun H locs hP hS => ?_)
        refine lv_bipush (v := (48 : Int32)) hx hb dX4_reads_31 (by decide) ?_
        refine lv_bipush (v := (57 : Int32)) hx hb dX4_reads_33 (by decide) ?_
        obtain ⟨q35, e35, h⟩ := bd_some h
        refine g_roS (wc := ([] : va_W)) ⟨hx, hb, hml, hown, hts⟩ hE hK hP hS [] rfl (mX4_isIn l dC dI cI cC sk  q28 (48 : Int32) (57 : Int32) q35 e35) (va_cwS 3 hts gX4_reads_X4_isIn rfl rfl rfl (by decide +kernel) ⟨Nat.le_of_ble_eq_true rfl, Nat.le_of_ble_eq_true rfl⟩) (As := [.int q28, .int (48 : Int32), .int (57 : Int32)]) (rest := []) rfl hl.1 rfl (Nat.le_of_ble_eq_true rfl) dX4_reads_35 ⟨Nat.zero_le _, Nat.zero_le _⟩ (fun H locs hP hS => ?_)
        refine lv_if_eq (tgt := 70) hx hb dX4_reads_38 (by decide) (fun c38 => ?_) (fun c38 => ?_)
        · have h := itT c38 h
          exact kx21 _ _ h _ _ _ hP hD hS (lv_sub hl [0, 1, 3] rfl)
        have h := itF c38 h
        refine lv_bipush (v := (10 : Int32)) hx hb dX4_reads_41 (by decide) ?_
        refine lv_iload_n hx hb dX4_reads_43 rfl (lv_at hl 3 rfl) ?_
        refine lv_imul hx hb dX4_reads_44 ?_
        refine lv_aload_n hx hb dX4_reads_45 rfl (lv_at hl 0 rfl) ?_
        obtain ⟨q46, e46, h⟩ := bd_some h
        refine g_roV (wc := (zwM cI cC f c_r c_refused c_tape c_letter c_letterAt c_number c_taped x21_at c_statements c_kept c_hasImage c_isKeeping c_cursor c_poled c_barred c_leapsTo c_leapsThen c_lands c_row c_rowMany c_endsAt)) ⟨hx, hb, hml, hown, hts⟩ hE hK hP hS [0, 1, 2, 3, 4, 5, 6, 7, 8, 9, 10, 11, 12, 13, 14, 15] rfl (mX4_nextLetter l dC dI cI cC sk f c_r c_refused c_tape c_letter c_letterAt c_number c_taped x21_at c_statements c_kept c_hasImage c_isKeeping c_cursor c_poled c_barred c_leapsTo c_leapsThen c_lands c_row c_rowMany c_endsAt q46 e46) (cwV 0 hts gX4_reads_X4_nextLetter rfl rfl rfl (by decide +kernel) ⟨Nat.le_of_ble_eq_true rfl, Nat.le_of_ble_eq_true rfl⟩) (va_recv hK hP (ci := 4) (q0 := 0) rfl rfl) (As := []) (rest := [.int ((10 : Int32) * x21_3)]) rfl hl.1 rfl (Nat.le_of_ble_eq_true rfl) dX4_reads_46 ⟨Nat.zero_le _, Nat.zero_le _⟩ (fun H locs hP hS => ?_)
        refine lv_iadd hx hb dX4_reads_49 ?_
        refine lv_bipush (v := (48 : Int32)) hx hb dX4_reads_50 (by decide) ?_
        refine lv_isub hx hb dX4_reads_52 ?_
        refine lv_istore_n (lv' := [(3, .int ((((10 : Int32) * x21_3) + q46) - (48 : Int32))), (0, .ref (f 0)), (1, .int p1), (2, .int p2), (4, .int x21_4)]) hx hb dX4_reads_53 rfl hl (by decide) rfl (fun ls hl => ?_)
        refine lv_aload_n hx hb dX4_reads_54 rfl (lv_at hl 1 rfl) ?_
        refine lv_dup hx hb dX4_reads_55 rfl ?_
        refine va_get (D := (dC, dI)) (ci := 4) (v := .int x21_at) (C := RX4) (T := TX4) (N := 28) hx hb hts hiX4 hown hK hP 0 rfl rfl 14 (by decide) hw1 (fun _ h9 => h9) rfl dX4_reads_56 ?_
        refine lv_iconst (v := (1 : Int32)) hx hb dX4_reads_59 (by decide) ?_
        refine lv_iadd hx hb dX4_reads_60 ?_
        refine va_put (D := (dC, dI)) (ci := 4) (v := .int (x21_at + (1 : Int32))) (ty := .int) (C := RX4) (T := TX4) (N := 28) hx hb hts hiX4 tyX4 tyX4_ok nmX4 hown hK hP hD hS 0 rfl rfl 14 (by decide) hw1 (fun _ h9 => h9) rfl (by decide +kernel) rfl rfl (Nat.le_of_ble_eq_true rfl) dX4_reads_61 (fun H locs hP hD hS => ?_)
        have hP : va_P (dC, dI) vwCl (zwM cI cC f c_r c_refused c_tape c_letter c_letterAt c_number c_taped (x21_at + (1 : Int32)) c_statements c_kept c_hasImage c_isKeeping c_cursor c_poled c_barred c_leapsTo c_leapsThen c_lands c_row c_rowMany c_endsAt) H := hP
        have hD : va_D A (zwM cI cC f c_r c_refused c_tape c_letter c_letterAt c_number c_taped (x21_at + (1 : Int32)) c_statements c_kept c_hasImage c_isKeeping c_cursor c_poled c_barred c_leapsTo c_leapsThen c_lands c_row c_rowMany c_endsAt) := hD
        refine lv_iinc (v := (x21_4 + (1 : Int32))) (lv' := [(4, .int (x21_4 + (1 : Int32))), (3, .int ((((10 : Int32) * x21_3) + q46) - (48 : Int32))), (0, .ref (f 0)), (1, .int p1), (2, .int p2)]) hx hb dX4_reads_64 hl (k := 4) rfl rfl (by decide) rfl (fun ls hl => ?_)
        refine lv_goto (tgt := 21) hx hb dX4_reads_67 (by decide) ?_
        exact ih21 _ _ _ h _ _ _ hP hD hS (lv_sub hl [2, 3, 4, 1, 0] rfl)
    refine L21 _ (fun k21_3 k21_at h H locs ls hP hD hS hl => ?_) _ _ _ _ h _ _ _ hP hD hS (lv_sub hl [2, 3, 4, 1, 0] rfl)
    refine lv_aload_n hx hb dX4_reads_70 rfl (lv_at hl 0 rfl) ?_
    refine va_get (D := (dC, dI)) (ci := 4) (v := .ref (f 10)) (C := RX4) (T := TX4) (N := 28) hx hb hts hiX4 hown hK hP 0 rfl rfl 12 (by decide) hw2 (fun _ h9 => h9) rfl dX4_reads_71 ?_
    refine lv_iload_n hx hb dX4_reads_74 rfl (lv_at hl 1 rfl) ?_
    refine lv_iload_n hx hb dX4_reads_75 rfl (lv_at hl 2 rfl) ?_
    obtain ⟨hin, h⟩ := ck_some h
    refine va_iast hx hb hK hP hD hS 10 0 rfl rfl hin dX4_reads_76 (fun H locs hP hD hS => ?_)
    have hP : va_P (dC, dI) vwCl (zwM cI cC f c_r c_refused c_tape c_letter c_letterAt (upd c_number (p1).toNatClampNeg k21_3) c_taped k21_at c_statements c_kept c_hasImage c_isKeeping c_cursor c_poled c_barred c_leapsTo c_leapsThen c_lands c_row c_rowMany c_endsAt) H := hP
    have hD : va_D A (zwM cI cC f c_r c_refused c_tape c_letter c_letterAt (upd c_number (p1).toNatClampNeg k21_3) c_taped k21_at c_statements c_kept c_hasImage c_isKeeping c_cursor c_poled c_barred c_leapsTo c_leapsThen c_lands c_row c_rowMany c_endsAt) := hD
    refine lv_iconst (v := (1 : Int32)) hx hb dX4_reads_77 (by decide) ?_
    subst hQ
    exact retRW (zz := (((1 : Int32), (upd c_number (p1).toNatClampNeg k21_3), k21_at) : Int32 × AR × Int32)) (fun z => z.1) (fun z => (zwM cI cC f c_r c_refused c_tape c_letter c_letterAt z.2.1 c_taped z.2.2 c_statements c_kept c_hasImage c_isKeeping c_cursor c_poled c_barred c_leapsTo c_leapsThen c_lands c_row c_rowMany c_endsAt)) hx hb hr hlocks rfl hS h rfl hP dX4_reads_78
  have h := itT c11 h
  refine lv_iconst (v := (0 : Int32)) hx hb dX4_reads_14 (by decide) ?_
  subst hQ
  exact retRW (zz := (((0 : Int32), c_number, c_at) : Int32 × AR × Int32)) (fun z => z.1) (fun z => (zwM cI cC f c_r c_refused c_tape c_letter c_letterAt z.2.1 c_taped z.2.2 c_statements c_kept c_hasImage c_isKeeping c_cursor c_poled c_barred c_leapsTo c_leapsThen c_lands c_row c_rowMany c_endsAt)) hx hb hr hlocks rfl hS h rfl hP dX4_reads_15
