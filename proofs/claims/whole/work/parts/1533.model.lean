theorem dX4_needed_0 : decode cX4_needed 0 = .ok (.iload_n 1, 1) := by decide +kernel
theorem dX4_needed_1 : decode cX4_needed 1 = .ok (.iload_n 2, 1) := by decide +kernel
theorem dX4_needed_2 : decode cX4_needed 2 = .ok (.invokestatic 176, 3) := by decide +kernel
theorem dX4_needed_5 : decode cX4_needed 5 = .ok (.istore_n 3, 1) := by decide +kernel
theorem dX4_needed_6 : decode cX4_needed 6 = .ok (.iload_n 3, 1) := by decide +kernel
theorem dX4_needed_7 : decode cX4_needed 7 = .ok (.ifCond .eq 9, 3) := by decide +kernel
theorem dX4_needed_10 : decode cX4_needed 10 = .ok (.aload_n 0, 1) := by decide +kernel
theorem dX4_needed_11 : decode cX4_needed 11 = .ok (.iload_n 3, 1) := by decide +kernel
theorem dX4_needed_12 : decode cX4_needed 12 = .ok (.invokevirtual 73, 3) := by decide +kernel
theorem dX4_needed_15 : decode cX4_needed 15 = .ok (.ireturn, 1) := by decide +kernel
theorem dX4_needed_16 : decode cX4_needed 16 = .ok (.aload_n 0, 1) := by decide +kernel
theorem dX4_needed_17 : decode cX4_needed 17 = .ok (.iload_n 1, 1) := by decide +kernel
theorem dX4_needed_18 : decode cX4_needed 18 = .ok (.iload_n 2, 1) := by decide +kernel
theorem dX4_needed_19 : decode cX4_needed 19 = .ok (.aload_n 0, 1) := by decide +kernel
theorem dX4_needed_20 : decode cX4_needed 20 = .ok (.getfield 101, 3) := by decide +kernel
theorem dX4_needed_23 : decode cX4_needed 23 = .ok (.invokevirtual 179, 3) := by decide +kernel
theorem dX4_needed_26 : decode cX4_needed 26 = .ok (.ifCond .ge 5, 3) := by decide +kernel
theorem dX4_needed_29 : decode cX4_needed 29 = .ok (.iconst 0, 1) := by decide +kernel
theorem dX4_needed_30 : decode cX4_needed 30 = .ok (.ireturn, 1) := by decide +kernel
theorem dX4_needed_31 : decode cX4_needed 31 = .ok (.iconst 0, 1) := by decide +kernel
theorem dX4_needed_32 : decode cX4_needed 32 = .ok (.istore 4, 2) := by decide +kernel
theorem dX4_needed_34 : decode cX4_needed 34 = .ok (.iconst 0, 1) := by decide +kernel
theorem dX4_needed_35 : decode cX4_needed 35 = .ok (.istore 5, 2) := by decide +kernel
theorem dX4_needed_37 : decode cX4_needed 37 = .ok (.iload 5, 2) := by decide +kernel
theorem dX4_needed_39 : decode cX4_needed 39 = .ok (.aload_n 0, 1) := by decide +kernel
theorem dX4_needed_40 : decode cX4_needed 40 = .ok (.getfield 59, 3) := by decide +kernel
theorem dX4_needed_43 : decode cX4_needed 43 = .ok (.if_icmp .ge 43, 3) := by decide +kernel
theorem dX4_needed_46 : decode cX4_needed 46 = .ok (.aload_n 0, 1) := by decide +kernel
theorem dX4_needed_47 : decode cX4_needed 47 = .ok (.iconst 1, 1) := by decide +kernel
theorem dX4_needed_48 : decode cX4_needed 48 = .ok (.iload 5, 2) := by decide +kernel
theorem dX4_needed_50 : decode cX4_needed 50 = .ok (.ishl, 1) := by decide +kernel
theorem dX4_needed_51 : decode cX4_needed 51 = .ok (.putfield 157, 3) := by decide +kernel
theorem dX4_needed_54 : decode cX4_needed 54 = .ok (.iload 4, 2) := by decide +kernel
theorem dX4_needed_56 : decode cX4_needed 56 = .ok (.aload_n 0, 1) := by decide +kernel
theorem dX4_needed_57 : decode cX4_needed 57 = .ok (.iload_n 1, 1) := by decide +kernel
theorem dX4_needed_58 : decode cX4_needed 58 = .ok (.iload_n 2, 1) := by decide +kernel
theorem dX4_needed_59 : decode cX4_needed 59 = .ok (.aload_n 0, 1) := by decide +kernel
theorem dX4_needed_60 : decode cX4_needed 60 = .ok (.getfield 101, 3) := by decide +kernel
theorem dX4_needed_63 : decode cX4_needed 63 = .ok (.invokevirtual 179, 3) := by decide +kernel
theorem dX4_needed_66 : decode cX4_needed 66 = .ok (.ifCond .ge 10, 3) := by decide +kernel
theorem dX4_needed_69 : decode cX4_needed 69 = .ok (.iconst 1, 1) := by decide +kernel
theorem dX4_needed_70 : decode cX4_needed 70 = .ok (.iload 5, 2) := by decide +kernel
theorem dX4_needed_72 : decode cX4_needed 72 = .ok (.ishl, 1) := by decide +kernel
theorem dX4_needed_73 : decode cX4_needed 73 = .ok (.goto 4, 3) := by decide +kernel
theorem dX4_needed_76 : decode cX4_needed 76 = .ok (.iconst 0, 1) := by decide +kernel
theorem dX4_needed_77 : decode cX4_needed 77 = .ok (.ior, 1) := by decide +kernel
theorem dX4_needed_78 : decode cX4_needed 78 = .ok (.istore 4, 2) := by decide +kernel
theorem dX4_needed_80 : decode cX4_needed 80 = .ok (.iinc 5 1, 3) := by decide +kernel
theorem dX4_needed_83 : decode cX4_needed 83 = .ok (.goto (-46), 3) := by decide +kernel
theorem dX4_needed_86 : decode cX4_needed 86 = .ok (.aload_n 0, 1) := by decide +kernel
theorem dX4_needed_87 : decode cX4_needed 87 = .ok (.iconst 0, 1) := by decide +kernel
theorem dX4_needed_88 : decode cX4_needed 88 = .ok (.putfield 157, 3) := by decide +kernel
theorem dX4_needed_91 : decode cX4_needed 91 = .ok (.iload 4, 2) := by decide +kernel
theorem dX4_needed_93 : decode cX4_needed 93 = .ok (.ireturn, 1) := by decide +kernel
set_option maxRecDepth 20000 in
theorem ggX4_needed_X4_notLoad : GoodIn wsX4_needed wsX4_notLoad := goodIn_r _ [7, 8, 9, 6, 10, 11, 12, 13, 14, 15, 16] (by decide +kernel) (by decide +kernel)
set_option maxRecDepth 20000 in
theorem gX4_needed_X4_notLoad : GoodIn wsX4_needed (va_wsS RX4 176 yX4_notLoad wsX4_notLoad) := goodIn_app (goodIn_of _ (by decide +kernel)) ggX4_needed_X4_notLoad
set_option maxRecDepth 20000 in
theorem ggX4_needed_X4_no : GoodIn wsX4_needed wsX4_no := goodIn_r _ [20, 21, 70, 71, 72, 73, 74, 75, 76, 77, 78, 79, 80, 81, 82, 83, 84, 85, 86, 87, 88, 89, 90, 91, 92, 93, 94, 95, 96, 97] (by decide +kernel) (by decide +kernel)
set_option maxRecDepth 20000 in
theorem gX4_needed_X4_no : GoodIn wsX4_needed (wsV RX4 73 RX4 yX4_no wsX4_no) := goodIn_app (goodIn_of _ (by decide +kernel)) ggX4_needed_X4_no
set_option maxRecDepth 20000 in
theorem ggX4_needed_X4_soonestFrom : GoodIn wsX4_needed wsX4_soonestFrom := goodIn_r _ [25, 26, 27, 28, 6, 29, 30, 31, 32, 33, 34, 35, 36, 37, 3, 38, 39, 40, 41, 42, 43, 44, 45, 46, 47, 48, 49, 50, 51, 52, 53, 2, 54, 55, 11, 12, 13, 56, 57, 58, 59, 60, 1, 61, 62, 63, 64, 65, 66, 67, 68, 69, 70, 71, 72, 73, 74, 75, 76, 77, 78, 79, 80, 81, 82, 83, 84, 85, 86, 87, 88, 89, 90, 91, 92, 93, 94, 95, 96, 97] (by decide +kernel) (by decide +kernel)
set_option maxRecDepth 20000 in
theorem gX4_needed_X4_soonestFrom : GoodIn wsX4_needed (wsV RX4 179 RX4 yX4_soonestFrom wsX4_soonestFrom) := goodIn_app (goodIn_of _ (by decide +kernel)) ggX4_needed_X4_soonestFrom
set_option maxHeartbeats 4000000 in
set_option maxRecDepth 100000 in
theorem mX4_needed (l : Launch) (dC : Nat → ClassId) (dI : Nat → Nat → Nat) (cI cC : ClassId) (sk : (Nat → Nat) × (Nat → Nat)) (f : Nat → Nat) (sz : Nat) (p1 : Int32) (p2 : Int32) (c_r : RT) (c_refused : AR) (c_tape : AR) (c_letter : AR) (c_letterAt : AR) (c_number : AR) (c_taped : Int32) (c_at : Int32) (c_statements : Int32) (c_kept : AR) (c_hasImage : Int32) (c_isKeeping : Int32) (c_cursor : Int32) (c_poled : Int32) (c_barred : Int32) (c_leapsTo : AR) (c_leapsThen : AR) (c_lands : AR) (c_row : AR) (c_rowMany : Int32) (c_endsAt : Int32) (z : Int32 × AR × Int32) (h : fX4_needed p1 p2 c_r c_refused c_poled c_barred = some z) : cRW l yX4_needed wsX4_needed (RMk 6 143) sk (dC, dI) (tyz cI cC) sz (zwM cI cC f c_r c_refused c_tape c_letter c_letterAt c_number c_taped c_at c_statements c_kept c_hasImage c_isKeeping c_cursor c_poled c_barred c_leapsTo c_leapsThen c_lands c_row c_rowMany c_endsAt) (zwM cI cC f c_r z.2.1 c_tape c_letter c_letterAt c_number c_taped c_at c_statements c_kept c_hasImage c_isKeeping c_cursor c_poled z.2.2 c_leapsTo c_leapsThen c_lands c_row c_rowMany c_endsAt) [.ref (f 0), .int p1, .int p2] z.1 := by
  refine ofRW (cc := cX4_needed) (maxL := 6) (ret := (some .int)) (own := RX4) (plainFor_of_name (by decide)) rfl rfl (Nat.le_of_ble_eq_true rfl) ?_
  intro p e s m args below meth c A hA hx hb hml hr hts hown hlocks hE hK hP hD hS ls hl
  generalize hQ : qRW _ _ _ _ _ _ _ = Q
  have hl : lv_has ls 6 [(0, .ref (f 0)), (1, .int p1), (2, .int p2)] := hl
  have hiX4 : ∀ w ∈ wsX40, w ∈ wsX4_needed := fun w h => List.mem_cons_of_mem _ (List.mem_append_right _ h)
  have hw1 := hts (Cond.fieldLink RX4 101 "FloeToFloeModel" "minute" "I") (List.mem_of_getElem? (i := 1) rfl)
  have hw2 := hts (Cond.fieldLink RX4 59 "FloeToFloeModel" "floes" "I") (List.mem_of_getElem? (i := 2) rfl)
  have hw3 := hts (Cond.fieldLink RX4 157 "FloeToFloeModel" "barred" "I") (List.mem_of_getElem? (i := 3) rfl)
  rw [fX4_needed] at h
  refine lv_iload_n hx hb dX4_needed_0 rfl (lv_at hl 1 rfl) ?_
  refine lv_iload_n hx hb dX4_needed_1 rfl (lv_at hl 2 rfl) ?_
  obtain ⟨q2, e2, h⟩ := bd_some h
  refine g_roS (wc := ([] : va_W)) ⟨hx, hb, hml, hown, hts⟩ hE hK hP hS [] rfl (mX4_notLoad l dC dI cI cC sk  p1 p2 q2 e2) (va_cwS 2 hts gX4_needed_X4_notLoad rfl rfl rfl (by decide +kernel) ⟨Nat.le_of_ble_eq_true rfl, Nat.le_of_ble_eq_true rfl⟩) (As := [.int p1, .int p2]) (rest := []) rfl hl.1 rfl (Nat.le_of_ble_eq_true rfl) dX4_needed_2 ⟨Nat.zero_le _, Nat.zero_le _⟩ (fun H locs hP hS => ?_)
  refine lv_istore_n (lv' := [(3, .int q2), (0, .ref (f 0)), (1, .int p1), (2, .int p2)]) hx hb dX4_needed_5 rfl hl (by decide) rfl (fun ls hl => ?_)
  refine lv_iload_n hx hb dX4_needed_6 rfl (lv_at hl 0 rfl) ?_
  refine lv_if_eq (tgt := 16) hx hb dX4_needed_7 (by decide) (fun c7 => ?_) (fun c7 => ?_)
  · have h := itT c7 h
    refine lv_aload_n hx hb dX4_needed_16 rfl (lv_at hl 1 rfl) ?_
    refine lv_iload_n hx hb dX4_needed_17 rfl (lv_at hl 2 rfl) ?_
    refine lv_iload_n hx hb dX4_needed_18 rfl (lv_at hl 3 rfl) ?_
    refine lv_aload_n hx hb dX4_needed_19 rfl (lv_at hl 1 rfl) ?_
    refine va_get (D := (dC, dI)) (ci := 4) (v := .int (R_minute c_r)) (C := RX4) (T := TX4) (N := 28) hx hb hts hiX4 hown hK hP 0 rfl rfl 8 (by decide) hw1 (fun _ h9 => h9) rfl dX4_needed_20 ?_
    obtain ⟨q23, e23, h⟩ := bd_some h
    refine g_roV (wc := (zwM cI cC f c_r c_refused c_tape c_letter c_letterAt c_number c_taped c_at c_statements c_kept c_hasImage c_isKeeping c_cursor c_poled c_barred c_leapsTo c_leapsThen c_lands c_row c_rowMany c_endsAt)) ⟨hx, hb, hml, hown, hts⟩ hE hK hP hS [0, 1, 2, 3, 4, 5, 6, 7, 8, 9, 10, 11, 12, 13, 14, 15] rfl (mX4_soonestFrom l dC dI cI cC sk f p1 p2 (R_minute c_r) c_r c_refused c_tape c_letter c_letterAt c_number c_taped c_at c_statements c_kept c_hasImage c_isKeeping c_cursor c_poled c_barred c_leapsTo c_leapsThen c_lands c_row c_rowMany c_endsAt q23 e23) (cwV 3 hts gX4_needed_X4_soonestFrom rfl rfl rfl (by decide +kernel) ⟨Nat.le_of_ble_eq_true rfl, Nat.le_of_ble_eq_true rfl⟩) (va_recv hK hP (ci := 4) (q0 := 0) rfl rfl) (As := [.int p1, .int p2, .int (R_minute c_r)]) (rest := []) rfl hl.1 rfl (Nat.le_of_ble_eq_true rfl) dX4_needed_23 ⟨Nat.zero_le _, Nat.zero_le _⟩ (fun H locs hP hS => ?_)
    refine lv_if_ge (tgt := 31) hx hb dX4_needed_26 (by decide) (fun c26 => ?_) (fun c26 => ?_)
    · have h := itT c26 h
      refine lv_iconst (v := (0 : Int32)) hx hb dX4_needed_31 (by decide) ?_
      refine lv_istore (lv' := [(4, .int (0 : Int32)), (3, .int q2), (0, .ref (f 0)), (1, .int p1), (2, .int p2)]) hx hb dX4_needed_32 hl (by decide) rfl (fun ls hl => ?_)
      refine lv_iconst (v := (0 : Int32)) hx hb dX4_needed_34 (by decide) ?_
      refine lv_istore (lv' := [(5, .int (0 : Int32)), (4, .int (0 : Int32)), (3, .int q2), (0, .ref (f 0)), (1, .int p1), (2, .int p2)]) hx hb dX4_needed_35 hl (by decide) rfl (fun ls hl => ?_)
      have L37 : ∀ (K37 : Int32 → Int32 → Option (Int32 × AR × Int32)), (∀ (k37_4 : Int32) (k37_barred : Int32), K37 k37_4 k37_barred = some z → ∀ (H : Heap) (locs : List Loc) (ls : Array Slot), va_P (dC, dI) vwCl (zwM cI cC f c_r c_refused c_tape c_letter c_letterAt c_number c_taped c_at c_statements c_kept c_hasImage c_isKeeping c_cursor c_poled k37_barred c_leapsTo c_leapsThen c_lands c_row c_rowMany c_endsAt) H → va_D A (zwM cI cC f c_r c_refused c_tape c_letter c_letterAt c_number c_taped c_at c_statements c_kept c_hasImage c_isKeeping c_cursor c_poled k37_barred c_leapsTo c_leapsThen c_lands c_row c_rowMany c_endsAt) → va_S A s.heap H locs → lv_has ls 6 [(0, .ref (f 0)), (4, .int k37_4)] → W p l e (RMk 6 143) s m args below meth c H locs 0 0 Q (F0 m 86 ls [])) → ∀ (n : Nat) (x37_4 : Int32) (x37_5 : Int32) (x37_barred : Int32), fX4_needed_L37 c_poled c_r p1 p2 K37 n x37_4 x37_5 x37_barred = some z → ∀ (H : Heap) (locs : List Loc) (ls : Array Slot), va_P (dC, dI) vwCl (zwM cI cC f c_r c_refused c_tape c_letter c_letterAt c_number c_taped c_at c_statements c_kept c_hasImage c_isKeeping c_cursor c_poled x37_barred c_leapsTo c_leapsThen c_lands c_row c_rowMany c_endsAt) H → va_D A (zwM cI cC f c_r c_refused c_tape c_letter c_letterAt c_number c_taped c_at c_statements c_kept c_hasImage c_isKeeping c_cursor c_poled x37_barred c_leapsTo c_leapsThen c_lands c_row c_rowMany c_endsAt) → va_S A s.heap H locs → lv_has ls 6 [(0, .ref (f 0)), (1, .int p1), (2, .int p2), (4, .int x37_4), (5, .int x37_5)] → W p l e (RMk 6 143) s m args below meth c H locs 0 0 Q (F0 m 37 ls []) := by
        intro K37 kx37 n
        induction n with
        | zero => intro x37_4 x37_5 x37_barred h; rw [fX4_needed_L37] at h; cases h
        | succ n ih37 =>
          intro x37_4 x37_5 x37_barred h H locs ls hP hD hS hl
          rw [fX4_needed_L37] at h
          refine lv_iload hx hb dX4_needed_37 (lv_at hl 4 rfl) ?_
          refine lv_aload_n hx hb dX4_needed_39 rfl (lv_at hl 0 rfl) ?_
          refine va_get (D := (dC, dI)) (ci := 4) (v := .int (R_floes c_r)) (C := RX4) (T := TX4) (N := 28) hx hb hts hiX4 hown hK hP 0 rfl rfl 6 (by decide) hw2 (fun _ h9 => h9) rfl dX4_needed_40 ?_
          refine lv_icmp_ge (tgt := 86) hx hb dX4_needed_43 (by decide) (fun c43 => ?_) (fun c43 => ?_)
          · have h := itT c43 h
            exact kx37 _ _ h _ _ _ hP hD hS (lv_sub hl [0, 3] rfl)
          have h := itF c43 h
          refine lv_aload_n hx hb dX4_needed_46 rfl (lv_at hl 0 rfl) ?_
          refine lv_iconst (v := (1 : Int32)) hx hb dX4_needed_47 (by decide) ?_
          refine lv_iload hx hb dX4_needed_48 (lv_at hl 4 rfl) ?_
          refine lv_ishl hx hb dX4_needed_50 ?_
          refine va_put (D := (dC, dI)) (ci := 4) (v := .int ((1 : Int32) <<< (x37_5 &&& 31))) (ty := .int) (C := RX4) (T := TX4) (N := 28) hx hb hts hiX4 tyX4 tyX4_ok nmX4 hown hK hP hD hS 0 rfl rfl 21 (by decide) hw3 (fun _ h9 => h9) rfl (by decide +kernel) rfl rfl (Nat.le_of_ble_eq_true rfl) dX4_needed_51 (fun H locs hP hD hS => ?_)
          have hP : va_P (dC, dI) vwCl (zwM cI cC f c_r c_refused c_tape c_letter c_letterAt c_number c_taped c_at c_statements c_kept c_hasImage c_isKeeping c_cursor c_poled ((1 : Int32) <<< (x37_5 &&& 31)) c_leapsTo c_leapsThen c_lands c_row c_rowMany c_endsAt) H := hP
          have hD : va_D A (zwM cI cC f c_r c_refused c_tape c_letter c_letterAt c_number c_taped c_at c_statements c_kept c_hasImage c_isKeeping c_cursor c_poled ((1 : Int32) <<< (x37_5 &&& 31)) c_leapsTo c_leapsThen c_lands c_row c_rowMany c_endsAt) := hD
          refine lv_iload hx hb dX4_needed_54 (lv_at hl 3 rfl) ?_
          refine lv_aload_n hx hb dX4_needed_56 rfl (lv_at hl 0 rfl) ?_
          refine lv_iload_n hx hb dX4_needed_57 rfl (lv_at hl 1 rfl) ?_
          refine lv_iload_n hx hb dX4_needed_58 rfl (lv_at hl 2 rfl) ?_
          refine lv_aload_n hx hb dX4_needed_59 rfl (lv_at hl 0 rfl) ?_
          refine va_get (D := (dC, dI)) (ci := 4) (v := .int (R_minute c_r)) (C := RX4) (T := TX4) (N := 28) hx hb hts hiX4 hown hK hP 0 rfl rfl 8 (by decide) hw1 (fun _ h9 => h9) rfl dX4_needed_60 ?_
          obtain ⟨q63, e63, h⟩ := bd_some h
          refine g_roV (wc := (zwM cI cC f c_r c_refused c_tape c_letter c_letterAt c_number c_taped c_at c_statements c_kept c_hasImage c_isKeeping c_cursor c_poled ((1 : Int32) <<< (x37_5 &&& 31)) c_leapsTo c_leapsThen c_lands c_row c_rowMany c_endsAt)) ⟨hx, hb, hml, hown, hts⟩ hE hK hP hS [0, 1, 2, 3, 4, 5, 6, 7, 8, 9, 10, 11, 12, 13, 14, 15] rfl (mX4_soonestFrom l dC dI cI cC sk f p1 p2 (R_minute c_r) c_r c_refused c_tape c_letter c_letterAt c_number c_taped c_at c_statements c_kept c_hasImage c_isKeeping c_cursor c_poled ((1 : Int32) <<< (x37_5 &&& 31)) c_leapsTo c_leapsThen c_lands c_row c_rowMany c_endsAt q63 e63) (cwV 3 hts gX4_needed_X4_soonestFrom rfl rfl rfl (by decide +kernel) ⟨Nat.le_of_ble_eq_true rfl, Nat.le_of_ble_eq_true rfl⟩) (va_recv hK hP (ci := 4) (q0 := 0) rfl rfl) (As := [.int p1, .int p2, .int (R_minute c_r)]) (rest := [.int x37_4]) rfl hl.1 rfl (Nat.le_of_ble_eq_true rfl) dX4_needed_63 ⟨Nat.zero_le _, Nat.zero_le _⟩ (fun H locs hP hS => ?_)
          refine lv_if_ge (tgt := 76) hx hb dX4_needed_66 (by decide) (fun c66 => ?_) (fun c66 => ?_)
          · have h := itT c66 h
            refine lv_iconst (v := (0 : Int32)) hx hb dX4_needed_76 (by decide) ?_
            refine lv_ior hx hb dX4_needed_77 ?_
            refine lv_istore (lv' := [(4, .int (x37_4 ||| (0 : Int32))), (0, .ref (f 0)), (1, .int p1), (2, .int p2), (5, .int x37_5)]) hx hb dX4_needed_78 hl (by decide) rfl (fun ls hl => ?_)
            refine lv_iinc (v := (x37_5 + (1 : Int32))) (lv' := [(5, .int (x37_5 + (1 : Int32))), (4, .int (x37_4 ||| (0 : Int32))), (0, .ref (f 0)), (1, .int p1), (2, .int p2)]) hx hb dX4_needed_80 hl (k := 4) rfl rfl (by decide) rfl (fun ls hl => ?_)
            refine lv_goto (tgt := 37) hx hb dX4_needed_83 (by decide) ?_
            exact ih37 _ _ _ h _ _ _ hP hD hS (lv_sub hl [2, 3, 4, 1, 0] rfl)
          have h := itF c66 h
          refine lv_iconst (v := (1 : Int32)) hx hb dX4_needed_69 (by decide) ?_
          refine lv_iload hx hb dX4_needed_70 (lv_at hl 4 rfl) ?_
          refine lv_ishl hx hb dX4_needed_72 ?_
          refine lv_goto (tgt := 77) hx hb dX4_needed_73 (by decide) ?_
          refine lv_ior hx hb dX4_needed_77 ?_
          refine lv_istore (lv' := [(4, .int (x37_4 ||| ((1 : Int32) <<< (x37_5 &&& 31)))), (0, .ref (f 0)), (1, .int p1), (2, .int p2), (5, .int x37_5)]) hx hb dX4_needed_78 hl (by decide) rfl (fun ls hl => ?_)
          refine lv_iinc (v := (x37_5 + (1 : Int32))) (lv' := [(5, .int (x37_5 + (1 : Int32))), (4, .int (x37_4 ||| ((1 : Int32) <<< (x37_5 &&& 31)))), (0, .ref (f 0)), (1, .int p1), (2, .int p2)]) hx hb dX4_needed_80 hl (k := 4) rfl rfl (by decide) rfl (fun ls hl => ?_)
          refine lv_goto (tgt := 37) hx hb dX4_needed_83 (by decide) ?_
          exact ih37 _ _ _ h _ _ _ hP hD hS (lv_sub hl [2, 3, 4, 1, 0] rfl)
      refine L37 _ (fun k37_4 k37_barred h H locs ls hP hD hS hl => ?_) _ _ _ _ h _ _ _ hP hD hS (lv_sub hl [3, 4, 5, 1, 0] rfl)
      refine lv_aload_n hx hb dX4_needed_86 rfl (lv_at hl 0 rfl) ?_
      refine lv_iconst (v := (0 : Int32)) hx hb dX4_needed_87 (by decide) ?_
      refine va_put (D := (dC, dI)) (ci := 4) (v := .int (0 : Int32)) (ty := .int) (C := RX4) (T := TX4) (N := 28) hx hb hts hiX4 tyX4 tyX4_ok nmX4 hown hK hP hD hS 0 rfl rfl 21 (by decide) hw3 (fun _ h9 => h9) rfl (by decide +kernel) rfl rfl (Nat.le_of_ble_eq_true rfl) dX4_needed_88 (fun H locs hP hD hS => ?_)
      have hP : va_P (dC, dI) vwCl (zwM cI cC f c_r c_refused c_tape c_letter c_letterAt c_number c_taped c_at c_statements c_kept c_hasImage c_isKeeping c_cursor c_poled (0 : Int32) c_leapsTo c_leapsThen c_lands c_row c_rowMany c_endsAt) H := hP
      have hD : va_D A (zwM cI cC f c_r c_refused c_tape c_letter c_letterAt c_number c_taped c_at c_statements c_kept c_hasImage c_isKeeping c_cursor c_poled (0 : Int32) c_leapsTo c_leapsThen c_lands c_row c_rowMany c_endsAt) := hD
      refine lv_iload hx hb dX4_needed_91 (lv_at hl 1 rfl) ?_
      subst hQ
      exact retRW (zz := ((k37_4, c_refused, (0 : Int32)) : Int32 × AR × Int32)) (fun z => z.1) (fun z => (zwM cI cC f c_r z.2.1 c_tape c_letter c_letterAt c_number c_taped c_at c_statements c_kept c_hasImage c_isKeeping c_cursor c_poled z.2.2 c_leapsTo c_leapsThen c_lands c_row c_rowMany c_endsAt)) hx hb hr hlocks rfl hS h rfl hP dX4_needed_93
    have h := itF c26 h
    refine lv_iconst (v := (0 : Int32)) hx hb dX4_needed_29 (by decide) ?_
    subst hQ
    exact retRW (zz := (((0 : Int32), c_refused, c_barred) : Int32 × AR × Int32)) (fun z => z.1) (fun z => (zwM cI cC f c_r z.2.1 c_tape c_letter c_letterAt c_number c_taped c_at c_statements c_kept c_hasImage c_isKeeping c_cursor c_poled z.2.2 c_leapsTo c_leapsThen c_lands c_row c_rowMany c_endsAt)) hx hb hr hlocks rfl hS h rfl hP dX4_needed_30
  have h := itF c7 h
  refine lv_aload_n hx hb dX4_needed_10 rfl (lv_at hl 1 rfl) ?_
  refine lv_iload_n hx hb dX4_needed_11 rfl (lv_at hl 0 rfl) ?_
  obtain ⟨q12, e12, h⟩ := bd_some h
  refine g_rwA (wc := (zwM cI cC f c_r c_refused c_tape c_letter c_letterAt c_number c_taped c_at c_statements c_kept c_hasImage c_isKeeping c_cursor c_poled c_barred c_leapsTo c_leapsThen c_lands c_row c_rowMany c_endsAt)) (wc' := (zwM cI cC f c_r q12.2 c_tape c_letter c_letterAt c_number c_taped c_at c_statements c_kept c_hasImage c_isKeeping c_cursor c_poled c_barred c_leapsTo c_leapsThen c_lands c_row c_rowMany c_endsAt)) ⟨hx, hb, hml, hown, hts⟩ hE hK hA hP hD hS rfl (mX4_no l dC dI cI cC sk f H.size q2 c_r c_refused c_tape c_letter c_letterAt c_number c_taped c_at c_statements c_kept c_hasImage c_isKeeping c_cursor c_poled c_barred c_leapsTo c_leapsThen c_lands c_row c_rowMany c_endsAt q12 e12) (cwV 1 hts gX4_needed_X4_no rfl rfl rfl (by decide +kernel) ⟨Nat.le_of_ble_eq_true rfl, Nat.le_of_ble_eq_true rfl⟩) (va_recv hK hP (ci := 4) (q0 := 0) rfl rfl) (As := [.int q2]) (rest := []) rfl hl.1 rfl (Nat.le_of_ble_eq_true rfl) dX4_needed_12 ⟨Nat.zero_le _, Nat.zero_le _⟩ (fun H locs hP hD hS => ?_)
  have hP : va_P (dC, dI) vwCl (zwM cI cC f c_r q12.2 c_tape c_letter c_letterAt c_number c_taped c_at c_statements c_kept c_hasImage c_isKeeping c_cursor c_poled c_barred c_leapsTo c_leapsThen c_lands c_row c_rowMany c_endsAt) H := hP
  have hD : va_D A (zwM cI cC f c_r q12.2 c_tape c_letter c_letterAt c_number c_taped c_at c_statements c_kept c_hasImage c_isKeeping c_cursor c_poled c_barred c_leapsTo c_leapsThen c_lands c_row c_rowMany c_endsAt) := hD
  subst hQ
  exact retRW (zz := ((q12.1, q12.2, c_barred) : Int32 × AR × Int32)) (fun z => z.1) (fun z => (zwM cI cC f c_r z.2.1 c_tape c_letter c_letterAt c_number c_taped c_at c_statements c_kept c_hasImage c_isKeeping c_cursor c_poled z.2.2 c_leapsTo c_leapsThen c_lands c_row c_rowMany c_endsAt)) hx hb hr hlocks rfl hS h rfl hP dX4_needed_15
