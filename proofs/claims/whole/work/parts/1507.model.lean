theorem dX4_comes_0 : decode cX4_comes 0 = .ok (.iconst 5, 1) := by decide +kernel
theorem dX4_comes_1 : decode cX4_comes 1 = .ok (.iload_n 1, 1) := by decide +kernel
theorem dX4_comes_2 : decode cX4_comes 2 = .ok (.imul, 1) := by decide +kernel
theorem dX4_comes_3 : decode cX4_comes 3 = .ok (.istore_n 2, 1) := by decide +kernel
theorem dX4_comes_4 : decode cX4_comes 4 = .ok (.aload_n 0, 1) := by decide +kernel
theorem dX4_comes_5 : decode cX4_comes 5 = .ok (.getfield 35, 3) := by decide +kernel
theorem dX4_comes_8 : decode cX4_comes 8 = .ok (.iload_n 1, 1) := by decide +kernel
theorem dX4_comes_9 : decode cX4_comes 9 = .ok (.iaload, 1) := by decide +kernel
theorem dX4_comes_10 : decode cX4_comes 10 = .ok (.bipush 102, 2) := by decide +kernel
theorem dX4_comes_12 : decode cX4_comes 12 = .ok (.if_icmp .ne 9, 3) := by decide +kernel
theorem dX4_comes_15 : decode cX4_comes 15 = .ok (.aload_n 0, 1) := by decide +kernel
theorem dX4_comes_16 : decode cX4_comes 16 = .ok (.iload_n 2, 1) := by decide +kernel
theorem dX4_comes_17 : decode cX4_comes 17 = .ok (.invokevirtual 98, 3) := by decide +kernel
theorem dX4_comes_20 : decode cX4_comes 20 = .ok (.ireturn, 1) := by decide +kernel
theorem dX4_comes_21 : decode cX4_comes 21 = .ok (.aload_n 0, 1) := by decide +kernel
theorem dX4_comes_22 : decode cX4_comes 22 = .ok (.getfield 35, 3) := by decide +kernel
theorem dX4_comes_25 : decode cX4_comes 25 = .ok (.iload_n 1, 1) := by decide +kernel
theorem dX4_comes_26 : decode cX4_comes 26 = .ok (.iaload, 1) := by decide +kernel
theorem dX4_comes_27 : decode cX4_comes 27 = .ok (.bipush 109, 2) := by decide +kernel
theorem dX4_comes_29 : decode cX4_comes 29 = .ok (.if_icmp .ne 30, 3) := by decide +kernel
theorem dX4_comes_32 : decode cX4_comes 32 = .ok (.aload_n 0, 1) := by decide +kernel
theorem dX4_comes_33 : decode cX4_comes 33 = .ok (.aload_n 0, 1) := by decide +kernel
theorem dX4_comes_34 : decode cX4_comes 34 = .ok (.getfield 41, 3) := by decide +kernel
theorem dX4_comes_37 : decode cX4_comes 37 = .ok (.iload_n 2, 1) := by decide +kernel
theorem dX4_comes_38 : decode cX4_comes 38 = .ok (.iaload, 1) := by decide +kernel
theorem dX4_comes_39 : decode cX4_comes 39 = .ok (.putfield 101, 3) := by decide +kernel
theorem dX4_comes_42 : decode cX4_comes 42 = .ok (.aload_n 0, 1) := by decide +kernel
theorem dX4_comes_43 : decode cX4_comes 43 = .ok (.getfield 41, 3) := by decide +kernel
theorem dX4_comes_46 : decode cX4_comes 46 = .ok (.iload_n 2, 1) := by decide +kernel
theorem dX4_comes_47 : decode cX4_comes 47 = .ok (.iaload, 1) := by decide +kernel
theorem dX4_comes_48 : decode cX4_comes 48 = .ok (.bipush 60, 2) := by decide +kernel
theorem dX4_comes_50 : decode cX4_comes 50 = .ok (.if_icmp .gt 7, 3) := by decide +kernel
theorem dX4_comes_53 : decode cX4_comes 53 = .ok (.iconst 1, 1) := by decide +kernel
theorem dX4_comes_54 : decode cX4_comes 54 = .ok (.goto 4, 3) := by decide +kernel
theorem dX4_comes_57 : decode cX4_comes 57 = .ok (.iconst 0, 1) := by decide +kernel
theorem dX4_comes_58 : decode cX4_comes 58 = .ok (.ireturn, 1) := by decide +kernel
theorem dX4_comes_59 : decode cX4_comes 59 = .ok (.aload_n 0, 1) := by decide +kernel
theorem dX4_comes_60 : decode cX4_comes 60 = .ok (.aload_n 0, 1) := by decide +kernel
theorem dX4_comes_61 : decode cX4_comes 61 = .ok (.getfield 41, 3) := by decide +kernel
theorem dX4_comes_64 : decode cX4_comes 64 = .ok (.iload_n 2, 1) := by decide +kernel
theorem dX4_comes_65 : decode cX4_comes 65 = .ok (.iaload, 1) := by decide +kernel
theorem dX4_comes_66 : decode cX4_comes 66 = .ok (.putfield 28, 3) := by decide +kernel
theorem dX4_comes_69 : decode cX4_comes 69 = .ok (.aload_n 0, 1) := by decide +kernel
theorem dX4_comes_70 : decode cX4_comes 70 = .ok (.getfield 28, 3) := by decide +kernel
theorem dX4_comes_73 : decode cX4_comes 73 = .ok (.iconst 1, 1) := by decide +kernel
theorem dX4_comes_74 : decode cX4_comes 74 = .ok (.iconst 5, 1) := by decide +kernel
theorem dX4_comes_75 : decode cX4_comes 75 = .ok (.invokestatic 62, 3) := by decide +kernel
theorem dX4_comes_78 : decode cX4_comes 78 = .ok (.istore_n 3, 1) := by decide +kernel
theorem dX4_comes_79 : decode cX4_comes 79 = .ok (.iconst 0, 1) := by decide +kernel
theorem dX4_comes_80 : decode cX4_comes 80 = .ok (.istore 4, 2) := by decide +kernel
theorem dX4_comes_82 : decode cX4_comes 82 = .ok (.iload 4, 2) := by decide +kernel
theorem dX4_comes_84 : decode cX4_comes 84 = .ok (.aload_n 0, 1) := by decide +kernel
theorem dX4_comes_85 : decode cX4_comes 85 = .ok (.getfield 59, 3) := by decide +kernel
theorem dX4_comes_88 : decode cX4_comes 88 = .ok (.if_icmp .ge 33, 3) := by decide +kernel
theorem dX4_comes_91 : decode cX4_comes 91 = .ok (.iload_n 3, 1) := by decide +kernel
theorem dX4_comes_92 : decode cX4_comes 92 = .ok (.ifCond .eq 21, 3) := by decide +kernel
theorem dX4_comes_95 : decode cX4_comes 95 = .ok (.aload_n 0, 1) := by decide +kernel
theorem dX4_comes_96 : decode cX4_comes 96 = .ok (.getfield 16, 3) := by decide +kernel
theorem dX4_comes_99 : decode cX4_comes 99 = .ok (.iload 4, 2) := by decide +kernel
theorem dX4_comes_101 : decode cX4_comes 101 = .ok (.iaload, 1) := by decide +kernel
theorem dX4_comes_102 : decode cX4_comes 102 = .ok (.aload_n 0, 1) := by decide +kernel
theorem dX4_comes_103 : decode cX4_comes 103 = .ok (.getfield 28, 3) := by decide +kernel
theorem dX4_comes_106 : decode cX4_comes 106 = .ok (.if_icmp .ge 7, 3) := by decide +kernel
theorem dX4_comes_109 : decode cX4_comes 109 = .ok (.iconst 1, 1) := by decide +kernel
theorem dX4_comes_110 : decode cX4_comes 110 = .ok (.goto 4, 3) := by decide +kernel
theorem dX4_comes_113 : decode cX4_comes 113 = .ok (.iconst 0, 1) := by decide +kernel
theorem dX4_comes_114 : decode cX4_comes 114 = .ok (.istore_n 3, 1) := by decide +kernel
theorem dX4_comes_115 : decode cX4_comes 115 = .ok (.iinc 4 1, 3) := by decide +kernel
theorem dX4_comes_118 : decode cX4_comes 118 = .ok (.goto (-36), 3) := by decide +kernel
theorem dX4_comes_121 : decode cX4_comes 121 = .ok (.iload_n 3, 1) := by decide +kernel
theorem dX4_comes_122 : decode cX4_comes 122 = .ok (.ireturn, 1) := by decide +kernel
set_option maxRecDepth 20000 in
theorem ggX4_comes_X4_comesFloe : GoodIn wsX4_comes wsX4_comesFloe := goodIn_r _ [11, 5, 2, 4, 12, 6, 13, 14, 15, 16, 17, 10, 18, 19, 20, 21, 22, 23, 24, 25, 26, 27, 28, 29, 30, 31, 32, 33, 34, 35, 36, 37, 38, 39, 40, 41, 42, 43, 44, 45, 46] (by decide +kernel) (by decide +kernel)
set_option maxRecDepth 20000 in
theorem gX4_comes_X4_comesFloe : GoodIn wsX4_comes (wsV RX4 98 RX4 yX4_comesFloe wsX4_comesFloe) := goodIn_app (goodIn_of _ (by decide +kernel)) ggX4_comes_X4_comesFloe
set_option maxRecDepth 20000 in
theorem ggX4_comes_X4_isIn : GoodIn wsX4_comes wsX4_isIn := goodIn_r _ [18] (by decide +kernel) (by decide +kernel)
set_option maxRecDepth 20000 in
theorem gX4_comes_X4_isIn : GoodIn wsX4_comes (va_wsS RX4 62 yX4_isIn wsX4_isIn) := goodIn_app (goodIn_of _ (by decide +kernel)) ggX4_comes_X4_isIn
set_option maxHeartbeats 4000000 in
set_option maxRecDepth 100000 in
theorem mX4_comes (l : Launch) (dC : Nat → ClassId) (dI : Nat → Nat → Nat) (cI cC : ClassId) (sk : (Nat → Nat) × (Nat → Nat)) (f : Nat → Nat) (sz : Nat) (p1 : Int32) (c_r : RT) (c_refused : AR) (c_tape : AR) (c_letter : AR) (c_letterAt : AR) (c_number : AR) (c_taped : Int32) (c_at : Int32) (c_statements : Int32) (c_kept : AR) (c_hasImage : Int32) (c_isKeeping : Int32) (c_cursor : Int32) (c_poled : Int32) (c_barred : Int32) (c_leapsTo : AR) (c_leapsThen : AR) (c_lands : AR) (c_row : AR) (c_rowMany : Int32) (c_endsAt : Int32) (z : Int32 × RT) (h : fX4_comes p1 c_r c_letter c_number = some z) : cRW l yX4_comes wsX4_comes (RMk 2 43) sk (dC, dI) (tyz cI cC) sz (zwM cI cC f c_r c_refused c_tape c_letter c_letterAt c_number c_taped c_at c_statements c_kept c_hasImage c_isKeeping c_cursor c_poled c_barred c_leapsTo c_leapsThen c_lands c_row c_rowMany c_endsAt) (zwM cI cC f z.2 c_refused c_tape c_letter c_letterAt c_number c_taped c_at c_statements c_kept c_hasImage c_isKeeping c_cursor c_poled c_barred c_leapsTo c_leapsThen c_lands c_row c_rowMany c_endsAt) [.ref (f 0), .int p1] z.1 := by
  refine ofRW (cc := cX4_comes) (maxL := 5) (ret := (some .boolean)) (own := RX4) (plainFor_of_name (by decide)) rfl rfl (Nat.le_of_ble_eq_true rfl) ?_
  intro p e s m args below meth c A hA hx hb hml hr hts hown hlocks hE hK hP hD hS ls hl
  generalize hQ : qRW _ _ _ _ _ _ _ = Q
  have hl : lv_has ls 5 [(0, .ref (f 0)), (1, .int p1)] := hl
  have hiX4 : ∀ w ∈ wsX40, w ∈ wsX4_comes := fun w h => List.mem_cons_of_mem _ (List.mem_append_right _ h)
  have hw1 := hts (Cond.fieldLink RX4 35 "FloeToFloeModel" "letter" "[I") (List.mem_of_getElem? (i := 1) rfl)
  have hw2 := hts (Cond.fieldLink RX4 41 "FloeToFloeModel" "number" "[I") (List.mem_of_getElem? (i := 2) rfl)
  have hw4 := hts (Cond.fieldLink RX4 28 "FloeToFloeModel" "lanes" "I") (List.mem_of_getElem? (i := 4) rfl)
  have hw5 := hts (Cond.fieldLink RX4 59 "FloeToFloeModel" "floes" "I") (List.mem_of_getElem? (i := 5) rfl)
  have hw6 := hts (Cond.fieldLink RX4 16 "FloeToFloeModel" "laneOf" "[I") (List.mem_of_getElem? (i := 6) rfl)
  have hw3 := hts (Cond.fieldLink RX4 101 "FloeToFloeModel" "minute" "I") (List.mem_of_getElem? (i := 3) rfl)
  rw [fX4_comes] at h
  refine lv_iconst (v := (5 : Int32)) hx hb dX4_comes_0 (by decide) ?_
  refine lv_iload_n hx hb dX4_comes_1 rfl (lv_at hl 1 rfl) ?_
  refine lv_imul hx hb dX4_comes_2 ?_
  refine lv_istore_n (lv' := [(2, .int ((5 : Int32) * p1)), (0, .ref (f 0)), (1, .int p1)]) hx hb dX4_comes_3 rfl hl (by decide) rfl (fun ls hl => ?_)
  refine lv_aload_n hx hb dX4_comes_4 rfl (lv_at hl 1 rfl) ?_
  refine va_get (D := (dC, dI)) (ci := 4) (v := .ref (f 8)) (C := RX4) (T := TX4) (N := 28) hx hb hts hiX4 hown hK hP 0 rfl rfl 10 (by decide) hw1 (fun _ h9 => h9) rfl dX4_comes_5 ?_
  refine lv_iload_n hx hb dX4_comes_8 rfl (lv_at hl 2 rfl) ?_
  obtain ⟨hin, h⟩ := ck_some h
  refine va_iald hx hb hK hP 8 0 rfl rfl hin dX4_comes_9 ?_
  refine lv_bipush (v := (102 : Int32)) hx hb dX4_comes_10 (by decide) ?_
  refine lv_icmp_ne (tgt := 21) hx hb dX4_comes_12 (by decide) (fun c12 => ?_) (fun c12 => ?_)
  · have h := itF c12 h
    refine lv_aload_n hx hb dX4_comes_21 rfl (lv_at hl 1 rfl) ?_
    refine va_get (D := (dC, dI)) (ci := 4) (v := .ref (f 8)) (C := RX4) (T := TX4) (N := 28) hx hb hts hiX4 hown hK hP 0 rfl rfl 10 (by decide) hw1 (fun _ h9 => h9) rfl dX4_comes_22 ?_
    refine lv_iload_n hx hb dX4_comes_25 rfl (lv_at hl 2 rfl) ?_
    obtain ⟨hin, h⟩ := ck_some h
    refine va_iald hx hb hK hP 8 0 rfl rfl hin dX4_comes_26 ?_
    refine lv_bipush (v := (109 : Int32)) hx hb dX4_comes_27 (by decide) ?_
    refine lv_icmp_ne (tgt := 59) hx hb dX4_comes_29 (by decide) (fun c29 => ?_) (fun c29 => ?_)
    · have h := itF c29 h
      refine lv_aload_n hx hb dX4_comes_59 rfl (lv_at hl 1 rfl) ?_
      refine lv_aload_n hx hb dX4_comes_60 rfl (lv_at hl 1 rfl) ?_
      refine va_get (D := (dC, dI)) (ci := 4) (v := .ref (f 10)) (C := RX4) (T := TX4) (N := 28) hx hb hts hiX4 hown hK hP 0 rfl rfl 12 (by decide) hw2 (fun _ h9 => h9) rfl dX4_comes_61 ?_
      refine lv_iload_n hx hb dX4_comes_64 rfl (lv_at hl 0 rfl) ?_
      obtain ⟨hin, h⟩ := ck_some h
      refine va_iald hx hb hK hP 10 0 rfl rfl hin dX4_comes_65 ?_
      refine va_put (D := (dC, dI)) (ci := 4) (v := .int (c_number (((5 : Int32) * p1)).toNatClampNeg)) (ty := .int) (C := RX4) (T := TX4) (N := 28) hx hb hts hiX4 tyX4 tyX4_ok nmX4 hown hK hP hD hS 0 rfl rfl 7 (by decide) hw4 (fun _ h9 => h9) rfl (by decide +kernel) rfl rfl (Nat.le_of_ble_eq_true rfl) dX4_comes_66 (fun H locs hP hD hS => ?_)
      have hP : va_P (dC, dI) vwCl (zwM cI cC f (R_setLanes c_r (c_number (((5 : Int32) * p1)).toNatClampNeg)) c_refused c_tape c_letter c_letterAt c_number c_taped c_at c_statements c_kept c_hasImage c_isKeeping c_cursor c_poled c_barred c_leapsTo c_leapsThen c_lands c_row c_rowMany c_endsAt) H := hP
      have hD : va_D A (zwM cI cC f (R_setLanes c_r (c_number (((5 : Int32) * p1)).toNatClampNeg)) c_refused c_tape c_letter c_letterAt c_number c_taped c_at c_statements c_kept c_hasImage c_isKeeping c_cursor c_poled c_barred c_leapsTo c_leapsThen c_lands c_row c_rowMany c_endsAt) := hD
      refine lv_aload_n hx hb dX4_comes_69 rfl (lv_at hl 1 rfl) ?_
      refine va_get (D := (dC, dI)) (ci := 4) (v := .int (R_lanes (R_setLanes c_r (c_number (((5 : Int32) * p1)).toNatClampNeg)))) (C := RX4) (T := TX4) (N := 28) hx hb hts hiX4 hown hK hP 0 rfl rfl 7 (by decide) hw4 (fun _ h9 => h9) rfl dX4_comes_70 ?_
      refine lv_iconst (v := (1 : Int32)) hx hb dX4_comes_73 (by decide) ?_
      refine lv_iconst (v := (5 : Int32)) hx hb dX4_comes_74 (by decide) ?_
      obtain ⟨q75, e75, h⟩ := bd_some h
      refine g_roS (wc := ([] : va_W)) ⟨hx, hb, hml, hown, hts⟩ hE hK hP hS [] rfl (mX4_isIn l dC dI cI cC sk  (R_lanes (R_setLanes c_r (c_number (((5 : Int32) * p1)).toNatClampNeg))) (1 : Int32) (5 : Int32) q75 e75) (va_cwS 3 hts gX4_comes_X4_isIn rfl rfl rfl (by decide +kernel) ⟨Nat.le_of_ble_eq_true rfl, Nat.le_of_ble_eq_true rfl⟩) (As := [.int (R_lanes (R_setLanes c_r (c_number (((5 : Int32) * p1)).toNatClampNeg))), .int (1 : Int32), .int (5 : Int32)]) (rest := []) rfl hl.1 rfl (Nat.le_of_ble_eq_true rfl) dX4_comes_75 ⟨Nat.zero_le _, Nat.zero_le _⟩ (fun H locs hP hS => ?_)
      refine lv_istore_n (lv' := [(3, .int q75), (2, .int ((5 : Int32) * p1)), (0, .ref (f 0)), (1, .int p1)]) hx hb dX4_comes_78 rfl hl (by decide) rfl (fun ls hl => ?_)
      refine lv_iconst (v := (0 : Int32)) hx hb dX4_comes_79 (by decide) ?_
      refine lv_istore (lv' := [(4, .int (0 : Int32)), (3, .int q75), (2, .int ((5 : Int32) * p1)), (0, .ref (f 0)), (1, .int p1)]) hx hb dX4_comes_80 hl (by decide) rfl (fun ls hl => ?_)
      have L82 : ∀ (K82 : Int32 → Option (Int32 × RT)), (∀ (k82_3 : Int32), K82 k82_3 = some z → ∀ (H : Heap) (locs : List Loc) (ls : Array Slot), va_P (dC, dI) vwCl (zwM cI cC f (R_setLanes c_r (c_number (((5 : Int32) * p1)).toNatClampNeg)) c_refused c_tape c_letter c_letterAt c_number c_taped c_at c_statements c_kept c_hasImage c_isKeeping c_cursor c_poled c_barred c_leapsTo c_leapsThen c_lands c_row c_rowMany c_endsAt) H → va_D A (zwM cI cC f (R_setLanes c_r (c_number (((5 : Int32) * p1)).toNatClampNeg)) c_refused c_tape c_letter c_letterAt c_number c_taped c_at c_statements c_kept c_hasImage c_isKeeping c_cursor c_poled c_barred c_leapsTo c_leapsThen c_lands c_row c_rowMany c_endsAt) → va_S A s.heap H locs → lv_has ls 5 [(3, .int k82_3)] → W p l e (RMk 2 43) s m args below meth c H locs 0 0 Q (F0 m 121 ls [])) → ∀ (n : Nat) (x82_3 : Int32) (x82_4 : Int32), fX4_comes_L82 c_number c_r p1 K82 n x82_3 x82_4 = some z → ∀ (H : Heap) (locs : List Loc) (ls : Array Slot), va_P (dC, dI) vwCl (zwM cI cC f (R_setLanes c_r (c_number (((5 : Int32) * p1)).toNatClampNeg)) c_refused c_tape c_letter c_letterAt c_number c_taped c_at c_statements c_kept c_hasImage c_isKeeping c_cursor c_poled c_barred c_leapsTo c_leapsThen c_lands c_row c_rowMany c_endsAt) H → va_D A (zwM cI cC f (R_setLanes c_r (c_number (((5 : Int32) * p1)).toNatClampNeg)) c_refused c_tape c_letter c_letterAt c_number c_taped c_at c_statements c_kept c_hasImage c_isKeeping c_cursor c_poled c_barred c_leapsTo c_leapsThen c_lands c_row c_rowMany c_endsAt) → va_S A s.heap H locs → lv_has ls 5 [(0, .ref (f 0)), (3, .int x82_3), (4, .int x82_4)] → W p l e (RMk 2 43) s m args below meth c H locs 0 0 Q (F0 m 82 ls []) := by
        intro K82 kx82 n
        induction n with
        | zero => intro x82_3 x82_4 h; rw [fX4_comes_L82] at h; cases h
        | succ n ih82 =>
          intro x82_3 x82_4 h H locs ls hP hD hS hl
          rw [fX4_comes_L82] at h
          refine lv_iload hx hb dX4_comes_82 (lv_at hl 2 rfl) ?_
          refine lv_aload_n hx hb dX4_comes_84 rfl (lv_at hl 0 rfl) ?_
          refine va_get (D := (dC, dI)) (ci := 4) (v := .int (R_floes (R_setLanes c_r (c_number (((5 : Int32) * p1)).toNatClampNeg)))) (C := RX4) (T := TX4) (N := 28) hx hb hts hiX4 hown hK hP 0 rfl rfl 6 (by decide) hw5 (fun _ h9 => h9) rfl dX4_comes_85 ?_
          refine lv_icmp_ge (tgt := 121) hx hb dX4_comes_88 (by decide) (fun c88 => ?_) (fun c88 => ?_)
          · have h := itT c88 h
            exact kx82 _ h _ _ _ hP hD hS (lv_sub hl [1] rfl)
          have h := itF c88 h
          refine lv_iload_n hx hb dX4_comes_91 rfl (lv_at hl 1 rfl) ?_
          refine lv_if_eq (tgt := 113) hx hb dX4_comes_92 (by decide) (fun c92 => ?_) (fun c92 => ?_)
          · have h := itT c92 h
            refine lv_iconst (v := (0 : Int32)) hx hb dX4_comes_113 (by decide) ?_
            refine lv_istore_n (lv' := [(3, .int (0 : Int32)), (0, .ref (f 0)), (4, .int x82_4)]) hx hb dX4_comes_114 rfl hl (by decide) rfl (fun ls hl => ?_)
            refine lv_iinc (v := (x82_4 + (1 : Int32))) (lv' := [(4, .int (x82_4 + (1 : Int32))), (3, .int (0 : Int32)), (0, .ref (f 0))]) hx hb dX4_comes_115 hl (k := 2) rfl rfl (by decide) rfl (fun ls hl => ?_)
            refine lv_goto (tgt := 82) hx hb dX4_comes_118 (by decide) ?_
            exact ih82 _ _ h _ _ _ hP hD hS (lv_sub hl [2, 1, 0] rfl)
          have h := itF c92 h
          refine lv_aload_n hx hb dX4_comes_95 rfl (lv_at hl 0 rfl) ?_
          refine va_get (D := (dC, dI)) (ci := 4) (v := .ref (f 3)) (C := RX4) (T := TX4) (N := 28) hx hb hts hiX4 hown hK hP 0 rfl rfl 2 (by decide) hw6 (fun _ h9 => h9) rfl dX4_comes_96 ?_
          refine lv_iload hx hb dX4_comes_99 (lv_at hl 2 rfl) ?_
          obtain ⟨hin, h⟩ := ck_some h
          refine va_iald hx hb hK hP 3 0 rfl rfl hin dX4_comes_101 ?_
          refine lv_aload_n hx hb dX4_comes_102 rfl (lv_at hl 0 rfl) ?_
          refine va_get (D := (dC, dI)) (ci := 4) (v := .int (R_lanes (R_setLanes c_r (c_number (((5 : Int32) * p1)).toNatClampNeg)))) (C := RX4) (T := TX4) (N := 28) hx hb hts hiX4 hown hK hP 0 rfl rfl 7 (by decide) hw4 (fun _ h9 => h9) rfl dX4_comes_103 ?_
          refine lv_icmp_ge (tgt := 113) hx hb dX4_comes_106 (by decide) (fun c106 => ?_) (fun c106 => ?_)
          · have h := itT c106 h
            refine lv_iconst (v := (0 : Int32)) hx hb dX4_comes_113 (by decide) ?_
            refine lv_istore_n (lv' := [(3, .int (0 : Int32)), (0, .ref (f 0)), (4, .int x82_4)]) hx hb dX4_comes_114 rfl hl (by decide) rfl (fun ls hl => ?_)
            refine lv_iinc (v := (x82_4 + (1 : Int32))) (lv' := [(4, .int (x82_4 + (1 : Int32))), (3, .int (0 : Int32)), (0, .ref (f 0))]) hx hb dX4_comes_115 hl (k := 2) rfl rfl (by decide) rfl (fun ls hl => ?_)
            refine lv_goto (tgt := 82) hx hb dX4_comes_118 (by decide) ?_
            exact ih82 _ _ h _ _ _ hP hD hS (lv_sub hl [2, 1, 0] rfl)
          have h := itF c106 h
          refine lv_iconst (v := (1 : Int32)) hx hb dX4_comes_109 (by decide) ?_
          refine lv_goto (tgt := 114) hx hb dX4_comes_110 (by decide) ?_
          refine lv_istore_n (lv' := [(3, .int (1 : Int32)), (0, .ref (f 0)), (4, .int x82_4)]) hx hb dX4_comes_114 rfl hl (by decide) rfl (fun ls hl => ?_)
          refine lv_iinc (v := (x82_4 + (1 : Int32))) (lv' := [(4, .int (x82_4 + (1 : Int32))), (3, .int (1 : Int32)), (0, .ref (f 0))]) hx hb dX4_comes_115 hl (k := 2) rfl rfl (by decide) rfl (fun ls hl => ?_)
          refine lv_goto (tgt := 82) hx hb dX4_comes_118 (by decide) ?_
          exact ih82 _ _ h _ _ _ hP hD hS (lv_sub hl [2, 1, 0] rfl)
      refine L82 _ (fun k82_3 h H locs ls hP hD hS hl => ?_) _ _ _ h _ _ _ hP hD hS (lv_sub hl [3, 1, 0] rfl)
      refine lv_iload_n hx hb dX4_comes_121 rfl (lv_at hl 0 rfl) ?_
      obtain ⟨hz, h⟩ := ckb_some h
      subst hQ
      exact retRW (zz := ((k82_3, (R_setLanes c_r (c_number (((5 : Int32) * p1)).toNatClampNeg))) : Int32 × RT)) (fun z => z.1) (fun z => (zwM cI cC f z.2 c_refused c_tape c_letter c_letterAt c_number c_taped c_at c_statements c_kept c_hasImage c_isKeeping c_cursor c_poled c_barred c_leapsTo c_leapsThen c_lands c_row c_rowMany c_endsAt)) hx hb hr hlocks (ckb_n hz) hS h rfl hP dX4_comes_122
    have h := itT c29 h
    refine lv_aload_n hx hb dX4_comes_32 rfl (lv_at hl 1 rfl) ?_
    refine lv_aload_n hx hb dX4_comes_33 rfl (lv_at hl 1 rfl) ?_
    refine va_get (D := (dC, dI)) (ci := 4) (v := .ref (f 10)) (C := RX4) (T := TX4) (N := 28) hx hb hts hiX4 hown hK hP 0 rfl rfl 12 (by decide) hw2 (fun _ h9 => h9) rfl dX4_comes_34 ?_
    refine lv_iload_n hx hb dX4_comes_37 rfl (lv_at hl 0 rfl) ?_
    obtain ⟨hin, h⟩ := ck_some h
    refine va_iald hx hb hK hP 10 0 rfl rfl hin dX4_comes_38 ?_
    refine va_put (D := (dC, dI)) (ci := 4) (v := .int (c_number (((5 : Int32) * p1)).toNatClampNeg)) (ty := .int) (C := RX4) (T := TX4) (N := 28) hx hb hts hiX4 tyX4 tyX4_ok nmX4 hown hK hP hD hS 0 rfl rfl 8 (by decide) hw3 (fun _ h9 => h9) rfl (by decide +kernel) rfl rfl (Nat.le_of_ble_eq_true rfl) dX4_comes_39 (fun H locs hP hD hS => ?_)
    have hP : va_P (dC, dI) vwCl (zwM cI cC f (R_setMinute c_r (c_number (((5 : Int32) * p1)).toNatClampNeg)) c_refused c_tape c_letter c_letterAt c_number c_taped c_at c_statements c_kept c_hasImage c_isKeeping c_cursor c_poled c_barred c_leapsTo c_leapsThen c_lands c_row c_rowMany c_endsAt) H := hP
    have hD : va_D A (zwM cI cC f (R_setMinute c_r (c_number (((5 : Int32) * p1)).toNatClampNeg)) c_refused c_tape c_letter c_letterAt c_number c_taped c_at c_statements c_kept c_hasImage c_isKeeping c_cursor c_poled c_barred c_leapsTo c_leapsThen c_lands c_row c_rowMany c_endsAt) := hD
    refine lv_aload_n hx hb dX4_comes_42 rfl (lv_at hl 1 rfl) ?_
    refine va_get (D := (dC, dI)) (ci := 4) (v := .ref (f 10)) (C := RX4) (T := TX4) (N := 28) hx hb hts hiX4 hown hK hP 0 rfl rfl 12 (by decide) hw2 (fun _ h9 => h9) rfl dX4_comes_43 ?_
    refine lv_iload_n hx hb dX4_comes_46 rfl (lv_at hl 0 rfl) ?_
    obtain ⟨hin, h⟩ := ck_some h
    refine va_iald hx hb hK hP 10 0 rfl rfl hin dX4_comes_47 ?_
    refine lv_bipush (v := (60 : Int32)) hx hb dX4_comes_48 (by decide) ?_
    refine lv_icmp_gt (tgt := 57) hx hb dX4_comes_50 (by decide) (fun c50 => ?_) (fun c50 => ?_)
    · have h := itT c50 h
      refine lv_iconst (v := (0 : Int32)) hx hb dX4_comes_57 (by decide) ?_
      subst hQ
      exact retRW (zz := (((0 : Int32), (R_setMinute c_r (c_number (((5 : Int32) * p1)).toNatClampNeg))) : Int32 × RT)) (fun z => z.1) (fun z => (zwM cI cC f z.2 c_refused c_tape c_letter c_letterAt c_number c_taped c_at c_statements c_kept c_hasImage c_isKeeping c_cursor c_poled c_barred c_leapsTo c_leapsThen c_lands c_row c_rowMany c_endsAt)) hx hb hr hlocks rfl hS h rfl hP dX4_comes_58
    have h := itF c50 h
    refine lv_iconst (v := (1 : Int32)) hx hb dX4_comes_53 (by decide) ?_
    refine lv_goto (tgt := 58) hx hb dX4_comes_54 (by decide) ?_
    subst hQ
    exact retRW (zz := (((1 : Int32), (R_setMinute c_r (c_number (((5 : Int32) * p1)).toNatClampNeg))) : Int32 × RT)) (fun z => z.1) (fun z => (zwM cI cC f z.2 c_refused c_tape c_letter c_letterAt c_number c_taped c_at c_statements c_kept c_hasImage c_isKeeping c_cursor c_poled c_barred c_leapsTo c_leapsThen c_lands c_row c_rowMany c_endsAt)) hx hb hr hlocks rfl hS h rfl hP dX4_comes_58
  have h := itT c12 h
  refine lv_aload_n hx hb dX4_comes_15 rfl (lv_at hl 1 rfl) ?_
  refine lv_iload_n hx hb dX4_comes_16 rfl (lv_at hl 0 rfl) ?_
  obtain ⟨q17, e17, h⟩ := bd_some h
  refine g_rwA (wc := (zwM cI cC f c_r c_refused c_tape c_letter c_letterAt c_number c_taped c_at c_statements c_kept c_hasImage c_isKeeping c_cursor c_poled c_barred c_leapsTo c_leapsThen c_lands c_row c_rowMany c_endsAt)) (wc' := (zwM cI cC f q17.2 c_refused c_tape c_letter c_letterAt c_number c_taped c_at c_statements c_kept c_hasImage c_isKeeping c_cursor c_poled c_barred c_leapsTo c_leapsThen c_lands c_row c_rowMany c_endsAt)) ⟨hx, hb, hml, hown, hts⟩ hE hK hA hP hD hS rfl (mX4_comesFloe l dC dI cI cC sk f s.heap.size ((5 : Int32) * p1) c_r c_refused c_tape c_letter c_letterAt c_number c_taped c_at c_statements c_kept c_hasImage c_isKeeping c_cursor c_poled c_barred c_leapsTo c_leapsThen c_lands c_row c_rowMany c_endsAt q17 e17) (cwV 1 hts gX4_comes_X4_comesFloe rfl rfl rfl (by decide +kernel) ⟨Nat.le_of_ble_eq_true rfl, Nat.le_of_ble_eq_true rfl⟩) (va_recv hK hP (ci := 4) (q0 := 0) rfl rfl) (As := [.int ((5 : Int32) * p1)]) (rest := []) rfl hl.1 rfl (Nat.le_of_ble_eq_true rfl) dX4_comes_17 ⟨Nat.zero_le _, Nat.zero_le _⟩ (fun H locs hP hD hS => ?_)
  have hP : va_P (dC, dI) vwCl (zwM cI cC f q17.2 c_refused c_tape c_letter c_letterAt c_number c_taped c_at c_statements c_kept c_hasImage c_isKeeping c_cursor c_poled c_barred c_leapsTo c_leapsThen c_lands c_row c_rowMany c_endsAt) H := hP
  have hD : va_D A (zwM cI cC f q17.2 c_refused c_tape c_letter c_letterAt c_number c_taped c_at c_statements c_kept c_hasImage c_isKeeping c_cursor c_poled c_barred c_leapsTo c_leapsThen c_lands c_row c_rowMany c_endsAt) := hD
  obtain ⟨hz, h⟩ := ckb_some h
  subst hQ
  exact retRW (zz := ((q17.1, q17.2) : Int32 × RT)) (fun z => z.1) (fun z => (zwM cI cC f z.2 c_refused c_tape c_letter c_letterAt c_number c_taped c_at c_statements c_kept c_hasImage c_isKeeping c_cursor c_poled c_barred c_leapsTo c_leapsThen c_lands c_row c_rowMany c_endsAt)) hx hb hr hlocks (ckb_n hz) hS h rfl hP dX4_comes_20
