theorem dX4_comes_0 : decode cX4_comes 0 = .ok (.iconst 5, 1) := by decide +kernel
theorem dX4_comes_1 : decode cX4_comes 1 = .ok (.iload_n 1, 1) := by decide +kernel
theorem dX4_comes_2 : decode cX4_comes 2 = .ok (.imul, 1) := by decide +kernel
theorem dX4_comes_3 : decode cX4_comes 3 = .ok (.istore_n 2, 1) := by decide +kernel
theorem dX4_comes_4 : decode cX4_comes 4 = .ok (.aload_n 0, 1) := by decide +kernel
theorem dX4_comes_5 : decode cX4_comes 5 = .ok (.getfield 35, 3) := by decide +kernel
theorem dX4_comes_8 : decode cX4_comes 8 = .ok (.iload_n 1, 1) := by decide +kernel
theorem dX4_comes_9 : decode cX4_comes 9 = .ok (.iaload, 1) := by decide +kernel
theorem dX4_comes_10 : decode cX4_comes 10 = .ok (.bipush 102, 2) := by decide +kernel
theorem dX4_comes_12 : decode cX4_comes 12 = .ok (.if_icmp .ne 9, 3) := by decide +kernel
theorem dX4_comes_15 : decode cX4_comes 15 = .ok (.aload_n 0, 1) := by decide +kernel
theorem dX4_comes_16 : decode cX4_comes 16 = .ok (.iload_n 2, 1) := by decide +kernel
theorem dX4_comes_17 : decode cX4_comes 17 = .ok (.invokevirtual 98, 3) := by decide +kernel
theorem dX4_comes_20 : decode cX4_comes 20 = .ok (.ireturn, 1) := by decide +kernel
theorem dX4_comes_21 : decode cX4_comes 21 = .ok (.aload_n 0, 1) := by decide +kernel
theorem dX4_comes_22 : decode cX4_comes 22 = .ok (.getfield 35, 3) := by decide +kernel
theorem dX4_comes_25 : decode cX4_comes 25 = .ok (.iload_n 1, 1) := by decide +kernel
theorem dX4_comes_26 : decode cX4_comes 26 = .ok (.iaload, 1) := by decide +kernel
theorem dX4_comes_27 : decode cX4_comes 27 = .ok (.bipush 109, 2) := by decide +kernel
theorem dX4_comes_29 : decode cX4_comes 29 = .ok (.if_icmp .ne 30, 3) := by decide +kernel
theorem dX4_comes_32 : decode cX4_comes 32 = .ok (.aload_n 0, 1) := by decide +kernel
theorem dX4_comes_33 : decode cX4_comes 33 = .ok (.aload_n 0, 1) := by decide +kernel
theorem dX4_comes_34 : decode cX4_comes 34 = .ok (.getfield 41, 3) := by decide +kernel
theorem dX4_comes_37 : decode cX4_comes 37 = .ok (.iload_n 2, 1) := by decide +kernel
theorem dX4_comes_38 : decode cX4_comes 38 = .ok (.iaload, 1) := by decide +kernel
theorem dX4_comes_39 : decode cX4_comes 39 = .ok (.putfield 101, 3) := by decide +kernel
theorem dX4_comes_42 : decode cX4_comes 42 = .ok (.aload_n 0, 1) := by decide +kernel
theorem dX4_comes_43 : decode cX4_comes 43 = .ok (.getfield 41, 3) := by decide +kernel
theorem dX4_comes_46 : decode cX4_comes 46 = .ok (.iload_n 2, 1) := by decide +kernel
theorem dX4_comes_47 : decode cX4_comes 47 = .ok (.iaload, 1) := by decide +kernel
theorem dX4_comes_48 : decode cX4_comes 48 = .ok (.bipush 60, 2) := by decide +kernel
theorem dX4_comes_50 : decode cX4_comes 50 = .ok (.if_icmp .gt 7, 3) := by decide +kernel
theorem dX4_comes_53 : decode cX4_comes 53 = .ok (.iconst 1, 1) := by decide +kernel
theorem dX4_comes_54 : decode cX4_comes 54 = .ok (.goto 4, 3) := by decide +kernel
theorem dX4_comes_57 : decode cX4_comes 57 = .ok (.iconst 0, 1) := by decide +kernel
theorem dX4_comes_58 : decode cX4_comes 58 = .ok (.ireturn, 1) := by decide +kernel
theorem dX4_comes_59 : decode cX4_comes 59 = .ok (.aload_n 0, 1) := by decide +kernel
theorem dX4_comes_60 : decode cX4_comes 60 = .ok (.aload_n 0, 1) := by decide +kernel
theorem dX4_comes_61 : decode cX4_comes 61 = .ok (.getfield 41, 3) := by decide +kernel
theorem dX4_comes_64 : decode cX4_comes 64 = .ok (.iload_n 2, 1) := by decide +kernel
theorem dX4_comes_65 : decode cX4_comes 65 = .ok (.iaload, 1) := by decide +kernel
theorem dX4_comes_66 : decode cX4_comes 66 = .ok (.putfield 28, 3) := by decide +kernel
theorem dX4_comes_69 : decode cX4_comes 69 = .ok (.aload_n 0, 1) := by decide +kernel
theorem dX4_comes_70 : decode cX4_comes 70 = .ok (.getfield 28, 3) := by decide +kernel
theorem dX4_comes_73 : decode cX4_comes 73 = .ok (.iconst 1, 1) := by decide +kernel
theorem dX4_comes_74 : decode cX4_comes 74 = .ok (.iconst 5, 1) := by decide +kernel
theorem dX4_comes_75 : decode cX4_comes 75 = .ok (.invokestatic 62, 3) := by decide +kernel
theorem dX4_comes_78 : decode cX4_comes 78 = .ok (.istore_n 3, 1) := by decide +kernel
theorem dX4_comes_79 : decode cX4_comes 79 = .ok (.iconst 0, 1) := by decide +kernel
theorem dX4_comes_80 : decode cX4_comes 80 = .ok (.istore 4, 2) := by decide +kernel
theorem dX4_comes_82 : decode cX4_comes 82 = .ok (.iload 4, 2) := by decide +kernel
theorem dX4_comes_84 : decode cX4_comes 84 = .ok (.aload_n 0, 1) := by decide +kernel
theorem dX4_comes_85 : decode cX4_comes 85 = .ok (.getfield 59, 3) := by decide +kernel
theorem dX4_comes_88 : decode cX4_comes 88 = .ok (.if_icmp .ge 33, 3) := by decide +kernel
theorem dX4_comes_91 : decode cX4_comes 91 = .ok (.iload_n 3, 1) := by decide +kernel
theorem dX4_comes_92 : decode cX4_comes 92 = .ok (.ifCond .eq 21, 3) := by decide +kernel
theorem dX4_comes_95 : decode cX4_comes 95 = .ok (.aload_n 0, 1) := by decide +kernel
theorem dX4_comes_96 : decode cX4_comes 96 = .ok (.getfield 16, 3) := by decide +kernel
theorem dX4_comes_99 : decode cX4_comes 99 = .ok (.iload 4, 2) := by decide +kernel
theorem dX4_comes_101 : decode cX4_comes 101 = .ok (.iaload, 1) := by decide +kernel
theorem dX4_comes_102 : decode cX4_comes 102 = .ok (.aload_n 0, 1) := by decide +kernel
theorem dX4_comes_103 : decode cX4_comes 103 = .ok (.getfield 28, 3) := by decide +kernel
theorem dX4_comes_106 : decode cX4_comes 106 = .ok (.if_icmp .ge 7, 3) := by decide +kernel
theorem dX4_comes_109 : decode cX4_comes 109 = .ok (.iconst 1, 1) := by decide +kernel
theorem dX4_comes_110 : decode cX4_comes 110 = .ok (.goto 4, 3) := by decide +kernel
theorem dX4_comes_113 : decode cX4_comes 113 = .ok (.iconst 0, 1) := by decide +kernel
theorem dX4_comes_114 : decode cX4_comes 114 = .ok (.istore_n 3, 1) := by decide +kernel
theorem dX4_comes_115 : decode cX4_comes 115 = .ok (.iinc 4 1, 3) := by decide +kernel
theorem dX4_comes_118 : decode cX4_comes 118 = .ok (.goto (-36), 3) := by decide +kernel
theorem dX4_comes_121 : decode cX4_comes 121 = .ok (.iload_n 3, 1) := by decide +kernel
theorem dX4_comes_122 : decode cX4_comes 122 = .ok (.ireturn, 1) := by decide +kernel
set_option maxRecDepth 20000 in
theorem ggX4_comes_X4_comesFloe : GoodIn wsX4_comes wsX4_comesFloe := goodIn_r _ [11, 5, 2, 4, 12, 6, 13, 14, 15, 16, 17, 10, 18, 19, 20, 21, 22, 23, 24, 25, 26, 27, 28, 29, 30, 31, 32, 33, 34, 35, 36, 37, 38, 39, 40, 41, 42, 43, 44, 45, 46] (by decide +kernel) (by decide +kernel)
set_option maxRecDepth 20000 in
theorem gX4_comes_X4_comesFloe : GoodIn wsX4_comes (wsV RX4 98 RX4 yX4_comesFloe wsX4_comesFloe) := goodIn_app (goodIn_of _ (by decide +kernel)) ggX4_comes_X4_comesFloe
set_option maxRecDepth 20000 in
theorem ggX4_comes_X4_isIn : GoodIn wsX4_comes wsX4_isIn := goodIn_r _ [18] (by decide +kernel) (by decide +kernel)
set_option maxRecDepth 20000 in
theorem gX4_comes_X4_isIn : GoodIn wsX4_comes (va_wsS RX4 62 yX4_isIn wsX4_isIn) := goodIn_app (goodIn_of _ (by decide +kernel)) ggX4_comes_X4_isIn
set_option maxHeartbeats 4000000 in
set_option maxRecDepth 100000 in
theorem mX4_comes (l : Launch) (dC : Nat → ClassId) (dI : Nat → Nat → Nat) (cI cC : ClassId) (sk : (Nat → Nat) × (Nat → Nat)) (f : Nat → Nat) (sz : Nat) (p1 : Int32) (c_r : RT) (c_refused : AR) (c_tape : AR) (c_letter : AR) (c_letterAt : AR) (c_number : AR) (c_taped : Int32) (c_at : Int32) (c_statements : Int32) (c_kept : AR) (c_hasImage : Int32) (c_isKeeping : Int32) (c_cursor : Int32) (c_poled : Int32) (c_barred : Int32) (c_leapsTo : AR) (c_leapsThen : AR) (c_lands : AR) (c_row : AR) (c_rowMany : Int32) (c_endsAt : Int32) (z : Int32 × RT) (h : fX4_comes p1 c_r c_letter c_number = some z) : cRW l yX4_comes wsX4_comes (RMk 2 43) sk (dC, dI) (tyz cI cC) sz (zwM cI cC f c_r c_refused c_tape c_letter c_letterAt c_number c_taped c_at c_statements c_kept c_hasImage c_isKeeping c_cursor c_poled c_barred c_leapsTo c_leapsThen c_lands c_row c_rowMany c_endsAt) (zwM cI cC f z.2 c_refused c_tape c_letter c_letterAt c_number c_taped c_at c_statements c_kept c_hasImage c_isKeeping c_cursor c_poled c_barred c_leapsTo c_leapsThen c_lands c_row c_rowMany c_endsAt) [.ref (f 0), .int p1] z.1 := by
  refine ofRW (cc := cX4_comes) (maxL := 5) (ret := (some .boolean)) (own := RX4) (plainFor_of_name (by decide)) rfl rfl (Nat.le_of_ble_eq_true rfl) ?_
  intro p e s m args below meth c A hA hx hb hml hr hts hown hlocks hE hK hP hD hS ls hl
  generalize hQ : qRW _ _ _ _ _ _ _ = Q
  have hl : lv_has ls 5 [(0, .ref (f 0)), (1, .int p1)] := hl
  have hiX4 : ∀ w ∈ wsX40, w ∈ wsX4_comes := fun w h => List.mem_cons_of_mem _ (List.mem_append_right _ h)
  have hw1 := hts (Cond.fieldLink RX4 35 "FloeToFloeModel" "letter" "[I") (List.mem_of_getElem? (i := 1) rfl)
  have hw2 := hts (Cond.fieldLink RX4 41 "FloeToFloeModel" "number" "[I") (List.mem_of_getElem? (i := 2) rfl)
  have hw4 := hts (Cond.fieldLink RX4 28 "FloeToFloeModel" "lanes" "I") (List.mem_of_getElem? (i := 4) rfl)
  have hw5 := hts (Cond.fieldLink RX4 59 "FloeToFloeModel" "floes" "I") (List.mem_of_getElem? (i := 5) rfl)
  have hw6 := hts (Cond.fieldLink RX4 16 "FloeToFloeModel" "laneOf" "[I") (List.mem_of_getElem? (i := 6) rfl)
  have hw3 := hts (Cond.fieldLink RX4 101 "FloeToFloeModel" "minute" "I") (List.mem_of_getElem? (i := 3) rfl)
  rw [fX4_comes] at h
  refine lv_iconst (v := (5 : Int32)) hx hb dX4_comes_0 (by decide) ?_
  refine lv_iload_n hx hb dX4_comes_1 rfl (lv_at hl 1 rfl) ?_
  refine lv_imul hx hb dX4_comes_2 ?_
  refine lv_istore_n (lv' := [(2, .int ((5 : Int32) * p1)), (0, .ref (f 0)), (1, .int p1)]) hx hb dX4_comes_3 rfl hl (by decide) rfl (fun ls hl => ?_)
  refine lv_aload_n hx hb dX4_comes_4 rfl (lv_at hl 1 rfl) ?_
  refine va_get (D := (dC, dI)) (ci := 4) (v := .ref (f 8)) (C := RX4) (T := TX4) (N := 28) hx hb hts hiX4 hown hK hP 0 rfl rfl 10 (by decide) hw1 (fun _ h9 => h9) rfl dX4_comes_5 ?_
  refine lv_iload_n hx hb dX4_comes_8 rfl (lv_at hl 2 rfl) ?_
  obtain ⟨hin, h⟩ := ck_some h
  refine va_iald hx hb hK hP 8 0 rfl rfl hin dX4_comes_9 ?_
  refine lv_bipush (v := (102 : Int32)) hx hb dX4_comes_10 (by decide) ?_
  refine lv_icmp_ne (tgt := 21) hx hb dX4_comes_12 (by decide) (fun c12 => ?_) (fun c12 => ?_)
  · have h := itF c12 h
    refine lv_aload_n hx hb dX4_comes_21 rfl (lv_at hl 1 rfl) ?_
    refine va_get (D := (dC, dI)) (ci := 4) (v := .ref (f 8)) (C := RX4) (T := TX4) (N := 28) hx hb hts hiX4 hown hK hP 0 rfl rfl 10 (by decide) hw1 (fun _ h9 => h9) rfl dX4_comes_22 ?_
    refine lv_iload_n hx hb dX4_comes_25 rfl (lv_at hl 2 rfl) ?_
    obtain ⟨hin, h⟩ := ck_some h
    refine va_iald hx hb hK hP 8 0 rfl rfl hin dX4_comes_26 ?_
    refine lv_bipush (v := (109 : Int32)) hx hb dX4_comes_27 (by decide) ?_
    refine lv_icmp_ne (tgt := 59) hx hb dX4_comes_29 (by decide) (fun c29 => ?_) (fun c29 => ?_)
    · have h := itF c29 h
      refine lv_aload_n hx hb dX4_comes_59 rfl (lv_at hl 1 rfl) ?_
      refine lv_aload_n hx hb dX4_comes_60 rfl (lv_at hl 1 rfl) ?_
      refine va_get (D := (dC, dI)) (ci := 4) (v := .ref (f 10)) (C := RX4) (T := TX4) (N := 28) hx hb hts hiX4 hown hK hP 0 rfl rfl 12 (by decide) hw2 (fun _ h9 => h9) rfl dX4_comes_61 ?_
      refine lv_iload_n hx hb dX4_comes_64 rfl (lv_at hl 0 rfl) ?_
      obtain ⟨hin, h⟩ := ck_some h
      refine va_iald hx hb hK hP 10 0 rfl rfl hin dX4_comes_65 ?_
      refine va_put (D := (dC, dI)) (ci := 4) (v := .int (c_number (((5 : Int32) * p1)).toNatClampNeg)) (ty := .int) (C := RX4) (T := TX4) (N := 28) hx hb hts hiX4 tyX4 tyX4_ok nmX4 hown hK hP hD hS 0 rfl rfl 7 (by decide) hw4 (fun _ h9 => h9) rfl (by decide +kernel) rfl rfl (Nat.le_of_ble_eq_true rfl) dX4_comes_66 (fun H locs hP hD hS => ?_)
      have hP : va_P (dC, dI) vwCl (zwM cI cC f (R_setLanes c_r (c_number (((5 : Int32) * p1)).toNatClampNeg)) c_refused c_tape c_letter c_letterAt c_number c_taped c_at c_statements c_kept c_hasImage c_isKeeping c_cursor c_poled c_barred c_leapsTo c_leapsThen c_lands c_row c_rowMany c_endsAt) H := hP
      have hD : va_D A (zwM cI cC f (R_setLanes c_r (c_number (((5 : Int32) * p1)).toNatClampNeg)) c_refused c_tape c_letter c_letterAt c_number c_taped c_at c_statements c_kept c_hasImage c_isKeeping c_cursor c_poled c_barred c_leapsTo c_leapsThen c_lands c_row c_rowMany c_endsAt) := hD
      refine lv_aload_n hx hb dX4_comes_69 rfl (lv_at hl 1 rfl) ?_
      refine va_get (D := (dC, dI)) (ci := 4) (v := .int (R_lanes (R_setLanes c_r (c_number (((5 : Int32) * p1)).toNatClampNeg)))) (C := RX4) (T := TX4) (N := 28) hx hb hts hiX4 hown hK hP 0 rfl rfl 7 (by decide) hw4 (fun _ h9 => h9) rfl dX4_comes_70 ?_
      refine lv_iconst (v := (1 : Int32)) hx hb dX4_comes_73 (by decide) ?_
      refine lv_iconst (v := (5 : Int32)) hx hb dX4_comes_74 (by decide) ?_
      obtain ⟨q75, e75, h⟩ := bd_some h
      refine g_roS (wc := ([] : va_W)) ⟨hx, hb, hml, hown, hts⟩ hE hK hP hS [] rfl (mX4_isIn l dC dI cI cC sk  (R_lanes (R_setLanes c_r (c_number (((5 : Int32) * p1)).toNatClampNeg))) (1 : Int32) (5 : Int32) q75 e75) (va_cwS 3 hts gX4_comes_X4_isIn rfl rfl rfl (by decide +kernel) ⟨Nat.le_of_ble_eq_true rfl, Nat.le_of_ble_eq_true rfl⟩) (As := [.int (R_lanes (R_setLanes c_r (c_number (((5 : Int32) * p1)).toNatClampNeg))), .int (1 : Int32), .int (5 : Int32)]) (rest := []) rfl hl.1 rfl (Nat.le_of_ble_eq_true rfl) dX4_comes_75 ⟨Nat.zero_le _, Nat.zero_le _⟩ (fun H locs hP hS => ?_)
      refine lv_istore_n (lv' := [(3, .int q75), (2, .int ((5 : Int32) * p1)), (0, .ref (f 0)), (1, .int p1)]) hx hb dX4_comes_78 rfl hl (by decide) rfl (fun ls hl => ?_)
      refine lv_iconst (v := (0 : Int32)) hx hb dX4_comes_79 (by decide) ?_
      refine lv_istore (lv' := [(4, .int (0 : Int32)), (3, .int q75), (2, .int ((5 : Int32) * p1)), (0, .ref (f 0)), (1, .int p1)]) hx hb dX4_comes_80 hl (by decide) rfl (fun ls hl => ?_)
      have L82 : ∀ (K82 : Int32 → Option (Int32 × RT)), (∀ (k82_3 : Int32), K82 k82_3 = some z → ∀ (H : Heap) (locs : List Loc) (ls : Array Slot), va_P (dC, dI) vwCl (zwM cI cC f (R_setLanes c_r (c_number (((5 : Int32) * p1)).toNatClampNeg)) c_refused c_tape c_letter c_letterAt c_number c_taped c_at c_statements c_kept c_hasImage c_isKeeping c_cursor c_poled c_barred c_leapsTo c_leapsThen c_lands c_row c_rowMany c_endsAt) H → va_D A (zwM cI cC f (R_setLanes c_r (c_number (((5 : Int32) * p1)).toNatClampNeg)) c_refused c_tape c_letter c_letterAt c_number c_taped c_at c_statements c_kept c_hasImage c_isKeeping c_cursor c_poled c_barred c_leapsTo c_leapsThen c_lands c_row c_rowMany c_endsAt) → va_S A s.heap H locs → lv_has ls 5 [(3, .int k82_3)] → W p l e (RMk 2 43) s m args below meth c H locs 0 0 Q (F0 m 121 ls [])) → ∀ (n : Nat) (x82_3 : Int32) (x82_4 : Int32), fX4_comes_L82 c_number c_r p1 K82 n x82_3 x82_4 = some z → ∀ (H : Heap) (locs : List Loc) (ls : Array Slot), va_P (dC, dI) vwCl (zwM cI cC f (R_setLanes c_r (c_number (((5 : Int32) * p1)).toNatClampNeg)) c_refused c_tape c_letter c_letterAt c_number c_taped c_at c_statements c_kept c_hasImage c_isKeeping c_cursor c_poled c_barred c_leapsTo c_leapsThen c_lands c_row c_rowMany c_endsAt) H → va_D A (zwM cI cC f (R_setLanes c_r (c_number (((5 : Int32) * p1)).toNatClampNeg)) c_refused c_tape c_letter c_letterAt c_number c_taped c_at c_statements c_kept c_hasImage c_isKeeping c_cursor c_poled c_barred c_leapsTo c_leapsThen c_lands c_row c_rowMany c_endsAt) → va_S A s.heap H locs → lv_has ls 5 [(0, .ref (f 0)), (3, .int x82_3), (4, .int x82_4)] → W p l e (RMk 2 43) s m args below meth c H locs 0 0 Q (F0 m 82 ls []) := by
        intro K82 kx82 n
        induction n with
        | zero => intro x82_3 x82_4 h; rw [fX4_comes_L82] at h; cases h
        | succ n ih82 =>
          intro x82_3 x82_4 h H locs ls hP hD hS hl
          rw [fX4_comes_L82] at h
          refine lv_iload hx hb dX4_comes_82 (lv_at hl 2 rfl) ?_
          refine lv_aload_n hx hb dX4_comes_84 rfl (lv_at hl 0 rfl) ?_
          refine va_get (D := (dC, dI)) (ci := 4) (v := .int (R_floes (R_setLanes c_r (c_number (((5 : Int32) * p1)).toNatClampNeg)))) (C := RX4) (T := TX4) (N := 28) hx hb hts hiX4 hown hK hP 0 rfl rfl 6 (by decide) hw5 (fun _ h9 => h9) rfl dX4_comes_85 ?_
          refine lv_icmp_ge (tgt := 121) hx hb dX4_comes_88 (by decide) (fun c88 => ?_) (fun c88 => ?_)
          · have h := itT c88 h
            exact kx82 _ h _ _ _ hP hD hS (lv_sub hl [1] rfl)
          have h := itF c88 h
          refine lv_iload_n hx hb dX4_comes_91 rfl (lv_at hl 1 rfl) ?_
          refine lv_if_eq (tgt := 113) hx hb dX4_comes_92 (by decide) (fun c92 => ?_) (fun c92 => ?_)
          · have h := itT c92 h
            refine lv_iconst (v := (0 : Int32)) hx hb dX4_comes_113 (by decide) ?_
            refine lv_istore_n (lv' := [(3, .int (0 : Int32)), (0, .ref (f 0)), (4, .int x82_4)]) hx hb dX4_comes_114 rfl hl (by decide) rfl (fun ls hl => ?_)
            refine lv_iinc (v := (x82_4 + (1 : Int32))) (lv' := [(4, .int (x82_4 + (1 : Int32))), (3, .int (0 : Int32)), (0, .ref (f 0))]) hx hb dX4_comes_115 hl (k := 2) rfl rfl (by decide) rfl (fun ls hl => ?_)
            refine lv_goto (tgt := 82) hx hb dX4_comes_118 (by decide) ?_
            exact ih82 _ _ h _ _ _ hP hD hS (lv_sub hl [2, 1, 0] rfl)
          have h := itF c92 h
          refine lv_aload_n hx hb dX4_comes_95 rfl (lv_at hl 0 rfl) ?_
          refine va_get (D := (dC, dI)) (ci := 4) (v := .ref (f 3)) (C := RX4) (T := TX4) (N := 28) hx hb hts hiX4 hown hK hP 0 rfl rfl 2 (by decide) hw6 (fun _ h9 => h9) rfl dX4_comes_96 ?_
          refine lv_iload hx hb dX4_comes_99 (lv_at hl 2 rfl) ?_
          obtain ⟨hin, h⟩ := ck_some h
          refine va_iald hx hb hK hP 3 0 rfl rfl hin dX4_comes_101 ?_
          refine lv_aload_n hx hb dX4_comes_102 rfl (lv_at hl 0 rfl) ?_
          refine va_get (D := (dC, dI)) (ci := 4) (v := .int (R_lanes (R_setLanes c_r (c_number (((5 : Int32) * p1)).toNatClampNeg)))) (C := RX4) (T := TX4) (N := 28) hx hb hts hiX4 hown hK hP 0 rfl rfl 7 (by decide) hw4 (fun _ h9 => h9) rfl dX4_comes_103 ?_
          refine lv_icmp_ge (tgt := 113) hx hb dX4_comes_106 (by decide) (fun c106 => ?_) (fun c106 => ?_)
          · have h := itT c106 h
            refine lv_iconst (v := (0 : Int32)) hx hb dX4_comes_113 (by decide) ?_
            refine lv_istore_n (lv' := [(3, .int (0 : Int32)), (0, .ref (f 0)), (4, .int x82_4)]) hx hb dX4_comes_114 rfl hl (by decide) rfl (fun ls hl => ?_)
            refine lv_iinc (v := (x82_4 + (1 : Int32))) (lv' := [(4, .int (x82_4 + (1 : Int32))), (3, .int (0 : Int32)), (0, .ref (f 0))]) hx hb dX4_comes_115 hl (k := 2) rfl rfl (by decide) rfl (fun ls hl => ?_)
            refine lv_goto (tgt := 82) hx hb dX4_comes_118 (by decide) ?_
            exact ih82 _ _ h _ _ _ hP hD hS (lv_sub hl [2, 1, 0] rfl)
          have h := itF c106 h
          refine lv_iconst (v := (1 : Int32)) hx hb dX4_comes_109 (by decide) ?_
          refine lv_goto (tgt := 114) hx hb dX4_comes_110 (by decide) ?_
          refine lv_istore_n (lv' := [(3, .int (1 : Int32)), (0, .ref (f 0)), (4, .int x82_4)]) hx hb dX4_comes_114 rfl hl (by decide) rfl (fun ls hl => ?_)
          refine lv_iinc (v := (x82_4 + (1 : Int32))) (lv' := [(4, .int (x82_4 + (1 : Int32))), (3, .int (1 : Int32)), (0, .ref (f 0))]) hx hb dX4_comes_115 hl (k := 2) rfl rfl (by decide) rfl (fun ls hl => ?_)
          refine lv_goto (tgt := 82) hx hb dX4_comes_118 (by decide) ?_
          exact ih82 _ _ h _ _ _ hP hD hS (lv_sub hl [2, 1, 0] rfl)
      refine L82 _ (fun k82_3 h H locs ls hP hD hS hl => ?_) _ _ _ h _ _ _ hP hD hS (lv_sub hl [3, 1, 0] rfl)
      refine lv_iload_n hx hb dX4_comes_121 rfl (lv_at hl 0 rfl) ?_
      obtain ⟨hz, h⟩ := ckb_some h
      subst hQ
      exact retRW (zz := ((k82_3, (R_setLanes c_r (c_number (((5 : Int32) * p1)).toNatClampNeg))) : Int32 × RT)) (fun z => z.1) (fun z => (zwM cI cC f z.2 c_refused c_tape c_letter c_letterAt c_number c_taped c_at c_statements c_kept c_hasImage c_isKeeping c_cursor c_poled c_barred c_leapsTo c_leapsThen c_lands c_row c_rowMany c_endsAt)) hx hb hr hlocks (ckb_n hz) hS h rfl hP dX4_comes_122
    have h := itT c29 h
    refine lv_aload_n hx hb dX4_comes_32 rfl (lv_at hl 1 rfl) ?_
    refine lv_aload_n hx hb dX4_comes_33 rfl (lv_at hl 1 rfl) ?_
    refine va_get (D := (dC, dI)) (ci := 4) (v := .ref (f 10)) (C := RX4) (T := TX4) (N := 28) hx hb hts hiX4 hown hK hP 0 rfl rfl 12 (by decide) hw2 (fun _ h9 => h9) rfl dX4_comes_34 ?_
    refine lv_iload_n hx hb dX4_comes_37 rfl (lv_at hl 0 rfl) ?_
    obtain ⟨hin, h⟩ := ck_some h
    refine va_iald hx hb hK hP 10 0 rfl rfl hin dX4_comes_38 ?_
    refine va_put (D := (dC, dI)) (ci := 4) (v := .int (c_number (((5 : Int32) * p1)).toNatClampNeg)) (ty := .int) (C := RX4) (T := TX4) (N := 28) hx hb hts hiX4 tyX4 tyX4_ok nmX4 hown hK hP hD hS 0 rfl rfl 8 (by decide) hw3 (fun _ h9 => h9) rfl (by decide +kernel) rfl rfl (Nat.le_of_ble_eq_true rfl) dX4_comes_39 (fun H locs hP hD hS => ?_)
    have hP : va_P (dC, dI) vwCl (zwM cI cC f (R_setMinute c_r (c_number (((5 : Int32) * p1)).toNatClampNeg)) c_refused c_tape c_letter c_letterAt c_number c_taped c_at c_statements c_kept c_hasImage c_isKeeping c_cursor c_poled c_barred c_leapsTo c_leapsThen c_lands c_row c_rowMany c_endsAt) H := hP
    have hD : va_D A (zwM cI cC f (R_setMinute c_r (c_number (((5 : Int32) * p1)).toNatClampNeg)) c_refused c_tape c_letter c_letterAt c_number c_taped c_at c_statements c_kept c_hasImage c_isKeeping c_cursor c_poled c_barred c_leapsTo c_leapsThen c_lands c_row c_rowMany c_endsAt) := hD
    refine lv_aload_n hx hb dX4_comes_42 rfl (lv_at hl 1 rfl) ?_
    refine va_get (D := (dC, dI)) (ci := 4) (v := .ref (f 10)) (C := RX4) (T := TX4) (N := 28) hx hb hts hiX4 hown hK hP 0 rfl rfl 12 (by decide) hw2 (fun _ h9 => h9) rfl dX4_comes_43 ?_
    refine lv_iload_n hx hb dX4_comes_46 rfl (lv_at hl 0 rfl) ?_
    obtain ⟨hin, h⟩ := ck_some h
    refine va_iald hx hb hK hP 10 0 rfl rfl hin dX4_comes_47 ?_
    refine lv_bipush (v := (60 : Int32)) hx hb dX4_comes_48 (by decide) ?_
    refine lv_icmp_gt (tgt := 57) hx hb dX4_comes_50 (by decide) (fun c50 => ?_) (fun c50 => ?_)
    · have h := itT c50 h
      refine lv_iconst (v := (0 : Int32)) hx hb dX4_comes_57 (by decide) ?_
      subst hQ
      exact retRW (zz := (((0 : Int32), (R_setMinute c_r (c_number (((5 : Int32) * p1)).toNatClampNeg))) : Int32 × RT)) (fun z => z.1) (fun z => (zwM cI cC f z.2 c_refused c_tape c_letter c_letterAt c_number c_taped c_at c_statements c_kept c_hasImage c_isKeeping c_cursor c_poled c_barred c_leapsTo c_leapsThen c_lands c_row c_rowMany c_endsAt)) hx hb hr hlocks rfl hS h rfl hP dX4_comes_58
    have h := itF c50 h
    refine lv_iconst (v := (1 : Int32)) hx hb dX4_comes_53 (by decide) ?_
    refine lv_goto (tgt := 58) hx hb dX4_comes_54 (by decide) ?_
    subst hQ
    exact retRW (zz := (((1 : Int32), (R_setMinute c_r (c_number (((5 : Int32) * p1)).toNatClampNeg))) : Int32 × RT)) (fun z => z.1) (fun z => (zwM cI cC f z.2 c_refused c_tape c_letter c_letterAt c_number c_taped c_at c_statements c_kept c_hasImage c_isKeeping c_cursor c_poled c_barred c_leapsTo c_leapsThen c_lands c_row c_rowMany c_endsAt)) hx hb hr hlocks rfl hS h rfl hP dX4_comes_58
  have h := itT c12 h
  refine lv_aload_n hx hb dX4_comes_15 rfl (lv_at hl 1 rfl) ?_
  refine lv_iload_n hx hb dX4_comes_16 rfl (lv_at hl 0 rfl) ?_
  obtain ⟨q17, e17, h⟩ := bd_some h
  refine g_rwV (wc := (zwM cI cC f c_r c_refused c_tape c_letter c_letterAt c_number c_taped c_at c_statements c_kept c_hasImage c_isKeeping c_cursor c_poled c_barred c_leapsTo c_leapsThen c_lands c_row c_rowMany c_endsAt)) (wc' := (zwM cI cC f q17.2 c_refused c_tape c_letter c_letterAt c_number c_taped c_at c_statements c_kept c_hasImage c_isKeeping c_cursor c_poled c_barred c_leapsTo c_leapsThen c_lands c_row c_rowMany c_endsAt)) ⟨hx, hb, hml, hown, hts⟩ hE hK hA hP hD hS [0, 1, 2, 3, 4, 5, 6, 7, 8, 9, 10, 11, 12, 13, 14, 15] rfl rfl rfl (mX4_comesFloe l dC dI cI cC sk f H.size ((5 : Int32) * p1) c_r c_refused c_tape c_letter c_letterAt c_number c_taped c_at c_statements c_kept c_hasImage c_isKeeping c_cursor c_poled c_barred c_leapsTo c_leapsThen c_lands c_row c_rowMany c_endsAt q17 e17) (cwV 1 hts gX4_comes_X4_comesFloe rfl rfl rfl (by decide +kernel) ⟨Nat.le_of_ble_eq_true rfl, Nat.le_of_ble_eq_true rfl⟩) (va_recv hK hP (ci := 4) (q0 := 0) rfl rfl) (As := [.int ((5 : Int32) * p1)]) (rest := []) rfl hl.1 rfl (Nat.le_of_ble_eq_true rfl) dX4_comes_17 ⟨Nat.zero_le _, Nat.zero_le _⟩ (fun H locs hP hD hS => ?_)
  have hP : va_P (dC, dI) vwCl (zwM cI cC f q17.2 c_refused c_tape c_letter c_letterAt c_number c_taped c_at c_statements c_kept c_hasImage c_isKeeping c_cursor c_poled c_barred c_leapsTo c_leapsThen c_lands c_row c_rowMany c_endsAt) H := hP
  have hD : va_D A (zwM cI cC f q17.2 c_refused c_tape c_letter c_letterAt c_number c_taped c_at c_statements c_kept c_hasImage c_isKeeping c_cursor c_poled c_barred c_leapsTo c_leapsThen c_lands c_row c_rowMany c_endsAt) := hD
  obtain ⟨hz, h⟩ := ckb_some h
  subst hQ
  exact retRW (zz := ((q17.1, q17.2) : Int32 × RT)) (fun z => z.1) (fun z => (zwM cI cC f z.2 c_refused c_tape c_letter c_letterAt c_number c_taped c_at c_statements c_kept c_hasImage c_isKeeping c_cursor c_poled c_barred c_leapsTo c_leapsThen c_lands c_row c_rowMany c_endsAt)) hx hb hr hlocks (ckb_n hz) hS h rfl hP dX4_comes_20
theorem dX4_passes_0 : decode cX4_passes 0 = .ok (.iconst 0, 1) := by decide +kernel
theorem dX4_passes_1 : decode cX4_passes 1 = .ok (.istore_n 2, 1) := by decide +kernel
theorem dX4_passes_2 : decode cX4_passes 2 = .ok (.iload_n 2, 1) := by decide +kernel
theorem dX4_passes_3 : decode cX4_passes 3 = .ok (.aload_n 1, 1) := by decide +kernel
theorem dX4_passes_4 : decode cX4_passes 4 = .ok (.arraylength, 1) := by decide +kernel
theorem dX4_passes_5 : decode cX4_passes 5 = .ok (.if_icmp .ge 53, 3) := by decide +kernel
theorem dX4_passes_8 : decode cX4_passes 8 = .ok (.aload_n 0, 1) := by decide +kernel
theorem dX4_passes_9 : decode cX4_passes 9 = .ok (.getfield 115, 3) := by decide +kernel
theorem dX4_passes_12 : decode cX4_passes 12 = .ok (.ifCond .eq 18, 3) := by decide +kernel
theorem dX4_passes_15 : decode cX4_passes 15 = .ok (.aload_n 0, 1) := by decide +kernel
theorem dX4_passes_16 : decode cX4_passes 16 = .ok (.getfield 44, 3) := by decide +kernel
theorem dX4_passes_19 : decode cX4_passes 19 = .ok (.aload_n 0, 1) := by decide +kernel
theorem dX4_passes_20 : decode cX4_passes 20 = .ok (.getfield 119, 3) := by decide +kernel
theorem dX4_passes_23 : decode cX4_passes 23 = .ok (.aload_n 1, 1) := by decide +kernel
theorem dX4_passes_24 : decode cX4_passes 24 = .ok (.iload_n 2, 1) := by decide +kernel
theorem dX4_passes_25 : decode cX4_passes 25 = .ok (.iaload, 1) := by decide +kernel
theorem dX4_passes_26 : decode cX4_passes 26 = .ok (.iastore, 1) := by decide +kernel
theorem dX4_passes_27 : decode cX4_passes 27 = .ok (.goto 15, 3) := by decide +kernel
theorem dX4_passes_30 : decode cX4_passes 30 = .ok (.aload_n 1, 1) := by decide +kernel
theorem dX4_passes_31 : decode cX4_passes 31 = .ok (.iload_n 2, 1) := by decide +kernel
theorem dX4_passes_32 : decode cX4_passes 32 = .ok (.aload_n 0, 1) := by decide +kernel
theorem dX4_passes_33 : decode cX4_passes 33 = .ok (.getfield 44, 3) := by decide +kernel
theorem dX4_passes_36 : decode cX4_passes 36 = .ok (.aload_n 0, 1) := by decide +kernel
theorem dX4_passes_37 : decode cX4_passes 37 = .ok (.getfield 119, 3) := by decide +kernel
theorem dX4_passes_40 : decode cX4_passes 40 = .ok (.iaload, 1) := by decide +kernel
theorem dX4_passes_41 : decode cX4_passes 41 = .ok (.iastore, 1) := by decide +kernel
theorem dX4_passes_42 : decode cX4_passes 42 = .ok (.aload_n 0, 1) := by decide +kernel
theorem dX4_passes_43 : decode cX4_passes 43 = .ok (.dup, 1) := by decide +kernel
theorem dX4_passes_44 : decode cX4_passes 44 = .ok (.getfield 119, 3) := by decide +kernel
theorem dX4_passes_47 : decode cX4_passes 47 = .ok (.iconst 1, 1) := by decide +kernel
theorem dX4_passes_48 : decode cX4_passes 48 = .ok (.iadd, 1) := by decide +kernel
theorem dX4_passes_49 : decode cX4_passes 49 = .ok (.putfield 119, 3) := by decide +kernel
theorem dX4_passes_52 : decode cX4_passes 52 = .ok (.iinc 2 1, 3) := by decide +kernel
theorem dX4_passes_55 : decode cX4_passes 55 = .ok (.goto (-53), 3) := by decide +kernel
theorem dX4_passes_58 : decode cX4_passes 58 = .ok (.return_, 1) := by decide +kernel
set_option maxHeartbeats 4000000 in
set_option maxRecDepth 100000 in
theorem mX4_passes_2 (l : Launch) (dC : Nat → ClassId) (dI : Nat → Nat → Nat) (cI cC : ClassId) (sk : (Nat → Nat) × (Nat → Nat)) (f : Nat → Nat) (sz : Nat)  (c_r : RT) (c_refused : AR) (c_tape : AR) (c_letter : AR) (c_letterAt : AR) (c_number : AR) (c_taped : Int32) (c_at : Int32) (c_statements : Int32) (c_kept : AR) (c_hasImage : Int32) (c_isKeeping : Int32) (c_cursor : Int32) (c_poled : Int32) (c_barred : Int32) (c_leapsTo : AR) (c_leapsThen : AR) (c_lands : AR) (c_row : AR) (c_rowMany : Int32) (c_endsAt : Int32) (z : RT × AR × Int32) (h : fX4_passes_2 c_r c_kept c_isKeeping c_cursor = some z) : cRV l yX4_passes wsX4_passes (RMk 0 0) sk (dC, dI) (tyz cI cC) sz (zwM cI cC f c_r c_refused c_tape c_letter c_letterAt c_number c_taped c_at c_statements c_kept c_hasImage c_isKeeping c_cursor c_poled c_barred c_leapsTo c_leapsThen c_lands c_row c_rowMany c_endsAt) (zwM cI cC f z.1 c_refused c_tape c_letter c_letterAt c_number c_taped c_at c_statements z.2.1 c_hasImage c_isKeeping z.2.2 c_poled c_barred c_leapsTo c_leapsThen c_lands c_row c_rowMany c_endsAt) [.ref (f 0), .ref (f 2)] := by
  refine ofRV (cc := cX4_passes) (maxL := 3) (ret := none) (own := RX4) (plainFor_of_name (by decide)) rfl rfl (Nat.le_of_ble_eq_true rfl) ?_
  intro p e s m args below meth c A hA hx hb hml hr hts hown hlocks hE hK hP hD hS ls hl
  generalize hQ : qRV _ _ _ _ _ _ = Q
  have hl : lv_has ls 3 [(0, .ref (f 0)), (1, .ref (f 2))] := hl
  have hiX4 : ∀ w ∈ wsX40, w ∈ wsX4_passes := fun w h => List.mem_cons_of_mem _ (List.mem_append_right _ h)
  have hw1 := hts (Cond.fieldLink RX4 115 "FloeToFloeModel" "isKeeping" "Z") (List.mem_of_getElem? (i := 1) rfl)
  have hw2 := hts (Cond.fieldLink RX4 44 "FloeToFloeModel" "kept" "[I") (List.mem_of_getElem? (i := 2) rfl)
  have hw3 := hts (Cond.fieldLink RX4 119 "FloeToFloeModel" "cursor" "I") (List.mem_of_getElem? (i := 3) rfl)
  rw [fX4_passes_2] at h
  refine lv_iconst (v := (0 : Int32)) hx hb dX4_passes_0 (by decide) ?_
  refine lv_istore_n (lv' := [(2, .int (0 : Int32)), (0, .ref (f 0)), (1, .ref (f 2))]) hx hb dX4_passes_1 rfl hl (by decide) rfl (fun ls hl => ?_)
  have L2 : ∀ (K2 : RT → AR → Int32 → Option (RT × AR × Int32)), (∀ (k2_r : RT) (k2_kept : AR) (k2_cursor : Int32), K2 k2_r k2_kept k2_cursor = some z → ∀ (H : Heap) (locs : List Loc) (ls : Array Slot), va_P (dC, dI) vwCl (zwM cI cC f k2_r c_refused c_tape c_letter c_letterAt c_number c_taped c_at c_statements k2_kept c_hasImage c_isKeeping k2_cursor c_poled c_barred c_leapsTo c_leapsThen c_lands c_row c_rowMany c_endsAt) H → va_D A (zwM cI cC f k2_r c_refused c_tape c_letter c_letterAt c_number c_taped c_at c_statements k2_kept c_hasImage c_isKeeping k2_cursor c_poled c_barred c_leapsTo c_leapsThen c_lands c_row c_rowMany c_endsAt) → va_S A s.heap H locs → lv_has ls 3 [] → W p l e (RMk 0 0) s m args below meth c H locs 0 0 Q (F0 m 58 ls [])) → ∀ (n : Nat) (x2_2 : Int32) (x2_r : RT) (x2_kept : AR) (x2_cursor : Int32), fX4_passes_2_L2 c_isKeeping K2 n x2_2 x2_r x2_kept x2_cursor = some z → ∀ (H : Heap) (locs : List Loc) (ls : Array Slot), va_P (dC, dI) vwCl (zwM cI cC f x2_r c_refused c_tape c_letter c_letterAt c_number c_taped c_at c_statements x2_kept c_hasImage c_isKeeping x2_cursor c_poled c_barred c_leapsTo c_leapsThen c_lands c_row c_rowMany c_endsAt) H → va_D A (zwM cI cC f x2_r c_refused c_tape c_letter c_letterAt c_number c_taped c_at c_statements x2_kept c_hasImage c_isKeeping x2_cursor c_poled c_barred c_leapsTo c_leapsThen c_lands c_row c_rowMany c_endsAt) → va_S A s.heap H locs → lv_has ls 3 [(0, .ref (f 0)), (1, .ref (f 2)), (2, .int x2_2)] → W p l e (RMk 0 0) s m args below meth c H locs 0 0 Q (F0 m 2 ls []) := by
    intro K2 kx2 n
    induction n with
    | zero => intro x2_2 x2_r x2_kept x2_cursor h; rw [fX4_passes_2_L2] at h; cases h
    | succ n ih2 =>
      intro x2_2 x2_r x2_kept x2_cursor h H locs ls hP hD hS hl
      rw [fX4_passes_2_L2] at h
      refine lv_iload_n hx hb dX4_passes_2 rfl (lv_at hl 2 rfl) ?_
      refine lv_aload_n hx hb dX4_passes_3 rfl (lv_at hl 1 rfl) ?_
      refine va_alen hx hb hK hP 2 0 rfl rfl (v := (8 : Int32)) rfl dX4_passes_4 ?_
      refine lv_icmp_ge (tgt := 58) hx hb dX4_passes_5 (by decide) (fun c5 => ?_) (fun c5 => ?_)
      · have h := itT c5 h
        exact kx2 _ _ _ h _ _ _ hP hD hS (lv_sub hl [] rfl)
      have h := itF c5 h
      refine lv_aload_n hx hb dX4_passes_8 rfl (lv_at hl 0 rfl) ?_
      refine va_get (D := (dC, dI)) (ci := 4) (v := .int c_isKeeping) (C := RX4) (T := TX4) (N := 28) hx hb hts hiX4 hown hK hP 0 rfl rfl 18 (by decide) hw1 (fun _ h9 => h9) rfl dX4_passes_9 ?_
      refine jnW (fun (v42 : RT × AR) => ∀ (H : Heap) (locs : List Loc) (ls : Array Slot), va_P (dC, dI) vwCl (zwM cI cC f v42.1 c_refused c_tape c_letter c_letterAt c_number c_taped c_at c_statements v42.2 c_hasImage c_isKeeping x2_cursor c_poled c_barred c_leapsTo c_leapsThen c_lands c_row c_rowMany c_endsAt) H → va_D A (zwM cI cC f v42.1 c_refused c_tape c_letter c_letterAt c_number c_taped c_at c_statements v42.2 c_hasImage c_isKeeping x2_cursor c_poled c_barred c_leapsTo c_leapsThen c_lands c_row c_rowMany c_endsAt) → va_S A s.heap H locs → lv_has ls 3 [(0, .ref (f 0)), (1, .ref (f 2)), (2, .int x2_2)] → W p l e (RMk 0 0) s m args below meth c H locs 0 0 Q (F0 m 42 ls [])) h (fun v42 h H locs ls hP hD hS hl => ?_) (fun J42 j42 h => ?_)
      · refine lv_aload_n hx hb dX4_passes_42 rfl (lv_at hl 0 rfl) ?_
        refine lv_dup hx hb dX4_passes_43 rfl ?_
        refine va_get (D := (dC, dI)) (ci := 4) (v := .int x2_cursor) (C := RX4) (T := TX4) (N := 28) hx hb hts hiX4 hown hK hP 0 rfl rfl 19 (by decide) hw3 (fun _ h9 => h9) rfl dX4_passes_44 ?_
        refine lv_iconst (v := (1 : Int32)) hx hb dX4_passes_47 (by decide) ?_
        refine lv_iadd hx hb dX4_passes_48 ?_
        refine va_put (D := (dC, dI)) (ci := 4) (v := .int (x2_cursor + (1 : Int32))) (ty := .int) (C := RX4) (T := TX4) (N := 28) hx hb hts hiX4 tyX4 tyX4_ok nmX4 hown hK hP hD hS 0 rfl rfl 19 (by decide) hw3 (fun _ h9 => h9) rfl (by decide +kernel) rfl rfl (Nat.le_of_ble_eq_true rfl) dX4_passes_49 (fun H locs hP hD hS => ?_)
        have hP : va_P (dC, dI) vwCl (zwM cI cC f v42.1 c_refused c_tape c_letter c_letterAt c_number c_taped c_at c_statements v42.2 c_hasImage c_isKeeping (x2_cursor + (1 : Int32)) c_poled c_barred c_leapsTo c_leapsThen c_lands c_row c_rowMany c_endsAt) H := hP
        have hD : va_D A (zwM cI cC f v42.1 c_refused c_tape c_letter c_letterAt c_number c_taped c_at c_statements v42.2 c_hasImage c_isKeeping (x2_cursor + (1 : Int32)) c_poled c_barred c_leapsTo c_leapsThen c_lands c_row c_rowMany c_endsAt) := hD
        refine lv_iinc (v := (x2_2 + (1 : Int32))) (lv' := [(2, .int (x2_2 + (1 : Int32))), (0, .ref (f 0)), (1, .ref (f 2))]) hx hb dX4_passes_52 hl (k := 2) rfl rfl (by decide) rfl (fun ls hl => ?_)
        refine lv_goto (tgt := 2) hx hb dX4_passes_55 (by decide) ?_
        exact ih2 _ _ _ _ h _ _ _ hP hD hS (lv_sub hl [1, 2, 0] rfl)
      refine lv_if_eq (tgt := 30) hx hb dX4_passes_12 (by decide) (fun c12 => ?_) (fun c12 => ?_)
      · have h := itT c12 h
        refine lv_aload_n hx hb dX4_passes_30 rfl (lv_at hl 1 rfl) ?_
        refine lv_iload_n hx hb dX4_passes_31 rfl (lv_at hl 2 rfl) ?_
        refine lv_aload_n hx hb dX4_passes_32 rfl (lv_at hl 0 rfl) ?_
        refine va_get (D := (dC, dI)) (ci := 4) (v := .ref (f 11)) (C := RX4) (T := TX4) (N := 28) hx hb hts hiX4 hown hK hP 0 rfl rfl 16 (by decide) hw2 (fun _ h9 => h9) rfl dX4_passes_33 ?_
        refine lv_aload_n hx hb dX4_passes_36 rfl (lv_at hl 0 rfl) ?_
        refine va_get (D := (dC, dI)) (ci := 4) (v := .int x2_cursor) (C := RX4) (T := TX4) (N := 28) hx hb hts hiX4 hown hK hP 0 rfl rfl 19 (by decide) hw3 (fun _ h9 => h9) rfl dX4_passes_37 ?_
        obtain ⟨hin, h⟩ := ck_some h
        refine va_iald hx hb hK hP 11 0 rfl rfl hin dX4_passes_40 ?_
        obtain ⟨hin, h⟩ := ck_some h
        refine va_iast hx hb hK hP hD hS 2 0 rfl rfl hin dX4_passes_41 (fun H locs hP hD hS => ?_)
        have hP : va_P (dC, dI) vwCl (zwM cI cC f (R_setKinds x2_r (upd (R_kinds x2_r) (x2_2).toNatClampNeg (x2_kept (x2_cursor).toNatClampNeg))) c_refused c_tape c_letter c_letterAt c_number c_taped c_at c_statements x2_kept c_hasImage c_isKeeping x2_cursor c_poled c_barred c_leapsTo c_leapsThen c_lands c_row c_rowMany c_endsAt) H := hP
        have hD : va_D A (zwM cI cC f (R_setKinds x2_r (upd (R_kinds x2_r) (x2_2).toNatClampNeg (x2_kept (x2_cursor).toNatClampNeg))) c_refused c_tape c_letter c_letterAt c_number c_taped c_at c_statements x2_kept c_hasImage c_isKeeping x2_cursor c_poled c_barred c_leapsTo c_leapsThen c_lands c_row c_rowMany c_endsAt) := hD
        exact j42 _ h _ _ _ hP hD hS (lv_sub hl [0, 1, 2] rfl)
      have h := itF c12 h
      refine lv_aload_n hx hb dX4_passes_15 rfl (lv_at hl 0 rfl) ?_
      refine va_get (D := (dC, dI)) (ci := 4) (v := .ref (f 11)) (C := RX4) (T := TX4) (N := 28) hx hb hts hiX4 hown hK hP 0 rfl rfl 16 (by decide) hw2 (fun _ h9 => h9) rfl dX4_passes_16 ?_
      refine lv_aload_n hx hb dX4_passes_19 rfl (lv_at hl 0 rfl) ?_
      refine va_get (D := (dC, dI)) (ci := 4) (v := .int x2_cursor) (C := RX4) (T := TX4) (N := 28) hx hb hts hiX4 hown hK hP 0 rfl rfl 19 (by decide) hw3 (fun _ h9 => h9) rfl dX4_passes_20 ?_
      refine lv_aload_n hx hb dX4_passes_23 rfl (lv_at hl 1 rfl) ?_
      refine lv_iload_n hx hb dX4_passes_24 rfl (lv_at hl 2 rfl) ?_
      obtain ⟨hin, h⟩ := ck_some h
      refine va_iald hx hb hK hP 2 0 rfl rfl hin dX4_passes_25 ?_
      obtain ⟨hin, h⟩ := ck_some h
      refine va_iast hx hb hK hP hD hS 11 0 rfl rfl hin dX4_passes_26 (fun H locs hP hD hS => ?_)
      have hP : va_P (dC, dI) vwCl (zwM cI cC f x2_r c_refused c_tape c_letter c_letterAt c_number c_taped c_at c_statements (upd x2_kept (x2_cursor).toNatClampNeg ((R_kinds x2_r) (x2_2).toNatClampNeg)) c_hasImage c_isKeeping x2_cursor c_poled c_barred c_leapsTo c_leapsThen c_lands c_row c_rowMany c_endsAt) H := hP
      have hD : va_D A (zwM cI cC f x2_r c_refused c_tape c_letter c_letterAt c_number c_taped c_at c_statements (upd x2_kept (x2_cursor).toNatClampNeg ((R_kinds x2_r) (x2_2).toNatClampNeg)) c_hasImage c_isKeeping x2_cursor c_poled c_barred c_leapsTo c_leapsThen c_lands c_row c_rowMany c_endsAt) := hD
      refine lv_goto (tgt := 42) hx hb dX4_passes_27 (by decide) ?_
      exact j42 _ h _ _ _ hP hD hS (lv_sub hl [0, 1, 2] rfl)
  refine L2 _ (fun k2_r k2_kept k2_cursor h H locs ls hP hD hS hl => ?_) _ _ _ _ _ h _ _ _ hP hD hS (lv_sub hl [1, 2, 0] rfl)
  subst hQ
  exact retRV (zz := ((k2_r, k2_kept, k2_cursor) : RT × AR × Int32)) (fun z => (zwM cI cC f z.1 c_refused c_tape c_letter c_letterAt c_number c_taped c_at c_statements z.2.1 c_hasImage c_isKeeping z.2.2 c_poled c_barred c_leapsTo c_leapsThen c_lands c_row c_rowMany c_endsAt)) hx hb hr hlocks hS h hP dX4_passes_58
set_option maxHeartbeats 4000000 in
set_option maxRecDepth 100000 in
theorem mX4_passes_3 (l : Launch) (dC : Nat → ClassId) (dI : Nat → Nat → Nat) (cI cC : ClassId) (sk : (Nat → Nat) × (Nat → Nat)) (f : Nat → Nat) (sz : Nat)  (c_r : RT) (c_refused : AR) (c_tape : AR) (c_letter : AR) (c_letterAt : AR) (c_number : AR) (c_taped : Int32) (c_at : Int32) (c_statements : Int32) (c_kept : AR) (c_hasImage : Int32) (c_isKeeping : Int32) (c_cursor : Int32) (c_poled : Int32) (c_barred : Int32) (c_leapsTo : AR) (c_leapsThen : AR) (c_lands : AR) (c_row : AR) (c_rowMany : Int32) (c_endsAt : Int32) (z : RT × AR × Int32) (h : fX4_passes_3 c_r c_kept c_isKeeping c_cursor = some z) : cRV l yX4_passes wsX4_passes (RMk 0 0) sk (dC, dI) (tyz cI cC) sz (zwM cI cC f c_r c_refused c_tape c_letter c_letterAt c_number c_taped c_at c_statements c_kept c_hasImage c_isKeeping c_cursor c_poled c_barred c_leapsTo c_leapsThen c_lands c_row c_rowMany c_endsAt) (zwM cI cC f z.1 c_refused c_tape c_letter c_letterAt c_number c_taped c_at c_statements z.2.1 c_hasImage c_isKeeping z.2.2 c_poled c_barred c_leapsTo c_leapsThen c_lands c_row c_rowMany c_endsAt) [.ref (f 0), .ref (f 3)] := by
  refine ofRV (cc := cX4_passes) (maxL := 3) (ret := none) (own := RX4) (plainFor_of_name (by decide)) rfl rfl (Nat.le_of_ble_eq_true rfl) ?_
  intro p e s m args below meth c A hA hx hb hml hr hts hown hlocks hE hK hP hD hS ls hl
  generalize hQ : qRV _ _ _ _ _ _ = Q
  have hl : lv_has ls 3 [(0, .ref (f 0)), (1, .ref (f 3))] := hl
  have hiX4 : ∀ w ∈ wsX40, w ∈ wsX4_passes := fun w h => List.mem_cons_of_mem _ (List.mem_append_right _ h)
  have hw1 := hts (Cond.fieldLink RX4 115 "FloeToFloeModel" "isKeeping" "Z") (List.mem_of_getElem? (i := 1) rfl)
  have hw2 := hts (Cond.fieldLink RX4 44 "FloeToFloeModel" "kept" "[I") (List.mem_of_getElem? (i := 2) rfl)
  have hw3 := hts (Cond.fieldLink RX4 119 "FloeToFloeModel" "cursor" "I") (List.mem_of_getElem? (i := 3) rfl)
  rw [fX4_passes_3] at h
  refine lv_iconst (v := (0 : Int32)) hx hb dX4_passes_0 (by decide) ?_
  refine lv_istore_n (lv' := [(2, .int (0 : Int32)), (0, .ref (f 0)), (1, .ref (f 3))]) hx hb dX4_passes_1 rfl hl (by decide) rfl (fun ls hl => ?_)
  have L2 : ∀ (K2 : RT → AR → Int32 → Option (RT × AR × Int32)), (∀ (k2_r : RT) (k2_kept : AR) (k2_cursor : Int32), K2 k2_r k2_kept k2_cursor = some z → ∀ (H : Heap) (locs : List Loc) (ls : Array Slot), va_P (dC, dI) vwCl (zwM cI cC f k2_r c_refused c_tape c_letter c_letterAt c_number c_taped c_at c_statements k2_kept c_hasImage c_isKeeping k2_cursor c_poled c_barred c_leapsTo c_leapsThen c_lands c_row c_rowMany c_endsAt) H → va_D A (zwM cI cC f k2_r c_refused c_tape c_letter c_letterAt c_number c_taped c_at c_statements k2_kept c_hasImage c_isKeeping k2_cursor c_poled c_barred c_leapsTo c_leapsThen c_lands c_row c_rowMany c_endsAt) → va_S A s.heap H locs → lv_has ls 3 [] → W p l e (RMk 0 0) s m args below meth c H locs 0 0 Q (F0 m 58 ls [])) → ∀ (n : Nat) (x2_2 : Int32) (x2_r : RT) (x2_kept : AR) (x2_cursor : Int32), fX4_passes_3_L2 c_isKeeping K2 n x2_2 x2_r x2_kept x2_cursor = some z → ∀ (H : Heap) (locs : List Loc) (ls : Array Slot), va_P (dC, dI) vwCl (zwM cI cC f x2_r c_refused c_tape c_letter c_letterAt c_number c_taped c_at c_statements x2_kept c_hasImage c_isKeeping x2_cursor c_poled c_barred c_leapsTo c_leapsThen c_lands c_row c_rowMany c_endsAt) H → va_D A (zwM cI cC f x2_r c_refused c_tape c_letter c_letterAt c_number c_taped c_at c_statements x2_kept c_hasImage c_isKeeping x2_cursor c_poled c_barred c_leapsTo c_leapsThen c_lands c_row c_rowMany c_endsAt) → va_S A s.heap H locs → lv_has ls 3 [(0, .ref (f 0)), (1, .ref (f 3)), (2, .int x2_2)] → W p l e (RMk 0 0) s m args below meth c H locs 0 0 Q (F0 m 2 ls []) := by
    intro K2 kx2 n
    induction n with
    | zero => intro x2_2 x2_r x2_kept x2_cursor h; rw [fX4_passes_3_L2] at h; cases h
    | succ n ih2 =>
      intro x2_2 x2_r x2_kept x2_cursor h H locs ls hP hD hS hl
      rw [fX4_passes_3_L2] at h
      refine lv_iload_n hx hb dX4_passes_2 rfl (lv_at hl 2 rfl) ?_
      refine lv_aload_n hx hb dX4_passes_3 rfl (lv_at hl 1 rfl) ?_
      refine va_alen hx hb hK hP 3 0 rfl rfl (v := (8 : Int32)) rfl dX4_passes_4 ?_
      refine lv_icmp_ge (tgt := 58) hx hb dX4_passes_5 (by decide) (fun c5 => ?_) (fun c5 => ?_)
      · have h := itT c5 h
        exact kx2 _ _ _ h _ _ _ hP hD hS (lv_sub hl [] rfl)
      have h := itF c5 h
      refine lv_aload_n hx hb dX4_passes_8 rfl (lv_at hl 0 rfl) ?_
      refine va_get (D := (dC, dI)) (ci := 4) (v := .int c_isKeeping) (C := RX4) (T := TX4) (N := 28) hx hb hts hiX4 hown hK hP 0 rfl rfl 18 (by decide) hw1 (fun _ h9 => h9) rfl dX4_passes_9 ?_
      refine jnW (fun (v42 : RT × AR) => ∀ (H : Heap) (locs : List Loc) (ls : Array Slot), va_P (dC, dI) vwCl (zwM cI cC f v42.1 c_refused c_tape c_letter c_letterAt c_number c_taped c_at c_statements v42.2 c_hasImage c_isKeeping x2_cursor c_poled c_barred c_leapsTo c_leapsThen c_lands c_row c_rowMany c_endsAt) H → va_D A (zwM cI cC f v42.1 c_refused c_tape c_letter c_letterAt c_number c_taped c_at c_statements v42.2 c_hasImage c_isKeeping x2_cursor c_poled c_barred c_leapsTo c_leapsThen c_lands c_row c_rowMany c_endsAt) → va_S A s.heap H locs → lv_has ls 3 [(0, .ref (f 0)), (1, .ref (f 3)), (2, .int x2_2)] → W p l e (RMk 0 0) s m args below meth c H locs 0 0 Q (F0 m 42 ls [])) h (fun v42 h H locs ls hP hD hS hl => ?_) (fun J42 j42 h => ?_)
      · refine lv_aload_n hx hb dX4_passes_42 rfl (lv_at hl 0 rfl) ?_
        refine lv_dup hx hb dX4_passes_43 rfl ?_
        refine va_get (D := (dC, dI)) (ci := 4) (v := .int x2_cursor) (C := RX4) (T := TX4) (N := 28) hx hb hts hiX4 hown hK hP 0 rfl rfl 19 (by decide) hw3 (fun _ h9 => h9) rfl dX4_passes_44 ?_
        refine lv_iconst (v := (1 : Int32)) hx hb dX4_passes_47 (by decide) ?_
        refine lv_iadd hx hb dX4_passes_48 ?_
        refine va_put (D := (dC, dI)) (ci := 4) (v := .int (x2_cursor + (1 : Int32))) (ty := .int) (C := RX4) (T := TX4) (N := 28) hx hb hts hiX4 tyX4 tyX4_ok nmX4 hown hK hP hD hS 0 rfl rfl 19 (by decide) hw3 (fun _ h9 => h9) rfl (by decide +kernel) rfl rfl (Nat.le_of_ble_eq_true rfl) dX4_passes_49 (fun H locs hP hD hS => ?_)
        have hP : va_P (dC, dI) vwCl (zwM cI cC f v42.1 c_refused c_tape c_letter c_letterAt c_number c_taped c_at c_statements v42.2 c_hasImage c_isKeeping (x2_cursor + (1 : Int32)) c_poled c_barred c_leapsTo c_leapsThen c_lands c_row c_rowMany c_endsAt) H := hP
        have hD : va_D A (zwM cI cC f v42.1 c_refused c_tape c_letter c_letterAt c_number c_taped c_at c_statements v42.2 c_hasImage c_isKeeping (x2_cursor + (1 : Int32)) c_poled c_barred c_leapsTo c_leapsThen c_lands c_row c_rowMany c_endsAt) := hD
        refine lv_iinc (v := (x2_2 + (1 : Int32))) (lv' := [(2, .int (x2_2 + (1 : Int32))), (0, .ref (f 0)), (1, .ref (f 3))]) hx hb dX4_passes_52 hl (k := 2) rfl rfl (by decide) rfl (fun ls hl => ?_)
        refine lv_goto (tgt := 2) hx hb dX4_passes_55 (by decide) ?_
        exact ih2 _ _ _ _ h _ _ _ hP hD hS (lv_sub hl [1, 2, 0] rfl)
      refine lv_if_eq (tgt := 30) hx hb dX4_passes_12 (by decide) (fun c12 => ?_) (fun c12 => ?_)
      · have h := itT c12 h
        refine lv_aload_n hx hb dX4_passes_30 rfl (lv_at hl 1 rfl) ?_
        refine lv_iload_n hx hb dX4_passes_31 rfl (lv_at hl 2 rfl) ?_
        refine lv_aload_n hx hb dX4_passes_32 rfl (lv_at hl 0 rfl) ?_
        refine va_get (D := (dC, dI)) (ci := 4) (v := .ref (f 11)) (C := RX4) (T := TX4) (N := 28) hx hb hts hiX4 hown hK hP 0 rfl rfl 16 (by decide) hw2 (fun _ h9 => h9) rfl dX4_passes_33 ?_
        refine lv_aload_n hx hb dX4_passes_36 rfl (lv_at hl 0 rfl) ?_
        refine va_get (D := (dC, dI)) (ci := 4) (v := .int x2_cursor) (C := RX4) (T := TX4) (N := 28) hx hb hts hiX4 hown hK hP 0 rfl rfl 19 (by decide) hw3 (fun _ h9 => h9) rfl dX4_passes_37 ?_
        obtain ⟨hin, h⟩ := ck_some h
        refine va_iald hx hb hK hP 11 0 rfl rfl hin dX4_passes_40 ?_
        obtain ⟨hin, h⟩ := ck_some h
        refine va_iast hx hb hK hP hD hS 3 0 rfl rfl hin dX4_passes_41 (fun H locs hP hD hS => ?_)
        have hP : va_P (dC, dI) vwCl (zwM cI cC f (R_setHomes x2_r (upd (R_homes x2_r) (x2_2).toNatClampNeg (x2_kept (x2_cursor).toNatClampNeg))) c_refused c_tape c_letter c_letterAt c_number c_taped c_at c_statements x2_kept c_hasImage c_isKeeping x2_cursor c_poled c_barred c_leapsTo c_leapsThen c_lands c_row c_rowMany c_endsAt) H := hP
        have hD : va_D A (zwM cI cC f (R_setHomes x2_r (upd (R_homes x2_r) (x2_2).toNatClampNeg (x2_kept (x2_cursor).toNatClampNeg))) c_refused c_tape c_letter c_letterAt c_number c_taped c_at c_statements x2_kept c_hasImage c_isKeeping x2_cursor c_poled c_barred c_leapsTo c_leapsThen c_lands c_row c_rowMany c_endsAt) := hD
        exact j42 _ h _ _ _ hP hD hS (lv_sub hl [0, 1, 2] rfl)
      have h := itF c12 h
      refine lv_aload_n hx hb dX4_passes_15 rfl (lv_at hl 0 rfl) ?_
      refine va_get (D := (dC, dI)) (ci := 4) (v := .ref (f 11)) (C := RX4) (T := TX4) (N := 28) hx hb hts hiX4 hown hK hP 0 rfl rfl 16 (by decide) hw2 (fun _ h9 => h9) rfl dX4_passes_16 ?_
      refine lv_aload_n hx hb dX4_passes_19 rfl (lv_at hl 0 rfl) ?_
      refine va_get (D := (dC, dI)) (ci := 4) (v := .int x2_cursor) (C := RX4) (T := TX4) (N := 28) hx hb hts hiX4 hown hK hP 0 rfl rfl 19 (by decide) hw3 (fun _ h9 => h9) rfl dX4_passes_20 ?_
      refine lv_aload_n hx hb dX4_passes_23 rfl (lv_at hl 1 rfl) ?_
      refine lv_iload_n hx hb dX4_passes_24 rfl (lv_at hl 2 rfl) ?_
      obtain ⟨hin, h⟩ := ck_some h
      refine va_iald hx hb hK hP 3 0 rfl rfl hin dX4_passes_25 ?_
      obtain ⟨hin, h⟩ := ck_some h
      refine va_iast hx hb hK hP hD hS 11 0 rfl rfl hin dX4_passes_26 (fun H locs hP hD hS => ?_)
      have hP : va_P (dC, dI) vwCl (zwM cI cC f x2_r c_refused c_tape c_letter c_letterAt c_number c_taped c_at c_statements (upd x2_kept (x2_cursor).toNatClampNeg ((R_homes x2_r) (x2_2).toNatClampNeg)) c_hasImage c_isKeeping x2_cursor c_poled c_barred c_leapsTo c_leapsThen c_lands c_row c_rowMany c_endsAt) H := hP
      have hD : va_D A (zwM cI cC f x2_r c_refused c_tape c_letter c_letterAt c_number c_taped c_at c_statements (upd x2_kept (x2_cursor).toNatClampNeg ((R_homes x2_r) (x2_2).toNatClampNeg)) c_hasImage c_isKeeping x2_cursor c_poled c_barred c_leapsTo c_leapsThen c_lands c_row c_rowMany c_endsAt) := hD
      refine lv_goto (tgt := 42) hx hb dX4_passes_27 (by decide) ?_
      exact j42 _ h _ _ _ hP hD hS (lv_sub hl [0, 1, 2] rfl)
  refine L2 _ (fun k2_r k2_kept k2_cursor h H locs ls hP hD hS hl => ?_) _ _ _ _ _ h _ _ _ hP hD hS (lv_sub hl [1, 2, 0] rfl)
  subst hQ
  exact retRV (zz := ((k2_r, k2_kept, k2_cursor) : RT × AR × Int32)) (fun z => (zwM cI cC f z.1 c_refused c_tape c_letter c_letterAt c_number c_taped c_at c_statements z.2.1 c_hasImage c_isKeeping z.2.2 c_poled c_barred c_leapsTo c_leapsThen c_lands c_row c_rowMany c_endsAt)) hx hb hr hlocks hS h hP dX4_passes_58
set_option maxHeartbeats 4000000 in
set_option maxRecDepth 100000 in
theorem mX4_passes_4 (l : Launch) (dC : Nat → ClassId) (dI : Nat → Nat → Nat) (cI cC : ClassId) (sk : (Nat → Nat) × (Nat → Nat)) (f : Nat → Nat) (sz : Nat)  (c_r : RT) (c_refused : AR) (c_tape : AR) (c_letter : AR) (c_letterAt : AR) (c_number : AR) (c_taped : Int32) (c_at : Int32) (c_statements : Int32) (c_kept : AR) (c_hasImage : Int32) (c_isKeeping : Int32) (c_cursor : Int32) (c_poled : Int32) (c_barred : Int32) (c_leapsTo : AR) (c_leapsThen : AR) (c_lands : AR) (c_row : AR) (c_rowMany : Int32) (c_endsAt : Int32) (z : RT × AR × Int32) (h : fX4_passes_4 c_r c_kept c_isKeeping c_cursor = some z) : cRV l yX4_passes wsX4_passes (RMk 0 0) sk (dC, dI) (tyz cI cC) sz (zwM cI cC f c_r c_refused c_tape c_letter c_letterAt c_number c_taped c_at c_statements c_kept c_hasImage c_isKeeping c_cursor c_poled c_barred c_leapsTo c_leapsThen c_lands c_row c_rowMany c_endsAt) (zwM cI cC f z.1 c_refused c_tape c_letter c_letterAt c_number c_taped c_at c_statements z.2.1 c_hasImage c_isKeeping z.2.2 c_poled c_barred c_leapsTo c_leapsThen c_lands c_row c_rowMany c_endsAt) [.ref (f 0), .ref (f 4)] := by
  refine ofRV (cc := cX4_passes) (maxL := 3) (ret := none) (own := RX4) (plainFor_of_name (by decide)) rfl rfl (Nat.le_of_ble_eq_true rfl) ?_
  intro p e s m args below meth c A hA hx hb hml hr hts hown hlocks hE hK hP hD hS ls hl
  generalize hQ : qRV _ _ _ _ _ _ = Q
  have hl : lv_has ls 3 [(0, .ref (f 0)), (1, .ref (f 4))] := hl
  have hiX4 : ∀ w ∈ wsX40, w ∈ wsX4_passes := fun w h => List.mem_cons_of_mem _ (List.mem_append_right _ h)
  have hw1 := hts (Cond.fieldLink RX4 115 "FloeToFloeModel" "isKeeping" "Z") (List.mem_of_getElem? (i := 1) rfl)
  have hw2 := hts (Cond.fieldLink RX4 44 "FloeToFloeModel" "kept" "[I") (List.mem_of_getElem? (i := 2) rfl)
  have hw3 := hts (Cond.fieldLink RX4 119 "FloeToFloeModel" "cursor" "I") (List.mem_of_getElem? (i := 3) rfl)
  rw [fX4_passes_4] at h
  refine lv_iconst (v := (0 : Int32)) hx hb dX4_passes_0 (by decide) ?_
  refine lv_istore_n (lv' := [(2, .int (0 : Int32)), (0, .ref (f 0)), (1, .ref (f 4))]) hx hb dX4_passes_1 rfl hl (by decide) rfl (fun ls hl => ?_)
  have L2 : ∀ (K2 : RT → AR → Int32 → Option (RT × AR × Int32)), (∀ (k2_r : RT) (k2_kept : AR) (k2_cursor : Int32), K2 k2_r k2_kept k2_cursor = some z → ∀ (H : Heap) (locs : List Loc) (ls : Array Slot), va_P (dC, dI) vwCl (zwM cI cC f k2_r c_refused c_tape c_letter c_letterAt c_number c_taped c_at c_statements k2_kept c_hasImage c_isKeeping k2_cursor c_poled c_barred c_leapsTo c_leapsThen c_lands c_row c_rowMany c_endsAt) H → va_D A (zwM cI cC f k2_r c_refused c_tape c_letter c_letterAt c_number c_taped c_at c_statements k2_kept c_hasImage c_isKeeping k2_cursor c_poled c_barred c_leapsTo c_leapsThen c_lands c_row c_rowMany c_endsAt) → va_S A s.heap H locs → lv_has ls 3 [] → W p l e (RMk 0 0) s m args below meth c H locs 0 0 Q (F0 m 58 ls [])) → ∀ (n : Nat) (x2_2 : Int32) (x2_r : RT) (x2_kept : AR) (x2_cursor : Int32), fX4_passes_4_L2 c_isKeeping K2 n x2_2 x2_r x2_kept x2_cursor = some z → ∀ (H : Heap) (locs : List Loc) (ls : Array Slot), va_P (dC, dI) vwCl (zwM cI cC f x2_r c_refused c_tape c_letter c_letterAt c_number c_taped c_at c_statements x2_kept c_hasImage c_isKeeping x2_cursor c_poled c_barred c_leapsTo c_leapsThen c_lands c_row c_rowMany c_endsAt) H → va_D A (zwM cI cC f x2_r c_refused c_tape c_letter c_letterAt c_number c_taped c_at c_statements x2_kept c_hasImage c_isKeeping x2_cursor c_poled c_barred c_leapsTo c_leapsThen c_lands c_row c_rowMany c_endsAt) → va_S A s.heap H locs → lv_has ls 3 [(0, .ref (f 0)), (1, .ref (f 4)), (2, .int x2_2)] → W p l e (RMk 0 0) s m args below meth c H locs 0 0 Q (F0 m 2 ls []) := by
    intro K2 kx2 n
    induction n with
    | zero => intro x2_2 x2_r x2_kept x2_cursor h; rw [fX4_passes_4_L2] at h; cases h
    | succ n ih2 =>
      intro x2_2 x2_r x2_kept x2_cursor h H locs ls hP hD hS hl
      rw [fX4_passes_4_L2] at h
      refine lv_iload_n hx hb dX4_passes_2 rfl (lv_at hl 2 rfl) ?_
      refine lv_aload_n hx hb dX4_passes_3 rfl (lv_at hl 1 rfl) ?_
      refine va_alen hx hb hK hP 4 0 rfl rfl (v := (8 : Int32)) rfl dX4_passes_4 ?_
      refine lv_icmp_ge (tgt := 58) hx hb dX4_passes_5 (by decide) (fun c5 => ?_) (fun c5 => ?_)
      · have h := itT c5 h
        exact kx2 _ _ _ h _ _ _ hP hD hS (lv_sub hl [] rfl)
      have h := itF c5 h
      refine lv_aload_n hx hb dX4_passes_8 rfl (lv_at hl 0 rfl) ?_
      refine va_get (D := (dC, dI)) (ci := 4) (v := .int c_isKeeping) (C := RX4) (T := TX4) (N := 28) hx hb hts hiX4 hown hK hP 0 rfl rfl 18 (by decide) hw1 (fun _ h9 => h9) rfl dX4_passes_9 ?_
      refine jnW (fun (v42 : RT × AR) => ∀ (H : Heap) (locs : List Loc) (ls : Array Slot), va_P (dC, dI) vwCl (zwM cI cC f v42.1 c_refused c_tape c_letter c_letterAt c_number c_taped c_at c_statements v42.2 c_hasImage c_isKeeping x2_cursor c_poled c_barred c_leapsTo c_leapsThen c_lands c_row c_rowMany c_endsAt) H → va_D A (zwM cI cC f v42.1 c_refused c_tape c_letter c_letterAt c_number c_taped c_at c_statements v42.2 c_hasImage c_isKeeping x2_cursor c_poled c_barred c_leapsTo c_leapsThen c_lands c_row c_rowMany c_endsAt) → va_S A s.heap H locs → lv_has ls 3 [(0, .ref (f 0)), (1, .ref (f 4)), (2, .int x2_2)] → W p l e (RMk 0 0) s m args below meth c H locs 0 0 Q (F0 m 42 ls [])) h (fun v42 h H locs ls hP hD hS hl => ?_) (fun J42 j42 h => ?_)
      · refine lv_aload_n hx hb dX4_passes_42 rfl (lv_at hl 0 rfl) ?_
        refine lv_dup hx hb dX4_passes_43 rfl ?_
        refine va_get (D := (dC, dI)) (ci := 4) (v := .int x2_cursor) (C := RX4) (T := TX4) (N := 28) hx hb hts hiX4 hown hK hP 0 rfl rfl 19 (by decide) hw3 (fun _ h9 => h9) rfl dX4_passes_44 ?_
        refine lv_iconst (v := (1 : Int32)) hx hb dX4_passes_47 (by decide) ?_
        refine lv_iadd hx hb dX4_passes_48 ?_
        refine va_put (D := (dC, dI)) (ci := 4) (v := .int (x2_cursor + (1 : Int32))) (ty := .int) (C := RX4) (T := TX4) (N := 28) hx hb hts hiX4 tyX4 tyX4_ok nmX4 hown hK hP hD hS 0 rfl rfl 19 (by decide) hw3 (fun _ h9 => h9) rfl (by decide +kernel) rfl rfl (Nat.le_of_ble_eq_true rfl) dX4_passes_49 (fun H locs hP hD hS => ?_)
        have hP : va_P (dC, dI) vwCl (zwM cI cC f v42.1 c_refused c_tape c_letter c_letterAt c_number c_taped c_at c_statements v42.2 c_hasImage c_isKeeping (x2_cursor + (1 : Int32)) c_poled c_barred c_leapsTo c_leapsThen c_lands c_row c_rowMany c_endsAt) H := hP
        have hD : va_D A (zwM cI cC f v42.1 c_refused c_tape c_letter c_letterAt c_number c_taped c_at c_statements v42.2 c_hasImage c_isKeeping (x2_cursor + (1 : Int32)) c_poled c_barred c_leapsTo c_leapsThen c_lands c_row c_rowMany c_endsAt) := hD
        refine lv_iinc (v := (x2_2 + (1 : Int32))) (lv' := [(2, .int (x2_2 + (1 : Int32))), (0, .ref (f 0)), (1, .ref (f 4))]) hx hb dX4_passes_52 hl (k := 2) rfl rfl (by decide) rfl (fun ls hl => ?_)
        refine lv_goto (tgt := 2) hx hb dX4_passes_55 (by decide) ?_
        exact ih2 _ _ _ _ h _ _ _ hP hD hS (lv_sub hl [1, 2, 0] rfl)
      refine lv_if_eq (tgt := 30) hx hb dX4_passes_12 (by decide) (fun c12 => ?_) (fun c12 => ?_)
      · have h := itT c12 h
        refine lv_aload_n hx hb dX4_passes_30 rfl (lv_at hl 1 rfl) ?_
        refine lv_iload_n hx hb dX4_passes_31 rfl (lv_at hl 2 rfl) ?_
        refine lv_aload_n hx hb dX4_passes_32 rfl (lv_at hl 0 rfl) ?_
        refine va_get (D := (dC, dI)) (ci := 4) (v := .ref (f 11)) (C := RX4) (T := TX4) (N := 28) hx hb hts hiX4 hown hK hP 0 rfl rfl 16 (by decide) hw2 (fun _ h9 => h9) rfl dX4_passes_33 ?_
        refine lv_aload_n hx hb dX4_passes_36 rfl (lv_at hl 0 rfl) ?_
        refine va_get (D := (dC, dI)) (ci := 4) (v := .int x2_cursor) (C := RX4) (T := TX4) (N := 28) hx hb hts hiX4 hown hK hP 0 rfl rfl 19 (by decide) hw3 (fun _ h9 => h9) rfl dX4_passes_37 ?_
        obtain ⟨hin, h⟩ := ck_some h
        refine va_iald hx hb hK hP 11 0 rfl rfl hin dX4_passes_40 ?_
        obtain ⟨hin, h⟩ := ck_some h
        refine va_iast hx hb hK hP hD hS 4 0 rfl rfl hin dX4_passes_41 (fun H locs hP hD hS => ?_)
        have hP : va_P (dC, dI) vwCl (zwM cI cC f (R_setCells x2_r (upd (R_cells x2_r) (x2_2).toNatClampNeg (x2_kept (x2_cursor).toNatClampNeg))) c_refused c_tape c_letter c_letterAt c_number c_taped c_at c_statements x2_kept c_hasImage c_isKeeping x2_cursor c_poled c_barred c_leapsTo c_leapsThen c_lands c_row c_rowMany c_endsAt) H := hP
        have hD : va_D A (zwM cI cC f (R_setCells x2_r (upd (R_cells x2_r) (x2_2).toNatClampNeg (x2_kept (x2_cursor).toNatClampNeg))) c_refused c_tape c_letter c_letterAt c_number c_taped c_at c_statements x2_kept c_hasImage c_isKeeping x2_cursor c_poled c_barred c_leapsTo c_leapsThen c_lands c_row c_rowMany c_endsAt) := hD
        exact j42 _ h _ _ _ hP hD hS (lv_sub hl [0, 1, 2] rfl)
      have h := itF c12 h
      refine lv_aload_n hx hb dX4_passes_15 rfl (lv_at hl 0 rfl) ?_
      refine va_get (D := (dC, dI)) (ci := 4) (v := .ref (f 11)) (C := RX4) (T := TX4) (N := 28) hx hb hts hiX4 hown hK hP 0 rfl rfl 16 (by decide) hw2 (fun _ h9 => h9) rfl dX4_passes_16 ?_
      refine lv_aload_n hx hb dX4_passes_19 rfl (lv_at hl 0 rfl) ?_
      refine va_get (D := (dC, dI)) (ci := 4) (v := .int x2_cursor) (C := RX4) (T := TX4) (N := 28) hx hb hts hiX4 hown hK hP 0 rfl rfl 19 (by decide) hw3 (fun _ h9 => h9) rfl dX4_passes_20 ?_
      refine lv_aload_n hx hb dX4_passes_23 rfl (lv_at hl 1 rfl) ?_
      refine lv_iload_n hx hb dX4_passes_24 rfl (lv_at hl 2 rfl) ?_
      obtain ⟨hin, h⟩ := ck_some h
      refine va_iald hx hb hK hP 4 0 rfl rfl hin dX4_passes_25 ?_
      obtain ⟨hin, h⟩ := ck_some h
      refine va_iast hx hb hK hP hD hS 11 0 rfl rfl hin dX4_passes_26 (fun H locs hP hD hS => ?_)
      have hP : va_P (dC, dI) vwCl (zwM cI cC f x2_r c_refused c_tape c_letter c_letterAt c_number c_taped c_at c_statements (upd x2_kept (x2_cursor).toNatClampNeg ((R_cells x2_r) (x2_2).toNatClampNeg)) c_hasImage c_isKeeping x2_cursor c_poled c_barred c_leapsTo c_leapsThen c_lands c_row c_rowMany c_endsAt) H := hP
      have hD : va_D A (zwM cI cC f x2_r c_refused c_tape c_letter c_letterAt c_number c_taped c_at c_statements (upd x2_kept (x2_cursor).toNatClampNeg ((R_cells x2_r) (x2_2).toNatClampNeg)) c_hasImage c_isKeeping x2_cursor c_poled c_barred c_leapsTo c_leapsThen c_lands c_row c_rowMany c_endsAt) := hD
      refine lv_goto (tgt := 42) hx hb dX4_passes_27 (by decide) ?_
      exact j42 _ h _ _ _ hP hD hS (lv_sub hl [0, 1, 2] rfl)
  refine L2 _ (fun k2_r k2_kept k2_cursor h H locs ls hP hD hS hl => ?_) _ _ _ _ _ h _ _ _ hP hD hS (lv_sub hl [1, 2, 0] rfl)
  subst hQ
  exact retRV (zz := ((k2_r, k2_kept, k2_cursor) : RT × AR × Int32)) (fun z => (zwM cI cC f z.1 c_refused c_tape c_letter c_letterAt c_number c_taped c_at c_statements z.2.1 c_hasImage c_isKeeping z.2.2 c_poled c_barred c_leapsTo c_leapsThen c_lands c_row c_rowMany c_endsAt)) hx hb hr hlocks hS h hP dX4_passes_58
set_option maxHeartbeats 4000000 in
set_option maxRecDepth 100000 in
theorem mX4_passes_5 (l : Launch) (dC : Nat → ClassId) (dI : Nat → Nat → Nat) (cI cC : ClassId) (sk : (Nat → Nat) × (Nat → Nat)) (f : Nat → Nat) (sz : Nat)  (c_r : RT) (c_refused : AR) (c_tape : AR) (c_letter : AR) (c_letterAt : AR) (c_number : AR) (c_taped : Int32) (c_at : Int32) (c_statements : Int32) (c_kept : AR) (c_hasImage : Int32) (c_isKeeping : Int32) (c_cursor : Int32) (c_poled : Int32) (c_barred : Int32) (c_leapsTo : AR) (c_leapsThen : AR) (c_lands : AR) (c_row : AR) (c_rowMany : Int32) (c_endsAt : Int32) (z : RT × AR × Int32) (h : fX4_passes_5 c_r c_kept c_isKeeping c_cursor = some z) : cRV l yX4_passes wsX4_passes (RMk 0 0) sk (dC, dI) (tyz cI cC) sz (zwM cI cC f c_r c_refused c_tape c_letter c_letterAt c_number c_taped c_at c_statements c_kept c_hasImage c_isKeeping c_cursor c_poled c_barred c_leapsTo c_leapsThen c_lands c_row c_rowMany c_endsAt) (zwM cI cC f z.1 c_refused c_tape c_letter c_letterAt c_number c_taped c_at c_statements z.2.1 c_hasImage c_isKeeping z.2.2 c_poled c_barred c_leapsTo c_leapsThen c_lands c_row c_rowMany c_endsAt) [.ref (f 0), .ref (f 5)] := by
  refine ofRV (cc := cX4_passes) (maxL := 3) (ret := none) (own := RX4) (plainFor_of_name (by decide)) rfl rfl (Nat.le_of_ble_eq_true rfl) ?_
  intro p e s m args below meth c A hA hx hb hml hr hts hown hlocks hE hK hP hD hS ls hl
  generalize hQ : qRV _ _ _ _ _ _ = Q
  have hl : lv_has ls 3 [(0, .ref (f 0)), (1, .ref (f 5))] := hl
  have hiX4 : ∀ w ∈ wsX40, w ∈ wsX4_passes := fun w h => List.mem_cons_of_mem _ (List.mem_append_right _ h)
  have hw1 := hts (Cond.fieldLink RX4 115 "FloeToFloeModel" "isKeeping" "Z") (List.mem_of_getElem? (i := 1) rfl)
  have hw2 := hts (Cond.fieldLink RX4 44 "FloeToFloeModel" "kept" "[I") (List.mem_of_getElem? (i := 2) rfl)
  have hw3 := hts (Cond.fieldLink RX4 119 "FloeToFloeModel" "cursor" "I") (List.mem_of_getElem? (i := 3) rfl)
  rw [fX4_passes_5] at h
  refine lv_iconst (v := (0 : Int32)) hx hb dX4_passes_0 (by decide) ?_
  refine lv_istore_n (lv' := [(2, .int (0 : Int32)), (0, .ref (f 0)), (1, .ref (f 5))]) hx hb dX4_passes_1 rfl hl (by decide) rfl (fun ls hl => ?_)
  have L2 : ∀ (K2 : RT → AR → Int32 → Option (RT × AR × Int32)), (∀ (k2_r : RT) (k2_kept : AR) (k2_cursor : Int32), K2 k2_r k2_kept k2_cursor = some z → ∀ (H : Heap) (locs : List Loc) (ls : Array Slot), va_P (dC, dI) vwCl (zwM cI cC f k2_r c_refused c_tape c_letter c_letterAt c_number c_taped c_at c_statements k2_kept c_hasImage c_isKeeping k2_cursor c_poled c_barred c_leapsTo c_leapsThen c_lands c_row c_rowMany c_endsAt) H → va_D A (zwM cI cC f k2_r c_refused c_tape c_letter c_letterAt c_number c_taped c_at c_statements k2_kept c_hasImage c_isKeeping k2_cursor c_poled c_barred c_leapsTo c_leapsThen c_lands c_row c_rowMany c_endsAt) → va_S A s.heap H locs → lv_has ls 3 [] → W p l e (RMk 0 0) s m args below meth c H locs 0 0 Q (F0 m 58 ls [])) → ∀ (n : Nat) (x2_2 : Int32) (x2_r : RT) (x2_kept : AR) (x2_cursor : Int32), fX4_passes_5_L2 c_isKeeping K2 n x2_2 x2_r x2_kept x2_cursor = some z → ∀ (H : Heap) (locs : List Loc) (ls : Array Slot), va_P (dC, dI) vwCl (zwM cI cC f x2_r c_refused c_tape c_letter c_letterAt c_number c_taped c_at c_statements x2_kept c_hasImage c_isKeeping x2_cursor c_poled c_barred c_leapsTo c_leapsThen c_lands c_row c_rowMany c_endsAt) H → va_D A (zwM cI cC f x2_r c_refused c_tape c_letter c_letterAt c_number c_taped c_at c_statements x2_kept c_hasImage c_isKeeping x2_cursor c_poled c_barred c_leapsTo c_leapsThen c_lands c_row c_rowMany c_endsAt) → va_S A s.heap H locs → lv_has ls 3 [(0, .ref (f 0)), (1, .ref (f 5)), (2, .int x2_2)] → W p l e (RMk 0 0) s m args below meth c H locs 0 0 Q (F0 m 2 ls []) := by
    intro K2 kx2 n
    induction n with
    | zero => intro x2_2 x2_r x2_kept x2_cursor h; rw [fX4_passes_5_L2] at h; cases h
    | succ n ih2 =>
      intro x2_2 x2_r x2_kept x2_cursor h H locs ls hP hD hS hl
      rw [fX4_passes_5_L2] at h
      refine lv_iload_n hx hb dX4_passes_2 rfl (lv_at hl 2 rfl) ?_
      refine lv_aload_n hx hb dX4_passes_3 rfl (lv_at hl 1 rfl) ?_
      refine va_alen hx hb hK hP 5 0 rfl rfl (v := (8 : Int32)) rfl dX4_passes_4 ?_
      refine lv_icmp_ge (tgt := 58) hx hb dX4_passes_5 (by decide) (fun c5 => ?_) (fun c5 => ?_)
      · have h := itT c5 h
        exact kx2 _ _ _ h _ _ _ hP hD hS (lv_sub hl [] rfl)
      have h := itF c5 h
      refine lv_aload_n hx hb dX4_passes_8 rfl (lv_at hl 0 rfl) ?_
      refine va_get (D := (dC, dI)) (ci := 4) (v := .int c_isKeeping) (C := RX4) (T := TX4) (N := 28) hx hb hts hiX4 hown hK hP 0 rfl rfl 18 (by decide) hw1 (fun _ h9 => h9) rfl dX4_passes_9 ?_
      refine jnW (fun (v42 : RT × AR) => ∀ (H : Heap) (locs : List Loc) (ls : Array Slot), va_P (dC, dI) vwCl (zwM cI cC f v42.1 c_refused c_tape c_letter c_letterAt c_number c_taped c_at c_statements v42.2 c_hasImage c_isKeeping x2_cursor c_poled c_barred c_leapsTo c_leapsThen c_lands c_row c_rowMany c_endsAt) H → va_D A (zwM cI cC f v42.1 c_refused c_tape c_letter c_letterAt c_number c_taped c_at c_statements v42.2 c_hasImage c_isKeeping x2_cursor c_poled c_barred c_leapsTo c_leapsThen c_lands c_row c_rowMany c_endsAt) → va_S A s.heap H locs → lv_has ls 3 [(0, .ref (f 0)), (1, .ref (f 5)), (2, .int x2_2)] → W p l e (RMk 0 0) s m args below meth c H locs 0 0 Q (F0 m 42 ls [])) h (fun v42 h H locs ls hP hD hS hl => ?_) (fun J42 j42 h => ?_)
      · refine lv_aload_n hx hb dX4_passes_42 rfl (lv_at hl 0 rfl) ?_
        refine lv_dup hx hb dX4_passes_43 rfl ?_
        refine va_get (D := (dC, dI)) (ci := 4) (v := .int x2_cursor) (C := RX4) (T := TX4) (N := 28) hx hb hts hiX4 hown hK hP 0 rfl rfl 19 (by decide) hw3 (fun _ h9 => h9) rfl dX4_passes_44 ?_
        refine lv_iconst (v := (1 : Int32)) hx hb dX4_passes_47 (by decide) ?_
        refine lv_iadd hx hb dX4_passes_48 ?_
        refine va_put (D := (dC, dI)) (ci := 4) (v := .int (x2_cursor + (1 : Int32))) (ty := .int) (C := RX4) (T := TX4) (N := 28) hx hb hts hiX4 tyX4 tyX4_ok nmX4 hown hK hP hD hS 0 rfl rfl 19 (by decide) hw3 (fun _ h9 => h9) rfl (by decide +kernel) rfl rfl (Nat.le_of_ble_eq_true rfl) dX4_passes_49 (fun H locs hP hD hS => ?_)
        have hP : va_P (dC, dI) vwCl (zwM cI cC f v42.1 c_refused c_tape c_letter c_letterAt c_number c_taped c_at c_statements v42.2 c_hasImage c_isKeeping (x2_cursor + (1 : Int32)) c_poled c_barred c_leapsTo c_leapsThen c_lands c_row c_rowMany c_endsAt) H := hP
        have hD : va_D A (zwM cI cC f v42.1 c_refused c_tape c_letter c_letterAt c_number c_taped c_at c_statements v42.2 c_hasImage c_isKeeping (x2_cursor + (1 : Int32)) c_poled c_barred c_leapsTo c_leapsThen c_lands c_row c_rowMany c_endsAt) := hD
        refine lv_iinc (v := (x2_2 + (1 : Int32))) (lv' := [(2, .int (x2_2 + (1 : Int32))), (0, .ref (f 0)), (1, .ref (f 5))]) hx hb dX4_passes_52 hl (k := 2) rfl rfl (by decide) rfl (fun ls hl => ?_)
        refine lv_goto (tgt := 2) hx hb dX4_passes_55 (by decide) ?_
        exact ih2 _ _ _ _ h _ _ _ hP hD hS (lv_sub hl [1, 2, 0] rfl)
      refine lv_if_eq (tgt := 30) hx hb dX4_passes_12 (by decide) (fun c12 => ?_) (fun c12 => ?_)
      · have h := itT c12 h
        refine lv_aload_n hx hb dX4_passes_30 rfl (lv_at hl 1 rfl) ?_
        refine lv_iload_n hx hb dX4_passes_31 rfl (lv_at hl 2 rfl) ?_
        refine lv_aload_n hx hb dX4_passes_32 rfl (lv_at hl 0 rfl) ?_
        refine va_get (D := (dC, dI)) (ci := 4) (v := .ref (f 11)) (C := RX4) (T := TX4) (N := 28) hx hb hts hiX4 hown hK hP 0 rfl rfl 16 (by decide) hw2 (fun _ h9 => h9) rfl dX4_passes_33 ?_
        refine lv_aload_n hx hb dX4_passes_36 rfl (lv_at hl 0 rfl) ?_
        refine va_get (D := (dC, dI)) (ci := 4) (v := .int x2_cursor) (C := RX4) (T := TX4) (N := 28) hx hb hts hiX4 hown hK hP 0 rfl rfl 19 (by decide) hw3 (fun _ h9 => h9) rfl dX4_passes_37 ?_
        obtain ⟨hin, h⟩ := ck_some h
        refine va_iald hx hb hK hP 11 0 rfl rfl hin dX4_passes_40 ?_
        obtain ⟨hin, h⟩ := ck_some h
        refine va_iast hx hb hK hP hD hS 5 0 rfl rfl hin dX4_passes_41 (fun H locs hP hD hS => ?_)
        have hP : va_P (dC, dI) vwCl (zwM cI cC f (R_setPaces x2_r (upd (R_paces x2_r) (x2_2).toNatClampNeg (x2_kept (x2_cursor).toNatClampNeg))) c_refused c_tape c_letter c_letterAt c_number c_taped c_at c_statements x2_kept c_hasImage c_isKeeping x2_cursor c_poled c_barred c_leapsTo c_leapsThen c_lands c_row c_rowMany c_endsAt) H := hP
        have hD : va_D A (zwM cI cC f (R_setPaces x2_r (upd (R_paces x2_r) (x2_2).toNatClampNeg (x2_kept (x2_cursor).toNatClampNeg))) c_refused c_tape c_letter c_letterAt c_number c_taped c_at c_statements x2_kept c_hasImage c_isKeeping x2_cursor c_poled c_barred c_leapsTo c_leapsThen c_lands c_row c_rowMany c_endsAt) := hD
        exact j42 _ h _ _ _ hP hD hS (lv_sub hl [0, 1, 2] rfl)
      have h := itF c12 h
      refine lv_aload_n hx hb dX4_passes_15 rfl (lv_at hl 0 rfl) ?_
      refine va_get (D := (dC, dI)) (ci := 4) (v := .ref (f 11)) (C := RX4) (T := TX4) (N := 28) hx hb hts hiX4 hown hK hP 0 rfl rfl 16 (by decide) hw2 (fun _ h9 => h9) rfl dX4_passes_16 ?_
      refine lv_aload_n hx hb dX4_passes_19 rfl (lv_at hl 0 rfl) ?_
      refine va_get (D := (dC, dI)) (ci := 4) (v := .int x2_cursor) (C := RX4) (T := TX4) (N := 28) hx hb hts hiX4 hown hK hP 0 rfl rfl 19 (by decide) hw3 (fun _ h9 => h9) rfl dX4_passes_20 ?_
      refine lv_aload_n hx hb dX4_passes_23 rfl (lv_at hl 1 rfl) ?_
      refine lv_iload_n hx hb dX4_passes_24 rfl (lv_at hl 2 rfl) ?_
      obtain ⟨hin, h⟩ := ck_some h
      refine va_iald hx hb hK hP 5 0 rfl rfl hin dX4_passes_25 ?_
      obtain ⟨hin, h⟩ := ck_some h
      refine va_iast hx hb hK hP hD hS 11 0 rfl rfl hin dX4_passes_26 (fun H locs hP hD hS => ?_)
      have hP : va_P (dC, dI) vwCl (zwM cI cC f x2_r c_refused c_tape c_letter c_letterAt c_number c_taped c_at c_statements (upd x2_kept (x2_cursor).toNatClampNeg ((R_paces x2_r) (x2_2).toNatClampNeg)) c_hasImage c_isKeeping x2_cursor c_poled c_barred c_leapsTo c_leapsThen c_lands c_row c_rowMany c_endsAt) H := hP
      have hD : va_D A (zwM cI cC f x2_r c_refused c_tape c_letter c_letterAt c_number c_taped c_at c_statements (upd x2_kept (x2_cursor).toNatClampNeg ((R_paces x2_r) (x2_2).toNatClampNeg)) c_hasImage c_isKeeping x2_cursor c_poled c_barred c_leapsTo c_leapsThen c_lands c_row c_rowMany c_endsAt) := hD
      refine lv_goto (tgt := 42) hx hb dX4_passes_27 (by decide) ?_
      exact j42 _ h _ _ _ hP hD hS (lv_sub hl [0, 1, 2] rfl)
  refine L2 _ (fun k2_r k2_kept k2_cursor h H locs ls hP hD hS hl => ?_) _ _ _ _ _ h _ _ _ hP hD hS (lv_sub hl [1, 2, 0] rfl)
  subst hQ
  exact retRV (zz := ((k2_r, k2_kept, k2_cursor) : RT × AR × Int32)) (fun z => (zwM cI cC f z.1 c_refused c_tape c_letter c_letterAt c_number c_taped c_at c_statements z.2.1 c_hasImage c_isKeeping z.2.2 c_poled c_barred c_leapsTo c_leapsThen c_lands c_row c_rowMany c_endsAt)) hx hb hr hlocks hS h hP dX4_passes_58
set_option maxHeartbeats 4000000 in
set_option maxRecDepth 100000 in
theorem mX4_passes_6 (l : Launch) (dC : Nat → ClassId) (dI : Nat → Nat → Nat) (cI cC : ClassId) (sk : (Nat → Nat) × (Nat → Nat)) (f : Nat → Nat) (sz : Nat)  (c_r : RT) (c_refused : AR) (c_tape : AR) (c_letter : AR) (c_letterAt : AR) (c_number : AR) (c_taped : Int32) (c_at : Int32) (c_statements : Int32) (c_kept : AR) (c_hasImage : Int32) (c_isKeeping : Int32) (c_cursor : Int32) (c_poled : Int32) (c_barred : Int32) (c_leapsTo : AR) (c_leapsThen : AR) (c_lands : AR) (c_row : AR) (c_rowMany : Int32) (c_endsAt : Int32) (z : RT × AR × Int32) (h : fX4_passes_6 c_r c_kept c_isKeeping c_cursor = some z) : cRV l yX4_passes wsX4_passes (RMk 0 0) sk (dC, dI) (tyz cI cC) sz (zwM cI cC f c_r c_refused c_tape c_letter c_letterAt c_number c_taped c_at c_statements c_kept c_hasImage c_isKeeping c_cursor c_poled c_barred c_leapsTo c_leapsThen c_lands c_row c_rowMany c_endsAt) (zwM cI cC f z.1 c_refused c_tape c_letter c_letterAt c_number c_taped c_at c_statements z.2.1 c_hasImage c_isKeeping z.2.2 c_poled c_barred c_leapsTo c_leapsThen c_lands c_row c_rowMany c_endsAt) [.ref (f 0), .ref (f 6)] := by
  refine ofRV (cc := cX4_passes) (maxL := 3) (ret := none) (own := RX4) (plainFor_of_name (by decide)) rfl rfl (Nat.le_of_ble_eq_true rfl) ?_
  intro p e s m args below meth c A hA hx hb hml hr hts hown hlocks hE hK hP hD hS ls hl
  generalize hQ : qRV _ _ _ _ _ _ = Q
  have hl : lv_has ls 3 [(0, .ref (f 0)), (1, .ref (f 6))] := hl
  have hiX4 : ∀ w ∈ wsX40, w ∈ wsX4_passes := fun w h => List.mem_cons_of_mem _ (List.mem_append_right _ h)
  have hw1 := hts (Cond.fieldLink RX4 115 "FloeToFloeModel" "isKeeping" "Z") (List.mem_of_getElem? (i := 1) rfl)
  have hw2 := hts (Cond.fieldLink RX4 44 "FloeToFloeModel" "kept" "[I") (List.mem_of_getElem? (i := 2) rfl)
  have hw3 := hts (Cond.fieldLink RX4 119 "FloeToFloeModel" "cursor" "I") (List.mem_of_getElem? (i := 3) rfl)
  rw [fX4_passes_6] at h
  refine lv_iconst (v := (0 : Int32)) hx hb dX4_passes_0 (by decide) ?_
  refine lv_istore_n (lv' := [(2, .int (0 : Int32)), (0, .ref (f 0)), (1, .ref (f 6))]) hx hb dX4_passes_1 rfl hl (by decide) rfl (fun ls hl => ?_)
  have L2 : ∀ (K2 : RT → AR → Int32 → Option (RT × AR × Int32)), (∀ (k2_r : RT) (k2_kept : AR) (k2_cursor : Int32), K2 k2_r k2_kept k2_cursor = some z → ∀ (H : Heap) (locs : List Loc) (ls : Array Slot), va_P (dC, dI) vwCl (zwM cI cC f k2_r c_refused c_tape c_letter c_letterAt c_number c_taped c_at c_statements k2_kept c_hasImage c_isKeeping k2_cursor c_poled c_barred c_leapsTo c_leapsThen c_lands c_row c_rowMany c_endsAt) H → va_D A (zwM cI cC f k2_r c_refused c_tape c_letter c_letterAt c_number c_taped c_at c_statements k2_kept c_hasImage c_isKeeping k2_cursor c_poled c_barred c_leapsTo c_leapsThen c_lands c_row c_rowMany c_endsAt) → va_S A s.heap H locs → lv_has ls 3 [] → W p l e (RMk 0 0) s m args below meth c H locs 0 0 Q (F0 m 58 ls [])) → ∀ (n : Nat) (x2_2 : Int32) (x2_r : RT) (x2_kept : AR) (x2_cursor : Int32), fX4_passes_6_L2 c_isKeeping K2 n x2_2 x2_r x2_kept x2_cursor = some z → ∀ (H : Heap) (locs : List Loc) (ls : Array Slot), va_P (dC, dI) vwCl (zwM cI cC f x2_r c_refused c_tape c_letter c_letterAt c_number c_taped c_at c_statements x2_kept c_hasImage c_isKeeping x2_cursor c_poled c_barred c_leapsTo c_leapsThen c_lands c_row c_rowMany c_endsAt) H → va_D A (zwM cI cC f x2_r c_refused c_tape c_letter c_letterAt c_number c_taped c_at c_statements x2_kept c_hasImage c_isKeeping x2_cursor c_poled c_barred c_leapsTo c_leapsThen c_lands c_row c_rowMany c_endsAt) → va_S A s.heap H locs → lv_has ls 3 [(0, .ref (f 0)), (1, .ref (f 6)), (2, .int x2_2)] → W p l e (RMk 0 0) s m args below meth c H locs 0 0 Q (F0 m 2 ls []) := by
    intro K2 kx2 n
    induction n with
    | zero => intro x2_2 x2_r x2_kept x2_cursor h; rw [fX4_passes_6_L2] at h; cases h
    | succ n ih2 =>
      intro x2_2 x2_r x2_kept x2_cursor h H locs ls hP hD hS hl
      rw [fX4_passes_6_L2] at h
      refine lv_iload_n hx hb dX4_passes_2 rfl (lv_at hl 2 rfl) ?_
      refine lv_aload_n hx hb dX4_passes_3 rfl (lv_at hl 1 rfl) ?_
      refine va_alen hx hb hK hP 6 0 rfl rfl (v := (8 : Int32)) rfl dX4_passes_4 ?_
      refine lv_icmp_ge (tgt := 58) hx hb dX4_passes_5 (by decide) (fun c5 => ?_) (fun c5 => ?_)
      · have h := itT c5 h
        exact kx2 _ _ _ h _ _ _ hP hD hS (lv_sub hl [] rfl)
      have h := itF c5 h
      refine lv_aload_n hx hb dX4_passes_8 rfl (lv_at hl 0 rfl) ?_
      refine va_get (D := (dC, dI)) (ci := 4) (v := .int c_isKeeping) (C := RX4) (T := TX4) (N := 28) hx hb hts hiX4 hown hK hP 0 rfl rfl 18 (by decide) hw1 (fun _ h9 => h9) rfl dX4_passes_9 ?_
      refine jnW (fun (v42 : RT × AR) => ∀ (H : Heap) (locs : List Loc) (ls : Array Slot), va_P (dC, dI) vwCl (zwM cI cC f v42.1 c_refused c_tape c_letter c_letterAt c_number c_taped c_at c_statements v42.2 c_hasImage c_isKeeping x2_cursor c_poled c_barred c_leapsTo c_leapsThen c_lands c_row c_rowMany c_endsAt) H → va_D A (zwM cI cC f v42.1 c_refused c_tape c_letter c_letterAt c_number c_taped c_at c_statements v42.2 c_hasImage c_isKeeping x2_cursor c_poled c_barred c_leapsTo c_leapsThen c_lands c_row c_rowMany c_endsAt) → va_S A s.heap H locs → lv_has ls 3 [(0, .ref (f 0)), (1, .ref (f 6)), (2, .int x2_2)] → W p l e (RMk 0 0) s m args below meth c H locs 0 0 Q (F0 m 42 ls [])) h (fun v42 h H locs ls hP hD hS hl => ?_) (fun J42 j42 h => ?_)
      · refine lv_aload_n hx hb dX4_passes_42 rfl (lv_at hl 0 rfl) ?_
        refine lv_dup hx hb dX4_passes_43 rfl ?_
        refine va_get (D := (dC, dI)) (ci := 4) (v := .int x2_cursor) (C := RX4) (T := TX4) (N := 28) hx hb hts hiX4 hown hK hP 0 rfl rfl 19 (by decide) hw3 (fun _ h9 => h9) rfl dX4_passes_44 ?_
        refine lv_iconst (v := (1 : Int32)) hx hb dX4_passes_47 (by decide) ?_
        refine lv_iadd hx hb dX4_passes_48 ?_
        refine va_put (D := (dC, dI)) (ci := 4) (v := .int (x2_cursor + (1 : Int32))) (ty := .int) (C := RX4) (T := TX4) (N := 28) hx hb hts hiX4 tyX4 tyX4_ok nmX4 hown hK hP hD hS 0 rfl rfl 19 (by decide) hw3 (fun _ h9 => h9) rfl (by decide +kernel) rfl rfl (Nat.le_of_ble_eq_true rfl) dX4_passes_49 (fun H locs hP hD hS => ?_)
        have hP : va_P (dC, dI) vwCl (zwM cI cC f v42.1 c_refused c_tape c_letter c_letterAt c_number c_taped c_at c_statements v42.2 c_hasImage c_isKeeping (x2_cursor + (1 : Int32)) c_poled c_barred c_leapsTo c_leapsThen c_lands c_row c_rowMany c_endsAt) H := hP
        have hD : va_D A (zwM cI cC f v42.1 c_refused c_tape c_letter c_letterAt c_number c_taped c_at c_statements v42.2 c_hasImage c_isKeeping (x2_cursor + (1 : Int32)) c_poled c_barred c_leapsTo c_leapsThen c_lands c_row c_rowMany c_endsAt) := hD
        refine lv_iinc (v := (x2_2 + (1 : Int32))) (lv' := [(2, .int (x2_2 + (1 : Int32))), (0, .ref (f 0)), (1, .ref (f 6))]) hx hb dX4_passes_52 hl (k := 2) rfl rfl (by decide) rfl (fun ls hl => ?_)
        refine lv_goto (tgt := 2) hx hb dX4_passes_55 (by decide) ?_
        exact ih2 _ _ _ _ h _ _ _ hP hD hS (lv_sub hl [1, 2, 0] rfl)
      refine lv_if_eq (tgt := 30) hx hb dX4_passes_12 (by decide) (fun c12 => ?_) (fun c12 => ?_)
      · have h := itT c12 h
        refine lv_aload_n hx hb dX4_passes_30 rfl (lv_at hl 1 rfl) ?_
        refine lv_iload_n hx hb dX4_passes_31 rfl (lv_at hl 2 rfl) ?_
        refine lv_aload_n hx hb dX4_passes_32 rfl (lv_at hl 0 rfl) ?_
        refine va_get (D := (dC, dI)) (ci := 4) (v := .ref (f 11)) (C := RX4) (T := TX4) (N := 28) hx hb hts hiX4 hown hK hP 0 rfl rfl 16 (by decide) hw2 (fun _ h9 => h9) rfl dX4_passes_33 ?_
        refine lv_aload_n hx hb dX4_passes_36 rfl (lv_at hl 0 rfl) ?_
        refine va_get (D := (dC, dI)) (ci := 4) (v := .int x2_cursor) (C := RX4) (T := TX4) (N := 28) hx hb hts hiX4 hown hK hP 0 rfl rfl 19 (by decide) hw3 (fun _ h9 => h9) rfl dX4_passes_37 ?_
        obtain ⟨hin, h⟩ := ck_some h
        refine va_iald hx hb hK hP 11 0 rfl rfl hin dX4_passes_40 ?_
        obtain ⟨hin, h⟩ := ck_some h
        refine va_iast hx hb hK hP hD hS 6 0 rfl rfl hin dX4_passes_41 (fun H locs hP hD hS => ?_)
        have hP : va_P (dC, dI) vwCl (zwM cI cC f (R_setStrengths x2_r (upd (R_strengths x2_r) (x2_2).toNatClampNeg (x2_kept (x2_cursor).toNatClampNeg))) c_refused c_tape c_letter c_letterAt c_number c_taped c_at c_statements x2_kept c_hasImage c_isKeeping x2_cursor c_poled c_barred c_leapsTo c_leapsThen c_lands c_row c_rowMany c_endsAt) H := hP
        have hD : va_D A (zwM cI cC f (R_setStrengths x2_r (upd (R_strengths x2_r) (x2_2).toNatClampNeg (x2_kept (x2_cursor).toNatClampNeg))) c_refused c_tape c_letter c_letterAt c_number c_taped c_at c_statements x2_kept c_hasImage c_isKeeping x2_cursor c_poled c_barred c_leapsTo c_leapsThen c_lands c_row c_rowMany c_endsAt) := hD
        exact j42 _ h _ _ _ hP hD hS (lv_sub hl [0, 1, 2] rfl)
      have h := itF c12 h
      refine lv_aload_n hx hb dX4_passes_15 rfl (lv_at hl 0 rfl) ?_
      refine va_get (D := (dC, dI)) (ci := 4) (v := .ref (f 11)) (C := RX4) (T := TX4) (N := 28) hx hb hts hiX4 hown hK hP 0 rfl rfl 16 (by decide) hw2 (fun _ h9 => h9) rfl dX4_passes_16 ?_
      refine lv_aload_n hx hb dX4_passes_19 rfl (lv_at hl 0 rfl) ?_
      refine va_get (D := (dC, dI)) (ci := 4) (v := .int x2_cursor) (C := RX4) (T := TX4) (N := 28) hx hb hts hiX4 hown hK hP 0 rfl rfl 19 (by decide) hw3 (fun _ h9 => h9) rfl dX4_passes_20 ?_
      refine lv_aload_n hx hb dX4_passes_23 rfl (lv_at hl 1 rfl) ?_
      refine lv_iload_n hx hb dX4_passes_24 rfl (lv_at hl 2 rfl) ?_
      obtain ⟨hin, h⟩ := ck_some h
      refine va_iald hx hb hK hP 6 0 rfl rfl hin dX4_passes_25 ?_
      obtain ⟨hin, h⟩ := ck_some h
      refine va_iast hx hb hK hP hD hS 11 0 rfl rfl hin dX4_passes_26 (fun H locs hP hD hS => ?_)
      have hP : va_P (dC, dI) vwCl (zwM cI cC f x2_r c_refused c_tape c_letter c_letterAt c_number c_taped c_at c_statements (upd x2_kept (x2_cursor).toNatClampNeg ((R_strengths x2_r) (x2_2).toNatClampNeg)) c_hasImage c_isKeeping x2_cursor c_poled c_barred c_leapsTo c_leapsThen c_lands c_row c_rowMany c_endsAt) H := hP
      have hD : va_D A (zwM cI cC f x2_r c_refused c_tape c_letter c_letterAt c_number c_taped c_at c_statements (upd x2_kept (x2_cursor).toNatClampNeg ((R_strengths x2_r) (x2_2).toNatClampNeg)) c_hasImage c_isKeeping x2_cursor c_poled c_barred c_leapsTo c_leapsThen c_lands c_row c_rowMany c_endsAt) := hD
      refine lv_goto (tgt := 42) hx hb dX4_passes_27 (by decide) ?_
      exact j42 _ h _ _ _ hP hD hS (lv_sub hl [0, 1, 2] rfl)
  refine L2 _ (fun k2_r k2_kept k2_cursor h H locs ls hP hD hS hl => ?_) _ _ _ _ _ h _ _ _ hP hD hS (lv_sub hl [1, 2, 0] rfl)
  subst hQ
  exact retRV (zz := ((k2_r, k2_kept, k2_cursor) : RT × AR × Int32)) (fun z => (zwM cI cC f z.1 c_refused c_tape c_letter c_letterAt c_number c_taped c_at c_statements z.2.1 c_hasImage c_isKeeping z.2.2 c_poled c_barred c_leapsTo c_leapsThen c_lands c_row c_rowMany c_endsAt)) hx hb hr hlocks hS h hP dX4_passes_58
theorem dX4_passOne_0 : decode cX4_passOne 0 = .ok (.aload_n 0, 1) := by decide +kernel
theorem dX4_passOne_1 : decode cX4_passOne 1 = .ok (.getfield 115, 3) := by decide +kernel
theorem dX4_passOne_4 : decode cX4_passOne 4 = .ok (.ifCond .eq 7, 3) := by decide +kernel
theorem dX4_passOne_7 : decode cX4_passOne 7 = .ok (.iload_n 1, 1) := by decide +kernel
theorem dX4_passOne_8 : decode cX4_passOne 8 = .ok (.goto 12, 3) := by decide +kernel
theorem dX4_passOne_11 : decode cX4_passOne 11 = .ok (.aload_n 0, 1) := by decide +kernel
theorem dX4_passOne_12 : decode cX4_passOne 12 = .ok (.getfield 44, 3) := by decide +kernel
theorem dX4_passOne_15 : decode cX4_passOne 15 = .ok (.aload_n 0, 1) := by decide +kernel
theorem dX4_passOne_16 : decode cX4_passOne 16 = .ok (.getfield 119, 3) := by decide +kernel
theorem dX4_passOne_19 : decode cX4_passOne 19 = .ok (.iaload, 1) := by decide +kernel
theorem dX4_passOne_20 : decode cX4_passOne 20 = .ok (.istore_n 2, 1) := by decide +kernel
theorem dX4_passOne_21 : decode cX4_passOne 21 = .ok (.aload_n 0, 1) := by decide +kernel
theorem dX4_passOne_22 : decode cX4_passOne 22 = .ok (.getfield 115, 3) := by decide +kernel
theorem dX4_passOne_25 : decode cX4_passOne 25 = .ok (.ifCond .eq 13, 3) := by decide +kernel
theorem dX4_passOne_28 : decode cX4_passOne 28 = .ok (.aload_n 0, 1) := by decide +kernel
theorem dX4_passOne_29 : decode cX4_passOne 29 = .ok (.getfield 44, 3) := by decide +kernel
theorem dX4_passOne_32 : decode cX4_passOne 32 = .ok (.aload_n 0, 1) := by decide +kernel
theorem dX4_passOne_33 : decode cX4_passOne 33 = .ok (.getfield 119, 3) := by decide +kernel
theorem dX4_passOne_36 : decode cX4_passOne 36 = .ok (.iload_n 1, 1) := by decide +kernel
theorem dX4_passOne_37 : decode cX4_passOne 37 = .ok (.iastore, 1) := by decide +kernel
theorem dX4_passOne_38 : decode cX4_passOne 38 = .ok (.aload_n 0, 1) := by decide +kernel
theorem dX4_passOne_39 : decode cX4_passOne 39 = .ok (.dup, 1) := by decide +kernel
theorem dX4_passOne_40 : decode cX4_passOne 40 = .ok (.getfield 119, 3) := by decide +kernel
theorem dX4_passOne_43 : decode cX4_passOne 43 = .ok (.iconst 1, 1) := by decide +kernel
theorem dX4_passOne_44 : decode cX4_passOne 44 = .ok (.iadd, 1) := by decide +kernel
theorem dX4_passOne_45 : decode cX4_passOne 45 = .ok (.putfield 119, 3) := by decide +kernel
theorem dX4_passOne_48 : decode cX4_passOne 48 = .ok (.iload_n 2, 1) := by decide +kernel
theorem dX4_passOne_49 : decode cX4_passOne 49 = .ok (.ireturn, 1) := by decide +kernel
set_option maxHeartbeats 4000000 in
set_option maxRecDepth 100000 in
theorem mX4_passOne (l : Launch) (dC : Nat → ClassId) (dI : Nat → Nat → Nat) (cI cC : ClassId) (sk : (Nat → Nat) × (Nat → Nat)) (f : Nat → Nat) (sz : Nat) (p1 : Int32) (c_r : RT) (c_refused : AR) (c_tape : AR) (c_letter : AR) (c_letterAt : AR) (c_number : AR) (c_taped : Int32) (c_at : Int32) (c_statements : Int32) (c_kept : AR) (c_hasImage : Int32) (c_isKeeping : Int32) (c_cursor : Int32) (c_poled : Int32) (c_barred : Int32) (c_leapsTo : AR) (c_leapsThen : AR) (c_lands : AR) (c_row : AR) (c_rowMany : Int32) (c_endsAt : Int32) (z : Int32 × AR × Int32) (h : fX4_passOne p1 c_kept c_isKeeping c_cursor = some z) : cRW l yX4_passOne wsX4_passOne (RMk 0 0) sk (dC, dI) (tyz cI cC) sz (zwM cI cC f c_r c_refused c_tape c_letter c_letterAt c_number c_taped c_at c_statements c_kept c_hasImage c_isKeeping c_cursor c_poled c_barred c_leapsTo c_leapsThen c_lands c_row c_rowMany c_endsAt) (zwM cI cC f c_r c_refused c_tape c_letter c_letterAt c_number c_taped c_at c_statements z.2.1 c_hasImage c_isKeeping z.2.2 c_poled c_barred c_leapsTo c_leapsThen c_lands c_row c_rowMany c_endsAt) [.ref (f 0), .int p1] z.1 := by
  refine ofRW (cc := cX4_passOne) (maxL := 3) (ret := (some .int)) (own := RX4) (plainFor_of_name (by decide)) rfl rfl (Nat.le_of_ble_eq_true rfl) ?_
  intro p e s m args below meth c A hA hx hb hml hr hts hown hlocks hE hK hP hD hS ls hl
  generalize hQ : qRW _ _ _ _ _ _ _ = Q
  have hl : lv_has ls 3 [(0, .ref (f 0)), (1, .int p1)] := hl
  have hiX4 : ∀ w ∈ wsX40, w ∈ wsX4_passOne := fun w h => List.mem_cons_of_mem _ (List.mem_append_right _ h)
  have hw1 := hts (Cond.fieldLink RX4 115 "FloeToFloeModel" "isKeeping" "Z") (List.mem_of_getElem? (i := 1) rfl)
  have hw2 := hts (Cond.fieldLink RX4 44 "FloeToFloeModel" "kept" "[I") (List.mem_of_getElem? (i := 2) rfl)
  have hw3 := hts (Cond.fieldLink RX4 119 "FloeToFloeModel" "cursor" "I") (List.mem_of_getElem? (i := 3) rfl)
  rw [fX4_passOne] at h
  refine lv_aload_n hx hb dX4_passOne_0 rfl (lv_at hl 0 rfl) ?_
  refine va_get (D := (dC, dI)) (ci := 4) (v := .int c_isKeeping) (C := RX4) (T := TX4) (N := 28) hx hb hts hiX4 hown hK hP 0 rfl rfl 18 (by decide) hw1 (fun _ h9 => h9) rfl dX4_passOne_1 ?_
  refine jnW (fun (v20 : Int32) => ∀ (H : Heap) (locs : List Loc) (ls : Array Slot), va_P (dC, dI) vwCl (zwM cI cC f c_r c_refused c_tape c_letter c_letterAt c_number c_taped c_at c_statements c_kept c_hasImage c_isKeeping c_cursor c_poled c_barred c_leapsTo c_leapsThen c_lands c_row c_rowMany c_endsAt) H → va_D A (zwM cI cC f c_r c_refused c_tape c_letter c_letterAt c_number c_taped c_at c_statements c_kept c_hasImage c_isKeeping c_cursor c_poled c_barred c_leapsTo c_leapsThen c_lands c_row c_rowMany c_endsAt) → va_S A s.heap H locs → lv_has ls 3 [(0, .ref (f 0)), (1, .int p1)] → W p l e (RMk 0 0) s m args below meth c H locs 0 0 Q (F0 m 20 ls [.int v20])) h (fun v20 h H locs ls hP hD hS hl => ?_) (fun J20 j20 h => ?_)
  · refine lv_istore_n (lv' := [(2, .int v20), (0, .ref (f 0)), (1, .int p1)]) hx hb dX4_passOne_20 rfl hl (by decide) rfl (fun ls hl => ?_)
    refine lv_aload_n hx hb dX4_passOne_21 rfl (lv_at hl 1 rfl) ?_
    refine va_get (D := (dC, dI)) (ci := 4) (v := .int c_isKeeping) (C := RX4) (T := TX4) (N := 28) hx hb hts hiX4 hown hK hP 0 rfl rfl 18 (by decide) hw1 (fun _ h9 => h9) rfl dX4_passOne_22 ?_
    refine jnW (fun (v38 : AR) => ∀ (H : Heap) (locs : List Loc) (ls : Array Slot), va_P (dC, dI) vwCl (zwM cI cC f c_r c_refused c_tape c_letter c_letterAt c_number c_taped c_at c_statements v38 c_hasImage c_isKeeping c_cursor c_poled c_barred c_leapsTo c_leapsThen c_lands c_row c_rowMany c_endsAt) H → va_D A (zwM cI cC f c_r c_refused c_tape c_letter c_letterAt c_number c_taped c_at c_statements v38 c_hasImage c_isKeeping c_cursor c_poled c_barred c_leapsTo c_leapsThen c_lands c_row c_rowMany c_endsAt) → va_S A s.heap H locs → lv_has ls 3 [(0, .ref (f 0)), (2, .int v20)] → W p l e (RMk 0 0) s m args below meth c H locs 0 0 Q (F0 m 38 ls [])) h (fun v38 h H locs ls hP hD hS hl => ?_) (fun J38 j38 h => ?_)
    · refine lv_aload_n hx hb dX4_passOne_38 rfl (lv_at hl 0 rfl) ?_
      refine lv_dup hx hb dX4_passOne_39 rfl ?_
      refine va_get (D := (dC, dI)) (ci := 4) (v := .int c_cursor) (C := RX4) (T := TX4) (N := 28) hx hb hts hiX4 hown hK hP 0 rfl rfl 19 (by decide) hw3 (fun _ h9 => h9) rfl dX4_passOne_40 ?_
      refine lv_iconst (v := (1 : Int32)) hx hb dX4_passOne_43 (by decide) ?_
      refine lv_iadd hx hb dX4_passOne_44 ?_
      refine va_put (D := (dC, dI)) (ci := 4) (v := .int (c_cursor + (1 : Int32))) (ty := .int) (C := RX4) (T := TX4) (N := 28) hx hb hts hiX4 tyX4 tyX4_ok nmX4 hown hK hP hD hS 0 rfl rfl 19 (by decide) hw3 (fun _ h9 => h9) rfl (by decide +kernel) rfl rfl (Nat.le_of_ble_eq_true rfl) dX4_passOne_45 (fun H locs hP hD hS => ?_)
      have hP : va_P (dC, dI) vwCl (zwM cI cC f c_r c_refused c_tape c_letter c_letterAt c_number c_taped c_at c_statements v38 c_hasImage c_isKeeping (c_cursor + (1 : Int32)) c_poled c_barred c_leapsTo c_leapsThen c_lands c_row c_rowMany c_endsAt) H := hP
      have hD : va_D A (zwM cI cC f c_r c_refused c_tape c_letter c_letterAt c_number c_taped c_at c_statements v38 c_hasImage c_isKeeping (c_cursor + (1 : Int32)) c_poled c_barred c_leapsTo c_leapsThen c_lands c_row c_rowMany c_endsAt) := hD
      refine lv_iload_n hx hb dX4_passOne_48 rfl (lv_at hl 1 rfl) ?_
      subst hQ
      exact retRW (zz := ((v20, v38, (c_cursor + (1 : Int32))) : Int32 × AR × Int32)) (fun z => z.1) (fun z => (zwM cI cC f c_r c_refused c_tape c_letter c_letterAt c_number c_taped c_at c_statements z.2.1 c_hasImage c_isKeeping z.2.2 c_poled c_barred c_leapsTo c_leapsThen c_lands c_row c_rowMany c_endsAt)) hx hb hr hlocks rfl hS h rfl hP dX4_passOne_49
    refine lv_if_eq (tgt := 38) hx hb dX4_passOne_25 (by decide) (fun c25 => ?_) (fun c25 => ?_)
    · have h := itT c25 h
      exact j38 _ h _ _ _ hP hD hS (lv_sub hl [1, 0] rfl)
    have h := itF c25 h
    refine lv_aload_n hx hb dX4_passOne_28 rfl (lv_at hl 1 rfl) ?_
    refine va_get (D := (dC, dI)) (ci := 4) (v := .ref (f 11)) (C := RX4) (T := TX4) (N := 28) hx hb hts hiX4 hown hK hP 0 rfl rfl 16 (by decide) hw2 (fun _ h9 => h9) rfl dX4_passOne_29 ?_
    refine lv_aload_n hx hb dX4_passOne_32 rfl (lv_at hl 1 rfl) ?_
    refine va_get (D := (dC, dI)) (ci := 4) (v := .int c_cursor) (C := RX4) (T := TX4) (N := 28) hx hb hts hiX4 hown hK hP 0 rfl rfl 19 (by decide) hw3 (fun _ h9 => h9) rfl dX4_passOne_33 ?_
    refine lv_iload_n hx hb dX4_passOne_36 rfl (lv_at hl 2 rfl) ?_
    obtain ⟨hin, h⟩ := ck_some h
    refine va_iast hx hb hK hP hD hS 11 0 rfl rfl hin dX4_passOne_37 (fun H locs hP hD hS => ?_)
    have hP : va_P (dC, dI) vwCl (zwM cI cC f c_r c_refused c_tape c_letter c_letterAt c_number c_taped c_at c_statements (upd c_kept (c_cursor).toNatClampNeg p1) c_hasImage c_isKeeping c_cursor c_poled c_barred c_leapsTo c_leapsThen c_lands c_row c_rowMany c_endsAt) H := hP
    have hD : va_D A (zwM cI cC f c_r c_refused c_tape c_letter c_letterAt c_number c_taped c_at c_statements (upd c_kept (c_cursor).toNatClampNeg p1) c_hasImage c_isKeeping c_cursor c_poled c_barred c_leapsTo c_leapsThen c_lands c_row c_rowMany c_endsAt) := hD
    exact j38 _ h _ _ _ hP hD hS (lv_sub hl [1, 0] rfl)
  refine lv_if_eq (tgt := 11) hx hb dX4_passOne_4 (by decide) (fun c4 => ?_) (fun c4 => ?_)
  · have h := itT c4 h
    refine lv_aload_n hx hb dX4_passOne_11 rfl (lv_at hl 0 rfl) ?_
    refine va_get (D := (dC, dI)) (ci := 4) (v := .ref (f 11)) (C := RX4) (T := TX4) (N := 28) hx hb hts hiX4 hown hK hP 0 rfl rfl 16 (by decide) hw2 (fun _ h9 => h9) rfl dX4_passOne_12 ?_
    refine lv_aload_n hx hb dX4_passOne_15 rfl (lv_at hl 0 rfl) ?_
    refine va_get (D := (dC, dI)) (ci := 4) (v := .int c_cursor) (C := RX4) (T := TX4) (N := 28) hx hb hts hiX4 hown hK hP 0 rfl rfl 19 (by decide) hw3 (fun _ h9 => h9) rfl dX4_passOne_16 ?_
    obtain ⟨hin, h⟩ := ck_some h
    refine va_iald hx hb hK hP 11 0 rfl rfl hin dX4_passOne_19 ?_
    exact j20 _ h _ _ _ hP hD hS (lv_sub hl [0, 1] rfl)
  have h := itF c4 h
  refine lv_iload_n hx hb dX4_passOne_7 rfl (lv_at hl 1 rfl) ?_
  refine lv_goto (tgt := 20) hx hb dX4_passOne_8 (by decide) ?_
  exact j20 _ h _ _ _ hP hD hS (lv_sub hl [0, 1] rfl)
theorem dX4_passesAll_0 : decode cX4_passesAll 0 = .ok (.aload_n 0, 1) := by decide +kernel
theorem dX4_passesAll_1 : decode cX4_passesAll 1 = .ok (.bipush 50, 2) := by decide +kernel
theorem dX4_passesAll_3 : decode cX4_passesAll 3 = .ok (.iload_n 1, 1) := by decide +kernel
theorem dX4_passesAll_4 : decode cX4_passesAll 4 = .ok (.imul, 1) := by decide +kernel
theorem dX4_passesAll_5 : decode cX4_passesAll 5 = .ok (.putfield 119, 3) := by decide +kernel
theorem dX4_passesAll_8 : decode cX4_passesAll 8 = .ok (.aload_n 0, 1) := by decide +kernel
theorem dX4_passesAll_9 : decode cX4_passesAll 9 = .ok (.iload_n 2, 1) := by decide +kernel
theorem dX4_passesAll_10 : decode cX4_passesAll 10 = .ok (.putfield 115, 3) := by decide +kernel
theorem dX4_passesAll_13 : decode cX4_passesAll 13 = .ok (.aload_n 0, 1) := by decide +kernel
theorem dX4_passesAll_14 : decode cX4_passesAll 14 = .ok (.aload_n 0, 1) := by decide +kernel
theorem dX4_passesAll_15 : decode cX4_passesAll 15 = .ok (.getfield 13, 3) := by decide +kernel
theorem dX4_passesAll_18 : decode cX4_passesAll 18 = .ok (.invokevirtual 122, 3) := by decide +kernel
theorem dX4_passesAll_21 : decode cX4_passesAll 21 = .ok (.aload_n 0, 1) := by decide +kernel
theorem dX4_passesAll_22 : decode cX4_passesAll 22 = .ok (.aload_n 0, 1) := by decide +kernel
theorem dX4_passesAll_23 : decode cX4_passesAll 23 = .ok (.getfield 16, 3) := by decide +kernel
theorem dX4_passesAll_26 : decode cX4_passesAll 26 = .ok (.invokevirtual 122, 3) := by decide +kernel
theorem dX4_passesAll_29 : decode cX4_passesAll 29 = .ok (.aload_n 0, 1) := by decide +kernel
theorem dX4_passesAll_30 : decode cX4_passesAll 30 = .ok (.aload_n 0, 1) := by decide +kernel
theorem dX4_passesAll_31 : decode cX4_passesAll 31 = .ok (.getfield 19, 3) := by decide +kernel
theorem dX4_passesAll_34 : decode cX4_passesAll 34 = .ok (.invokevirtual 122, 3) := by decide +kernel
theorem dX4_passesAll_37 : decode cX4_passesAll 37 = .ok (.aload_n 0, 1) := by decide +kernel
theorem dX4_passesAll_38 : decode cX4_passesAll 38 = .ok (.aload_n 0, 1) := by decide +kernel
theorem dX4_passesAll_39 : decode cX4_passesAll 39 = .ok (.getfield 22, 3) := by decide +kernel
theorem dX4_passesAll_42 : decode cX4_passesAll 42 = .ok (.invokevirtual 122, 3) := by decide +kernel
theorem dX4_passesAll_45 : decode cX4_passesAll 45 = .ok (.aload_n 0, 1) := by decide +kernel
theorem dX4_passesAll_46 : decode cX4_passesAll 46 = .ok (.aload_n 0, 1) := by decide +kernel
theorem dX4_passesAll_47 : decode cX4_passesAll 47 = .ok (.getfield 25, 3) := by decide +kernel
theorem dX4_passesAll_50 : decode cX4_passesAll 50 = .ok (.invokevirtual 122, 3) := by decide +kernel
theorem dX4_passesAll_53 : decode cX4_passesAll 53 = .ok (.aload_n 0, 1) := by decide +kernel
theorem dX4_passesAll_54 : decode cX4_passesAll 54 = .ok (.aload_n 0, 1) := by decide +kernel
theorem dX4_passesAll_55 : decode cX4_passesAll 55 = .ok (.aload_n 0, 1) := by decide +kernel
theorem dX4_passesAll_56 : decode cX4_passesAll 56 = .ok (.getfield 59, 3) := by decide +kernel
theorem dX4_passesAll_59 : decode cX4_passesAll 59 = .ok (.invokevirtual 126, 3) := by decide +kernel
theorem dX4_passesAll_62 : decode cX4_passesAll 62 = .ok (.putfield 59, 3) := by decide +kernel
theorem dX4_passesAll_65 : decode cX4_passesAll 65 = .ok (.aload_n 0, 1) := by decide +kernel
theorem dX4_passesAll_66 : decode cX4_passesAll 66 = .ok (.aload_n 0, 1) := by decide +kernel
theorem dX4_passesAll_67 : decode cX4_passesAll 67 = .ok (.aload_n 0, 1) := by decide +kernel
theorem dX4_passesAll_68 : decode cX4_passesAll 68 = .ok (.getfield 28, 3) := by decide +kernel
theorem dX4_passesAll_71 : decode cX4_passesAll 71 = .ok (.invokevirtual 126, 3) := by decide +kernel
theorem dX4_passesAll_74 : decode cX4_passesAll 74 = .ok (.putfield 28, 3) := by decide +kernel
theorem dX4_passesAll_77 : decode cX4_passesAll 77 = .ok (.aload_n 0, 1) := by decide +kernel
theorem dX4_passesAll_78 : decode cX4_passesAll 78 = .ok (.aload_n 0, 1) := by decide +kernel
theorem dX4_passesAll_79 : decode cX4_passesAll 79 = .ok (.aload_n 0, 1) := by decide +kernel
theorem dX4_passesAll_80 : decode cX4_passesAll 80 = .ok (.getfield 101, 3) := by decide +kernel
theorem dX4_passesAll_83 : decode cX4_passesAll 83 = .ok (.invokevirtual 126, 3) := by decide +kernel
theorem dX4_passesAll_86 : decode cX4_passesAll 86 = .ok (.putfield 101, 3) := by decide +kernel
theorem dX4_passesAll_89 : decode cX4_passesAll 89 = .ok (.return_, 1) := by decide +kernel
set_option maxRecDepth 20000 in
theorem ggX4_passesAll_X4_passes : GoodIn wsX4_passesAll wsX4_passes := goodIn_r _ [15, 2, 16, 1, 21, 22, 23, 24, 25, 26, 27, 28, 29, 30, 31, 32, 33, 34, 35, 36, 37, 38, 39, 40, 41, 42, 43, 44, 45, 46, 47, 48] (by decide +kernel) (by decide +kernel)
set_option maxRecDepth 20000 in
theorem gX4_passesAll_X4_passes : GoodIn wsX4_passesAll (wsV RX4 122 RX4 yX4_passes wsX4_passes) := goodIn_app (goodIn_of _ (by decide +kernel)) ggX4_passesAll_X4_passes
set_option maxRecDepth 20000 in
theorem ggX4_passesAll_X4_passOne : GoodIn wsX4_passesAll wsX4_passOne := goodIn_r _ [20, 2, 16, 1, 21, 22, 23, 24, 25, 26, 27, 28, 29, 30, 31, 32, 33, 34, 35, 36, 37, 38, 39, 40, 41, 42, 43, 44, 45, 46, 47, 48] (by decide +kernel) (by decide +kernel)
set_option maxRecDepth 20000 in
theorem gX4_passesAll_X4_passOne : GoodIn wsX4_passesAll (wsV RX4 126 RX4 yX4_passOne wsX4_passOne) := goodIn_app (goodIn_of _ (by decide +kernel)) ggX4_passesAll_X4_passOne
set_option maxHeartbeats 4000000 in
set_option maxRecDepth 100000 in
theorem mX4_passesAll (l : Launch) (dC : Nat → ClassId) (dI : Nat → Nat → Nat) (cI cC : ClassId) (sk : (Nat → Nat) × (Nat → Nat)) (f : Nat → Nat) (sz : Nat) (p1 : Int32) (p2 : Int32) (c_r : RT) (c_refused : AR) (c_tape : AR) (c_letter : AR) (c_letterAt : AR) (c_number : AR) (c_taped : Int32) (c_at : Int32) (c_statements : Int32) (c_kept : AR) (c_hasImage : Int32) (c_isKeeping : Int32) (c_cursor : Int32) (c_poled : Int32) (c_barred : Int32) (c_leapsTo : AR) (c_leapsThen : AR) (c_lands : AR) (c_row : AR) (c_rowMany : Int32) (c_endsAt : Int32) (z : RT × AR × Int32 × Int32) (h : fX4_passesAll p1 p2 c_r c_kept = some z) : cRV l yX4_passesAll wsX4_passesAll (RMk 1 22) sk (dC, dI) (tyz cI cC) sz (zwM cI cC f c_r c_refused c_tape c_letter c_letterAt c_number c_taped c_at c_statements c_kept c_hasImage c_isKeeping c_cursor c_poled c_barred c_leapsTo c_leapsThen c_lands c_row c_rowMany c_endsAt) (zwM cI cC f z.1 c_refused c_tape c_letter c_letterAt c_number c_taped c_at c_statements z.2.1 c_hasImage z.2.2.1 z.2.2.2 c_poled c_barred c_leapsTo c_leapsThen c_lands c_row c_rowMany c_endsAt) [.ref (f 0), .int p1, .int p2] := by
  refine ofRV (cc := cX4_passesAll) (maxL := 3) (ret := none) (own := RX4) (plainFor_of_name (by decide)) rfl rfl (Nat.le_of_ble_eq_true rfl) ?_
  intro p e s m args below meth c A hA hx hb hml hr hts hown hlocks hE hK hP hD hS ls hl
  generalize hQ : qRV _ _ _ _ _ _ = Q
  have hl : lv_has ls 3 [(0, .ref (f 0)), (1, .int p1), (2, .int p2)] := hl
  have hiX4 : ∀ w ∈ wsX40, w ∈ wsX4_passesAll := fun w h => List.mem_cons_of_mem _ (List.mem_append_right _ h)
  have hw1 := hts (Cond.fieldLink RX4 119 "FloeToFloeModel" "cursor" "I") (List.mem_of_getElem? (i := 1) rfl)
  have hw2 := hts (Cond.fieldLink RX4 115 "FloeToFloeModel" "isKeeping" "Z") (List.mem_of_getElem? (i := 2) rfl)
  have hw3 := hts (Cond.fieldLink RX4 13 "FloeToFloeModel" "kind" "[I") (List.mem_of_getElem? (i := 3) rfl)
  have hw4 := hts (Cond.fieldLink RX4 16 "FloeToFloeModel" "laneOf" "[I") (List.mem_of_getElem? (i := 4) rfl)
  have hw5 := hts (Cond.fieldLink RX4 19 "FloeToFloeModel" "cellOf" "[I") (List.mem_of_getElem? (i := 5) rfl)
  have hw6 := hts (Cond.fieldLink RX4 22 "FloeToFloeModel" "pace" "[I") (List.mem_of_getElem? (i := 6) rfl)
  have hw7 := hts (Cond.fieldLink RX4 25 "FloeToFloeModel" "strong" "[I") (List.mem_of_getElem? (i := 7) rfl)
  have hw8 := hts (Cond.fieldLink RX4 59 "FloeToFloeModel" "floes" "I") (List.mem_of_getElem? (i := 8) rfl)
  have hw9 := hts (Cond.fieldLink RX4 28 "FloeToFloeModel" "lanes" "I") (List.mem_of_getElem? (i := 9) rfl)
  have hw10 := hts (Cond.fieldLink RX4 101 "FloeToFloeModel" "minute" "I") (List.mem_of_getElem? (i := 10) rfl)
  rw [fX4_passesAll] at h
  refine lv_aload_n hx hb dX4_passesAll_0 rfl (lv_at hl 0 rfl) ?_
  refine lv_bipush (v := (50 : Int32)) hx hb dX4_passesAll_1 (by decide) ?_
  refine lv_iload_n hx hb dX4_passesAll_3 rfl (lv_at hl 1 rfl) ?_
  refine lv_imul hx hb dX4_passesAll_4 ?_
  refine va_put (D := (dC, dI)) (ci := 4) (v := .int ((50 : Int32) * p1)) (ty := .int) (C := RX4) (T := TX4) (N := 28) hx hb hts hiX4 tyX4 tyX4_ok nmX4 hown hK hP hD hS 0 rfl rfl 19 (by decide) hw1 (fun _ h9 => h9) rfl (by decide +kernel) rfl rfl (Nat.le_of_ble_eq_true rfl) dX4_passesAll_5 (fun H locs hP hD hS => ?_)
  have hP : va_P (dC, dI) vwCl (zwM cI cC f c_r c_refused c_tape c_letter c_letterAt c_number c_taped c_at c_statements c_kept c_hasImage c_isKeeping ((50 : Int32) * p1) c_poled c_barred c_leapsTo c_leapsThen c_lands c_row c_rowMany c_endsAt) H := hP
  have hD : va_D A (zwM cI cC f c_r c_refused c_tape c_letter c_letterAt c_number c_taped c_at c_statements c_kept c_hasImage c_isKeeping ((50 : Int32) * p1) c_poled c_barred c_leapsTo c_leapsThen c_lands c_row c_rowMany c_endsAt) := hD
  refine lv_aload_n hx hb dX4_passesAll_8 rfl (lv_at hl 0 rfl) ?_
  refine lv_iload_n hx hb dX4_passesAll_9 rfl (lv_at hl 2 rfl) ?_
  obtain ⟨hz, h⟩ := ckb_some h
  refine va_put (D := (dC, dI)) (ci := 4) (v := .int p2) (ty := .boolean) (C := RX4) (T := TX4) (N := 28) hx hb hts hiX4 tyX4 tyX4_ok nmX4 hown hK hP hD hS 0 rfl rfl 18 (by decide) hw2 (fun _ h9 => h9) rfl (by decide +kernel) (ckb_n hz) (ckb_f hz) (Nat.le_of_ble_eq_true rfl) dX4_passesAll_10 (fun H locs hP hD hS => ?_)
  have hP : va_P (dC, dI) vwCl (zwM cI cC f c_r c_refused c_tape c_letter c_letterAt c_number c_taped c_at c_statements c_kept c_hasImage p2 ((50 : Int32) * p1) c_poled c_barred c_leapsTo c_leapsThen c_lands c_row c_rowMany c_endsAt) H := hP
  have hD : va_D A (zwM cI cC f c_r c_refused c_tape c_letter c_letterAt c_number c_taped c_at c_statements c_kept c_hasImage p2 ((50 : Int32) * p1) c_poled c_barred c_leapsTo c_leapsThen c_lands c_row c_rowMany c_endsAt) := hD
  refine lv_aload_n hx hb dX4_passesAll_13 rfl (lv_at hl 0 rfl) ?_
  refine lv_aload_n hx hb dX4_passesAll_14 rfl (lv_at hl 0 rfl) ?_
  refine va_get (D := (dC, dI)) (ci := 4) (v := .ref (f 2)) (C := RX4) (T := TX4) (N := 28) hx hb hts hiX4 hown hK hP 0 rfl rfl 1 (by decide) hw3 (fun _ h9 => h9) rfl dX4_passesAll_15 ?_
  obtain ⟨q18, e18, h⟩ := bd_some h
  refine g_rvV (wc := (zwM cI cC f c_r c_refused c_tape c_letter c_letterAt c_number c_taped c_at c_statements c_kept c_hasImage p2 ((50 : Int32) * p1) c_poled c_barred c_leapsTo c_leapsThen c_lands c_row c_rowMany c_endsAt)) (wc' := (zwM cI cC f q18.1 c_refused c_tape c_letter c_letterAt c_number c_taped c_at c_statements q18.2.1 c_hasImage p2 q18.2.2 c_poled c_barred c_leapsTo c_leapsThen c_lands c_row c_rowMany c_endsAt)) ⟨hx, hb, hml, hown, hts⟩ hE hK hA hP hD hS [0, 1, 2, 3, 4, 5, 6, 7, 8, 9, 10, 11, 12, 13, 14, 15] rfl rfl rfl (mX4_passes_2 l dC dI cI cC sk f H.size c_r c_refused c_tape c_letter c_letterAt c_number c_taped c_at c_statements c_kept c_hasImage p2 ((50 : Int32) * p1) c_poled c_barred c_leapsTo c_leapsThen c_lands c_row c_rowMany c_endsAt q18 e18) (cwV 1 hts gX4_passesAll_X4_passes rfl rfl rfl (by decide +kernel) ⟨Nat.le_of_ble_eq_true rfl, Nat.le_of_ble_eq_true rfl⟩) (va_recv hK hP (ci := 4) (q0 := 0) rfl rfl) (As := [.ref (f 2)]) (rest := []) rfl hl.1 rfl (Nat.le_of_ble_eq_true rfl) dX4_passesAll_18 ⟨Nat.zero_le _, Nat.zero_le _⟩ (fun H locs hP hD hS => ?_)
  have hP : va_P (dC, dI) vwCl (zwM cI cC f q18.1 c_refused c_tape c_letter c_letterAt c_number c_taped c_at c_statements q18.2.1 c_hasImage p2 q18.2.2 c_poled c_barred c_leapsTo c_leapsThen c_lands c_row c_rowMany c_endsAt) H := hP
  have hD : va_D A (zwM cI cC f q18.1 c_refused c_tape c_letter c_letterAt c_number c_taped c_at c_statements q18.2.1 c_hasImage p2 q18.2.2 c_poled c_barred c_leapsTo c_leapsThen c_lands c_row c_rowMany c_endsAt) := hD
  refine lv_aload_n hx hb dX4_passesAll_21 rfl (lv_at hl 0 rfl) ?_
  refine lv_aload_n hx hb dX4_passesAll_22 rfl (lv_at hl 0 rfl) ?_
  refine va_get (D := (dC, dI)) (ci := 4) (v := .ref (f 3)) (C := RX4) (T := TX4) (N := 28) hx hb hts hiX4 hown hK hP 0 rfl rfl 2 (by decide) hw4 (fun _ h9 => h9) rfl dX4_passesAll_23 ?_
  obtain ⟨q26, e26, h⟩ := bd_some h
  refine g_rvV (wc := (zwM cI cC f q18.1 c_refused c_tape c_letter c_letterAt c_number c_taped c_at c_statements q18.2.1 c_hasImage p2 q18.2.2 c_poled c_barred c_leapsTo c_leapsThen c_lands c_row c_rowMany c_endsAt)) (wc' := (zwM cI cC f q26.1 c_refused c_tape c_letter c_letterAt c_number c_taped c_at c_statements q26.2.1 c_hasImage p2 q26.2.2 c_poled c_barred c_leapsTo c_leapsThen c_lands c_row c_rowMany c_endsAt)) ⟨hx, hb, hml, hown, hts⟩ hE hK hA hP hD hS [0, 1, 2, 3, 4, 5, 6, 7, 8, 9, 10, 11, 12, 13, 14, 15] rfl rfl rfl (mX4_passes_3 l dC dI cI cC sk f H.size q18.1 c_refused c_tape c_letter c_letterAt c_number c_taped c_at c_statements q18.2.1 c_hasImage p2 q18.2.2 c_poled c_barred c_leapsTo c_leapsThen c_lands c_row c_rowMany c_endsAt q26 e26) (cwV 1 hts gX4_passesAll_X4_passes rfl rfl rfl (by decide +kernel) ⟨Nat.le_of_ble_eq_true rfl, Nat.le_of_ble_eq_true rfl⟩) (va_recv hK hP (ci := 4) (q0 := 0) rfl rfl) (As := [.ref (f 3)]) (rest := []) rfl hl.1 rfl (Nat.le_of_ble_eq_true rfl) dX4_passesAll_26 ⟨Nat.zero_le _, Nat.zero_le _⟩ (fun H locs hP hD hS => ?_)
  have hP : va_P (dC, dI) vwCl (zwM cI cC f q26.1 c_refused c_tape c_letter c_letterAt c_number c_taped c_at c_statements q26.2.1 c_hasImage p2 q26.2.2 c_poled c_barred c_leapsTo c_leapsThen c_lands c_row c_rowMany c_endsAt) H := hP
  have hD : va_D A (zwM cI cC f q26.1 c_refused c_tape c_letter c_letterAt c_number c_taped c_at c_statements q26.2.1 c_hasImage p2 q26.2.2 c_poled c_barred c_leapsTo c_leapsThen c_lands c_row c_rowMany c_endsAt) := hD
  refine lv_aload_n hx hb dX4_passesAll_29 rfl (lv_at hl 0 rfl) ?_
  refine lv_aload_n hx hb dX4_passesAll_30 rfl (lv_at hl 0 rfl) ?_
  refine va_get (D := (dC, dI)) (ci := 4) (v := .ref (f 4)) (C := RX4) (T := TX4) (N := 28) hx hb hts hiX4 hown hK hP 0 rfl rfl 3 (by decide) hw5 (fun _ h9 => h9) rfl dX4_passesAll_31 ?_
  obtain ⟨q34, e34, h⟩ := bd_some h
  refine g_rvV (wc := (zwM cI cC f q26.1 c_refused c_tape c_letter c_letterAt c_number c_taped c_at c_statements q26.2.1 c_hasImage p2 q26.2.2 c_poled c_barred c_leapsTo c_leapsThen c_lands c_row c_rowMany c_endsAt)) (wc' := (zwM cI cC f q34.1 c_refused c_tape c_letter c_letterAt c_number c_taped c_at c_statements q34.2.1 c_hasImage p2 q34.2.2 c_poled c_barred c_leapsTo c_leapsThen c_lands c_row c_rowMany c_endsAt)) ⟨hx, hb, hml, hown, hts⟩ hE hK hA hP hD hS [0, 1, 2, 3, 4, 5, 6, 7, 8, 9, 10, 11, 12, 13, 14, 15] rfl rfl rfl (mX4_passes_4 l dC dI cI cC sk f H.size q26.1 c_refused c_tape c_letter c_letterAt c_number c_taped c_at c_statements q26.2.1 c_hasImage p2 q26.2.2 c_poled c_barred c_leapsTo c_leapsThen c_lands c_row c_rowMany c_endsAt q34 e34) (cwV 1 hts gX4_passesAll_X4_passes rfl rfl rfl (by decide +kernel) ⟨Nat.le_of_ble_eq_true rfl, Nat.le_of_ble_eq_true rfl⟩) (va_recv hK hP (ci := 4) (q0 := 0) rfl rfl) (As := [.ref (f 4)]) (rest := []) rfl hl.1 rfl (Nat.le_of_ble_eq_true rfl) dX4_passesAll_34 ⟨Nat.zero_le _, Nat.zero_le _⟩ (fun H locs hP hD hS => ?_)
  have hP : va_P (dC, dI) vwCl (zwM cI cC f q34.1 c_refused c_tape c_letter c_letterAt c_number c_taped c_at c_statements q34.2.1 c_hasImage p2 q34.2.2 c_poled c_barred c_leapsTo c_leapsThen c_lands c_row c_rowMany c_endsAt) H := hP
  have hD : va_D A (zwM cI cC f q34.1 c_refused c_tape c_letter c_letterAt c_number c_taped c_at c_statements q34.2.1 c_hasImage p2 q34.2.2 c_poled c_barred c_leapsTo c_leapsThen c_lands c_row c_rowMany c_endsAt) := hD
  refine lv_aload_n hx hb dX4_passesAll_37 rfl (lv_at hl 0 rfl) ?_
  refine lv_aload_n hx hb dX4_passesAll_38 rfl (lv_at hl 0 rfl) ?_
  refine va_get (D := (dC, dI)) (ci := 4) (v := .ref (f 5)) (C := RX4) (T := TX4) (N := 28) hx hb hts hiX4 hown hK hP 0 rfl rfl 4 (by decide) hw6 (fun _ h9 => h9) rfl dX4_passesAll_39 ?_
  obtain ⟨q42, e42, h⟩ := bd_some h
  refine g_rvV (wc := (zwM cI cC f q34.1 c_refused c_tape c_letter c_letterAt c_number c_taped c_at c_statements q34.2.1 c_hasImage p2 q34.2.2 c_poled c_barred c_leapsTo c_leapsThen c_lands c_row c_rowMany c_endsAt)) (wc' := (zwM cI cC f q42.1 c_refused c_tape c_letter c_letterAt c_number c_taped c_at c_statements q42.2.1 c_hasImage p2 q42.2.2 c_poled c_barred c_leapsTo c_leapsThen c_lands c_row c_rowMany c_endsAt)) ⟨hx, hb, hml, hown, hts⟩ hE hK hA hP hD hS [0, 1, 2, 3, 4, 5, 6, 7, 8, 9, 10, 11, 12, 13, 14, 15] rfl rfl rfl (mX4_passes_5 l dC dI cI cC sk f H.size q34.1 c_refused c_tape c_letter c_letterAt c_number c_taped c_at c_statements q34.2.1 c_hasImage p2 q34.2.2 c_poled c_barred c_leapsTo c_leapsThen c_lands c_row c_rowMany c_endsAt q42 e42) (cwV 1 hts gX4_passesAll_X4_passes rfl rfl rfl (by decide +kernel) ⟨Nat.le_of_ble_eq_true rfl, Nat.le_of_ble_eq_true rfl⟩) (va_recv hK hP (ci := 4) (q0 := 0) rfl rfl) (As := [.ref (f 5)]) (rest := []) rfl hl.1 rfl (Nat.le_of_ble_eq_true rfl) dX4_passesAll_42 ⟨Nat.zero_le _, Nat.zero_le _⟩ (fun H locs hP hD hS => ?_)
  have hP : va_P (dC, dI) vwCl (zwM cI cC f q42.1 c_refused c_tape c_letter c_letterAt c_number c_taped c_at c_statements q42.2.1 c_hasImage p2 q42.2.2 c_poled c_barred c_leapsTo c_leapsThen c_lands c_row c_rowMany c_endsAt) H := hP
  have hD : va_D A (zwM cI cC f q42.1 c_refused c_tape c_letter c_letterAt c_number c_taped c_at c_statements q42.2.1 c_hasImage p2 q42.2.2 c_poled c_barred c_leapsTo c_leapsThen c_lands c_row c_rowMany c_endsAt) := hD
  refine lv_aload_n hx hb dX4_passesAll_45 rfl (lv_at hl 0 rfl) ?_
  refine lv_aload_n hx hb dX4_passesAll_46 rfl (lv_at hl 0 rfl) ?_
  refine va_get (D := (dC, dI)) (ci := 4) (v := .ref (f 6)) (C := RX4) (T := TX4) (N := 28) hx hb hts hiX4 hown hK hP 0 rfl rfl 5 (by decide) hw7 (fun _ h9 => h9) rfl dX4_passesAll_47 ?_
  obtain ⟨q50, e50, h⟩ := bd_some h
  refine g_rvV (wc := (zwM cI cC f q42.1 c_refused c_tape c_letter c_letterAt c_number c_taped c_at c_statements q42.2.1 c_hasImage p2 q42.2.2 c_poled c_barred c_leapsTo c_leapsThen c_lands c_row c_rowMany c_endsAt)) (wc' := (zwM cI cC f q50.1 c_refused c_tape c_letter c_letterAt c_number c_taped c_at c_statements q50.2.1 c_hasImage p2 q50.2.2 c_poled c_barred c_leapsTo c_leapsThen c_lands c_row c_rowMany c_endsAt)) ⟨hx, hb, hml, hown, hts⟩ hE hK hA hP hD hS [0, 1, 2, 3, 4, 5, 6, 7, 8, 9, 10, 11, 12, 13, 14, 15] rfl rfl rfl (mX4_passes_6 l dC dI cI cC sk f H.size q42.1 c_refused c_tape c_letter c_letterAt c_number c_taped c_at c_statements q42.2.1 c_hasImage p2 q42.2.2 c_poled c_barred c_leapsTo c_leapsThen c_lands c_row c_rowMany c_endsAt q50 e50) (cwV 1 hts gX4_passesAll_X4_passes rfl rfl rfl (by decide +kernel) ⟨Nat.le_of_ble_eq_true rfl, Nat.le_of_ble_eq_true rfl⟩) (va_recv hK hP (ci := 4) (q0 := 0) rfl rfl) (As := [.ref (f 6)]) (rest := []) rfl hl.1 rfl (Nat.le_of_ble_eq_true rfl) dX4_passesAll_50 ⟨Nat.zero_le _, Nat.zero_le _⟩ (fun H locs hP hD hS => ?_)
  have hP : va_P (dC, dI) vwCl (zwM cI cC f q50.1 c_refused c_tape c_letter c_letterAt c_number c_taped c_at c_statements q50.2.1 c_hasImage p2 q50.2.2 c_poled c_barred c_leapsTo c_leapsThen c_lands c_row c_rowMany c_endsAt) H := hP
  have hD : va_D A (zwM cI cC f q50.1 c_refused c_tape c_letter c_letterAt c_number c_taped c_at c_statements q50.2.1 c_hasImage p2 q50.2.2 c_poled c_barred c_leapsTo c_leapsThen c_lands c_row c_rowMany c_endsAt) := hD
  refine lv_aload_n hx hb dX4_passesAll_53 rfl (lv_at hl 0 rfl) ?_
  refine lv_aload_n hx hb dX4_passesAll_54 rfl (lv_at hl 0 rfl) ?_
  refine lv_aload_n hx hb dX4_passesAll_55 rfl (lv_at hl 0 rfl) ?_
  refine va_get (D := (dC, dI)) (ci := 4) (v := .int (R_floes q50.1)) (C := RX4) (T := TX4) (N := 28) hx hb hts hiX4 hown hK hP 0 rfl rfl 6 (by decide) hw8 (fun _ h9 => h9) rfl dX4_passesAll_56 ?_
  obtain ⟨q59, e59, h⟩ := bd_some h
  refine g_rwV (wc := (zwM cI cC f q50.1 c_refused c_tape c_letter c_letterAt c_number c_taped c_at c_statements q50.2.1 c_hasImage p2 q50.2.2 c_poled c_barred c_leapsTo c_leapsThen c_lands c_row c_rowMany c_endsAt)) (wc' := (zwM cI cC f q50.1 c_refused c_tape c_letter c_letterAt c_number c_taped c_at c_statements q59.2.1 c_hasImage p2 q59.2.2 c_poled c_barred c_leapsTo c_leapsThen c_lands c_row c_rowMany c_endsAt)) ⟨hx, hb, hml, hown, hts⟩ hE hK hA hP hD hS [0, 1, 2, 3, 4, 5, 6, 7, 8, 9, 10, 11, 12, 13, 14, 15] rfl rfl rfl (mX4_passOne l dC dI cI cC sk f H.size (R_floes q50.1) q50.1 c_refused c_tape c_letter c_letterAt c_number c_taped c_at c_statements q50.2.1 c_hasImage p2 q50.2.2 c_poled c_barred c_leapsTo c_leapsThen c_lands c_row c_rowMany c_endsAt q59 e59) (cwV 1 hts gX4_passesAll_X4_passOne rfl rfl rfl (by decide +kernel) ⟨Nat.le_of_ble_eq_true rfl, Nat.le_of_ble_eq_true rfl⟩) (va_recv hK hP (ci := 4) (q0 := 0) rfl rfl) (As := [.int (R_floes q50.1)]) (rest := [.ref (f 0)]) rfl hl.1 rfl (Nat.le_of_ble_eq_true rfl) dX4_passesAll_59 ⟨Nat.zero_le _, Nat.zero_le _⟩ (fun H locs hP hD hS => ?_)
  have hP : va_P (dC, dI) vwCl (zwM cI cC f q50.1 c_refused c_tape c_letter c_letterAt c_number c_taped c_at c_statements q59.2.1 c_hasImage p2 q59.2.2 c_poled c_barred c_leapsTo c_leapsThen c_lands c_row c_rowMany c_endsAt) H := hP
  have hD : va_D A (zwM cI cC f q50.1 c_refused c_tape c_letter c_letterAt c_number c_taped c_at c_statements q59.2.1 c_hasImage p2 q59.2.2 c_poled c_barred c_leapsTo c_leapsThen c_lands c_row c_rowMany c_endsAt) := hD
  refine va_put (D := (dC, dI)) (ci := 4) (v := .int q59.1) (ty := .int) (C := RX4) (T := TX4) (N := 28) hx hb hts hiX4 tyX4 tyX4_ok nmX4 hown hK hP hD hS 0 rfl rfl 6 (by decide) hw8 (fun _ h9 => h9) rfl (by decide +kernel) rfl rfl (Nat.le_of_ble_eq_true rfl) dX4_passesAll_62 (fun H locs hP hD hS => ?_)
  have hP : va_P (dC, dI) vwCl (zwM cI cC f (R_setFloes q50.1 q59.1) c_refused c_tape c_letter c_letterAt c_number c_taped c_at c_statements q59.2.1 c_hasImage p2 q59.2.2 c_poled c_barred c_leapsTo c_leapsThen c_lands c_row c_rowMany c_endsAt) H := hP
  have hD : va_D A (zwM cI cC f (R_setFloes q50.1 q59.1) c_refused c_tape c_letter c_letterAt c_number c_taped c_at c_statements q59.2.1 c_hasImage p2 q59.2.2 c_poled c_barred c_leapsTo c_leapsThen c_lands c_row c_rowMany c_endsAt) := hD
  refine lv_aload_n hx hb dX4_passesAll_65 rfl (lv_at hl 0 rfl) ?_
  refine lv_aload_n hx hb dX4_passesAll_66 rfl (lv_at hl 0 rfl) ?_
  refine lv_aload_n hx hb dX4_passesAll_67 rfl (lv_at hl 0 rfl) ?_
  refine va_get (D := (dC, dI)) (ci := 4) (v := .int (R_lanes (R_setFloes q50.1 q59.1))) (C := RX4) (T := TX4) (N := 28) hx hb hts hiX4 hown hK hP 0 rfl rfl 7 (by decide) hw9 (fun _ h9 => h9) rfl dX4_passesAll_68 ?_
  obtain ⟨q71, e71, h⟩ := bd_some h
  refine g_rwV (wc := (zwM cI cC f (R_setFloes q50.1 q59.1) c_refused c_tape c_letter c_letterAt c_number c_taped c_at c_statements q59.2.1 c_hasImage p2 q59.2.2 c_poled c_barred c_leapsTo c_leapsThen c_lands c_row c_rowMany c_endsAt)) (wc' := (zwM cI cC f (R_setFloes q50.1 q59.1) c_refused c_tape c_letter c_letterAt c_number c_taped c_at c_statements q71.2.1 c_hasImage p2 q71.2.2 c_poled c_barred c_leapsTo c_leapsThen c_lands c_row c_rowMany c_endsAt)) ⟨hx, hb, hml, hown, hts⟩ hE hK hA hP hD hS [0, 1, 2, 3, 4, 5, 6, 7, 8, 9, 10, 11, 12, 13, 14, 15] rfl rfl rfl (mX4_passOne l dC dI cI cC sk f H.size (R_lanes (R_setFloes q50.1 q59.1)) (R_setFloes q50.1 q59.1) c_refused c_tape c_letter c_letterAt c_number c_taped c_at c_statements q59.2.1 c_hasImage p2 q59.2.2 c_poled c_barred c_leapsTo c_leapsThen c_lands c_row c_rowMany c_endsAt q71 e71) (cwV 1 hts gX4_passesAll_X4_passOne rfl rfl rfl (by decide +kernel) ⟨Nat.le_of_ble_eq_true rfl, Nat.le_of_ble_eq_true rfl⟩) (va_recv hK hP (ci := 4) (q0 := 0) rfl rfl) (As := [.int (R_lanes (R_setFloes q50.1 q59.1))]) (rest := [.ref (f 0)]) rfl hl.1 rfl (Nat.le_of_ble_eq_true rfl) dX4_passesAll_71 ⟨Nat.zero_le _, Nat.zero_le _⟩ (fun H locs hP hD hS => ?_)
  have hP : va_P (dC, dI) vwCl (zwM cI cC f (R_setFloes q50.1 q59.1) c_refused c_tape c_letter c_letterAt c_number c_taped c_at c_statements q71.2.1 c_hasImage p2 q71.2.2 c_poled c_barred c_leapsTo c_leapsThen c_lands c_row c_rowMany c_endsAt) H := hP
  have hD : va_D A (zwM cI cC f (R_setFloes q50.1 q59.1) c_refused c_tape c_letter c_letterAt c_number c_taped c_at c_statements q71.2.1 c_hasImage p2 q71.2.2 c_poled c_barred c_leapsTo c_leapsThen c_lands c_row c_rowMany c_endsAt) := hD
  refine va_put (D := (dC, dI)) (ci := 4) (v := .int q71.1) (ty := .int) (C := RX4) (T := TX4) (N := 28) hx hb hts hiX4 tyX4 tyX4_ok nmX4 hown hK hP hD hS 0 rfl rfl 7 (by decide) hw9 (fun _ h9 => h9) rfl (by decide +kernel) rfl rfl (Nat.le_of_ble_eq_true rfl) dX4_passesAll_74 (fun H locs hP hD hS => ?_)
  have hP : va_P (dC, dI) vwCl (zwM cI cC f (R_setLanes (R_setFloes q50.1 q59.1) q71.1) c_refused c_tape c_letter c_letterAt c_number c_taped c_at c_statements q71.2.1 c_hasImage p2 q71.2.2 c_poled c_barred c_leapsTo c_leapsThen c_lands c_row c_rowMany c_endsAt) H := hP
  have hD : va_D A (zwM cI cC f (R_setLanes (R_setFloes q50.1 q59.1) q71.1) c_refused c_tape c_letter c_letterAt c_number c_taped c_at c_statements q71.2.1 c_hasImage p2 q71.2.2 c_poled c_barred c_leapsTo c_leapsThen c_lands c_row c_rowMany c_endsAt) := hD
  refine lv_aload_n hx hb dX4_passesAll_77 rfl (lv_at hl 0 rfl) ?_
  refine lv_aload_n hx hb dX4_passesAll_78 rfl (lv_at hl 0 rfl) ?_
  refine lv_aload_n hx hb dX4_passesAll_79 rfl (lv_at hl 0 rfl) ?_
  refine va_get (D := (dC, dI)) (ci := 4) (v := .int (R_minute (R_setLanes (R_setFloes q50.1 q59.1) q71.1))) (C := RX4) (T := TX4) (N := 28) hx hb hts hiX4 hown hK hP 0 rfl rfl 8 (by decide) hw10 (fun _ h9 => h9) rfl dX4_passesAll_80 ?_
  obtain ⟨q83, e83, h⟩ := bd_some h
  refine g_rwV (wc := (zwM cI cC f (R_setLanes (R_setFloes q50.1 q59.1) q71.1) c_refused c_tape c_letter c_letterAt c_number c_taped c_at c_statements q71.2.1 c_hasImage p2 q71.2.2 c_poled c_barred c_leapsTo c_leapsThen c_lands c_row c_rowMany c_endsAt)) (wc' := (zwM cI cC f (R_setLanes (R_setFloes q50.1 q59.1) q71.1) c_refused c_tape c_letter c_letterAt c_number c_taped c_at c_statements q83.2.1 c_hasImage p2 q83.2.2 c_poled c_barred c_leapsTo c_leapsThen c_lands c_row c_rowMany c_endsAt)) ⟨hx, hb, hml, hown, hts⟩ hE hK hA hP hD hS [0, 1, 2, 3, 4, 5, 6, 7, 8, 9, 10, 11, 12, 13, 14, 15] rfl rfl rfl (mX4_passOne l dC dI cI cC sk f H.size (R_minute (R_setLanes (R_setFloes q50.1 q59.1) q71.1)) (R_setLanes (R_setFloes q50.1 q59.1) q71.1) c_refused c_tape c_letter c_letterAt c_number c_taped c_at c_statements q71.2.1 c_hasImage p2 q71.2.2 c_poled c_barred c_leapsTo c_leapsThen c_lands c_row c_rowMany c_endsAt q83 e83) (cwV 1 hts gX4_passesAll_X4_passOne rfl rfl rfl (by decide +kernel) ⟨Nat.le_of_ble_eq_true rfl, Nat.le_of_ble_eq_true rfl⟩) (va_recv hK hP (ci := 4) (q0 := 0) rfl rfl) (As := [.int (R_minute (R_setLanes (R_setFloes q50.1 q59.1) q71.1))]) (rest := [.ref (f 0)]) rfl hl.1 rfl (Nat.le_of_ble_eq_true rfl) dX4_passesAll_83 ⟨Nat.zero_le _, Nat.zero_le _⟩ (fun H locs hP hD hS => ?_)
  have hP : va_P (dC, dI) vwCl (zwM cI cC f (R_setLanes (R_setFloes q50.1 q59.1) q71.1) c_refused c_tape c_letter c_letterAt c_number c_taped c_at c_statements q83.2.1 c_hasImage p2 q83.2.2 c_poled c_barred c_leapsTo c_leapsThen c_lands c_row c_rowMany c_endsAt) H := hP
  have hD : va_D A (zwM cI cC f (R_setLanes (R_setFloes q50.1 q59.1) q71.1) c_refused c_tape c_letter c_letterAt c_number c_taped c_at c_statements q83.2.1 c_hasImage p2 q83.2.2 c_poled c_barred c_leapsTo c_leapsThen c_lands c_row c_rowMany c_endsAt) := hD
  refine va_put (D := (dC, dI)) (ci := 4) (v := .int q83.1) (ty := .int) (C := RX4) (T := TX4) (N := 28) hx hb hts hiX4 tyX4 tyX4_ok nmX4 hown hK hP hD hS 0 rfl rfl 8 (by decide) hw10 (fun _ h9 => h9) rfl (by decide +kernel) rfl rfl (Nat.le_of_ble_eq_true rfl) dX4_passesAll_86 (fun H locs hP hD hS => ?_)
  have hP : va_P (dC, dI) vwCl (zwM cI cC f (R_setMinute (R_setLanes (R_setFloes q50.1 q59.1) q71.1) q83.1) c_refused c_tape c_letter c_letterAt c_number c_taped c_at c_statements q83.2.1 c_hasImage p2 q83.2.2 c_poled c_barred c_leapsTo c_leapsThen c_lands c_row c_rowMany c_endsAt) H := hP
  have hD : va_D A (zwM cI cC f (R_setMinute (R_setLanes (R_setFloes q50.1 q59.1) q71.1) q83.1) c_refused c_tape c_letter c_letterAt c_number c_taped c_at c_statements q83.2.1 c_hasImage p2 q83.2.2 c_poled c_barred c_leapsTo c_leapsThen c_lands c_row c_rowMany c_endsAt) := hD
  subst hQ
  exact retRV (zz := (((R_setMinute (R_setLanes (R_setFloes q50.1 q59.1) q71.1) q83.1), q83.2.1, p2, q83.2.2) : RT × AR × Int32 × Int32)) (fun z => (zwM cI cC f z.1 c_refused c_tape c_letter c_letterAt c_number c_taped c_at c_statements z.2.1 c_hasImage z.2.2.1 z.2.2.2 c_poled c_barred c_leapsTo c_leapsThen c_lands c_row c_rowMany c_endsAt)) hx hb hr hlocks hS h hP dX4_passesAll_89
theorem dX4_river_0 : decode cX4_river 0 = .ok (.aload_n 0, 1) := by decide +kernel
theorem dX4_river_1 : decode cX4_river 1 = .ok (.iconst 0, 1) := by decide +kernel
theorem dX4_river_2 : decode cX4_river 2 = .ok (.putfield 77, 3) := by decide +kernel
theorem dX4_river_5 : decode cX4_river 5 = .ok (.aload_n 0, 1) := by decide +kernel
theorem dX4_river_6 : decode cX4_river 6 = .ok (.iconst 0, 1) := by decide +kernel
theorem dX4_river_7 : decode cX4_river 7 = .ok (.putfield 91, 3) := by decide +kernel
theorem dX4_river_10 : decode cX4_river 10 = .ok (.iconst 1, 1) := by decide +kernel
theorem dX4_river_11 : decode cX4_river 11 = .ok (.istore_n 1, 1) := by decide +kernel
theorem dX4_river_12 : decode cX4_river 12 = .ok (.iload_n 1, 1) := by decide +kernel
theorem dX4_river_13 : decode cX4_river 13 = .ok (.ifCond .eq 47, 3) := by decide +kernel
theorem dX4_river_16 : decode cX4_river 16 = .ok (.aload_n 0, 1) := by decide +kernel
theorem dX4_river_17 : decode cX4_river 17 = .ok (.getfield 77, 3) := by decide +kernel
theorem dX4_river_20 : decode cX4_river 20 = .ok (.aload_n 0, 1) := by decide +kernel
theorem dX4_river_21 : decode cX4_river 21 = .ok (.getfield 70, 3) := by decide +kernel
theorem dX4_river_24 : decode cX4_river 24 = .ok (.if_icmp .lt 10, 3) := by decide +kernel
theorem dX4_river_27 : decode cX4_river 27 = .ok (.aload_n 0, 1) := by decide +kernel
theorem dX4_river_28 : decode cX4_river 28 = .ok (.getfield 91, 3) := by decide +kernel
theorem dX4_river_31 : decode cX4_river 31 = .ok (.ifCond .ne 29, 3) := by decide +kernel
theorem dX4_river_34 : decode cX4_river 34 = .ok (.aload_n 0, 1) := by decide +kernel
theorem dX4_river_35 : decode cX4_river 35 = .ok (.invokevirtual 104, 3) := by decide +kernel
theorem dX4_river_38 : decode cX4_river 38 = .ok (.istore_n 1, 1) := by decide +kernel
theorem dX4_river_39 : decode cX4_river 39 = .ok (.aload_n 0, 1) := by decide +kernel
theorem dX4_river_40 : decode cX4_river 40 = .ok (.dup, 1) := by decide +kernel
theorem dX4_river_41 : decode cX4_river 41 = .ok (.getfield 91, 3) := by decide +kernel
theorem dX4_river_44 : decode cX4_river 44 = .ok (.iload_n 1, 1) := by decide +kernel
theorem dX4_river_45 : decode cX4_river 45 = .ok (.ifCond .eq 7, 3) := by decide +kernel
theorem dX4_river_48 : decode cX4_river 48 = .ok (.iconst 1, 1) := by decide +kernel
theorem dX4_river_49 : decode cX4_river 49 = .ok (.goto 4, 3) := by decide +kernel
theorem dX4_river_52 : decode cX4_river 52 = .ok (.iconst 0, 1) := by decide +kernel
theorem dX4_river_53 : decode cX4_river 53 = .ok (.iadd, 1) := by decide +kernel
theorem dX4_river_54 : decode cX4_river 54 = .ok (.putfield 91, 3) := by decide +kernel
theorem dX4_river_57 : decode cX4_river 57 = .ok (.goto (-45), 3) := by decide +kernel
theorem dX4_river_60 : decode cX4_river 60 = .ok (.aload_n 0, 1) := by decide +kernel
theorem dX4_river_61 : decode cX4_river 61 = .ok (.iconst 0, 1) := by decide +kernel
theorem dX4_river_62 : decode cX4_river 62 = .ok (.putfield 70, 3) := by decide +kernel
theorem dX4_river_65 : decode cX4_river 65 = .ok (.iload_n 1, 1) := by decide +kernel
theorem dX4_river_66 : decode cX4_river 66 = .ok (.ifCond .ne 12, 3) := by decide +kernel
theorem dX4_river_69 : decode cX4_river 69 = .ok (.sipush (-1000), 3) := by decide +kernel
theorem dX4_river_72 : decode cX4_river 72 = .ok (.aload_n 0, 1) := by decide +kernel
theorem dX4_river_73 : decode cX4_river 73 = .ok (.getfield 77, 3) := by decide +kernel
theorem dX4_river_76 : decode cX4_river 76 = .ok (.isub, 1) := by decide +kernel
theorem dX4_river_77 : decode cX4_river 77 = .ok (.ireturn, 1) := by decide +kernel
theorem dX4_river_78 : decode cX4_river 78 = .ok (.aload_n 0, 1) := by decide +kernel
theorem dX4_river_79 : decode cX4_river 79 = .ok (.iconst 1, 1) := by decide +kernel
theorem dX4_river_80 : decode cX4_river 80 = .ok (.iconst 1, 1) := by decide +kernel
theorem dX4_river_81 : decode cX4_river 81 = .ok (.invokevirtual 108, 3) := by decide +kernel
theorem dX4_river_84 : decode cX4_river 84 = .ok (.iconst 0, 1) := by decide +kernel
theorem dX4_river_85 : decode cX4_river 85 = .ok (.istore_n 2, 1) := by decide +kernel
theorem dX4_river_86 : decode cX4_river 86 = .ok (.iload_n 2, 1) := by decide +kernel
theorem dX4_river_87 : decode cX4_river 87 = .ok (.aload_n 0, 1) := by decide +kernel
theorem dX4_river_88 : decode cX4_river 88 = .ok (.getfield 91, 3) := by decide +kernel
theorem dX4_river_91 : decode cX4_river 91 = .ok (.if_icmp .ge 37, 3) := by decide +kernel
theorem dX4_river_94 : decode cX4_river 94 = .ok (.aload_n 0, 1) := by decide +kernel
theorem dX4_river_95 : decode cX4_river 95 = .ok (.iload_n 2, 1) := by decide +kernel
theorem dX4_river_96 : decode cX4_river 96 = .ok (.invokevirtual 112, 3) := by decide +kernel
theorem dX4_river_99 : decode cX4_river 99 = .ok (.ifCond .eq 6, 3) := by decide +kernel
theorem dX4_river_102 : decode cX4_river 102 = .ok (.goto 20, 3) := by decide +kernel
theorem dX4_river_105 : decode cX4_river 105 = .ok (.aload_n 0, 1) := by decide +kernel
theorem dX4_river_106 : decode cX4_river 106 = .ok (.iconst 1, 1) := by decide +kernel
theorem dX4_river_107 : decode cX4_river 107 = .ok (.iconst 0, 1) := by decide +kernel
theorem dX4_river_108 : decode cX4_river 108 = .ok (.invokevirtual 108, 3) := by decide +kernel
theorem dX4_river_111 : decode cX4_river 111 = .ok (.sipush (-2000), 3) := by decide +kernel
theorem dX4_river_114 : decode cX4_river 114 = .ok (.aload_n 0, 1) := by decide +kernel
theorem dX4_river_115 : decode cX4_river 115 = .ok (.getfield 38, 3) := by decide +kernel
theorem dX4_river_118 : decode cX4_river 118 = .ok (.iload_n 2, 1) := by decide +kernel
theorem dX4_river_119 : decode cX4_river 119 = .ok (.iaload, 1) := by decide +kernel
theorem dX4_river_120 : decode cX4_river 120 = .ok (.isub, 1) := by decide +kernel
theorem dX4_river_121 : decode cX4_river 121 = .ok (.ireturn, 1) := by decide +kernel
theorem dX4_river_122 : decode cX4_river 122 = .ok (.iinc 2 1, 3) := by decide +kernel
theorem dX4_river_125 : decode cX4_river 125 = .ok (.goto (-39), 3) := by decide +kernel
theorem dX4_river_128 : decode cX4_river 128 = .ok (.aload_n 0, 1) := by decide +kernel
theorem dX4_river_129 : decode cX4_river 129 = .ok (.getfield 91, 3) := by decide +kernel
theorem dX4_river_132 : decode cX4_river 132 = .ok (.ireturn, 1) := by decide +kernel
set_option maxRecDepth 20000 in
theorem ggX4_river_X4_statement : GoodIn wsX4_river wsX4_statement := goodIn_r _ [9, 10, 2, 4, 1, 11, 12, 13, 8, 14, 3, 15, 16, 17, 18, 19, 20, 21, 22, 23, 24, 25, 26, 27, 28, 29, 30, 62, 63, 64, 65, 66, 67, 68, 69, 70, 71, 72, 73, 74, 75, 76, 77, 78, 79, 80, 81, 82, 83, 84, 85, 86, 87, 88, 89] (by decide +kernel) (by decide +kernel)
set_option maxRecDepth 20000 in
theorem gX4_river_X4_statement : GoodIn wsX4_river (wsV RX4 104 RX4 yX4_statement wsX4_statement) := goodIn_app (goodIn_of _ (by decide +kernel)) ggX4_river_X4_statement
set_option maxRecDepth 20000 in
theorem ggX4_river_X4_passesAll : GoodIn wsX4_river wsX4_passesAll := goodIn_r _ [34, 35, 36, 37, 38, 39, 40, 41, 42, 43, 44, 45, 46, 47, 8, 48, 49, 50, 51, 52, 53, 62, 63, 64, 65, 66, 67, 68, 69, 70, 71, 72, 73, 74, 75, 76, 77, 78, 79, 80, 81, 82, 83, 84, 85, 86, 87, 88, 89] (by decide +kernel) (by decide +kernel)
set_option maxRecDepth 20000 in
theorem gX4_river_X4_passesAll : GoodIn wsX4_river (wsV RX4 108 RX4 yX4_passesAll wsX4_passesAll) := goodIn_app (goodIn_of _ (by decide +kernel)) ggX4_river_X4_passesAll
set_option maxRecDepth 20000 in
theorem ggX4_river_X4_comes : GoodIn wsX4_river wsX4_comes := goodIn_r _ [57, 10, 20, 44, 43, 42, 38, 58, 59, 60, 8, 61, 37, 39, 40, 41, 28, 29, 30, 62, 63, 64, 65, 66, 67, 68, 69, 70, 71, 72, 73, 74, 75, 76, 77, 78, 79, 80, 81, 82, 83, 84, 85, 86, 87, 88, 89] (by decide +kernel) (by decide +kernel)
set_option maxRecDepth 20000 in
theorem gX4_river_X4_comes : GoodIn wsX4_river (wsV RX4 112 RX4 yX4_comes wsX4_comes) := goodIn_app (goodIn_of _ (by decide +kernel)) ggX4_river_X4_comes
set_option maxHeartbeats 4000000 in
set_option maxRecDepth 100000 in
theorem mX4_river (l : Launch) (dC : Nat → ClassId) (dI : Nat → Nat → Nat) (cI cC : ClassId) (sk : (Nat → Nat) × (Nat → Nat)) (f : Nat → Nat) (sz : Nat)  (c_r : RT) (c_refused : AR) (c_tape : AR) (c_letter : AR) (c_letterAt : AR) (c_number : AR) (c_taped : Int32) (c_at : Int32) (c_statements : Int32) (c_kept : AR) (c_hasImage : Int32) (c_isKeeping : Int32) (c_cursor : Int32) (c_poled : Int32) (c_barred : Int32) (c_leapsTo : AR) (c_leapsThen : AR) (c_lands : AR) (c_row : AR) (c_rowMany : Int32) (c_endsAt : Int32) (z : Int32 × RT × AR × AR × AR × Int32 × Int32 × Int32 × AR × Int32 × Int32) (h : fX4_river c_r c_tape c_letter c_letterAt c_number c_taped c_kept c_isKeeping c_cursor = some z) : cRW l yX4_river wsX4_river (RMk 4 90) sk (dC, dI) (tyz cI cC) sz (zwM cI cC f c_r c_refused c_tape c_letter c_letterAt c_number c_taped c_at c_statements c_kept c_hasImage c_isKeeping c_cursor c_poled c_barred c_leapsTo c_leapsThen c_lands c_row c_rowMany c_endsAt) (zwM cI cC f z.2.1 c_refused c_tape z.2.2.1 z.2.2.2.1 z.2.2.2.2.1 z.2.2.2.2.2.1 z.2.2.2.2.2.2.1 z.2.2.2.2.2.2.2.1 z.2.2.2.2.2.2.2.2.1 c_hasImage z.2.2.2.2.2.2.2.2.2.1 z.2.2.2.2.2.2.2.2.2.2 c_poled c_barred c_leapsTo c_leapsThen c_lands c_row c_rowMany c_endsAt) [.ref (f 0)] z.1 := by
  refine ofRW (cc := cX4_river) (maxL := 3) (ret := (some .int)) (own := RX4) (plainFor_of_name (by decide)) rfl rfl (Nat.le_of_ble_eq_true rfl) ?_
  intro p e s m args below meth c A hA hx hb hml hr hts hown hlocks hE hK hP hD hS ls hl
  generalize hQ : qRW _ _ _ _ _ _ _ = Q
  have hl : lv_has ls 3 [(0, .ref (f 0))] := hl
  have hiX4 : ∀ w ∈ wsX40, w ∈ wsX4_river := fun w h => List.mem_cons_of_mem _ (List.mem_append_right _ h)
  have hw1 := hts (Cond.fieldLink RX4 77 "FloeToFloeModel" "at" "I") (List.mem_of_getElem? (i := 1) rfl)
  have hw2 := hts (Cond.fieldLink RX4 91 "FloeToFloeModel" "statements" "I") (List.mem_of_getElem? (i := 2) rfl)
  have hw3 := hts (Cond.fieldLink RX4 70 "FloeToFloeModel" "taped" "I") (List.mem_of_getElem? (i := 3) rfl)
  have hw4 := hts (Cond.fieldLink RX4 38 "FloeToFloeModel" "letterAt" "[I") (List.mem_of_getElem? (i := 4) rfl)
  rw [fX4_river] at h
  refine lv_aload_n hx hb dX4_river_0 rfl (lv_at hl 0 rfl) ?_
  refine lv_iconst (v := (0 : Int32)) hx hb dX4_river_1 (by decide) ?_
  refine va_put (D := (dC, dI)) (ci := 4) (v := .int (0 : Int32)) (ty := .int) (C := RX4) (T := TX4) (N := 28) hx hb hts hiX4 tyX4 tyX4_ok nmX4 hown hK hP hD hS 0 rfl rfl 14 (by decide) hw1 (fun _ h9 => h9) rfl (by decide +kernel) rfl rfl (Nat.le_of_ble_eq_true rfl) dX4_river_2 (fun H locs hP hD hS => ?_)
  have hP : va_P (dC, dI) vwCl (zwM cI cC f c_r c_refused c_tape c_letter c_letterAt c_number c_taped (0 : Int32) c_statements c_kept c_hasImage c_isKeeping c_cursor c_poled c_barred c_leapsTo c_leapsThen c_lands c_row c_rowMany c_endsAt) H := hP
  have hD : va_D A (zwM cI cC f c_r c_refused c_tape c_letter c_letterAt c_number c_taped (0 : Int32) c_statements c_kept c_hasImage c_isKeeping c_cursor c_poled c_barred c_leapsTo c_leapsThen c_lands c_row c_rowMany c_endsAt) := hD
  refine lv_aload_n hx hb dX4_river_5 rfl (lv_at hl 0 rfl) ?_
  refine lv_iconst (v := (0 : Int32)) hx hb dX4_river_6 (by decide) ?_
  refine va_put (D := (dC, dI)) (ci := 4) (v := .int (0 : Int32)) (ty := .int) (C := RX4) (T := TX4) (N := 28) hx hb hts hiX4 tyX4 tyX4_ok nmX4 hown hK hP hD hS 0 rfl rfl 15 (by decide) hw2 (fun _ h9 => h9) rfl (by decide +kernel) rfl rfl (Nat.le_of_ble_eq_true rfl) dX4_river_7 (fun H locs hP hD hS => ?_)
  have hP : va_P (dC, dI) vwCl (zwM cI cC f c_r c_refused c_tape c_letter c_letterAt c_number c_taped (0 : Int32) (0 : Int32) c_kept c_hasImage c_isKeeping c_cursor c_poled c_barred c_leapsTo c_leapsThen c_lands c_row c_rowMany c_endsAt) H := hP
  have hD : va_D A (zwM cI cC f c_r c_refused c_tape c_letter c_letterAt c_number c_taped (0 : Int32) (0 : Int32) c_kept c_hasImage c_isKeeping c_cursor c_poled c_barred c_leapsTo c_leapsThen c_lands c_row c_rowMany c_endsAt) := hD
  refine lv_iconst (v := (1 : Int32)) hx hb dX4_river_10 (by decide) ?_
  refine lv_istore_n (lv' := [(1, .int (1 : Int32)), (0, .ref (f 0))]) hx hb dX4_river_11 rfl hl (by decide) rfl (fun ls hl => ?_)
  have L12 : ∀ (K12 : Int32 → AR → AR → AR → Int32 → Int32 → Option (Int32 × RT × AR × AR × AR × Int32 × Int32 × Int32 × AR × Int32 × Int32)), (∀ (k12_1 : Int32) (k12_letter : AR) (k12_letterAt : AR) (k12_number : AR) (k12_at : Int32) (k12_statements : Int32), K12 k12_1 k12_letter k12_letterAt k12_number k12_at k12_statements = some z → ∀ (H : Heap) (locs : List Loc) (ls : Array Slot), va_P (dC, dI) vwCl (zwM cI cC f c_r c_refused c_tape k12_letter k12_letterAt k12_number c_taped k12_at k12_statements c_kept c_hasImage c_isKeeping c_cursor c_poled c_barred c_leapsTo c_leapsThen c_lands c_row c_rowMany c_endsAt) H → va_D A (zwM cI cC f c_r c_refused c_tape k12_letter k12_letterAt k12_number c_taped k12_at k12_statements c_kept c_hasImage c_isKeeping c_cursor c_poled c_barred c_leapsTo c_leapsThen c_lands c_row c_rowMany c_endsAt) → va_S A s.heap H locs → lv_has ls 3 [(0, .ref (f 0)), (1, .int k12_1)] → W p l e (RMk 4 90) s m args below meth c H locs 0 0 Q (F0 m 60 ls [])) → ∀ (n : Nat) (x12_1 : Int32) (x12_letter : AR) (x12_letterAt : AR) (x12_number : AR) (x12_at : Int32) (x12_statements : Int32), fX4_river_L12 c_tape c_taped K12 n x12_1 x12_letter x12_letterAt x12_number x12_at x12_statements = some z → ∀ (H : Heap) (locs : List Loc) (ls : Array Slot), va_P (dC, dI) vwCl (zwM cI cC f c_r c_refused c_tape x12_letter x12_letterAt x12_number c_taped x12_at x12_statements c_kept c_hasImage c_isKeeping c_cursor c_poled c_barred c_leapsTo c_leapsThen c_lands c_row c_rowMany c_endsAt) H → va_D A (zwM cI cC f c_r c_refused c_tape x12_letter x12_letterAt x12_number c_taped x12_at x12_statements c_kept c_hasImage c_isKeeping c_cursor c_poled c_barred c_leapsTo c_leapsThen c_lands c_row c_rowMany c_endsAt) → va_S A s.heap H locs → lv_has ls 3 [(0, .ref (f 0)), (1, .int x12_1)] → W p l e (RMk 4 90) s m args below meth c H locs 0 0 Q (F0 m 12 ls []) := by
    intro K12 kx12 n
    induction n with
    | zero => intro x12_1 x12_letter x12_letterAt x12_number x12_at x12_statements h; rw [fX4_river_L12] at h; cases h
    | succ n ih12 =>
      intro x12_1 x12_letter x12_letterAt x12_number x12_at x12_statements h H locs ls hP hD hS hl
      rw [fX4_river_L12] at h
      refine lv_iload_n hx hb dX4_river_12 rfl (lv_at hl 1 rfl) ?_
      refine lv_if_eq (tgt := 60) hx hb dX4_river_13 (by decide) (fun c13 => ?_) (fun c13 => ?_)
      · have h := itT c13 h
        exact kx12 _ _ _ _ _ _ h _ _ _ hP hD hS (lv_sub hl [0, 1] rfl)
      have h := itF c13 h
      refine lv_aload_n hx hb dX4_river_16 rfl (lv_at hl 0 rfl) ?_
      refine va_get (D := (dC, dI)) (ci := 4) (v := .int x12_at) (C := RX4) (T := TX4) (N := 28) hx hb hts hiX4 hown hK hP 0 rfl rfl 14 (by decide) hw1 (fun _ h9 => h9) rfl dX4_river_17 ?_
      refine lv_aload_n hx hb dX4_river_20 rfl (lv_at hl 0 rfl) ?_
      refine va_get (D := (dC, dI)) (ci := 4) (v := .int c_taped) (C := RX4) (T := TX4) (N := 28) hx hb hts hiX4 hown hK hP 0 rfl rfl 13 (by decide) hw3 (fun _ h9 => h9) rfl dX4_river_21 ?_
      refine jnW (fun (v34 : Unit) => ∀ (H : Heap) (locs : List Loc) (ls : Array Slot), va_P (dC, dI) vwCl (zwM cI cC f c_r c_refused c_tape x12_letter x12_letterAt x12_number c_taped x12_at x12_statements c_kept c_hasImage c_isKeeping c_cursor c_poled c_barred c_leapsTo c_leapsThen c_lands c_row c_rowMany c_endsAt) H → va_D A (zwM cI cC f c_r c_refused c_tape x12_letter x12_letterAt x12_number c_taped x12_at x12_statements c_kept c_hasImage c_isKeeping c_cursor c_poled c_barred c_leapsTo c_leapsThen c_lands c_row c_rowMany c_endsAt) → va_S A s.heap H locs → lv_has ls 3 [(0, .ref (f 0))] → W p l e (RMk 4 90) s m args below meth c H locs 0 0 Q (F0 m 34 ls [])) h (fun v34 h H locs ls hP hD hS hl => ?_) (fun J34 j34 h => ?_)
      · refine lv_aload_n hx hb dX4_river_34 rfl (lv_at hl 0 rfl) ?_
        obtain ⟨q35, e35, h⟩ := bd_some h
        refine g_rwV (wc := (zwM cI cC f c_r c_refused c_tape x12_letter x12_letterAt x12_number c_taped x12_at x12_statements c_kept c_hasImage c_isKeeping c_cursor c_poled c_barred c_leapsTo c_leapsThen c_lands c_row c_rowMany c_endsAt)) (wc' := (zwM cI cC f c_r c_refused c_tape q35.2.1 q35.2.2.1 q35.2.2.2.1 c_taped q35.2.2.2.2 x12_statements c_kept c_hasImage c_isKeeping c_cursor c_poled c_barred c_leapsTo c_leapsThen c_lands c_row c_rowMany c_endsAt)) ⟨hx, hb, hml, hown, hts⟩ hE hK hA hP hD hS [0, 1, 2, 3, 4, 5, 6, 7, 8, 9, 10, 11, 12, 13, 14, 15] rfl rfl rfl (mX4_statement l dC dI cI cC sk f H.size c_r c_refused c_tape x12_letter x12_letterAt x12_number c_taped x12_at x12_statements c_kept c_hasImage c_isKeeping c_cursor c_poled c_barred c_leapsTo c_leapsThen c_lands c_row c_rowMany c_endsAt q35 e35) (cwV 0 hts gX4_river_X4_statement rfl rfl rfl (by decide +kernel) ⟨Nat.le_of_ble_eq_true rfl, Nat.le_of_ble_eq_true rfl⟩) (va_recv hK hP (ci := 4) (q0 := 0) rfl rfl) (As := []) (rest := []) rfl hl.1 rfl (Nat.le_of_ble_eq_true rfl) dX4_river_35 ⟨Nat.zero_le _, Nat.zero_le _⟩ (fun H locs hP hD hS => ?_)
        have hP : va_P (dC, dI) vwCl (zwM cI cC f c_r c_refused c_tape q35.2.1 q35.2.2.1 q35.2.2.2.1 c_taped q35.2.2.2.2 x12_statements c_kept c_hasImage c_isKeeping c_cursor c_poled c_barred c_leapsTo c_leapsThen c_lands c_row c_rowMany c_endsAt) H := hP
        have hD : va_D A (zwM cI cC f c_r c_refused c_tape q35.2.1 q35.2.2.1 q35.2.2.2.1 c_taped q35.2.2.2.2 x12_statements c_kept c_hasImage c_isKeeping c_cursor c_poled c_barred c_leapsTo c_leapsThen c_lands c_row c_rowMany c_endsAt) := hD
        refine lv_istore_n (lv' := [(1, .int q35.1), (0, .ref (f 0))]) hx hb dX4_river_38 rfl hl (by decide) rfl (fun ls hl => ?_)
        refine lv_aload_n hx hb dX4_river_39 rfl (lv_at hl 1 rfl) ?_
        refine lv_dup hx hb dX4_river_40 rfl ?_
        refine va_get (D := (dC, dI)) (ci := 4) (v := .int x12_statements) (C := RX4) (T := TX4) (N := 28) hx hb hts hiX4 hown hK hP 0 rfl rfl 15 (by decide) hw2 (fun _ h9 => h9) rfl dX4_river_41 ?_
        refine lv_iload_n hx hb dX4_river_44 rfl (lv_at hl 0 rfl) ?_
        refine jnW (fun (v53 : Int32) => ∀ (H : Heap) (locs : List Loc) (ls : Array Slot), va_P (dC, dI) vwCl (zwM cI cC f c_r c_refused c_tape q35.2.1 q35.2.2.1 q35.2.2.2.1 c_taped q35.2.2.2.2 x12_statements c_kept c_hasImage c_isKeeping c_cursor c_poled c_barred c_leapsTo c_leapsThen c_lands c_row c_rowMany c_endsAt) H → va_D A (zwM cI cC f c_r c_refused c_tape q35.2.1 q35.2.2.1 q35.2.2.2.1 c_taped q35.2.2.2.2 x12_statements c_kept c_hasImage c_isKeeping c_cursor c_poled c_barred c_leapsTo c_leapsThen c_lands c_row c_rowMany c_endsAt) → va_S A s.heap H locs → lv_has ls 3 [(0, .ref (f 0)), (1, .int q35.1)] → W p l e (RMk 4 90) s m args below meth c H locs 0 0 Q (F0 m 53 ls [.int v53, .int x12_statements, .ref (f 0)])) h (fun v53 h H locs ls hP hD hS hl => ?_) (fun J53 j53 h => ?_)
        · refine lv_iadd hx hb dX4_river_53 ?_
          refine va_put (D := (dC, dI)) (ci := 4) (v := .int (x12_statements + v53)) (ty := .int) (C := RX4) (T := TX4) (N := 28) hx hb hts hiX4 tyX4 tyX4_ok nmX4 hown hK hP hD hS 0 rfl rfl 15 (by decide) hw2 (fun _ h9 => h9) rfl (by decide +kernel) rfl rfl (Nat.le_of_ble_eq_true rfl) dX4_river_54 (fun H locs hP hD hS => ?_)
          have hP : va_P (dC, dI) vwCl (zwM cI cC f c_r c_refused c_tape q35.2.1 q35.2.2.1 q35.2.2.2.1 c_taped q35.2.2.2.2 (x12_statements + v53) c_kept c_hasImage c_isKeeping c_cursor c_poled c_barred c_leapsTo c_leapsThen c_lands c_row c_rowMany c_endsAt) H := hP
          have hD : va_D A (zwM cI cC f c_r c_refused c_tape q35.2.1 q35.2.2.1 q35.2.2.2.1 c_taped q35.2.2.2.2 (x12_statements + v53) c_kept c_hasImage c_isKeeping c_cursor c_poled c_barred c_leapsTo c_leapsThen c_lands c_row c_rowMany c_endsAt) := hD
          refine lv_goto (tgt := 12) hx hb dX4_river_57 (by decide) ?_
          exact ih12 _ _ _ _ _ _ h _ _ _ hP hD hS (lv_sub hl [0, 1] rfl)
        refine lv_if_eq (tgt := 52) hx hb dX4_river_45 (by decide) (fun c45 => ?_) (fun c45 => ?_)
        · have h := itT c45 h
          refine lv_iconst (v := (0 : Int32)) hx hb dX4_river_52 (by decide) ?_
          exact j53 _ h _ _ _ hP hD hS (lv_sub hl [1, 0] rfl)
        have h := itF c45 h
        refine lv_iconst (v := (1 : Int32)) hx hb dX4_river_48 (by decide) ?_
        refine lv_goto (tgt := 53) hx hb dX4_river_49 (by decide) ?_
        exact j53 _ h _ _ _ hP hD hS (lv_sub hl [1, 0] rfl)
      refine lv_icmp_lt (tgt := 34) hx hb dX4_river_24 (by decide) (fun c24 => ?_) (fun c24 => ?_)
      · have h := itT c24 h
        exact j34 _ h _ _ _ hP hD hS (lv_sub hl [0] rfl)
      have h := itF c24 h
      refine lv_aload_n hx hb dX4_river_27 rfl (lv_at hl 0 rfl) ?_
      refine va_get (D := (dC, dI)) (ci := 4) (v := .int x12_statements) (C := RX4) (T := TX4) (N := 28) hx hb hts hiX4 hown hK hP 0 rfl rfl 15 (by decide) hw2 (fun _ h9 => h9) rfl dX4_river_28 ?_
      refine lv_if_ne (tgt := 60) hx hb dX4_river_31 (by decide) (fun c31 => ?_) (fun c31 => ?_)
      · have h := itF c31 h
        exact kx12 _ _ _ _ _ _ h _ _ _ hP hD hS (lv_sub hl [0, 1] rfl)
      have h := itT c31 h
      exact j34 _ h _ _ _ hP hD hS (lv_sub hl [0] rfl)
  refine L12 _ (fun k12_1 k12_letter k12_letterAt k12_number k12_at k12_statements h H locs ls hP hD hS hl => ?_) _ _ _ _ _ _ _ h _ _ _ hP hD hS (lv_sub hl [1, 0] rfl)
  refine lv_aload_n hx hb dX4_river_60 rfl (lv_at hl 0 rfl) ?_
  refine lv_iconst (v := (0 : Int32)) hx hb dX4_river_61 (by decide) ?_
  refine va_put (D := (dC, dI)) (ci := 4) (v := .int (0 : Int32)) (ty := .int) (C := RX4) (T := TX4) (N := 28) hx hb hts hiX4 tyX4 tyX4_ok nmX4 hown hK hP hD hS 0 rfl rfl 13 (by decide) hw3 (fun _ h9 => h9) rfl (by decide +kernel) rfl rfl (Nat.le_of_ble_eq_true rfl) dX4_river_62 (fun H locs hP hD hS => ?_)
  have hP : va_P (dC, dI) vwCl (zwM cI cC f c_r c_refused c_tape k12_letter k12_letterAt k12_number (0 : Int32) k12_at k12_statements c_kept c_hasImage c_isKeeping c_cursor c_poled c_barred c_leapsTo c_leapsThen c_lands c_row c_rowMany c_endsAt) H := hP
  have hD : va_D A (zwM cI cC f c_r c_refused c_tape k12_letter k12_letterAt k12_number (0 : Int32) k12_at k12_statements c_kept c_hasImage c_isKeeping c_cursor c_poled c_barred c_leapsTo c_leapsThen c_lands c_row c_rowMany c_endsAt) := hD
  refine lv_iload_n hx hb dX4_river_65 rfl (lv_at hl 1 rfl) ?_
  refine lv_if_ne (tgt := 78) hx hb dX4_river_66 (by decide) (fun c66 => ?_) (fun c66 => ?_)
  · have h := itF c66 h
    refine lv_aload_n hx hb dX4_river_78 rfl (lv_at hl 0 rfl) ?_
    refine lv_iconst (v := (1 : Int32)) hx hb dX4_river_79 (by decide) ?_
    refine lv_iconst (v := (1 : Int32)) hx hb dX4_river_80 (by decide) ?_
    obtain ⟨q81, e81, h⟩ := bd_some h
    refine g_rvV (wc := (zwM cI cC f c_r c_refused c_tape k12_letter k12_letterAt k12_number (0 : Int32) k12_at k12_statements c_kept c_hasImage c_isKeeping c_cursor c_poled c_barred c_leapsTo c_leapsThen c_lands c_row c_rowMany c_endsAt)) (wc' := (zwM cI cC f q81.1 c_refused c_tape k12_letter k12_letterAt k12_number (0 : Int32) k12_at k12_statements q81.2.1 c_hasImage q81.2.2.1 q81.2.2.2 c_poled c_barred c_leapsTo c_leapsThen c_lands c_row c_rowMany c_endsAt)) ⟨hx, hb, hml, hown, hts⟩ hE hK hA hP hD hS [0, 1, 2, 3, 4, 5, 6, 7, 8, 9, 10, 11, 12, 13, 14, 15] rfl rfl rfl (mX4_passesAll l dC dI cI cC sk f H.size (1 : Int32) (1 : Int32) c_r c_refused c_tape k12_letter k12_letterAt k12_number (0 : Int32) k12_at k12_statements c_kept c_hasImage c_isKeeping c_cursor c_poled c_barred c_leapsTo c_leapsThen c_lands c_row c_rowMany c_endsAt q81 e81) (cwV 2 hts gX4_river_X4_passesAll rfl rfl rfl (by decide +kernel) ⟨Nat.le_of_ble_eq_true rfl, Nat.le_of_ble_eq_true rfl⟩) (va_recv hK hP (ci := 4) (q0 := 0) rfl rfl) (As := [.int (1 : Int32), .int (1 : Int32)]) (rest := []) rfl hl.1 rfl (Nat.le_of_ble_eq_true rfl) dX4_river_81 ⟨Nat.zero_le _, Nat.zero_le _⟩ (fun H locs hP hD hS => ?_)
    have hP : va_P (dC, dI) vwCl (zwM cI cC f q81.1 c_refused c_tape k12_letter k12_letterAt k12_number (0 : Int32) k12_at k12_statements q81.2.1 c_hasImage q81.2.2.1 q81.2.2.2 c_poled c_barred c_leapsTo c_leapsThen c_lands c_row c_rowMany c_endsAt) H := hP
    have hD : va_D A (zwM cI cC f q81.1 c_refused c_tape k12_letter k12_letterAt k12_number (0 : Int32) k12_at k12_statements q81.2.1 c_hasImage q81.2.2.1 q81.2.2.2 c_poled c_barred c_leapsTo c_leapsThen c_lands c_row c_rowMany c_endsAt) := hD
    refine lv_iconst (v := (0 : Int32)) hx hb dX4_river_84 (by decide) ?_
    refine lv_istore_n (lv' := [(2, .int (0 : Int32)), (0, .ref (f 0)), (1, .int k12_1)]) hx hb dX4_river_85 rfl hl (by decide) rfl (fun ls hl => ?_)
    have L86 : ∀ (K86 : RT → Option (Int32 × RT × AR × AR × AR × Int32 × Int32 × Int32 × AR × Int32 × Int32)), (∀ (k86_r : RT), K86 k86_r = some z → ∀ (H : Heap) (locs : List Loc) (ls : Array Slot), va_P (dC, dI) vwCl (zwM cI cC f k86_r c_refused c_tape k12_letter k12_letterAt k12_number (0 : Int32) k12_at k12_statements q81.2.1 c_hasImage q81.2.2.1 q81.2.2.2 c_poled c_barred c_leapsTo c_leapsThen c_lands c_row c_rowMany c_endsAt) H → va_D A (zwM cI cC f k86_r c_refused c_tape k12_letter k12_letterAt k12_number (0 : Int32) k12_at k12_statements q81.2.1 c_hasImage q81.2.2.1 q81.2.2.2 c_poled c_barred c_leapsTo c_leapsThen c_lands c_row c_rowMany c_endsAt) → va_S A s.heap H locs → lv_has ls 3 [(0, .ref (f 0))] → W p l e (RMk 4 90) s m args below meth c H locs 0 0 Q (F0 m 128 ls [])) → ∀ (n : Nat) (x86_2 : Int32) (x86_r : RT), fX4_river_L86 k12_at k12_letter k12_letterAt k12_number k12_statements q81 K86 n x86_2 x86_r = some z → ∀ (H : Heap) (locs : List Loc) (ls : Array Slot), va_P (dC, dI) vwCl (zwM cI cC f x86_r c_refused c_tape k12_letter k12_letterAt k12_number (0 : Int32) k12_at k12_statements q81.2.1 c_hasImage q81.2.2.1 q81.2.2.2 c_poled c_barred c_leapsTo c_leapsThen c_lands c_row c_rowMany c_endsAt) H → va_D A (zwM cI cC f x86_r c_refused c_tape k12_letter k12_letterAt k12_number (0 : Int32) k12_at k12_statements q81.2.1 c_hasImage q81.2.2.1 q81.2.2.2 c_poled c_barred c_leapsTo c_leapsThen c_lands c_row c_rowMany c_endsAt) → va_S A s.heap H locs → lv_has ls 3 [(0, .ref (f 0)), (2, .int x86_2)] → W p l e (RMk 4 90) s m args below meth c H locs 0 0 Q (F0 m 86 ls []) := by
      intro K86 kx86 n
      induction n with
      | zero => intro x86_2 x86_r h; rw [fX4_river_L86] at h; cases h
      | succ n ih86 =>
        intro x86_2 x86_r h H locs ls hP hD hS hl
        rw [fX4_river_L86] at h
        refine lv_iload_n hx hb dX4_river_86 rfl (lv_at hl 1 rfl) ?_
        refine lv_aload_n hx hb dX4_river_87 rfl (lv_at hl 0 rfl) ?_
        refine va_get (D := (dC, dI)) (ci := 4) (v := .int k12_statements) (C := RX4) (T := TX4) (N := 28) hx hb hts hiX4 hown hK hP 0 rfl rfl 15 (by decide) hw2 (fun _ h9 => h9) rfl dX4_river_88 ?_
        refine lv_icmp_ge (tgt := 128) hx hb dX4_river_91 (by decide) (fun c91 => ?_) (fun c91 => ?_)
        · have h := itT c91 h
          exact kx86 _ h _ _ _ hP hD hS (lv_sub hl [0] rfl)
        have h := itF c91 h
        refine lv_aload_n hx hb dX4_river_94 rfl (lv_at hl 0 rfl) ?_
        refine lv_iload_n hx hb dX4_river_95 rfl (lv_at hl 1 rfl) ?_
        obtain ⟨q96, e96, h⟩ := bd_some h
        refine g_rwV (wc := (zwM cI cC f x86_r c_refused c_tape k12_letter k12_letterAt k12_number (0 : Int32) k12_at k12_statements q81.2.1 c_hasImage q81.2.2.1 q81.2.2.2 c_poled c_barred c_leapsTo c_leapsThen c_lands c_row c_rowMany c_endsAt)) (wc' := (zwM cI cC f q96.2 c_refused c_tape k12_letter k12_letterAt k12_number (0 : Int32) k12_at k12_statements q81.2.1 c_hasImage q81.2.2.1 q81.2.2.2 c_poled c_barred c_leapsTo c_leapsThen c_lands c_row c_rowMany c_endsAt)) ⟨hx, hb, hml, hown, hts⟩ hE hK hA hP hD hS [0, 1, 2, 3, 4, 5, 6, 7, 8, 9, 10, 11, 12, 13, 14, 15] rfl rfl rfl (mX4_comes l dC dI cI cC sk f H.size x86_2 x86_r c_refused c_tape k12_letter k12_letterAt k12_number (0 : Int32) k12_at k12_statements q81.2.1 c_hasImage q81.2.2.1 q81.2.2.2 c_poled c_barred c_leapsTo c_leapsThen c_lands c_row c_rowMany c_endsAt q96 e96) (cwV 1 hts gX4_river_X4_comes rfl rfl rfl (by decide +kernel) ⟨Nat.le_of_ble_eq_true rfl, Nat.le_of_ble_eq_true rfl⟩) (va_recv hK hP (ci := 4) (q0 := 0) rfl rfl) (As := [.int x86_2]) (rest := []) rfl hl.1 rfl (Nat.le_of_ble_eq_true rfl) dX4_river_96 ⟨Nat.zero_le _, Nat.zero_le _⟩ (fun H locs hP hD hS => ?_)
        have hP : va_P (dC, dI) vwCl (zwM cI cC f q96.2 c_refused c_tape k12_letter k12_letterAt k12_number (0 : Int32) k12_at k12_statements q81.2.1 c_hasImage q81.2.2.1 q81.2.2.2 c_poled c_barred c_leapsTo c_leapsThen c_lands c_row c_rowMany c_endsAt) H := hP
        have hD : va_D A (zwM cI cC f q96.2 c_refused c_tape k12_letter k12_letterAt k12_number (0 : Int32) k12_at k12_statements q81.2.1 c_hasImage q81.2.2.1 q81.2.2.2 c_poled c_barred c_leapsTo c_leapsThen c_lands c_row c_rowMany c_endsAt) := hD
        refine lv_if_eq (tgt := 105) hx hb dX4_river_99 (by decide) (fun c99 => ?_) (fun c99 => ?_)
        · have h := itT c99 h
          refine lv_aload_n hx hb dX4_river_105 rfl (lv_at hl 0 rfl) ?_
          refine lv_iconst (v := (1 : Int32)) hx hb dX4_river_106 (by decide) ?_
          refine lv_iconst (v := (0 : Int32)) hx hb dX4_river_107 (by decide) ?_
          obtain ⟨q108, e108, h⟩ := bd_some h
          refine g_rvV (wc := (zwM cI cC f q96.2 c_refused c_tape k12_letter k12_letterAt k12_number (0 : Int32) k12_at k12_statements q81.2.1 c_hasImage q81.2.2.1 q81.2.2.2 c_poled c_barred c_leapsTo c_leapsThen c_lands c_row c_rowMany c_endsAt)) (wc' := (zwM cI cC f q108.1 c_refused c_tape k12_letter k12_letterAt k12_number (0 : Int32) k12_at k12_statements q108.2.1 c_hasImage q108.2.2.1 q108.2.2.2 c_poled c_barred c_leapsTo c_leapsThen c_lands c_row c_rowMany c_endsAt)) ⟨hx, hb, hml, hown, hts⟩ hE hK hA hP hD hS [0, 1, 2, 3, 4, 5, 6, 7, 8, 9, 10, 11, 12, 13, 14, 15] rfl rfl rfl (mX4_passesAll l dC dI cI cC sk f H.size (1 : Int32) (0 : Int32) q96.2 c_refused c_tape k12_letter k12_letterAt k12_number (0 : Int32) k12_at k12_statements q81.2.1 c_hasImage q81.2.2.1 q81.2.2.2 c_poled c_barred c_leapsTo c_leapsThen c_lands c_row c_rowMany c_endsAt q108 e108) (cwV 2 hts gX4_river_X4_passesAll rfl rfl rfl (by decide +kernel) ⟨Nat.le_of_ble_eq_true rfl, Nat.le_of_ble_eq_true rfl⟩) (va_recv hK hP (ci := 4) (q0 := 0) rfl rfl) (As := [.int (1 : Int32), .int (0 : Int32)]) (rest := []) rfl hl.1 rfl (Nat.le_of_ble_eq_true rfl) dX4_river_108 ⟨Nat.zero_le _, Nat.zero_le _⟩ (fun H locs hP hD hS => ?_)
          have hP : va_P (dC, dI) vwCl (zwM cI cC f q108.1 c_refused c_tape k12_letter k12_letterAt k12_number (0 : Int32) k12_at k12_statements q108.2.1 c_hasImage q108.2.2.1 q108.2.2.2 c_poled c_barred c_leapsTo c_leapsThen c_lands c_row c_rowMany c_endsAt) H := hP
          have hD : va_D A (zwM cI cC f q108.1 c_refused c_tape k12_letter k12_letterAt k12_number (0 : Int32) k12_at k12_statements q108.2.1 c_hasImage q108.2.2.1 q108.2.2.2 c_poled c_barred c_leapsTo c_leapsThen c_lands c_row c_rowMany c_endsAt) := hD
          refine lv_sipush (v := (-2000 : Int32)) hx hb dX4_river_111 (by decide) ?_
          refine lv_aload_n hx hb dX4_river_114 rfl (lv_at hl 0 rfl) ?_
          refine va_get (D := (dC, dI)) (ci := 4) (v := .ref (f 9)) (C := RX4) (T := TX4) (N := 28) hx hb hts hiX4 hown hK hP 0 rfl rfl 11 (by decide) hw4 (fun _ h9 => h9) rfl dX4_river_115 ?_
          refine lv_iload_n hx hb dX4_river_118 rfl (lv_at hl 1 rfl) ?_
          obtain ⟨hin, h⟩ := ck_some h
          refine va_iald hx hb hK hP 9 0 rfl rfl hin dX4_river_119 ?_
          refine lv_isub hx hb dX4_river_120 ?_
          subst hQ
          exact retRW (zz := ((((-2000 : Int32) - (k12_letterAt (x86_2).toNatClampNeg)), q108.1, k12_letter, k12_letterAt, k12_number, (0 : Int32), k12_at, k12_statements, q108.2.1, q108.2.2.1, q108.2.2.2) : Int32 × RT × AR × AR × AR × Int32 × Int32 × Int32 × AR × Int32 × Int32)) (fun z => z.1) (fun z => (zwM cI cC f z.2.1 c_refused c_tape z.2.2.1 z.2.2.2.1 z.2.2.2.2.1 z.2.2.2.2.2.1 z.2.2.2.2.2.2.1 z.2.2.2.2.2.2.2.1 z.2.2.2.2.2.2.2.2.1 c_hasImage z.2.2.2.2.2.2.2.2.2.1 z.2.2.2.2.2.2.2.2.2.2 c_poled c_barred c_leapsTo c_leapsThen c_lands c_row c_rowMany c_endsAt)) hx hb hr hlocks rfl hS h rfl hP dX4_river_121
        have h := itF c99 h
        refine lv_goto (tgt := 122) hx hb dX4_river_102 (by decide) ?_
        refine lv_iinc (v := (x86_2 + (1 : Int32))) (lv' := [(2, .int (x86_2 + (1 : Int32))), (0, .ref (f 0))]) hx hb dX4_river_122 hl (k := 1) rfl rfl (by decide) rfl (fun ls hl => ?_)
        refine lv_goto (tgt := 86) hx hb dX4_river_125 (by decide) ?_
        exact ih86 _ _ h _ _ _ hP hD hS (lv_sub hl [1, 0] rfl)
    refine L86 _ (fun k86_r h H locs ls hP hD hS hl => ?_) _ _ _ h _ _ _ hP hD hS (lv_sub hl [1, 0] rfl)
    refine lv_aload_n hx hb dX4_river_128 rfl (lv_at hl 0 rfl) ?_
    refine va_get (D := (dC, dI)) (ci := 4) (v := .int k12_statements) (C := RX4) (T := TX4) (N := 28) hx hb hts hiX4 hown hK hP 0 rfl rfl 15 (by decide) hw2 (fun _ h9 => h9) rfl dX4_river_129 ?_
    subst hQ
    exact retRW (zz := ((k12_statements, k86_r, k12_letter, k12_letterAt, k12_number, (0 : Int32), k12_at, k12_statements, q81.2.1, q81.2.2.1, q81.2.2.2) : Int32 × RT × AR × AR × AR × Int32 × Int32 × Int32 × AR × Int32 × Int32)) (fun z => z.1) (fun z => (zwM cI cC f z.2.1 c_refused c_tape z.2.2.1 z.2.2.2.1 z.2.2.2.2.1 z.2.2.2.2.2.1 z.2.2.2.2.2.2.1 z.2.2.2.2.2.2.2.1 z.2.2.2.2.2.2.2.2.1 c_hasImage z.2.2.2.2.2.2.2.2.2.1 z.2.2.2.2.2.2.2.2.2.2 c_poled c_barred c_leapsTo c_leapsThen c_lands c_row c_rowMany c_endsAt)) hx hb hr hlocks rfl hS h rfl hP dX4_river_132
  have h := itT c66 h
  refine lv_sipush (v := (-1000 : Int32)) hx hb dX4_river_69 (by decide) ?_
  refine lv_aload_n hx hb dX4_river_72 rfl (lv_at hl 0 rfl) ?_
  refine va_get (D := (dC, dI)) (ci := 4) (v := .int k12_at) (C := RX4) (T := TX4) (N := 28) hx hb hts hiX4 hown hK hP 0 rfl rfl 14 (by decide) hw1 (fun _ h9 => h9) rfl dX4_river_73 ?_
  refine lv_isub hx hb dX4_river_76 ?_
  subst hQ
  exact retRW (zz := ((((-1000 : Int32) - k12_at), c_r, k12_letter, k12_letterAt, k12_number, (0 : Int32), k12_at, k12_statements, c_kept, c_isKeeping, c_cursor) : Int32 × RT × AR × AR × AR × Int32 × Int32 × Int32 × AR × Int32 × Int32)) (fun z => z.1) (fun z => (zwM cI cC f z.2.1 c_refused c_tape z.2.2.1 z.2.2.2.1 z.2.2.2.2.1 z.2.2.2.2.2.1 z.2.2.2.2.2.2.1 z.2.2.2.2.2.2.2.1 z.2.2.2.2.2.2.2.2.1 c_hasImage z.2.2.2.2.2.2.2.2.2.1 z.2.2.2.2.2.2.2.2.2.2 c_poled c_barred c_leapsTo c_leapsThen c_lands c_row c_rowMany c_endsAt)) hx hb hr hlocks rfl hS h rfl hP dX4_river_77
theorem dX4_image_0 : decode cX4_image 0 = .ok (.aload_n 0, 1) := by decide +kernel
theorem dX4_image_1 : decode cX4_image 1 = .ok (.iconst 1, 1) := by decide +kernel
theorem dX4_image_2 : decode cX4_image 2 = .ok (.putfield 129, 3) := by decide +kernel
theorem dX4_image_5 : decode cX4_image 5 = .ok (.aload_n 0, 1) := by decide +kernel
theorem dX4_image_6 : decode cX4_image 6 = .ok (.iconst 0, 1) := by decide +kernel
theorem dX4_image_7 : decode cX4_image 7 = .ok (.iconst 1, 1) := by decide +kernel
theorem dX4_image_8 : decode cX4_image 8 = .ok (.invokevirtual 108, 3) := by decide +kernel
theorem dX4_image_11 : decode cX4_image 11 = .ok (.aload_n 0, 1) := by decide +kernel
theorem dX4_image_12 : decode cX4_image 12 = .ok (.getfield 101, 3) := by decide +kernel
theorem dX4_image_15 : decode cX4_image 15 = .ok (.ireturn, 1) := by decide +kernel
set_option maxRecDepth 20000 in
theorem ggX4_image_X4_passesAll : GoodIn wsX4_image wsX4_passesAll := goodIn_r _ [7, 8, 9, 10, 11, 12, 13, 14, 15, 16, 2, 17, 18, 19, 6, 20, 21, 22, 23, 24, 25, 26, 27, 28, 29, 30, 31, 32, 33, 34, 35, 36, 37, 38, 39, 40, 41, 42, 43, 44, 45, 46, 47, 48, 49, 50, 51, 52, 53] (by decide +kernel) (by decide +kernel)
set_option maxRecDepth 20000 in
theorem gX4_image_X4_passesAll : GoodIn wsX4_image (wsV RX4 108 RX4 yX4_passesAll wsX4_passesAll) := goodIn_app (goodIn_of _ (by decide +kernel)) ggX4_image_X4_passesAll
set_option maxHeartbeats 4000000 in
set_option maxRecDepth 100000 in
theorem mX4_image (l : Launch) (dC : Nat → ClassId) (dI : Nat → Nat → Nat) (cI cC : ClassId) (sk : (Nat → Nat) × (Nat → Nat)) (f : Nat → Nat) (sz : Nat)  (c_r : RT) (c_refused : AR) (c_tape : AR) (c_letter : AR) (c_letterAt : AR) (c_number : AR) (c_taped : Int32) (c_at : Int32) (c_statements : Int32) (c_kept : AR) (c_hasImage : Int32) (c_isKeeping : Int32) (c_cursor : Int32) (c_poled : Int32) (c_barred : Int32) (c_leapsTo : AR) (c_leapsThen : AR) (c_lands : AR) (c_row : AR) (c_rowMany : Int32) (c_endsAt : Int32) (z : Int32 × RT × AR × Int32 × Int32 × Int32) (h : fX4_image c_r c_kept = some z) : cRW l yX4_image wsX4_image (RMk 2 44) sk (dC, dI) (tyz cI cC) sz (zwM cI cC f c_r c_refused c_tape c_letter c_letterAt c_number c_taped c_at c_statements c_kept c_hasImage c_isKeeping c_cursor c_poled c_barred c_leapsTo c_leapsThen c_lands c_row c_rowMany c_endsAt) (zwM cI cC f z.2.1 c_refused c_tape c_letter c_letterAt c_number c_taped c_at c_statements z.2.2.1 z.2.2.2.1 z.2.2.2.2.1 z.2.2.2.2.2 c_poled c_barred c_leapsTo c_leapsThen c_lands c_row c_rowMany c_endsAt) [.ref (f 0)] z.1 := by
  refine ofRW (cc := cX4_image) (maxL := 1) (ret := (some .int)) (own := RX4) (plainFor_of_name (by decide)) rfl rfl (Nat.le_of_ble_eq_true rfl) ?_
  intro p e s m args below meth c A hA hx hb hml hr hts hown hlocks hE hK hP hD hS ls hl
  generalize hQ : qRW _ _ _ _ _ _ _ = Q
  have hl : lv_has ls 1 [(0, .ref (f 0))] := hl
  have hiX4 : ∀ w ∈ wsX40, w ∈ wsX4_image := fun w h => List.mem_cons_of_mem _ (List.mem_append_right _ h)
  have hw1 := hts (Cond.fieldLink RX4 129 "FloeToFloeModel" "hasImage" "Z") (List.mem_of_getElem? (i := 1) rfl)
  have hw2 := hts (Cond.fieldLink RX4 101 "FloeToFloeModel" "minute" "I") (List.mem_of_getElem? (i := 2) rfl)
  rw [fX4_image] at h
  refine lv_aload_n hx hb dX4_image_0 rfl (lv_at hl 0 rfl) ?_
  refine lv_iconst (v := (1 : Int32)) hx hb dX4_image_1 (by decide) ?_
  refine va_put (D := (dC, dI)) (ci := 4) (v := .int (1 : Int32)) (ty := .boolean) (C := RX4) (T := TX4) (N := 28) hx hb hts hiX4 tyX4 tyX4_ok nmX4 hown hK hP hD hS 0 rfl rfl 17 (by decide) hw1 (fun _ h9 => h9) rfl (by decide +kernel) rfl rfl (Nat.le_of_ble_eq_true rfl) dX4_image_2 (fun H locs hP hD hS => ?_)
  have hP : va_P (dC, dI) vwCl (zwM cI cC f c_r c_refused c_tape c_letter c_letterAt c_number c_taped c_at c_statements c_kept (1 : Int32) c_isKeeping c_cursor c_poled c_barred c_leapsTo c_leapsThen c_lands c_row c_rowMany c_endsAt) H := hP
  have hD : va_D A (zwM cI cC f c_r c_refused c_tape c_letter c_letterAt c_number c_taped c_at c_statements c_kept (1 : Int32) c_isKeeping c_cursor c_poled c_barred c_leapsTo c_leapsThen c_lands c_row c_rowMany c_endsAt) := hD
  refine lv_aload_n hx hb dX4_image_5 rfl (lv_at hl 0 rfl) ?_
  refine lv_iconst (v := (0 : Int32)) hx hb dX4_image_6 (by decide) ?_
  refine lv_iconst (v := (1 : Int32)) hx hb dX4_image_7 (by decide) ?_
  obtain ⟨q8, e8, h⟩ := bd_some h
  refine g_rvV (wc := (zwM cI cC f c_r c_refused c_tape c_letter c_letterAt c_number c_taped c_at c_statements c_kept (1 : Int32) c_isKeeping c_cursor c_poled c_barred c_leapsTo c_leapsThen c_lands c_row c_rowMany c_endsAt)) (wc' := (zwM cI cC f q8.1 c_refused c_tape c_letter c_letterAt c_number c_taped c_at c_statements q8.2.1 (1 : Int32) q8.2.2.1 q8.2.2.2 c_poled c_barred c_leapsTo c_leapsThen c_lands c_row c_rowMany c_endsAt)) ⟨hx, hb, hml, hown, hts⟩ hE hK hA hP hD hS [0, 1, 2, 3, 4, 5, 6, 7, 8, 9, 10, 11, 12, 13, 14, 15] rfl rfl rfl (mX4_passesAll l dC dI cI cC sk f H.size (0 : Int32) (1 : Int32) c_r c_refused c_tape c_letter c_letterAt c_number c_taped c_at c_statements c_kept (1 : Int32) c_isKeeping c_cursor c_poled c_barred c_leapsTo c_leapsThen c_lands c_row c_rowMany c_endsAt q8 e8) (cwV 2 hts gX4_image_X4_passesAll rfl rfl rfl (by decide +kernel) ⟨Nat.le_of_ble_eq_true rfl, Nat.le_of_ble_eq_true rfl⟩) (va_recv hK hP (ci := 4) (q0 := 0) rfl rfl) (As := [.int (0 : Int32), .int (1 : Int32)]) (rest := []) rfl hl.1 rfl (Nat.le_of_ble_eq_true rfl) dX4_image_8 ⟨Nat.zero_le _, Nat.zero_le _⟩ (fun H locs hP hD hS => ?_)
  have hP : va_P (dC, dI) vwCl (zwM cI cC f q8.1 c_refused c_tape c_letter c_letterAt c_number c_taped c_at c_statements q8.2.1 (1 : Int32) q8.2.2.1 q8.2.2.2 c_poled c_barred c_leapsTo c_leapsThen c_lands c_row c_rowMany c_endsAt) H := hP
  have hD : va_D A (zwM cI cC f q8.1 c_refused c_tape c_letter c_letterAt c_number c_taped c_at c_statements q8.2.1 (1 : Int32) q8.2.2.1 q8.2.2.2 c_poled c_barred c_leapsTo c_leapsThen c_lands c_row c_rowMany c_endsAt) := hD
  refine lv_aload_n hx hb dX4_image_11 rfl (lv_at hl 0 rfl) ?_
  refine va_get (D := (dC, dI)) (ci := 4) (v := .int (R_minute q8.1)) (C := RX4) (T := TX4) (N := 28) hx hb hts hiX4 hown hK hP 0 rfl rfl 8 (by decide) hw2 (fun _ h9 => h9) rfl dX4_image_12 ?_
  subst hQ
  exact retRW (zz := (((R_minute q8.1), q8.1, q8.2.1, (1 : Int32), q8.2.2.1, q8.2.2.2) : Int32 × RT × AR × Int32 × Int32 × Int32)) (fun z => z.1) (fun z => (zwM cI cC f z.2.1 c_refused c_tape c_letter c_letterAt c_number c_taped c_at c_statements z.2.2.1 z.2.2.2.1 z.2.2.2.2.1 z.2.2.2.2.2 c_poled c_barred c_leapsTo c_leapsThen c_lands c_row c_rowMany c_endsAt)) hx hb hr hlocks rfl hS h rfl hP dX4_image_15
