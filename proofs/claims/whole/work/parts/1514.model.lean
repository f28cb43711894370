theorem dX4_whereIs_0 : decode cX4_whereIs 0 = .ok (.aload_n 0, 1) := by decide +kernel
theorem dX4_whereIs_1 : decode cX4_whereIs 1 = .ok (.getfield 132, 3) := by decide +kernel
theorem dX4_whereIs_4 : decode cX4_whereIs 4 = .ok (.iload_n 1, 1) := by decide +kernel
theorem dX4_whereIs_5 : decode cX4_whereIs 5 = .ok (.ishr, 1) := by decide +kernel
theorem dX4_whereIs_6 : decode cX4_whereIs 6 = .ok (.iconst 1, 1) := by decide +kernel
theorem dX4_whereIs_7 : decode cX4_whereIs 7 = .ok (.iand, 1) := by decide +kernel
theorem dX4_whereIs_8 : decode cX4_whereIs 8 = .ok (.iconst 1, 1) := by decide +kernel
theorem dX4_whereIs_9 : decode cX4_whereIs 9 = .ok (.if_icmp .ne 10, 3) := by decide +kernel
theorem dX4_whereIs_12 : decode cX4_whereIs 12 = .ok (.aload_n 0, 1) := by decide +kernel
theorem dX4_whereIs_13 : decode cX4_whereIs 13 = .ok (.getfield 101, 3) := by decide +kernel
theorem dX4_whereIs_16 : decode cX4_whereIs 16 = .ok (.goto 4, 3) := by decide +kernel
theorem dX4_whereIs_19 : decode cX4_whereIs 19 = .ok (.iload_n 2, 1) := by decide +kernel
theorem dX4_whereIs_20 : decode cX4_whereIs 20 = .ok (.istore_n 3, 1) := by decide +kernel
theorem dX4_whereIs_21 : decode cX4_whereIs 21 = .ok (.aload_n 0, 1) := by decide +kernel
theorem dX4_whereIs_22 : decode cX4_whereIs 22 = .ok (.getfield 13, 3) := by decide +kernel
theorem dX4_whereIs_25 : decode cX4_whereIs 25 = .ok (.iload_n 1, 1) := by decide +kernel
theorem dX4_whereIs_26 : decode cX4_whereIs 26 = .ok (.iaload, 1) := by decide +kernel
theorem dX4_whereIs_27 : decode cX4_whereIs 27 = .ok (.iconst 4, 1) := by decide +kernel
theorem dX4_whereIs_28 : decode cX4_whereIs 28 = .ok (.if_icmp .ne 12, 3) := by decide +kernel
theorem dX4_whereIs_31 : decode cX4_whereIs 31 = .ok (.aload_n 0, 1) := by decide +kernel
theorem dX4_whereIs_32 : decode cX4_whereIs 32 = .ok (.getfield 19, 3) := by decide +kernel
theorem dX4_whereIs_35 : decode cX4_whereIs 35 = .ok (.iload_n 1, 1) := by decide +kernel
theorem dX4_whereIs_36 : decode cX4_whereIs 36 = .ok (.iaload, 1) := by decide +kernel
theorem dX4_whereIs_37 : decode cX4_whereIs 37 = .ok (.goto 38, 3) := by decide +kernel
theorem dX4_whereIs_40 : decode cX4_whereIs 40 = .ok (.aload_n 0, 1) := by decide +kernel
theorem dX4_whereIs_41 : decode cX4_whereIs 41 = .ok (.getfield 19, 3) := by decide +kernel
theorem dX4_whereIs_44 : decode cX4_whereIs 44 = .ok (.iload_n 1, 1) := by decide +kernel
theorem dX4_whereIs_45 : decode cX4_whereIs 45 = .ok (.iaload, 1) := by decide +kernel
theorem dX4_whereIs_46 : decode cX4_whereIs 46 = .ok (.aload_n 0, 1) := by decide +kernel
theorem dX4_whereIs_47 : decode cX4_whereIs 47 = .ok (.getfield 22, 3) := by decide +kernel
theorem dX4_whereIs_50 : decode cX4_whereIs 50 = .ok (.iload_n 1, 1) := by decide +kernel
theorem dX4_whereIs_51 : decode cX4_whereIs 51 = .ok (.iaload, 1) := by decide +kernel
theorem dX4_whereIs_52 : decode cX4_whereIs 52 = .ok (.aload_n 0, 1) := by decide +kernel
theorem dX4_whereIs_53 : decode cX4_whereIs 53 = .ok (.getfield 13, 3) := by decide +kernel
theorem dX4_whereIs_56 : decode cX4_whereIs 56 = .ok (.iload_n 1, 1) := by decide +kernel
theorem dX4_whereIs_57 : decode cX4_whereIs 57 = .ok (.iaload, 1) := by decide +kernel
theorem dX4_whereIs_58 : decode cX4_whereIs 58 = .ok (.iconst 3, 1) := by decide +kernel
theorem dX4_whereIs_59 : decode cX4_whereIs 59 = .ok (.if_icmp .ne 10, 3) := by decide +kernel
theorem dX4_whereIs_62 : decode cX4_whereIs 62 = .ok (.iload_n 3, 1) := by decide +kernel
theorem dX4_whereIs_63 : decode cX4_whereIs 63 = .ok (.invokestatic 135, 3) := by decide +kernel
theorem dX4_whereIs_66 : decode cX4_whereIs 66 = .ok (.goto 4, 3) := by decide +kernel
theorem dX4_whereIs_69 : decode cX4_whereIs 69 = .ok (.iload_n 3, 1) := by decide +kernel
theorem dX4_whereIs_70 : decode cX4_whereIs 70 = .ok (.imul, 1) := by decide +kernel
theorem dX4_whereIs_71 : decode cX4_whereIs 71 = .ok (.iadd, 1) := by decide +kernel
theorem dX4_whereIs_72 : decode cX4_whereIs 72 = .ok (.invokestatic 138, 3) := by decide +kernel
theorem dX4_whereIs_75 : decode cX4_whereIs 75 = .ok (.ireturn, 1) := by decide +kernel
set_option maxRecDepth 20000 in
theorem ggX4_whereIs_X4_turned : GoodIn wsX4_whereIs wsX4_turned := goodIn_r _ [9] (by decide +kernel) (by decide +kernel)
set_option maxRecDepth 20000 in
theorem gX4_whereIs_X4_turned : GoodIn wsX4_whereIs (va_wsS RX4 135 yX4_turned wsX4_turned) := goodIn_app (goodIn_of _ (by decide +kernel)) ggX4_whereIs_X4_turned
set_option maxRecDepth 20000 in
theorem ggX4_whereIs_X4_round : GoodIn wsX4_whereIs wsX4_round := goodIn_r _ [12] (by decide +kernel) (by decide +kernel)
set_option maxRecDepth 20000 in
theorem gX4_whereIs_X4_round : GoodIn wsX4_whereIs (va_wsS RX4 138 yX4_round wsX4_round) := goodIn_app (goodIn_of _ (by decide +kernel)) ggX4_whereIs_X4_round
set_option maxHeartbeats 4000000 in
set_option maxRecDepth 100000 in
theorem mX4_whereIs (l : Launch) (dC : Nat → ClassId) (dI : Nat → Nat → Nat) (cI cC : ClassId) (sk : (Nat → Nat) × (Nat → Nat)) (f : Nat → Nat) (p1 : Int32) (p2 : Int32) (c_r : RT) (c_refused : AR) (c_tape : AR) (c_letter : AR) (c_letterAt : AR) (c_number : AR) (c_taped : Int32) (c_at : Int32) (c_statements : Int32) (c_kept : AR) (c_hasImage : Int32) (c_isKeeping : Int32) (c_cursor : Int32) (c_poled : Int32) (c_barred : Int32) (c_leapsTo : AR) (c_leapsThen : AR) (c_lands : AR) (c_row : AR) (c_rowMany : Int32) (c_endsAt : Int32) (z : Int32) (h : fX4_whereIs p1 p2 c_r c_poled = some z) : cRO l yX4_whereIs wsX4_whereIs (RMk 1 20) sk (dC, dI) (tyz cI cC) (zwM cI cC f c_r c_refused c_tape c_letter c_letterAt c_number c_taped c_at c_statements c_kept c_hasImage c_isKeeping c_cursor c_poled c_barred c_leapsTo c_leapsThen c_lands c_row c_rowMany c_endsAt) [.ref (f 0), .int p1, .int p2] z := by
  refine ofRO (cc := cX4_whereIs) (maxL := 4) (ret := (some .int)) (own := RX4) (plainFor_of_name (by decide)) rfl rfl (Nat.le_of_ble_eq_true rfl) ?_
  intro p e s m args below meth c hx hb hml hr hts hown hlocks hE hK hP hS ls hl
  generalize hQ : qRO _ _ _ _ = Q
  have hl : lv_has ls 4 [(0, .ref (f 0)), (1, .int p1), (2, .int p2)] := hl
  have hiX4 : ∀ w ∈ wsX40, w ∈ wsX4_whereIs := fun w h => List.mem_cons_of_mem _ (List.mem_append_right _ h)
  have hw1 := hts (Cond.fieldLink RX4 132 "FloeToFloeModel" "poled" "I") (List.mem_of_getElem? (i := 1) rfl)
  have hw2 := hts (Cond.fieldLink RX4 101 "FloeToFloeModel" "minute" "I") (List.mem_of_getElem? (i := 2) rfl)
  have hw3 := hts (Cond.fieldLink RX4 13 "FloeToFloeModel" "kind" "[I") (List.mem_of_getElem? (i := 3) rfl)
  have hw4 := hts (Cond.fieldLink RX4 19 "FloeToFloeModel" "cellOf" "[I") (List.mem_of_getElem? (i := 4) rfl)
  have hw5 := hts (Cond.fieldLink RX4 22 "FloeToFloeModel" "pace" "[I") (List.mem_of_getElem? (i := 5) rfl)
  rw [fX4_whereIs] at h
  refine lv_aload_n hx hb dX4_whereIs_0 rfl (lv_at hl 0 rfl) ?_
  refine va_get (D := (dC, dI)) (ci := 4) (v := .int c_poled) (C := RX4) (T := TX4) (N := 28) hx hb hts hiX4 hown hK hP 0 rfl rfl 20 (by decide) hw1 (fun _ h9 => h9) rfl dX4_whereIs_1 ?_
  refine lv_iload_n hx hb dX4_whereIs_4 rfl (lv_at hl 1 rfl) ?_
  refine lv_ishr hx hb dX4_whereIs_5 ?_
  refine lv_iconst (v := (1 : Int32)) hx hb dX4_whereIs_6 (by decide) ?_
  refine lv_iand hx hb dX4_whereIs_7 ?_
  refine lv_iconst (v := (1 : Int32)) hx hb dX4_whereIs_8 (by decide) ?_
  refine jnW (fun (v20 : Int32) => ∀ (H : Heap) (locs : List Loc) (ls : Array Slot), va_P (dC, dI) vwCl (zwM cI cC f c_r c_refused c_tape c_letter c_letterAt c_number c_taped c_at c_statements c_kept c_hasImage c_isKeeping c_cursor c_poled c_barred c_leapsTo c_leapsThen c_lands c_row c_rowMany c_endsAt) H → va_S noA s.heap H locs → lv_has ls 4 [(0, .ref (f 0)), (1, .int p1)] → W p l e (RMk 1 20) s m args below meth c H locs 0 0 Q (F0 m 20 ls [.int v20])) h (fun v20 h H locs ls hP hS hl => ?_) (fun J20 j20 h => ?_)
  · refine lv_istore_n (lv' := [(3, .int v20), (0, .ref (f 0)), (1, .int p1)]) hx hb dX4_whereIs_20 rfl hl (by decide) rfl (fun ls hl => ?_)
    refine lv_aload_n hx hb dX4_whereIs_21 rfl (lv_at hl 1 rfl) ?_
    refine va_get (D := (dC, dI)) (ci := 4) (v := .ref (f 2)) (C := RX4) (T := TX4) (N := 28) hx hb hts hiX4 hown hK hP 0 rfl rfl 1 (by decide) hw3 (fun _ h9 => h9) rfl dX4_whereIs_22 ?_
    refine lv_iload_n hx hb dX4_whereIs_25 rfl (lv_at hl 2 rfl) ?_
    obtain ⟨hin, h⟩ := ck_some h
    refine va_iald hx hb hK hP 2 0 rfl rfl hin dX4_whereIs_26 ?_
    refine lv_iconst (v := (4 : Int32)) hx hb dX4_whereIs_27 (by decide) ?_
    refine lv_icmp_ne (tgt := 40) hx hb dX4_whereIs_28 (by decide) (fun c28 => ?_) (fun c28 => ?_)
    · have h := itF c28 h
      refine lv_aload_n hx hb dX4_whereIs_40 rfl (lv_at hl 1 rfl) ?_
      refine va_get (D := (dC, dI)) (ci := 4) (v := .ref (f 4)) (C := RX4) (T := TX4) (N := 28) hx hb hts hiX4 hown hK hP 0 rfl rfl 3 (by decide) hw4 (fun _ h9 => h9) rfl dX4_whereIs_41 ?_
      refine lv_iload_n hx hb dX4_whereIs_44 rfl (lv_at hl 2 rfl) ?_
      obtain ⟨hin, h⟩ := ck_some h
      refine va_iald hx hb hK hP 4 0 rfl rfl hin dX4_whereIs_45 ?_
      refine lv_aload_n hx hb dX4_whereIs_46 rfl (lv_at hl 1 rfl) ?_
      refine va_get (D := (dC, dI)) (ci := 4) (v := .ref (f 5)) (C := RX4) (T := TX4) (N := 28) hx hb hts hiX4 hown hK hP 0 rfl rfl 4 (by decide) hw5 (fun _ h9 => h9) rfl dX4_whereIs_47 ?_
      refine lv_iload_n hx hb dX4_whereIs_50 rfl (lv_at hl 2 rfl) ?_
      obtain ⟨hin, h⟩ := ck_some h
      refine va_iald hx hb hK hP 5 0 rfl rfl hin dX4_whereIs_51 ?_
      refine lv_aload_n hx hb dX4_whereIs_52 rfl (lv_at hl 1 rfl) ?_
      refine va_get (D := (dC, dI)) (ci := 4) (v := .ref (f 2)) (C := RX4) (T := TX4) (N := 28) hx hb hts hiX4 hown hK hP 0 rfl rfl 1 (by decide) hw3 (fun _ h9 => h9) rfl dX4_whereIs_53 ?_
      refine lv_iload_n hx hb dX4_whereIs_56 rfl (lv_at hl 2 rfl) ?_
      obtain ⟨hin, h⟩ := ck_some h
      refine va_iald hx hb hK hP 2 0 rfl rfl hin dX4_whereIs_57 ?_
      refine lv_iconst (v := (3 : Int32)) hx hb dX4_whereIs_58 (by decide) ?_
      refine jnW (fun (v70 : Int32) => ∀ (H : Heap) (locs : List Loc) (ls : Array Slot), va_P (dC, dI) vwCl (zwM cI cC f c_r c_refused c_tape c_letter c_letterAt c_number c_taped c_at c_statements c_kept c_hasImage c_isKeeping c_cursor c_poled c_barred c_leapsTo c_leapsThen c_lands c_row c_rowMany c_endsAt) H → va_S noA s.heap H locs → lv_has ls 4 [] → W p l e (RMk 1 20) s m args below meth c H locs 0 0 Q (F0 m 70 ls [.int v70, .int ((R_paces c_r) (p1).toNatClampNeg), .int ((R_cells c_r) (p1).toNatClampNeg)])) h (fun v70 h H locs ls hP hS hl => ?_) (fun J70 j70 h => ?_)
      · refine lv_imul hx hb dX4_whereIs_70 ?_
        refine lv_iadd hx hb dX4_whereIs_71 ?_
        obtain ⟨q72, e72, h⟩ := bd_some h
        refine g_roS (wc := ([] : va_W)) ⟨hx, hb, hml, hown, hts⟩ hE hK hP hS [] rfl (mX4_round l dC dI cI cC sk  (((R_cells c_r) (p1).toNatClampNeg) + (((R_paces c_r) (p1).toNatClampNeg) * v70)) q72 e72) (va_cwS 1 hts gX4_whereIs_X4_round rfl rfl rfl (by decide +kernel) ⟨Nat.le_of_ble_eq_true rfl, Nat.le_of_ble_eq_true rfl⟩) (As := [.int (((R_cells c_r) (p1).toNatClampNeg) + (((R_paces c_r) (p1).toNatClampNeg) * v70))]) (rest := []) rfl hl.1 rfl (Nat.le_of_ble_eq_true rfl) dX4_whereIs_72 ⟨Nat.zero_le _, Nat.zero_le _⟩ (fun H locs hP hS => ?_)
        subst hQ
        exact retRO hx hb hr hlocks rfl hS h dX4_whereIs_75
      refine lv_icmp_ne (tgt := 69) hx hb dX4_whereIs_59 (by decide) (fun c59 => ?_) (fun c59 => ?_)
      · have h := itF c59 h
        refine lv_iload_n hx hb dX4_whereIs_69 rfl (lv_at hl 0 rfl) ?_
        exact j70 _ h _ _ _ hP hS (lv_sub hl [] rfl)
      have h := itT c59 h
      refine lv_iload_n hx hb dX4_whereIs_62 rfl (lv_at hl 0 rfl) ?_
      obtain ⟨q63, e63, h⟩ := bd_some h
      refine g_roS (wc := ([] : va_W)) ⟨hx, hb, hml, hown, hts⟩ hE hK hP hS [] rfl (mX4_turned l dC dI cI cC sk  v20 q63 e63) (va_cwS 1 hts gX4_whereIs_X4_turned rfl rfl rfl (by decide +kernel) ⟨Nat.le_of_ble_eq_true rfl, Nat.le_of_ble_eq_true rfl⟩) (As := [.int v20]) (rest := [.int ((R_paces c_r) (p1).toNatClampNeg), .int ((R_cells c_r) (p1).toNatClampNeg)]) rfl hl.1 rfl (Nat.le_of_ble_eq_true rfl) dX4_whereIs_63 ⟨Nat.zero_le _, Nat.zero_le _⟩ (fun H locs hP hS => ?_)
      refine lv_goto (tgt := 70) hx hb dX4_whereIs_66 (by decide) ?_
      exact j70 _ h _ _ _ hP hS (lv_sub hl [] rfl)
    have h := itT c28 h
    refine lv_aload_n hx hb dX4_whereIs_31 rfl (lv_at hl 1 rfl) ?_
    refine va_get (D := (dC, dI)) (ci := 4) (v := .ref (f 4)) (C := RX4) (T := TX4) (N := 28) hx hb hts hiX4 hown hK hP 0 rfl rfl 3 (by decide) hw4 (fun _ h9 => h9) rfl dX4_whereIs_32 ?_
    refine lv_iload_n hx hb dX4_whereIs_35 rfl (lv_at hl 2 rfl) ?_
    obtain ⟨hin, h⟩ := ck_some h
    refine va_iald hx hb hK hP 4 0 rfl rfl hin dX4_whereIs_36 ?_
    refine lv_goto (tgt := 75) hx hb dX4_whereIs_37 (by decide) ?_
    subst hQ
    exact retRO hx hb hr hlocks rfl hS h dX4_whereIs_75
  refine lv_icmp_ne (tgt := 19) hx hb dX4_whereIs_9 (by decide) (fun c9 => ?_) (fun c9 => ?_)
  · have h := itF c9 h
    refine lv_iload_n hx hb dX4_whereIs_19 rfl (lv_at hl 2 rfl) ?_
    exact j20 _ h _ _ _ hP hS (lv_sub hl [0, 1] rfl)
  have h := itT c9 h
  refine lv_aload_n hx hb dX4_whereIs_12 rfl (lv_at hl 0 rfl) ?_
  refine va_get (D := (dC, dI)) (ci := 4) (v := .int (R_minute c_r)) (C := RX4) (T := TX4) (N := 28) hx hb hts hiX4 hown hK hP 0 rfl rfl 8 (by decide) hw2 (fun _ h9 => h9) rfl dX4_whereIs_13 ?_
  refine lv_goto (tgt := 20) hx hb dX4_whereIs_16 (by decide) ?_
  exact j20 _ h _ _ _ hP hS (lv_sub hl [0, 1] rfl)
