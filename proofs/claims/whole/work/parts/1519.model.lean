theorem dX4_canLeap_0 : decode cX4_canLeap 0 = .ok (.aload_n 0, 1) := by decide +kernel
theorem dX4_canLeap_1 : decode cX4_canLeap 1 = .ok (.getfield 16, 3) := by decide +kernel
theorem dX4_canLeap_4 : decode cX4_canLeap 4 = .ok (.iload_n 1, 1) := by decide +kernel
theorem dX4_canLeap_5 : decode cX4_canLeap 5 = .ok (.iaload, 1) := by decide +kernel
theorem dX4_canLeap_6 : decode cX4_canLeap 6 = .ok (.aload_n 0, 1) := by decide +kernel
theorem dX4_canLeap_7 : decode cX4_canLeap 7 = .ok (.getfield 16, 3) := by decide +kernel
theorem dX4_canLeap_10 : decode cX4_canLeap 10 = .ok (.iload_n 2, 1) := by decide +kernel
theorem dX4_canLeap_11 : decode cX4_canLeap 11 = .ok (.iaload, 1) := by decide +kernel
theorem dX4_canLeap_12 : decode cX4_canLeap 12 = .ok (.isub, 1) := by decide +kernel
theorem dX4_canLeap_13 : decode cX4_canLeap 13 = .ok (.istore 4, 2) := by decide +kernel
theorem dX4_canLeap_15 : decode cX4_canLeap 15 = .ok (.iload 4, 2) := by decide +kernel
theorem dX4_canLeap_17 : decode cX4_canLeap 17 = .ok (.iconst 1, 1) := by decide +kernel
theorem dX4_canLeap_18 : decode cX4_canLeap 18 = .ok (.if_icmp .eq 9, 3) := by decide +kernel
theorem dX4_canLeap_21 : decode cX4_canLeap 21 = .ok (.iload 4, 2) := by decide +kernel
theorem dX4_canLeap_23 : decode cX4_canLeap 23 = .ok (.iconst (-1), 1) := by decide +kernel
theorem dX4_canLeap_24 : decode cX4_canLeap 24 = .ok (.if_icmp .ne 25, 3) := by decide +kernel
theorem dX4_canLeap_27 : decode cX4_canLeap 27 = .ok (.aload_n 0, 1) := by decide +kernel
theorem dX4_canLeap_28 : decode cX4_canLeap 28 = .ok (.iload_n 1, 1) := by decide +kernel
theorem dX4_canLeap_29 : decode cX4_canLeap 29 = .ok (.iload_n 3, 1) := by decide +kernel
theorem dX4_canLeap_30 : decode cX4_canLeap 30 = .ok (.invokevirtual 144, 3) := by decide +kernel
theorem dX4_canLeap_33 : decode cX4_canLeap 33 = .ok (.aload_n 0, 1) := by decide +kernel
theorem dX4_canLeap_34 : decode cX4_canLeap 34 = .ok (.iload_n 2, 1) := by decide +kernel
theorem dX4_canLeap_35 : decode cX4_canLeap 35 = .ok (.iload_n 3, 1) := by decide +kernel
theorem dX4_canLeap_36 : decode cX4_canLeap 36 = .ok (.invokevirtual 144, 3) := by decide +kernel
theorem dX4_canLeap_39 : decode cX4_canLeap 39 = .ok (.invokestatic 151, 3) := by decide +kernel
theorem dX4_canLeap_42 : decode cX4_canLeap 42 = .ok (.ifCond .eq 7, 3) := by decide +kernel
theorem dX4_canLeap_45 : decode cX4_canLeap 45 = .ok (.iconst 1, 1) := by decide +kernel
theorem dX4_canLeap_46 : decode cX4_canLeap 46 = .ok (.goto 4, 3) := by decide +kernel
theorem dX4_canLeap_49 : decode cX4_canLeap 49 = .ok (.iconst 0, 1) := by decide +kernel
theorem dX4_canLeap_50 : decode cX4_canLeap 50 = .ok (.ireturn, 1) := by decide +kernel
set_option maxRecDepth 20000 in
theorem ggX4_canLeap_X4_whereIs : GoodIn wsX4_canLeap wsX4_whereIs := goodIn_r _ [6, 7, 8, 9, 10, 11, 12, 13, 5, 14, 15, 16, 17, 21, 22, 23, 24, 25, 26, 27, 28, 29, 30, 31, 32, 33, 34, 35, 36, 37, 38, 39, 40, 41, 42, 43, 44, 45, 46, 47, 48] (by decide +kernel) (by decide +kernel)
set_option maxRecDepth 20000 in
theorem gX4_canLeap_X4_whereIs : GoodIn wsX4_canLeap (wsV RX4 144 RX4 yX4_whereIs wsX4_whereIs) := goodIn_app (goodIn_of _ (by decide +kernel)) ggX4_canLeap_X4_whereIs
set_option maxRecDepth 20000 in
theorem ggX4_canLeap_X4_isNear : GoodIn wsX4_canLeap wsX4_isNear := goodIn_r _ [20, 15, 16, 5, 17] (by decide +kernel) (by decide +kernel)
set_option maxRecDepth 20000 in
theorem gX4_canLeap_X4_isNear : GoodIn wsX4_canLeap (va_wsS RX4 151 yX4_isNear wsX4_isNear) := goodIn_app (goodIn_of _ (by decide +kernel)) ggX4_canLeap_X4_isNear
set_option maxHeartbeats 4000000 in
set_option maxRecDepth 100000 in
theorem mX4_canLeap (l : Launch) (dC : Nat → ClassId) (dI : Nat → Nat → Nat) (cI cC : ClassId) (sk : (Nat → Nat) × (Nat → Nat)) (f : Nat → Nat) (p1 : Int32) (p2 : Int32) (p3 : Int32) (c_r : RT) (c_refused : AR) (c_tape : AR) (c_letter : AR) (c_letterAt : AR) (c_number : AR) (c_taped : Int32) (c_at : Int32) (c_statements : Int32) (c_kept : AR) (c_hasImage : Int32) (c_isKeeping : Int32) (c_cursor : Int32) (c_poled : Int32) (c_barred : Int32) (c_leapsTo : AR) (c_leapsThen : AR) (c_lands : AR) (c_row : AR) (c_rowMany : Int32) (c_endsAt : Int32) (z : Int32) (h : fX4_canLeap p1 p2 p3 c_r c_poled = some z) : cRO l yX4_canLeap wsX4_canLeap (RMk 2 43) sk (dC, dI) (tyz cI cC) (zwM cI cC f c_r c_refused c_tape c_letter c_letterAt c_number c_taped c_at c_statements c_kept c_hasImage c_isKeeping c_cursor c_poled c_barred c_leapsTo c_leapsThen c_lands c_row c_rowMany c_endsAt) [.ref (f 0), .int p1, .int p2, .int p3] z := by
  refine ofRO (cc := cX4_canLeap) (maxL := 5) (ret := (some .boolean)) (own := RX4) (plainFor_of_name (by decide)) rfl rfl (Nat.le_of_ble_eq_true rfl) ?_
  intro p e s m args below meth c hx hb hml hr hts hown hlocks hE hK hP hS ls hl
  generalize hQ : qRO _ _ _ _ = Q
  have hl : lv_has ls 5 [(0, .ref (f 0)), (1, .int p1), (2, .int p2), (3, .int p3)] := hl
  have hiX4 : ∀ w ∈ wsX40, w ∈ wsX4_canLeap := fun w h => List.mem_cons_of_mem _ (List.mem_append_right _ h)
  have hw1 := hts (Cond.fieldLink RX4 16 "FloeToFloeModel" "laneOf" "[I") (List.mem_of_getElem? (i := 1) rfl)
  rw [fX4_canLeap] at h
  refine lv_aload_n hx hb dX4_canLeap_0 rfl (lv_at hl 0 rfl) ?_
  refine va_get (D := (dC, dI)) (ci := 4) (v := .ref (f 3)) (C := RX4) (T := TX4) (N := 28) hx hb hts hiX4 hown hK hP 0 rfl rfl 2 (by decide) hw1 (fun _ h9 => h9) rfl dX4_canLeap_1 ?_
  refine lv_iload_n hx hb dX4_canLeap_4 rfl (lv_at hl 1 rfl) ?_
  obtain ⟨hin, h⟩ := ck_some h
  refine va_iald hx hb hK hP 3 0 rfl rfl hin dX4_canLeap_5 ?_
  refine lv_aload_n hx hb dX4_canLeap_6 rfl (lv_at hl 0 rfl) ?_
  refine va_get (D := (dC, dI)) (ci := 4) (v := .ref (f 3)) (C := RX4) (T := TX4) (N := 28) hx hb hts hiX4 hown hK hP 0 rfl rfl 2 (by decide) hw1 (fun _ h9 => h9) rfl dX4_canLeap_7 ?_
  refine lv_iload_n hx hb dX4_canLeap_10 rfl (lv_at hl 2 rfl) ?_
  obtain ⟨hin, h⟩ := ck_some h
  refine va_iald hx hb hK hP 3 0 rfl rfl hin dX4_canLeap_11 ?_
  refine lv_isub hx hb dX4_canLeap_12 ?_
  refine lv_istore (lv' := [(4, .int (((R_homes c_r) (p1).toNatClampNeg) - ((R_homes c_r) (p2).toNatClampNeg))), (0, .ref (f 0)), (1, .int p1), (2, .int p2), (3, .int p3)]) hx hb dX4_canLeap_13 hl (by decide) rfl (fun ls hl => ?_)
  refine lv_iload hx hb dX4_canLeap_15 (lv_at hl 0 rfl) ?_
  refine lv_iconst (v := (1 : Int32)) hx hb dX4_canLeap_17 (by decide) ?_
  refine jnW (fun (v27 : Unit) => ∀ (H : Heap) (locs : List Loc) (ls : Array Slot), va_P (dC, dI) vwCl (zwM cI cC f c_r c_refused c_tape c_letter c_letterAt c_number c_taped c_at c_statements c_kept c_hasImage c_isKeeping c_cursor c_poled c_barred c_leapsTo c_leapsThen c_lands c_row c_rowMany c_endsAt) H → va_S noA s.heap H locs → lv_has ls 5 [(0, .ref (f 0)), (1, .int p1), (2, .int p2), (3, .int p3)] → W p l e (RMk 2 43) s m args below meth c H locs 0 0 Q (F0 m 27 ls [])) h (fun v27 h H locs ls hP hS hl => ?_) (fun J27 j27 h => ?_)
  · refine lv_aload_n hx hb dX4_canLeap_27 rfl (lv_at hl 0 rfl) ?_
    refine lv_iload_n hx hb dX4_canLeap_28 rfl (lv_at hl 1 rfl) ?_
    refine lv_iload_n hx hb dX4_canLeap_29 rfl (lv_at hl 3 rfl) ?_
    obtain ⟨q30, e30, h⟩ := bd_some h
    refine g_roV (wc := (zwM cI cC f c_r c_refused c_tape c_letter c_letterAt c_number c_taped c_at c_statements c_kept c_hasImage c_isKeeping c_cursor c_poled c_barred c_leapsTo c_leapsThen c_lands c_row c_rowMany c_endsAt)) ⟨hx, hb, hml, hown, hts⟩ hE hK hP hS [0, 1, 2, 3, 4, 5, 6, 7, 8, 9, 10, 11, 12, 13, 14, 15] rfl (mX4_whereIs l dC dI cI cC sk f p1 p3 c_r c_refused c_tape c_letter c_letterAt c_number c_taped c_at c_statements c_kept c_hasImage c_isKeeping c_cursor c_poled c_barred c_leapsTo c_leapsThen c_lands c_row c_rowMany c_endsAt q30 e30) (cwV 2 hts gX4_canLeap_X4_whereIs rfl rfl rfl (by decide +kernel) ⟨Nat.le_of_ble_eq_true rfl, Nat.le_of_ble_eq_true rfl⟩) (va_recv hK hP (ci := 4) (q0 := 0) rfl rfl) (As := [.int p1, .int p3]) (rest := []) rfl hl.1 rfl (Nat.le_of_ble_eq_true rfl) dX4_canLeap_30 ⟨Nat.zero_le _, Nat.zero_le _⟩ (fun H locs hP hS => ?_)
    refine lv_aload_n hx hb dX4_canLeap_33 rfl (lv_at hl 0 rfl) ?_
    refine lv_iload_n hx hb dX4_canLeap_34 rfl (lv_at hl 2 rfl) ?_
    refine lv_iload_n hx hb dX4_canLeap_35 rfl (lv_at hl 3 rfl) ?_
    obtain ⟨q36, e36, h⟩ := bd_some h
    refine g_roV (wc := (zwM cI cC f c_r c_refused c_tape c_letter c_letterAt c_number c_taped c_at c_statements c_kept c_hasImage c_isKeeping c_cursor c_poled c_barred c_leapsTo c_leapsThen c_lands c_row c_rowMany c_endsAt)) ⟨hx, hb, hml, hown, hts⟩ hE hK hP hS [0, 1, 2, 3, 4, 5, 6, 7, 8, 9, 10, 11, 12, 13, 14, 15] rfl (mX4_whereIs l dC dI cI cC sk f p2 p3 c_r c_refused c_tape c_letter c_letterAt c_number c_taped c_at c_statements c_kept c_hasImage c_isKeeping c_cursor c_poled c_barred c_leapsTo c_leapsThen c_lands c_row c_rowMany c_endsAt q36 e36) (cwV 2 hts gX4_canLeap_X4_whereIs rfl rfl rfl (by decide +kernel) ⟨Nat.le_of_ble_eq_true rfl, Nat.le_of_ble_eq_true rfl⟩) (va_recv hK hP (ci := 4) (q0 := 0) rfl rfl) (As := [.int p2, .int p3]) (rest := [.int q30]) rfl hl.1 rfl (Nat.le_of_ble_eq_true rfl) dX4_canLeap_36 ⟨Nat.zero_le _, Nat.zero_le _⟩ (fun H locs hP hS => ?_)
    obtain ⟨q39, e39, h⟩ := bd_some h
    refine g_roS (wc := ([] : va_W)) ⟨hx, hb, hml, hown, hts⟩ hE hK hP hS [] rfl (mX4_isNear l dC dI cI cC sk  q30 q36 q39 e39) (va_cwS 2 hts gX4_canLeap_X4_isNear rfl rfl rfl (by decide +kernel) ⟨Nat.le_of_ble_eq_true rfl, Nat.le_of_ble_eq_true rfl⟩) (As := [.int q30, .int q36]) (rest := []) rfl hl.1 rfl (Nat.le_of_ble_eq_true rfl) dX4_canLeap_39 ⟨Nat.zero_le _, Nat.zero_le _⟩ (fun H locs hP hS => ?_)
    refine lv_if_eq (tgt := 49) hx hb dX4_canLeap_42 (by decide) (fun c42 => ?_) (fun c42 => ?_)
    · have h := itT c42 h
      refine lv_iconst (v := (0 : Int32)) hx hb dX4_canLeap_49 (by decide) ?_
      subst hQ
      exact retRO hx hb hr hlocks rfl hS h dX4_canLeap_50
    have h := itF c42 h
    refine lv_iconst (v := (1 : Int32)) hx hb dX4_canLeap_45 (by decide) ?_
    refine lv_goto (tgt := 50) hx hb dX4_canLeap_46 (by decide) ?_
    subst hQ
    exact retRO hx hb hr hlocks rfl hS h dX4_canLeap_50
  refine lv_icmp_eq (tgt := 27) hx hb dX4_canLeap_18 (by decide) (fun c18 => ?_) (fun c18 => ?_)
  · have h := itT c18 h
    exact j27 _ h _ _ _ hP hS (lv_sub hl [1, 2, 3, 4] rfl)
  have h := itF c18 h
  refine lv_iload hx hb dX4_canLeap_21 (lv_at hl 0 rfl) ?_
  refine lv_iconst (v := (-1 : Int32)) hx hb dX4_canLeap_23 (by decide) ?_
  refine lv_icmp_ne (tgt := 49) hx hb dX4_canLeap_24 (by decide) (fun c24 => ?_) (fun c24 => ?_)
  · have h := itF c24 h
    refine lv_iconst (v := (0 : Int32)) hx hb dX4_canLeap_49 (by decide) ?_
    subst hQ
    exact retRO hx hb hr hlocks rfl hS h dX4_canLeap_50
  have h := itT c24 h
  exact j27 _ h _ _ _ hP hS (lv_sub hl [1, 2, 3, 4] rfl)
