theorem dX4_landsFrom_0 : decode cX4_landsFrom 0 = .ok (.iconst 0, 1) := by decide +kernel
theorem dX4_landsFrom_1 : decode cX4_landsFrom 1 = .ok (.istore 5, 2) := by decide +kernel
theorem dX4_landsFrom_3 : decode cX4_landsFrom 3 = .ok (.iconst 0, 1) := by decide +kernel
theorem dX4_landsFrom_4 : decode cX4_landsFrom 4 = .ok (.istore 6, 2) := by decide +kernel
theorem dX4_landsFrom_6 : decode cX4_landsFrom 6 = .ok (.iload 6, 2) := by decide +kernel
theorem dX4_landsFrom_8 : decode cX4_landsFrom 8 = .ok (.bipush 19, 2) := by decide +kernel
theorem dX4_landsFrom_10 : decode cX4_landsFrom 10 = .ok (.if_icmp .ge 68, 3) := by decide +kernel
theorem dX4_landsFrom_13 : decode cX4_landsFrom 13 = .ok (.aload_n 0, 1) := by decide +kernel
theorem dX4_landsFrom_14 : decode cX4_landsFrom 14 = .ok (.iload_n 1, 1) := by decide +kernel
theorem dX4_landsFrom_15 : decode cX4_landsFrom 15 = .ok (.iload_n 2, 1) := by decide +kernel
theorem dX4_landsFrom_16 : decode cX4_landsFrom 16 = .ok (.iconst 2, 1) := by decide +kernel
theorem dX4_landsFrom_17 : decode cX4_landsFrom 17 = .ok (.idiv, 1) := by decide +kernel
theorem dX4_landsFrom_18 : decode cX4_landsFrom 18 = .ok (.invokestatic 192, 3) := by decide +kernel
theorem dX4_landsFrom_21 : decode cX4_landsFrom 21 = .ok (.iload 6, 2) := by decide +kernel
theorem dX4_landsFrom_23 : decode cX4_landsFrom 23 = .ok (.iload_n 2, 1) := by decide +kernel
theorem dX4_landsFrom_24 : decode cX4_landsFrom 24 = .ok (.iconst 2, 1) := by decide +kernel
theorem dX4_landsFrom_25 : decode cX4_landsFrom 25 = .ok (.irem, 1) := by decide +kernel
theorem dX4_landsFrom_26 : decode cX4_landsFrom 26 = .ok (.invokestatic 192, 3) := by decide +kernel
theorem dX4_landsFrom_29 : decode cX4_landsFrom 29 = .ok (.ior, 1) := by decide +kernel
theorem dX4_landsFrom_30 : decode cX4_landsFrom 30 = .ok (.putfield 132, 3) := by decide +kernel
theorem dX4_landsFrom_33 : decode cX4_landsFrom 33 = .ok (.iload 5, 2) := by decide +kernel
theorem dX4_landsFrom_35 : decode cX4_landsFrom 35 = .ok (.aload_n 0, 1) := by decide +kernel
theorem dX4_landsFrom_36 : decode cX4_landsFrom 36 = .ok (.iload_n 1, 1) := by decide +kernel
theorem dX4_landsFrom_37 : decode cX4_landsFrom 37 = .ok (.iload 6, 2) := by decide +kernel
theorem dX4_landsFrom_39 : decode cX4_landsFrom 39 = .ok (.iload_n 3, 1) := by decide +kernel
theorem dX4_landsFrom_40 : decode cX4_landsFrom 40 = .ok (.iload 4, 2) := by decide +kernel
theorem dX4_landsFrom_42 : decode cX4_landsFrom 42 = .ok (.invokevirtual 163, 3) := by decide +kernel
theorem dX4_landsFrom_45 : decode cX4_landsFrom 45 = .ok (.ifCond .ne 16, 3) := by decide +kernel
theorem dX4_landsFrom_48 : decode cX4_landsFrom 48 = .ok (.aload_n 0, 1) := by decide +kernel
theorem dX4_landsFrom_49 : decode cX4_landsFrom 49 = .ok (.iload_n 1, 1) := by decide +kernel
theorem dX4_landsFrom_50 : decode cX4_landsFrom 50 = .ok (.iload 6, 2) := by decide +kernel
theorem dX4_landsFrom_52 : decode cX4_landsFrom 52 = .ok (.iload_n 3, 1) := by decide +kernel
theorem dX4_landsFrom_53 : decode cX4_landsFrom 53 = .ok (.iload 4, 2) := by decide +kernel
theorem dX4_landsFrom_55 : decode cX4_landsFrom 55 = .ok (.invokevirtual 167, 3) := by decide +kernel
theorem dX4_landsFrom_58 : decode cX4_landsFrom 58 = .ok (.ifCond .eq 10, 3) := by decide +kernel
theorem dX4_landsFrom_61 : decode cX4_landsFrom 61 = .ok (.iconst 1, 1) := by decide +kernel
theorem dX4_landsFrom_62 : decode cX4_landsFrom 62 = .ok (.iload 6, 2) := by decide +kernel
theorem dX4_landsFrom_64 : decode cX4_landsFrom 64 = .ok (.ishl, 1) := by decide +kernel
theorem dX4_landsFrom_65 : decode cX4_landsFrom 65 = .ok (.goto 4, 3) := by decide +kernel
theorem dX4_landsFrom_68 : decode cX4_landsFrom 68 = .ok (.iconst 0, 1) := by decide +kernel
theorem dX4_landsFrom_69 : decode cX4_landsFrom 69 = .ok (.ior, 1) := by decide +kernel
theorem dX4_landsFrom_70 : decode cX4_landsFrom 70 = .ok (.istore 5, 2) := by decide +kernel
theorem dX4_landsFrom_72 : decode cX4_landsFrom 72 = .ok (.iinc 6 1, 3) := by decide +kernel
theorem dX4_landsFrom_75 : decode cX4_landsFrom 75 = .ok (.goto (-69), 3) := by decide +kernel
theorem dX4_landsFrom_78 : decode cX4_landsFrom 78 = .ok (.aload_n 0, 1) := by decide +kernel
theorem dX4_landsFrom_79 : decode cX4_landsFrom 79 = .ok (.iconst 0, 1) := by decide +kernel
theorem dX4_landsFrom_80 : decode cX4_landsFrom 80 = .ok (.putfield 132, 3) := by decide +kernel
theorem dX4_landsFrom_83 : decode cX4_landsFrom 83 = .ok (.iload 5, 2) := by decide +kernel
theorem dX4_landsFrom_85 : decode cX4_landsFrom 85 = .ok (.ireturn, 1) := by decide +kernel
set_option maxRecDepth 20000 in
theorem ggX4_landsFrom_X4_floeBit : GoodIn wsX4_landsFrom wsX4_floeBit := goodIn_r _ [5, 6, 7, 4, 8] (by decide +kernel) (by decide +kernel)
set_option maxRecDepth 20000 in
theorem gX4_landsFrom_X4_floeBit : GoodIn wsX4_landsFrom (va_wsS RX4 192 yX4_floeBit wsX4_floeBit) := goodIn_app (goodIn_of _ (by decide +kernel)) ggX4_landsFrom_X4_floeBit
set_option maxRecDepth 20000 in
theorem ggX4_landsFrom_X4_mayStay : GoodIn wsX4_landsFrom wsX4_mayStay := goodIn_r _ [12, 13, 14, 15, 4, 16, 17, 18, 19, 20, 21, 22, 23, 24, 25, 26, 27, 28, 29, 51, 52, 53, 54, 55, 56, 57, 58, 59, 60, 61, 62, 63, 64, 65, 66, 67, 68, 69, 70, 71, 72, 73, 74, 75, 76, 77, 78] (by decide +kernel) (by decide +kernel)
set_option maxRecDepth 20000 in
theorem gX4_landsFrom_X4_mayStay : GoodIn wsX4_landsFrom (wsV RX4 163 RX4 yX4_mayStay wsX4_mayStay) := goodIn_app (goodIn_of _ (by decide +kernel)) ggX4_landsFrom_X4_mayStay
set_option maxRecDepth 20000 in
theorem ggX4_landsFrom_X4_mayLeap : GoodIn wsX4_landsFrom wsX4_mayLeap := goodIn_r _ [33, 34, 35, 36, 6, 7, 4, 8, 13, 14, 15, 16, 17, 18, 19, 20, 21, 22, 23, 37, 38, 39, 40, 1, 41, 42, 43, 44, 45, 46, 27, 28, 29, 24, 25, 26, 47, 48, 49, 50, 51, 52, 53, 54, 55, 56, 57, 58, 59, 60, 61, 62, 63, 64, 65, 66, 67, 68, 69, 70, 71, 72, 73, 74, 75, 76, 77, 78] (by decide +kernel) (by decide +kernel)
set_option maxRecDepth 20000 in
theorem gX4_landsFrom_X4_mayLeap : GoodIn wsX4_landsFrom (wsV RX4 167 RX4 yX4_mayLeap wsX4_mayLeap) := goodIn_app (goodIn_of _ (by decide +kernel)) ggX4_landsFrom_X4_mayLeap
set_option maxHeartbeats 4000000 in
set_option maxRecDepth 100000 in
theorem mX4_landsFrom (l : Launch) (dC : Nat → ClassId) (dI : Nat → Nat → Nat) (cI cC : ClassId) (sk : (Nat → Nat) × (Nat → Nat)) (f : Nat → Nat) (sz : Nat) (p1 : Int32) (p2 : Int32) (p3 : Int32) (p4 : Int32) (c_r : RT) (c_refused : AR) (c_tape : AR) (c_letter : AR) (c_letterAt : AR) (c_number : AR) (c_taped : Int32) (c_at : Int32) (c_statements : Int32) (c_kept : AR) (c_hasImage : Int32) (c_isKeeping : Int32) (c_cursor : Int32) (c_poled : Int32) (c_barred : Int32) (c_leapsTo : AR) (c_leapsThen : AR) (c_lands : AR) (c_row : AR) (c_rowMany : Int32) (c_endsAt : Int32) (z : Int32 × Int32) (h : fX4_landsFrom p1 p2 p3 p4 c_r c_poled c_barred = some z) : cRW l yX4_landsFrom wsX4_landsFrom (RMk 4 92) sk (dC, dI) (tyz cI cC) sz (zwM cI cC f c_r c_refused c_tape c_letter c_letterAt c_number c_taped c_at c_statements c_kept c_hasImage c_isKeeping c_cursor c_poled c_barred c_leapsTo c_leapsThen c_lands c_row c_rowMany c_endsAt) (zwM cI cC f c_r c_refused c_tape c_letter c_letterAt c_number c_taped c_at c_statements c_kept c_hasImage c_isKeeping c_cursor z.2 c_barred c_leapsTo c_leapsThen c_lands c_row c_rowMany c_endsAt) [.ref (f 0), .int p1, .int p2, .int p3, .int p4] z.1 := by
  refine ofRW (cc := cX4_landsFrom) (maxL := 7) (ret := (some .int)) (own := RX4) (plainFor_of_name (by decide)) rfl rfl (Nat.le_of_ble_eq_true rfl) ?_
  intro p e s m args below meth c A hA hx hb hml hr hts hown hlocks hE hK hP hD hS ls hl
  generalize hQ : qRW _ _ _ _ _ _ _ = Q
  have hl : lv_has ls 7 [(0, .ref (f 0)), (1, .int p1), (2, .int p2), (3, .int p3), (4, .int p4)] := hl
  have hiX4 : ∀ w ∈ wsX40, w ∈ wsX4_landsFrom := fun w h => List.mem_cons_of_mem _ (List.mem_append_right _ h)
  have hw1 := hts (Cond.fieldLink RX4 132 "FloeToFloeModel" "poled" "I") (List.mem_of_getElem? (i := 1) rfl)
  rw [fX4_landsFrom] at h
  refine lv_iconst (v := (0 : Int32)) hx hb dX4_landsFrom_0 (by decide) ?_
  refine lv_istore (lv' := [(5, .int (0 : Int32)), (0, .ref (f 0)), (1, .int p1), (2, .int p2), (3, .int p3), (4, .int p4)]) hx hb dX4_landsFrom_1 hl (by decide) rfl (fun ls hl => ?_)
  refine lv_iconst (v := (0 : Int32)) hx hb dX4_landsFrom_3 (by decide) ?_
  refine lv_istore (lv' := [(6, .int (0 : Int32)), (5, .int (0 : Int32)), (0, .ref (f 0)), (1, .int p1), (2, .int p2), (3, .int p3), (4, .int p4)]) hx hb dX4_landsFrom_4 hl (by decide) rfl (fun ls hl => ?_)
  have L6 : ∀ (K6 : Int32 → Int32 → Option (Int32 × Int32)), (∀ (k6_5 : Int32) (k6_poled : Int32), K6 k6_5 k6_poled = some z → ∀ (H : Heap) (locs : List Loc) (ls : Array Slot), va_P (dC, dI) vwCl (zwM cI cC f c_r c_refused c_tape c_letter c_letterAt c_number c_taped c_at c_statements c_kept c_hasImage c_isKeeping c_cursor k6_poled c_barred c_leapsTo c_leapsThen c_lands c_row c_rowMany c_endsAt) H → va_D A (zwM cI cC f c_r c_refused c_tape c_letter c_letterAt c_number c_taped c_at c_statements c_kept c_hasImage c_isKeeping c_cursor k6_poled c_barred c_leapsTo c_leapsThen c_lands c_row c_rowMany c_endsAt) → va_S A s.heap H locs → lv_has ls 7 [(0, .ref (f 0)), (5, .int k6_5)] → W p l e (RMk 4 92) s m args below meth c H locs 0 0 Q (F0 m 78 ls [])) → ∀ (n : Nat) (x6_5 : Int32) (x6_6 : Int32) (x6_poled : Int32), fX4_landsFrom_L6 c_barred c_r p1 p2 p3 p4 K6 n x6_5 x6_6 x6_poled = some z → ∀ (H : Heap) (locs : List Loc) (ls : Array Slot), va_P (dC, dI) vwCl (zwM cI cC f c_r c_refused c_tape c_letter c_letterAt c_number c_taped c_at c_statements c_kept c_hasImage c_isKeeping c_cursor x6_poled c_barred c_leapsTo c_leapsThen c_lands c_row c_rowMany c_endsAt) H → va_D A (zwM cI cC f c_r c_refused c_tape c_letter c_letterAt c_number c_taped c_at c_statements c_kept c_hasImage c_isKeeping c_cursor x6_poled c_barred c_leapsTo c_leapsThen c_lands c_row c_rowMany c_endsAt) → va_S A s.heap H locs → lv_has ls 7 [(0, .ref (f 0)), (1, .int p1), (2, .int p2), (3, .int p3), (4, .int p4), (5, .int x6_5), (6, .int x6_6)] → W p l e (RMk 4 92) s m args below meth c H locs 0 0 Q (F0 m 6 ls []) := by
    intro K6 kx6 n
    induction n with
    | zero => intro x6_5 x6_6 x6_poled h; rw [fX4_landsFrom_L6] at h; cases h
    | succ n ih6 =>
      intro x6_5 x6_6 x6_poled h H locs ls hP hD hS hl
      rw [fX4_landsFrom_L6] at h
      refine lv_iload hx hb dX4_landsFrom_6 (lv_at hl 6 rfl) ?_
      refine lv_bipush (v := (19 : Int32)) hx hb dX4_landsFrom_8 (by decide) ?_
      refine lv_icmp_ge (tgt := 78) hx hb dX4_landsFrom_10 (by decide) (fun c10 => ?_) (fun c10 => ?_)
      · have h := itT c10 h
        exact kx6 _ _ h _ _ _ hP hD hS (lv_sub hl [0, 5] rfl)
      have h := itF c10 h
      refine lv_aload_n hx hb dX4_landsFrom_13 rfl (lv_at hl 0 rfl) ?_
      refine lv_iload_n hx hb dX4_landsFrom_14 rfl (lv_at hl 1 rfl) ?_
      refine lv_iload_n hx hb dX4_landsFrom_15 rfl (lv_at hl 2 rfl) ?_
      refine lv_iconst (v := (2 : Int32)) hx hb dX4_landsFrom_16 (by decide) ?_
      refine lv_idiv hx hb dX4_landsFrom_17 (by decide) ?_
      obtain ⟨q18, e18, h⟩ := bd_some h
      refine g_roS (wc := ([] : va_W)) ⟨hx, hb, hml, hown, hts⟩ hE hK hP hS [] rfl (mX4_floeBit l dC dI cI cC sk  p1 (p2 / (2 : Int32)) q18 e18) (va_cwS 2 hts gX4_landsFrom_X4_floeBit rfl rfl rfl (by decide +kernel) ⟨Nat.le_of_ble_eq_true rfl, Nat.le_of_ble_eq_true rfl⟩) (As := [.int p1, .int (p2 / (2 : Int32))]) (rest := [.ref (f 0)]) rfl hl.1 rfl (Nat.le_of_ble_eq_true rfl) dX4_landsFrom_18 ⟨Nat.zero_le _, Nat.zero_le _⟩ (fun H locs hP hS => ?_)
      refine lv_iload hx hb dX4_landsFrom_21 (lv_at hl 6 rfl) ?_
      refine lv_iload_n hx hb dX4_landsFrom_23 rfl (lv_at hl 2 rfl) ?_
      refine lv_iconst (v := (2 : Int32)) hx hb dX4_landsFrom_24 (by decide) ?_
      refine lv_irem hx hb dX4_landsFrom_25 (by decide) ?_
      obtain ⟨q26, e26, h⟩ := bd_some h
      refine g_roS (wc := ([] : va_W)) ⟨hx, hb, hml, hown, hts⟩ hE hK hP hS [] rfl (mX4_floeBit l dC dI cI cC sk  x6_6 (p2 - p2 / (2 : Int32) * (2 : Int32)) q26 e26) (va_cwS 2 hts gX4_landsFrom_X4_floeBit rfl rfl rfl (by decide +kernel) ⟨Nat.le_of_ble_eq_true rfl, Nat.le_of_ble_eq_true rfl⟩) (As := [.int x6_6, .int (p2 - p2 / (2 : Int32) * (2 : Int32))]) (rest := [.int q18, .ref (f 0)]) rfl hl.1 rfl (Nat.le_of_ble_eq_true rfl) dX4_landsFrom_26 ⟨Nat.zero_le _, Nat.zero_le _⟩ (fun H locs hP hS => ?_)
      refine lv_ior hx hb dX4_landsFrom_29 ?_
      refine va_put (D := (dC, dI)) (ci := 4) (v := .int (q18 ||| q26)) (ty := .int) (C := RX4) (T := TX4) (N := 28) hx hb hts hiX4 tyX4 tyX4_ok nmX4 hown hK hP hD hS 0 rfl rfl 20 (by decide) hw1 (fun _ h9 => h9) rfl (by decide +kernel) rfl rfl (Nat.le_of_ble_eq_true rfl) dX4_landsFrom_30 (fun H locs hP hD hS => ?_)
      have hP : va_P (dC, dI) vwCl (zwM cI cC f c_r c_refused c_tape c_letter c_letterAt c_number c_taped c_at c_statements c_kept c_hasImage c_isKeeping c_cursor (q18 ||| q26) c_barred c_leapsTo c_leapsThen c_lands c_row c_rowMany c_endsAt) H := hP
      have hD : va_D A (zwM cI cC f c_r c_refused c_tape c_letter c_letterAt c_number c_taped c_at c_statements c_kept c_hasImage c_isKeeping c_cursor (q18 ||| q26) c_barred c_leapsTo c_leapsThen c_lands c_row c_rowMany c_endsAt) := hD
      refine lv_iload hx hb dX4_landsFrom_33 (lv_at hl 5 rfl) ?_
      refine lv_aload_n hx hb dX4_landsFrom_35 rfl (lv_at hl 0 rfl) ?_
      refine lv_iload_n hx hb dX4_landsFrom_36 rfl (lv_at hl 1 rfl) ?_
      refine lv_iload hx hb dX4_landsFrom_37 (lv_at hl 6 rfl) ?_
      refine lv_iload_n hx hb dX4_landsFrom_39 rfl (lv_at hl 3 rfl) ?_
      refine lv_iload hx hb dX4_landsFrom_40 (lv_at hl 4 rfl) ?_
      obtain ⟨q42, e42, h⟩ := bd_some h
      refine g_roV (wc := (zwM cI cC f c_r c_refused c_tape c_letter c_letterAt c_number c_taped c_at c_statements c_kept c_hasImage c_isKeeping c_cursor (q18 ||| q26) c_barred c_leapsTo c_leapsThen c_lands c_row c_rowMany c_endsAt)) ⟨hx, hb, hml, hown, hts⟩ hE hK hP hS [0, 1, 2, 3, 4, 5, 6, 7, 8, 9, 10, 11, 12, 13, 14, 15] rfl (mX4_mayStay l dC dI cI cC sk f p1 x6_6 p3 p4 c_r c_refused c_tape c_letter c_letterAt c_number c_taped c_at c_statements c_kept c_hasImage c_isKeeping c_cursor (q18 ||| q26) c_barred c_leapsTo c_leapsThen c_lands c_row c_rowMany c_endsAt q42 e42) (cwV 4 hts gX4_landsFrom_X4_mayStay rfl rfl rfl (by decide +kernel) ⟨Nat.le_of_ble_eq_true rfl, Nat.le_of_ble_eq_true rfl⟩) (va_recv hK hP (ci := 4) (q0 := 0) rfl rfl) (As := [.int p1, .int x6_6, .int p3, .int p4]) (rest := [.int x6_5]) rfl hl.1 rfl (Nat.le_of_ble_eq_true rfl) dX4_landsFrom_42 ⟨Nat.zero_le _, Nat.zero_le _⟩ (fun H locs hP hS => ?_)
      refine jnW (fun (v61 : Unit) => ∀ (H : Heap) (locs : List Loc) (ls : Array Slot), va_P (dC, dI) vwCl (zwM cI cC f c_r c_refused c_tape c_letter c_letterAt c_number c_taped c_at c_statements c_kept c_hasImage c_isKeeping c_cursor (q18 ||| q26) c_barred c_leapsTo c_leapsThen c_lands c_row c_rowMany c_endsAt) H → va_D A (zwM cI cC f c_r c_refused c_tape c_letter c_letterAt c_number c_taped c_at c_statements c_kept c_hasImage c_isKeeping c_cursor (q18 ||| q26) c_barred c_leapsTo c_leapsThen c_lands c_row c_rowMany c_endsAt) → va_S A s.heap H locs → lv_has ls 7 [(0, .ref (f 0)), (1, .int p1), (2, .int p2), (3, .int p3), (4, .int p4), (6, .int x6_6)] → W p l e (RMk 4 92) s m args below meth c H locs 0 0 Q (F0 m 61 ls [.int x6_5])) h (fun v61 h H locs ls hP hD hS hl => ?_) (fun J61 j61 h => ?_)
      · refine lv_iconst (v := (1 : Int32)) hx hb dX4_landsFrom_61 (by decide) ?_
        refine lv_iload hx hb dX4_landsFrom_62 (lv_at hl 5 rfl) ?_
        refine lv_ishl hx hb dX4_landsFrom_64 ?_
        refine lv_goto (tgt := 69) hx hb dX4_landsFrom_65 (by decide) ?_
        refine lv_ior hx hb dX4_landsFrom_69 ?_
        refine lv_istore (lv' := [(5, .int (x6_5 ||| ((1 : Int32) <<< (x6_6 &&& 31)))), (0, .ref (f 0)), (1, .int p1), (2, .int p2), (3, .int p3), (4, .int p4), (6, .int x6_6)]) hx hb dX4_landsFrom_70 hl (by decide) rfl (fun ls hl => ?_)
        refine lv_iinc (v := (x6_6 + (1 : Int32))) (lv' := [(6, .int (x6_6 + (1 : Int32))), (5, .int (x6_5 ||| ((1 : Int32) <<< (x6_6 &&& 31)))), (0, .ref (f 0)), (1, .int p1), (2, .int p2), (3, .int p3), (4, .int p4)]) hx hb dX4_landsFrom_72 hl (k := 6) rfl rfl (by decide) rfl (fun ls hl => ?_)
        refine lv_goto (tgt := 6) hx hb dX4_landsFrom_75 (by decide) ?_
        exact ih6 _ _ _ h _ _ _ hP hD hS (lv_sub hl [2, 3, 4, 5, 6, 1, 0] rfl)
      refine lv_if_ne (tgt := 61) hx hb dX4_landsFrom_45 (by decide) (fun c45 => ?_) (fun c45 => ?_)
      · have h := itF c45 h
        exact j61 _ h _ _ _ hP hD hS (lv_sub hl [0, 1, 2, 3, 4, 6] rfl)
      have h := itT c45 h
      refine lv_aload_n hx hb dX4_landsFrom_48 rfl (lv_at hl 0 rfl) ?_
      refine lv_iload_n hx hb dX4_landsFrom_49 rfl (lv_at hl 1 rfl) ?_
      refine lv_iload hx hb dX4_landsFrom_50 (lv_at hl 6 rfl) ?_
      refine lv_iload_n hx hb dX4_landsFrom_52 rfl (lv_at hl 3 rfl) ?_
      refine lv_iload hx hb dX4_landsFrom_53 (lv_at hl 4 rfl) ?_
      obtain ⟨q55, e55, h⟩ := bd_some h
      refine g_roV (wc := (zwM cI cC f c_r c_refused c_tape c_letter c_letterAt c_number c_taped c_at c_statements c_kept c_hasImage c_isKeeping c_cursor (q18 ||| q26) c_barred c_leapsTo c_leapsThen c_lands c_row c_rowMany c_endsAt)) ⟨hx, hb, hml, hown, hts⟩ hE hK hP hS [0, 1, 2, 3, 4, 5, 6, 7, 8, 9, 10, 11, 12, 13, 14, 15] rfl (mX4_mayLeap l dC dI cI cC sk f p1 x6_6 p3 p4 c_r c_refused c_tape c_letter c_letterAt c_number c_taped c_at c_statements c_kept c_hasImage c_isKeeping c_cursor (q18 ||| q26) c_barred c_leapsTo c_leapsThen c_lands c_row c_rowMany c_endsAt q55 e55) (cwV 4 hts gX4_landsFrom_X4_mayLeap rfl rfl rfl (by decide +kernel) ⟨Nat.le_of_ble_eq_true rfl, Nat.le_of_ble_eq_true rfl⟩) (va_recv hK hP (ci := 4) (q0 := 0) rfl rfl) (As := [.int p1, .int x6_6, .int p3, .int p4]) (rest := [.int x6_5]) rfl hl.1 rfl (Nat.le_of_ble_eq_true rfl) dX4_landsFrom_55 ⟨Nat.zero_le _, Nat.zero_le _⟩ (fun H locs hP hS => ?_)
      refine lv_if_eq (tgt := 68) hx hb dX4_landsFrom_58 (by decide) (fun c58 => ?_) (fun c58 => ?_)
      · have h := itT c58 h
        refine lv_iconst (v := (0 : Int32)) hx hb dX4_landsFrom_68 (by decide) ?_
        refine lv_ior hx hb dX4_landsFrom_69 ?_
        refine lv_istore (lv' := [(5, .int (x6_5 ||| (0 : Int32))), (0, .ref (f 0)), (1, .int p1), (2, .int p2), (3, .int p3), (4, .int p4), (6, .int x6_6)]) hx hb dX4_landsFrom_70 hl (by decide) rfl (fun ls hl => ?_)
        refine lv_iinc (v := (x6_6 + (1 : Int32))) (lv' := [(6, .int (x6_6 + (1 : Int32))), (5, .int (x6_5 ||| (0 : Int32))), (0, .ref (f 0)), (1, .int p1), (2, .int p2), (3, .int p3), (4, .int p4)]) hx hb dX4_landsFrom_72 hl (k := 6) rfl rfl (by decide) rfl (fun ls hl => ?_)
        refine lv_goto (tgt := 6) hx hb dX4_landsFrom_75 (by decide) ?_
        exact ih6 _ _ _ h _ _ _ hP hD hS (lv_sub hl [2, 3, 4, 5, 6, 1, 0] rfl)
      have h := itF c58 h
      exact j61 _ h _ _ _ hP hD hS (lv_sub hl [0, 1, 2, 3, 4, 6] rfl)
  refine L6 _ (fun k6_5 k6_poled h H locs ls hP hD hS hl => ?_) _ _ _ _ h _ _ _ hP hD hS (lv_sub hl [2, 3, 4, 5, 6, 1, 0] rfl)
  refine lv_aload_n hx hb dX4_landsFrom_78 rfl (lv_at hl 0 rfl) ?_
  refine lv_iconst (v := (0 : Int32)) hx hb dX4_landsFrom_79 (by decide) ?_
  refine va_put (D := (dC, dI)) (ci := 4) (v := .int (0 : Int32)) (ty := .int) (C := RX4) (T := TX4) (N := 28) hx hb hts hiX4 tyX4 tyX4_ok nmX4 hown hK hP hD hS 0 rfl rfl 20 (by decide) hw1 (fun _ h9 => h9) rfl (by decide +kernel) rfl rfl (Nat.le_of_ble_eq_true rfl) dX4_landsFrom_80 (fun H locs hP hD hS => ?_)
  have hP : va_P (dC, dI) vwCl (zwM cI cC f c_r c_refused c_tape c_letter c_letterAt c_number c_taped c_at c_statements c_kept c_hasImage c_isKeeping c_cursor (0 : Int32) c_barred c_leapsTo c_leapsThen c_lands c_row c_rowMany c_endsAt) H := hP
  have hD : va_D A (zwM cI cC f c_r c_refused c_tape c_letter c_letterAt c_number c_taped c_at c_statements c_kept c_hasImage c_isKeeping c_cursor (0 : Int32) c_barred c_leapsTo c_leapsThen c_lands c_row c_rowMany c_endsAt) := hD
  refine lv_iload hx hb dX4_landsFrom_83 (lv_at hl 1 rfl) ?_
  subst hQ
  exact retRW (zz := ((k6_5, (0 : Int32)) : Int32 × Int32)) (fun z => z.1) (fun z => (zwM cI cC f c_r c_refused c_tape c_letter c_letterAt c_number c_taped c_at c_statements c_kept c_hasImage c_isKeeping c_cursor z.2 c_barred c_leapsTo c_leapsThen c_lands c_row c_rowMany c_endsAt)) hx hb hr hlocks rfl hS h rfl hP dX4_landsFrom_85
