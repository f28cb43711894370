theorem dX4_isSeen_0 : decode cX4_isSeen 0 = .ok (.iconst 0, 1) := by decide +kernel
theorem dX4_isSeen_1 : decode cX4_isSeen 1 = .ok (.istore_n 3, 1) := by decide +kernel
theorem dX4_isSeen_2 : decode cX4_isSeen 2 = .ok (.iload_n 3, 1) := by decide +kernel
theorem dX4_isSeen_3 : decode cX4_isSeen 3 = .ok (.aload_n 0, 1) := by decide +kernel
theorem dX4_isSeen_4 : decode cX4_isSeen 4 = .ok (.getfield 212, 3) := by decide +kernel
theorem dX4_isSeen_7 : decode cX4_isSeen 7 = .ok (.if_icmp .ge 69, 3) := by decide +kernel
theorem dX4_isSeen_10 : decode cX4_isSeen 10 = .ok (.iload_n 1, 1) := by decide +kernel
theorem dX4_isSeen_11 : decode cX4_isSeen 11 = .ok (.iconst 2, 1) := by decide +kernel
theorem dX4_isSeen_12 : decode cX4_isSeen 12 = .ok (.if_icmp .ne 7, 3) := by decide +kernel
theorem dX4_isSeen_15 : decode cX4_isSeen 15 = .ok (.iconst 0, 1) := by decide +kernel
theorem dX4_isSeen_16 : decode cX4_isSeen 16 = .ok (.goto 16, 3) := by decide +kernel
theorem dX4_isSeen_19 : decode cX4_isSeen 19 = .ok (.iload_n 1, 1) := by decide +kernel
theorem dX4_isSeen_20 : decode cX4_isSeen 20 = .ok (.iconst 1, 1) := by decide +kernel
theorem dX4_isSeen_21 : decode cX4_isSeen 21 = .ok (.if_icmp .ne 10, 3) := by decide +kernel
theorem dX4_isSeen_24 : decode cX4_isSeen 24 = .ok (.iload_n 3, 1) := by decide +kernel
theorem dX4_isSeen_25 : decode cX4_isSeen 25 = .ok (.invokestatic 135, 3) := by decide +kernel
theorem dX4_isSeen_28 : decode cX4_isSeen 28 = .ok (.goto 4, 3) := by decide +kernel
theorem dX4_isSeen_31 : decode cX4_isSeen 31 = .ok (.iload_n 3, 1) := by decide +kernel
theorem dX4_isSeen_32 : decode cX4_isSeen 32 = .ok (.istore 4, 2) := by decide +kernel
theorem dX4_isSeen_34 : decode cX4_isSeen 34 = .ok (.aload_n 0, 1) := by decide +kernel
theorem dX4_isSeen_35 : decode cX4_isSeen 35 = .ok (.getfield 56, 3) := by decide +kernel
theorem dX4_isSeen_38 : decode cX4_isSeen 38 = .ok (.iload_n 3, 1) := by decide +kernel
theorem dX4_isSeen_39 : decode cX4_isSeen 39 = .ok (.iaload, 1) := by decide +kernel
theorem dX4_isSeen_40 : decode cX4_isSeen 40 = .ok (.bipush 9, 2) := by decide +kernel
theorem dX4_isSeen_42 : decode cX4_isSeen 42 = .ok (.if_icmp .gt 26, 3) := by decide +kernel
theorem dX4_isSeen_45 : decode cX4_isSeen 45 = .ok (.aload_n 0, 1) := by decide +kernel
theorem dX4_isSeen_46 : decode cX4_isSeen 46 = .ok (.getfield 56, 3) := by decide +kernel
theorem dX4_isSeen_49 : decode cX4_isSeen 49 = .ok (.iload_n 3, 1) := by decide +kernel
theorem dX4_isSeen_50 : decode cX4_isSeen 50 = .ok (.iaload, 1) := by decide +kernel
theorem dX4_isSeen_51 : decode cX4_isSeen 51 = .ok (.aload_n 0, 1) := by decide +kernel
theorem dX4_isSeen_52 : decode cX4_isSeen 52 = .ok (.getfield 56, 3) := by decide +kernel
theorem dX4_isSeen_55 : decode cX4_isSeen 55 = .ok (.iconst 0, 1) := by decide +kernel
theorem dX4_isSeen_56 : decode cX4_isSeen 56 = .ok (.iaload, 1) := by decide +kernel
theorem dX4_isSeen_57 : decode cX4_isSeen 57 = .ok (.iload_n 2, 1) := by decide +kernel
theorem dX4_isSeen_58 : decode cX4_isSeen 58 = .ok (.iload 4, 2) := by decide +kernel
theorem dX4_isSeen_60 : decode cX4_isSeen 60 = .ok (.imul, 1) := by decide +kernel
theorem dX4_isSeen_61 : decode cX4_isSeen 61 = .ok (.iadd, 1) := by decide +kernel
theorem dX4_isSeen_62 : decode cX4_isSeen 62 = .ok (.invokestatic 138, 3) := by decide +kernel
theorem dX4_isSeen_65 : decode cX4_isSeen 65 = .ok (.if_icmp .eq 5, 3) := by decide +kernel
theorem dX4_isSeen_68 : decode cX4_isSeen 68 = .ok (.iconst 0, 1) := by decide +kernel
theorem dX4_isSeen_69 : decode cX4_isSeen 69 = .ok (.ireturn, 1) := by decide +kernel
theorem dX4_isSeen_70 : decode cX4_isSeen 70 = .ok (.iinc 3 1, 3) := by decide +kernel
theorem dX4_isSeen_73 : decode cX4_isSeen 73 = .ok (.goto (-71), 3) := by decide +kernel
theorem dX4_isSeen_76 : decode cX4_isSeen 76 = .ok (.aload_n 0, 1) := by decide +kernel
theorem dX4_isSeen_77 : decode cX4_isSeen 77 = .ok (.getfield 212, 3) := by decide +kernel
theorem dX4_isSeen_80 : decode cX4_isSeen 80 = .ok (.ifCond .le 7, 3) := by decide +kernel
theorem dX4_isSeen_83 : decode cX4_isSeen 83 = .ok (.iconst 1, 1) := by decide +kernel
theorem dX4_isSeen_84 : decode cX4_isSeen 84 = .ok (.goto 4, 3) := by decide +kernel
theorem dX4_isSeen_87 : decode cX4_isSeen 87 = .ok (.iconst 0, 1) := by decide +kernel
theorem dX4_isSeen_88 : decode cX4_isSeen 88 = .ok (.ireturn, 1) := by decide +kernel
set_option maxRecDepth 20000 in
theorem ggX4_isSeen_X4_turned : GoodIn wsX4_isSeen wsX4_turned := goodIn_r _ [6] (by decide +kernel) (by decide +kernel)
set_option maxRecDepth 20000 in
theorem gX4_isSeen_X4_turned : GoodIn wsX4_isSeen (va_wsS RX4 135 yX4_turned wsX4_turned) := goodIn_app (goodIn_of _ (by decide +kernel)) ggX4_isSeen_X4_turned
set_option maxRecDepth 20000 in
theorem ggX4_isSeen_X4_round : GoodIn wsX4_isSeen wsX4_round := goodIn_r _ [9] (by decide +kernel) (by decide +kernel)
set_option maxRecDepth 20000 in
theorem gX4_isSeen_X4_round : GoodIn wsX4_isSeen (va_wsS RX4 138 yX4_round wsX4_round) := goodIn_app (goodIn_of _ (by decide +kernel)) ggX4_isSeen_X4_round
set_option maxHeartbeats 4000000 in
set_option maxRecDepth 100000 in
theorem mX4_isSeen (l : Launch) (dC : Nat → ClassId) (dI : Nat → Nat → Nat) (cI cC : ClassId) (sk : (Nat → Nat) × (Nat → Nat)) (f : Nat → Nat) (p1 : Int32) (p2 : Int32) (c_r : RT) (c_refused : AR) (c_tape : AR) (c_letter : AR) (c_letterAt : AR) (c_number : AR) (c_taped : Int32) (c_at : Int32) (c_statements : Int32) (c_kept : AR) (c_hasImage : Int32) (c_isKeeping : Int32) (c_cursor : Int32) (c_poled : Int32) (c_barred : Int32) (c_leapsTo : AR) (c_leapsThen : AR) (c_lands : AR) (c_row : AR) (c_rowMany : Int32) (c_endsAt : Int32) (z : Int32) (h : fX4_isSeen p1 p2 c_row c_rowMany = some z) : cRO l yX4_isSeen wsX4_isSeen (RMk 1 20) sk (dC, dI) (tyz cI cC) (zwM cI cC f c_r c_refused c_tape c_letter c_letterAt c_number c_taped c_at c_statements c_kept c_hasImage c_isKeeping c_cursor c_poled c_barred c_leapsTo c_leapsThen c_lands c_row c_rowMany c_endsAt) [.ref (f 0), .int p1, .int p2] z := by
  refine ofRO (cc := cX4_isSeen) (maxL := 5) (ret := (some .boolean)) (own := RX4) (plainFor_of_name (by decide)) rfl rfl (Nat.le_of_ble_eq_true rfl) ?_
  intro p e s m args below meth c hx hb hml hr hts hown hlocks hE hK hP hS ls hl
  generalize hQ : qRO _ _ _ _ = Q
  have hl : lv_has ls 5 [(0, .ref (f 0)), (1, .int p1), (2, .int p2)] := hl
  have hiX4 : ∀ w ∈ wsX40, w ∈ wsX4_isSeen := fun w h => List.mem_cons_of_mem _ (List.mem_append_right _ h)
  have hw1 := hts (Cond.fieldLink RX4 212 "FloeToFloeModel" "rowMany" "I") (List.mem_of_getElem? (i := 1) rfl)
  have hw2 := hts (Cond.fieldLink RX4 56 "FloeToFloeModel" "row" "[I") (List.mem_of_getElem? (i := 2) rfl)
  rw [fX4_isSeen] at h
  refine lv_iconst (v := (0 : Int32)) hx hb dX4_isSeen_0 (by decide) ?_
  refine lv_istore_n (lv' := [(3, .int (0 : Int32)), (0, .ref (f 0)), (1, .int p1), (2, .int p2)]) hx hb dX4_isSeen_1 rfl hl (by decide) rfl (fun ls hl => ?_)
  have L2 : ∀ (K2 : Unit → Option (Int32)), (∀ (_ : Unit), K2 () = some z → ∀ (H : Heap) (locs : List Loc) (ls : Array Slot), va_P (dC, dI) vwCl (zwM cI cC f c_r c_refused c_tape c_letter c_letterAt c_number c_taped c_at c_statements c_kept c_hasImage c_isKeeping c_cursor c_poled c_barred c_leapsTo c_leapsThen c_lands c_row c_rowMany c_endsAt) H → va_S noA s.heap H locs → lv_has ls 5 [(0, .ref (f 0))] → W p l e (RMk 1 20) s m args below meth c H locs 0 0 Q (F0 m 76 ls [])) → ∀ (n : Nat) (x2_3 : Int32), fX4_isSeen_L2 c_row c_rowMany p1 p2 K2 n x2_3 = some z → ∀ (H : Heap) (locs : List Loc) (ls : Array Slot), va_P (dC, dI) vwCl (zwM cI cC f c_r c_refused c_tape c_letter c_letterAt c_number c_taped c_at c_statements c_kept c_hasImage c_isKeeping c_cursor c_poled c_barred c_leapsTo c_leapsThen c_lands c_row c_rowMany c_endsAt) H → va_S noA s.heap H locs → lv_has ls 5 [(0, .ref (f 0)), (1, .int p1), (2, .int p2), (3, .int x2_3)] → W p l e (RMk 1 20) s m args below meth c H locs 0 0 Q (F0 m 2 ls []) := by
    intro K2 kx2 n
    induction n with
    | zero => intro x2_3 h; rw [fX4_isSeen_L2] at h; cases h
    | succ n ih2 =>
      intro x2_3 h H locs ls hP hS hl
      rw [fX4_isSeen_L2] at h
      refine lv_iload_n hx hb dX4_isSeen_2 rfl (lv_at hl 3 rfl) ?_
      refine lv_aload_n hx hb dX4_isSeen_3 rfl (lv_at hl 0 rfl) ?_
      refine va_get (D := (dC, dI)) (ci := 4) (v := .int c_rowMany) (C := RX4) (T := TX4) (N := 28) hx hb hts hiX4 hown hK hP 0 rfl rfl 26 (by decide) hw1 (fun _ h9 => h9) rfl dX4_isSeen_4 ?_
      refine lv_icmp_ge (tgt := 76) hx hb dX4_isSeen_7 (by decide) (fun c7 => ?_) (fun c7 => ?_)
      · have h := itT c7 h
        exact kx2 () h _ _ _ hP hS (lv_sub hl [0] rfl)
      have h := itF c7 h
      refine lv_iload_n hx hb dX4_isSeen_10 rfl (lv_at hl 1 rfl) ?_
      refine lv_iconst (v := (2 : Int32)) hx hb dX4_isSeen_11 (by decide) ?_
      refine jnW (fun (v32 : Int32) => ∀ (H : Heap) (locs : List Loc) (ls : Array Slot), va_P (dC, dI) vwCl (zwM cI cC f c_r c_refused c_tape c_letter c_letterAt c_number c_taped c_at c_statements c_kept c_hasImage c_isKeeping c_cursor c_poled c_barred c_leapsTo c_leapsThen c_lands c_row c_rowMany c_endsAt) H → va_S noA s.heap H locs → lv_has ls 5 [(0, .ref (f 0)), (1, .int p1), (2, .int p2), (3, .int x2_3)] → W p l e (RMk 1 20) s m args below meth c H locs 0 0 Q (F0 m 32 ls [.int v32])) h (fun v32 h H locs ls hP hS hl => ?_) (fun J32 j32 h => ?_)
      · refine lv_istore (lv' := [(4, .int v32), (0, .ref (f 0)), (1, .int p1), (2, .int p2), (3, .int x2_3)]) hx hb dX4_isSeen_32 hl (by decide) rfl (fun ls hl => ?_)
        refine lv_aload_n hx hb dX4_isSeen_34 rfl (lv_at hl 1 rfl) ?_
        refine va_get (D := (dC, dI)) (ci := 4) (v := .ref (f 15)) (C := RX4) (T := TX4) (N := 28) hx hb hts hiX4 hown hK hP 0 rfl rfl 25 (by decide) hw2 (fun _ h9 => h9) rfl dX4_isSeen_35 ?_
        refine lv_iload_n hx hb dX4_isSeen_38 rfl (lv_at hl 4 rfl) ?_
        obtain ⟨hin, h⟩ := ck_some h
        refine va_iald hx hb hK hP 15 0 rfl rfl hin dX4_isSeen_39 ?_
        refine lv_bipush (v := (9 : Int32)) hx hb dX4_isSeen_40 (by decide) ?_
        refine lv_icmp_gt (tgt := 68) hx hb dX4_isSeen_42 (by decide) (fun c42 => ?_) (fun c42 => ?_)
        · have h := itT c42 h
          refine lv_iconst (v := (0 : Int32)) hx hb dX4_isSeen_68 (by decide) ?_
          subst hQ
          exact retRO hx hb hr hlocks rfl hS h dX4_isSeen_69
        have h := itF c42 h
        refine lv_aload_n hx hb dX4_isSeen_45 rfl (lv_at hl 1 rfl) ?_
        refine va_get (D := (dC, dI)) (ci := 4) (v := .ref (f 15)) (C := RX4) (T := TX4) (N := 28) hx hb hts hiX4 hown hK hP 0 rfl rfl 25 (by decide) hw2 (fun _ h9 => h9) rfl dX4_isSeen_46 ?_
        refine lv_iload_n hx hb dX4_isSeen_49 rfl (lv_at hl 4 rfl) ?_
        obtain ⟨hin, h⟩ := ck_some h
        refine va_iald hx hb hK hP 15 0 rfl rfl hin dX4_isSeen_50 ?_
        refine lv_aload_n hx hb dX4_isSeen_51 rfl (lv_at hl 1 rfl) ?_
        refine va_get (D := (dC, dI)) (ci := 4) (v := .ref (f 15)) (C := RX4) (T := TX4) (N := 28) hx hb hts hiX4 hown hK hP 0 rfl rfl 25 (by decide) hw2 (fun _ h9 => h9) rfl dX4_isSeen_52 ?_
        refine lv_iconst (v := (0 : Int32)) hx hb dX4_isSeen_55 (by decide) ?_
        obtain ⟨hin, h⟩ := ck_some h
        refine va_iald hx hb hK hP 15 0 rfl rfl hin dX4_isSeen_56 ?_
        refine lv_iload_n hx hb dX4_isSeen_57 rfl (lv_at hl 3 rfl) ?_
        refine lv_iload hx hb dX4_isSeen_58 (lv_at hl 0 rfl) ?_
        refine lv_imul hx hb dX4_isSeen_60 ?_
        refine lv_iadd hx hb dX4_isSeen_61 ?_
        obtain ⟨q62, e62, h⟩ := bd_some h
        refine g_roS (wc := ([] : va_W)) ⟨hx, hb, hml, hown, hts⟩ hE hK hP hS [] rfl (mX4_round l dC dI cI cC sk  ((c_row ((0 : Int32)).toNatClampNeg) + (p2 * v32)) q62 e62) (va_cwS 1 hts gX4_isSeen_X4_round rfl rfl rfl (by decide +kernel) ⟨Nat.le_of_ble_eq_true rfl, Nat.le_of_ble_eq_true rfl⟩) (As := [.int ((c_row ((0 : Int32)).toNatClampNeg) + (p2 * v32))]) (rest := [.int (c_row (x2_3).toNatClampNeg)]) rfl hl.1 rfl (Nat.le_of_ble_eq_true rfl) dX4_isSeen_62 ⟨Nat.zero_le _, Nat.zero_le _⟩ (fun H locs hP hS => ?_)
        refine lv_icmp_eq (tgt := 70) hx hb dX4_isSeen_65 (by decide) (fun c65 => ?_) (fun c65 => ?_)
        · have h := itT c65 h
          refine lv_iinc (v := (x2_3 + (1 : Int32))) (lv' := [(3, .int (x2_3 + (1 : Int32))), (4, .int v32), (0, .ref (f 0)), (1, .int p1), (2, .int p2)]) hx hb dX4_isSeen_70 hl (k := 4) rfl rfl (by decide) rfl (fun ls hl => ?_)
          refine lv_goto (tgt := 2) hx hb dX4_isSeen_73 (by decide) ?_
          exact ih2 _ h _ _ _ hP hS (lv_sub hl [2, 3, 4, 0] rfl)
        have h := itF c65 h
        refine lv_iconst (v := (0 : Int32)) hx hb dX4_isSeen_68 (by decide) ?_
        subst hQ
        exact retRO hx hb hr hlocks rfl hS h dX4_isSeen_69
      refine lv_icmp_ne (tgt := 19) hx hb dX4_isSeen_12 (by decide) (fun c12 => ?_) (fun c12 => ?_)
      · have h := itF c12 h
        refine lv_iload_n hx hb dX4_isSeen_19 rfl (lv_at hl 1 rfl) ?_
        refine lv_iconst (v := (1 : Int32)) hx hb dX4_isSeen_20 (by decide) ?_
        refine lv_icmp_ne (tgt := 31) hx hb dX4_isSeen_21 (by decide) (fun c21 => ?_) (fun c21 => ?_)
        · have h := itF c21 h
          refine lv_iload_n hx hb dX4_isSeen_31 rfl (lv_at hl 3 rfl) ?_
          exact j32 _ h _ _ _ hP hS (lv_sub hl [0, 1, 2, 3] rfl)
        have h := itT c21 h
        refine lv_iload_n hx hb dX4_isSeen_24 rfl (lv_at hl 3 rfl) ?_
        obtain ⟨q25, e25, h⟩ := bd_some h
        refine g_roS (wc := ([] : va_W)) ⟨hx, hb, hml, hown, hts⟩ hE hK hP hS [] rfl (mX4_turned l dC dI cI cC sk  x2_3 q25 e25) (va_cwS 1 hts gX4_isSeen_X4_turned rfl rfl rfl (by decide +kernel) ⟨Nat.le_of_ble_eq_true rfl, Nat.le_of_ble_eq_true rfl⟩) (As := [.int x2_3]) (rest := []) rfl hl.1 rfl (Nat.le_of_ble_eq_true rfl) dX4_isSeen_25 ⟨Nat.zero_le _, Nat.zero_le _⟩ (fun H locs hP hS => ?_)
        refine lv_goto (tgt := 32) hx hb dX4_isSeen_28 (by decide) ?_
        exact j32 _ h _ _ _ hP hS (lv_sub hl [0, 1, 2, 3] rfl)
      have h := itT c12 h
      refine lv_iconst (v := (0 : Int32)) hx hb dX4_isSeen_15 (by decide) ?_
      refine lv_goto (tgt := 32) hx hb dX4_isSeen_16 (by decide) ?_
      exact j32 _ h _ _ _ hP hS (lv_sub hl [0, 1, 2, 3] rfl)
  refine L2 _ (fun _ h H locs ls hP hS hl => ?_) _ _ h _ _ _ hP hS (lv_sub hl [1, 2, 3, 0] rfl)
  refine lv_aload_n hx hb dX4_isSeen_76 rfl (lv_at hl 0 rfl) ?_
  refine va_get (D := (dC, dI)) (ci := 4) (v := .int c_rowMany) (C := RX4) (T := TX4) (N := 28) hx hb hts hiX4 hown hK hP 0 rfl rfl 26 (by decide) hw1 (fun _ h9 => h9) rfl dX4_isSeen_77 ?_
  refine lv_if_le (tgt := 87) hx hb dX4_isSeen_80 (by decide) (fun c80 => ?_) (fun c80 => ?_)
  · have h := itT c80 h
    refine lv_iconst (v := (0 : Int32)) hx hb dX4_isSeen_87 (by decide) ?_
    subst hQ
    exact retRO hx hb hr hlocks rfl hS h dX4_isSeen_88
  have h := itF c80 h
  refine lv_iconst (v := (1 : Int32)) hx hb dX4_isSeen_83 (by decide) ?_
  refine lv_goto (tgt := 88) hx hb dX4_isSeen_84 (by decide) ?_
  subst hQ
  exact retRO hx hb hr hlocks rfl hS h dX4_isSeen_88
