theorem dX4_fitting_0 : decode cX4_fitting 0 = .ok (.iload_n 1, 1) := by decide +kernel
theorem dX4_fitting_1 : decode cX4_fitting 1 = .ok (.iconst 0, 1) := by decide +kernel
theorem dX4_fitting_2 : decode cX4_fitting 2 = .ok (.iconst 1, 1) := by decide +kernel
theorem dX4_fitting_3 : decode cX4_fitting 3 = .ok (.invokestatic 62, 3) := by decide +kernel
theorem dX4_fitting_6 : decode cX4_fitting 6 = .ok (.ifCond .ne 10, 3) := by decide +kernel
theorem dX4_fitting_9 : decode cX4_fitting 9 = .ok (.aload_n 0, 1) := by decide +kernel
theorem dX4_fitting_10 : decode cX4_fitting 10 = .ok (.bipush (-2), 2) := by decide +kernel
theorem dX4_fitting_12 : decode cX4_fitting 12 = .ok (.invokevirtual 73, 3) := by decide +kernel
theorem dX4_fitting_15 : decode cX4_fitting 15 = .ok (.ireturn, 1) := by decide +kernel
theorem dX4_fitting_16 : decode cX4_fitting 16 = .ok (.iconst 0, 1) := by decide +kernel
theorem dX4_fitting_17 : decode cX4_fitting 17 = .ok (.istore_n 2, 1) := by decide +kernel
theorem dX4_fitting_18 : decode cX4_fitting 18 = .ok (.bipush (-9), 2) := by decide +kernel
theorem dX4_fitting_20 : decode cX4_fitting 20 = .ok (.istore_n 3, 1) := by decide +kernel
theorem dX4_fitting_21 : decode cX4_fitting 21 = .ok (.iconst 0, 1) := by decide +kernel
theorem dX4_fitting_22 : decode cX4_fitting 22 = .ok (.istore 4, 2) := by decide +kernel
theorem dX4_fitting_24 : decode cX4_fitting 24 = .ok (.iload 4, 2) := by decide +kernel
theorem dX4_fitting_26 : decode cX4_fitting 26 = .ok (.bipush 15, 2) := by decide +kernel
theorem dX4_fitting_28 : decode cX4_fitting 28 = .ok (.if_icmp .ge 53, 3) := by decide +kernel
theorem dX4_fitting_31 : decode cX4_fitting 31 = .ok (.aload_n 0, 1) := by decide +kernel
theorem dX4_fitting_32 : decode cX4_fitting 32 = .ok (.iload 4, 2) := by decide +kernel
theorem dX4_fitting_34 : decode cX4_fitting 34 = .ok (.iconst 5, 1) := by decide +kernel
theorem dX4_fitting_35 : decode cX4_fitting 35 = .ok (.idiv, 1) := by decide +kernel
theorem dX4_fitting_36 : decode cX4_fitting 36 = .ok (.iload 4, 2) := by decide +kernel
theorem dX4_fitting_38 : decode cX4_fitting 38 = .ok (.iconst 5, 1) := by decide +kernel
theorem dX4_fitting_39 : decode cX4_fitting 39 = .ok (.irem, 1) := by decide +kernel
theorem dX4_fitting_40 : decode cX4_fitting 40 = .ok (.iconst 2, 1) := by decide +kernel
theorem dX4_fitting_41 : decode cX4_fitting 41 = .ok (.isub, 1) := by decide +kernel
theorem dX4_fitting_42 : decode cX4_fitting 42 = .ok (.invokevirtual 215, 3) := by decide +kernel
theorem dX4_fitting_45 : decode cX4_fitting 45 = .ok (.ifCond .ne 6, 3) := by decide +kernel
theorem dX4_fitting_48 : decode cX4_fitting 48 = .ok (.goto 27, 3) := by decide +kernel
theorem dX4_fitting_51 : decode cX4_fitting 51 = .ok (.iload_n 2, 1) := by decide +kernel
theorem dX4_fitting_52 : decode cX4_fitting 52 = .ok (.ifCond .ne 18, 3) := by decide +kernel
theorem dX4_fitting_55 : decode cX4_fitting 55 = .ok (.bipush 10, 2) := by decide +kernel
theorem dX4_fitting_57 : decode cX4_fitting 57 = .ok (.iload 4, 2) := by decide +kernel
theorem dX4_fitting_59 : decode cX4_fitting 59 = .ok (.iconst 5, 1) := by decide +kernel
theorem dX4_fitting_60 : decode cX4_fitting 60 = .ok (.idiv, 1) := by decide +kernel
theorem dX4_fitting_61 : decode cX4_fitting 61 = .ok (.imul, 1) := by decide +kernel
theorem dX4_fitting_62 : decode cX4_fitting 62 = .ok (.iload 4, 2) := by decide +kernel
theorem dX4_fitting_64 : decode cX4_fitting 64 = .ok (.iconst 5, 1) := by decide +kernel
theorem dX4_fitting_65 : decode cX4_fitting 65 = .ok (.irem, 1) := by decide +kernel
theorem dX4_fitting_66 : decode cX4_fitting 66 = .ok (.iadd, 1) := by decide +kernel
theorem dX4_fitting_67 : decode cX4_fitting 67 = .ok (.goto 4, 3) := by decide +kernel
theorem dX4_fitting_70 : decode cX4_fitting 70 = .ok (.iload_n 3, 1) := by decide +kernel
theorem dX4_fitting_71 : decode cX4_fitting 71 = .ok (.istore_n 3, 1) := by decide +kernel
theorem dX4_fitting_72 : decode cX4_fitting 72 = .ok (.iinc 2 1, 3) := by decide +kernel
theorem dX4_fitting_75 : decode cX4_fitting 75 = .ok (.iinc 4 1, 3) := by decide +kernel
theorem dX4_fitting_78 : decode cX4_fitting 78 = .ok (.goto (-54), 3) := by decide +kernel
theorem dX4_fitting_81 : decode cX4_fitting 81 = .ok (.iload_n 1, 1) := by decide +kernel
theorem dX4_fitting_82 : decode cX4_fitting 82 = .ok (.ifCond .ne 7, 3) := by decide +kernel
theorem dX4_fitting_85 : decode cX4_fitting 85 = .ok (.iload_n 2, 1) := by decide +kernel
theorem dX4_fitting_86 : decode cX4_fitting 86 = .ok (.goto 4, 3) := by decide +kernel
theorem dX4_fitting_89 : decode cX4_fitting 89 = .ok (.iload_n 3, 1) := by decide +kernel
theorem dX4_fitting_90 : decode cX4_fitting 90 = .ok (.ireturn, 1) := by decide +kernel
set_option maxRecDepth 20000 in
theorem ggX4_fitting_X4_isIn : GoodIn wsX4_fitting wsX4_isIn := goodIn_r _ [4] (by decide +kernel) (by decide +kernel)
set_option maxRecDepth 20000 in
theorem gX4_fitting_X4_isIn : GoodIn wsX4_fitting (va_wsS RX4 62 yX4_isIn wsX4_isIn) := goodIn_app (goodIn_of _ (by decide +kernel)) ggX4_fitting_X4_isIn
set_option maxRecDepth 20000 in
theorem ggX4_fitting_X4_no : GoodIn wsX4_fitting wsX4_no := goodIn_r _ [8, 9, 22, 23, 24, 25, 26, 27, 28, 29, 30, 31, 32, 33, 34, 35, 36, 37, 38, 39, 40, 41, 42, 43, 44, 45, 46, 47, 48, 49] (by decide +kernel) (by decide +kernel)
set_option maxRecDepth 20000 in
theorem gX4_fitting_X4_no : GoodIn wsX4_fitting (wsV RX4 73 RX4 yX4_no wsX4_no) := goodIn_app (goodIn_of _ (by decide +kernel)) ggX4_fitting_X4_no
set_option maxRecDepth 20000 in
theorem ggX4_fitting_X4_isSeen : GoodIn wsX4_fitting wsX4_isSeen := goodIn_r _ [13, 14, 15, 16, 17, 3, 18, 19, 20, 21, 22, 23, 24, 25, 26, 27, 28, 29, 30, 31, 32, 33, 34, 35, 36, 37, 38, 39, 40, 41, 42, 43, 44, 45, 46, 47, 48, 49] (by decide +kernel) (by decide +kernel)
set_option maxRecDepth 20000 in
theorem gX4_fitting_X4_isSeen : GoodIn wsX4_fitting (wsV RX4 215 RX4 yX4_isSeen wsX4_isSeen) := goodIn_app (goodIn_of _ (by decide +kernel)) ggX4_fitting_X4_isSeen
set_option maxHeartbeats 4000000 in
set_option maxRecDepth 100000 in
theorem mX4_fitting (l : Launch) (dC : Nat → ClassId) (dI : Nat → Nat → Nat) (cI cC : ClassId) (sk : (Nat → Nat) × (Nat → Nat)) (f : Nat → Nat) (sz : Nat) (p1 : Int32) (c_r : RT) (c_refused : AR) (c_tape : AR) (c_letter : AR) (c_letterAt : AR) (c_number : AR) (c_taped : Int32) (c_at : Int32) (c_statements : Int32) (c_kept : AR) (c_hasImage : Int32) (c_isKeeping : Int32) (c_cursor : Int32) (c_poled : Int32) (c_barred : Int32) (c_leapsTo : AR) (c_leapsThen : AR) (c_lands : AR) (c_row : AR) (c_rowMany : Int32) (c_endsAt : Int32) (z : Int32 × AR) (h : fX4_fitting p1 c_refused c_row c_rowMany = some z) : cRW l yX4_fitting wsX4_fitting (RMk 2 44) sk (dC, dI) (tyz cI cC) sz (zwM cI cC f c_r c_refused c_tape c_letter c_letterAt c_number c_taped c_at c_statements c_kept c_hasImage c_isKeeping c_cursor c_poled c_barred c_leapsTo c_leapsThen c_lands c_row c_rowMany c_endsAt) (zwM cI cC f c_r z.2 c_tape c_letter c_letterAt c_number c_taped c_at c_statements c_kept c_hasImage c_isKeeping c_cursor c_poled c_barred c_leapsTo c_leapsThen c_lands c_row c_rowMany c_endsAt) [.ref (f 0), .int p1] z.1 := by
  refine ofRW (cc := cX4_fitting) (maxL := 5) (ret := (some .int)) (own := RX4) (plainFor_of_name (by decide)) rfl rfl (Nat.le_of_ble_eq_true rfl) ?_
  intro p e s m args below meth c A hA hx hb hml hr hts hown hlocks hE hK hP hD hS ls hl
  generalize hQ : qRW _ _ _ _ _ _ _ = Q
  have hl : lv_has ls 5 [(0, .ref (f 0)), (1, .int p1)] := hl
  rw [fX4_fitting] at h
  refine lv_iload_n hx hb dX4_fitting_0 rfl (lv_at hl 1 rfl) ?_
  refine lv_iconst (v := (0 : Int32)) hx hb dX4_fitting_1 (by decide) ?_
  refine lv_iconst (v := (1 : Int32)) hx hb dX4_fitting_2 (by decide) ?_
  obtain ⟨q3, e3, h⟩ := bd_some h
  refine g_roS (wc := ([] : va_W)) ⟨hx, hb, hml, hown, hts⟩ hE hK hP hS [] rfl (mX4_isIn l dC dI cI cC sk  p1 (0 : Int32) (1 : Int32) q3 e3) (va_cwS 3 hts gX4_fitting_X4_isIn rfl rfl rfl (by decide +kernel) ⟨Nat.le_of_ble_eq_true rfl, Nat.le_of_ble_eq_true rfl⟩) (As := [.int p1, .int (0 : Int32), .int (1 : Int32)]) (rest := []) rfl hl.1 rfl (Nat.le_of_ble_eq_true rfl) dX4_fitting_3 ⟨Nat.zero_le _, Nat.zero_le _⟩ (fun H locs hP hS => ?_)
  refine lv_if_ne (tgt := 16) hx hb dX4_fitting_6 (by decide) (fun c6 => ?_) (fun c6 => ?_)
  · have h := itF c6 h
    refine lv_iconst (v := (0 : Int32)) hx hb dX4_fitting_16 (by decide) ?_
    refine lv_istore_n (lv' := [(2, .int (0 : Int32)), (0, .ref (f 0)), (1, .int p1)]) hx hb dX4_fitting_17 rfl hl (by decide) rfl (fun ls hl => ?_)
    refine lv_bipush (v := (-9 : Int32)) hx hb dX4_fitting_18 (by decide) ?_
    refine lv_istore_n (lv' := [(3, .int (-9 : Int32)), (2, .int (0 : Int32)), (0, .ref (f 0)), (1, .int p1)]) hx hb dX4_fitting_20 rfl hl (by decide) rfl (fun ls hl => ?_)
    refine lv_iconst (v := (0 : Int32)) hx hb dX4_fitting_21 (by decide) ?_
    refine lv_istore (lv' := [(4, .int (0 : Int32)), (3, .int (-9 : Int32)), (2, .int (0 : Int32)), (0, .ref (f 0)), (1, .int p1)]) hx hb dX4_fitting_22 hl (by decide) rfl (fun ls hl => ?_)
    have L24 : ∀ (K24 : Int32 → Int32 → Option (Int32 × AR)), (∀ (k24_2 : Int32) (k24_3 : Int32), K24 k24_2 k24_3 = some z → ∀ (H : Heap) (locs : List Loc) (ls : Array Slot), va_P (dC, dI) vwCl (zwM cI cC f c_r c_refused c_tape c_letter c_letterAt c_number c_taped c_at c_statements c_kept c_hasImage c_isKeeping c_cursor c_poled c_barred c_leapsTo c_leapsThen c_lands c_row c_rowMany c_endsAt) H → va_D A (zwM cI cC f c_r c_refused c_tape c_letter c_letterAt c_number c_taped c_at c_statements c_kept c_hasImage c_isKeeping c_cursor c_poled c_barred c_leapsTo c_leapsThen c_lands c_row c_rowMany c_endsAt) → va_S A s.heap H locs → lv_has ls 5 [(1, .int p1), (2, .int k24_2), (3, .int k24_3)] → W p l e (RMk 2 44) s m args below meth c H locs 0 0 Q (F0 m 81 ls [])) → ∀ (n : Nat) (x24_2 : Int32) (x24_3 : Int32) (x24_4 : Int32), fX4_fitting_L24 c_row c_rowMany K24 n x24_2 x24_3 x24_4 = some z → ∀ (H : Heap) (locs : List Loc) (ls : Array Slot), va_P (dC, dI) vwCl (zwM cI cC f c_r c_refused c_tape c_letter c_letterAt c_number c_taped c_at c_statements c_kept c_hasImage c_isKeeping c_cursor c_poled c_barred c_leapsTo c_leapsThen c_lands c_row c_rowMany c_endsAt) H → va_D A (zwM cI cC f c_r c_refused c_tape c_letter c_letterAt c_number c_taped c_at c_statements c_kept c_hasImage c_isKeeping c_cursor c_poled c_barred c_leapsTo c_leapsThen c_lands c_row c_rowMany c_endsAt) → va_S A s.heap H locs → lv_has ls 5 [(0, .ref (f 0)), (1, .int p1), (2, .int x24_2), (3, .int x24_3), (4, .int x24_4)] → W p l e (RMk 2 44) s m args below meth c H locs 0 0 Q (F0 m 24 ls []) := by
      intro K24 kx24 n
      induction n with
      | zero => intro x24_2 x24_3 x24_4 h; rw [fX4_fitting_L24] at h; cases h
      | succ n ih24 =>
        intro x24_2 x24_3 x24_4 h H locs ls hP hD hS hl
        rw [fX4_fitting_L24] at h
        refine lv_iload hx hb dX4_fitting_24 (lv_at hl 4 rfl) ?_
        refine lv_bipush (v := (15 : Int32)) hx hb dX4_fitting_26 (by decide) ?_
        refine lv_icmp_ge (tgt := 81) hx hb dX4_fitting_28 (by decide) (fun c28 => ?_) (fun c28 => ?_)
        · have h := itT c28 h
          exact kx24 _ _ h _ _ _ hP hD hS (lv_sub hl [1, 2, 3] rfl)
        have h := itF c28 h
        refine lv_aload_n hx hb dX4_fitting_31 rfl (lv_at hl 0 rfl) ?_
        refine lv_iload hx hb dX4_fitting_32 (lv_at hl 4 rfl) ?_
        refine lv_iconst (v := (5 : Int32)) hx hb dX4_fitting_34 (by decide) ?_
        refine lv_idiv hx hb dX4_fitting_35 (by decide) ?_
        refine lv_iload hx hb dX4_fitting_36 (lv_at hl 4 rfl) ?_
        refine lv_iconst (v := (5 : Int32)) hx hb dX4_fitting_38 (by decide) ?_
        refine lv_irem hx hb dX4_fitting_39 (by decide) ?_
        refine lv_iconst (v := (2 : Int32)) hx hb dX4_fitting_40 (by decide) ?_
        refine lv_isub hx hb dX4_fitting_41 ?_
        obtain ⟨q42, e42, h⟩ := bd_some h
        refine g_roV (wc := (zwM cI cC f c_r c_refused c_tape c_letter c_letterAt c_number c_taped c_at c_statements c_kept c_hasImage c_isKeeping c_cursor c_poled c_barred c_leapsTo c_leapsThen c_lands c_row c_rowMany c_endsAt)) ⟨hx, hb, hml, hown, hts⟩ hE hK hP hS [0, 1, 2, 3, 4, 5, 6, 7, 8, 9, 10, 11, 12, 13, 14, 15] rfl (mX4_isSeen l dC dI cI cC sk f (x24_4 / (5 : Int32)) ((x24_4 - x24_4 / (5 : Int32) * (5 : Int32)) - (2 : Int32)) c_r c_refused c_tape c_letter c_letterAt c_number c_taped c_at c_statements c_kept c_hasImage c_isKeeping c_cursor c_poled c_barred c_leapsTo c_leapsThen c_lands c_row c_rowMany c_endsAt q42 e42) (cwV 2 hts gX4_fitting_X4_isSeen rfl rfl rfl (by decide +kernel) ⟨Nat.le_of_ble_eq_true rfl, Nat.le_of_ble_eq_true rfl⟩) (va_recv hK hP (ci := 4) (q0 := 0) rfl rfl) (As := [.int (x24_4 / (5 : Int32)), .int ((x24_4 - x24_4 / (5 : Int32) * (5 : Int32)) - (2 : Int32))]) (rest := []) rfl hl.1 rfl (Nat.le_of_ble_eq_true rfl) dX4_fitting_42 ⟨Nat.zero_le _, Nat.zero_le _⟩ (fun H locs hP hS => ?_)
        refine lv_if_ne (tgt := 51) hx hb dX4_fitting_45 (by decide) (fun c45 => ?_) (fun c45 => ?_)
        · have h := itF c45 h
          refine lv_iload_n hx hb dX4_fitting_51 rfl (lv_at hl 2 rfl) ?_
          refine lv_if_ne (tgt := 70) hx hb dX4_fitting_52 (by decide) (fun c52 => ?_) (fun c52 => ?_)
          · have h := itF c52 h
            refine lv_iload_n hx hb dX4_fitting_70 rfl (lv_at hl 3 rfl) ?_
            refine lv_istore_n (lv' := [(3, .int x24_3), (0, .ref (f 0)), (1, .int p1), (2, .int x24_2), (4, .int x24_4)]) hx hb dX4_fitting_71 rfl hl (by decide) rfl (fun ls hl => ?_)
            refine lv_iinc (v := (x24_2 + (1 : Int32))) (lv' := [(2, .int (x24_2 + (1 : Int32))), (3, .int x24_3), (0, .ref (f 0)), (1, .int p1), (4, .int x24_4)]) hx hb dX4_fitting_72 hl (k := 3) rfl rfl (by decide) rfl (fun ls hl => ?_)
            refine lv_iinc (v := (x24_4 + (1 : Int32))) (lv' := [(4, .int (x24_4 + (1 : Int32))), (2, .int (x24_2 + (1 : Int32))), (3, .int x24_3), (0, .ref (f 0)), (1, .int p1)]) hx hb dX4_fitting_75 hl (k := 4) rfl rfl (by decide) rfl (fun ls hl => ?_)
            refine lv_goto (tgt := 24) hx hb dX4_fitting_78 (by decide) ?_
            exact ih24 _ _ _ h _ _ _ hP hD hS (lv_sub hl [3, 4, 1, 2, 0] rfl)
          have h := itT c52 h
          refine lv_bipush (v := (10 : Int32)) hx hb dX4_fitting_55 (by decide) ?_
          refine lv_iload hx hb dX4_fitting_57 (lv_at hl 4 rfl) ?_
          refine lv_iconst (v := (5 : Int32)) hx hb dX4_fitting_59 (by decide) ?_
          refine lv_idiv hx hb dX4_fitting_60 (by decide) ?_
          refine lv_imul hx hb dX4_fitting_61 ?_
          refine lv_iload hx hb dX4_fitting_62 (lv_at hl 4 rfl) ?_
          refine lv_iconst (v := (5 : Int32)) hx hb dX4_fitting_64 (by decide) ?_
          refine lv_irem hx hb dX4_fitting_65 (by decide) ?_
          refine lv_iadd hx hb dX4_fitting_66 ?_
          refine lv_goto (tgt := 71) hx hb dX4_fitting_67 (by decide) ?_
          refine lv_istore_n (lv' := [(3, .int (((10 : Int32) * (x24_4 / (5 : Int32))) + (x24_4 - x24_4 / (5 : Int32) * (5 : Int32)))), (0, .ref (f 0)), (1, .int p1), (2, .int x24_2), (4, .int x24_4)]) hx hb dX4_fitting_71 rfl hl (by decide) rfl (fun ls hl => ?_)
          refine lv_iinc (v := (x24_2 + (1 : Int32))) (lv' := [(2, .int (x24_2 + (1 : Int32))), (3, .int (((10 : Int32) * (x24_4 / (5 : Int32))) + (x24_4 - x24_4 / (5 : Int32) * (5 : Int32)))), (0, .ref (f 0)), (1, .int p1), (4, .int x24_4)]) hx hb dX4_fitting_72 hl (k := 3) rfl rfl (by decide) rfl (fun ls hl => ?_)
          refine lv_iinc (v := (x24_4 + (1 : Int32))) (lv' := [(4, .int (x24_4 + (1 : Int32))), (2, .int (x24_2 + (1 : Int32))), (3, .int (((10 : Int32) * (x24_4 / (5 : Int32))) + (x24_4 - x24_4 / (5 : Int32) * (5 : Int32)))), (0, .ref (f 0)), (1, .int p1)]) hx hb dX4_fitting_75 hl (k := 4) rfl rfl (by decide) rfl (fun ls hl => ?_)
          refine lv_goto (tgt := 24) hx hb dX4_fitting_78 (by decide) ?_
          exact ih24 _ _ _ h _ _ _ hP hD hS (lv_sub hl [3, 4, 1, 2, 0] rfl)
        have h := itT c45 h
        refine lv_goto (tgt := 75) hx hb dX4_fitting_48 (by decide) ?_
        refine lv_iinc (v := (x24_4 + (1 : Int32))) (lv' := [(4, .int (x24_4 + (1 : Int32))), (0, .ref (f 0)), (1, .int p1), (2, .int x24_2), (3, .int x24_3)]) hx hb dX4_fitting_75 hl (k := 4) rfl rfl (by decide) rfl (fun ls hl => ?_)
        refine lv_goto (tgt := 24) hx hb dX4_fitting_78 (by decide) ?_
        exact ih24 _ _ _ h _ _ _ hP hD hS (lv_sub hl [1, 2, 3, 4, 0] rfl)
    refine L24 _ (fun k24_2 k24_3 h H locs ls hP hD hS hl => ?_) _ _ _ _ h _ _ _ hP hD hS (lv_sub hl [3, 4, 2, 1, 0] rfl)
    refine lv_iload_n hx hb dX4_fitting_81 rfl (lv_at hl 0 rfl) ?_
    refine lv_if_ne (tgt := 89) hx hb dX4_fitting_82 (by decide) (fun c82 => ?_) (fun c82 => ?_)
    · have h := itF c82 h
      refine lv_iload_n hx hb dX4_fitting_89 rfl (lv_at hl 2 rfl) ?_
      subst hQ
      exact retRW (zz := ((k24_3, c_refused) : Int32 × AR)) (fun z => z.1) (fun z => (zwM cI cC f c_r z.2 c_tape c_letter c_letterAt c_number c_taped c_at c_statements c_kept c_hasImage c_isKeeping c_cursor c_poled c_barred c_leapsTo c_leapsThen c_lands c_row c_rowMany c_endsAt)) hx hb hr hlocks rfl hS h rfl hP dX4_fitting_90
    have h := itT c82 h
    refine lv_iload_n hx hb dX4_fitting_85 rfl (lv_at hl 1 rfl) ?_
    refine lv_goto (tgt := 90) hx hb dX4_fitting_86 (by decide) ?_
    subst hQ
    exact retRW (zz := ((k24_2, c_refused) : Int32 × AR)) (fun z => z.1) (fun z => (zwM cI cC f c_r z.2 c_tape c_letter c_letterAt c_number c_taped c_at c_statements c_kept c_hasImage c_isKeeping c_cursor c_poled c_barred c_leapsTo c_leapsThen c_lands c_row c_rowMany c_endsAt)) hx hb hr hlocks rfl hS h rfl hP dX4_fitting_90
  have h := itT c6 h
  refine lv_aload_n hx hb dX4_fitting_9 rfl (lv_at hl 0 rfl) ?_
  refine lv_bipush (v := (-2 : Int32)) hx hb dX4_fitting_10 (by decide) ?_
  obtain ⟨q12, e12, h⟩ := bd_some h
  refine g_rwA (wc := (zwM cI cC f c_r c_refused c_tape c_letter c_letterAt c_number c_taped c_at c_statements c_kept c_hasImage c_isKeeping c_cursor c_poled c_barred c_leapsTo c_leapsThen c_lands c_row c_rowMany c_endsAt)) (wc' := (zwM cI cC f c_r q12.2 c_tape c_letter c_letterAt c_number c_taped c_at c_statements c_kept c_hasImage c_isKeeping c_cursor c_poled c_barred c_leapsTo c_leapsThen c_lands c_row c_rowMany c_endsAt)) ⟨hx, hb, hml, hown, hts⟩ hE hK hA hP hD hS rfl (mX4_no l dC dI cI cC sk f H.size (-2 : Int32) c_r c_refused c_tape c_letter c_letterAt c_number c_taped c_at c_statements c_kept c_hasImage c_isKeeping c_cursor c_poled c_barred c_leapsTo c_leapsThen c_lands c_row c_rowMany c_endsAt q12 e12) (cwV 1 hts gX4_fitting_X4_no rfl rfl rfl (by decide +kernel) ⟨Nat.le_of_ble_eq_true rfl, Nat.le_of_ble_eq_true rfl⟩) (va_recv hK hP (ci := 4) (q0 := 0) rfl rfl) (As := [.int (-2 : Int32)]) (rest := []) rfl hl.1 rfl (Nat.le_of_ble_eq_true rfl) dX4_fitting_12 ⟨Nat.zero_le _, Nat.zero_le _⟩ (fun H locs hP hD hS => ?_)
  have hP : va_P (dC, dI) vwCl (zwM cI cC f c_r q12.2 c_tape c_letter c_letterAt c_number c_taped c_at c_statements c_kept c_hasImage c_isKeeping c_cursor c_poled c_barred c_leapsTo c_leapsThen c_lands c_row c_rowMany c_endsAt) H := hP
  have hD : va_D A (zwM cI cC f c_r q12.2 c_tape c_letter c_letterAt c_number c_taped c_at c_statements c_kept c_hasImage c_isKeeping c_cursor c_poled c_barred c_leapsTo c_leapsThen c_lands c_row c_rowMany c_endsAt) := hD
  subst hQ
  exact retRW (zz := ((q12.1, q12.2) : Int32 × AR)) (fun z => z.1) (fun z => (zwM cI cC f c_r z.2 c_tape c_letter c_letterAt c_number c_taped c_at c_statements c_kept c_hasImage c_isKeeping c_cursor c_poled c_barred c_leapsTo c_leapsThen c_lands c_row c_rowMany c_endsAt)) hx hb hr hlocks rfl hS h rfl hP dX4_fitting_15
