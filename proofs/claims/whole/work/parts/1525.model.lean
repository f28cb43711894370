theorem dX4_goesOn_0 : decode cX4_goesOn 0 = .ok (.iconst 0, 1) := by decide +kernel
theorem dX4_goesOn_1 : decode cX4_goesOn 1 = .ok (.istore 4, 2) := by decide +kernel
theorem dX4_goesOn_3 : decode cX4_goesOn 3 = .ok (.iconst 0, 1) := by decide +kernel
theorem dX4_goesOn_4 : decode cX4_goesOn 4 = .ok (.istore 5, 2) := by decide +kernel
theorem dX4_goesOn_6 : decode cX4_goesOn 6 = .ok (.iload 5, 2) := by decide +kernel
theorem dX4_goesOn_8 : decode cX4_goesOn 8 = .ok (.bipush 19, 2) := by decide +kernel
theorem dX4_goesOn_10 : decode cX4_goesOn 10 = .ok (.if_icmp .ge 72, 3) := by decide +kernel
theorem dX4_goesOn_13 : decode cX4_goesOn 13 = .ok (.iload_n 1, 1) := by decide +kernel
theorem dX4_goesOn_14 : decode cX4_goesOn 14 = .ok (.iload 5, 2) := by decide +kernel
theorem dX4_goesOn_16 : decode cX4_goesOn 16 = .ok (.ishr, 1) := by decide +kernel
theorem dX4_goesOn_17 : decode cX4_goesOn 17 = .ok (.iconst 1, 1) := by decide +kernel
theorem dX4_goesOn_18 : decode cX4_goesOn 18 = .ok (.iand, 1) := by decide +kernel
theorem dX4_goesOn_19 : decode cX4_goesOn 19 = .ok (.ifCond .ne 6, 3) := by decide +kernel
theorem dX4_goesOn_22 : decode cX4_goesOn 22 = .ok (.goto 54, 3) := by decide +kernel
theorem dX4_goesOn_25 : decode cX4_goesOn 25 = .ok (.iconst 0, 1) := by decide +kernel
theorem dX4_goesOn_26 : decode cX4_goesOn 26 = .ok (.istore 6, 2) := by decide +kernel
theorem dX4_goesOn_28 : decode cX4_goesOn 28 = .ok (.iload 6, 2) := by decide +kernel
theorem dX4_goesOn_30 : decode cX4_goesOn 30 = .ok (.bipush 19, 2) := by decide +kernel
theorem dX4_goesOn_32 : decode cX4_goesOn 32 = .ok (.if_icmp .ge 44, 3) := by decide +kernel
theorem dX4_goesOn_35 : decode cX4_goesOn 35 = .ok (.aload_n 0, 1) := by decide +kernel
theorem dX4_goesOn_36 : decode cX4_goesOn 36 = .ok (.iload 5, 2) := by decide +kernel
theorem dX4_goesOn_38 : decode cX4_goesOn 38 = .ok (.iload 6, 2) := by decide +kernel
theorem dX4_goesOn_40 : decode cX4_goesOn 40 = .ok (.iload_n 2, 1) := by decide +kernel
theorem dX4_goesOn_41 : decode cX4_goesOn 41 = .ok (.iload_n 3, 1) := by decide +kernel
theorem dX4_goesOn_42 : decode cX4_goesOn 42 = .ok (.invokevirtual 163, 3) := by decide +kernel
theorem dX4_goesOn_45 : decode cX4_goesOn 45 = .ok (.ifCond .ne 16, 3) := by decide +kernel
theorem dX4_goesOn_48 : decode cX4_goesOn 48 = .ok (.aload_n 0, 1) := by decide +kernel
theorem dX4_goesOn_49 : decode cX4_goesOn 49 = .ok (.iload 5, 2) := by decide +kernel
theorem dX4_goesOn_51 : decode cX4_goesOn 51 = .ok (.iload 6, 2) := by decide +kernel
theorem dX4_goesOn_53 : decode cX4_goesOn 53 = .ok (.iload_n 2, 1) := by decide +kernel
theorem dX4_goesOn_54 : decode cX4_goesOn 54 = .ok (.iload_n 3, 1) := by decide +kernel
theorem dX4_goesOn_55 : decode cX4_goesOn 55 = .ok (.invokevirtual 167, 3) := by decide +kernel
theorem dX4_goesOn_58 : decode cX4_goesOn 58 = .ok (.ifCond .eq 12, 3) := by decide +kernel
theorem dX4_goesOn_61 : decode cX4_goesOn 61 = .ok (.iload 4, 2) := by decide +kernel
theorem dX4_goesOn_63 : decode cX4_goesOn 63 = .ok (.iconst 1, 1) := by decide +kernel
theorem dX4_goesOn_64 : decode cX4_goesOn 64 = .ok (.iload 6, 2) := by decide +kernel
theorem dX4_goesOn_66 : decode cX4_goesOn 66 = .ok (.ishl, 1) := by decide +kernel
theorem dX4_goesOn_67 : decode cX4_goesOn 67 = .ok (.ior, 1) := by decide +kernel
theorem dX4_goesOn_68 : decode cX4_goesOn 68 = .ok (.istore 4, 2) := by decide +kernel
theorem dX4_goesOn_70 : decode cX4_goesOn 70 = .ok (.iinc 6 1, 3) := by decide +kernel
theorem dX4_goesOn_73 : decode cX4_goesOn 73 = .ok (.goto (-45), 3) := by decide +kernel
theorem dX4_goesOn_76 : decode cX4_goesOn 76 = .ok (.iinc 5 1, 3) := by decide +kernel
theorem dX4_goesOn_79 : decode cX4_goesOn 79 = .ok (.goto (-73), 3) := by decide +kernel
theorem dX4_goesOn_82 : decode cX4_goesOn 82 = .ok (.iload 4, 2) := by decide +kernel
theorem dX4_goesOn_84 : decode cX4_goesOn 84 = .ok (.ireturn, 1) := by decide +kernel
set_option maxRecDepth 20000 in
theorem ggX4_goesOn_X4_mayStay : GoodIn wsX4_goesOn wsX4_mayStay := goodIn_r _ [5, 6, 7, 8, 4, 9, 10, 11, 12, 13, 14, 15, 16, 17, 18, 19, 20, 21, 22, 48, 49, 50, 51, 52, 53, 54, 55, 56, 57, 58, 59, 60, 61, 62, 63, 64, 65, 66, 67, 68, 69, 70, 71, 72, 73, 74, 75] (by decide +kernel) (by decide +kernel)
set_option maxRecDepth 20000 in
theorem gX4_goesOn_X4_mayStay : GoodIn wsX4_goesOn (wsV RX4 163 RX4 yX4_mayStay wsX4_mayStay) := goodIn_app (goodIn_of _ (by decide +kernel)) ggX4_goesOn_X4_mayStay
set_option maxRecDepth 20000 in
theorem ggX4_goesOn_X4_mayLeap : GoodIn wsX4_goesOn wsX4_mayLeap := goodIn_r _ [26, 27, 28, 29, 30, 31, 4, 32, 6, 7, 8, 9, 10, 11, 12, 13, 14, 15, 16, 33, 34, 35, 36, 37, 38, 39, 40, 41, 42, 43, 20, 21, 22, 17, 18, 19, 44, 45, 46, 47, 48, 49, 50, 51, 52, 53, 54, 55, 56, 57, 58, 59, 60, 61, 62, 63, 64, 65, 66, 67, 68, 69, 70, 71, 72, 73, 74, 75] (by decide +kernel) (by decide +kernel)
set_option maxRecDepth 20000 in
theorem gX4_goesOn_X4_mayLeap : GoodIn wsX4_goesOn (wsV RX4 167 RX4 yX4_mayLeap wsX4_mayLeap) := goodIn_app (goodIn_of _ (by decide +kernel)) ggX4_goesOn_X4_mayLeap
set_option maxHeartbeats 4000000 in
set_option maxRecDepth 100000 in
theorem mX4_goesOn (l : Launch) (dC : Nat → ClassId) (dI : Nat → Nat → Nat) (cI cC : ClassId) (sk : (Nat → Nat) × (Nat → Nat)) (f : Nat → Nat) (p1 : Int32) (p2 : Int32) (p3 : Int32) (c_r : RT) (c_refused : AR) (c_tape : AR) (c_letter : AR) (c_letterAt : AR) (c_number : AR) (c_taped : Int32) (c_at : Int32) (c_statements : Int32) (c_kept : AR) (c_hasImage : Int32) (c_isKeeping : Int32) (c_cursor : Int32) (c_poled : Int32) (c_barred : Int32) (c_leapsTo : AR) (c_leapsThen : AR) (c_lands : AR) (c_row : AR) (c_rowMany : Int32) (c_endsAt : Int32) (z : Int32) (h : fX4_goesOn p1 p2 p3 c_r c_poled c_barred = some z) : cRO l yX4_goesOn wsX4_goesOn (RMk 4 92) sk (dC, dI) (tyz cI cC) (zwM cI cC f c_r c_refused c_tape c_letter c_letterAt c_number c_taped c_at c_statements c_kept c_hasImage c_isKeeping c_cursor c_poled c_barred c_leapsTo c_leapsThen c_lands c_row c_rowMany c_endsAt) [.ref (f 0), .int p1, .int p2, .int p3] z := by
  refine ofRO (cc := cX4_goesOn) (maxL := 7) (ret := (some .int)) (own := RX4) (plainFor_of_name (by decide)) rfl rfl (Nat.le_of_ble_eq_true rfl) ?_
  intro p e s m args below meth c hx hb hml hr hts hown hlocks hE hK hP hS ls hl
  generalize hQ : qRO _ _ _ _ = Q
  have hl : lv_has ls 7 [(0, .ref (f 0)), (1, .int p1), (2, .int p2), (3, .int p3)] := hl
  rw [fX4_goesOn] at h
  refine lv_iconst (v := (0 : Int32)) hx hb dX4_goesOn_0 (by decide) ?_
  refine lv_istore (lv' := [(4, .int (0 : Int32)), (0, .ref (f 0)), (1, .int p1), (2, .int p2), (3, .int p3)]) hx hb dX4_goesOn_1 hl (by decide) rfl (fun ls hl => ?_)
  refine lv_iconst (v := (0 : Int32)) hx hb dX4_goesOn_3 (by decide) ?_
  refine lv_istore (lv' := [(5, .int (0 : Int32)), (4, .int (0 : Int32)), (0, .ref (f 0)), (1, .int p1), (2, .int p2), (3, .int p3)]) hx hb dX4_goesOn_4 hl (by decide) rfl (fun ls hl => ?_)
  have L6 : ∀ (K6 : Int32 → Option (Int32)), (∀ (k6_4 : Int32), K6 k6_4 = some z → ∀ (H : Heap) (locs : List Loc) (ls : Array Slot), va_P (dC, dI) vwCl (zwM cI cC f c_r c_refused c_tape c_letter c_letterAt c_number c_taped c_at c_statements c_kept c_hasImage c_isKeeping c_cursor c_poled c_barred c_leapsTo c_leapsThen c_lands c_row c_rowMany c_endsAt) H → va_S noA s.heap H locs → lv_has ls 7 [(4, .int k6_4)] → W p l e (RMk 4 92) s m args below meth c H locs 0 0 Q (F0 m 82 ls [])) → ∀ (n : Nat) (x6_4 : Int32) (x6_5 : Int32), fX4_goesOn_L6 c_barred c_poled c_r p1 p2 p3 K6 n x6_4 x6_5 = some z → ∀ (H : Heap) (locs : List Loc) (ls : Array Slot), va_P (dC, dI) vwCl (zwM cI cC f c_r c_refused c_tape c_letter c_letterAt c_number c_taped c_at c_statements c_kept c_hasImage c_isKeeping c_cursor c_poled c_barred c_leapsTo c_leapsThen c_lands c_row c_rowMany c_endsAt) H → va_S noA s.heap H locs → lv_has ls 7 [(0, .ref (f 0)), (1, .int p1), (2, .int p2), (3, .int p3), (4, .int x6_4), (5, .int x6_5)] → W p l e (RMk 4 92) s m args below meth c H locs 0 0 Q (F0 m 6 ls []) := by
    intro K6 kx6 n
    induction n with
    | zero => intro x6_4 x6_5 h; rw [fX4_goesOn_L6] at h; cases h
    | succ n ih6 =>
      intro x6_4 x6_5 h H locs ls hP hS hl
      rw [fX4_goesOn_L6] at h
      refine lv_iload hx hb dX4_goesOn_6 (lv_at hl 5 rfl) ?_
      refine lv_bipush (v := (19 : Int32)) hx hb dX4_goesOn_8 (by decide) ?_
      refine lv_icmp_ge (tgt := 82) hx hb dX4_goesOn_10 (by decide) (fun c10 => ?_) (fun c10 => ?_)
      · have h := itT c10 h
        exact kx6 _ h _ _ _ hP hS (lv_sub hl [4] rfl)
      have h := itF c10 h
      refine lv_iload_n hx hb dX4_goesOn_13 rfl (lv_at hl 1 rfl) ?_
      refine lv_iload hx hb dX4_goesOn_14 (lv_at hl 5 rfl) ?_
      refine lv_ishr hx hb dX4_goesOn_16 ?_
      refine lv_iconst (v := (1 : Int32)) hx hb dX4_goesOn_17 (by decide) ?_
      refine lv_iand hx hb dX4_goesOn_18 ?_
      refine lv_if_ne (tgt := 25) hx hb dX4_goesOn_19 (by decide) (fun c19 => ?_) (fun c19 => ?_)
      · have h := itF c19 h
        refine lv_iconst (v := (0 : Int32)) hx hb dX4_goesOn_25 (by decide) ?_
        refine lv_istore (lv' := [(6, .int (0 : Int32)), (0, .ref (f 0)), (1, .int p1), (2, .int p2), (3, .int p3), (4, .int x6_4), (5, .int x6_5)]) hx hb dX4_goesOn_26 hl (by decide) rfl (fun ls hl => ?_)
        have L28 : ∀ (K28 : Int32 → Option (Int32)), (∀ (k28_4 : Int32), K28 k28_4 = some z → ∀ (H : Heap) (locs : List Loc) (ls : Array Slot), va_P (dC, dI) vwCl (zwM cI cC f c_r c_refused c_tape c_letter c_letterAt c_number c_taped c_at c_statements c_kept c_hasImage c_isKeeping c_cursor c_poled c_barred c_leapsTo c_leapsThen c_lands c_row c_rowMany c_endsAt) H → va_S noA s.heap H locs → lv_has ls 7 [(0, .ref (f 0)), (1, .int p1), (2, .int p2), (3, .int p3), (4, .int k28_4), (5, .int x6_5)] → W p l e (RMk 4 92) s m args below meth c H locs 0 0 Q (F0 m 76 ls [])) → ∀ (n : Nat) (x28_4 : Int32) (x28_6 : Int32), fX4_goesOn_L28 c_barred c_poled c_r p2 p3 x6_5 K28 n x28_4 x28_6 = some z → ∀ (H : Heap) (locs : List Loc) (ls : Array Slot), va_P (dC, dI) vwCl (zwM cI cC f c_r c_refused c_tape c_letter c_letterAt c_number c_taped c_at c_statements c_kept c_hasImage c_isKeeping c_cursor c_poled c_barred c_leapsTo c_leapsThen c_lands c_row c_rowMany c_endsAt) H → va_S noA s.heap H locs → lv_has ls 7 [(0, .ref (f 0)), (1, .int p1), (2, .int p2), (3, .int p3), (4, .int x28_4), (5, .int x6_5), (6, .int x28_6)] → W p l e (RMk 4 92) s m args below meth c H locs 0 0 Q (F0 m 28 ls []) := by
          intro K28 kx28 n
          induction n with
          | zero => intro x28_4 x28_6 h; rw [fX4_goesOn_L28] at h; cases h
          | succ n ih28 =>
            intro x28_4 x28_6 h H locs ls hP hS hl
            rw [fX4_goesOn_L28] at h
            refine lv_iload hx hb dX4_goesOn_28 (lv_at hl 6 rfl) ?_
            refine lv_bipush (v := (19 : Int32)) hx hb dX4_goesOn_30 (by decide) ?_
            refine lv_icmp_ge (tgt := 76) hx hb dX4_goesOn_32 (by decide) (fun c32 => ?_) (fun c32 => ?_)
            · have h := itT c32 h
              exact kx28 _ h _ _ _ hP hS (lv_sub hl [0, 1, 2, 3, 4, 5] rfl)
            have h := itF c32 h
            refine lv_aload_n hx hb dX4_goesOn_35 rfl (lv_at hl 0 rfl) ?_
            refine lv_iload hx hb dX4_goesOn_36 (lv_at hl 5 rfl) ?_
            refine lv_iload hx hb dX4_goesOn_38 (lv_at hl 6 rfl) ?_
            refine lv_iload_n hx hb dX4_goesOn_40 rfl (lv_at hl 2 rfl) ?_
            refine lv_iload_n hx hb dX4_goesOn_41 rfl (lv_at hl 3 rfl) ?_
            obtain ⟨q42, e42, h⟩ := bd_some h
            refine g_roV (wc := (zwM cI cC f c_r c_refused c_tape c_letter c_letterAt c_number c_taped c_at c_statements c_kept c_hasImage c_isKeeping c_cursor c_poled c_barred c_leapsTo c_leapsThen c_lands c_row c_rowMany c_endsAt)) ⟨hx, hb, hml, hown, hts⟩ hE hK hP hS [0, 1, 2, 3, 4, 5, 6, 7, 8, 9, 10, 11, 12, 13, 14, 15] rfl (mX4_mayStay l dC dI cI cC sk f x6_5 x28_6 p2 p3 c_r c_refused c_tape c_letter c_letterAt c_number c_taped c_at c_statements c_kept c_hasImage c_isKeeping c_cursor c_poled c_barred c_leapsTo c_leapsThen c_lands c_row c_rowMany c_endsAt q42 e42) (cwV 4 hts gX4_goesOn_X4_mayStay rfl rfl rfl (by decide +kernel) ⟨Nat.le_of_ble_eq_true rfl, Nat.le_of_ble_eq_true rfl⟩) (va_recv hK hP (ci := 4) (q0 := 0) rfl rfl) (As := [.int x6_5, .int x28_6, .int p2, .int p3]) (rest := []) rfl hl.1 rfl (Nat.le_of_ble_eq_true rfl) dX4_goesOn_42 ⟨Nat.zero_le _, Nat.zero_le _⟩ (fun H locs hP hS => ?_)
            refine jnW (fun (v61 : Unit) => ∀ (H : Heap) (locs : List Loc) (ls : Array Slot), va_P (dC, dI) vwCl (zwM cI cC f c_r c_refused c_tape c_letter c_letterAt c_number c_taped c_at c_statements c_kept c_hasImage c_isKeeping c_cursor c_poled c_barred c_leapsTo c_leapsThen c_lands c_row c_rowMany c_endsAt) H → va_S noA s.heap H locs → lv_has ls 7 [(0, .ref (f 0)), (1, .int p1), (2, .int p2), (3, .int p3), (4, .int x28_4), (5, .int x6_5), (6, .int x28_6)] → W p l e (RMk 4 92) s m args below meth c H locs 0 0 Q (F0 m 61 ls [])) h (fun v61 h H locs ls hP hS hl => ?_) (fun J61 j61 h => ?_)
            · refine lv_iload hx hb dX4_goesOn_61 (lv_at hl 4 rfl) ?_
              refine lv_iconst (v := (1 : Int32)) hx hb dX4_goesOn_63 (by decide) ?_
              refine lv_iload hx hb dX4_goesOn_64 (lv_at hl 6 rfl) ?_
              refine lv_ishl hx hb dX4_goesOn_66 ?_
              refine lv_ior hx hb dX4_goesOn_67 ?_
              refine lv_istore (lv' := [(4, .int (x28_4 ||| ((1 : Int32) <<< (x28_6 &&& 31)))), (0, .ref (f 0)), (1, .int p1), (2, .int p2), (3, .int p3), (5, .int x6_5), (6, .int x28_6)]) hx hb dX4_goesOn_68 hl (by decide) rfl (fun ls hl => ?_)
              refine lv_iinc (v := (x28_6 + (1 : Int32))) (lv' := [(6, .int (x28_6 + (1 : Int32))), (4, .int (x28_4 ||| ((1 : Int32) <<< (x28_6 &&& 31)))), (0, .ref (f 0)), (1, .int p1), (2, .int p2), (3, .int p3), (5, .int x6_5)]) hx hb dX4_goesOn_70 hl (k := 6) rfl rfl (by decide) rfl (fun ls hl => ?_)
              refine lv_goto (tgt := 28) hx hb dX4_goesOn_73 (by decide) ?_
              exact ih28 _ _ h _ _ _ hP hS (lv_sub hl [2, 3, 4, 5, 1, 6, 0] rfl)
            refine lv_if_ne (tgt := 61) hx hb dX4_goesOn_45 (by decide) (fun c45 => ?_) (fun c45 => ?_)
            · have h := itF c45 h
              exact j61 _ h _ _ _ hP hS (lv_sub hl [0, 1, 2, 3, 4, 5, 6] rfl)
            have h := itT c45 h
            refine lv_aload_n hx hb dX4_goesOn_48 rfl (lv_at hl 0 rfl) ?_
            refine lv_iload hx hb dX4_goesOn_49 (lv_at hl 5 rfl) ?_
            refine lv_iload hx hb dX4_goesOn_51 (lv_at hl 6 rfl) ?_
            refine lv_iload_n hx hb dX4_goesOn_53 rfl (lv_at hl 2 rfl) ?_
            refine lv_iload_n hx hb dX4_goesOn_54 rfl (lv_at hl 3 rfl) ?_
            obtain ⟨q55, e55, h⟩ := bd_some h
            refine g_roV (wc := (zwM cI cC f c_r c_refused c_tape c_letter c_letterAt c_number c_taped c_at c_statements c_kept c_hasImage c_isKeeping c_cursor c_poled c_barred c_leapsTo c_leapsThen c_lands c_row c_rowMany c_endsAt)) ⟨hx, hb, hml, hown, hts⟩ hE hK hP hS [0, 1, 2, 3, 4, 5, 6, 7, 8, 9, 10, 11, 12, 13, 14, 15] rfl (mX4_mayLeap l dC dI cI cC sk f x6_5 x28_6 p2 p3 c_r c_refused c_tape c_letter c_letterAt c_number c_taped c_at c_statements c_kept c_hasImage c_isKeeping c_cursor c_poled c_barred c_leapsTo c_leapsThen c_lands c_row c_rowMany c_endsAt q55 e55) (cwV 4 hts gX4_goesOn_X4_mayLeap rfl rfl rfl (by decide +kernel) ⟨Nat.le_of_ble_eq_true rfl, Nat.le_of_ble_eq_true rfl⟩) (va_recv hK hP (ci := 4) (q0 := 0) rfl rfl) (As := [.int x6_5, .int x28_6, .int p2, .int p3]) (rest := []) rfl hl.1 rfl (Nat.le_of_ble_eq_true rfl) dX4_goesOn_55 ⟨Nat.zero_le _, Nat.zero_le _⟩ (fun H locs hP hS => ?_)
            refine lv_if_eq (tgt := 70) hx hb dX4_goesOn_58 (by decide) (fun c58 => ?_) (fun c58 => ?_)
            · have h := itT c58 h
              refine lv_iinc (v := (x28_6 + (1 : Int32))) (lv' := [(6, .int (x28_6 + (1 : Int32))), (0, .ref (f 0)), (1, .int p1), (2, .int p2), (3, .int p3), (4, .int x28_4), (5, .int x6_5)]) hx hb dX4_goesOn_70 hl (k := 6) rfl rfl (by decide) rfl (fun ls hl => ?_)
              refine lv_goto (tgt := 28) hx hb dX4_goesOn_73 (by decide) ?_
              exact ih28 _ _ h _ _ _ hP hS (lv_sub hl [1, 2, 3, 4, 5, 6, 0] rfl)
            have h := itF c58 h
            exact j61 _ h _ _ _ hP hS (lv_sub hl [0, 1, 2, 3, 4, 5, 6] rfl)
        refine L28 _ (fun k28_4 h H locs ls hP hS hl => ?_) _ _ _ h _ _ _ hP hS (lv_sub hl [1, 2, 3, 4, 5, 6, 0] rfl)
        refine lv_iinc (v := (x6_5 + (1 : Int32))) (lv' := [(5, .int (x6_5 + (1 : Int32))), (0, .ref (f 0)), (1, .int p1), (2, .int p2), (3, .int p3), (4, .int k28_4)]) hx hb dX4_goesOn_76 hl (k := 5) rfl rfl (by decide) rfl (fun ls hl => ?_)
        refine lv_goto (tgt := 6) hx hb dX4_goesOn_79 (by decide) ?_
        exact ih6 _ _ h _ _ _ hP hS (lv_sub hl [1, 2, 3, 4, 5, 0] rfl)
      have h := itT c19 h
      refine lv_goto (tgt := 76) hx hb dX4_goesOn_22 (by decide) ?_
      refine lv_iinc (v := (x6_5 + (1 : Int32))) (lv' := [(5, .int (x6_5 + (1 : Int32))), (0, .ref (f 0)), (1, .int p1), (2, .int p2), (3, .int p3), (4, .int x6_4)]) hx hb dX4_goesOn_76 hl (k := 5) rfl rfl (by decide) rfl (fun ls hl => ?_)
      refine lv_goto (tgt := 6) hx hb dX4_goesOn_79 (by decide) ?_
      exact ih6 _ _ h _ _ _ hP hS (lv_sub hl [1, 2, 3, 4, 5, 0] rfl)
  refine L6 _ (fun k6_4 h H locs ls hP hS hl => ?_) _ _ _ h _ _ _ hP hS (lv_sub hl [2, 3, 4, 5, 1, 0] rfl)
  refine lv_iload hx hb dX4_goesOn_82 (lv_at hl 0 rfl) ?_
  subst hQ
  exact retRO hx hb hr hlocks rfl hS h dX4_goesOn_84
