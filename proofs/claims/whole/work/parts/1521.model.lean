theorem dX4_crowd_0 : decode cX4_crowd 0 = .ok (.iload_n 1, 1) := by decide +kernel
theorem dX4_crowd_1 : decode cX4_crowd 1 = .ok (.iconst 0, 1) := by decide +kernel
theorem dX4_crowd_2 : decode cX4_crowd 2 = .ok (.bipush 120, 2) := by decide +kernel
theorem dX4_crowd_4 : decode cX4_crowd 4 = .ok (.invokestatic 66, 3) := by decide +kernel
theorem dX4_crowd_7 : decode cX4_crowd 7 = .ok (.istore_n 2, 1) := by decide +kernel
theorem dX4_crowd_8 : decode cX4_crowd 8 = .ok (.iload_n 2, 1) := by decide +kernel
theorem dX4_crowd_9 : decode cX4_crowd 9 = .ok (.ifCond .eq 9, 3) := by decide +kernel
theorem dX4_crowd_12 : decode cX4_crowd 12 = .ok (.aload_n 0, 1) := by decide +kernel
theorem dX4_crowd_13 : decode cX4_crowd 13 = .ok (.iload_n 2, 1) := by decide +kernel
theorem dX4_crowd_14 : decode cX4_crowd 14 = .ok (.invokevirtual 73, 3) := by decide +kernel
theorem dX4_crowd_17 : decode cX4_crowd 17 = .ok (.ireturn, 1) := by decide +kernel
theorem dX4_crowd_18 : decode cX4_crowd 18 = .ok (.iconst 0, 1) := by decide +kernel
theorem dX4_crowd_19 : decode cX4_crowd 19 = .ok (.istore_n 3, 1) := by decide +kernel
theorem dX4_crowd_20 : decode cX4_crowd 20 = .ok (.iconst 0, 1) := by decide +kernel
theorem dX4_crowd_21 : decode cX4_crowd 21 = .ok (.istore 4, 2) := by decide +kernel
theorem dX4_crowd_23 : decode cX4_crowd 23 = .ok (.iload 4, 2) := by decide +kernel
theorem dX4_crowd_25 : decode cX4_crowd 25 = .ok (.aload_n 0, 1) := by decide +kernel
theorem dX4_crowd_26 : decode cX4_crowd 26 = .ok (.getfield 59, 3) := by decide +kernel
theorem dX4_crowd_29 : decode cX4_crowd 29 = .ok (.if_icmp .ge 96, 3) := by decide +kernel
theorem dX4_crowd_32 : decode cX4_crowd 32 = .ok (.iconst 0, 1) := by decide +kernel
theorem dX4_crowd_33 : decode cX4_crowd 33 = .ok (.istore 5, 2) := by decide +kernel
theorem dX4_crowd_35 : decode cX4_crowd 35 = .ok (.iconst 0, 1) := by decide +kernel
theorem dX4_crowd_36 : decode cX4_crowd 36 = .ok (.istore 6, 2) := by decide +kernel
theorem dX4_crowd_38 : decode cX4_crowd 38 = .ok (.iload 6, 2) := by decide +kernel
theorem dX4_crowd_40 : decode cX4_crowd 40 = .ok (.aload_n 0, 1) := by decide +kernel
theorem dX4_crowd_41 : decode cX4_crowd 41 = .ok (.getfield 59, 3) := by decide +kernel
theorem dX4_crowd_44 : decode cX4_crowd 44 = .ok (.if_icmp .ge 62, 3) := by decide +kernel
theorem dX4_crowd_47 : decode cX4_crowd 47 = .ok (.iload 5, 2) := by decide +kernel
theorem dX4_crowd_49 : decode cX4_crowd 49 = .ok (.ifCond .ne 44, 3) := by decide +kernel
theorem dX4_crowd_52 : decode cX4_crowd 52 = .ok (.iload 6, 2) := by decide +kernel
theorem dX4_crowd_54 : decode cX4_crowd 54 = .ok (.iload 4, 2) := by decide +kernel
theorem dX4_crowd_56 : decode cX4_crowd 56 = .ok (.if_icmp .eq 41, 3) := by decide +kernel
theorem dX4_crowd_59 : decode cX4_crowd 59 = .ok (.aload_n 0, 1) := by decide +kernel
theorem dX4_crowd_60 : decode cX4_crowd 60 = .ok (.getfield 16, 3) := by decide +kernel
theorem dX4_crowd_63 : decode cX4_crowd 63 = .ok (.iload 6, 2) := by decide +kernel
theorem dX4_crowd_65 : decode cX4_crowd 65 = .ok (.iaload, 1) := by decide +kernel
theorem dX4_crowd_66 : decode cX4_crowd 66 = .ok (.aload_n 0, 1) := by decide +kernel
theorem dX4_crowd_67 : decode cX4_crowd 67 = .ok (.getfield 16, 3) := by decide +kernel
theorem dX4_crowd_70 : decode cX4_crowd 70 = .ok (.iload 4, 2) := by decide +kernel
theorem dX4_crowd_72 : decode cX4_crowd 72 = .ok (.iaload, 1) := by decide +kernel
theorem dX4_crowd_73 : decode cX4_crowd 73 = .ok (.if_icmp .ne 24, 3) := by decide +kernel
theorem dX4_crowd_76 : decode cX4_crowd 76 = .ok (.aload_n 0, 1) := by decide +kernel
theorem dX4_crowd_77 : decode cX4_crowd 77 = .ok (.iload 6, 2) := by decide +kernel
theorem dX4_crowd_79 : decode cX4_crowd 79 = .ok (.iload_n 1, 1) := by decide +kernel
theorem dX4_crowd_80 : decode cX4_crowd 80 = .ok (.invokevirtual 144, 3) := by decide +kernel
theorem dX4_crowd_83 : decode cX4_crowd 83 = .ok (.aload_n 0, 1) := by decide +kernel
theorem dX4_crowd_84 : decode cX4_crowd 84 = .ok (.iload 4, 2) := by decide +kernel
theorem dX4_crowd_86 : decode cX4_crowd 86 = .ok (.iload_n 1, 1) := by decide +kernel
theorem dX4_crowd_87 : decode cX4_crowd 87 = .ok (.invokevirtual 144, 3) := by decide +kernel
theorem dX4_crowd_90 : decode cX4_crowd 90 = .ok (.if_icmp .ne 7, 3) := by decide +kernel
theorem dX4_crowd_93 : decode cX4_crowd 93 = .ok (.iconst 1, 1) := by decide +kernel
theorem dX4_crowd_94 : decode cX4_crowd 94 = .ok (.goto 4, 3) := by decide +kernel
theorem dX4_crowd_97 : decode cX4_crowd 97 = .ok (.iconst 0, 1) := by decide +kernel
theorem dX4_crowd_98 : decode cX4_crowd 98 = .ok (.istore 5, 2) := by decide +kernel
theorem dX4_crowd_100 : decode cX4_crowd 100 = .ok (.iinc 6 1, 3) := by decide +kernel
theorem dX4_crowd_103 : decode cX4_crowd 103 = .ok (.goto (-65), 3) := by decide +kernel
theorem dX4_crowd_106 : decode cX4_crowd 106 = .ok (.iload_n 3, 1) := by decide +kernel
theorem dX4_crowd_107 : decode cX4_crowd 107 = .ok (.iload 5, 2) := by decide +kernel
theorem dX4_crowd_109 : decode cX4_crowd 109 = .ok (.ifCond .eq 7, 3) := by decide +kernel
theorem dX4_crowd_112 : decode cX4_crowd 112 = .ok (.iconst 1, 1) := by decide +kernel
theorem dX4_crowd_113 : decode cX4_crowd 113 = .ok (.goto 4, 3) := by decide +kernel
theorem dX4_crowd_116 : decode cX4_crowd 116 = .ok (.iconst 0, 1) := by decide +kernel
theorem dX4_crowd_117 : decode cX4_crowd 117 = .ok (.iadd, 1) := by decide +kernel
theorem dX4_crowd_118 : decode cX4_crowd 118 = .ok (.istore_n 3, 1) := by decide +kernel
theorem dX4_crowd_119 : decode cX4_crowd 119 = .ok (.iinc 4 1, 3) := by decide +kernel
theorem dX4_crowd_122 : decode cX4_crowd 122 = .ok (.goto (-99), 3) := by decide +kernel
theorem dX4_crowd_125 : decode cX4_crowd 125 = .ok (.iload_n 3, 1) := by decide +kernel
theorem dX4_crowd_126 : decode cX4_crowd 126 = .ok (.ireturn, 1) := by decide +kernel
set_option maxRecDepth 20000 in
theorem ggX4_crowd_X4_bound : GoodIn wsX4_crowd wsX4_bound := goodIn_r _ [6] (by decide +kernel) (by decide +kernel)
set_option maxRecDepth 20000 in
theorem gX4_crowd_X4_bound : GoodIn wsX4_crowd (va_wsS RX4 66 yX4_bound wsX4_bound) := goodIn_app (goodIn_of _ (by decide +kernel)) ggX4_crowd_X4_bound
set_option maxRecDepth 20000 in
theorem ggX4_crowd_X4_no : GoodIn wsX4_crowd wsX4_no := goodIn_r _ [10, 11, 27, 28, 29, 30, 31, 32, 33, 34, 35, 36, 37, 38, 39, 40, 41, 42, 43, 44, 45, 46, 47, 48, 49, 50, 51, 52, 53, 54] (by decide +kernel) (by decide +kernel)
set_option maxRecDepth 20000 in
theorem gX4_crowd_X4_no : GoodIn wsX4_crowd (wsV RX4 73 RX4 yX4_no wsX4_no) := goodIn_app (goodIn_of _ (by decide +kernel)) ggX4_crowd_X4_no
set_option maxRecDepth 20000 in
theorem ggX4_crowd_X4_whereIs : GoodIn wsX4_crowd wsX4_whereIs := goodIn_r _ [15, 16, 17, 18, 19, 20, 21, 22, 5, 23, 24, 25, 26, 27, 28, 29, 30, 31, 32, 33, 34, 35, 36, 37, 38, 39, 40, 41, 42, 43, 44, 45, 46, 47, 48, 49, 50, 51, 52, 53, 54] (by decide +kernel) (by decide +kernel)
set_option maxRecDepth 20000 in
theorem gX4_crowd_X4_whereIs : GoodIn wsX4_crowd (wsV RX4 144 RX4 yX4_whereIs wsX4_whereIs) := goodIn_app (goodIn_of _ (by decide +kernel)) ggX4_crowd_X4_whereIs
set_option maxHeartbeats 4000000 in
set_option maxRecDepth 100000 in
theorem mX4_crowd (l : Launch) (dC : Nat → ClassId) (dI : Nat → Nat → Nat) (cI cC : ClassId) (sk : (Nat → Nat) × (Nat → Nat)) (f : Nat → Nat) (sz : Nat) (p1 : Int32) (c_r : RT) (c_refused : AR) (c_tape : AR) (c_letter : AR) (c_letterAt : AR) (c_number : AR) (c_taped : Int32) (c_at : Int32) (c_statements : Int32) (c_kept : AR) (c_hasImage : Int32) (c_isKeeping : Int32) (c_cursor : Int32) (c_poled : Int32) (c_barred : Int32) (c_leapsTo : AR) (c_leapsThen : AR) (c_lands : AR) (c_row : AR) (c_rowMany : Int32) (c_endsAt : Int32) (z : Int32 × AR) (h : fX4_crowd p1 c_r c_refused c_poled = some z) : cRW l yX4_crowd wsX4_crowd (RMk 2 43) sk (dC, dI) (tyz cI cC) sz (zwM cI cC f c_r c_refused c_tape c_letter c_letterAt c_number c_taped c_at c_statements c_kept c_hasImage c_isKeeping c_cursor c_poled c_barred c_leapsTo c_leapsThen c_lands c_row c_rowMany c_endsAt) (zwM cI cC f c_r z.2 c_tape c_letter c_letterAt c_number c_taped c_at c_statements c_kept c_hasImage c_isKeeping c_cursor c_poled c_barred c_leapsTo c_leapsThen c_lands c_row c_rowMany c_endsAt) [.ref (f 0), .int p1] z.1 := by
  refine ofRW (cc := cX4_crowd) (maxL := 7) (ret := (some .int)) (own := RX4) (plainFor_of_name (by decide)) rfl rfl (Nat.le_of_ble_eq_true rfl) ?_
  intro p e s m args below meth c A hA hx hb hml hr hts hown hlocks hE hK hP hD hS ls hl
  generalize hQ : qRW _ _ _ _ _ _ _ = Q
  have hl : lv_has ls 7 [(0, .ref (f 0)), (1, .int p1)] := hl
  have hiX4 : ∀ w ∈ wsX40, w ∈ wsX4_crowd := fun w h => List.mem_cons_of_mem _ (List.mem_append_right _ h)
  have hw1 := hts (Cond.fieldLink RX4 59 "FloeToFloeModel" "floes" "I") (List.mem_of_getElem? (i := 1) rfl)
  have hw2 := hts (Cond.fieldLink RX4 16 "FloeToFloeModel" "laneOf" "[I") (List.mem_of_getElem? (i := 2) rfl)
  rw [fX4_crowd] at h
  refine lv_iload_n hx hb dX4_crowd_0 rfl (lv_at hl 1 rfl) ?_
  refine lv_iconst (v := (0 : Int32)) hx hb dX4_crowd_1 (by decide) ?_
  refine lv_bipush (v := (120 : Int32)) hx hb dX4_crowd_2 (by decide) ?_
  obtain ⟨q4, e4, h⟩ := bd_some h
  refine g_roS (wc := ([] : va_W)) ⟨hx, hb, hml, hown, hts⟩ hE hK hP hS [] rfl (mX4_bound l dC dI cI cC sk  p1 (0 : Int32) (120 : Int32) q4 e4) (va_cwS 3 hts gX4_crowd_X4_bound rfl rfl rfl (by decide +kernel) ⟨Nat.le_of_ble_eq_true rfl, Nat.le_of_ble_eq_true rfl⟩) (As := [.int p1, .int (0 : Int32), .int (120 : Int32)]) (rest := []) rfl hl.1 rfl (Nat.le_of_ble_eq_true rfl) dX4_crowd_4 ⟨Nat.zero_le _, Nat.zero_le _⟩ (fun H locs hP hS => ?_)
  refine lv_istore_n (lv' := [(2, .int q4), (0, .ref (f 0)), (1, .int p1)]) hx hb dX4_crowd_7 rfl hl (by decide) rfl (fun ls hl => ?_)
  refine lv_iload_n hx hb dX4_crowd_8 rfl (lv_at hl 0 rfl) ?_
  refine lv_if_eq (tgt := 18) hx hb dX4_crowd_9 (by decide) (fun c9 => ?_) (fun c9 => ?_)
  · have h := itT c9 h
    refine lv_iconst (v := (0 : Int32)) hx hb dX4_crowd_18 (by decide) ?_
    refine lv_istore_n (lv' := [(3, .int (0 : Int32)), (2, .int q4), (0, .ref (f 0)), (1, .int p1)]) hx hb dX4_crowd_19 rfl hl (by decide) rfl (fun ls hl => ?_)
    refine lv_iconst (v := (0 : Int32)) hx hb dX4_crowd_20 (by decide) ?_
    refine lv_istore (lv' := [(4, .int (0 : Int32)), (3, .int (0 : Int32)), (2, .int q4), (0, .ref (f 0)), (1, .int p1)]) hx hb dX4_crowd_21 hl (by decide) rfl (fun ls hl => ?_)
    have L23 : ∀ (K23 : Int32 → Option (Int32 × AR)), (∀ (k23_3 : Int32), K23 k23_3 = some z → ∀ (H : Heap) (locs : List Loc) (ls : Array Slot), va_P (dC, dI) vwCl (zwM cI cC f c_r c_refused c_tape c_letter c_letterAt c_number c_taped c_at c_statements c_kept c_hasImage c_isKeeping c_cursor c_poled c_barred c_leapsTo c_leapsThen c_lands c_row c_rowMany c_endsAt) H → va_D A (zwM cI cC f c_r c_refused c_tape c_letter c_letterAt c_number c_taped c_at c_statements c_kept c_hasImage c_isKeeping c_cursor c_poled c_barred c_leapsTo c_leapsThen c_lands c_row c_rowMany c_endsAt) → va_S A s.heap H locs → lv_has ls 7 [(3, .int k23_3)] → W p l e (RMk 2 43) s m args below meth c H locs 0 0 Q (F0 m 125 ls [])) → ∀ (n : Nat) (x23_3 : Int32) (x23_4 : Int32), fX4_crowd_L23 c_poled c_r p1 K23 n x23_3 x23_4 = some z → ∀ (H : Heap) (locs : List Loc) (ls : Array Slot), va_P (dC, dI) vwCl (zwM cI cC f c_r c_refused c_tape c_letter c_letterAt c_number c_taped c_at c_statements c_kept c_hasImage c_isKeeping c_cursor c_poled c_barred c_leapsTo c_leapsThen c_lands c_row c_rowMany c_endsAt) H → va_D A (zwM cI cC f c_r c_refused c_tape c_letter c_letterAt c_number c_taped c_at c_statements c_kept c_hasImage c_isKeeping c_cursor c_poled c_barred c_leapsTo c_leapsThen c_lands c_row c_rowMany c_endsAt) → va_S A s.heap H locs → lv_has ls 7 [(0, .ref (f 0)), (1, .int p1), (3, .int x23_3), (4, .int x23_4)] → W p l e (RMk 2 43) s m args below meth c H locs 0 0 Q (F0 m 23 ls []) := by
      intro K23 kx23 n
      induction n with
      | zero => intro x23_3 x23_4 h; rw [fX4_crowd_L23] at h; cases h
      | succ n ih23 =>
        intro x23_3 x23_4 h H locs ls hP hD hS hl
        rw [fX4_crowd_L23] at h
        refine lv_iload hx hb dX4_crowd_23 (lv_at hl 3 rfl) ?_
        refine lv_aload_n hx hb dX4_crowd_25 rfl (lv_at hl 0 rfl) ?_
        refine va_get (D := (dC, dI)) (ci := 4) (v := .int (R_floes c_r)) (C := RX4) (T := TX4) (N := 28) hx hb hts hiX4 hown hK hP 0 rfl rfl 6 (by decide) hw1 (fun _ h9 => h9) rfl dX4_crowd_26 ?_
        refine lv_icmp_ge (tgt := 125) hx hb dX4_crowd_29 (by decide) (fun c29 => ?_) (fun c29 => ?_)
        · have h := itT c29 h
          exact kx23 _ h _ _ _ hP hD hS (lv_sub hl [2] rfl)
        have h := itF c29 h
        refine lv_iconst (v := (0 : Int32)) hx hb dX4_crowd_32 (by decide) ?_
        refine lv_istore (lv' := [(5, .int (0 : Int32)), (0, .ref (f 0)), (1, .int p1), (3, .int x23_3), (4, .int x23_4)]) hx hb dX4_crowd_33 hl (by decide) rfl (fun ls hl => ?_)
        refine lv_iconst (v := (0 : Int32)) hx hb dX4_crowd_35 (by decide) ?_
        refine lv_istore (lv' := [(6, .int (0 : Int32)), (5, .int (0 : Int32)), (0, .ref (f 0)), (1, .int p1), (3, .int x23_3), (4, .int x23_4)]) hx hb dX4_crowd_36 hl (by decide) rfl (fun ls hl => ?_)
        have L38 : ∀ (K38 : Int32 → Option (Int32 × AR)), (∀ (k38_5 : Int32), K38 k38_5 = some z → ∀ (H : Heap) (locs : List Loc) (ls : Array Slot), va_P (dC, dI) vwCl (zwM cI cC f c_r c_refused c_tape c_letter c_letterAt c_number c_taped c_at c_statements c_kept c_hasImage c_isKeeping c_cursor c_poled c_barred c_leapsTo c_leapsThen c_lands c_row c_rowMany c_endsAt) H → va_D A (zwM cI cC f c_r c_refused c_tape c_letter c_letterAt c_number c_taped c_at c_statements c_kept c_hasImage c_isKeeping c_cursor c_poled c_barred c_leapsTo c_leapsThen c_lands c_row c_rowMany c_endsAt) → va_S A s.heap H locs → lv_has ls 7 [(0, .ref (f 0)), (1, .int p1), (3, .int x23_3), (4, .int x23_4), (5, .int k38_5)] → W p l e (RMk 2 43) s m args below meth c H locs 0 0 Q (F0 m 106 ls [])) → ∀ (n : Nat) (x38_5 : Int32) (x38_6 : Int32), fX4_crowd_L38 c_poled c_r p1 x23_4 K38 n x38_5 x38_6 = some z → ∀ (H : Heap) (locs : List Loc) (ls : Array Slot), va_P (dC, dI) vwCl (zwM cI cC f c_r c_refused c_tape c_letter c_letterAt c_number c_taped c_at c_statements c_kept c_hasImage c_isKeeping c_cursor c_poled c_barred c_leapsTo c_leapsThen c_lands c_row c_rowMany c_endsAt) H → va_D A (zwM cI cC f c_r c_refused c_tape c_letter c_letterAt c_number c_taped c_at c_statements c_kept c_hasImage c_isKeeping c_cursor c_poled c_barred c_leapsTo c_leapsThen c_lands c_row c_rowMany c_endsAt) → va_S A s.heap H locs → lv_has ls 7 [(0, .ref (f 0)), (1, .int p1), (3, .int x23_3), (4, .int x23_4), (5, .int x38_5), (6, .int x38_6)] → W p l e (RMk 2 43) s m args below meth c H locs 0 0 Q (F0 m 38 ls []) := by
          intro K38 kx38 n
          induction n with
          | zero => intro x38_5 x38_6 h; rw [fX4_crowd_L38] at h; cases h
          | succ n ih38 =>
            intro x38_5 x38_6 h H locs ls hP hD hS hl
            rw [fX4_crowd_L38] at h
            refine lv_iload hx hb dX4_crowd_38 (lv_at hl 5 rfl) ?_
            refine lv_aload_n hx hb dX4_crowd_40 rfl (lv_at hl 0 rfl) ?_
            refine va_get (D := (dC, dI)) (ci := 4) (v := .int (R_floes c_r)) (C := RX4) (T := TX4) (N := 28) hx hb hts hiX4 hown hK hP 0 rfl rfl 6 (by decide) hw1 (fun _ h9 => h9) rfl dX4_crowd_41 ?_
            refine lv_icmp_ge (tgt := 106) hx hb dX4_crowd_44 (by decide) (fun c44 => ?_) (fun c44 => ?_)
            · have h := itT c44 h
              exact kx38 _ h _ _ _ hP hD hS (lv_sub hl [0, 1, 2, 3, 4] rfl)
            have h := itF c44 h
            refine lv_iload hx hb dX4_crowd_47 (lv_at hl 4 rfl) ?_
            refine lv_if_ne (tgt := 93) hx hb dX4_crowd_49 (by decide) (fun c49 => ?_) (fun c49 => ?_)
            · have h := itF c49 h
              refine lv_iconst (v := (1 : Int32)) hx hb dX4_crowd_93 (by decide) ?_
              refine lv_goto (tgt := 98) hx hb dX4_crowd_94 (by decide) ?_
              refine lv_istore (lv' := [(5, .int (1 : Int32)), (0, .ref (f 0)), (1, .int p1), (3, .int x23_3), (4, .int x23_4), (6, .int x38_6)]) hx hb dX4_crowd_98 hl (by decide) rfl (fun ls hl => ?_)
              refine lv_iinc (v := (x38_6 + (1 : Int32))) (lv' := [(6, .int (x38_6 + (1 : Int32))), (5, .int (1 : Int32)), (0, .ref (f 0)), (1, .int p1), (3, .int x23_3), (4, .int x23_4)]) hx hb dX4_crowd_100 hl (k := 5) rfl rfl (by decide) rfl (fun ls hl => ?_)
              refine lv_goto (tgt := 38) hx hb dX4_crowd_103 (by decide) ?_
              exact ih38 _ _ h _ _ _ hP hD hS (lv_sub hl [2, 3, 4, 5, 1, 0] rfl)
            have h := itT c49 h
            refine lv_iload hx hb dX4_crowd_52 (lv_at hl 5 rfl) ?_
            refine lv_iload hx hb dX4_crowd_54 (lv_at hl 3 rfl) ?_
            refine lv_icmp_eq (tgt := 97) hx hb dX4_crowd_56 (by decide) (fun c56 => ?_) (fun c56 => ?_)
            · have h := itT c56 h
              refine lv_iconst (v := (0 : Int32)) hx hb dX4_crowd_97 (by decide) ?_
              refine lv_istore (lv' := [(5, .int (0 : Int32)), (0, .ref (f 0)), (1, .int p1), (3, .int x23_3), (4, .int x23_4), (6, .int x38_6)]) hx hb dX4_crowd_98 hl (by decide) rfl (fun ls hl => ?_)
              refine lv_iinc (v := (x38_6 + (1 : Int32))) (lv' := [(6, .int (x38_6 + (1 : Int32))), (5, .int (0 : Int32)), (0, .ref (f 0)), (1, .int p1), (3, .int x23_3), (4, .int x23_4)]) hx hb dX4_crowd_100 hl (k := 5) rfl rfl (by decide) rfl (fun ls hl => ?_)
              refine lv_goto (tgt := 38) hx hb dX4_crowd_103 (by decide) ?_
              exact ih38 _ _ h _ _ _ hP hD hS (lv_sub hl [2, 3, 4, 5, 1, 0] rfl)
            have h := itF c56 h
            refine lv_aload_n hx hb dX4_crowd_59 rfl (lv_at hl 0 rfl) ?_
            refine va_get (D := (dC, dI)) (ci := 4) (v := .ref (f 3)) (C := RX4) (T := TX4) (N := 28) hx hb hts hiX4 hown hK hP 0 rfl rfl 2 (by decide) hw2 (fun _ h9 => h9) rfl dX4_crowd_60 ?_
            refine lv_iload hx hb dX4_crowd_63 (lv_at hl 5 rfl) ?_
            obtain ⟨hin, h⟩ := ck_some h
            refine va_iald hx hb hK hP 3 0 rfl rfl hin dX4_crowd_65 ?_
            refine lv_aload_n hx hb dX4_crowd_66 rfl (lv_at hl 0 rfl) ?_
            refine va_get (D := (dC, dI)) (ci := 4) (v := .ref (f 3)) (C := RX4) (T := TX4) (N := 28) hx hb hts hiX4 hown hK hP 0 rfl rfl 2 (by decide) hw2 (fun _ h9 => h9) rfl dX4_crowd_67 ?_
            refine lv_iload hx hb dX4_crowd_70 (lv_at hl 3 rfl) ?_
            obtain ⟨hin, h⟩ := ck_some h
            refine va_iald hx hb hK hP 3 0 rfl rfl hin dX4_crowd_72 ?_
            refine lv_icmp_ne (tgt := 97) hx hb dX4_crowd_73 (by decide) (fun c73 => ?_) (fun c73 => ?_)
            · have h := itF c73 h
              refine lv_iconst (v := (0 : Int32)) hx hb dX4_crowd_97 (by decide) ?_
              refine lv_istore (lv' := [(5, .int (0 : Int32)), (0, .ref (f 0)), (1, .int p1), (3, .int x23_3), (4, .int x23_4), (6, .int x38_6)]) hx hb dX4_crowd_98 hl (by decide) rfl (fun ls hl => ?_)
              refine lv_iinc (v := (x38_6 + (1 : Int32))) (lv' := [(6, .int (x38_6 + (1 : Int32))), (5, .int (0 : Int32)), (0, .ref (f 0)), (1, .int p1), (3, .int x23_3), (4, .int x23_4)]) hx hb dX4_crowd_100 hl (k := 5) rfl rfl (by decide) rfl (fun ls hl => ?_)
              refine lv_goto (tgt := 38) hx hb dX4_crowd_103 (by decide) ?_
              exact ih38 _ _ h _ _ _ hP hD hS (lv_sub hl [2, 3, 4, 5, 1, 0] rfl)
            have h := itT c73 h
            refine lv_aload_n hx hb dX4_crowd_76 rfl (lv_at hl 0 rfl) ?_
            refine lv_iload hx hb dX4_crowd_77 (lv_at hl 5 rfl) ?_
            refine lv_iload_n hx hb dX4_crowd_79 rfl (lv_at hl 1 rfl) ?_
            obtain ⟨q80, e80, h⟩ := bd_some h
            refine g_roV (wc := (zwM cI cC f c_r c_refused c_tape c_letter c_letterAt c_number c_taped c_at c_statements c_kept c_hasImage c_isKeeping c_cursor c_poled c_barred c_leapsTo c_leapsThen c_lands c_row c_rowMany c_endsAt)) ⟨hx, hb, hml, hown, hts⟩ hE hK hP hS [0, 1, 2, 3, 4, 5, 6, 7, 8, 9, 10, 11, 12, 13, 14, 15] rfl (mX4_whereIs l dC dI cI cC sk f x38_6 p1 c_r c_refused c_tape c_letter c_letterAt c_number c_taped c_at c_statements c_kept c_hasImage c_isKeeping c_cursor c_poled c_barred c_leapsTo c_leapsThen c_lands c_row c_rowMany c_endsAt q80 e80) (cwV 2 hts gX4_crowd_X4_whereIs rfl rfl rfl (by decide +kernel) ⟨Nat.le_of_ble_eq_true rfl, Nat.le_of_ble_eq_true rfl⟩) (va_recv hK hP (ci := 4) (q0 := 0) rfl rfl) (As := [.int x38_6, .int p1]) (rest := []) rfl hl.1 rfl (Nat.le_of_ble_eq_true rfl) dX4_crowd_80 ⟨Nat.zero_le _, Nat.zero_le _⟩ (fun H locs hP hS => ?_)
            refine lv_aload_n hx hb dX4_crowd_83 rfl (lv_at hl 0 rfl) ?_
            refine lv_iload hx hb dX4_crowd_84 (lv_at hl 3 rfl) ?_
            refine lv_iload_n hx hb dX4_crowd_86 rfl (lv_at hl 1 rfl) ?_
            obtain ⟨q87, e87, h⟩ := bd_some h
            refine g_roV (wc := (zwM cI cC f c_r c_refused c_tape c_letter c_letterAt c_number c_taped c_at c_statements c_kept c_hasImage c_isKeeping c_cursor c_poled c_barred c_leapsTo c_leapsThen c_lands c_row c_rowMany c_endsAt)) ⟨hx, hb, hml, hown, hts⟩ hE hK hP hS [0, 1, 2, 3, 4, 5, 6, 7, 8, 9, 10, 11, 12, 13, 14, 15] rfl (mX4_whereIs l dC dI cI cC sk f x23_4 p1 c_r c_refused c_tape c_letter c_letterAt c_number c_taped c_at c_statements c_kept c_hasImage c_isKeeping c_cursor c_poled c_barred c_leapsTo c_leapsThen c_lands c_row c_rowMany c_endsAt q87 e87) (cwV 2 hts gX4_crowd_X4_whereIs rfl rfl rfl (by decide +kernel) ⟨Nat.le_of_ble_eq_true rfl, Nat.le_of_ble_eq_true rfl⟩) (va_recv hK hP (ci := 4) (q0 := 0) rfl rfl) (As := [.int x23_4, .int p1]) (rest := [.int q80]) rfl hl.1 rfl (Nat.le_of_ble_eq_true rfl) dX4_crowd_87 ⟨Nat.zero_le _, Nat.zero_le _⟩ (fun H locs hP hS => ?_)
            refine lv_icmp_ne (tgt := 97) hx hb dX4_crowd_90 (by decide) (fun c90 => ?_) (fun c90 => ?_)
            · have h := itF c90 h
              refine lv_iconst (v := (0 : Int32)) hx hb dX4_crowd_97 (by decide) ?_
              refine lv_istore (lv' := [(5, .int (0 : Int32)), (0, .ref (f 0)), (1, .int p1), (3, .int x23_3), (4, .int x23_4), (6, .int x38_6)]) hx hb dX4_crowd_98 hl (by decide) rfl (fun ls hl => ?_)
              refine lv_iinc (v := (x38_6 + (1 : Int32))) (lv' := [(6, .int (x38_6 + (1 : Int32))), (5, .int (0 : Int32)), (0, .ref (f 0)), (1, .int p1), (3, .int x23_3), (4, .int x23_4)]) hx hb dX4_crowd_100 hl (k := 5) rfl rfl (by decide) rfl (fun ls hl => ?_)
              refine lv_goto (tgt := 38) hx hb dX4_crowd_103 (by decide) ?_
              exact ih38 _ _ h _ _ _ hP hD hS (lv_sub hl [2, 3, 4, 5, 1, 0] rfl)
            have h := itT c90 h
            refine lv_iconst (v := (1 : Int32)) hx hb dX4_crowd_93 (by decide) ?_
            refine lv_goto (tgt := 98) hx hb dX4_crowd_94 (by decide) ?_
            refine lv_istore (lv' := [(5, .int (1 : Int32)), (0, .ref (f 0)), (1, .int p1), (3, .int x23_3), (4, .int x23_4), (6, .int x38_6)]) hx hb dX4_crowd_98 hl (by decide) rfl (fun ls hl => ?_)
            refine lv_iinc (v := (x38_6 + (1 : Int32))) (lv' := [(6, .int (x38_6 + (1 : Int32))), (5, .int (1 : Int32)), (0, .ref (f 0)), (1, .int p1), (3, .int x23_3), (4, .int x23_4)]) hx hb dX4_crowd_100 hl (k := 5) rfl rfl (by decide) rfl (fun ls hl => ?_)
            refine lv_goto (tgt := 38) hx hb dX4_crowd_103 (by decide) ?_
            exact ih38 _ _ h _ _ _ hP hD hS (lv_sub hl [2, 3, 4, 5, 1, 0] rfl)
        refine L38 _ (fun k38_5 h H locs ls hP hD hS hl => ?_) _ _ _ h _ _ _ hP hD hS (lv_sub hl [2, 3, 4, 5, 1, 0] rfl)
        refine lv_iload_n hx hb dX4_crowd_106 rfl (lv_at hl 2 rfl) ?_
        refine lv_iload hx hb dX4_crowd_107 (lv_at hl 4 rfl) ?_
        refine lv_if_eq (tgt := 116) hx hb dX4_crowd_109 (by decide) (fun c109 => ?_) (fun c109 => ?_)
        · have h := itT c109 h
          refine lv_iconst (v := (0 : Int32)) hx hb dX4_crowd_116 (by decide) ?_
          refine lv_iadd hx hb dX4_crowd_117 ?_
          refine lv_istore_n (lv' := [(3, .int (x23_3 + (0 : Int32))), (0, .ref (f 0)), (1, .int p1), (4, .int x23_4), (5, .int k38_5)]) hx hb dX4_crowd_118 rfl hl (by decide) rfl (fun ls hl => ?_)
          refine lv_iinc (v := (x23_4 + (1 : Int32))) (lv' := [(4, .int (x23_4 + (1 : Int32))), (3, .int (x23_3 + (0 : Int32))), (0, .ref (f 0)), (1, .int p1), (5, .int k38_5)]) hx hb dX4_crowd_119 hl (k := 3) rfl rfl (by decide) rfl (fun ls hl => ?_)
          refine lv_goto (tgt := 23) hx hb dX4_crowd_122 (by decide) ?_
          exact ih23 _ _ h _ _ _ hP hD hS (lv_sub hl [2, 3, 1, 0] rfl)
        have h := itF c109 h
        refine lv_iconst (v := (1 : Int32)) hx hb dX4_crowd_112 (by decide) ?_
        refine lv_goto (tgt := 117) hx hb dX4_crowd_113 (by decide) ?_
        refine lv_iadd hx hb dX4_crowd_117 ?_
        refine lv_istore_n (lv' := [(3, .int (x23_3 + (1 : Int32))), (0, .ref (f 0)), (1, .int p1), (4, .int x23_4), (5, .int k38_5)]) hx hb dX4_crowd_118 rfl hl (by decide) rfl (fun ls hl => ?_)
        refine lv_iinc (v := (x23_4 + (1 : Int32))) (lv' := [(4, .int (x23_4 + (1 : Int32))), (3, .int (x23_3 + (1 : Int32))), (0, .ref (f 0)), (1, .int p1), (5, .int k38_5)]) hx hb dX4_crowd_119 hl (k := 3) rfl rfl (by decide) rfl (fun ls hl => ?_)
        refine lv_goto (tgt := 23) hx hb dX4_crowd_122 (by decide) ?_
        exact ih23 _ _ h _ _ _ hP hD hS (lv_sub hl [2, 3, 1, 0] rfl)
    refine L23 _ (fun k23_3 h H locs ls hP hD hS hl => ?_) _ _ _ h _ _ _ hP hD hS (lv_sub hl [3, 4, 1, 0] rfl)
    refine lv_iload_n hx hb dX4_crowd_125 rfl (lv_at hl 0 rfl) ?_
    subst hQ
    exact retRW (zz := ((k23_3, c_refused) : Int32 × AR)) (fun z => z.1) (fun z => (zwM cI cC f c_r z.2 c_tape c_letter c_letterAt c_number c_taped c_at c_statements c_kept c_hasImage c_isKeeping c_cursor c_poled c_barred c_leapsTo c_leapsThen c_lands c_row c_rowMany c_endsAt)) hx hb hr hlocks rfl hS h rfl hP dX4_crowd_126
  have h := itF c9 h
  refine lv_aload_n hx hb dX4_crowd_12 rfl (lv_at hl 1 rfl) ?_
  refine lv_iload_n hx hb dX4_crowd_13 rfl (lv_at hl 0 rfl) ?_
  obtain ⟨q14, e14, h⟩ := bd_some h
  refine g_rwA (wc := (zwM cI cC f c_r c_refused c_tape c_letter c_letterAt c_number c_taped c_at c_statements c_kept c_hasImage c_isKeeping c_cursor c_poled c_barred c_leapsTo c_leapsThen c_lands c_row c_rowMany c_endsAt)) (wc' := (zwM cI cC f c_r q14.2 c_tape c_letter c_letterAt c_number c_taped c_at c_statements c_kept c_hasImage c_isKeeping c_cursor c_poled c_barred c_leapsTo c_leapsThen c_lands c_row c_rowMany c_endsAt)) ⟨hx, hb, hml, hown, hts⟩ hE hK hA hP hD hS rfl (mX4_no l dC dI cI cC sk f H.size q4 c_r c_refused c_tape c_letter c_letterAt c_number c_taped c_at c_statements c_kept c_hasImage c_isKeeping c_cursor c_poled c_barred c_leapsTo c_leapsThen c_lands c_row c_rowMany c_endsAt q14 e14) (cwV 1 hts gX4_crowd_X4_no rfl rfl rfl (by decide +kernel) ⟨Nat.le_of_ble_eq_true rfl, Nat.le_of_ble_eq_true rfl⟩) (va_recv hK hP (ci := 4) (q0 := 0) rfl rfl) (As := [.int q4]) (rest := []) rfl hl.1 rfl (Nat.le_of_ble_eq_true rfl) dX4_crowd_14 ⟨Nat.zero_le _, Nat.zero_le _⟩ (fun H locs hP hD hS => ?_)
  have hP : va_P (dC, dI) vwCl (zwM cI cC f c_r q14.2 c_tape c_letter c_letterAt c_number c_taped c_at c_statements c_kept c_hasImage c_isKeeping c_cursor c_poled c_barred c_leapsTo c_leapsThen c_lands c_row c_rowMany c_endsAt) H := hP
  have hD : va_D A (zwM cI cC f c_r q14.2 c_tape c_letter c_letterAt c_number c_taped c_at c_statements c_kept c_hasImage c_isKeeping c_cursor c_poled c_barred c_leapsTo c_leapsThen c_lands c_row c_rowMany c_endsAt) := hD
  subst hQ
  exact retRW (zz := ((q14.1, q14.2) : Int32 × AR)) (fun z => z.1) (fun z => (zwM cI cC f c_r z.2 c_tape c_letter c_letterAt c_number c_taped c_at c_statements c_kept c_hasImage c_isKeeping c_cursor c_poled c_barred c_leapsTo c_leapsThen c_lands c_row c_rowMany c_endsAt)) hx hb hr hlocks rfl hS h rfl hP dX4_crowd_17
