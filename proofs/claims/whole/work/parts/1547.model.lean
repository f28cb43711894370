theorem dX4_seeds_0 : decode cX4_seeds 0 = .ok (.iload_n 1, 1) := by decide +kernel
theorem dX4_seeds_1 : decode cX4_seeds 1 = .ok (.iconst 1, 1) := by decide +kernel
theorem dX4_seeds_2 : decode cX4_seeds 2 = .ok (.bipush 20, 2) := by decide +kernel
theorem dX4_seeds_4 : decode cX4_seeds 4 = .ok (.invokestatic 66, 3) := by decide +kernel
theorem dX4_seeds_7 : decode cX4_seeds 7 = .ok (.istore_n 3, 1) := by decide +kernel
theorem dX4_seeds_8 : decode cX4_seeds 8 = .ok (.iload_n 3, 1) := by decide +kernel
theorem dX4_seeds_9 : decode cX4_seeds 9 = .ok (.ifCond .eq 9, 3) := by decide +kernel
theorem dX4_seeds_12 : decode cX4_seeds 12 = .ok (.aload_n 0, 1) := by decide +kernel
theorem dX4_seeds_13 : decode cX4_seeds 13 = .ok (.iload_n 3, 1) := by decide +kernel
theorem dX4_seeds_14 : decode cX4_seeds 14 = .ok (.invokevirtual 73, 3) := by decide +kernel
theorem dX4_seeds_17 : decode cX4_seeds 17 = .ok (.ireturn, 1) := by decide +kernel
theorem dX4_seeds_18 : decode cX4_seeds 18 = .ok (.iload_n 2, 1) := by decide +kernel
theorem dX4_seeds_19 : decode cX4_seeds 19 = .ok (.istore 4, 2) := by decide +kernel
theorem dX4_seeds_21 : decode cX4_seeds 21 = .ok (.iconst 0, 1) := by decide +kernel
theorem dX4_seeds_22 : decode cX4_seeds 22 = .ok (.istore 5, 2) := by decide +kernel
theorem dX4_seeds_24 : decode cX4_seeds 24 = .ok (.iconst 0, 1) := by decide +kernel
theorem dX4_seeds_25 : decode cX4_seeds 25 = .ok (.istore 6, 2) := by decide +kernel
theorem dX4_seeds_27 : decode cX4_seeds 27 = .ok (.iload 6, 2) := by decide +kernel
theorem dX4_seeds_29 : decode cX4_seeds 29 = .ok (.iload_n 1, 1) := by decide +kernel
theorem dX4_seeds_30 : decode cX4_seeds 30 = .ok (.if_icmp .ge 84, 3) := by decide +kernel
theorem dX4_seeds_33 : decode cX4_seeds 33 = .ok (.iload 4, 2) := by decide +kernel
theorem dX4_seeds_35 : decode cX4_seeds 35 = .ok (.ldc 227, 2) := by decide +kernel
theorem dX4_seeds_37 : decode cX4_seeds 37 = .ok (.imul, 1) := by decide +kernel
theorem dX4_seeds_38 : decode cX4_seeds 38 = .ok (.ldc 228, 2) := by decide +kernel
theorem dX4_seeds_40 : decode cX4_seeds 40 = .ok (.iadd, 1) := by decide +kernel
theorem dX4_seeds_41 : decode cX4_seeds 41 = .ok (.istore 4, 2) := by decide +kernel
theorem dX4_seeds_43 : decode cX4_seeds 43 = .ok (.iload 4, 2) := by decide +kernel
theorem dX4_seeds_45 : decode cX4_seeds 45 = .ok (.ldc 229, 2) := by decide +kernel
theorem dX4_seeds_47 : decode cX4_seeds 47 = .ok (.iand, 1) := by decide +kernel
theorem dX4_seeds_48 : decode cX4_seeds 48 = .ok (.sipush 256, 3) := by decide +kernel
theorem dX4_seeds_51 : decode cX4_seeds 51 = .ok (.idiv, 1) := by decide +kernel
theorem dX4_seeds_52 : decode cX4_seeds 52 = .ok (.bipush 10, 2) := by decide +kernel
theorem dX4_seeds_54 : decode cX4_seeds 54 = .ok (.irem, 1) := by decide +kernel
theorem dX4_seeds_55 : decode cX4_seeds 55 = .ok (.istore 7, 2) := by decide +kernel
theorem dX4_seeds_57 : decode cX4_seeds 57 = .ok (.iload 4, 2) := by decide +kernel
theorem dX4_seeds_59 : decode cX4_seeds 59 = .ok (.ldc 227, 2) := by decide +kernel
theorem dX4_seeds_61 : decode cX4_seeds 61 = .ok (.imul, 1) := by decide +kernel
theorem dX4_seeds_62 : decode cX4_seeds 62 = .ok (.ldc 228, 2) := by decide +kernel
theorem dX4_seeds_64 : decode cX4_seeds 64 = .ok (.iadd, 1) := by decide +kernel
theorem dX4_seeds_65 : decode cX4_seeds 65 = .ok (.istore 4, 2) := by decide +kernel
theorem dX4_seeds_67 : decode cX4_seeds 67 = .ok (.iload 4, 2) := by decide +kernel
theorem dX4_seeds_69 : decode cX4_seeds 69 = .ok (.ldc 229, 2) := by decide +kernel
theorem dX4_seeds_71 : decode cX4_seeds 71 = .ok (.iand, 1) := by decide +kernel
theorem dX4_seeds_72 : decode cX4_seeds 72 = .ok (.sipush 256, 3) := by decide +kernel
theorem dX4_seeds_75 : decode cX4_seeds 75 = .ok (.idiv, 1) := by decide +kernel
theorem dX4_seeds_76 : decode cX4_seeds 76 = .ok (.bipush 9, 2) := by decide +kernel
theorem dX4_seeds_78 : decode cX4_seeds 78 = .ok (.irem, 1) := by decide +kernel
theorem dX4_seeds_79 : decode cX4_seeds 79 = .ok (.iconst 1, 1) := by decide +kernel
theorem dX4_seeds_80 : decode cX4_seeds 80 = .ok (.iadd, 1) := by decide +kernel
theorem dX4_seeds_81 : decode cX4_seeds 81 = .ok (.istore 8, 2) := by decide +kernel
theorem dX4_seeds_83 : decode cX4_seeds 83 = .ok (.iload 5, 2) := by decide +kernel
theorem dX4_seeds_85 : decode cX4_seeds 85 = .ok (.aload_n 0, 1) := by decide +kernel
theorem dX4_seeds_86 : decode cX4_seeds 86 = .ok (.iload 8, 2) := by decide +kernel
theorem dX4_seeds_88 : decode cX4_seeds 88 = .ok (.iload 7, 2) := by decide +kernel
theorem dX4_seeds_90 : decode cX4_seeds 90 = .ok (.aload_n 0, 1) := by decide +kernel
theorem dX4_seeds_91 : decode cX4_seeds 91 = .ok (.getfield 101, 3) := by decide +kernel
theorem dX4_seeds_94 : decode cX4_seeds 94 = .ok (.invokevirtual 179, 3) := by decide +kernel
theorem dX4_seeds_97 : decode cX4_seeds 97 = .ok (.ifCond .lt 7, 3) := by decide +kernel
theorem dX4_seeds_100 : decode cX4_seeds 100 = .ok (.iconst 1, 1) := by decide +kernel
theorem dX4_seeds_101 : decode cX4_seeds 101 = .ok (.goto 4, 3) := by decide +kernel
theorem dX4_seeds_104 : decode cX4_seeds 104 = .ok (.iconst 0, 1) := by decide +kernel
theorem dX4_seeds_105 : decode cX4_seeds 105 = .ok (.iadd, 1) := by decide +kernel
theorem dX4_seeds_106 : decode cX4_seeds 106 = .ok (.istore 5, 2) := by decide +kernel
theorem dX4_seeds_108 : decode cX4_seeds 108 = .ok (.iinc 6 1, 3) := by decide +kernel
theorem dX4_seeds_111 : decode cX4_seeds 111 = .ok (.goto (-84), 3) := by decide +kernel
theorem dX4_seeds_114 : decode cX4_seeds 114 = .ok (.iload 5, 2) := by decide +kernel
theorem dX4_seeds_116 : decode cX4_seeds 116 = .ok (.ireturn, 1) := by decide +kernel
set_option maxRecDepth 20000 in
theorem ggX4_seeds_X4_bound : GoodIn wsX4_seeds wsX4_bound := goodIn_r _ [8] (by decide +kernel) (by decide +kernel)
set_option maxRecDepth 20000 in
theorem gX4_seeds_X4_bound : GoodIn wsX4_seeds (va_wsS RX4 66 yX4_bound wsX4_bound) := goodIn_app (goodIn_of _ (by decide +kernel)) ggX4_seeds_X4_bound
set_option maxRecDepth 20000 in
theorem ggX4_seeds_X4_no : GoodIn wsX4_seeds wsX4_no := goodIn_r _ [12, 13, 67, 68, 69, 70, 71, 72, 73, 74, 75, 76, 77, 78, 79, 80, 81, 82, 83, 84, 85, 86, 87, 88, 89, 90, 91, 92, 93, 94] (by decide +kernel) (by decide +kernel)
set_option maxRecDepth 20000 in
theorem gX4_seeds_X4_no : GoodIn wsX4_seeds (wsV RX4 73 RX4 yX4_no wsX4_no) := goodIn_app (goodIn_of _ (by decide +kernel)) ggX4_seeds_X4_no
set_option maxRecDepth 20000 in
theorem ggX4_seeds_X4_soonestFrom : GoodIn wsX4_seeds wsX4_soonestFrom := goodIn_r _ [17, 18, 19, 20, 7, 21, 22, 23, 24, 25, 26, 27, 28, 29, 30, 31, 32, 33, 34, 35, 36, 37, 38, 39, 40, 41, 42, 43, 44, 45, 46, 47, 48, 49, 50, 51, 52, 53, 54, 55, 56, 57, 4, 58, 59, 60, 61, 62, 63, 64, 65, 66, 67, 68, 69, 70, 71, 72, 73, 74, 75, 76, 77, 78, 79, 80, 81, 82, 83, 84, 85, 86, 87, 88, 89, 90, 91, 92, 93, 94] (by decide +kernel) (by decide +kernel)
set_option maxRecDepth 20000 in
theorem gX4_seeds_X4_soonestFrom : GoodIn wsX4_seeds (wsV RX4 179 RX4 yX4_soonestFrom wsX4_soonestFrom) := goodIn_app (goodIn_of _ (by decide +kernel)) ggX4_seeds_X4_soonestFrom
set_option maxHeartbeats 4000000 in
set_option maxRecDepth 100000 in
theorem mX4_seeds (l : Launch) (dC : Nat → ClassId) (dI : Nat → Nat → Nat) (cI cC : ClassId) (sk : (Nat → Nat) × (Nat → Nat)) (f : Nat → Nat) (sz : Nat) (p1 : Int32) (p2 : Int32) (c_r : RT) (c_refused : AR) (c_tape : AR) (c_letter : AR) (c_letterAt : AR) (c_number : AR) (c_taped : Int32) (c_at : Int32) (c_statements : Int32) (c_kept : AR) (c_hasImage : Int32) (c_isKeeping : Int32) (c_cursor : Int32) (c_poled : Int32) (c_barred : Int32) (c_leapsTo : AR) (c_leapsThen : AR) (c_lands : AR) (c_row : AR) (c_rowMany : Int32) (c_endsAt : Int32) (z : Int32 × AR) (h : fX4_seeds p1 p2 c_r c_refused c_poled c_barred = some z) : cRW l yX4_seeds wsX4_seeds (RMk 6 143) sk (dC, dI) (tyz cI cC) sz (zwM cI cC f c_r c_refused c_tape c_letter c_letterAt c_number c_taped c_at c_statements c_kept c_hasImage c_isKeeping c_cursor c_poled c_barred c_leapsTo c_leapsThen c_lands c_row c_rowMany c_endsAt) (zwM cI cC f c_r z.2 c_tape c_letter c_letterAt c_number c_taped c_at c_statements c_kept c_hasImage c_isKeeping c_cursor c_poled c_barred c_leapsTo c_leapsThen c_lands c_row c_rowMany c_endsAt) [.ref (f 0), .int p1, .int p2] z.1 := by
  refine ofRW (cc := cX4_seeds) (maxL := 9) (ret := (some .int)) (own := RX4) (plainFor_of_name (by decide)) rfl rfl (Nat.le_of_ble_eq_true rfl) ?_
  intro p e s m args below meth c A hA hx hb hml hr hts hown hlocks hE hK hP hD hS ls hl
  generalize hQ : qRW _ _ _ _ _ _ _ = Q
  have hl : lv_has ls 9 [(0, .ref (f 0)), (1, .int p1), (2, .int p2)] := hl
  have hiX4 : ∀ w ∈ wsX40, w ∈ wsX4_seeds := fun w h => List.mem_cons_of_mem _ (List.mem_append_right _ h)
  have hw1 := hts (Cond.constant RX4 227 (1664525)) (List.mem_of_getElem? (i := 1) rfl)
  have hw2 := hts (Cond.constant RX4 228 (1013904223)) (List.mem_of_getElem? (i := 2) rfl)
  have hw3 := hts (Cond.constant RX4 229 (2147483647)) (List.mem_of_getElem? (i := 3) rfl)
  have hw4 := hts (Cond.fieldLink RX4 101 "FloeToFloeModel" "minute" "I") (List.mem_of_getElem? (i := 4) rfl)
  rw [fX4_seeds] at h
  refine lv_iload_n hx hb dX4_seeds_0 rfl (lv_at hl 1 rfl) ?_
  refine lv_iconst (v := (1 : Int32)) hx hb dX4_seeds_1 (by decide) ?_
  refine lv_bipush (v := (20 : Int32)) hx hb dX4_seeds_2 (by decide) ?_
  obtain ⟨q4, e4, h⟩ := bd_some h
  refine g_roS (wc := ([] : va_W)) ⟨hx, hb, hml, hown, hts⟩ hE hK hP hS [] rfl (mX4_bound l dC dI cI cC sk  p1 (1 : Int32) (20 : Int32) q4 e4) (va_cwS 3 hts gX4_seeds_X4_bound rfl rfl rfl (by decide +kernel) ⟨Nat.le_of_ble_eq_true rfl, Nat.le_of_ble_eq_true rfl⟩) (As := [.int p1, .int (1 : Int32), .int (20 : Int32)]) (rest := []) rfl hl.1 rfl (Nat.le_of_ble_eq_true rfl) dX4_seeds_4 ⟨Nat.zero_le _, Nat.zero_le _⟩ (fun H locs hP hS => ?_)
  refine lv_istore_n (lv' := [(3, .int q4), (0, .ref (f 0)), (1, .int p1), (2, .int p2)]) hx hb dX4_seeds_7 rfl hl (by decide) rfl (fun ls hl => ?_)
  refine lv_iload_n hx hb dX4_seeds_8 rfl (lv_at hl 0 rfl) ?_
  refine lv_if_eq (tgt := 18) hx hb dX4_seeds_9 (by decide) (fun c9 => ?_) (fun c9 => ?_)
  · have h := itT c9 h
    refine lv_iload_n hx hb dX4_seeds_18 rfl (lv_at hl 3 rfl) ?_
    refine lv_istore (lv' := [(4, .int p2), (3, .int q4), (0, .ref (f 0)), (1, .int p1), (2, .int p2)]) hx hb dX4_seeds_19 hl (by decide) rfl (fun ls hl => ?_)
    refine lv_iconst (v := (0 : Int32)) hx hb dX4_seeds_21 (by decide) ?_
    refine lv_istore (lv' := [(5, .int (0 : Int32)), (4, .int p2), (3, .int q4), (0, .ref (f 0)), (1, .int p1), (2, .int p2)]) hx hb dX4_seeds_22 hl (by decide) rfl (fun ls hl => ?_)
    refine lv_iconst (v := (0 : Int32)) hx hb dX4_seeds_24 (by decide) ?_
    refine lv_istore (lv' := [(6, .int (0 : Int32)), (5, .int (0 : Int32)), (4, .int p2), (3, .int q4), (0, .ref (f 0)), (1, .int p1), (2, .int p2)]) hx hb dX4_seeds_25 hl (by decide) rfl (fun ls hl => ?_)
    have L27 : ∀ (K27 : Int32 → Option (Int32 × AR)), (∀ (k27_5 : Int32), K27 k27_5 = some z → ∀ (H : Heap) (locs : List Loc) (ls : Array Slot), va_P (dC, dI) vwCl (zwM cI cC f c_r c_refused c_tape c_letter c_letterAt c_number c_taped c_at c_statements c_kept c_hasImage c_isKeeping c_cursor c_poled c_barred c_leapsTo c_leapsThen c_lands c_row c_rowMany c_endsAt) H → va_D A (zwM cI cC f c_r c_refused c_tape c_letter c_letterAt c_number c_taped c_at c_statements c_kept c_hasImage c_isKeeping c_cursor c_poled c_barred c_leapsTo c_leapsThen c_lands c_row c_rowMany c_endsAt) → va_S A s.heap H locs → lv_has ls 9 [(5, .int k27_5)] → W p l e (RMk 6 143) s m args below meth c H locs 0 0 Q (F0 m 114 ls [])) → ∀ (n : Nat) (x27_4 : Int32) (x27_5 : Int32) (x27_6 : Int32), fX4_seeds_L27 c_barred c_poled c_r p1 K27 n x27_4 x27_5 x27_6 = some z → ∀ (H : Heap) (locs : List Loc) (ls : Array Slot), va_P (dC, dI) vwCl (zwM cI cC f c_r c_refused c_tape c_letter c_letterAt c_number c_taped c_at c_statements c_kept c_hasImage c_isKeeping c_cursor c_poled c_barred c_leapsTo c_leapsThen c_lands c_row c_rowMany c_endsAt) H → va_D A (zwM cI cC f c_r c_refused c_tape c_letter c_letterAt c_number c_taped c_at c_statements c_kept c_hasImage c_isKeeping c_cursor c_poled c_barred c_leapsTo c_leapsThen c_lands c_row c_rowMany c_endsAt) → va_S A s.heap H locs → lv_has ls 9 [(0, .ref (f 0)), (1, .int p1), (4, .int x27_4), (5, .int x27_5), (6, .int x27_6)] → W p l e (RMk 6 143) s m args below meth c H locs 0 0 Q (F0 m 27 ls []) := by
      intro K27 kx27 n
      induction n with
      | zero => intro x27_4 x27_5 x27_6 h; rw [fX4_seeds_L27] at h; cases h
      | succ n ih27 =>
        intro x27_4 x27_5 x27_6 h H locs ls hP hD hS hl
        rw [fX4_seeds_L27] at h
        refine lv_iload hx hb dX4_seeds_27 (lv_at hl 4 rfl) ?_
        refine lv_iload_n hx hb dX4_seeds_29 rfl (lv_at hl 1 rfl) ?_
        refine lv_icmp_ge (tgt := 114) hx hb dX4_seeds_30 (by decide) (fun c30 => ?_) (fun c30 => ?_)
        · have h := itT c30 h
          exact kx27 _ h _ _ _ hP hD hS (lv_sub hl [3] rfl)
        have h := itF c30 h
        refine lv_iload hx hb dX4_seeds_33 (lv_at hl 2 rfl) ?_
        refine lv_ldc hx hb hown hw1 dX4_seeds_35 ?_
        refine lv_imul hx hb dX4_seeds_37 ?_
        refine lv_ldc hx hb hown hw2 dX4_seeds_38 ?_
        refine lv_iadd hx hb dX4_seeds_40 ?_
        refine lv_istore (lv' := [(4, .int ((x27_4 * (1664525 : Int32)) + (1013904223 : Int32))), (0, .ref (f 0)), (1, .int p1), (5, .int x27_5), (6, .int x27_6)]) hx hb dX4_seeds_41 hl (by decide) rfl (fun ls hl => ?_)
        refine lv_iload hx hb dX4_seeds_43 (lv_at hl 0 rfl) ?_
        refine lv_ldc hx hb hown hw3 dX4_seeds_45 ?_
        refine lv_iand hx hb dX4_seeds_47 ?_
        refine lv_sipush (v := (256 : Int32)) hx hb dX4_seeds_48 (by decide) ?_
        refine lv_idiv hx hb dX4_seeds_51 (by decide) ?_
        refine lv_bipush (v := (10 : Int32)) hx hb dX4_seeds_52 (by decide) ?_
        refine lv_irem hx hb dX4_seeds_54 (by decide) ?_
        refine lv_istore (lv' := [(7, .int (((((x27_4 * (1664525 : Int32)) + (1013904223 : Int32)) &&& (2147483647 : Int32)) / (256 : Int32)) - ((((x27_4 * (1664525 : Int32)) + (1013904223 : Int32)) &&& (2147483647 : Int32)) / (256 : Int32)) / (10 : Int32) * (10 : Int32))), (4, .int ((x27_4 * (1664525 : Int32)) + (1013904223 : Int32))), (0, .ref (f 0)), (1, .int p1), (5, .int x27_5), (6, .int x27_6)]) hx hb dX4_seeds_55 hl (by decide) rfl (fun ls hl => ?_)
        refine lv_iload hx hb dX4_seeds_57 (lv_at hl 1 rfl) ?_
        refine lv_ldc hx hb hown hw1 dX4_seeds_59 ?_
        refine lv_imul hx hb dX4_seeds_61 ?_
        refine lv_ldc hx hb hown hw2 dX4_seeds_62 ?_
        refine lv_iadd hx hb dX4_seeds_64 ?_
        refine lv_istore (lv' := [(4, .int ((((x27_4 * (1664525 : Int32)) + (1013904223 : Int32)) * (1664525 : Int32)) + (1013904223 : Int32))), (7, .int (((((x27_4 * (1664525 : Int32)) + (1013904223 : Int32)) &&& (2147483647 : Int32)) / (256 : Int32)) - ((((x27_4 * (1664525 : Int32)) + (1013904223 : Int32)) &&& (2147483647 : Int32)) / (256 : Int32)) / (10 : Int32) * (10 : Int32))), (0, .ref (f 0)), (1, .int p1), (5, .int x27_5), (6, .int x27_6)]) hx hb dX4_seeds_65 hl (by decide) rfl (fun ls hl => ?_)
        refine lv_iload hx hb dX4_seeds_67 (lv_at hl 0 rfl) ?_
        refine lv_ldc hx hb hown hw3 dX4_seeds_69 ?_
        refine lv_iand hx hb dX4_seeds_71 ?_
        refine lv_sipush (v := (256 : Int32)) hx hb dX4_seeds_72 (by decide) ?_
        refine lv_idiv hx hb dX4_seeds_75 (by decide) ?_
        refine lv_bipush (v := (9 : Int32)) hx hb dX4_seeds_76 (by decide) ?_
        refine lv_irem hx hb dX4_seeds_78 (by decide) ?_
        refine lv_iconst (v := (1 : Int32)) hx hb dX4_seeds_79 (by decide) ?_
        refine lv_iadd hx hb dX4_seeds_80 ?_
        refine lv_istore (lv' := [(8, .int ((((((((x27_4 * (1664525 : Int32)) + (1013904223 : Int32)) * (1664525 : Int32)) + (1013904223 : Int32)) &&& (2147483647 : Int32)) / (256 : Int32)) - ((((((x27_4 * (1664525 : Int32)) + (1013904223 : Int32)) * (1664525 : Int32)) + (1013904223 : Int32)) &&& (2147483647 : Int32)) / (256 : Int32)) / (9 : Int32) * (9 : Int32)) + (1 : Int32))), (4, .int ((((x27_4 * (1664525 : Int32)) + (1013904223 : Int32)) * (1664525 : Int32)) + (1013904223 : Int32))), (7, .int (((((x27_4 * (1664525 : Int32)) + (1013904223 : Int32)) &&& (2147483647 : Int32)) / (256 : Int32)) - ((((x27_4 * (1664525 : Int32)) + (1013904223 : Int32)) &&& (2147483647 : Int32)) / (256 : Int32)) / (10 : Int32) * (10 : Int32))), (0, .ref (f 0)), (1, .int p1), (5, .int x27_5), (6, .int x27_6)]) hx hb dX4_seeds_81 hl (by decide) rfl (fun ls hl => ?_)
        refine lv_iload hx hb dX4_seeds_83 (lv_at hl 5 rfl) ?_
        refine lv_aload_n hx hb dX4_seeds_85 rfl (lv_at hl 3 rfl) ?_
        refine lv_iload hx hb dX4_seeds_86 (lv_at hl 0 rfl) ?_
        refine lv_iload hx hb dX4_seeds_88 (lv_at hl 2 rfl) ?_
        refine lv_aload_n hx hb dX4_seeds_90 rfl (lv_at hl 3 rfl) ?_
        refine va_get (D := (dC, dI)) (ci := 4) (v := .int (R_minute c_r)) (C := RX4) (T := TX4) (N := 28) hx hb hts hiX4 hown hK hP 0 rfl rfl 8 (by decide) hw4 (fun _ h9 => h9) rfl dX4_seeds_91 ?_
        obtain ⟨q94, e94, h⟩ := bd_some h
        refine g_roV (wc := (zwM cI cC f c_r c_refused c_tape c_letter c_letterAt c_number c_taped c_at c_statements c_kept c_hasImage c_isKeeping c_cursor c_poled c_barred c_leapsTo c_leapsThen c_lands c_row c_rowMany c_endsAt)) ⟨hx, hb, hml, hown, hts⟩ hE hK hP hS [0, 1, 2, 3, 4, 5, 6, 7, 8, 9, 10, 11, 12, 13, 14, 15] rfl (mX4_soonestFrom l dC dI cI cC sk f ((((((((x27_4 * (1664525 : Int32)) + (1013904223 : Int32)) * (1664525 : Int32)) + (1013904223 : Int32)) &&& (2147483647 : Int32)) / (256 : Int32)) - ((((((x27_4 * (1664525 : Int32)) + (1013904223 : Int32)) * (1664525 : Int32)) + (1013904223 : Int32)) &&& (2147483647 : Int32)) / (256 : Int32)) / (9 : Int32) * (9 : Int32)) + (1 : Int32)) (((((x27_4 * (1664525 : Int32)) + (1013904223 : Int32)) &&& (2147483647 : Int32)) / (256 : Int32)) - ((((x27_4 * (1664525 : Int32)) + (1013904223 : Int32)) &&& (2147483647 : Int32)) / (256 : Int32)) / (10 : Int32) * (10 : Int32)) (R_minute c_r) c_r c_refused c_tape c_letter c_letterAt c_number c_taped c_at c_statements c_kept c_hasImage c_isKeeping c_cursor c_poled c_barred c_leapsTo c_leapsThen c_lands c_row c_rowMany c_endsAt q94 e94) (cwV 3 hts gX4_seeds_X4_soonestFrom rfl rfl rfl (by decide +kernel) ⟨Nat.le_of_ble_eq_true rfl, Nat.le_of_ble_eq_true rfl⟩) (va_recv hK hP (ci := 4) (q0 := 0) rfl rfl) (As := [.int ((((((((x27_4 * (1664525 : Int32)) + (1013904223 : Int32)) * (1664525 : Int32)) + (1013904223 : Int32)) &&& (2147483647 : Int32)) / (256 : Int32)) - ((((((x27_4 * (1664525 : Int32)) + (1013904223 : Int32)) * (1664525 : Int32)) + (1013904223 : Int32)) &&& (2147483647 : Int32)) / (256 : Int32)) / (9 : Int32) * (9 : Int32)) + (1 : Int32)), .int (((((x27_4 * (1664525 : Int32)) + (1013904223 : Int32)) &&& (2147483647 : Int32)) / (256 : Int32)) - ((((x27_4 * (1664525 : Int32)) + (1013904223 : Int32)) &&& (2147483647 : Int32)) / (256 : Int32)) / (10 : Int32) * (10 : Int32)), .int (R_minute c_r)]) (rest := [.int x27_5]) rfl hl.1 rfl (Nat.le_of_ble_eq_true rfl) dX4_seeds_94 ⟨Nat.zero_le _, Nat.zero_le _⟩ (fun H locs hP hS => ?_)
        refine lv_if_lt (tgt := 104) hx hb dX4_seeds_97 (by decide) (fun c97 => ?_) (fun c97 => ?_)
        · have h := itT c97 h
          refine lv_iconst (v := (0 : Int32)) hx hb dX4_seeds_104 (by decide) ?_
          refine lv_iadd hx hb dX4_seeds_105 ?_
          refine lv_istore (lv' := [(5, .int (x27_5 + (0 : Int32))), (8, .int ((((((((x27_4 * (1664525 : Int32)) + (1013904223 : Int32)) * (1664525 : Int32)) + (1013904223 : Int32)) &&& (2147483647 : Int32)) / (256 : Int32)) - ((((((x27_4 * (1664525 : Int32)) + (1013904223 : Int32)) * (1664525 : Int32)) + (1013904223 : Int32)) &&& (2147483647 : Int32)) / (256 : Int32)) / (9 : Int32) * (9 : Int32)) + (1 : Int32))), (4, .int ((((x27_4 * (1664525 : Int32)) + (1013904223 : Int32)) * (1664525 : Int32)) + (1013904223 : Int32))), (7, .int (((((x27_4 * (1664525 : Int32)) + (1013904223 : Int32)) &&& (2147483647 : Int32)) / (256 : Int32)) - ((((x27_4 * (1664525 : Int32)) + (1013904223 : Int32)) &&& (2147483647 : Int32)) / (256 : Int32)) / (10 : Int32) * (10 : Int32))), (0, .ref (f 0)), (1, .int p1), (6, .int x27_6)]) hx hb dX4_seeds_106 hl (by decide) rfl (fun ls hl => ?_)
          refine lv_iinc (v := (x27_6 + (1 : Int32))) (lv' := [(6, .int (x27_6 + (1 : Int32))), (5, .int (x27_5 + (0 : Int32))), (8, .int ((((((((x27_4 * (1664525 : Int32)) + (1013904223 : Int32)) * (1664525 : Int32)) + (1013904223 : Int32)) &&& (2147483647 : Int32)) / (256 : Int32)) - ((((((x27_4 * (1664525 : Int32)) + (1013904223 : Int32)) * (1664525 : Int32)) + (1013904223 : Int32)) &&& (2147483647 : Int32)) / (256 : Int32)) / (9 : Int32) * (9 : Int32)) + (1 : Int32))), (4, .int ((((x27_4 * (1664525 : Int32)) + (1013904223 : Int32)) * (1664525 : Int32)) + (1013904223 : Int32))), (7, .int (((((x27_4 * (1664525 : Int32)) + (1013904223 : Int32)) &&& (2147483647 : Int32)) / (256 : Int32)) - ((((x27_4 * (1664525 : Int32)) + (1013904223 : Int32)) &&& (2147483647 : Int32)) / (256 : Int32)) / (10 : Int32) * (10 : Int32))), (0, .ref (f 0)), (1, .int p1)]) hx hb dX4_seeds_108 hl (k := 6) rfl rfl (by decide) rfl (fun ls hl => ?_)
          refine lv_goto (tgt := 27) hx hb dX4_seeds_111 (by decide) ?_
          exact ih27 _ _ _ h _ _ _ hP hD hS (lv_sub hl [5, 6, 3, 1, 0] rfl)
        have h := itF c97 h
        refine lv_iconst (v := (1 : Int32)) hx hb dX4_seeds_100 (by decide) ?_
        refine lv_goto (tgt := 105) hx hb dX4_seeds_101 (by decide) ?_
        refine lv_iadd hx hb dX4_seeds_105 ?_
        refine lv_istore (lv' := [(5, .int (x27_5 + (1 : Int32))), (8, .int ((((((((x27_4 * (1664525 : Int32)) + (1013904223 : Int32)) * (1664525 : Int32)) + (1013904223 : Int32)) &&& (2147483647 : Int32)) / (256 : Int32)) - ((((((x27_4 * (1664525 : Int32)) + (1013904223 : Int32)) * (1664525 : Int32)) + (1013904223 : Int32)) &&& (2147483647 : Int32)) / (256 : Int32)) / (9 : Int32) * (9 : Int32)) + (1 : Int32))), (4, .int ((((x27_4 * (1664525 : Int32)) + (1013904223 : Int32)) * (1664525 : Int32)) + (1013904223 : Int32))), (7, .int (((((x27_4 * (1664525 : Int32)) + (1013904223 : Int32)) &&& (2147483647 : Int32)) / (256 : Int32)) - ((((x27_4 * (1664525 : Int32)) + (1013904223 : Int32)) &&& (2147483647 : Int32)) / (256 : Int32)) / (10 : Int32) * (10 : Int32))), (0, .ref (f 0)), (1, .int p1), (6, .int x27_6)]) hx hb dX4_seeds_106 hl (by decide) rfl (fun ls hl => ?_)
        refine lv_iinc (v := (x27_6 + (1 : Int32))) (lv' := [(6, .int (x27_6 + (1 : Int32))), (5, .int (x27_5 + (1 : Int32))), (8, .int ((((((((x27_4 * (1664525 : Int32)) + (1013904223 : Int32)) * (1664525 : Int32)) + (1013904223 : Int32)) &&& (2147483647 : Int32)) / (256 : Int32)) - ((((((x27_4 * (1664525 : Int32)) + (1013904223 : Int32)) * (1664525 : Int32)) + (1013904223 : Int32)) &&& (2147483647 : Int32)) / (256 : Int32)) / (9 : Int32) * (9 : Int32)) + (1 : Int32))), (4, .int ((((x27_4 * (1664525 : Int32)) + (1013904223 : Int32)) * (1664525 : Int32)) + (1013904223 : Int32))), (7, .int (((((x27_4 * (1664525 : Int32)) + (1013904223 : Int32)) &&& (2147483647 : Int32)) / (256 : Int32)) - ((((x27_4 * (1664525 : Int32)) + (1013904223 : Int32)) &&& (2147483647 : Int32)) / (256 : Int32)) / (10 : Int32) * (10 : Int32))), (0, .ref (f 0)), (1, .int p1)]) hx hb dX4_seeds_108 hl (k := 6) rfl rfl (by decide) rfl (fun ls hl => ?_)
        refine lv_goto (tgt := 27) hx hb dX4_seeds_111 (by decide) ?_
        exact ih27 _ _ _ h _ _ _ hP hD hS (lv_sub hl [5, 6, 3, 1, 0] rfl)
    refine L27 _ (fun k27_5 h H locs ls hP hD hS hl => ?_) _ _ _ _ h _ _ _ hP hD hS (lv_sub hl [4, 5, 2, 1, 0] rfl)
    refine lv_iload hx hb dX4_seeds_114 (lv_at hl 0 rfl) ?_
    subst hQ
    exact retRW (zz := ((k27_5, c_refused) : Int32 × AR)) (fun z => z.1) (fun z => (zwM cI cC f c_r z.2 c_tape c_letter c_letterAt c_number c_taped c_at c_statements c_kept c_hasImage c_isKeeping c_cursor c_poled c_barred c_leapsTo c_leapsThen c_lands c_row c_rowMany c_endsAt)) hx hb hr hlocks rfl hS h rfl hP dX4_seeds_116
  have h := itF c9 h
  refine lv_aload_n hx hb dX4_seeds_12 rfl (lv_at hl 1 rfl) ?_
  refine lv_iload_n hx hb dX4_seeds_13 rfl (lv_at hl 0 rfl) ?_
  obtain ⟨q14, e14, h⟩ := bd_some h
  refine g_rwA (wc := (zwM cI cC f c_r c_refused c_tape c_letter c_letterAt c_number c_taped c_at c_statements c_kept c_hasImage c_isKeeping c_cursor c_poled c_barred c_leapsTo c_leapsThen c_lands c_row c_rowMany c_endsAt)) (wc' := (zwM cI cC f c_r q14.2 c_tape c_letter c_letterAt c_number c_taped c_at c_statements c_kept c_hasImage c_isKeeping c_cursor c_poled c_barred c_leapsTo c_leapsThen c_lands c_row c_rowMany c_endsAt)) ⟨hx, hb, hml, hown, hts⟩ hE hK hA hP hD hS rfl (mX4_no l dC dI cI cC sk f H.size q4 c_r c_refused c_tape c_letter c_letterAt c_number c_taped c_at c_statements c_kept c_hasImage c_isKeeping c_cursor c_poled c_barred c_leapsTo c_leapsThen c_lands c_row c_rowMany c_endsAt q14 e14) (cwV 1 hts gX4_seeds_X4_no rfl rfl rfl (by decide +kernel) ⟨Nat.le_of_ble_eq_true rfl, Nat.le_of_ble_eq_true rfl⟩) (va_recv hK hP (ci := 4) (q0 := 0) rfl rfl) (As := [.int q4]) (rest := []) rfl hl.1 rfl (Nat.le_of_ble_eq_true rfl) dX4_seeds_14 ⟨Nat.zero_le _, Nat.zero_le _⟩ (fun H locs hP hD hS => ?_)
  have hP : va_P (dC, dI) vwCl (zwM cI cC f c_r q14.2 c_tape c_letter c_letterAt c_number c_taped c_at c_statements c_kept c_hasImage c_isKeeping c_cursor c_poled c_barred c_leapsTo c_leapsThen c_lands c_row c_rowMany c_endsAt) H := hP
  have hD : va_D A (zwM cI cC f c_r q14.2 c_tape c_letter c_letterAt c_number c_taped c_at c_statements c_kept c_hasImage c_isKeeping c_cursor c_poled c_barred c_leapsTo c_leapsThen c_lands c_row c_rowMany c_endsAt) := hD
  subst hQ
  exact retRW (zz := ((q14.1, q14.2) : Int32 × AR)) (fun z => z.1) (fun z => (zwM cI cC f c_r z.2 c_tape c_letter c_letterAt c_number c_taped c_at c_statements c_kept c_hasImage c_isKeeping c_cursor c_poled c_barred c_leapsTo c_leapsThen c_lands c_row c_rowMany c_endsAt)) hx hb hr hlocks rfl hS h rfl hP dX4_seeds_17
