theorem dX4_goesOnHeld_0 : decode cX4_goesOnHeld 0 = .ok (.iconst 0, 1) := by decide +kernel
theorem dX4_goesOnHeld_1 : decode cX4_goesOnHeld 1 = .ok (.istore 4, 2) := by decide +kernel
theorem dX4_goesOnHeld_3 : decode cX4_goesOnHeld 3 = .ok (.iconst 0, 1) := by decide +kernel
theorem dX4_goesOnHeld_4 : decode cX4_goesOnHeld 4 = .ok (.istore 5, 2) := by decide +kernel
theorem dX4_goesOnHeld_6 : decode cX4_goesOnHeld 6 = .ok (.iload 5, 2) := by decide +kernel
theorem dX4_goesOnHeld_8 : decode cX4_goesOnHeld 8 = .ok (.bipush 19, 2) := by decide +kernel
theorem dX4_goesOnHeld_10 : decode cX4_goesOnHeld 10 = .ok (.if_icmp .ge 69, 3) := by decide +kernel
theorem dX4_goesOnHeld_13 : decode cX4_goesOnHeld 13 = .ok (.iload_n 1, 1) := by decide +kernel
theorem dX4_goesOnHeld_14 : decode cX4_goesOnHeld 14 = .ok (.iload 5, 2) := by decide +kernel
theorem dX4_goesOnHeld_16 : decode cX4_goesOnHeld 16 = .ok (.ishr, 1) := by decide +kernel
theorem dX4_goesOnHeld_17 : decode cX4_goesOnHeld 17 = .ok (.iconst 1, 1) := by decide +kernel
theorem dX4_goesOnHeld_18 : decode cX4_goesOnHeld 18 = .ok (.iand, 1) := by decide +kernel
theorem dX4_goesOnHeld_19 : decode cX4_goesOnHeld 19 = .ok (.ifCond .ne 6, 3) := by decide +kernel
theorem dX4_goesOnHeld_22 : decode cX4_goesOnHeld 22 = .ok (.goto 51, 3) := by decide +kernel
theorem dX4_goesOnHeld_25 : decode cX4_goesOnHeld 25 = .ok (.iconst 4, 1) := by decide +kernel
theorem dX4_goesOnHeld_26 : decode cX4_goesOnHeld 26 = .ok (.bipush 19, 2) := by decide +kernel
theorem dX4_goesOnHeld_28 : decode cX4_goesOnHeld 28 = .ok (.iload_n 2, 1) := by decide +kernel
theorem dX4_goesOnHeld_29 : decode cX4_goesOnHeld 29 = .ok (.imul, 1) := by decide +kernel
theorem dX4_goesOnHeld_30 : decode cX4_goesOnHeld 30 = .ok (.iload 5, 2) := by decide +kernel
theorem dX4_goesOnHeld_32 : decode cX4_goesOnHeld 32 = .ok (.iadd, 1) := by decide +kernel
theorem dX4_goesOnHeld_33 : decode cX4_goesOnHeld 33 = .ok (.imul, 1) := by decide +kernel
theorem dX4_goesOnHeld_34 : decode cX4_goesOnHeld 34 = .ok (.iconst 2, 1) := by decide +kernel
theorem dX4_goesOnHeld_35 : decode cX4_goesOnHeld 35 = .ok (.iload_n 3, 1) := by decide +kernel
theorem dX4_goesOnHeld_36 : decode cX4_goesOnHeld 36 = .ok (.iload 5, 2) := by decide +kernel
theorem dX4_goesOnHeld_38 : decode cX4_goesOnHeld 38 = .ok (.ishr, 1) := by decide +kernel
theorem dX4_goesOnHeld_39 : decode cX4_goesOnHeld 39 = .ok (.iconst 1, 1) := by decide +kernel
theorem dX4_goesOnHeld_40 : decode cX4_goesOnHeld 40 = .ok (.iand, 1) := by decide +kernel
theorem dX4_goesOnHeld_41 : decode cX4_goesOnHeld 41 = .ok (.imul, 1) := by decide +kernel
theorem dX4_goesOnHeld_42 : decode cX4_goesOnHeld 42 = .ok (.iadd, 1) := by decide +kernel
theorem dX4_goesOnHeld_43 : decode cX4_goesOnHeld 43 = .ok (.istore 6, 2) := by decide +kernel
theorem dX4_goesOnHeld_45 : decode cX4_goesOnHeld 45 = .ok (.iload 4, 2) := by decide +kernel
theorem dX4_goesOnHeld_47 : decode cX4_goesOnHeld 47 = .ok (.aload_n 0, 1) := by decide +kernel
theorem dX4_goesOnHeld_48 : decode cX4_goesOnHeld 48 = .ok (.getfield 53, 3) := by decide +kernel
theorem dX4_goesOnHeld_51 : decode cX4_goesOnHeld 51 = .ok (.iload 6, 2) := by decide +kernel
theorem dX4_goesOnHeld_53 : decode cX4_goesOnHeld 53 = .ok (.iaload, 1) := by decide +kernel
theorem dX4_goesOnHeld_54 : decode cX4_goesOnHeld 54 = .ok (.iload_n 3, 1) := by decide +kernel
theorem dX4_goesOnHeld_55 : decode cX4_goesOnHeld 55 = .ok (.iconst (-1), 1) := by decide +kernel
theorem dX4_goesOnHeld_56 : decode cX4_goesOnHeld 56 = .ok (.ixor, 1) := by decide +kernel
theorem dX4_goesOnHeld_57 : decode cX4_goesOnHeld 57 = .ok (.iand, 1) := by decide +kernel
theorem dX4_goesOnHeld_58 : decode cX4_goesOnHeld 58 = .ok (.aload_n 0, 1) := by decide +kernel
theorem dX4_goesOnHeld_59 : decode cX4_goesOnHeld 59 = .ok (.getfield 53, 3) := by decide +kernel
theorem dX4_goesOnHeld_62 : decode cX4_goesOnHeld 62 = .ok (.iload 6, 2) := by decide +kernel
theorem dX4_goesOnHeld_64 : decode cX4_goesOnHeld 64 = .ok (.iconst 1, 1) := by decide +kernel
theorem dX4_goesOnHeld_65 : decode cX4_goesOnHeld 65 = .ok (.iadd, 1) := by decide +kernel
theorem dX4_goesOnHeld_66 : decode cX4_goesOnHeld 66 = .ok (.iaload, 1) := by decide +kernel
theorem dX4_goesOnHeld_67 : decode cX4_goesOnHeld 67 = .ok (.iload_n 3, 1) := by decide +kernel
theorem dX4_goesOnHeld_68 : decode cX4_goesOnHeld 68 = .ok (.iand, 1) := by decide +kernel
theorem dX4_goesOnHeld_69 : decode cX4_goesOnHeld 69 = .ok (.ior, 1) := by decide +kernel
theorem dX4_goesOnHeld_70 : decode cX4_goesOnHeld 70 = .ok (.ior, 1) := by decide +kernel
theorem dX4_goesOnHeld_71 : decode cX4_goesOnHeld 71 = .ok (.istore 4, 2) := by decide +kernel
theorem dX4_goesOnHeld_73 : decode cX4_goesOnHeld 73 = .ok (.iinc 5 1, 3) := by decide +kernel
theorem dX4_goesOnHeld_76 : decode cX4_goesOnHeld 76 = .ok (.goto (-70), 3) := by decide +kernel
theorem dX4_goesOnHeld_79 : decode cX4_goesOnHeld 79 = .ok (.iload 4, 2) := by decide +kernel
theorem dX4_goesOnHeld_81 : decode cX4_goesOnHeld 81 = .ok (.ireturn, 1) := by decide +kernel
set_option maxHeartbeats 4000000 in
set_option maxRecDepth 100000 in
theorem mX4_goesOnHeld (l : Launch) (dC : Nat → ClassId) (dI : Nat → Nat → Nat) (cI cC : ClassId) (sk : (Nat → Nat) × (Nat → Nat)) (f : Nat → Nat) (p1 : Int32) (p2 : Int32) (p3 : Int32) (c_r : RT) (c_refused : AR) (c_tape : AR) (c_letter : AR) (c_letterAt : AR) (c_number : AR) (c_taped : Int32) (c_at : Int32) (c_statements : Int32) (c_kept : AR) (c_hasImage : Int32) (c_isKeeping : Int32) (c_cursor : Int32) (c_poled : Int32) (c_barred : Int32) (c_leapsTo : AR) (c_leapsThen : AR) (c_lands : AR) (c_row : AR) (c_rowMany : Int32) (c_endsAt : Int32) (z : Int32) (h : fX4_goesOnHeld p1 p2 p3 c_lands = some z) : cRO l yX4_goesOnHeld wsX4_goesOnHeld (RMk 0 0) sk (dC, dI) (tyz cI cC) (zwM cI cC f c_r c_refused c_tape c_letter c_letterAt c_number c_taped c_at c_statements c_kept c_hasImage c_isKeeping c_cursor c_poled c_barred c_leapsTo c_leapsThen c_lands c_row c_rowMany c_endsAt) [.ref (f 0), .int p1, .int p2, .int p3] z := by
  refine ofRO (cc := cX4_goesOnHeld) (maxL := 7) (ret := (some .int)) (own := RX4) (plainFor_of_name (by decide)) rfl rfl (Nat.le_of_ble_eq_true rfl) ?_
  intro p e s m args below meth c hx hb hml hr hts hown hlocks hE hK hP hS ls hl
  generalize hQ : qRO _ _ _ _ = Q
  have hl : lv_has ls 7 [(0, .ref (f 0)), (1, .int p1), (2, .int p2), (3, .int p3)] := hl
  have hiX4 : ∀ w ∈ wsX40, w ∈ wsX4_goesOnHeld := fun w h => List.mem_cons_of_mem _ (List.mem_append_right _ h)
  have hw1 := hts (Cond.fieldLink RX4 53 "FloeToFloeModel" "lands" "[I") (List.mem_of_getElem? (i := 1) rfl)
  rw [fX4_goesOnHeld] at h
  refine lv_iconst (v := (0 : Int32)) hx hb dX4_goesOnHeld_0 (by decide) ?_
  refine lv_istore (lv' := [(4, .int (0 : Int32)), (0, .ref (f 0)), (1, .int p1), (2, .int p2), (3, .int p3)]) hx hb dX4_goesOnHeld_1 hl (by decide) rfl (fun ls hl => ?_)
  refine lv_iconst (v := (0 : Int32)) hx hb dX4_goesOnHeld_3 (by decide) ?_
  refine lv_istore (lv' := [(5, .int (0 : Int32)), (4, .int (0 : Int32)), (0, .ref (f 0)), (1, .int p1), (2, .int p2), (3, .int p3)]) hx hb dX4_goesOnHeld_4 hl (by decide) rfl (fun ls hl => ?_)
  have L6 : ∀ (K6 : Int32 → Option (Int32)), (∀ (k6_4 : Int32), K6 k6_4 = some z → ∀ (H : Heap) (locs : List Loc) (ls : Array Slot), va_P (dC, dI) vwCl (zwM cI cC f c_r c_refused c_tape c_letter c_letterAt c_number c_taped c_at c_statements c_kept c_hasImage c_isKeeping c_cursor c_poled c_barred c_leapsTo c_leapsThen c_lands c_row c_rowMany c_endsAt) H → va_S noA s.heap H locs → lv_has ls 7 [(4, .int k6_4)] → W p l e (RMk 0 0) s m args below meth c H locs 0 0 Q (F0 m 79 ls [])) → ∀ (n : Nat) (x6_4 : Int32) (x6_5 : Int32), fX4_goesOnHeld_L6 c_lands p1 p2 p3 K6 n x6_4 x6_5 = some z → ∀ (H : Heap) (locs : List Loc) (ls : Array Slot), va_P (dC, dI) vwCl (zwM cI cC f c_r c_refused c_tape c_letter c_letterAt c_number c_taped c_at c_statements c_kept c_hasImage c_isKeeping c_cursor c_poled c_barred c_leapsTo c_leapsThen c_lands c_row c_rowMany c_endsAt) H → va_S noA s.heap H locs → lv_has ls 7 [(0, .ref (f 0)), (1, .int p1), (2, .int p2), (3, .int p3), (4, .int x6_4), (5, .int x6_5)] → W p l e (RMk 0 0) s m args below meth c H locs 0 0 Q (F0 m 6 ls []) := by
    intro K6 kx6 n
    induction n with
    | zero => intro x6_4 x6_5 h; rw [fX4_goesOnHeld_L6] at h; cases h
    | succ n ih6 =>
      intro x6_4 x6_5 h H locs ls hP hS hl
      rw [fX4_goesOnHeld_L6] at h
      refine lv_iload hx hb dX4_goesOnHeld_6 (lv_at hl 5 rfl) ?_
      refine lv_bipush (v := (19 : Int32)) hx hb dX4_goesOnHeld_8 (by decide) ?_
      refine lv_icmp_ge (tgt := 79) hx hb dX4_goesOnHeld_10 (by decide) (fun c10 => ?_) (fun c10 => ?_)
      · have h := itT c10 h
        exact kx6 _ h _ _ _ hP hS (lv_sub hl [4] rfl)
      have h := itF c10 h
      refine lv_iload_n hx hb dX4_goesOnHeld_13 rfl (lv_at hl 1 rfl) ?_
      refine lv_iload hx hb dX4_goesOnHeld_14 (lv_at hl 5 rfl) ?_
      refine lv_ishr hx hb dX4_goesOnHeld_16 ?_
      refine lv_iconst (v := (1 : Int32)) hx hb dX4_goesOnHeld_17 (by decide) ?_
      refine lv_iand hx hb dX4_goesOnHeld_18 ?_
      refine lv_if_ne (tgt := 25) hx hb dX4_goesOnHeld_19 (by decide) (fun c19 => ?_) (fun c19 => ?_)
      · have h := itF c19 h
        refine lv_iconst (v := (4 : Int32)) hx hb dX4_goesOnHeld_25 (by decide) ?_
        refine lv_bipush (v := (19 : Int32)) hx hb dX4_goesOnHeld_26 (by decide) ?_
        refine lv_iload_n hx hb dX4_goesOnHeld_28 rfl (lv_at hl 2 rfl) ?_
        refine lv_imul hx hb dX4_goesOnHeld_29 ?_
        refine lv_iload hx hb dX4_goesOnHeld_30 (lv_at hl 5 rfl) ?_
        refine lv_iadd hx hb dX4_goesOnHeld_32 ?_
        refine lv_imul hx hb dX4_goesOnHeld_33 ?_
        refine lv_iconst (v := (2 : Int32)) hx hb dX4_goesOnHeld_34 (by decide) ?_
        refine lv_iload_n hx hb dX4_goesOnHeld_35 rfl (lv_at hl 3 rfl) ?_
        refine lv_iload hx hb dX4_goesOnHeld_36 (lv_at hl 5 rfl) ?_
        refine lv_ishr hx hb dX4_goesOnHeld_38 ?_
        refine lv_iconst (v := (1 : Int32)) hx hb dX4_goesOnHeld_39 (by decide) ?_
        refine lv_iand hx hb dX4_goesOnHeld_40 ?_
        refine lv_imul hx hb dX4_goesOnHeld_41 ?_
        refine lv_iadd hx hb dX4_goesOnHeld_42 ?_
        refine lv_istore (lv' := [(6, .int (((4 : Int32) * (((19 : Int32) * p2) + x6_5)) + ((2 : Int32) * ((p3 >>> (x6_5 &&& 31)) &&& (1 : Int32))))), (0, .ref (f 0)), (1, .int p1), (2, .int p2), (3, .int p3), (4, .int x6_4), (5, .int x6_5)]) hx hb dX4_goesOnHeld_43 hl (by decide) rfl (fun ls hl => ?_)
        refine lv_iload hx hb dX4_goesOnHeld_45 (lv_at hl 5 rfl) ?_
        refine lv_aload_n hx hb dX4_goesOnHeld_47 rfl (lv_at hl 1 rfl) ?_
        refine va_get (D := (dC, dI)) (ci := 4) (v := .ref (f 14)) (C := RX4) (T := TX4) (N := 28) hx hb hts hiX4 hown hK hP 0 rfl rfl 24 (by decide) hw1 (fun _ h9 => h9) rfl dX4_goesOnHeld_48 ?_
        refine lv_iload hx hb dX4_goesOnHeld_51 (lv_at hl 0 rfl) ?_
        obtain ⟨hin, h⟩ := ck_some h
        refine va_iald hx hb hK hP 14 0 rfl rfl hin dX4_goesOnHeld_53 ?_
        refine lv_iload_n hx hb dX4_goesOnHeld_54 rfl (lv_at hl 4 rfl) ?_
        refine lv_iconst (v := (-1 : Int32)) hx hb dX4_goesOnHeld_55 (by decide) ?_
        refine lv_ixor hx hb dX4_goesOnHeld_56 ?_
        refine lv_iand hx hb dX4_goesOnHeld_57 ?_
        refine lv_aload_n hx hb dX4_goesOnHeld_58 rfl (lv_at hl 1 rfl) ?_
        refine va_get (D := (dC, dI)) (ci := 4) (v := .ref (f 14)) (C := RX4) (T := TX4) (N := 28) hx hb hts hiX4 hown hK hP 0 rfl rfl 24 (by decide) hw1 (fun _ h9 => h9) rfl dX4_goesOnHeld_59 ?_
        refine lv_iload hx hb dX4_goesOnHeld_62 (lv_at hl 0 rfl) ?_
        refine lv_iconst (v := (1 : Int32)) hx hb dX4_goesOnHeld_64 (by decide) ?_
        refine lv_iadd hx hb dX4_goesOnHeld_65 ?_
        obtain ⟨hin, h⟩ := ck_some h
        refine va_iald hx hb hK hP 14 0 rfl rfl hin dX4_goesOnHeld_66 ?_
        refine lv_iload_n hx hb dX4_goesOnHeld_67 rfl (lv_at hl 4 rfl) ?_
        refine lv_iand hx hb dX4_goesOnHeld_68 ?_
        refine lv_ior hx hb dX4_goesOnHeld_69 ?_
        refine lv_ior hx hb dX4_goesOnHeld_70 ?_
        refine lv_istore (lv' := [(4, .int (x6_4 ||| (((c_lands ((((4 : Int32) * (((19 : Int32) * p2) + x6_5)) + ((2 : Int32) * ((p3 >>> (x6_5 &&& 31)) &&& (1 : Int32))))).toNatClampNeg) &&& (p3 ^^^ (-1 : Int32))) ||| ((c_lands (((((4 : Int32) * (((19 : Int32) * p2) + x6_5)) + ((2 : Int32) * ((p3 >>> (x6_5 &&& 31)) &&& (1 : Int32)))) + (1 : Int32))).toNatClampNeg) &&& p3)))), (6, .int (((4 : Int32) * (((19 : Int32) * p2) + x6_5)) + ((2 : Int32) * ((p3 >>> (x6_5 &&& 31)) &&& (1 : Int32))))), (0, .ref (f 0)), (1, .int p1), (2, .int p2), (3, .int p3), (5, .int x6_5)]) hx hb dX4_goesOnHeld_71 hl (by decide) rfl (fun ls hl => ?_)
        refine lv_iinc (v := (x6_5 + (1 : Int32))) (lv' := [(5, .int (x6_5 + (1 : Int32))), (4, .int (x6_4 ||| (((c_lands ((((4 : Int32) * (((19 : Int32) * p2) + x6_5)) + ((2 : Int32) * ((p3 >>> (x6_5 &&& 31)) &&& (1 : Int32))))).toNatClampNeg) &&& (p3 ^^^ (-1 : Int32))) ||| ((c_lands (((((4 : Int32) * (((19 : Int32) * p2) + x6_5)) + ((2 : Int32) * ((p3 >>> (x6_5 &&& 31)) &&& (1 : Int32)))) + (1 : Int32))).toNatClampNeg) &&& p3)))), (6, .int (((4 : Int32) * (((19 : Int32) * p2) + x6_5)) + ((2 : Int32) * ((p3 >>> (x6_5 &&& 31)) &&& (1 : Int32))))), (0, .ref (f 0)), (1, .int p1), (2, .int p2), (3, .int p3)]) hx hb dX4_goesOnHeld_73 hl (k := 6) rfl rfl (by decide) rfl (fun ls hl => ?_)
        refine lv_goto (tgt := 6) hx hb dX4_goesOnHeld_76 (by decide) ?_
        exact ih6 _ _ h _ _ _ hP hS (lv_sub hl [3, 4, 5, 6, 1, 0] rfl)
      have h := itT c19 h
      refine lv_goto (tgt := 73) hx hb dX4_goesOnHeld_22 (by decide) ?_
      refine lv_iinc (v := (x6_5 + (1 : Int32))) (lv' := [(5, .int (x6_5 + (1 : Int32))), (0, .ref (f 0)), (1, .int p1), (2, .int p2), (3, .int p3), (4, .int x6_4)]) hx hb dX4_goesOnHeld_73 hl (k := 5) rfl rfl (by decide) rfl (fun ls hl => ?_)
      refine lv_goto (tgt := 6) hx hb dX4_goesOnHeld_76 (by decide) ?_
      exact ih6 _ _ h _ _ _ hP hS (lv_sub hl [1, 2, 3, 4, 5, 0] rfl)
  refine L6 _ (fun k6_4 h H locs ls hP hS hl => ?_) _ _ _ h _ _ _ hP hS (lv_sub hl [2, 3, 4, 5, 1, 0] rfl)
  refine lv_iload hx hb dX4_goesOnHeld_79 (lv_at hl 0 rfl) ?_
  subst hQ
  exact retRO hx hb hr hlocks rfl hS h dX4_goesOnHeld_81
theorem dX4_comesOverHeld_0 : decode cX4_comesOverHeld 0 = .ok (.iconst 1, 1) := by decide +kernel
theorem dX4_comesOverHeld_1 : decode cX4_comesOverHeld 1 = .ok (.iload_n 1, 1) := by decide +kernel
theorem dX4_comesOverHeld_2 : decode cX4_comesOverHeld 2 = .ok (.ishl, 1) := by decide +kernel
theorem dX4_comesOverHeld_3 : decode cX4_comesOverHeld 3 = .ok (.istore_n 3, 1) := by decide +kernel
theorem dX4_comesOverHeld_4 : decode cX4_comesOverHeld 4 = .ok (.iconst 0, 1) := by decide +kernel
theorem dX4_comesOverHeld_5 : decode cX4_comesOverHeld 5 = .ok (.istore 4, 2) := by decide +kernel
theorem dX4_comesOverHeld_7 : decode cX4_comesOverHeld 7 = .ok (.iload 4, 2) := by decide +kernel
theorem dX4_comesOverHeld_9 : decode cX4_comesOverHeld 9 = .ok (.bipush 40, 2) := by decide +kernel
theorem dX4_comesOverHeld_11 : decode cX4_comesOverHeld 11 = .ok (.if_icmp .gt 30, 3) := by decide +kernel
theorem dX4_comesOverHeld_14 : decode cX4_comesOverHeld 14 = .ok (.iload_n 3, 1) := by decide +kernel
theorem dX4_comesOverHeld_15 : decode cX4_comesOverHeld 15 = .ok (.bipush 18, 2) := by decide +kernel
theorem dX4_comesOverHeld_17 : decode cX4_comesOverHeld 17 = .ok (.ishr, 1) := by decide +kernel
theorem dX4_comesOverHeld_18 : decode cX4_comesOverHeld 18 = .ok (.iconst 1, 1) := by decide +kernel
theorem dX4_comesOverHeld_19 : decode cX4_comesOverHeld 19 = .ok (.iand, 1) := by decide +kernel
theorem dX4_comesOverHeld_20 : decode cX4_comesOverHeld 20 = .ok (.iconst 1, 1) := by decide +kernel
theorem dX4_comesOverHeld_21 : decode cX4_comesOverHeld 21 = .ok (.if_icmp .ne 5, 3) := by decide +kernel
theorem dX4_comesOverHeld_24 : decode cX4_comesOverHeld 24 = .ok (.iconst 1, 1) := by decide +kernel
theorem dX4_comesOverHeld_25 : decode cX4_comesOverHeld 25 = .ok (.ireturn, 1) := by decide +kernel
theorem dX4_comesOverHeld_26 : decode cX4_comesOverHeld 26 = .ok (.aload_n 0, 1) := by decide +kernel
theorem dX4_comesOverHeld_27 : decode cX4_comesOverHeld 27 = .ok (.iload_n 3, 1) := by decide +kernel
theorem dX4_comesOverHeld_28 : decode cX4_comesOverHeld 28 = .ok (.iload 4, 2) := by decide +kernel
theorem dX4_comesOverHeld_30 : decode cX4_comesOverHeld 30 = .ok (.iload_n 2, 1) := by decide +kernel
theorem dX4_comesOverHeld_31 : decode cX4_comesOverHeld 31 = .ok (.invokevirtual 199, 3) := by decide +kernel
theorem dX4_comesOverHeld_34 : decode cX4_comesOverHeld 34 = .ok (.istore_n 3, 1) := by decide +kernel
theorem dX4_comesOverHeld_35 : decode cX4_comesOverHeld 35 = .ok (.iinc 4 1, 3) := by decide +kernel
theorem dX4_comesOverHeld_38 : decode cX4_comesOverHeld 38 = .ok (.goto (-31), 3) := by decide +kernel
theorem dX4_comesOverHeld_41 : decode cX4_comesOverHeld 41 = .ok (.iconst 0, 1) := by decide +kernel
theorem dX4_comesOverHeld_42 : decode cX4_comesOverHeld 42 = .ok (.ireturn, 1) := by decide +kernel
set_option maxRecDepth 20000 in
theorem ggX4_comesOverHeld_X4_goesOnHeld : GoodIn wsX4_comesOverHeld wsX4_goesOnHeld := goodIn_r _ [5, 6, 7, 8, 9, 10, 11, 12, 13, 14, 15, 16, 17, 18, 19, 20, 21, 22, 23, 24, 25, 26, 27, 28, 29, 30, 31, 32, 33, 34] (by decide +kernel) (by decide +kernel)
set_option maxRecDepth 20000 in
theorem gX4_comesOverHeld_X4_goesOnHeld : GoodIn wsX4_comesOverHeld (wsV RX4 199 RX4 yX4_goesOnHeld wsX4_goesOnHeld) := goodIn_app (goodIn_of _ (by decide +kernel)) ggX4_comesOverHeld_X4_goesOnHeld
set_option maxHeartbeats 4000000 in
set_option maxRecDepth 100000 in
theorem mX4_comesOverHeld (l : Launch) (dC : Nat → ClassId) (dI : Nat → Nat → Nat) (cI cC : ClassId) (sk : (Nat → Nat) × (Nat → Nat)) (f : Nat → Nat) (p1 : Int32) (p2 : Int32) (c_r : RT) (c_refused : AR) (c_tape : AR) (c_letter : AR) (c_letterAt : AR) (c_number : AR) (c_taped : Int32) (c_at : Int32) (c_statements : Int32) (c_kept : AR) (c_hasImage : Int32) (c_isKeeping : Int32) (c_cursor : Int32) (c_poled : Int32) (c_barred : Int32) (c_leapsTo : AR) (c_leapsThen : AR) (c_lands : AR) (c_row : AR) (c_rowMany : Int32) (c_endsAt : Int32) (z : Int32) (h : fX4_comesOverHeld p1 p2 c_lands = some z) : cRO l yX4_comesOverHeld wsX4_comesOverHeld (RMk 1 26) sk (dC, dI) (tyz cI cC) (zwM cI cC f c_r c_refused c_tape c_letter c_letterAt c_number c_taped c_at c_statements c_kept c_hasImage c_isKeeping c_cursor c_poled c_barred c_leapsTo c_leapsThen c_lands c_row c_rowMany c_endsAt) [.ref (f 0), .int p1, .int p2] z := by
  refine ofRO (cc := cX4_comesOverHeld) (maxL := 5) (ret := (some .boolean)) (own := RX4) (plainFor_of_name (by decide)) rfl rfl (Nat.le_of_ble_eq_true rfl) ?_
  intro p e s m args below meth c hx hb hml hr hts hown hlocks hE hK hP hS ls hl
  generalize hQ : qRO _ _ _ _ = Q
  have hl : lv_has ls 5 [(0, .ref (f 0)), (1, .int p1), (2, .int p2)] := hl
  rw [fX4_comesOverHeld] at h
  refine lv_iconst (v := (1 : Int32)) hx hb dX4_comesOverHeld_0 (by decide) ?_
  refine lv_iload_n hx hb dX4_comesOverHeld_1 rfl (lv_at hl 1 rfl) ?_
  refine lv_ishl hx hb dX4_comesOverHeld_2 ?_
  refine lv_istore_n (lv' := [(3, .int ((1 : Int32) <<< (p1 &&& 31))), (0, .ref (f 0)), (1, .int p1), (2, .int p2)]) hx hb dX4_comesOverHeld_3 rfl hl (by decide) rfl (fun ls hl => ?_)
  refine lv_iconst (v := (0 : Int32)) hx hb dX4_comesOverHeld_4 (by decide) ?_
  refine lv_istore (lv' := [(4, .int (0 : Int32)), (3, .int ((1 : Int32) <<< (p1 &&& 31))), (0, .ref (f 0)), (1, .int p1), (2, .int p2)]) hx hb dX4_comesOverHeld_5 hl (by decide) rfl (fun ls hl => ?_)
  have L7 : ∀ (K7 : Unit → Option (Int32)), (∀ (_ : Unit), K7 () = some z → ∀ (H : Heap) (locs : List Loc) (ls : Array Slot), va_P (dC, dI) vwCl (zwM cI cC f c_r c_refused c_tape c_letter c_letterAt c_number c_taped c_at c_statements c_kept c_hasImage c_isKeeping c_cursor c_poled c_barred c_leapsTo c_leapsThen c_lands c_row c_rowMany c_endsAt) H → va_S noA s.heap H locs → lv_has ls 5 [] → W p l e (RMk 1 26) s m args below meth c H locs 0 0 Q (F0 m 41 ls [])) → ∀ (n : Nat) (x7_3 : Int32) (x7_4 : Int32), fX4_comesOverHeld_L7 c_lands p2 K7 n x7_3 x7_4 = some z → ∀ (H : Heap) (locs : List Loc) (ls : Array Slot), va_P (dC, dI) vwCl (zwM cI cC f c_r c_refused c_tape c_letter c_letterAt c_number c_taped c_at c_statements c_kept c_hasImage c_isKeeping c_cursor c_poled c_barred c_leapsTo c_leapsThen c_lands c_row c_rowMany c_endsAt) H → va_S noA s.heap H locs → lv_has ls 5 [(0, .ref (f 0)), (2, .int p2), (3, .int x7_3), (4, .int x7_4)] → W p l e (RMk 1 26) s m args below meth c H locs 0 0 Q (F0 m 7 ls []) := by
    intro K7 kx7 n
    induction n with
    | zero => intro x7_3 x7_4 h; rw [fX4_comesOverHeld_L7] at h; cases h
    | succ n ih7 =>
      intro x7_3 x7_4 h H locs ls hP hS hl
      rw [fX4_comesOverHeld_L7] at h
      refine lv_iload hx hb dX4_comesOverHeld_7 (lv_at hl 3 rfl) ?_
      refine lv_bipush (v := (40 : Int32)) hx hb dX4_comesOverHeld_9 (by decide) ?_
      refine lv_icmp_gt (tgt := 41) hx hb dX4_comesOverHeld_11 (by decide) (fun c11 => ?_) (fun c11 => ?_)
      · have h := itT c11 h
        exact kx7 () h _ _ _ hP hS (lv_sub hl [] rfl)
      have h := itF c11 h
      refine lv_iload_n hx hb dX4_comesOverHeld_14 rfl (lv_at hl 2 rfl) ?_
      refine lv_bipush (v := (18 : Int32)) hx hb dX4_comesOverHeld_15 (by decide) ?_
      refine lv_ishr hx hb dX4_comesOverHeld_17 ?_
      refine lv_iconst (v := (1 : Int32)) hx hb dX4_comesOverHeld_18 (by decide) ?_
      refine lv_iand hx hb dX4_comesOverHeld_19 ?_
      refine lv_iconst (v := (1 : Int32)) hx hb dX4_comesOverHeld_20 (by decide) ?_
      refine lv_icmp_ne (tgt := 26) hx hb dX4_comesOverHeld_21 (by decide) (fun c21 => ?_) (fun c21 => ?_)
      · have h := itF c21 h
        refine lv_aload_n hx hb dX4_comesOverHeld_26 rfl (lv_at hl 0 rfl) ?_
        refine lv_iload_n hx hb dX4_comesOverHeld_27 rfl (lv_at hl 2 rfl) ?_
        refine lv_iload hx hb dX4_comesOverHeld_28 (lv_at hl 3 rfl) ?_
        refine lv_iload_n hx hb dX4_comesOverHeld_30 rfl (lv_at hl 1 rfl) ?_
        obtain ⟨q31, e31, h⟩ := bd_some h
        refine g_roV (wc := (zwM cI cC f c_r c_refused c_tape c_letter c_letterAt c_number c_taped c_at c_statements c_kept c_hasImage c_isKeeping c_cursor c_poled c_barred c_leapsTo c_leapsThen c_lands c_row c_rowMany c_endsAt)) ⟨hx, hb, hml, hown, hts⟩ hE hK hP hS [0, 1, 2, 3, 4, 5, 6, 7, 8, 9, 10, 11, 12, 13, 14, 15] rfl (mX4_goesOnHeld l dC dI cI cC sk f x7_3 x7_4 p2 c_r c_refused c_tape c_letter c_letterAt c_number c_taped c_at c_statements c_kept c_hasImage c_isKeeping c_cursor c_poled c_barred c_leapsTo c_leapsThen c_lands c_row c_rowMany c_endsAt q31 e31) (cwV 3 hts gX4_comesOverHeld_X4_goesOnHeld rfl rfl rfl (by decide +kernel) ⟨Nat.le_of_ble_eq_true rfl, Nat.le_of_ble_eq_true rfl⟩) (va_recv hK hP (ci := 4) (q0 := 0) rfl rfl) (As := [.int x7_3, .int x7_4, .int p2]) (rest := []) rfl hl.1 rfl (Nat.le_of_ble_eq_true rfl) dX4_comesOverHeld_31 ⟨Nat.zero_le _, Nat.zero_le _⟩ (fun H locs hP hS => ?_)
        refine lv_istore_n (lv' := [(3, .int q31), (0, .ref (f 0)), (2, .int p2), (4, .int x7_4)]) hx hb dX4_comesOverHeld_34 rfl hl (by decide) rfl (fun ls hl => ?_)
        refine lv_iinc (v := (x7_4 + (1 : Int32))) (lv' := [(4, .int (x7_4 + (1 : Int32))), (3, .int q31), (0, .ref (f 0)), (2, .int p2)]) hx hb dX4_comesOverHeld_35 hl (k := 3) rfl rfl (by decide) rfl (fun ls hl => ?_)
        refine lv_goto (tgt := 7) hx hb dX4_comesOverHeld_38 (by decide) ?_
        exact ih7 _ _ h _ _ _ hP hS (lv_sub hl [2, 3, 1, 0] rfl)
      have h := itT c21 h
      refine lv_iconst (v := (1 : Int32)) hx hb dX4_comesOverHeld_24 (by decide) ?_
      subst hQ
      exact retRO hx hb hr hlocks rfl hS h dX4_comesOverHeld_25
  refine L7 _ (fun _ h H locs ls hP hS hl => ?_) _ _ _ h _ _ _ hP hS (lv_sub hl [2, 4, 1, 0] rfl)
  refine lv_iconst (v := (0 : Int32)) hx hb dX4_comesOverHeld_41 (by decide) ?_
  subst hQ
  exact retRO hx hb hr hlocks rfl hS h dX4_comesOverHeld_42
