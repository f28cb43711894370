theorem dX4_findLands_0 : decode cX4_findLands 0 = .ok (.iconst 0, 1) := by decide +kernel
theorem dX4_findLands_1 : decode cX4_findLands 1 = .ok (.istore_n 2, 1) := by decide +kernel
theorem dX4_findLands_2 : decode cX4_findLands 2 = .ok (.iload_n 2, 1) := by decide +kernel
theorem dX4_findLands_3 : decode cX4_findLands 3 = .ok (.sipush 3116, 3) := by decide +kernel
theorem dX4_findLands_6 : decode cX4_findLands 6 = .ok (.if_icmp .ge 40, 3) := by decide +kernel
theorem dX4_findLands_9 : decode cX4_findLands 9 = .ok (.aload_n 0, 1) := by decide +kernel
theorem dX4_findLands_10 : decode cX4_findLands 10 = .ok (.getfield 53, 3) := by decide +kernel
theorem dX4_findLands_13 : decode cX4_findLands 13 = .ok (.iload_n 2, 1) := by decide +kernel
theorem dX4_findLands_14 : decode cX4_findLands 14 = .ok (.aload_n 0, 1) := by decide +kernel
theorem dX4_findLands_15 : decode cX4_findLands 15 = .ok (.iload_n 2, 1) := by decide +kernel
theorem dX4_findLands_16 : decode cX4_findLands 16 = .ok (.iconst 4, 1) := by decide +kernel
theorem dX4_findLands_17 : decode cX4_findLands 17 = .ok (.idiv, 1) := by decide +kernel
theorem dX4_findLands_18 : decode cX4_findLands 18 = .ok (.bipush 19, 2) := by decide +kernel
theorem dX4_findLands_20 : decode cX4_findLands 20 = .ok (.irem, 1) := by decide +kernel
theorem dX4_findLands_21 : decode cX4_findLands 21 = .ok (.iload_n 2, 1) := by decide +kernel
theorem dX4_findLands_22 : decode cX4_findLands 22 = .ok (.iconst 4, 1) := by decide +kernel
theorem dX4_findLands_23 : decode cX4_findLands 23 = .ok (.irem, 1) := by decide +kernel
theorem dX4_findLands_24 : decode cX4_findLands 24 = .ok (.iload_n 1, 1) := by decide +kernel
theorem dX4_findLands_25 : decode cX4_findLands 25 = .ok (.aload_n 0, 1) := by decide +kernel
theorem dX4_findLands_26 : decode cX4_findLands 26 = .ok (.getfield 101, 3) := by decide +kernel
theorem dX4_findLands_29 : decode cX4_findLands 29 = .ok (.iload_n 2, 1) := by decide +kernel
theorem dX4_findLands_30 : decode cX4_findLands 30 = .ok (.iconst 4, 1) := by decide +kernel
theorem dX4_findLands_31 : decode cX4_findLands 31 = .ok (.idiv, 1) := by decide +kernel
theorem dX4_findLands_32 : decode cX4_findLands 32 = .ok (.bipush 19, 2) := by decide +kernel
theorem dX4_findLands_34 : decode cX4_findLands 34 = .ok (.idiv, 1) := by decide +kernel
theorem dX4_findLands_35 : decode cX4_findLands 35 = .ok (.iadd, 1) := by decide +kernel
theorem dX4_findLands_36 : decode cX4_findLands 36 = .ok (.invokevirtual 195, 3) := by decide +kernel
theorem dX4_findLands_39 : decode cX4_findLands 39 = .ok (.iastore, 1) := by decide +kernel
theorem dX4_findLands_40 : decode cX4_findLands 40 = .ok (.iinc 2 1, 3) := by decide +kernel
theorem dX4_findLands_43 : decode cX4_findLands 43 = .ok (.goto (-41), 3) := by decide +kernel
theorem dX4_findLands_46 : decode cX4_findLands 46 = .ok (.return_, 1) := by decide +kernel
set_option maxRecDepth 20000 in
theorem ggX4_findLands_X4_landsFrom : GoodIn wsX4_findLands wsX4_landsFrom := goodIn_r _ [7, 8, 9, 10, 6, 11, 12, 13, 14, 15, 16, 17, 18, 19, 20, 21, 22, 23, 24, 25, 26, 27, 28, 29, 30, 31, 32, 33, 34, 35, 36, 37, 38, 39, 40, 41, 42, 43, 44, 45, 46, 2, 47, 48, 49, 50, 51, 52, 53, 54, 55, 56, 57, 58, 59, 60, 61, 62, 63, 64, 65, 66, 67, 68, 69, 70, 71, 72, 73, 74, 75, 76, 77, 78, 79, 80, 81, 82, 83] (by decide +kernel) (by decide +kernel)
set_option maxRecDepth 20000 in
theorem gX4_findLands_X4_landsFrom : GoodIn wsX4_findLands (wsV RX4 195 RX4 yX4_landsFrom wsX4_landsFrom) := goodIn_app (goodIn_of _ (by decide +kernel)) ggX4_findLands_X4_landsFrom
set_option maxHeartbeats 4000000 in
set_option maxRecDepth 100000 in
theorem mX4_findLands (l : Launch) (dC : Nat → ClassId) (dI : Nat → Nat → Nat) (cI cC : ClassId) (sk : (Nat → Nat) × (Nat → Nat)) (f : Nat → Nat) (sz : Nat) (p1 : Int32) (c_r : RT) (c_refused : AR) (c_tape : AR) (c_letter : AR) (c_letterAt : AR) (c_number : AR) (c_taped : Int32) (c_at : Int32) (c_statements : Int32) (c_kept : AR) (c_hasImage : Int32) (c_isKeeping : Int32) (c_cursor : Int32) (c_poled : Int32) (c_barred : Int32) (c_leapsTo : AR) (c_leapsThen : AR) (c_lands : AR) (c_row : AR) (c_rowMany : Int32) (c_endsAt : Int32) (z : Int32 × AR) (h : fX4_findLands p1 c_r c_poled c_barred c_lands = some z) : cRV l yX4_findLands wsX4_findLands (RMk 5 118) sk (dC, dI) (tyz cI cC) sz (zwM cI cC f c_r c_refused c_tape c_letter c_letterAt c_number c_taped c_at c_statements c_kept c_hasImage c_isKeeping c_cursor c_poled c_barred c_leapsTo c_leapsThen c_lands c_row c_rowMany c_endsAt) (zwM cI cC f c_r c_refused c_tape c_letter c_letterAt c_number c_taped c_at c_statements c_kept c_hasImage c_isKeeping c_cursor z.1 c_barred c_leapsTo c_leapsThen z.2 c_row c_rowMany c_endsAt) [.ref (f 0), .int p1] := by
  refine ofRV (cc := cX4_findLands) (maxL := 3) (ret := none) (own := RX4) (plainFor_of_name (by decide)) rfl rfl (Nat.le_of_ble_eq_true rfl) ?_
  intro p e s m args below meth c A hA hx hb hml hr hts hown hlocks hE hK hP hD hS ls hl
  generalize hQ : qRV _ _ _ _ _ _ = Q
  have hl : lv_has ls 3 [(0, .ref (f 0)), (1, .int p1)] := hl
  have hiX4 : ∀ w ∈ wsX40, w ∈ wsX4_findLands := fun w h => List.mem_cons_of_mem _ (List.mem_append_right _ h)
  have hw1 := hts (Cond.fieldLink RX4 53 "FloeToFloeModel" "lands" "[I") (List.mem_of_getElem? (i := 1) rfl)
  have hw2 := hts (Cond.fieldLink RX4 101 "FloeToFloeModel" "minute" "I") (List.mem_of_getElem? (i := 2) rfl)
  rw [fX4_findLands] at h
  refine lv_iconst (v := (0 : Int32)) hx hb dX4_findLands_0 (by decide) ?_
  refine lv_istore_n (lv' := [(2, .int (0 : Int32)), (0, .ref (f 0)), (1, .int p1)]) hx hb dX4_findLands_1 rfl hl (by decide) rfl (fun ls hl => ?_)
  have L2 : ∀ (K2 : Int32 → AR → Option (Int32 × AR)), (∀ (k2_poled : Int32) (k2_lands : AR), K2 k2_poled k2_lands = some z → ∀ (H : Heap) (locs : List Loc) (ls : Array Slot), va_P (dC, dI) vwCl (zwM cI cC f c_r c_refused c_tape c_letter c_letterAt c_number c_taped c_at c_statements c_kept c_hasImage c_isKeeping c_cursor k2_poled c_barred c_leapsTo c_leapsThen k2_lands c_row c_rowMany c_endsAt) H → va_D A (zwM cI cC f c_r c_refused c_tape c_letter c_letterAt c_number c_taped c_at c_statements c_kept c_hasImage c_isKeeping c_cursor k2_poled c_barred c_leapsTo c_leapsThen k2_lands c_row c_rowMany c_endsAt) → va_S A s.heap H locs → lv_has ls 3 [] → W p l e (RMk 5 118) s m args below meth c H locs 0 0 Q (F0 m 46 ls [])) → ∀ (n : Nat) (x2_2 : Int32) (x2_poled : Int32) (x2_lands : AR), fX4_findLands_L2 c_barred c_r p1 K2 n x2_2 x2_poled x2_lands = some z → ∀ (H : Heap) (locs : List Loc) (ls : Array Slot), va_P (dC, dI) vwCl (zwM cI cC f c_r c_refused c_tape c_letter c_letterAt c_number c_taped c_at c_statements c_kept c_hasImage c_isKeeping c_cursor x2_poled c_barred c_leapsTo c_leapsThen x2_lands c_row c_rowMany c_endsAt) H → va_D A (zwM cI cC f c_r c_refused c_tape c_letter c_letterAt c_number c_taped c_at c_statements c_kept c_hasImage c_isKeeping c_cursor x2_poled c_barred c_leapsTo c_leapsThen x2_lands c_row c_rowMany c_endsAt) → va_S A s.heap H locs → lv_has ls 3 [(0, .ref (f 0)), (1, .int p1), (2, .int x2_2)] → W p l e (RMk 5 118) s m args below meth c H locs 0 0 Q (F0 m 2 ls []) := by
    intro K2 kx2 n
    induction n with
    | zero => intro x2_2 x2_poled x2_lands h; rw [fX4_findLands_L2] at h; cases h
    | succ n ih2 =>
      intro x2_2 x2_poled x2_lands h H locs ls hP hD hS hl
      rw [fX4_findLands_L2] at h
      refine lv_iload_n hx hb dX4_findLands_2 rfl (lv_at hl 2 rfl) ?_
      refine lv_sipush (v := (3116 : Int32)) hx hb dX4_findLands_3 (by decide) ?_
      refine lv_icmp_ge (tgt := 46) hx hb dX4_findLands_6 (by decide) (fun c6 => ?_) (fun c6 => ?_)
      · have h := itT c6 h
        exact kx2 _ _ h _ _ _ hP hD hS (lv_sub hl [] rfl)
      have h := itF c6 h
      refine lv_aload_n hx hb dX4_findLands_9 rfl (lv_at hl 0 rfl) ?_
      refine va_get (D := (dC, dI)) (ci := 4) (v := .ref (f 14)) (C := RX4) (T := TX4) (N := 28) hx hb hts hiX4 hown hK hP 0 rfl rfl 24 (by decide) hw1 (fun _ h9 => h9) rfl dX4_findLands_10 ?_
      refine lv_iload_n hx hb dX4_findLands_13 rfl (lv_at hl 2 rfl) ?_
      refine lv_aload_n hx hb dX4_findLands_14 rfl (lv_at hl 0 rfl) ?_
      refine lv_iload_n hx hb dX4_findLands_15 rfl (lv_at hl 2 rfl) ?_
      refine lv_iconst (v := (4 : Int32)) hx hb dX4_findLands_16 (by decide) ?_
      refine lv_idiv hx hb dX4_findLands_17 (by decide) ?_
      refine lv_bipush (v := (19 : Int32)) hx hb dX4_findLands_18 (by decide) ?_
      refine lv_irem hx hb dX4_findLands_20 (by decide) ?_
      refine lv_iload_n hx hb dX4_findLands_21 rfl (lv_at hl 2 rfl) ?_
      refine lv_iconst (v := (4 : Int32)) hx hb dX4_findLands_22 (by decide) ?_
      refine lv_irem hx hb dX4_findLands_23 (by decide) ?_
      refine lv_iload_n hx hb dX4_findLands_24 rfl (lv_at hl 1 rfl) ?_
      refine lv_aload_n hx hb dX4_findLands_25 rfl (lv_at hl 0 rfl) ?_
      refine va_get (D := (dC, dI)) (ci := 4) (v := .int (R_minute c_r)) (C := RX4) (T := TX4) (N := 28) hx hb hts hiX4 hown hK hP 0 rfl rfl 8 (by decide) hw2 (fun _ h9 => h9) rfl dX4_findLands_26 ?_
      refine lv_iload_n hx hb dX4_findLands_29 rfl (lv_at hl 2 rfl) ?_
      refine lv_iconst (v := (4 : Int32)) hx hb dX4_findLands_30 (by decide) ?_
      refine lv_idiv hx hb dX4_findLands_31 (by decide) ?_
      refine lv_bipush (v := (19 : Int32)) hx hb dX4_findLands_32 (by decide) ?_
      refine lv_idiv hx hb dX4_findLands_34 (by decide) ?_
      refine lv_iadd hx hb dX4_findLands_35 ?_
      obtain ⟨q36, e36, h⟩ := bd_some h
      refine g_rwA (wc := (zwM cI cC f c_r c_refused c_tape c_letter c_letterAt c_number c_taped c_at c_statements c_kept c_hasImage c_isKeeping c_cursor x2_poled c_barred c_leapsTo c_leapsThen x2_lands c_row c_rowMany c_endsAt)) (wc' := (zwM cI cC f c_r c_refused c_tape c_letter c_letterAt c_number c_taped c_at c_statements c_kept c_hasImage c_isKeeping c_cursor q36.2 c_barred c_leapsTo c_leapsThen x2_lands c_row c_rowMany c_endsAt)) ⟨hx, hb, hml, hown, hts⟩ hE hK hA hP hD hS rfl (mX4_landsFrom l dC dI cI cC sk f H.size ((x2_2 / (4 : Int32)) - (x2_2 / (4 : Int32)) / (19 : Int32) * (19 : Int32)) (x2_2 - x2_2 / (4 : Int32) * (4 : Int32)) p1 ((R_minute c_r) + ((x2_2 / (4 : Int32)) / (19 : Int32))) c_r c_refused c_tape c_letter c_letterAt c_number c_taped c_at c_statements c_kept c_hasImage c_isKeeping c_cursor x2_poled c_barred c_leapsTo c_leapsThen x2_lands c_row c_rowMany c_endsAt q36 e36) (cwV 4 hts gX4_findLands_X4_landsFrom rfl rfl rfl (by decide +kernel) ⟨Nat.le_of_ble_eq_true rfl, Nat.le_of_ble_eq_true rfl⟩) (va_recv hK hP (ci := 4) (q0 := 0) rfl rfl) (As := [.int ((x2_2 / (4 : Int32)) - (x2_2 / (4 : Int32)) / (19 : Int32) * (19 : Int32)), .int (x2_2 - x2_2 / (4 : Int32) * (4 : Int32)), .int p1, .int ((R_minute c_r) + ((x2_2 / (4 : Int32)) / (19 : Int32)))]) (rest := [.int x2_2, .ref (f 14)]) rfl hl.1 rfl (Nat.le_of_ble_eq_true rfl) dX4_findLands_36 ⟨Nat.zero_le _, Nat.zero_le _⟩ (fun H locs hP hD hS => ?_)
      have hP : va_P (dC, dI) vwCl (zwM cI cC f c_r c_refused c_tape c_letter c_letterAt c_number c_taped c_at c_statements c_kept c_hasImage c_isKeeping c_cursor q36.2 c_barred c_leapsTo c_leapsThen x2_lands c_row c_rowMany c_endsAt) H := hP
      have hD : va_D A (zwM cI cC f c_r c_refused c_tape c_letter c_letterAt c_number c_taped c_at c_statements c_kept c_hasImage c_isKeeping c_cursor q36.2 c_barred c_leapsTo c_leapsThen x2_lands c_row c_rowMany c_endsAt) := hD
      obtain ⟨hin, h⟩ := ck_some h
      refine va_iast hx hb hK hP hD hS 14 0 rfl rfl hin dX4_findLands_39 (fun H locs hP hD hS => ?_)
      have hP : va_P (dC, dI) vwCl (zwM cI cC f c_r c_refused c_tape c_letter c_letterAt c_number c_taped c_at c_statements c_kept c_hasImage c_isKeeping c_cursor q36.2 c_barred c_leapsTo c_leapsThen (upd x2_lands (x2_2).toNatClampNeg q36.1) c_row c_rowMany c_endsAt) H := hP
      have hD : va_D A (zwM cI cC f c_r c_refused c_tape c_letter c_letterAt c_number c_taped c_at c_statements c_kept c_hasImage c_isKeeping c_cursor q36.2 c_barred c_leapsTo c_leapsThen (upd x2_lands (x2_2).toNatClampNeg q36.1) c_row c_rowMany c_endsAt) := hD
      refine lv_iinc (v := (x2_2 + (1 : Int32))) (lv' := [(2, .int (x2_2 + (1 : Int32))), (0, .ref (f 0)), (1, .int p1)]) hx hb dX4_findLands_40 hl (k := 2) rfl rfl (by decide) rfl (fun ls hl => ?_)
      refine lv_goto (tgt := 2) hx hb dX4_findLands_43 (by decide) ?_
      exact ih2 _ _ _ h _ _ _ hP hD hS (lv_sub hl [1, 2, 0] rfl)
  refine L2 _ (fun k2_poled k2_lands h H locs ls hP hD hS hl => ?_) _ _ _ _ h _ _ _ hP hD hS (lv_sub hl [1, 2, 0] rfl)
  subst hQ
  exact retRV (zz := ((k2_poled, k2_lands) : Int32 × AR)) (fun z => (zwM cI cC f c_r c_refused c_tape c_letter c_letterAt c_number c_taped c_at c_statements c_kept c_hasImage c_isKeeping c_cursor z.1 c_barred c_leapsTo c_leapsThen z.2 c_row c_rowMany c_endsAt)) hx hb hr hlocks hS h hP dX4_findLands_46
