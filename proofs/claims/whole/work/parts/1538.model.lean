theorem dX4_poles_0 : decode cX4_poles 0 = .ok (.iload_n 1, 1) := by decide +kernel
theorem dX4_poles_1 : decode cX4_poles 1 = .ok (.iload_n 2, 1) := by decide +kernel
theorem dX4_poles_2 : decode cX4_poles 2 = .ok (.invokestatic 176, 3) := by decide +kernel
theorem dX4_poles_5 : decode cX4_poles 5 = .ok (.istore_n 3, 1) := by decide +kernel
theorem dX4_poles_6 : decode cX4_poles 6 = .ok (.iload_n 3, 1) := by decide +kernel
theorem dX4_poles_7 : decode cX4_poles 7 = .ok (.ifCond .eq 9, 3) := by decide +kernel
theorem dX4_poles_10 : decode cX4_poles 10 = .ok (.aload_n 0, 1) := by decide +kernel
theorem dX4_poles_11 : decode cX4_poles 11 = .ok (.iload_n 3, 1) := by decide +kernel
theorem dX4_poles_12 : decode cX4_poles 12 = .ok (.invokevirtual 73, 3) := by decide +kernel
theorem dX4_poles_15 : decode cX4_poles 15 = .ok (.ireturn, 1) := by decide +kernel
theorem dX4_poles_16 : decode cX4_poles 16 = .ok (.bipush (-9), 2) := by decide +kernel
theorem dX4_poles_18 : decode cX4_poles 18 = .ok (.istore 4, 2) := by decide +kernel
theorem dX4_poles_20 : decode cX4_poles 20 = .ok (.aload_n 0, 1) := by decide +kernel
theorem dX4_poles_21 : decode cX4_poles 21 = .ok (.iload_n 1, 1) := by decide +kernel
theorem dX4_poles_22 : decode cX4_poles 22 = .ok (.invokevirtual 202, 3) := by decide +kernel
theorem dX4_poles_25 : decode cX4_poles 25 = .ok (.iconst 1, 1) := by decide +kernel
theorem dX4_poles_26 : decode cX4_poles 26 = .ok (.aload_n 0, 1) := by decide +kernel
theorem dX4_poles_27 : decode cX4_poles 27 = .ok (.getfield 59, 3) := by decide +kernel
theorem dX4_poles_30 : decode cX4_poles 30 = .ok (.ishl, 1) := by decide +kernel
theorem dX4_poles_31 : decode cX4_poles 31 = .ok (.iconst 1, 1) := by decide +kernel
theorem dX4_poles_32 : decode cX4_poles 32 = .ok (.isub, 1) := by decide +kernel
theorem dX4_poles_33 : decode cX4_poles 33 = .ok (.istore 5, 2) := by decide +kernel
theorem dX4_poles_35 : decode cX4_poles 35 = .ok (.iload 5, 2) := by decide +kernel
theorem dX4_poles_37 : decode cX4_poles 37 = .ok (.ifCond .lt 44, 3) := by decide +kernel
theorem dX4_poles_40 : decode cX4_poles 40 = .ok (.iload 4, 2) := by decide +kernel
theorem dX4_poles_42 : decode cX4_poles 42 = .ok (.ifCond .lt 16, 3) := by decide +kernel
theorem dX4_poles_45 : decode cX4_poles 45 = .ok (.iload 5, 2) := by decide +kernel
theorem dX4_poles_47 : decode cX4_poles 47 = .ok (.invokestatic 206, 3) := by decide +kernel
theorem dX4_poles_50 : decode cX4_poles 50 = .ok (.iload 4, 2) := by decide +kernel
theorem dX4_poles_52 : decode cX4_poles 52 = .ok (.invokestatic 206, 3) := by decide +kernel
theorem dX4_poles_55 : decode cX4_poles 55 = .ok (.if_icmp .gt 20, 3) := by decide +kernel
theorem dX4_poles_58 : decode cX4_poles 58 = .ok (.aload_n 0, 1) := by decide +kernel
theorem dX4_poles_59 : decode cX4_poles 59 = .ok (.iload_n 2, 1) := by decide +kernel
theorem dX4_poles_60 : decode cX4_poles 60 = .ok (.iload 5, 2) := by decide +kernel
theorem dX4_poles_62 : decode cX4_poles 62 = .ok (.bipush 10, 2) := by decide +kernel
theorem dX4_poles_64 : decode cX4_poles 64 = .ok (.ishl, 1) := by decide +kernel
theorem dX4_poles_65 : decode cX4_poles 65 = .ok (.invokevirtual 209, 3) := by decide +kernel
theorem dX4_poles_68 : decode cX4_poles 68 = .ok (.ifCond .eq 7, 3) := by decide +kernel
theorem dX4_poles_71 : decode cX4_poles 71 = .ok (.iload 5, 2) := by decide +kernel
theorem dX4_poles_73 : decode cX4_poles 73 = .ok (.istore 4, 2) := by decide +kernel
theorem dX4_poles_75 : decode cX4_poles 75 = .ok (.iinc 5 (-1), 3) := by decide +kernel
theorem dX4_poles_78 : decode cX4_poles 78 = .ok (.goto (-43), 3) := by decide +kernel
theorem dX4_poles_81 : decode cX4_poles 81 = .ok (.iload 4, 2) := by decide +kernel
theorem dX4_poles_83 : decode cX4_poles 83 = .ok (.ireturn, 1) := by decide +kernel
set_option maxRecDepth 20000 in
theorem ggX4_poles_X4_notLoad : GoodIn wsX4_poles wsX4_notLoad := goodIn_r _ [5, 6, 7, 4, 8, 9, 10, 11, 12, 13, 14] (by decide +kernel) (by decide +kernel)
set_option maxRecDepth 20000 in
theorem gX4_poles_X4_notLoad : GoodIn wsX4_poles (va_wsS RX4 176 yX4_notLoad wsX4_notLoad) := goodIn_app (goodIn_of _ (by decide +kernel)) ggX4_poles_X4_notLoad
set_option maxRecDepth 20000 in
theorem ggX4_poles_X4_no : GoodIn wsX4_poles wsX4_no := goodIn_r _ [18, 19, 85, 86, 87, 88, 89, 90, 91, 92, 93, 94, 95, 96, 97, 98, 99, 100, 101, 102, 103, 104, 105, 106, 107, 108, 109, 110, 111, 112] (by decide +kernel) (by decide +kernel)
set_option maxRecDepth 20000 in
theorem gX4_poles_X4_no : GoodIn wsX4_poles (wsV RX4 73 RX4 yX4_no wsX4_no) := goodIn_app (goodIn_of _ (by decide +kernel)) ggX4_poles_X4_no
set_option maxRecDepth 20000 in
theorem ggX4_poles_X4_findLands : GoodIn wsX4_poles wsX4_findLands := goodIn_r _ [23, 24, 25, 26, 27, 28, 4, 29, 30, 31, 32, 33, 9, 10, 11, 34, 35, 36, 37, 38, 39, 40, 41, 42, 43, 44, 45, 46, 47, 48, 49, 50, 51, 52, 53, 54, 55, 56, 57, 58, 1, 59, 60, 61, 62, 63, 64, 65, 66, 67, 68, 69, 70, 71, 72, 73, 85, 86, 87, 88, 89, 90, 91, 92, 93, 94, 95, 96, 97, 98, 99, 100, 101, 102, 103, 104, 105, 106, 107, 108, 109, 110, 111, 112] (by decide +kernel) (by decide +kernel)
set_option maxRecDepth 20000 in
theorem gX4_poles_X4_findLands : GoodIn wsX4_poles (wsV RX4 202 RX4 yX4_findLands wsX4_findLands) := goodIn_app (goodIn_of _ (by decide +kernel)) ggX4_poles_X4_findLands
set_option maxRecDepth 20000 in
theorem ggX4_poles_X4_bits : GoodIn wsX4_poles wsX4_bits := goodIn_r _ [76] (by decide +kernel) (by decide +kernel)
set_option maxRecDepth 20000 in
theorem gX4_poles_X4_bits : GoodIn wsX4_poles (va_wsS RX4 206 yX4_bits wsX4_bits) := goodIn_app (goodIn_of _ (by decide +kernel)) ggX4_poles_X4_bits
set_option maxRecDepth 20000 in
theorem ggX4_poles_X4_comesOverHeld : GoodIn wsX4_poles wsX4_comesOverHeld := goodIn_r _ [80, 81, 82, 83, 4, 84, 24, 85, 86, 87, 88, 89, 90, 91, 92, 93, 94, 95, 96, 97, 98, 99, 100, 101, 102, 103, 104, 105, 106, 107, 108, 109, 110, 111, 112] (by decide +kernel) (by decide +kernel)
set_option maxRecDepth 20000 in
theorem gX4_poles_X4_comesOverHeld : GoodIn wsX4_poles (wsV RX4 209 RX4 yX4_comesOverHeld wsX4_comesOverHeld) := goodIn_app (goodIn_of _ (by decide +kernel)) ggX4_poles_X4_comesOverHeld
set_option maxHeartbeats 4000000 in
set_option maxRecDepth 100000 in
theorem mX4_poles (l : Launch) (dC : Nat → ClassId) (dI : Nat → Nat → Nat) (cI cC : ClassId) (sk : (Nat → Nat) × (Nat → Nat)) (f : Nat → Nat) (sz : Nat) (p1 : Int32) (p2 : Int32) (c_r : RT) (c_refused : AR) (c_tape : AR) (c_letter : AR) (c_letterAt : AR) (c_number : AR) (c_taped : Int32) (c_at : Int32) (c_statements : Int32) (c_kept : AR) (c_hasImage : Int32) (c_isKeeping : Int32) (c_cursor : Int32) (c_poled : Int32) (c_barred : Int32) (c_leapsTo : AR) (c_leapsThen : AR) (c_lands : AR) (c_row : AR) (c_rowMany : Int32) (c_endsAt : Int32) (z : Int32 × AR × Int32 × AR) (h : fX4_poles p1 p2 c_r c_refused c_poled c_barred c_lands = some z) : cRW l yX4_poles wsX4_poles (RMk 6 140) sk (dC, dI) (tyz cI cC) sz (zwM cI cC f c_r c_refused c_tape c_letter c_letterAt c_number c_taped c_at c_statements c_kept c_hasImage c_isKeeping c_cursor c_poled c_barred c_leapsTo c_leapsThen c_lands c_row c_rowMany c_endsAt) (zwM cI cC f c_r z.2.1 c_tape c_letter c_letterAt c_number c_taped c_at c_statements c_kept c_hasImage c_isKeeping c_cursor z.2.2.1 c_barred c_leapsTo c_leapsThen z.2.2.2 c_row c_rowMany c_endsAt) [.ref (f 0), .int p1, .int p2] z.1 := by
  refine ofRW (cc := cX4_poles) (maxL := 6) (ret := (some .int)) (own := RX4) (plainFor_of_name (by decide)) rfl rfl (Nat.le_of_ble_eq_true rfl) ?_
  intro p e s m args below meth c A hA hx hb hml hr hts hown hlocks hE hK hP hD hS ls hl
  generalize hQ : qRW _ _ _ _ _ _ _ = Q
  have hl : lv_has ls 6 [(0, .ref (f 0)), (1, .int p1), (2, .int p2)] := hl
  have hiX4 : ∀ w ∈ wsX40, w ∈ wsX4_poles := fun w h => List.mem_cons_of_mem _ (List.mem_append_right _ h)
  have hw1 := hts (Cond.fieldLink RX4 59 "FloeToFloeModel" "floes" "I") (List.mem_of_getElem? (i := 1) rfl)
  rw [fX4_poles] at h
  refine lv_iload_n hx hb dX4_poles_0 rfl (lv_at hl 1 rfl) ?_
  refine lv_iload_n hx hb dX4_poles_1 rfl (lv_at hl 2 rfl) ?_
  obtain ⟨q2, e2, h⟩ := bd_some h
  refine g_roS (wc := ([] : va_W)) ⟨hx, hb, hml, hown, hts⟩ hE hK hP hS [] rfl (mX4_notLoad l dC dI cI cC sk  p1 p2 q2 e2) (va_cwS 2 hts gX4_poles_X4_notLoad rfl rfl rfl (by decide +kernel) ⟨Nat.le_of_ble_eq_true rfl, Nat.le_of_ble_eq_true rfl⟩) (As := [.int p1, .int p2]) (rest := []) rfl hl.1 rfl (Nat.le_of_ble_eq_true rfl) dX4_poles_2 ⟨Nat.zero_le _, Nat.zero_le _⟩ (fun H locs hP hS => ?_)
  refine lv_istore_n (lv' := [(3, .int q2), (0, .ref (f 0)), (1, .int p1), (2, .int p2)]) hx hb dX4_poles_5 rfl hl (by decide) rfl (fun ls hl => ?_)
  refine lv_iload_n hx hb dX4_poles_6 rfl (lv_at hl 0 rfl) ?_
  refine lv_if_eq (tgt := 16) hx hb dX4_poles_7 (by decide) (fun c7 => ?_) (fun c7 => ?_)
  · have h := itT c7 h
    refine lv_bipush (v := (-9 : Int32)) hx hb dX4_poles_16 (by decide) ?_
    refine lv_istore (lv' := [(4, .int (-9 : Int32)), (3, .int q2), (0, .ref (f 0)), (1, .int p1), (2, .int p2)]) hx hb dX4_poles_18 hl (by decide) rfl (fun ls hl => ?_)
    refine lv_aload_n hx hb dX4_poles_20 rfl (lv_at hl 2 rfl) ?_
    refine lv_iload_n hx hb dX4_poles_21 rfl (lv_at hl 3 rfl) ?_
    obtain ⟨q22, e22, h⟩ := bd_some h
    refine g_rvA (wc := (zwM cI cC f c_r c_refused c_tape c_letter c_letterAt c_number c_taped c_at c_statements c_kept c_hasImage c_isKeeping c_cursor c_poled c_barred c_leapsTo c_leapsThen c_lands c_row c_rowMany c_endsAt)) (wc' := (zwM cI cC f c_r c_refused c_tape c_letter c_letterAt c_number c_taped c_at c_statements c_kept c_hasImage c_isKeeping c_cursor q22.1 c_barred c_leapsTo c_leapsThen q22.2 c_row c_rowMany c_endsAt)) ⟨hx, hb, hml, hown, hts⟩ hE hK hA hP hD hS rfl (mX4_findLands l dC dI cI cC sk f H.size p1 c_r c_refused c_tape c_letter c_letterAt c_number c_taped c_at c_statements c_kept c_hasImage c_isKeeping c_cursor c_poled c_barred c_leapsTo c_leapsThen c_lands c_row c_rowMany c_endsAt q22 e22) (cwV 1 hts gX4_poles_X4_findLands rfl rfl rfl (by decide +kernel) ⟨Nat.le_of_ble_eq_true rfl, Nat.le_of_ble_eq_true rfl⟩) (va_recv hK hP (ci := 4) (q0 := 0) rfl rfl) (As := [.int p1]) (rest := []) rfl hl.1 rfl (Nat.le_of_ble_eq_true rfl) dX4_poles_22 ⟨Nat.zero_le _, Nat.zero_le _⟩ (fun H locs hP hD hS => ?_)
    have hP : va_P (dC, dI) vwCl (zwM cI cC f c_r c_refused c_tape c_letter c_letterAt c_number c_taped c_at c_statements c_kept c_hasImage c_isKeeping c_cursor q22.1 c_barred c_leapsTo c_leapsThen q22.2 c_row c_rowMany c_endsAt) H := hP
    have hD : va_D A (zwM cI cC f c_r c_refused c_tape c_letter c_letterAt c_number c_taped c_at c_statements c_kept c_hasImage c_isKeeping c_cursor q22.1 c_barred c_leapsTo c_leapsThen q22.2 c_row c_rowMany c_endsAt) := hD
    refine lv_iconst (v := (1 : Int32)) hx hb dX4_poles_25 (by decide) ?_
    refine lv_aload_n hx hb dX4_poles_26 rfl (lv_at hl 2 rfl) ?_
    refine va_get (D := (dC, dI)) (ci := 4) (v := .int (R_floes c_r)) (C := RX4) (T := TX4) (N := 28) hx hb hts hiX4 hown hK hP 0 rfl rfl 6 (by decide) hw1 (fun _ h9 => h9) rfl dX4_poles_27 ?_
    refine lv_ishl hx hb dX4_poles_30 ?_
    refine lv_iconst (v := (1 : Int32)) hx hb dX4_poles_31 (by decide) ?_
    refine lv_isub hx hb dX4_poles_32 ?_
    refine lv_istore (lv' := [(5, .int (((1 : Int32) <<< ((R_floes c_r) &&& 31)) - (1 : Int32))), (4, .int (-9 : Int32)), (3, .int q2), (0, .ref (f 0)), (1, .int p1), (2, .int p2)]) hx hb dX4_poles_33 hl (by decide) rfl (fun ls hl => ?_)
    have L35 : ∀ (K35 : Int32 → Option (Int32 × AR × Int32 × AR)), (∀ (k35_4 : Int32), K35 k35_4 = some z → ∀ (H : Heap) (locs : List Loc) (ls : Array Slot), va_P (dC, dI) vwCl (zwM cI cC f c_r c_refused c_tape c_letter c_letterAt c_number c_taped c_at c_statements c_kept c_hasImage c_isKeeping c_cursor q22.1 c_barred c_leapsTo c_leapsThen q22.2 c_row c_rowMany c_endsAt) H → va_D A (zwM cI cC f c_r c_refused c_tape c_letter c_letterAt c_number c_taped c_at c_statements c_kept c_hasImage c_isKeeping c_cursor q22.1 c_barred c_leapsTo c_leapsThen q22.2 c_row c_rowMany c_endsAt) → va_S A s.heap H locs → lv_has ls 6 [(4, .int k35_4)] → W p l e (RMk 6 140) s m args below meth c H locs 0 0 Q (F0 m 81 ls [])) → ∀ (n : Nat) (x35_4 : Int32) (x35_5 : Int32), fX4_poles_L35 p2 q22 K35 n x35_4 x35_5 = some z → ∀ (H : Heap) (locs : List Loc) (ls : Array Slot), va_P (dC, dI) vwCl (zwM cI cC f c_r c_refused c_tape c_letter c_letterAt c_number c_taped c_at c_statements c_kept c_hasImage c_isKeeping c_cursor q22.1 c_barred c_leapsTo c_leapsThen q22.2 c_row c_rowMany c_endsAt) H → va_D A (zwM cI cC f c_r c_refused c_tape c_letter c_letterAt c_number c_taped c_at c_statements c_kept c_hasImage c_isKeeping c_cursor q22.1 c_barred c_leapsTo c_leapsThen q22.2 c_row c_rowMany c_endsAt) → va_S A s.heap H locs → lv_has ls 6 [(0, .ref (f 0)), (2, .int p2), (4, .int x35_4), (5, .int x35_5)] → W p l e (RMk 6 140) s m args below meth c H locs 0 0 Q (F0 m 35 ls []) := by
      intro K35 kx35 n
      induction n with
      | zero => intro x35_4 x35_5 h; rw [fX4_poles_L35] at h; cases h
      | succ n ih35 =>
        intro x35_4 x35_5 h H locs ls hP hD hS hl
        rw [fX4_poles_L35] at h
        refine lv_iload hx hb dX4_poles_35 (lv_at hl 3 rfl) ?_
        refine lv_if_lt (tgt := 81) hx hb dX4_poles_37 (by decide) (fun c37 => ?_) (fun c37 => ?_)
        · have h := itT c37 h
          exact kx35 _ h _ _ _ hP hD hS (lv_sub hl [2] rfl)
        have h := itF c37 h
        refine lv_iload hx hb dX4_poles_40 (lv_at hl 2 rfl) ?_
        refine jnW (fun (v58 : Unit) => ∀ (H : Heap) (locs : List Loc) (ls : Array Slot), va_P (dC, dI) vwCl (zwM cI cC f c_r c_refused c_tape c_letter c_letterAt c_number c_taped c_at c_statements c_kept c_hasImage c_isKeeping c_cursor q22.1 c_barred c_leapsTo c_leapsThen q22.2 c_row c_rowMany c_endsAt) H → va_D A (zwM cI cC f c_r c_refused c_tape c_letter c_letterAt c_number c_taped c_at c_statements c_kept c_hasImage c_isKeeping c_cursor q22.1 c_barred c_leapsTo c_leapsThen q22.2 c_row c_rowMany c_endsAt) → va_S A s.heap H locs → lv_has ls 6 [(0, .ref (f 0)), (2, .int p2), (4, .int x35_4), (5, .int x35_5)] → W p l e (RMk 6 140) s m args below meth c H locs 0 0 Q (F0 m 58 ls [])) h (fun v58 h H locs ls hP hD hS hl => ?_) (fun J58 j58 h => ?_)
        · refine lv_aload_n hx hb dX4_poles_58 rfl (lv_at hl 0 rfl) ?_
          refine lv_iload_n hx hb dX4_poles_59 rfl (lv_at hl 1 rfl) ?_
          refine lv_iload hx hb dX4_poles_60 (lv_at hl 3 rfl) ?_
          refine lv_bipush (v := (10 : Int32)) hx hb dX4_poles_62 (by decide) ?_
          refine lv_ishl hx hb dX4_poles_64 ?_
          obtain ⟨q65, e65, h⟩ := bd_some h
          refine g_roV (wc := (zwM cI cC f c_r c_refused c_tape c_letter c_letterAt c_number c_taped c_at c_statements c_kept c_hasImage c_isKeeping c_cursor q22.1 c_barred c_leapsTo c_leapsThen q22.2 c_row c_rowMany c_endsAt)) ⟨hx, hb, hml, hown, hts⟩ hE hK hP hS [0, 1, 2, 3, 4, 5, 6, 7, 8, 9, 10, 11, 12, 13, 14, 15] rfl (mX4_comesOverHeld l dC dI cI cC sk f p2 (x35_5 <<< ((10 : Int32) &&& 31)) c_r c_refused c_tape c_letter c_letterAt c_number c_taped c_at c_statements c_kept c_hasImage c_isKeeping c_cursor q22.1 c_barred c_leapsTo c_leapsThen q22.2 c_row c_rowMany c_endsAt q65 e65) (cwV 2 hts gX4_poles_X4_comesOverHeld rfl rfl rfl (by decide +kernel) ⟨Nat.le_of_ble_eq_true rfl, Nat.le_of_ble_eq_true rfl⟩) (va_recv hK hP (ci := 4) (q0 := 0) rfl rfl) (As := [.int p2, .int (x35_5 <<< ((10 : Int32) &&& 31))]) (rest := []) rfl hl.1 rfl (Nat.le_of_ble_eq_true rfl) dX4_poles_65 ⟨Nat.zero_le _, Nat.zero_le _⟩ (fun H locs hP hS => ?_)
          refine lv_if_eq (tgt := 75) hx hb dX4_poles_68 (by decide) (fun c68 => ?_) (fun c68 => ?_)
          · have h := itT c68 h
            refine lv_iinc (v := (x35_5 + (-1 : Int32))) (lv' := [(5, .int (x35_5 + (-1 : Int32))), (0, .ref (f 0)), (2, .int p2), (4, .int x35_4)]) hx hb dX4_poles_75 hl (k := 3) rfl rfl (by decide) rfl (fun ls hl => ?_)
            refine lv_goto (tgt := 35) hx hb dX4_poles_78 (by decide) ?_
            exact ih35 _ _ h _ _ _ hP hD hS (lv_sub hl [1, 2, 3, 0] rfl)
          have h := itF c68 h
          refine lv_iload hx hb dX4_poles_71 (lv_at hl 3 rfl) ?_
          refine lv_istore (lv' := [(4, .int x35_5), (0, .ref (f 0)), (2, .int p2), (5, .int x35_5)]) hx hb dX4_poles_73 hl (by decide) rfl (fun ls hl => ?_)
          refine lv_iinc (v := (x35_5 + (-1 : Int32))) (lv' := [(5, .int (x35_5 + (-1 : Int32))), (4, .int x35_5), (0, .ref (f 0)), (2, .int p2)]) hx hb dX4_poles_75 hl (k := 3) rfl rfl (by decide) rfl (fun ls hl => ?_)
          refine lv_goto (tgt := 35) hx hb dX4_poles_78 (by decide) ?_
          exact ih35 _ _ h _ _ _ hP hD hS (lv_sub hl [2, 3, 1, 0] rfl)
        refine lv_if_lt (tgt := 58) hx hb dX4_poles_42 (by decide) (fun c42 => ?_) (fun c42 => ?_)
        · have h := itT c42 h
          exact j58 _ h _ _ _ hP hD hS (lv_sub hl [0, 1, 2, 3] rfl)
        have h := itF c42 h
        refine lv_iload hx hb dX4_poles_45 (lv_at hl 3 rfl) ?_
        obtain ⟨q47, e47, h⟩ := bd_some h
        refine g_roS (wc := ([] : va_W)) ⟨hx, hb, hml, hown, hts⟩ hE hK hP hS [] rfl (mX4_bits l dC dI cI cC sk  x35_5 q47 e47) (va_cwS 1 hts gX4_poles_X4_bits rfl rfl rfl (by decide +kernel) ⟨Nat.le_of_ble_eq_true rfl, Nat.le_of_ble_eq_true rfl⟩) (As := [.int x35_5]) (rest := []) rfl hl.1 rfl (Nat.le_of_ble_eq_true rfl) dX4_poles_47 ⟨Nat.zero_le _, Nat.zero_le _⟩ (fun H locs hP hS => ?_)
        refine lv_iload hx hb dX4_poles_50 (lv_at hl 2 rfl) ?_
        obtain ⟨q52, e52, h⟩ := bd_some h
        refine g_roS (wc := ([] : va_W)) ⟨hx, hb, hml, hown, hts⟩ hE hK hP hS [] rfl (mX4_bits l dC dI cI cC sk  x35_4 q52 e52) (va_cwS 1 hts gX4_poles_X4_bits rfl rfl rfl (by decide +kernel) ⟨Nat.le_of_ble_eq_true rfl, Nat.le_of_ble_eq_true rfl⟩) (As := [.int x35_4]) (rest := [.int q47]) rfl hl.1 rfl (Nat.le_of_ble_eq_true rfl) dX4_poles_52 ⟨Nat.zero_le _, Nat.zero_le _⟩ (fun H locs hP hS => ?_)
        refine lv_icmp_gt (tgt := 75) hx hb dX4_poles_55 (by decide) (fun c55 => ?_) (fun c55 => ?_)
        · have h := itT c55 h
          refine lv_iinc (v := (x35_5 + (-1 : Int32))) (lv' := [(5, .int (x35_5 + (-1 : Int32))), (0, .ref (f 0)), (2, .int p2), (4, .int x35_4)]) hx hb dX4_poles_75 hl (k := 3) rfl rfl (by decide) rfl (fun ls hl => ?_)
          refine lv_goto (tgt := 35) hx hb dX4_poles_78 (by decide) ?_
          exact ih35 _ _ h _ _ _ hP hD hS (lv_sub hl [1, 2, 3, 0] rfl)
        have h := itF c55 h
        exact j58 _ h _ _ _ hP hD hS (lv_sub hl [0, 1, 2, 3] rfl)
    refine L35 _ (fun k35_4 h H locs ls hP hD hS hl => ?_) _ _ _ h _ _ _ hP hD hS (lv_sub hl [3, 5, 1, 0] rfl)
    refine lv_iload hx hb dX4_poles_81 (lv_at hl 0 rfl) ?_
    subst hQ
    exact retRW (zz := ((k35_4, c_refused, q22.1, q22.2) : Int32 × AR × Int32 × AR)) (fun z => z.1) (fun z => (zwM cI cC f c_r z.2.1 c_tape c_letter c_letterAt c_number c_taped c_at c_statements c_kept c_hasImage c_isKeeping c_cursor z.2.2.1 c_barred c_leapsTo c_leapsThen z.2.2.2 c_row c_rowMany c_endsAt)) hx hb hr hlocks rfl hS h rfl hP dX4_poles_83
  have h := itF c7 h
  refine lv_aload_n hx hb dX4_poles_10 rfl (lv_at hl 1 rfl) ?_
  refine lv_iload_n hx hb dX4_poles_11 rfl (lv_at hl 0 rfl) ?_
  obtain ⟨q12, e12, h⟩ := bd_some h
  refine g_rwA (wc := (zwM cI cC f c_r c_refused c_tape c_letter c_letterAt c_number c_taped c_at c_statements c_kept c_hasImage c_isKeeping c_cursor c_poled c_barred c_leapsTo c_leapsThen c_lands c_row c_rowMany c_endsAt)) (wc' := (zwM cI cC f c_r q12.2 c_tape c_letter c_letterAt c_number c_taped c_at c_statements c_kept c_hasImage c_isKeeping c_cursor c_poled c_barred c_leapsTo c_leapsThen c_lands c_row c_rowMany c_endsAt)) ⟨hx, hb, hml, hown, hts⟩ hE hK hA hP hD hS rfl (mX4_no l dC dI cI cC sk f H.size q2 c_r c_refused c_tape c_letter c_letterAt c_number c_taped c_at c_statements c_kept c_hasImage c_isKeeping c_cursor c_poled c_barred c_leapsTo c_leapsThen c_lands c_row c_rowMany c_endsAt q12 e12) (cwV 1 hts gX4_poles_X4_no rfl rfl rfl (by decide +kernel) ⟨Nat.le_of_ble_eq_true rfl, Nat.le_of_ble_eq_true rfl⟩) (va_recv hK hP (ci := 4) (q0 := 0) rfl rfl) (As := [.int q2]) (rest := []) rfl hl.1 rfl (Nat.le_of_ble_eq_true rfl) dX4_poles_12 ⟨Nat.zero_le _, Nat.zero_le _⟩ (fun H locs hP hD hS => ?_)
  have hP : va_P (dC, dI) vwCl (zwM cI cC f c_r q12.2 c_tape c_letter c_letterAt c_number c_taped c_at c_statements c_kept c_hasImage c_isKeeping c_cursor c_poled c_barred c_leapsTo c_leapsThen c_lands c_row c_rowMany c_endsAt) H := hP
  have hD : va_D A (zwM cI cC f c_r q12.2 c_tape c_letter c_letterAt c_number c_taped c_at c_statements c_kept c_hasImage c_isKeeping c_cursor c_poled c_barred c_leapsTo c_leapsThen c_lands c_row c_rowMany c_endsAt) := hD
  subst hQ
  exact retRW (zz := ((q12.1, q12.2, c_poled, c_lands) : Int32 × AR × Int32 × AR)) (fun z => z.1) (fun z => (zwM cI cC f c_r z.2.1 c_tape c_letter c_letterAt c_number c_taped c_at c_statements c_kept c_hasImage c_isKeeping c_cursor z.2.2.1 c_barred c_leapsTo c_leapsThen z.2.2.2 c_row c_rowMany c_endsAt)) hx hb hr hlocks rfl hS h rfl hP dX4_poles_15
