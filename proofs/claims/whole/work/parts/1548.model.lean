theorem dX4_count_0 : decode cX4_count 0 = .ok (.iload_n 1, 1) := by decide +kernel
theorem dX4_count_1 : decode cX4_count 1 = .ok (.bipush 11, 2) := by decide +kernel
theorem dX4_count_3 : decode cX4_count 3 = .ok (.bipush 16, 2) := by decide +kernel
theorem dX4_count_5 : decode cX4_count 5 = .ok (.invokestatic 62, 3) := by decide +kernel
theorem dX4_count_8 : decode cX4_count 8 = .ok (.ifCond .eq 13, 3) := by decide +kernel
theorem dX4_count_11 : decode cX4_count 11 = .ok (.aload_n 0, 1) := by decide +kernel
theorem dX4_count_12 : decode cX4_count 12 = .ok (.getfield 7, 3) := by decide +kernel
theorem dX4_count_15 : decode cX4_count 15 = .ok (.iload_n 1, 1) := by decide +kernel
theorem dX4_count_16 : decode cX4_count 16 = .ok (.bipush 10, 2) := by decide +kernel
theorem dX4_count_18 : decode cX4_count 18 = .ok (.isub, 1) := by decide +kernel
theorem dX4_count_19 : decode cX4_count 19 = .ok (.iaload, 1) := by decide +kernel
theorem dX4_count_20 : decode cX4_count 20 = .ok (.ireturn, 1) := by decide +kernel
theorem dX4_count_21 : decode cX4_count 21 = .ok (.iconst 0, 1) := by decide +kernel
theorem dX4_count_22 : decode cX4_count 22 = .ok (.istore_n 2, 1) := by decide +kernel
theorem dX4_count_23 : decode cX4_count 23 = .ok (.iload_n 1, 1) := by decide +kernel
theorem dX4_count_24 : decode cX4_count 24 = .ok (.tableswitch 95 0 5 #[40, 45, 50, 55, 60, 65], 40) := by decide +kernel
theorem dX4_count_64 : decode cX4_count 64 = .ok (.aload_n 0, 1) := by decide +kernel
theorem dX4_count_65 : decode cX4_count 65 = .ok (.getfield 28, 3) := by decide +kernel
theorem dX4_count_68 : decode cX4_count 68 = .ok (.ireturn, 1) := by decide +kernel
theorem dX4_count_69 : decode cX4_count 69 = .ok (.aload_n 0, 1) := by decide +kernel
theorem dX4_count_70 : decode cX4_count 70 = .ok (.getfield 59, 3) := by decide +kernel
theorem dX4_count_73 : decode cX4_count 73 = .ok (.ireturn, 1) := by decide +kernel
theorem dX4_count_74 : decode cX4_count 74 = .ok (.aload_n 0, 1) := by decide +kernel
theorem dX4_count_75 : decode cX4_count 75 = .ok (.getfield 101, 3) := by decide +kernel
theorem dX4_count_78 : decode cX4_count 78 = .ok (.ireturn, 1) := by decide +kernel
theorem dX4_count_79 : decode cX4_count 79 = .ok (.aload_n 0, 1) := by decide +kernel
theorem dX4_count_80 : decode cX4_count 80 = .ok (.getfield 212, 3) := by decide +kernel
theorem dX4_count_83 : decode cX4_count 83 = .ok (.ireturn, 1) := by decide +kernel
theorem dX4_count_84 : decode cX4_count 84 = .ok (.aload_n 0, 1) := by decide +kernel
theorem dX4_count_85 : decode cX4_count 85 = .ok (.getfield 70, 3) := by decide +kernel
theorem dX4_count_88 : decode cX4_count 88 = .ok (.ireturn, 1) := by decide +kernel
theorem dX4_count_89 : decode cX4_count 89 = .ok (.iconst 0, 1) := by decide +kernel
theorem dX4_count_90 : decode cX4_count 90 = .ok (.istore_n 3, 1) := by decide +kernel
theorem dX4_count_91 : decode cX4_count 91 = .ok (.iload_n 3, 1) := by decide +kernel
theorem dX4_count_92 : decode cX4_count 92 = .ok (.aload_n 0, 1) := by decide +kernel
theorem dX4_count_93 : decode cX4_count 93 = .ok (.getfield 59, 3) := by decide +kernel
theorem dX4_count_96 : decode cX4_count 96 = .ok (.if_icmp .ge 21, 3) := by decide +kernel
theorem dX4_count_99 : decode cX4_count 99 = .ok (.iload_n 2, 1) := by decide +kernel
theorem dX4_count_100 : decode cX4_count 100 = .ok (.aload_n 0, 1) := by decide +kernel
theorem dX4_count_101 : decode cX4_count 101 = .ok (.iload_n 3, 1) := by decide +kernel
theorem dX4_count_102 : decode cX4_count 102 = .ok (.aload_n 0, 1) := by decide +kernel
theorem dX4_count_103 : decode cX4_count 103 = .ok (.getfield 101, 3) := by decide +kernel
theorem dX4_count_106 : decode cX4_count 106 = .ok (.invokevirtual 148, 3) := by decide +kernel
theorem dX4_count_109 : decode cX4_count 109 = .ok (.iadd, 1) := by decide +kernel
theorem dX4_count_110 : decode cX4_count 110 = .ok (.istore_n 2, 1) := by decide +kernel
theorem dX4_count_111 : decode cX4_count 111 = .ok (.iinc 3 1, 3) := by decide +kernel
theorem dX4_count_114 : decode cX4_count 114 = .ok (.goto (-23), 3) := by decide +kernel
theorem dX4_count_117 : decode cX4_count 117 = .ok (.iload_n 2, 1) := by decide +kernel
theorem dX4_count_118 : decode cX4_count 118 = .ok (.ireturn, 1) := by decide +kernel
theorem dX4_count_119 : decode cX4_count 119 = .ok (.bipush (-9), 2) := by decide +kernel
theorem dX4_count_121 : decode cX4_count 121 = .ok (.ireturn, 1) := by decide +kernel
set_option maxRecDepth 20000 in
theorem ggX4_count_X4_isIn : GoodIn wsX4_count wsX4_isIn := goodIn_r _ [10] (by decide +kernel) (by decide +kernel)
set_option maxRecDepth 20000 in
theorem gX4_count_X4_isIn : GoodIn wsX4_count (va_wsS RX4 62 yX4_isIn wsX4_isIn) := goodIn_app (goodIn_of _ (by decide +kernel)) ggX4_count_X4_isIn
set_option maxRecDepth 20000 in
theorem ggX4_count_X4_bearsIn : GoodIn wsX4_count wsX4_bearsIn := goodIn_r _ [14, 15, 16, 17, 18, 19, 20, 21, 22, 23, 24, 25, 26, 27, 28, 29, 30, 31, 32, 33, 34, 35, 36, 37, 38, 39, 40, 41, 42, 43, 44] (by decide +kernel) (by decide +kernel)
set_option maxRecDepth 20000 in
theorem gX4_count_X4_bearsIn : GoodIn wsX4_count (wsV RX4 148 RX4 yX4_bearsIn wsX4_bearsIn) := goodIn_app (goodIn_of _ (by decide +kernel)) ggX4_count_X4_bearsIn
set_option maxHeartbeats 4000000 in
set_option maxRecDepth 100000 in
theorem mX4_count (l : Launch) (dC : Nat → ClassId) (dI : Nat → Nat → Nat) (cI cC : ClassId) (sk : (Nat → Nat) × (Nat → Nat)) (f : Nat → Nat) (p1 : Int32) (c_r : RT) (c_refused : AR) (c_tape : AR) (c_letter : AR) (c_letterAt : AR) (c_number : AR) (c_taped : Int32) (c_at : Int32) (c_statements : Int32) (c_kept : AR) (c_hasImage : Int32) (c_isKeeping : Int32) (c_cursor : Int32) (c_poled : Int32) (c_barred : Int32) (c_leapsTo : AR) (c_leapsThen : AR) (c_lands : AR) (c_row : AR) (c_rowMany : Int32) (c_endsAt : Int32) (z : Int32) (h : fX4_count p1 c_r c_refused c_taped c_rowMany = some z) : cRO l yX4_count wsX4_count (RMk 1 23) sk (dC, dI) (tyz cI cC) (zwM cI cC f c_r c_refused c_tape c_letter c_letterAt c_number c_taped c_at c_statements c_kept c_hasImage c_isKeeping c_cursor c_poled c_barred c_leapsTo c_leapsThen c_lands c_row c_rowMany c_endsAt) [.ref (f 0), .int p1] z := by
  refine ofRO (cc := cX4_count) (maxL := 4) (ret := (some .int)) (own := RX4) (plainFor_of_name (by decide)) rfl rfl (Nat.le_of_ble_eq_true rfl) ?_
  intro p e s m args below meth c hx hb hml hr hts hown hlocks hE hK hP hS ls hl
  generalize hQ : qRO _ _ _ _ = Q
  have hl : lv_has ls 4 [(0, .ref (f 0)), (1, .int p1)] := hl
  have hiX4 : ∀ w ∈ wsX40, w ∈ wsX4_count := fun w h => List.mem_cons_of_mem _ (List.mem_append_right _ h)
  have hw2 := hts (Cond.fieldLink RX4 28 "FloeToFloeModel" "lanes" "I") (List.mem_of_getElem? (i := 2) rfl)
  have hw3 := hts (Cond.fieldLink RX4 59 "FloeToFloeModel" "floes" "I") (List.mem_of_getElem? (i := 3) rfl)
  have hw4 := hts (Cond.fieldLink RX4 101 "FloeToFloeModel" "minute" "I") (List.mem_of_getElem? (i := 4) rfl)
  have hw5 := hts (Cond.fieldLink RX4 212 "FloeToFloeModel" "rowMany" "I") (List.mem_of_getElem? (i := 5) rfl)
  have hw6 := hts (Cond.fieldLink RX4 70 "FloeToFloeModel" "taped" "I") (List.mem_of_getElem? (i := 6) rfl)
  have hw1 := hts (Cond.fieldLink RX4 7 "FloeToFloeModel" "refused" "[I") (List.mem_of_getElem? (i := 1) rfl)
  rw [fX4_count] at h
  refine lv_iload_n hx hb dX4_count_0 rfl (lv_at hl 1 rfl) ?_
  refine lv_bipush (v := (11 : Int32)) hx hb dX4_count_1 (by decide) ?_
  refine lv_bipush (v := (16 : Int32)) hx hb dX4_count_3 (by decide) ?_
  obtain ⟨q5, e5, h⟩ := bd_some h
  refine g_roS (wc := ([] : va_W)) ⟨hx, hb, hml, hown, hts⟩ hE hK hP hS [] rfl (mX4_isIn l dC dI cI cC sk  p1 (11 : Int32) (16 : Int32) q5 e5) (va_cwS 3 hts gX4_count_X4_isIn rfl rfl rfl (by decide +kernel) ⟨Nat.le_of_ble_eq_true rfl, Nat.le_of_ble_eq_true rfl⟩) (As := [.int p1, .int (11 : Int32), .int (16 : Int32)]) (rest := []) rfl hl.1 rfl (Nat.le_of_ble_eq_true rfl) dX4_count_5 ⟨Nat.zero_le _, Nat.zero_le _⟩ (fun H locs hP hS => ?_)
  refine lv_if_eq (tgt := 21) hx hb dX4_count_8 (by decide) (fun c8 => ?_) (fun c8 => ?_)
  · have h := itT c8 h
    refine lv_iconst (v := (0 : Int32)) hx hb dX4_count_21 (by decide) ?_
    refine lv_istore_n (lv' := [(2, .int (0 : Int32)), (0, .ref (f 0)), (1, .int p1)]) hx hb dX4_count_22 rfl hl (by decide) rfl (fun ls hl => ?_)
    refine lv_iload_n hx hb dX4_count_23 rfl (lv_at hl 2 rfl) ?_
    by_cases n0 : p1 = (0 : Int32)
    · have h := itT n0 h
      refine lv_tableIn (off := 40) (tgt := 64) hx hb dX4_count_24 (by rw [n0]; decide) (by rw [n0]; decide) (by rw [n0]; decide) (by decide) ?_
      refine lv_aload_n hx hb dX4_count_64 rfl (lv_at hl 1 rfl) ?_
      refine va_get (D := (dC, dI)) (ci := 4) (v := .int (R_lanes c_r)) (C := RX4) (T := TX4) (N := 28) hx hb hts hiX4 hown hK hP 0 rfl rfl 7 (by decide) hw2 (fun _ h9 => h9) rfl dX4_count_65 ?_
      subst hQ
      exact retRO hx hb hr hlocks rfl hS h dX4_count_68
    have h := itF n0 h
    by_cases n1 : p1 = (1 : Int32)
    · have h := itT n1 h
      refine lv_tableIn (off := 45) (tgt := 69) hx hb dX4_count_24 (by rw [n1]; decide) (by rw [n1]; decide) (by rw [n1]; decide) (by decide) ?_
      refine lv_aload_n hx hb dX4_count_69 rfl (lv_at hl 1 rfl) ?_
      refine va_get (D := (dC, dI)) (ci := 4) (v := .int (R_floes c_r)) (C := RX4) (T := TX4) (N := 28) hx hb hts hiX4 hown hK hP 0 rfl rfl 6 (by decide) hw3 (fun _ h9 => h9) rfl dX4_count_70 ?_
      subst hQ
      exact retRO hx hb hr hlocks rfl hS h dX4_count_73
    have h := itF n1 h
    by_cases n2 : p1 = (2 : Int32)
    · have h := itT n2 h
      refine lv_tableIn (off := 50) (tgt := 74) hx hb dX4_count_24 (by rw [n2]; decide) (by rw [n2]; decide) (by rw [n2]; decide) (by decide) ?_
      refine lv_aload_n hx hb dX4_count_74 rfl (lv_at hl 1 rfl) ?_
      refine va_get (D := (dC, dI)) (ci := 4) (v := .int (R_minute c_r)) (C := RX4) (T := TX4) (N := 28) hx hb hts hiX4 hown hK hP 0 rfl rfl 8 (by decide) hw4 (fun _ h9 => h9) rfl dX4_count_75 ?_
      subst hQ
      exact retRO hx hb hr hlocks rfl hS h dX4_count_78
    have h := itF n2 h
    by_cases n3 : p1 = (3 : Int32)
    · have h := itT n3 h
      refine lv_tableIn (off := 55) (tgt := 79) hx hb dX4_count_24 (by rw [n3]; decide) (by rw [n3]; decide) (by rw [n3]; decide) (by decide) ?_
      refine lv_aload_n hx hb dX4_count_79 rfl (lv_at hl 1 rfl) ?_
      refine va_get (D := (dC, dI)) (ci := 4) (v := .int c_rowMany) (C := RX4) (T := TX4) (N := 28) hx hb hts hiX4 hown hK hP 0 rfl rfl 26 (by decide) hw5 (fun _ h9 => h9) rfl dX4_count_80 ?_
      subst hQ
      exact retRO hx hb hr hlocks rfl hS h dX4_count_83
    have h := itF n3 h
    by_cases n4 : p1 = (4 : Int32)
    · have h := itT n4 h
      refine lv_tableIn (off := 60) (tgt := 84) hx hb dX4_count_24 (by rw [n4]; decide) (by rw [n4]; decide) (by rw [n4]; decide) (by decide) ?_
      refine lv_aload_n hx hb dX4_count_84 rfl (lv_at hl 1 rfl) ?_
      refine va_get (D := (dC, dI)) (ci := 4) (v := .int c_taped) (C := RX4) (T := TX4) (N := 28) hx hb hts hiX4 hown hK hP 0 rfl rfl 13 (by decide) hw6 (fun _ h9 => h9) rfl dX4_count_85 ?_
      subst hQ
      exact retRO hx hb hr hlocks rfl hS h dX4_count_88
    have h := itF n4 h
    by_cases n5 : p1 = (5 : Int32)
    · have h := itT n5 h
      refine lv_tableIn (off := 65) (tgt := 89) hx hb dX4_count_24 (by rw [n5]; decide) (by rw [n5]; decide) (by rw [n5]; decide) (by decide) ?_
      refine lv_iconst (v := (0 : Int32)) hx hb dX4_count_89 (by decide) ?_
      refine lv_istore_n (lv' := [(3, .int (0 : Int32)), (2, .int (0 : Int32)), (0, .ref (f 0)), (1, .int p1)]) hx hb dX4_count_90 rfl hl (by decide) rfl (fun ls hl => ?_)
      have L91 : ∀ (K91 : Int32 → Option (Int32)), (∀ (k91_2 : Int32), K91 k91_2 = some z → ∀ (H : Heap) (locs : List Loc) (ls : Array Slot), va_P (dC, dI) vwCl (zwM cI cC f c_r c_refused c_tape c_letter c_letterAt c_number c_taped c_at c_statements c_kept c_hasImage c_isKeeping c_cursor c_poled c_barred c_leapsTo c_leapsThen c_lands c_row c_rowMany c_endsAt) H → va_S noA s.heap H locs → lv_has ls 4 [(2, .int k91_2)] → W p l e (RMk 1 23) s m args below meth c H locs 0 0 Q (F0 m 117 ls [])) → ∀ (n : Nat) (x91_2 : Int32) (x91_3 : Int32), fX4_count_L91 c_r K91 n x91_2 x91_3 = some z → ∀ (H : Heap) (locs : List Loc) (ls : Array Slot), va_P (dC, dI) vwCl (zwM cI cC f c_r c_refused c_tape c_letter c_letterAt c_number c_taped c_at c_statements c_kept c_hasImage c_isKeeping c_cursor c_poled c_barred c_leapsTo c_leapsThen c_lands c_row c_rowMany c_endsAt) H → va_S noA s.heap H locs → lv_has ls 4 [(0, .ref (f 0)), (2, .int x91_2), (3, .int x91_3)] → W p l e (RMk 1 23) s m args below meth c H locs 0 0 Q (F0 m 91 ls []) := by
        intro K91 kx91 n
        induction n with
        | zero => intro x91_2 x91_3 h; rw [fX4_count_L91] at h; cases h
        | succ n ih91 =>
          intro x91_2 x91_3 h H locs ls hP hS hl
          rw [fX4_count_L91] at h
          refine lv_iload_n hx hb dX4_count_91 rfl (lv_at hl 2 rfl) ?_
          refine lv_aload_n hx hb dX4_count_92 rfl (lv_at hl 0 rfl) ?_
          refine va_get (D := (dC, dI)) (ci := 4) (v := .int (R_floes c_r)) (C := RX4) (T := TX4) (N := 28) hx hb hts hiX4 hown hK hP 0 rfl rfl 6 (by decide) hw3 (fun _ h9 => h9) rfl dX4_count_93 ?_
          refine lv_icmp_ge (tgt := 117) hx hb dX4_count_96 (by decide) (fun c96 => ?_) (fun c96 => ?_)
          · have h := itT c96 h
            exact kx91 _ h _ _ _ hP hS (lv_sub hl [1] rfl)
          have h := itF c96 h
          refine lv_iload_n hx hb dX4_count_99 rfl (lv_at hl 1 rfl) ?_
          refine lv_aload_n hx hb dX4_count_100 rfl (lv_at hl 0 rfl) ?_
          refine lv_iload_n hx hb dX4_count_101 rfl (lv_at hl 2 rfl) ?_
          refine lv_aload_n hx hb dX4_count_102 rfl (lv_at hl 0 rfl) ?_
          refine va_get (D := (dC, dI)) (ci := 4) (v := .int (R_minute c_r)) (C := RX4) (T := TX4) (N := 28) hx hb hts hiX4 hown hK hP 0 rfl rfl 8 (by decide) hw4 (fun _ h9 => h9) rfl dX4_count_103 ?_
          obtain ⟨q106, e106, h⟩ := bd_some h
          refine g_roV (wc := (zwM cI cC f c_r c_refused c_tape c_letter c_letterAt c_number c_taped c_at c_statements c_kept c_hasImage c_isKeeping c_cursor c_poled c_barred c_leapsTo c_leapsThen c_lands c_row c_rowMany c_endsAt)) ⟨hx, hb, hml, hown, hts⟩ hE hK hP hS [0, 1, 2, 3, 4, 5, 6, 7, 8, 9, 10, 11, 12, 13, 14, 15] rfl (mX4_bearsIn l dC dI cI cC sk f x91_3 (R_minute c_r) c_r c_refused c_tape c_letter c_letterAt c_number c_taped c_at c_statements c_kept c_hasImage c_isKeeping c_cursor c_poled c_barred c_leapsTo c_leapsThen c_lands c_row c_rowMany c_endsAt q106 e106) (cwV 2 hts gX4_count_X4_bearsIn rfl rfl rfl (by decide +kernel) ⟨Nat.le_of_ble_eq_true rfl, Nat.le_of_ble_eq_true rfl⟩) (va_recv hK hP (ci := 4) (q0 := 0) rfl rfl) (As := [.int x91_3, .int (R_minute c_r)]) (rest := [.int x91_2]) rfl hl.1 rfl (Nat.le_of_ble_eq_true rfl) dX4_count_106 ⟨Nat.zero_le _, Nat.zero_le _⟩ (fun H locs hP hS => ?_)
          refine lv_iadd hx hb dX4_count_109 ?_
          refine lv_istore_n (lv' := [(2, .int (x91_2 + q106)), (0, .ref (f 0)), (3, .int x91_3)]) hx hb dX4_count_110 rfl hl (by decide) rfl (fun ls hl => ?_)
          refine lv_iinc (v := (x91_3 + (1 : Int32))) (lv' := [(3, .int (x91_3 + (1 : Int32))), (2, .int (x91_2 + q106)), (0, .ref (f 0))]) hx hb dX4_count_111 hl (k := 2) rfl rfl (by decide) rfl (fun ls hl => ?_)
          refine lv_goto (tgt := 91) hx hb dX4_count_114 (by decide) ?_
          exact ih91 _ _ h _ _ _ hP hS (lv_sub hl [2, 1, 0] rfl)
      refine L91 _ (fun k91_2 h H locs ls hP hS hl => ?_) _ _ _ h _ _ _ hP hS (lv_sub hl [2, 1, 0] rfl)
      refine lv_iload_n hx hb dX4_count_117 rfl (lv_at hl 0 rfl) ?_
      subst hQ
      exact retRO hx hb hr hlocks rfl hS h dX4_count_118
    have h := itF n5 h
    have m0 := neI n0 (i := 0) rfl
    have m1 := neI n1 (i := 1) rfl
    have m2 := neI n2 (i := 2) rfl
    have m3 := neI n3 (i := 3) rfl
    have m4 := neI n4 (i := 4) rfl
    have m5 := neI n5 (i := 5) rfl
    refine lv_tableOut (tgt := 119) hx hb dX4_count_24 (by omega) (by decide) ?_
    refine lv_bipush (v := (-9 : Int32)) hx hb dX4_count_119 (by decide) ?_
    subst hQ
    exact retRO hx hb hr hlocks rfl hS h dX4_count_121
  have h := itF c8 h
  refine lv_aload_n hx hb dX4_count_11 rfl (lv_at hl 0 rfl) ?_
  refine va_get (D := (dC, dI)) (ci := 4) (v := .ref (f 1)) (C := RX4) (T := TX4) (N := 28) hx hb hts hiX4 hown hK hP 0 rfl rfl 0 (by decide) hw1 (fun _ h9 => h9) rfl dX4_count_12 ?_
  refine lv_iload_n hx hb dX4_count_15 rfl (lv_at hl 1 rfl) ?_
  refine lv_bipush (v := (10 : Int32)) hx hb dX4_count_16 (by decide) ?_
  refine lv_isub hx hb dX4_count_18 ?_
  obtain ⟨hin, h⟩ := ck_some h
  refine va_iald hx hb hK hP 1 0 rfl rfl hin dX4_count_19 ?_
  subst hQ
  exact retRO hx hb hr hlocks rfl hS h dX4_count_20
