theorem dX1_tellTo_0 : decode cX1_tellTo 0 = .ok (.aload_n 0, 1) := by decide +kernel
theorem dX1_tellTo_1 : decode cX1_tellTo 1 = .ok (.invokevirtual 19, 3) := by decide +kernel
theorem dX1_tellTo_4 : decode cX1_tellTo 4 = .ok (.istore_n 2, 1) := by decide +kernel
theorem dX1_tellTo_5 : decode cX1_tellTo 5 = .ok (.iload_n 2, 1) := by decide +kernel
theorem dX1_tellTo_6 : decode cX1_tellTo 6 = .ok (.ifCond .lt 9, 3) := by decide +kernel
theorem dX1_tellTo_9 : decode cX1_tellTo 9 = .ok (.sipush (-1000), 3) := by decide +kernel
theorem dX1_tellTo_12 : decode cX1_tellTo 12 = .ok (.iload_n 2, 1) := by decide +kernel
theorem dX1_tellTo_13 : decode cX1_tellTo 13 = .ok (.isub, 1) := by decide +kernel
theorem dX1_tellTo_14 : decode cX1_tellTo 14 = .ok (.ireturn, 1) := by decide +kernel
theorem dX1_tellTo_15 : decode cX1_tellTo 15 = .ok (.iconst 0, 1) := by decide +kernel
theorem dX1_tellTo_16 : decode cX1_tellTo 16 = .ok (.istore_n 3, 1) := by decide +kernel
theorem dX1_tellTo_17 : decode cX1_tellTo 17 = .ok (.iconst 0, 1) := by decide +kernel
theorem dX1_tellTo_18 : decode cX1_tellTo 18 = .ok (.istore 4, 2) := by decide +kernel
theorem dX1_tellTo_20 : decode cX1_tellTo 20 = .ok (.iload 4, 2) := by decide +kernel
theorem dX1_tellTo_22 : decode cX1_tellTo 22 = .ok (.bipush 80, 2) := by decide +kernel
theorem dX1_tellTo_24 : decode cX1_tellTo 24 = .ok (.if_icmp .ge 43, 3) := by decide +kernel
theorem dX1_tellTo_27 : decode cX1_tellTo 27 = .ok (.iload_n 3, 1) := by decide +kernel
theorem dX1_tellTo_28 : decode cX1_tellTo 28 = .ok (.aload_n 0, 1) := by decide +kernel
theorem dX1_tellTo_29 : decode cX1_tellTo 29 = .ok (.getfield 15, 3) := by decide +kernel
theorem dX1_tellTo_32 : decode cX1_tellTo 32 = .ok (.if_icmp .ge 35, 3) := by decide +kernel
theorem dX1_tellTo_35 : decode cX1_tellTo 35 = .ok (.aload_n 0, 1) := by decide +kernel
theorem dX1_tellTo_36 : decode cX1_tellTo 36 = .ok (.aload_n 1, 1) := by decide +kernel
theorem dX1_tellTo_37 : decode cX1_tellTo 37 = .ok (.iload_n 3, 1) := by decide +kernel
theorem dX1_tellTo_38 : decode cX1_tellTo 38 = .ok (.invokevirtual 23, 3) := by decide +kernel
theorem dX1_tellTo_41 : decode cX1_tellTo 41 = .ok (.ifCond .ne 9, 3) := by decide +kernel
theorem dX1_tellTo_44 : decode cX1_tellTo 44 = .ok (.sipush (-2000), 3) := by decide +kernel
theorem dX1_tellTo_47 : decode cX1_tellTo 47 = .ok (.iload_n 3, 1) := by decide +kernel
theorem dX1_tellTo_48 : decode cX1_tellTo 48 = .ok (.isub, 1) := by decide +kernel
theorem dX1_tellTo_49 : decode cX1_tellTo 49 = .ok (.ireturn, 1) := by decide +kernel
theorem dX1_tellTo_50 : decode cX1_tellTo 50 = .ok (.iload_n 3, 1) := by decide +kernel
theorem dX1_tellTo_51 : decode cX1_tellTo 51 = .ok (.aload_n 0, 1) := by decide +kernel
theorem dX1_tellTo_52 : decode cX1_tellTo 52 = .ok (.iload_n 3, 1) := by decide +kernel
theorem dX1_tellTo_53 : decode cX1_tellTo 53 = .ok (.invokevirtual 27, 3) := by decide +kernel
theorem dX1_tellTo_56 : decode cX1_tellTo 56 = .ok (.invokevirtual 31, 3) := by decide +kernel
theorem dX1_tellTo_59 : decode cX1_tellTo 59 = .ok (.iadd, 1) := by decide +kernel
theorem dX1_tellTo_60 : decode cX1_tellTo 60 = .ok (.istore_n 3, 1) := by decide +kernel
theorem dX1_tellTo_61 : decode cX1_tellTo 61 = .ok (.iinc 4 1, 3) := by decide +kernel
theorem dX1_tellTo_64 : decode cX1_tellTo 64 = .ok (.goto (-44), 3) := by decide +kernel
theorem dX1_tellTo_67 : decode cX1_tellTo 67 = .ok (.iload 4, 2) := by decide +kernel
theorem dX1_tellTo_69 : decode cX1_tellTo 69 = .ok (.ireturn, 1) := by decide +kernel
set_option maxRecDepth 20000 in
theorem ggX1_tellTo_X1_faultOfForm : GoodIn wsX1_tellTo wsX1_faultOfForm := goodIn_r _ [6, 1, 7, 8, 9, 5, 10, 11, 12, 13, 14, 15, 16, 17, 18, 19, 20, 21, 22, 23, 24, 25, 26, 27, 28, 29, 30, 31, 32, 33, 34, 35, 36, 37, 38, 39, 40, 41, 42, 43, 44, 45, 46, 47, 48, 49, 50, 51, 52, 53, 54, 55, 56, 57, 58, 59, 60, 61, 62, 63, 64, 65, 66, 67, 68, 69, 70, 119, 120] (by decide +kernel) (by decide +kernel)
set_option maxRecDepth 20000 in
theorem gX1_tellTo_X1_faultOfForm : GoodIn wsX1_tellTo (wsV RX1 19 RX1 yX1_faultOfForm wsX1_faultOfForm) := goodIn_app (goodIn_of _ (by decide +kernel)) ggX1_tellTo_X1_faultOfForm
set_option maxRecDepth 20000 in
theorem ggX1_tellTo_X1_tellOne : GoodIn wsX1_tellTo wsX1_tellOne := goodIn_r _ [74, 11, 12, 13, 5, 14, 1, 15, 75, 76, 77, 78, 79, 80, 81, 82, 83, 84, 85, 86, 87, 88, 89, 90, 91, 92, 93, 94, 95, 96, 97, 98, 16, 17, 18, 19, 20, 21, 22, 23, 24, 25, 26, 27, 28, 29, 30, 31, 32, 33, 34, 35, 36, 37, 38, 39, 40, 41, 42, 43, 44, 45, 46, 47, 48, 49, 50, 51, 52, 53, 54, 55, 56, 57, 58, 59, 60, 61, 62, 63, 64, 65, 66, 67, 68, 69, 70, 99, 100, 101, 102, 103, 104, 105, 106, 107, 108, 109, 110, 111, 112, 113, 114, 115, 116, 117, 118, 119, 120, 121, 122, 123, 124, 125, 126, 127, 128] (by decide +kernel) (by decide +kernel)
set_option maxRecDepth 20000 in
theorem gX1_tellTo_X1_tellOne : GoodIn wsX1_tellTo (wsV RX1 23 RX1 yX1_tellOne wsX1_tellOne) := goodIn_app (goodIn_of _ (by decide +kernel)) ggX1_tellTo_X1_tellOne
set_option maxRecDepth 20000 in
theorem ggX1_tellTo_X1_formAt : GoodIn wsX1_tellTo wsX1_formAt := goodIn_r _ [10, 11, 12, 13, 5, 14, 1, 15, 16, 17, 18, 19, 20, 21, 22, 23, 24, 25, 26, 27, 28, 29, 30, 31, 32, 33, 34, 35, 36, 37, 38, 39, 40, 41, 42, 43, 44, 45, 46, 47, 48, 49, 50, 51, 52, 53, 54, 55, 56, 57, 58, 59, 60, 61, 62, 63, 64, 65, 66, 67, 68, 69, 70, 119, 120] (by decide +kernel) (by decide +kernel)
set_option maxRecDepth 20000 in
theorem gX1_tellTo_X1_formAt : GoodIn wsX1_tellTo (wsV RX1 27 RX1 yX1_formAt wsX1_formAt) := goodIn_app (goodIn_of _ (by decide +kernel)) ggX1_tellTo_X1_formAt
set_option maxRecDepth 20000 in
theorem ggX1_tellTo_J0_length_8abf5 : GoodIn wsX1_tellTo wsJ0_length_8abf5 := goodIn_r _ [26, 27, 28, 29, 30, 25, 31, 32, 33] (by decide +kernel) (by decide +kernel)
set_option maxRecDepth 20000 in
theorem gX1_tellTo_J0_length_8abf5 : GoodIn wsX1_tellTo (wsV RX1 31 RJ0 yJ0_length_8abf5 wsJ0_length_8abf5) := goodIn_app (goodIn_of _ (by decide +kernel)) ggX1_tellTo_J0_length_8abf5
set_option maxHeartbeats 4000000 in
set_option maxRecDepth 100000 in
theorem mX1_tellTo (l : Launch) (dC : Nat → ClassId) (dI : Nat → Nat → Nat) (cI cC : ClassId) (sk : (Nat → Nat) × (Nat → Nat)) (f : Nat → Nat) (sz : Nat)  (c_r : RT) (c_letters : AR) (c_size : Int32) (z : Int32 × RT) (h : fX1_tellTo c_r c_letters c_size = some z) : cRW l yX1_tellTo wsX1_tellTo (RMk 8 172) sk (dC, dI) (tyz cI cC) sz (zwTR cI cC f c_r c_letters c_size) (zwTR cI cC f z.2 c_letters c_size) [.ref (f 6), .ref (f 0)] z.1 := by
  refine ofRW (cc := cX1_tellTo) (maxL := 5) (ret := (some .int)) (own := RX1) (plainFor_of_name (by decide)) rfl rfl (Nat.le_of_ble_eq_true rfl) ?_
  intro p e s m args below meth c A hA hx hb hml hr hts hown hlocks hE hK hP hD hS ls hl
  generalize hQ : qRW _ _ _ _ _ _ _ = Q
  have hl : lv_has ls 5 [(0, .ref (f 6)), (1, .ref (f 0))] := hl
  have hiX1 : ∀ w ∈ wsX10, w ∈ wsX1_tellTo := fun w h => List.mem_cons_of_mem _ (List.mem_append_left _ (List.mem_append_right _ h))
  have hw1 := hts (Cond.fieldLink RX1 15 "FloeToFloe$Telling" "size" "I") (List.mem_of_getElem? (i := 1) rfl)
  rw [fX1_tellTo] at h
  refine lv_aload_n hx hb dX1_tellTo_0 rfl (lv_at hl 0 rfl) ?_
  obtain ⟨q1, e1, h⟩ := bd_some h
  refine g_roV (wc := (zwT cI cC (fun k => f (k + 6)) c_letters c_size)) ⟨hx, hb, hml, hown, hts⟩ hE hK hP hS [6, 7] rfl (mX1_faultOfForm l dC dI cI cC sk (fun k => f (k + 6)) c_letters c_size q1 e1) (cwV 0 hts gX1_tellTo_X1_faultOfForm rfl rfl rfl (by decide +kernel) ⟨Nat.le_of_ble_eq_true rfl, Nat.le_of_ble_eq_true rfl⟩) (va_recv hK hP (ci := 1) (q0 := 6) rfl rfl) (As := []) (rest := []) rfl hl.1 rfl (Nat.le_of_ble_eq_true rfl) dX1_tellTo_1 ⟨Nat.zero_le _, Nat.zero_le _⟩ (fun H locs hP hS => ?_)
  refine lv_istore_n (lv' := [(2, .int q1), (0, .ref (f 6)), (1, .ref (f 0))]) hx hb dX1_tellTo_4 rfl hl (by decide) rfl (fun ls hl => ?_)
  refine lv_iload_n hx hb dX1_tellTo_5 rfl (lv_at hl 0 rfl) ?_
  refine lv_if_lt (tgt := 15) hx hb dX1_tellTo_6 (by decide) (fun c6 => ?_) (fun c6 => ?_)
  · have h := itT c6 h
    refine lv_iconst (v := (0 : Int32)) hx hb dX1_tellTo_15 (by decide) ?_
    refine lv_istore_n (lv' := [(3, .int (0 : Int32)), (2, .int q1), (0, .ref (f 6)), (1, .ref (f 0))]) hx hb dX1_tellTo_16 rfl hl (by decide) rfl (fun ls hl => ?_)
    refine lv_iconst (v := (0 : Int32)) hx hb dX1_tellTo_17 (by decide) ?_
    refine lv_istore (lv' := [(4, .int (0 : Int32)), (3, .int (0 : Int32)), (2, .int q1), (0, .ref (f 6)), (1, .ref (f 0))]) hx hb dX1_tellTo_18 hl (by decide) rfl (fun ls hl => ?_)
    have L20 : ∀ (K20 : Int32 → RT → Option (Int32 × RT)), (∀ (k20_4 : Int32) (k20_r : RT), K20 k20_4 k20_r = some z → ∀ (H : Heap) (locs : List Loc) (ls : Array Slot), va_P (dC, dI) vwCl (zwTR cI cC f k20_r c_letters c_size) H → va_D A (zwTR cI cC f k20_r c_letters c_size) → va_S A s.heap H locs → lv_has ls 5 [(4, .int k20_4)] → W p l e (RMk 8 172) s m args below meth c H locs 0 0 Q (F0 m 67 ls [])) → ∀ (n : Nat) (x20_3 : Int32) (x20_4 : Int32) (x20_r : RT), fX1_tellTo_L20 c_letters c_size K20 n x20_3 x20_4 x20_r = some z → ∀ (H : Heap) (locs : List Loc) (ls : Array Slot), va_P (dC, dI) vwCl (zwTR cI cC f x20_r c_letters c_size) H → va_D A (zwTR cI cC f x20_r c_letters c_size) → va_S A s.heap H locs → lv_has ls 5 [(0, .ref (f 6)), (1, .ref (f 0)), (3, .int x20_3), (4, .int x20_4)] → W p l e (RMk 8 172) s m args below meth c H locs 0 0 Q (F0 m 20 ls []) := by
      intro K20 kx20 n
      induction n with
      | zero => intro x20_3 x20_4 x20_r h; rw [fX1_tellTo_L20] at h; cases h
      | succ n ih20 =>
        intro x20_3 x20_4 x20_r h H locs ls hP hD hS hl
        rw [fX1_tellTo_L20] at h
        refine lv_iload hx hb dX1_tellTo_20 (lv_at hl 3 rfl) ?_
        refine lv_bipush (v := (80 : Int32)) hx hb dX1_tellTo_22 (by decide) ?_
        refine lv_icmp_ge (tgt := 67) hx hb dX1_tellTo_24 (by decide) (fun c24 => ?_) (fun c24 => ?_)
        · have h := itT c24 h
          exact kx20 _ _ h _ _ _ hP hD hS (lv_sub hl [3] rfl)
        have h := itF c24 h
        refine lv_iload_n hx hb dX1_tellTo_27 rfl (lv_at hl 2 rfl) ?_
        refine lv_aload_n hx hb dX1_tellTo_28 rfl (lv_at hl 0 rfl) ?_
        refine va_get (D := (dC, dI)) (ci := 1) (v := .int c_size) (C := RX1) (T := TX1) (N := 2) hx hb hts hiX1 hown hK hP 6 rfl rfl 1 (by decide) hw1 (fun _ h9 => h9) rfl dX1_tellTo_29 ?_
        refine lv_icmp_ge (tgt := 67) hx hb dX1_tellTo_32 (by decide) (fun c32 => ?_) (fun c32 => ?_)
        · have h := itT c32 h
          exact kx20 _ _ h _ _ _ hP hD hS (lv_sub hl [3] rfl)
        have h := itF c32 h
        refine lv_aload_n hx hb dX1_tellTo_35 rfl (lv_at hl 0 rfl) ?_
        refine lv_aload_n hx hb dX1_tellTo_36 rfl (lv_at hl 1 rfl) ?_
        refine lv_iload_n hx hb dX1_tellTo_37 rfl (lv_at hl 2 rfl) ?_
        obtain ⟨q38, e38, h⟩ := bd_some h
        refine g_rwA (wc := (zwTR cI cC f x20_r c_letters c_size)) (wc' := (zwTR cI cC f q38.2 c_letters c_size)) ⟨hx, hb, hml, hown, hts⟩ hE hK hA hP hD hS rfl (mX1_tellOne l dC dI cI cC sk f H.size x20_3 x20_r c_letters c_size q38 e38) (cwV 2 hts gX1_tellTo_X1_tellOne rfl rfl rfl (by decide +kernel) ⟨Nat.le_of_ble_eq_true rfl, Nat.le_of_ble_eq_true rfl⟩) (va_recv hK hP (ci := 1) (q0 := 6) rfl rfl) (As := [.ref (f 0), .int x20_3]) (rest := []) rfl hl.1 rfl (Nat.le_of_ble_eq_true rfl) dX1_tellTo_38 ⟨Nat.zero_le _, Nat.zero_le _⟩ (fun H locs hP hD hS => ?_)
        have hP : va_P (dC, dI) vwCl (zwTR cI cC f q38.2 c_letters c_size) H := hP
        have hD : va_D A (zwTR cI cC f q38.2 c_letters c_size) := hD
        refine lv_if_ne (tgt := 50) hx hb dX1_tellTo_41 (by decide) (fun c41 => ?_) (fun c41 => ?_)
        · have h := itF c41 h
          refine lv_iload_n hx hb dX1_tellTo_50 rfl (lv_at hl 2 rfl) ?_
          refine lv_aload_n hx hb dX1_tellTo_51 rfl (lv_at hl 0 rfl) ?_
          refine lv_iload_n hx hb dX1_tellTo_52 rfl (lv_at hl 2 rfl) ?_
          obtain ⟨q53, e53, h⟩ := bd_some h
          refine g_rsV (wc := (zwT cI cC (fun k => f (k + 6)) c_letters c_size)) ⟨hx, hb, hml, hown, hts⟩ hE hK hP hS [6, 7] rfl (mX1_formAt l dC dI cI cC sk (fun k => f (k + 6)) x20_3 c_letters c_size q53 e53) (cwV 1 hts gX1_tellTo_X1_formAt rfl rfl rfl (by decide +kernel) ⟨Nat.le_of_ble_eq_true rfl, Nat.le_of_ble_eq_true rfl⟩) (va_recv hK hP (ci := 1) (q0 := 6) rfl rfl) (As := [.int x20_3]) (rest := [.int x20_3]) rfl hl.1 rfl (Nat.le_of_ble_eq_true rfl) dX1_tellTo_53 ⟨Nat.zero_le _, Nat.zero_le _⟩ (fun H locs hP hS => ?_)
          obtain ⟨q56, e56, h⟩ := bd_some h
          refine g_roV (wc := ([] : va_W)) ⟨hx, hb, hml, hown, hts⟩ hE hK hP hS [] rfl (mJ0_length_8abf5 l dC dI cI cC sk  q53 q56 e56) (cwV 0 hts gX1_tellTo_J0_length_8abf5 rfl rfl rfl (by decide +kernel) ⟨Nat.le_of_ble_eq_true rfl, Nat.le_of_ble_eq_true rfl⟩) (vk_recv hE.2.1 (sLen_lt e56) hS) (As := []) (rest := [.int x20_3]) rfl hl.1 rfl (Nat.le_of_ble_eq_true rfl) dX1_tellTo_56 ⟨Nat.zero_le _, Nat.zero_le _⟩ (fun H locs hP hS => ?_)
          refine lv_iadd hx hb dX1_tellTo_59 ?_
          refine lv_istore_n (lv' := [(3, .int (x20_3 + q56)), (0, .ref (f 6)), (1, .ref (f 0)), (4, .int x20_4)]) hx hb dX1_tellTo_60 rfl hl (by decide) rfl (fun ls hl => ?_)
          refine lv_iinc (v := (x20_4 + (1 : Int32))) (lv' := [(4, .int (x20_4 + (1 : Int32))), (3, .int (x20_3 + q56)), (0, .ref (f 6)), (1, .ref (f 0))]) hx hb dX1_tellTo_61 hl (k := 3) rfl rfl (by decide) rfl (fun ls hl => ?_)
          refine lv_goto (tgt := 20) hx hb dX1_tellTo_64 (by decide) ?_
          exact ih20 _ _ _ h _ _ _ hP hD hS (lv_sub hl [2, 3, 1, 0] rfl)
        have h := itT c41 h
        refine lv_sipush (v := (-2000 : Int32)) hx hb dX1_tellTo_44 (by decide) ?_
        refine lv_iload_n hx hb dX1_tellTo_47 rfl (lv_at hl 2 rfl) ?_
        refine lv_isub hx hb dX1_tellTo_48 ?_
        subst hQ
        exact retRW (zz := ((((-2000 : Int32) - x20_3), q38.2) : Int32 × RT)) (fun z => z.1) (fun z => (zwTR cI cC f z.2 c_letters c_size)) hx hb hr hlocks rfl hS h rfl hP dX1_tellTo_49
    refine L20 _ (fun k20_4 k20_r h H locs ls hP hD hS hl => ?_) _ _ _ _ h _ _ _ hP hD hS (lv_sub hl [3, 4, 1, 0] rfl)
    refine lv_iload hx hb dX1_tellTo_67 (lv_at hl 0 rfl) ?_
    subst hQ
    exact retRW (zz := ((k20_4, k20_r) : Int32 × RT)) (fun z => z.1) (fun z => (zwTR cI cC f z.2 c_letters c_size)) hx hb hr hlocks rfl hS h rfl hP dX1_tellTo_69
  have h := itF c6 h
  refine lv_sipush (v := (-1000 : Int32)) hx hb dX1_tellTo_9 (by decide) ?_
  refine lv_iload_n hx hb dX1_tellTo_12 rfl (lv_at hl 0 rfl) ?_
  refine lv_isub hx hb dX1_tellTo_13 ?_
  subst hQ
  exact retRW (zz := ((((-1000 : Int32) - q1), c_r) : Int32 × RT)) (fun z => z.1) (fun z => (zwTR cI cC f z.2 c_letters c_size)) hx hb hr hlocks rfl hS h rfl hP dX1_tellTo_14
