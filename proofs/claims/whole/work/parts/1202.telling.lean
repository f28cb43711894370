theorem dX1_faultOfForm_0 : decode cX1_faultOfForm 0 = .ok (.iconst 0, 1) := by decide +kernel
theorem dX1_faultOfForm_1 : decode cX1_faultOfForm 1 = .ok (.istore_n 1, 1) := by decide +kernel
theorem dX1_faultOfForm_2 : decode cX1_faultOfForm 2 = .ok (.iconst 0, 1) := by decide +kernel
theorem dX1_faultOfForm_3 : decode cX1_faultOfForm 3 = .ok (.istore_n 2, 1) := by decide +kernel
theorem dX1_faultOfForm_4 : decode cX1_faultOfForm 4 = .ok (.iload_n 2, 1) := by decide +kernel
theorem dX1_faultOfForm_5 : decode cX1_faultOfForm 5 = .ok (.bipush 80, 2) := by decide +kernel
theorem dX1_faultOfForm_7 : decode cX1_faultOfForm 7 = .ok (.if_icmp .ge 77, 3) := by decide +kernel
theorem dX1_faultOfForm_10 : decode cX1_faultOfForm 10 = .ok (.iload_n 2, 1) := by decide +kernel
theorem dX1_faultOfForm_11 : decode cX1_faultOfForm 11 = .ok (.ifCond .eq 11, 3) := by decide +kernel
theorem dX1_faultOfForm_14 : decode cX1_faultOfForm 14 = .ok (.iload_n 1, 1) := by decide +kernel
theorem dX1_faultOfForm_15 : decode cX1_faultOfForm 15 = .ok (.aload_n 0, 1) := by decide +kernel
theorem dX1_faultOfForm_16 : decode cX1_faultOfForm 16 = .ok (.getfield 15, 3) := by decide +kernel
theorem dX1_faultOfForm_19 : decode cX1_faultOfForm 19 = .ok (.if_icmp .ge 65, 3) := by decide +kernel
theorem dX1_faultOfForm_22 : decode cX1_faultOfForm 22 = .ok (.aload_n 0, 1) := by decide +kernel
theorem dX1_faultOfForm_23 : decode cX1_faultOfForm 23 = .ok (.iload_n 1, 1) := by decide +kernel
theorem dX1_faultOfForm_24 : decode cX1_faultOfForm 24 = .ok (.invokevirtual 27, 3) := by decide +kernel
theorem dX1_faultOfForm_27 : decode cX1_faultOfForm 27 = .ok (.astore_n 3, 1) := by decide +kernel
theorem dX1_faultOfForm_28 : decode cX1_faultOfForm 28 = .ok (.iconst 0, 1) := by decide +kernel
theorem dX1_faultOfForm_29 : decode cX1_faultOfForm 29 = .ok (.istore 4, 2) := by decide +kernel
theorem dX1_faultOfForm_31 : decode cX1_faultOfForm 31 = .ok (.iload 4, 2) := by decide +kernel
theorem dX1_faultOfForm_33 : decode cX1_faultOfForm 33 = .ok (.aload_n 3, 1) := by decide +kernel
theorem dX1_faultOfForm_34 : decode cX1_faultOfForm 34 = .ok (.invokevirtual 31, 3) := by decide +kernel
theorem dX1_faultOfForm_37 : decode cX1_faultOfForm 37 = .ok (.if_icmp .ge 34, 3) := by decide +kernel
theorem dX1_faultOfForm_40 : decode cX1_faultOfForm 40 = .ok (.aload_n 3, 1) := by decide +kernel
theorem dX1_faultOfForm_41 : decode cX1_faultOfForm 41 = .ok (.iload 4, 2) := by decide +kernel
theorem dX1_faultOfForm_43 : decode cX1_faultOfForm 43 = .ok (.invokevirtual 36, 3) := by decide +kernel
theorem dX1_faultOfForm_46 : decode cX1_faultOfForm 46 = .ok (.aload_n 0, 1) := by decide +kernel
theorem dX1_faultOfForm_47 : decode cX1_faultOfForm 47 = .ok (.iload_n 1, 1) := by decide +kernel
theorem dX1_faultOfForm_48 : decode cX1_faultOfForm 48 = .ok (.iload 4, 2) := by decide +kernel
theorem dX1_faultOfForm_50 : decode cX1_faultOfForm 50 = .ok (.iadd, 1) := by decide +kernel
theorem dX1_faultOfForm_51 : decode cX1_faultOfForm 51 = .ok (.invokevirtual 40, 3) := by decide +kernel
theorem dX1_faultOfForm_54 : decode cX1_faultOfForm 54 = .ok (.invokestatic 44, 3) := by decide +kernel
theorem dX1_faultOfForm_57 : decode cX1_faultOfForm 57 = .ok (.ifCond .ne 8, 3) := by decide +kernel
theorem dX1_faultOfForm_60 : decode cX1_faultOfForm 60 = .ok (.iload_n 1, 1) := by decide +kernel
theorem dX1_faultOfForm_61 : decode cX1_faultOfForm 61 = .ok (.iload 4, 2) := by decide +kernel
theorem dX1_faultOfForm_63 : decode cX1_faultOfForm 63 = .ok (.iadd, 1) := by decide +kernel
theorem dX1_faultOfForm_64 : decode cX1_faultOfForm 64 = .ok (.ireturn, 1) := by decide +kernel
theorem dX1_faultOfForm_65 : decode cX1_faultOfForm 65 = .ok (.iinc 4 1, 3) := by decide +kernel
theorem dX1_faultOfForm_68 : decode cX1_faultOfForm 68 = .ok (.goto (-37), 3) := by decide +kernel
theorem dX1_faultOfForm_71 : decode cX1_faultOfForm 71 = .ok (.iload_n 1, 1) := by decide +kernel
theorem dX1_faultOfForm_72 : decode cX1_faultOfForm 72 = .ok (.aload_n 3, 1) := by decide +kernel
theorem dX1_faultOfForm_73 : decode cX1_faultOfForm 73 = .ok (.invokevirtual 31, 3) := by decide +kernel
theorem dX1_faultOfForm_76 : decode cX1_faultOfForm 76 = .ok (.iadd, 1) := by decide +kernel
theorem dX1_faultOfForm_77 : decode cX1_faultOfForm 77 = .ok (.istore_n 1, 1) := by decide +kernel
theorem dX1_faultOfForm_78 : decode cX1_faultOfForm 78 = .ok (.iinc 2 1, 3) := by decide +kernel
theorem dX1_faultOfForm_81 : decode cX1_faultOfForm 81 = .ok (.goto (-77), 3) := by decide +kernel
theorem dX1_faultOfForm_84 : decode cX1_faultOfForm 84 = .ok (.iconst (-1), 1) := by decide +kernel
theorem dX1_faultOfForm_85 : decode cX1_faultOfForm 85 = .ok (.ireturn, 1) := by decide +kernel
set_option maxRecDepth 20000 in
theorem ggX1_faultOfForm_X1_formAt : GoodIn wsX1_faultOfForm wsX1_formAt := goodIn_r _ [6, 7, 8, 9, 5, 10, 1, 11, 12, 13, 14, 15, 16, 17, 18, 19, 20, 21, 22, 23, 24, 25, 26, 27, 28, 29, 30, 31, 32, 33, 34, 35, 36, 37, 38, 39, 40, 41, 42, 43, 44, 45, 46, 47, 48, 49, 50, 51, 52, 53, 54, 55, 56, 57, 58, 59, 60, 61, 62, 63, 64, 65, 66, 67, 68] (by decide +kernel) (by decide +kernel)
set_option maxRecDepth 20000 in
theorem gX1_faultOfForm_X1_formAt : GoodIn wsX1_faultOfForm (wsV RX1 27 RX1 yX1_formAt wsX1_formAt) := goodIn_app (goodIn_of _ (by decide +kernel)) ggX1_faultOfForm_X1_formAt
set_option maxRecDepth 20000 in
theorem ggX1_faultOfForm_J0_length_8abf5 : GoodIn wsX1_faultOfForm wsJ0_length_8abf5 := goodIn_r _ [22, 23, 24, 25, 26, 21, 27, 28, 29] (by decide +kernel) (by decide +kernel)
set_option maxRecDepth 20000 in
theorem gX1_faultOfForm_J0_length_8abf5 : GoodIn wsX1_faultOfForm (wsV RX1 31 RJ0 yJ0_length_8abf5 wsJ0_length_8abf5) := goodIn_app (goodIn_of _ (by decide +kernel)) ggX1_faultOfForm_J0_length_8abf5
set_option maxRecDepth 20000 in
theorem ggX1_faultOfForm_J0_charAt_5068e : GoodIn wsX1_faultOfForm wsJ0_charAt_5068e := goodIn_r _ [33, 23, 34, 35, 36, 21, 37, 28, 29, 38, 39, 40, 41, 42, 43, 44, 45, 46, 47, 48, 49, 50, 51, 52, 53, 54, 55, 56, 57, 58, 59, 60, 61, 62, 63, 64, 65, 66] (by decide +kernel) (by decide +kernel)
set_option maxRecDepth 20000 in
theorem gX1_faultOfForm_J0_charAt_5068e : GoodIn wsX1_faultOfForm (wsV RX1 36 RJ0 yJ0_charAt_5068e wsJ0_charAt_5068e) := goodIn_app (goodIn_of _ (by decide +kernel)) ggX1_faultOfForm_J0_charAt_5068e
set_option maxRecDepth 20000 in
theorem ggX1_faultOfForm_X1_letterAt : GoodIn wsX1_faultOfForm wsX1_letterAt := goodIn_r _ [10, 1, 11, 67, 68] (by decide +kernel) (by decide +kernel)
set_option maxRecDepth 20000 in
theorem gX1_faultOfForm_X1_letterAt : GoodIn wsX1_faultOfForm (wsV RX1 40 RX1 yX1_letterAt wsX1_letterAt) := goodIn_app (goodIn_of _ (by decide +kernel)) ggX1_faultOfForm_X1_letterAt
set_option maxRecDepth 20000 in
theorem ggX1_faultOfForm_X1_isOf : GoodIn wsX1_faultOfForm wsX1_isOf := goodIn_r _ [14, 15, 16, 5, 17, 18, 19, 20, 21, 22, 23, 24, 25, 26, 27, 28, 29, 30, 31, 32, 33, 34, 35, 36, 37, 38, 39, 40, 41, 42, 43, 44, 45, 46, 47, 48, 49, 50, 51, 52, 53, 54, 55, 56, 57, 58, 59, 60, 61, 62, 63, 64, 65, 66] (by decide +kernel) (by decide +kernel)
set_option maxRecDepth 20000 in
theorem gX1_faultOfForm_X1_isOf : GoodIn wsX1_faultOfForm (va_wsS RX1 44 yX1_isOf wsX1_isOf) := goodIn_app (goodIn_of _ (by decide +kernel)) ggX1_faultOfForm_X1_isOf
set_option maxHeartbeats 4000000 in
set_option maxRecDepth 100000 in
theorem mX1_faultOfForm (l : Launch) (dC : Nat → ClassId) (dI : Nat → Nat → Nat) (cI cC : ClassId) (sk : (Nat → Nat) × (Nat → Nat)) (f : Nat → Nat)  (c_letters : AR) (c_size : Int32) (z : Int32) (h : fX1_faultOfForm c_letters c_size = some z) : cRO l yX1_faultOfForm wsX1_faultOfForm (RMk 7 148) sk (dC, dI) (tyz cI cC) (zwT cI cC f c_letters c_size) [.ref (f 0)] z := by
  refine ofRO (cc := cX1_faultOfForm) (maxL := 5) (ret := (some .int)) (own := RX1) (plainFor_of_name (by decide)) rfl rfl (Nat.le_of_ble_eq_true rfl) ?_
  intro p e s m args below meth c hx hb hml hr hts hown hlocks hE hK hP hS ls hl
  generalize hQ : qRO _ _ _ _ = Q
  have hl : lv_has ls 5 [(0, .ref (f 0))] := hl
  have hiX1 : ∀ w ∈ wsX10, w ∈ wsX1_faultOfForm := fun w h => List.mem_cons_of_mem _ (List.mem_append_right _ h)
  have hw1 := hts (Cond.fieldLink RX1 15 "FloeToFloe$Telling" "size" "I") (List.mem_of_getElem? (i := 1) rfl)
  rw [fX1_faultOfForm] at h
  refine lv_iconst (v := (0 : Int32)) hx hb dX1_faultOfForm_0 (by decide) ?_
  refine lv_istore_n (lv' := [(1, .int (0 : Int32)), (0, .ref (f 0))]) hx hb dX1_faultOfForm_1 rfl hl (by decide) rfl (fun ls hl => ?_)
  refine lv_iconst (v := (0 : Int32)) hx hb dX1_faultOfForm_2 (by decide) ?_
  refine lv_istore_n (lv' := [(2, .int (0 : Int32)), (1, .int (0 : Int32)), (0, .ref (f 0))]) hx hb dX1_faultOfForm_3 rfl hl (by decide) rfl (fun ls hl => ?_)
  have L4 : ∀ (K4 : Unit → Option (Int32)), (∀ (_ : Unit), K4 () = some z → ∀ (H : Heap) (locs : List Loc) (ls : Array Slot), va_P (dC, dI) vwCl (zwT cI cC f c_letters c_size) H → va_S noA s.heap H locs → lv_has ls 5 [] → W p l e (RMk 7 148) s m args below meth c H locs 0 0 Q (F0 m 84 ls [])) → ∀ (n : Nat) (x4_1 : Int32) (x4_2 : Int32), fX1_faultOfForm_L4 c_letters c_size K4 n x4_1 x4_2 = some z → ∀ (H : Heap) (locs : List Loc) (ls : Array Slot), va_P (dC, dI) vwCl (zwT cI cC f c_letters c_size) H → va_S noA s.heap H locs → lv_has ls 5 [(0, .ref (f 0)), (1, .int x4_1), (2, .int x4_2)] → W p l e (RMk 7 148) s m args below meth c H locs 0 0 Q (F0 m 4 ls []) := by
    intro K4 kx4 n
    induction n with
    | zero => intro x4_1 x4_2 h; rw [fX1_faultOfForm_L4] at h; cases h
    | succ n ih4 =>
      intro x4_1 x4_2 h H locs ls hP hS hl
      rw [fX1_faultOfForm_L4] at h
      refine lv_iload_n hx hb dX1_faultOfForm_4 rfl (lv_at hl 2 rfl) ?_
      refine lv_bipush (v := (80 : Int32)) hx hb dX1_faultOfForm_5 (by decide) ?_
      refine lv_icmp_ge (tgt := 84) hx hb dX1_faultOfForm_7 (by decide) (fun c7 => ?_) (fun c7 => ?_)
      · have h := itT c7 h
        exact kx4 () h _ _ _ hP hS (lv_sub hl [] rfl)
      have h := itF c7 h
      refine lv_iload_n hx hb dX1_faultOfForm_10 rfl (lv_at hl 2 rfl) ?_
      refine jnW (fun (v22 : Unit) => ∀ (H : Heap) (locs : List Loc) (ls : Array Slot), va_P (dC, dI) vwCl (zwT cI cC f c_letters c_size) H → va_S noA s.heap H locs → lv_has ls 5 [(0, .ref (f 0)), (1, .int x4_1), (2, .int x4_2)] → W p l e (RMk 7 148) s m args below meth c H locs 0 0 Q (F0 m 22 ls [])) h (fun v22 h H locs ls hP hS hl => ?_) (fun J22 j22 h => ?_)
      · refine lv_aload_n hx hb dX1_faultOfForm_22 rfl (lv_at hl 0 rfl) ?_
        refine lv_iload_n hx hb dX1_faultOfForm_23 rfl (lv_at hl 1 rfl) ?_
        obtain ⟨q24, e24, h⟩ := bd_some h
        refine g_rsV (wc := (zwT cI cC f c_letters c_size)) ⟨hx, hb, hml, hown, hts⟩ hE hK hP hS [0, 1] rfl (mX1_formAt l dC dI cI cC sk f x4_1 c_letters c_size q24 e24) (cwV 1 hts gX1_faultOfForm_X1_formAt rfl rfl rfl (by decide +kernel) ⟨Nat.le_of_ble_eq_true rfl, Nat.le_of_ble_eq_true rfl⟩) (va_recv hK hP (ci := 1) (q0 := 0) rfl rfl) (As := [.int x4_1]) (rest := []) rfl hl.1 rfl (Nat.le_of_ble_eq_true rfl) dX1_faultOfForm_24 ⟨Nat.zero_le _, Nat.zero_le _⟩ (fun H locs hP hS => ?_)
        refine lv_astore_n (lv' := [(3, .ref (sk.1 q24)), (0, .ref (f 0)), (1, .int x4_1), (2, .int x4_2)]) hx hb dX1_faultOfForm_27 rfl hl (by decide) rfl (fun ls hl => ?_)
        refine lv_iconst (v := (0 : Int32)) hx hb dX1_faultOfForm_28 (by decide) ?_
        refine lv_istore (lv' := [(4, .int (0 : Int32)), (3, .ref (sk.1 q24)), (0, .ref (f 0)), (1, .int x4_1), (2, .int x4_2)]) hx hb dX1_faultOfForm_29 hl (by decide) rfl (fun ls hl => ?_)
        have L31 : ∀ (K31 : Unit → Option (Int32)), (∀ (_ : Unit), K31 () = some z → ∀ (H : Heap) (locs : List Loc) (ls : Array Slot), va_P (dC, dI) vwCl (zwT cI cC f c_letters c_size) H → va_S noA s.heap H locs → lv_has ls 5 [(0, .ref (f 0)), (1, .int x4_1), (2, .int x4_2), (3, .ref (sk.1 q24))] → W p l e (RMk 7 148) s m args below meth c H locs 0 0 Q (F0 m 71 ls [])) → ∀ (n : Nat) (x31_4 : Int32), fX1_faultOfForm_L31 c_letters c_size q24 x4_1 K31 n x31_4 = some z → ∀ (H : Heap) (locs : List Loc) (ls : Array Slot), va_P (dC, dI) vwCl (zwT cI cC f c_letters c_size) H → va_S noA s.heap H locs → lv_has ls 5 [(0, .ref (f 0)), (1, .int x4_1), (2, .int x4_2), (3, .ref (sk.1 q24)), (4, .int x31_4)] → W p l e (RMk 7 148) s m args below meth c H locs 0 0 Q (F0 m 31 ls []) := by
          intro K31 kx31 n
          induction n with
          | zero => intro x31_4 h; rw [fX1_faultOfForm_L31] at h; cases h
          | succ n ih31 =>
            intro x31_4 h H locs ls hP hS hl
            rw [fX1_faultOfForm_L31] at h
            refine lv_iload hx hb dX1_faultOfForm_31 (lv_at hl 4 rfl) ?_
            refine lv_aload_n hx hb dX1_faultOfForm_33 rfl (lv_at hl 3 rfl) ?_
            obtain ⟨q34, e34, h⟩ := bd_some h
            refine g_roV (wc := ([] : va_W)) ⟨hx, hb, hml, hown, hts⟩ hE hK hP hS [] rfl (mJ0_length_8abf5 l dC dI cI cC sk  q24 q34 e34) (cwV 0 hts gX1_faultOfForm_J0_length_8abf5 rfl rfl rfl (by decide +kernel) ⟨Nat.le_of_ble_eq_true rfl, Nat.le_of_ble_eq_true rfl⟩) (vk_recv hE.2.1 (sLen_lt e34) hS) (As := []) (rest := [.int x31_4]) rfl hl.1 rfl (Nat.le_of_ble_eq_true rfl) dX1_faultOfForm_34 ⟨Nat.zero_le _, Nat.zero_le _⟩ (fun H locs hP hS => ?_)
            refine lv_icmp_ge (tgt := 71) hx hb dX1_faultOfForm_37 (by decide) (fun c37 => ?_) (fun c37 => ?_)
            · have h := itT c37 h
              exact kx31 () h _ _ _ hP hS (lv_sub hl [0, 1, 2, 3] rfl)
            have h := itF c37 h
            refine lv_aload_n hx hb dX1_faultOfForm_40 rfl (lv_at hl 3 rfl) ?_
            refine lv_iload hx hb dX1_faultOfForm_41 (lv_at hl 4 rfl) ?_
            obtain ⟨q43, e43, h⟩ := bd_some h
            refine g_roV (wc := ([] : va_W)) ⟨hx, hb, hml, hown, hts⟩ hE hK hP hS [] rfl (mJ0_charAt_5068e l dC dI cI cC sk  q24 x31_4 q43 e43) (cwV 1 hts gX1_faultOfForm_J0_charAt_5068e rfl rfl rfl (by decide +kernel) ⟨Nat.le_of_ble_eq_true rfl, Nat.le_of_ble_eq_true rfl⟩) (vk_recv hE.2.1 (sChar_lt e43) hS) (As := [.int x31_4]) (rest := []) rfl hl.1 rfl (Nat.le_of_ble_eq_true rfl) dX1_faultOfForm_43 ⟨Nat.zero_le _, Nat.zero_le _⟩ (fun H locs hP hS => ?_)
            refine lv_aload_n hx hb dX1_faultOfForm_46 rfl (lv_at hl 0 rfl) ?_
            refine lv_iload_n hx hb dX1_faultOfForm_47 rfl (lv_at hl 1 rfl) ?_
            refine lv_iload hx hb dX1_faultOfForm_48 (lv_at hl 4 rfl) ?_
            refine lv_iadd hx hb dX1_faultOfForm_50 ?_
            obtain ⟨q51, e51, h⟩ := bd_some h
            refine g_roV (wc := (zwT cI cC f c_letters c_size)) ⟨hx, hb, hml, hown, hts⟩ hE hK hP hS [0, 1] rfl (mX1_letterAt l dC dI cI cC sk f (x4_1 + x31_4) c_letters c_size q51 e51) (cwV 1 hts gX1_faultOfForm_X1_letterAt rfl rfl rfl (by decide +kernel) ⟨Nat.le_of_ble_eq_true rfl, Nat.le_of_ble_eq_true rfl⟩) (va_recv hK hP (ci := 1) (q0 := 0) rfl rfl) (As := [.int (x4_1 + x31_4)]) (rest := [.int q43]) rfl hl.1 rfl (Nat.le_of_ble_eq_true rfl) dX1_faultOfForm_51 ⟨Nat.zero_le _, Nat.zero_le _⟩ (fun H locs hP hS => ?_)
            obtain ⟨q54, e54, h⟩ := bd_some h
            refine g_roS (wc := ([] : va_W)) ⟨hx, hb, hml, hown, hts⟩ hE hK hP hS [] rfl (mX1_isOf l dC dI cI cC sk  q43 q51 q54 e54) (va_cwS 2 hts gX1_faultOfForm_X1_isOf rfl rfl rfl (by decide +kernel) ⟨Nat.le_of_ble_eq_true rfl, Nat.le_of_ble_eq_true rfl⟩) (As := [.int q43, .int q51]) (rest := []) rfl hl.1 rfl (Nat.le_of_ble_eq_true rfl) dX1_faultOfForm_54 ⟨Nat.zero_le _, Nat.zero_le _⟩ (fun H locs hP hS => ?_)
            refine lv_if_ne (tgt := 65) hx hb dX1_faultOfForm_57 (by decide) (fun c57 => ?_) (fun c57 => ?_)
            · have h := itF c57 h
              refine lv_iinc (v := (x31_4 + (1 : Int32))) (lv' := [(4, .int (x31_4 + (1 : Int32))), (0, .ref (f 0)), (1, .int x4_1), (2, .int x4_2), (3, .ref (sk.1 q24))]) hx hb dX1_faultOfForm_65 hl (k := 4) rfl rfl (by decide) rfl (fun ls hl => ?_)
              refine lv_goto (tgt := 31) hx hb dX1_faultOfForm_68 (by decide) ?_
              exact ih31 _ h _ _ _ hP hS (lv_sub hl [1, 2, 3, 4, 0] rfl)
            have h := itT c57 h
            refine lv_iload_n hx hb dX1_faultOfForm_60 rfl (lv_at hl 1 rfl) ?_
            refine lv_iload hx hb dX1_faultOfForm_61 (lv_at hl 4 rfl) ?_
            refine lv_iadd hx hb dX1_faultOfForm_63 ?_
            subst hQ
            exact retRO hx hb hr hlocks rfl hS h dX1_faultOfForm_64
        refine L31 _ (fun _ h H locs ls hP hS hl => ?_) _ _ h _ _ _ hP hS (lv_sub hl [2, 3, 4, 1, 0] rfl)
        refine lv_iload_n hx hb dX1_faultOfForm_71 rfl (lv_at hl 1 rfl) ?_
        refine lv_aload_n hx hb dX1_faultOfForm_72 rfl (lv_at hl 3 rfl) ?_
        obtain ⟨q73, e73, h⟩ := bd_some h
        refine g_roV (wc := ([] : va_W)) ⟨hx, hb, hml, hown, hts⟩ hE hK hP hS [] rfl (mJ0_length_8abf5 l dC dI cI cC sk  q24 q73 e73) (cwV 0 hts gX1_faultOfForm_J0_length_8abf5 rfl rfl rfl (by decide +kernel) ⟨Nat.le_of_ble_eq_true rfl, Nat.le_of_ble_eq_true rfl⟩) (vk_recv hE.2.1 (sLen_lt e73) hS) (As := []) (rest := [.int x4_1]) rfl hl.1 rfl (Nat.le_of_ble_eq_true rfl) dX1_faultOfForm_73 ⟨Nat.zero_le _, Nat.zero_le _⟩ (fun H locs hP hS => ?_)
        refine lv_iadd hx hb dX1_faultOfForm_76 ?_
        refine lv_istore_n (lv' := [(1, .int (x4_1 + q73)), (0, .ref (f 0)), (2, .int x4_2), (3, .ref (sk.1 q24))]) hx hb dX1_faultOfForm_77 rfl hl (by decide) rfl (fun ls hl => ?_)
        refine lv_iinc (v := (x4_2 + (1 : Int32))) (lv' := [(2, .int (x4_2 + (1 : Int32))), (1, .int (x4_1 + q73)), (0, .ref (f 0)), (3, .ref (sk.1 q24))]) hx hb dX1_faultOfForm_78 hl (k := 2) rfl rfl (by decide) rfl (fun ls hl => ?_)
        refine lv_goto (tgt := 4) hx hb dX1_faultOfForm_81 (by decide) ?_
        exact ih4 _ _ h _ _ _ hP hS (lv_sub hl [2, 1, 0] rfl)
      refine lv_if_eq (tgt := 22) hx hb dX1_faultOfForm_11 (by decide) (fun c11 => ?_) (fun c11 => ?_)
      · have h := itT c11 h
        exact j22 _ h _ _ _ hP hS (lv_sub hl [0, 1, 2] rfl)
      have h := itF c11 h
      refine lv_iload_n hx hb dX1_faultOfForm_14 rfl (lv_at hl 1 rfl) ?_
      refine lv_aload_n hx hb dX1_faultOfForm_15 rfl (lv_at hl 0 rfl) ?_
      refine va_get (D := (dC, dI)) (ci := 1) (v := .int c_size) (C := RX1) (T := TX1) (N := 2) hx hb hts hiX1 hown hK hP 0 rfl rfl 1 (by decide) hw1 (fun _ h9 => h9) rfl dX1_faultOfForm_16 ?_
      refine lv_icmp_ge (tgt := 84) hx hb dX1_faultOfForm_19 (by decide) (fun c19 => ?_) (fun c19 => ?_)
      · have h := itT c19 h
        exact kx4 () h _ _ _ hP hS (lv_sub hl [] rfl)
      have h := itF c19 h
      exact j22 _ h _ _ _ hP hS (lv_sub hl [0, 1, 2] rfl)
  refine L4 _ (fun _ h H locs ls hP hS hl => ?_) _ _ _ h _ _ _ hP hS (lv_sub hl [2, 1, 0] rfl)
  refine lv_iconst (v := (-1 : Int32)) hx hb dX1_faultOfForm_84 (by decide) ?_
  subst hQ
  exact retRO hx hb hr hlocks rfl hS h dX1_faultOfForm_85
theorem dX1_digitAt_0 : decode cX1_digitAt 0 = .ok (.aload_n 0, 1) := by decide +kernel
theorem dX1_digitAt_1 : decode cX1_digitAt 1 = .ok (.iload_n 1, 1) := by decide +kernel
theorem dX1_digitAt_2 : decode cX1_digitAt 2 = .ok (.invokevirtual 40, 3) := by decide +kernel
theorem dX1_digitAt_5 : decode cX1_digitAt 5 = .ok (.bipush 48, 2) := by decide +kernel
theorem dX1_digitAt_7 : decode cX1_digitAt 7 = .ok (.isub, 1) := by decide +kernel
theorem dX1_digitAt_8 : decode cX1_digitAt 8 = .ok (.ireturn, 1) := by decide +kernel
set_option maxRecDepth 20000 in
theorem ggX1_digitAt_X1_letterAt : GoodIn wsX1_digitAt wsX1_letterAt := goodIn_r _ [5, 6, 7, 8, 9] (by decide +kernel) (by decide +kernel)
set_option maxRecDepth 20000 in
theorem gX1_digitAt_X1_letterAt : GoodIn wsX1_digitAt (wsV RX1 40 RX1 yX1_letterAt wsX1_letterAt) := goodIn_app (goodIn_of _ (by decide +kernel)) ggX1_digitAt_X1_letterAt
set_option maxHeartbeats 4000000 in
set_option maxRecDepth 100000 in
theorem mX1_digitAt (l : Launch) (dC : Nat → ClassId) (dI : Nat → Nat → Nat) (cI cC : ClassId) (sk : (Nat → Nat) × (Nat → Nat)) (f : Nat → Nat) (p1 : Int32) (c_letters : AR) (c_size : Int32) (z : Int32) (h : fX1_digitAt p1 c_letters c_size = some z) : cRO l yX1_digitAt wsX1_digitAt (RMk 1 21) sk (dC, dI) (tyz cI cC) (zwT cI cC f c_letters c_size) [.ref (f 0), .int p1] z := by
  refine ofRO (cc := cX1_digitAt) (maxL := 2) (ret := (some .int)) (own := RX1) (plainFor_of_name (by decide)) rfl rfl (Nat.le_of_ble_eq_true rfl) ?_
  intro p e s m args below meth c hx hb hml hr hts hown hlocks hE hK hP hS ls hl
  generalize hQ : qRO _ _ _ _ = Q
  have hl : lv_has ls 2 [(0, .ref (f 0)), (1, .int p1)] := hl
  rw [fX1_digitAt] at h
  refine lv_aload_n hx hb dX1_digitAt_0 rfl (lv_at hl 0 rfl) ?_
  refine lv_iload_n hx hb dX1_digitAt_1 rfl (lv_at hl 1 rfl) ?_
  obtain ⟨q2, e2, h⟩ := bd_some h
  refine g_roV (wc := (zwT cI cC f c_letters c_size)) ⟨hx, hb, hml, hown, hts⟩ hE hK hP hS [0, 1] rfl (mX1_letterAt l dC dI cI cC sk f p1 c_letters c_size q2 e2) (cwV 1 hts gX1_digitAt_X1_letterAt rfl rfl rfl (by decide +kernel) ⟨Nat.le_of_ble_eq_true rfl, Nat.le_of_ble_eq_true rfl⟩) (va_recv hK hP (ci := 1) (q0 := 0) rfl rfl) (As := [.int p1]) (rest := []) rfl hl.1 rfl (Nat.le_of_ble_eq_true rfl) dX1_digitAt_2 ⟨Nat.zero_le _, Nat.zero_le _⟩ (fun H locs hP hS => ?_)
  refine lv_bipush (v := (48 : Int32)) hx hb dX1_digitAt_5 (by decide) ?_
  refine lv_isub hx hb dX1_digitAt_7 ?_
  subst hQ
  exact retRO hx hb hr hlocks rfl hS h dX1_digitAt_8
