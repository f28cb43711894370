theorem dX2_floesBeside_0 : decode cX2_floesBeside 0 = .ok (.iconst 0, 1) := by decide +kernel
theorem dX2_floesBeside_1 : decode cX2_floesBeside 1 = .ok (.istore_n 2, 1) := by decide +kernel
theorem dX2_floesBeside_2 : decode cX2_floesBeside 2 = .ok (.aload_n 0, 1) := by decide +kernel
theorem dX2_floesBeside_3 : decode cX2_floesBeside 3 = .ok (.getfield 12, 3) := by decide +kernel
theorem dX2_floesBeside_6 : decode cX2_floesBeside 6 = .ok (.iload_n 1, 1) := by decide +kernel
theorem dX2_floesBeside_7 : decode cX2_floesBeside 7 = .ok (.invokevirtual 52, 3) := by decide +kernel
theorem dX2_floesBeside_10 : decode cX2_floesBeside 10 = .ok (.ifCond .ne 5, 3) := by decide +kernel
theorem dX2_floesBeside_13 : decode cX2_floesBeside 13 = .ok (.iload_n 2, 1) := by decide +kernel
theorem dX2_floesBeside_14 : decode cX2_floesBeside 14 = .ok (.ireturn, 1) := by decide +kernel
theorem dX2_floesBeside_15 : decode cX2_floesBeside 15 = .ok (.aload_n 0, 1) := by decide +kernel
theorem dX2_floesBeside_16 : decode cX2_floesBeside 16 = .ok (.getfield 22, 3) := by decide +kernel
theorem dX2_floesBeside_19 : decode cX2_floesBeside 19 = .ok (.iload_n 1, 1) := by decide +kernel
theorem dX2_floesBeside_20 : decode cX2_floesBeside 20 = .ok (.iaload, 1) := by decide +kernel
theorem dX2_floesBeside_21 : decode cX2_floesBeside 21 = .ok (.invokestatic 89, 3) := by decide +kernel
theorem dX2_floesBeside_24 : decode cX2_floesBeside 24 = .ok (.istore_n 3, 1) := by decide +kernel
theorem dX2_floesBeside_25 : decode cX2_floesBeside 25 = .ok (.iconst 0, 1) := by decide +kernel
theorem dX2_floesBeside_26 : decode cX2_floesBeside 26 = .ok (.istore 4, 2) := by decide +kernel
theorem dX2_floesBeside_28 : decode cX2_floesBeside 28 = .ok (.iload 4, 2) := by decide +kernel
theorem dX2_floesBeside_30 : decode cX2_floesBeside 30 = .ok (.bipush 8, 2) := by decide +kernel
theorem dX2_floesBeside_32 : decode cX2_floesBeside 32 = .ok (.if_icmp .ge 64, 3) := by decide +kernel
theorem dX2_floesBeside_35 : decode cX2_floesBeside 35 = .ok (.aload_n 0, 1) := by decide +kernel
theorem dX2_floesBeside_36 : decode cX2_floesBeside 36 = .ok (.getfield 12, 3) := by decide +kernel
theorem dX2_floesBeside_39 : decode cX2_floesBeside 39 = .ok (.iload 4, 2) := by decide +kernel
theorem dX2_floesBeside_41 : decode cX2_floesBeside 41 = .ok (.invokevirtual 52, 3) := by decide +kernel
theorem dX2_floesBeside_44 : decode cX2_floesBeside 44 = .ok (.ifCond .eq 46, 3) := by decide +kernel
theorem dX2_floesBeside_47 : decode cX2_floesBeside 47 = .ok (.aload_n 0, 1) := by decide +kernel
theorem dX2_floesBeside_48 : decode cX2_floesBeside 48 = .ok (.getfield 18, 3) := by decide +kernel
theorem dX2_floesBeside_51 : decode cX2_floesBeside 51 = .ok (.iload 4, 2) := by decide +kernel
theorem dX2_floesBeside_53 : decode cX2_floesBeside 53 = .ok (.iaload, 1) := by decide +kernel
theorem dX2_floesBeside_54 : decode cX2_floesBeside 54 = .ok (.aload_n 0, 1) := by decide +kernel
theorem dX2_floesBeside_55 : decode cX2_floesBeside 55 = .ok (.getfield 18, 3) := by decide +kernel
theorem dX2_floesBeside_58 : decode cX2_floesBeside 58 = .ok (.iload_n 1, 1) := by decide +kernel
theorem dX2_floesBeside_59 : decode cX2_floesBeside 59 = .ok (.iaload, 1) := by decide +kernel
theorem dX2_floesBeside_60 : decode cX2_floesBeside 60 = .ok (.isub, 1) := by decide +kernel
theorem dX2_floesBeside_61 : decode cX2_floesBeside 61 = .ok (.invokestatic 98, 3) := by decide +kernel
theorem dX2_floesBeside_64 : decode cX2_floesBeside 64 = .ok (.iconst 1, 1) := by decide +kernel
theorem dX2_floesBeside_65 : decode cX2_floesBeside 65 = .ok (.if_icmp .ne 25, 3) := by decide +kernel
theorem dX2_floesBeside_68 : decode cX2_floesBeside 68 = .ok (.iload_n 3, 1) := by decide +kernel
theorem dX2_floesBeside_69 : decode cX2_floesBeside 69 = .ok (.aload_n 0, 1) := by decide +kernel
theorem dX2_floesBeside_70 : decode cX2_floesBeside 70 = .ok (.getfield 22, 3) := by decide +kernel
theorem dX2_floesBeside_73 : decode cX2_floesBeside 73 = .ok (.iload 4, 2) := by decide +kernel
theorem dX2_floesBeside_75 : decode cX2_floesBeside 75 = .ok (.iaload, 1) := by decide +kernel
theorem dX2_floesBeside_76 : decode cX2_floesBeside 76 = .ok (.ishr, 1) := by decide +kernel
theorem dX2_floesBeside_77 : decode cX2_floesBeside 77 = .ok (.iconst 1, 1) := by decide +kernel
theorem dX2_floesBeside_78 : decode cX2_floesBeside 78 = .ok (.iand, 1) := by decide +kernel
theorem dX2_floesBeside_79 : decode cX2_floesBeside 79 = .ok (.iconst 1, 1) := by decide +kernel
theorem dX2_floesBeside_80 : decode cX2_floesBeside 80 = .ok (.if_icmp .ne 10, 3) := by decide +kernel
theorem dX2_floesBeside_83 : decode cX2_floesBeside 83 = .ok (.iload_n 2, 1) := by decide +kernel
theorem dX2_floesBeside_84 : decode cX2_floesBeside 84 = .ok (.iconst 1, 1) := by decide +kernel
theorem dX2_floesBeside_85 : decode cX2_floesBeside 85 = .ok (.iload 4, 2) := by decide +kernel
theorem dX2_floesBeside_87 : decode cX2_floesBeside 87 = .ok (.ishl, 1) := by decide +kernel
theorem dX2_floesBeside_88 : decode cX2_floesBeside 88 = .ok (.ior, 1) := by decide +kernel
theorem dX2_floesBeside_89 : decode cX2_floesBeside 89 = .ok (.istore_n 2, 1) := by decide +kernel
theorem dX2_floesBeside_90 : decode cX2_floesBeside 90 = .ok (.iinc 4 1, 3) := by decide +kernel
theorem dX2_floesBeside_93 : decode cX2_floesBeside 93 = .ok (.goto (-65), 3) := by decide +kernel
theorem dX2_floesBeside_96 : decode cX2_floesBeside 96 = .ok (.iload_n 2, 1) := by decide +kernel
theorem dX2_floesBeside_97 : decode cX2_floesBeside 97 = .ok (.ireturn, 1) := by decide +kernel
set_option maxRecDepth 20000 in
theorem ggX2_floesBeside_X0_has : GoodIn wsX2_floesBeside wsX0_has := goodIn_r _ [12, 13, 27, 28, 29, 30, 31, 32, 33, 34] (by decide +kernel) (by decide +kernel)
set_option maxRecDepth 20000 in
theorem gX2_floesBeside_X0_has : GoodIn wsX2_floesBeside (wsV RX2 52 RX0 yX0_has wsX0_has) := goodIn_app (goodIn_of _ (by decide +kernel)) ggX2_floesBeside_X0_has
set_option maxRecDepth 20000 in
theorem ggX2_floesBeside_X2_cellsNear : GoodIn wsX2_floesBeside wsX2_cellsNear := goodIn_r _ [17] (by decide +kernel) (by decide +kernel)
set_option maxRecDepth 20000 in
theorem gX2_floesBeside_X2_cellsNear : GoodIn wsX2_floesBeside (va_wsS RX2 89 yX2_cellsNear wsX2_cellsNear) := goodIn_app (goodIn_of _ (by decide +kernel)) ggX2_floesBeside_X2_cellsNear
set_option maxHeartbeats 4000000 in
set_option maxRecDepth 100000 in
theorem mX2_floesBeside (l : Launch) (dC : Nat → ClassId) (dI : Nat → Nat → Nat) (cI cC : ClassId) (sk : (Nat → Nat) × (Nat → Nat)) (f : Nat → Nat) (p1 : Int32) (c_lanes : AR) (c_spots : AR) (c_byLeaps : AR) (c_load : Int32) (c_gone : Int32) (c_held : Int32) (c_strong : Int32) (c_done : Int32) (c_r : RT) (z : Int32) (h : fX2_floesBeside p1 c_lanes c_spots c_r = some z) : cRO l yX2_floesBeside wsX2_floesBeside (RMk 1 21) sk (dC, dI) (tyz cI cC) (zwV cI cC f c_lanes c_spots c_byLeaps c_load c_gone c_held c_strong c_done c_r) [.ref (f 0), .int p1] z := by
  refine ofRO (cc := cX2_floesBeside) (maxL := 5) (ret := (some .int)) (own := RX2) (plainFor_of_name (by decide)) rfl rfl (Nat.le_of_ble_eq_true rfl) ?_
  intro p e s m args below meth c hx hb hml hr hts hown hlocks hE hK hP hS ls hl
  generalize hQ : qRO _ _ _ _ = Q
  have hl : lv_has ls 5 [(0, .ref (f 0)), (1, .int p1)] := hl
  have hiX2 : ∀ w ∈ wsX20, w ∈ wsX2_floesBeside := fun w h => List.mem_cons_of_mem _ (List.mem_append_left _ (List.mem_append_right _ h))
  have hw1 := hts (Cond.fieldLink RX2 12 "FloeToFloe$Walk" "river" "LFloeToFloe$River;") (List.mem_of_getElem? (i := 1) rfl)
  have hw2 := hts (Cond.fieldLink RX2 22 "FloeToFloe$Walk" "spots" "[I") (List.mem_of_getElem? (i := 2) rfl)
  have hw3 := hts (Cond.fieldLink RX2 18 "FloeToFloe$Walk" "lanes" "[I") (List.mem_of_getElem? (i := 3) rfl)
  have hw4 := hts (Cond.methodLink RX2 98 Lib.Math.abs.name) (List.mem_of_getElem? (i := 4) rfl)
  have hw5 := hts (Cond.static Lib.Math.abs.name) (List.mem_of_getElem? (i := 5) rfl)
  have hw6 := hts (Cond.initialized "java/lang/Math") (List.mem_of_getElem? (i := 6) rfl)
  have hw7 := hts (Cond.code Lib.Math.abs.name Lib.Math.abs.code 1 (some .int)) (List.mem_of_getElem? (i := 7) rfl)
  rw [fX2_floesBeside] at h
  refine lv_iconst (v := (0 : Int32)) hx hb dX2_floesBeside_0 (by decide) ?_
  refine lv_istore_n (lv' := [(2, .int (0 : Int32)), (0, .ref (f 0)), (1, .int p1)]) hx hb dX2_floesBeside_1 rfl hl (by decide) rfl (fun ls hl => ?_)
  refine lv_aload_n hx hb dX2_floesBeside_2 rfl (lv_at hl 1 rfl) ?_
  refine va_get (D := (dC, dI)) (ci := 2) (v := .ref (f 4)) (C := RX2) (T := TX2) (N := 9) hx hb hts hiX2 hown hK hP 0 rfl rfl 0 (by decide) hw1 (fun _ h9 => h9) rfl dX2_floesBeside_3 ?_
  refine lv_iload_n hx hb dX2_floesBeside_6 rfl (lv_at hl 2 rfl) ?_
  obtain ⟨q7, e7, h⟩ := bd_some h
  refine g_roV (wc := (zwR cI cC (fun k => f (k + 4)) c_r)) ⟨hx, hb, hml, hown, hts⟩ hE hK hP hS [4, 5, 6, 7, 8, 9] rfl (mX0_has l dC dI cI cC sk (fun k => f (k + 4)) p1 c_r q7 e7) (cwV 1 hts gX2_floesBeside_X0_has rfl rfl rfl (by decide +kernel) ⟨Nat.le_of_ble_eq_true rfl, Nat.le_of_ble_eq_true rfl⟩) (va_recv hK hP (ci := 0) (q0 := 4) rfl rfl) (As := [.int p1]) (rest := []) rfl hl.1 rfl (Nat.le_of_ble_eq_true rfl) dX2_floesBeside_7 ⟨Nat.zero_le _, Nat.zero_le _⟩ (fun H locs hP hS => ?_)
  refine lv_if_ne (tgt := 15) hx hb dX2_floesBeside_10 (by decide) (fun c10 => ?_) (fun c10 => ?_)
  · have h := itF c10 h
    refine lv_aload_n hx hb dX2_floesBeside_15 rfl (lv_at hl 1 rfl) ?_
    refine va_get (D := (dC, dI)) (ci := 2) (v := .ref (f 2)) (C := RX2) (T := TX2) (N := 9) hx hb hts hiX2 hown hK hP 0 rfl rfl 2 (by decide) hw2 (fun _ h9 => h9) rfl dX2_floesBeside_16 ?_
    refine lv_iload_n hx hb dX2_floesBeside_19 rfl (lv_at hl 2 rfl) ?_
    obtain ⟨hin, h⟩ := ck_some h
    refine va_iald hx hb hK hP 2 0 rfl rfl hin dX2_floesBeside_20 ?_
    obtain ⟨q21, e21, h⟩ := bd_some h
    refine g_roS (wc := ([] : va_W)) ⟨hx, hb, hml, hown, hts⟩ hE hK hP hS [] rfl (mX2_cellsNear l dC dI cI cC sk  (c_spots (p1).toNatClampNeg) q21 e21) (va_cwS 1 hts gX2_floesBeside_X2_cellsNear rfl rfl rfl (by decide +kernel) ⟨Nat.le_of_ble_eq_true rfl, Nat.le_of_ble_eq_true rfl⟩) (As := [.int (c_spots (p1).toNatClampNeg)]) (rest := []) rfl hl.1 rfl (Nat.le_of_ble_eq_true rfl) dX2_floesBeside_21 ⟨Nat.zero_le _, Nat.zero_le _⟩ (fun H locs hP hS => ?_)
    refine lv_istore_n (lv' := [(3, .int q21), (2, .int (0 : Int32)), (0, .ref (f 0)), (1, .int p1)]) hx hb dX2_floesBeside_24 rfl hl (by decide) rfl (fun ls hl => ?_)
    refine lv_iconst (v := (0 : Int32)) hx hb dX2_floesBeside_25 (by decide) ?_
    refine lv_istore (lv' := [(4, .int (0 : Int32)), (3, .int q21), (2, .int (0 : Int32)), (0, .ref (f 0)), (1, .int p1)]) hx hb dX2_floesBeside_26 hl (by decide) rfl (fun ls hl => ?_)
    have L28 : ∀ (K28 : Int32 → Option (Int32)), (∀ (k28_2 : Int32), K28 k28_2 = some z → ∀ (H : Heap) (locs : List Loc) (ls : Array Slot), va_P (dC, dI) vwCl (zwV cI cC f c_lanes c_spots c_byLeaps c_load c_gone c_held c_strong c_done c_r) H → va_S noA s.heap H locs → lv_has ls 5 [(2, .int k28_2)] → W p l e (RMk 1 21) s m args below meth c H locs 0 0 Q (F0 m 96 ls [])) → ∀ (n : Nat) (x28_2 : Int32) (x28_4 : Int32), fX2_floesBeside_L28 c_lanes c_r c_spots p1 q21 K28 n x28_2 x28_4 = some z → ∀ (H : Heap) (locs : List Loc) (ls : Array Slot), va_P (dC, dI) vwCl (zwV cI cC f c_lanes c_spots c_byLeaps c_load c_gone c_held c_strong c_done c_r) H → va_S noA s.heap H locs → lv_has ls 5 [(0, .ref (f 0)), (1, .int p1), (2, .int x28_2), (3, .int q21), (4, .int x28_4)] → W p l e (RMk 1 21) s m args below meth c H locs 0 0 Q (F0 m 28 ls []) := by
      intro K28 kx28 n
      induction n with
      | zero => intro x28_2 x28_4 h; rw [fX2_floesBeside_L28] at h; cases h
      | succ n ih28 =>
        intro x28_2 x28_4 h H locs ls hP hS hl
        rw [fX2_floesBeside_L28] at h
        refine lv_iload hx hb dX2_floesBeside_28 (lv_at hl 4 rfl) ?_
        refine lv_bipush (v := (8 : Int32)) hx hb dX2_floesBeside_30 (by decide) ?_
        refine lv_icmp_ge (tgt := 96) hx hb dX2_floesBeside_32 (by decide) (fun c32 => ?_) (fun c32 => ?_)
        · have h := itT c32 h
          exact kx28 _ h _ _ _ hP hS (lv_sub hl [2] rfl)
        have h := itF c32 h
        refine lv_aload_n hx hb dX2_floesBeside_35 rfl (lv_at hl 0 rfl) ?_
        refine va_get (D := (dC, dI)) (ci := 2) (v := .ref (f 4)) (C := RX2) (T := TX2) (N := 9) hx hb hts hiX2 hown hK hP 0 rfl rfl 0 (by decide) hw1 (fun _ h9 => h9) rfl dX2_floesBeside_36 ?_
        refine lv_iload hx hb dX2_floesBeside_39 (lv_at hl 4 rfl) ?_
        obtain ⟨q41, e41, h⟩ := bd_some h
        refine g_roV (wc := (zwR cI cC (fun k => f (k + 4)) c_r)) ⟨hx, hb, hml, hown, hts⟩ hE hK hP hS [4, 5, 6, 7, 8, 9] rfl (mX0_has l dC dI cI cC sk (fun k => f (k + 4)) x28_4 c_r q41 e41) (cwV 1 hts gX2_floesBeside_X0_has rfl rfl rfl (by decide +kernel) ⟨Nat.le_of_ble_eq_true rfl, Nat.le_of_ble_eq_true rfl⟩) (va_recv hK hP (ci := 0) (q0 := 4) rfl rfl) (As := [.int x28_4]) (rest := []) rfl hl.1 rfl (Nat.le_of_ble_eq_true rfl) dX2_floesBeside_41 ⟨Nat.zero_le _, Nat.zero_le _⟩ (fun H locs hP hS => ?_)
        refine lv_if_eq (tgt := 90) hx hb dX2_floesBeside_44 (by decide) (fun c44 => ?_) (fun c44 => ?_)
        · have h := itT c44 h
          refine lv_iinc (v := (x28_4 + (1 : Int32))) (lv' := [(4, .int (x28_4 + (1 : Int32))), (0, .ref (f 0)), (1, .int p1), (2, .int x28_2), (3, .int q21)]) hx hb dX2_floesBeside_90 hl (k := 4) rfl rfl (by decide) rfl (fun ls hl => ?_)
          refine lv_goto (tgt := 28) hx hb dX2_floesBeside_93 (by decide) ?_
          exact ih28 _ _ h _ _ _ hP hS (lv_sub hl [1, 2, 3, 4, 0] rfl)
        have h := itF c44 h
        refine lv_aload_n hx hb dX2_floesBeside_47 rfl (lv_at hl 0 rfl) ?_
        refine va_get (D := (dC, dI)) (ci := 2) (v := .ref (f 1)) (C := RX2) (T := TX2) (N := 9) hx hb hts hiX2 hown hK hP 0 rfl rfl 1 (by decide) hw3 (fun _ h9 => h9) rfl dX2_floesBeside_48 ?_
        refine lv_iload hx hb dX2_floesBeside_51 (lv_at hl 4 rfl) ?_
        obtain ⟨hin, h⟩ := ck_some h
        refine va_iald hx hb hK hP 1 0 rfl rfl hin dX2_floesBeside_53 ?_
        refine lv_aload_n hx hb dX2_floesBeside_54 rfl (lv_at hl 0 rfl) ?_
        refine va_get (D := (dC, dI)) (ci := 2) (v := .ref (f 1)) (C := RX2) (T := TX2) (N := 9) hx hb hts hiX2 hown hK hP 0 rfl rfl 1 (by decide) hw3 (fun _ h9 => h9) rfl dX2_floesBeside_55 ?_
        refine lv_iload_n hx hb dX2_floesBeside_58 rfl (lv_at hl 1 rfl) ?_
        obtain ⟨hin, h⟩ := ck_some h
        refine va_iald hx hb hK hP 1 0 rfl rfl hin dX2_floesBeside_59 ?_
        refine lv_isub hx hb dX2_floesBeside_60 ?_
        refine va_mabs hx hb (hml.trans hl.1.symm) hown hw4 hw5 hw6 hw7 (Nat.le_of_ble_eq_true rfl) (Nat.le_of_ble_eq_true rfl) (Nat.zero_le _) (Nat.zero_le _) dX2_floesBeside_61 ?_
        refine lv_iconst (v := (1 : Int32)) hx hb dX2_floesBeside_64 (by decide) ?_
        refine lv_icmp_ne (tgt := 90) hx hb dX2_floesBeside_65 (by decide) (fun c65 => ?_) (fun c65 => ?_)
        · have h := itF c65 h
          refine lv_iinc (v := (x28_4 + (1 : Int32))) (lv' := [(4, .int (x28_4 + (1 : Int32))), (0, .ref (f 0)), (1, .int p1), (2, .int x28_2), (3, .int q21)]) hx hb dX2_floesBeside_90 hl (k := 4) rfl rfl (by decide) rfl (fun ls hl => ?_)
          refine lv_goto (tgt := 28) hx hb dX2_floesBeside_93 (by decide) ?_
          exact ih28 _ _ h _ _ _ hP hS (lv_sub hl [1, 2, 3, 4, 0] rfl)
        have h := itT c65 h
        refine lv_iload_n hx hb dX2_floesBeside_68 rfl (lv_at hl 3 rfl) ?_
        refine lv_aload_n hx hb dX2_floesBeside_69 rfl (lv_at hl 0 rfl) ?_
        refine va_get (D := (dC, dI)) (ci := 2) (v := .ref (f 2)) (C := RX2) (T := TX2) (N := 9) hx hb hts hiX2 hown hK hP 0 rfl rfl 2 (by decide) hw2 (fun _ h9 => h9) rfl dX2_floesBeside_70 ?_
        refine lv_iload hx hb dX2_floesBeside_73 (lv_at hl 4 rfl) ?_
        obtain ⟨hin, h⟩ := ck_some h
        refine va_iald hx hb hK hP 2 0 rfl rfl hin dX2_floesBeside_75 ?_
        refine lv_ishr hx hb dX2_floesBeside_76 ?_
        refine lv_iconst (v := (1 : Int32)) hx hb dX2_floesBeside_77 (by decide) ?_
        refine lv_iand hx hb dX2_floesBeside_78 ?_
        refine lv_iconst (v := (1 : Int32)) hx hb dX2_floesBeside_79 (by decide) ?_
        refine lv_icmp_ne (tgt := 90) hx hb dX2_floesBeside_80 (by decide) (fun c80 => ?_) (fun c80 => ?_)
        · have h := itF c80 h
          refine lv_iinc (v := (x28_4 + (1 : Int32))) (lv' := [(4, .int (x28_4 + (1 : Int32))), (0, .ref (f 0)), (1, .int p1), (2, .int x28_2), (3, .int q21)]) hx hb dX2_floesBeside_90 hl (k := 4) rfl rfl (by decide) rfl (fun ls hl => ?_)
          refine lv_goto (tgt := 28) hx hb dX2_floesBeside_93 (by decide) ?_
          exact ih28 _ _ h _ _ _ hP hS (lv_sub hl [1, 2, 3, 4, 0] rfl)
        have h := itT c80 h
        refine lv_iload_n hx hb dX2_floesBeside_83 rfl (lv_at hl 2 rfl) ?_
        refine lv_iconst (v := (1 : Int32)) hx hb dX2_floesBeside_84 (by decide) ?_
        refine lv_iload hx hb dX2_floesBeside_85 (lv_at hl 4 rfl) ?_
        refine lv_ishl hx hb dX2_floesBeside_87 ?_
        refine lv_ior hx hb dX2_floesBeside_88 ?_
        refine lv_istore_n (lv' := [(2, .int (x28_2 ||| ((1 : Int32) <<< (x28_4 &&& 31)))), (0, .ref (f 0)), (1, .int p1), (3, .int q21), (4, .int x28_4)]) hx hb dX2_floesBeside_89 rfl hl (by decide) rfl (fun ls hl => ?_)
        refine lv_iinc (v := (x28_4 + (1 : Int32))) (lv' := [(4, .int (x28_4 + (1 : Int32))), (2, .int (x28_2 ||| ((1 : Int32) <<< (x28_4 &&& 31)))), (0, .ref (f 0)), (1, .int p1), (3, .int q21)]) hx hb dX2_floesBeside_90 hl (k := 4) rfl rfl (by decide) rfl (fun ls hl => ?_)
        refine lv_goto (tgt := 28) hx hb dX2_floesBeside_93 (by decide) ?_
        exact ih28 _ _ h _ _ _ hP hS (lv_sub hl [2, 3, 1, 4, 0] rfl)
    refine L28 _ (fun k28_2 h H locs ls hP hS hl => ?_) _ _ _ h _ _ _ hP hS (lv_sub hl [3, 4, 2, 1, 0] rfl)
    refine lv_iload_n hx hb dX2_floesBeside_96 rfl (lv_at hl 0 rfl) ?_
    subst hQ
    exact retRO hx hb hr hlocks rfl hS h dX2_floesBeside_97
  have h := itT c10 h
  refine lv_iload_n hx hb dX2_floesBeside_13 rfl (lv_at hl 0 rfl) ?_
  subst hQ
  exact retRO hx hb hr hlocks rfl hS h dX2_floesBeside_14
