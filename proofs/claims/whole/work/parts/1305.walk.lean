theorem dX2_placesLeaped_0 : decode cX2_placesLeaped 0 = .ok (.iconst 0, 1) := by decide +kernel
theorem dX2_placesLeaped_1 : decode cX2_placesLeaped 1 = .ok (.istore_n 2, 1) := by decide +kernel
theorem dX2_placesLeaped_2 : decode cX2_placesLeaped 2 = .ok (.iload_n 1, 1) := by decide +kernel
theorem dX2_placesLeaped_3 : decode cX2_placesLeaped 3 = .ok (.bipush 10, 2) := by decide +kernel
theorem dX2_placesLeaped_5 : decode cX2_placesLeaped 5 = .ok (.ishr, 1) := by decide +kernel
theorem dX2_placesLeaped_6 : decode cX2_placesLeaped 6 = .ok (.sipush 1023, 3) := by decide +kernel
theorem dX2_placesLeaped_9 : decode cX2_placesLeaped 9 = .ok (.iand, 1) := by decide +kernel
theorem dX2_placesLeaped_10 : decode cX2_placesLeaped 10 = .ok (.istore_n 3, 1) := by decide +kernel
theorem dX2_placesLeaped_11 : decode cX2_placesLeaped 11 = .ok (.iconst 0, 1) := by decide +kernel
theorem dX2_placesLeaped_12 : decode cX2_placesLeaped 12 = .ok (.istore 4, 2) := by decide +kernel
theorem dX2_placesLeaped_14 : decode cX2_placesLeaped 14 = .ok (.iload 4, 2) := by decide +kernel
theorem dX2_placesLeaped_16 : decode cX2_placesLeaped 16 = .ok (.bipush 8, 2) := by decide +kernel
theorem dX2_placesLeaped_18 : decode cX2_placesLeaped 18 = .ok (.if_icmp .ge 77, 3) := by decide +kernel
theorem dX2_placesLeaped_21 : decode cX2_placesLeaped 21 = .ok (.aload_n 0, 1) := by decide +kernel
theorem dX2_placesLeaped_22 : decode cX2_placesLeaped 22 = .ok (.getfield 18, 3) := by decide +kernel
theorem dX2_placesLeaped_25 : decode cX2_placesLeaped 25 = .ok (.iload 4, 2) := by decide +kernel
theorem dX2_placesLeaped_27 : decode cX2_placesLeaped 27 = .ok (.iaload, 1) := by decide +kernel
theorem dX2_placesLeaped_28 : decode cX2_placesLeaped 28 = .ok (.ifCond .ne 30, 3) := by decide +kernel
theorem dX2_placesLeaped_31 : decode cX2_placesLeaped 31 = .ok (.aload_n 0, 1) := by decide +kernel
theorem dX2_placesLeaped_32 : decode cX2_placesLeaped 32 = .ok (.getfield 22, 3) := by decide +kernel
theorem dX2_placesLeaped_35 : decode cX2_placesLeaped 35 = .ok (.iload 4, 2) := by decide +kernel
theorem dX2_placesLeaped_37 : decode cX2_placesLeaped 37 = .ok (.iaload, 1) := by decide +kernel
theorem dX2_placesLeaped_38 : decode cX2_placesLeaped 38 = .ok (.invokestatic 89, 3) := by decide +kernel
theorem dX2_placesLeaped_41 : decode cX2_placesLeaped 41 = .ok (.iload_n 3, 1) := by decide +kernel
theorem dX2_placesLeaped_42 : decode cX2_placesLeaped 42 = .ok (.iand, 1) := by decide +kernel
theorem dX2_placesLeaped_43 : decode cX2_placesLeaped 43 = .ok (.ifCond .eq 15, 3) := by decide +kernel
theorem dX2_placesLeaped_46 : decode cX2_placesLeaped 46 = .ok (.iload_n 2, 1) := by decide +kernel
theorem dX2_placesLeaped_47 : decode cX2_placesLeaped 47 = .ok (.iconst 1, 1) := by decide +kernel
theorem dX2_placesLeaped_48 : decode cX2_placesLeaped 48 = .ok (.iload 4, 2) := by decide +kernel
theorem dX2_placesLeaped_50 : decode cX2_placesLeaped 50 = .ok (.ishl, 1) := by decide +kernel
theorem dX2_placesLeaped_51 : decode cX2_placesLeaped 51 = .ok (.aload_n 0, 1) := by decide +kernel
theorem dX2_placesLeaped_52 : decode cX2_placesLeaped 52 = .ok (.getfield 38, 3) := by decide +kernel
theorem dX2_placesLeaped_55 : decode cX2_placesLeaped 55 = .ok (.iand, 1) := by decide +kernel
theorem dX2_placesLeaped_56 : decode cX2_placesLeaped 56 = .ok (.ior, 1) := by decide +kernel
theorem dX2_placesLeaped_57 : decode cX2_placesLeaped 57 = .ok (.istore_n 2, 1) := by decide +kernel
theorem dX2_placesLeaped_58 : decode cX2_placesLeaped 58 = .ok (.iload_n 1, 1) := by decide +kernel
theorem dX2_placesLeaped_59 : decode cX2_placesLeaped 59 = .ok (.iload 4, 2) := by decide +kernel
theorem dX2_placesLeaped_61 : decode cX2_placesLeaped 61 = .ok (.ishr, 1) := by decide +kernel
theorem dX2_placesLeaped_62 : decode cX2_placesLeaped 62 = .ok (.iconst 1, 1) := by decide +kernel
theorem dX2_placesLeaped_63 : decode cX2_placesLeaped 63 = .ok (.iand, 1) := by decide +kernel
theorem dX2_placesLeaped_64 : decode cX2_placesLeaped 64 = .ok (.iconst 1, 1) := by decide +kernel
theorem dX2_placesLeaped_65 : decode cX2_placesLeaped 65 = .ok (.if_icmp .ne 24, 3) := by decide +kernel
theorem dX2_placesLeaped_68 : decode cX2_placesLeaped 68 = .ok (.iload_n 2, 1) := by decide +kernel
theorem dX2_placesLeaped_69 : decode cX2_placesLeaped 69 = .ok (.aload_n 0, 1) := by decide +kernel
theorem dX2_placesLeaped_70 : decode cX2_placesLeaped 70 = .ok (.iload 4, 2) := by decide +kernel
theorem dX2_placesLeaped_72 : decode cX2_placesLeaped 72 = .ok (.invokevirtual 92, 3) := by decide +kernel
theorem dX2_placesLeaped_75 : decode cX2_placesLeaped 75 = .ok (.aload_n 0, 1) := by decide +kernel
theorem dX2_placesLeaped_76 : decode cX2_placesLeaped 76 = .ok (.getfield 38, 3) := by decide +kernel
theorem dX2_placesLeaped_79 : decode cX2_placesLeaped 79 = .ok (.iand, 1) := by decide +kernel
theorem dX2_placesLeaped_80 : decode cX2_placesLeaped 80 = .ok (.aload_n 0, 1) := by decide +kernel
theorem dX2_placesLeaped_81 : decode cX2_placesLeaped 81 = .ok (.iload 4, 2) := by decide +kernel
theorem dX2_placesLeaped_83 : decode cX2_placesLeaped 83 = .ok (.invokevirtual 95, 3) := by decide +kernel
theorem dX2_placesLeaped_86 : decode cX2_placesLeaped 86 = .ok (.ior, 1) := by decide +kernel
theorem dX2_placesLeaped_87 : decode cX2_placesLeaped 87 = .ok (.ior, 1) := by decide +kernel
theorem dX2_placesLeaped_88 : decode cX2_placesLeaped 88 = .ok (.istore_n 2, 1) := by decide +kernel
theorem dX2_placesLeaped_89 : decode cX2_placesLeaped 89 = .ok (.iinc 4 1, 3) := by decide +kernel
theorem dX2_placesLeaped_92 : decode cX2_placesLeaped 92 = .ok (.goto (-78), 3) := by decide +kernel
theorem dX2_placesLeaped_95 : decode cX2_placesLeaped 95 = .ok (.iload_n 2, 1) := by decide +kernel
theorem dX2_placesLeaped_96 : decode cX2_placesLeaped 96 = .ok (.ireturn, 1) := by decide +kernel
set_option maxRecDepth 20000 in
theorem ggX2_placesLeaped_X2_cellsNear : GoodIn wsX2_placesLeaped wsX2_cellsNear := goodIn_r _ [7] (by decide +kernel) (by decide +kernel)
set_option maxRecDepth 20000 in
theorem gX2_placesLeaped_X2_cellsNear : GoodIn wsX2_placesLeaped (va_wsS RX2 89 yX2_cellsNear wsX2_cellsNear) := goodIn_app (goodIn_of _ (by decide +kernel)) ggX2_placesLeaped_X2_cellsNear
set_option maxRecDepth 20000 in
theorem ggX2_placesLeaped_X2_floesBeside : GoodIn wsX2_placesLeaped wsX2_floesBeside := goodIn_r _ [11, 12, 2, 1, 13, 14, 15, 16, 17, 18, 19, 20, 21, 22, 4, 5, 6, 7, 30, 31, 32, 33, 34, 35, 36, 37, 38, 39, 40, 41, 42, 43, 44, 45, 46] (by decide +kernel) (by decide +kernel)
set_option maxRecDepth 20000 in
theorem gX2_placesLeaped_X2_floesBeside : GoodIn wsX2_placesLeaped (wsV RX2 92 RX2 yX2_floesBeside wsX2_floesBeside) := goodIn_app (goodIn_of _ (by decide +kernel)) ggX2_placesLeaped_X2_floesBeside
set_option maxRecDepth 20000 in
theorem ggX2_placesLeaped_X2_bankBeside : GoodIn wsX2_placesLeaped wsX2_bankBeside := goodIn_r _ [26, 12, 1, 2, 17, 18, 19, 20, 21, 22, 27, 28, 29, 30, 31, 32, 33, 34, 35, 36, 37, 38, 39, 40, 41, 42, 43, 44, 45, 46] (by decide +kernel) (by decide +kernel)
set_option maxRecDepth 20000 in
theorem gX2_placesLeaped_X2_bankBeside : GoodIn wsX2_placesLeaped (wsV RX2 95 RX2 yX2_bankBeside wsX2_bankBeside) := goodIn_app (goodIn_of _ (by decide +kernel)) ggX2_placesLeaped_X2_bankBeside
set_option maxHeartbeats 4000000 in
set_option maxRecDepth 100000 in
theorem mX2_placesLeaped (l : Launch) (dC : Nat → ClassId) (dI : Nat → Nat → Nat) (cI cC : ClassId) (sk : (Nat → Nat) × (Nat → Nat)) (f : Nat → Nat) (p1 : Int32) (c_lanes : AR) (c_spots : AR) (c_byLeaps : AR) (c_load : Int32) (c_gone : Int32) (c_held : Int32) (c_strong : Int32) (c_done : Int32) (c_r : RT) (z : Int32) (h : fX2_placesLeaped p1 c_lanes c_spots c_strong c_r = some z) : cRO l yX2_placesLeaped wsX2_placesLeaped (RMk 2 45) sk (dC, dI) (tyz cI cC) (zwV cI cC f c_lanes c_spots c_byLeaps c_load c_gone c_held c_strong c_done c_r) [.ref (f 0), .int p1] z := by
  refine ofRO (cc := cX2_placesLeaped) (maxL := 5) (ret := (some .int)) (own := RX2) (plainFor_of_name (by decide)) rfl rfl (Nat.le_of_ble_eq_true rfl) ?_
  intro p e s m args below meth c hx hb hml hr hts hown hlocks hE hK hP hS ls hl
  generalize hQ : qRO _ _ _ _ = Q
  have hl : lv_has ls 5 [(0, .ref (f 0)), (1, .int p1)] := hl
  have hiX2 : ∀ w ∈ wsX20, w ∈ wsX2_placesLeaped := fun w h => List.mem_cons_of_mem _ (List.mem_append_left _ (List.mem_append_right _ h))
  have hw1 := hts (Cond.fieldLink RX2 18 "FloeToFloe$Walk" "lanes" "[I") (List.mem_of_getElem? (i := 1) rfl)
  have hw2 := hts (Cond.fieldLink RX2 22 "FloeToFloe$Walk" "spots" "[I") (List.mem_of_getElem? (i := 2) rfl)
  have hw3 := hts (Cond.fieldLink RX2 38 "FloeToFloe$Walk" "strong" "I") (List.mem_of_getElem? (i := 3) rfl)
  rw [fX2_placesLeaped] at h
  refine lv_iconst (v := (0 : Int32)) hx hb dX2_placesLeaped_0 (by decide) ?_
  refine lv_istore_n (lv' := [(2, .int (0 : Int32)), (0, .ref (f 0)), (1, .int p1)]) hx hb dX2_placesLeaped_1 rfl hl (by decide) rfl (fun ls hl => ?_)
  refine lv_iload_n hx hb dX2_placesLeaped_2 rfl (lv_at hl 2 rfl) ?_
  refine lv_bipush (v := (10 : Int32)) hx hb dX2_placesLeaped_3 (by decide) ?_
  refine lv_ishr hx hb dX2_placesLeaped_5 ?_
  refine lv_sipush (v := (1023 : Int32)) hx hb dX2_placesLeaped_6 (by decide) ?_
  refine lv_iand hx hb dX2_placesLeaped_9 ?_
  refine lv_istore_n (lv' := [(3, .int ((p1 >>> ((10 : Int32) &&& 31)) &&& (1023 : Int32))), (2, .int (0 : Int32)), (0, .ref (f 0)), (1, .int p1)]) hx hb dX2_placesLeaped_10 rfl hl (by decide) rfl (fun ls hl => ?_)
  refine lv_iconst (v := (0 : Int32)) hx hb dX2_placesLeaped_11 (by decide) ?_
  refine lv_istore (lv' := [(4, .int (0 : Int32)), (3, .int ((p1 >>> ((10 : Int32) &&& 31)) &&& (1023 : Int32))), (2, .int (0 : Int32)), (0, .ref (f 0)), (1, .int p1)]) hx hb dX2_placesLeaped_12 hl (by decide) rfl (fun ls hl => ?_)
  have L14 : ∀ (K14 : Int32 → Option (Int32)), (∀ (k14_2 : Int32), K14 k14_2 = some z → ∀ (H : Heap) (locs : List Loc) (ls : Array Slot), va_P (dC, dI) vwCl (zwV cI cC f c_lanes c_spots c_byLeaps c_load c_gone c_held c_strong c_done c_r) H → va_S noA s.heap H locs → lv_has ls 5 [(2, .int k14_2)] → W p l e (RMk 2 45) s m args below meth c H locs 0 0 Q (F0 m 95 ls [])) → ∀ (n : Nat) (x14_2 : Int32) (x14_4 : Int32), fX2_placesLeaped_L14 c_lanes c_r c_spots c_strong p1 K14 n x14_2 x14_4 = some z → ∀ (H : Heap) (locs : List Loc) (ls : Array Slot), va_P (dC, dI) vwCl (zwV cI cC f c_lanes c_spots c_byLeaps c_load c_gone c_held c_strong c_done c_r) H → va_S noA s.heap H locs → lv_has ls 5 [(0, .ref (f 0)), (1, .int p1), (2, .int x14_2), (3, .int ((p1 >>> ((10 : Int32) &&& 31)) &&& (1023 : Int32))), (4, .int x14_4)] → W p l e (RMk 2 45) s m args below meth c H locs 0 0 Q (F0 m 14 ls []) := by
    intro K14 kx14 n
    induction n with
    | zero => intro x14_2 x14_4 h; rw [fX2_placesLeaped_L14] at h; cases h
    | succ n ih14 =>
      intro x14_2 x14_4 h H locs ls hP hS hl
      rw [fX2_placesLeaped_L14] at h
      refine lv_iload hx hb dX2_placesLeaped_14 (lv_at hl 4 rfl) ?_
      refine lv_bipush (v := (8 : Int32)) hx hb dX2_placesLeaped_16 (by decide) ?_
      refine lv_icmp_ge (tgt := 95) hx hb dX2_placesLeaped_18 (by decide) (fun c18 => ?_) (fun c18 => ?_)
      · have h := itT c18 h
        exact kx14 _ h _ _ _ hP hS (lv_sub hl [2] rfl)
      have h := itF c18 h
      refine lv_aload_n hx hb dX2_placesLeaped_21 rfl (lv_at hl 0 rfl) ?_
      refine va_get (D := (dC, dI)) (ci := 2) (v := .ref (f 1)) (C := RX2) (T := TX2) (N := 9) hx hb hts hiX2 hown hK hP 0 rfl rfl 1 (by decide) hw1 (fun _ h9 => h9) rfl dX2_placesLeaped_22 ?_
      refine lv_iload hx hb dX2_placesLeaped_25 (lv_at hl 4 rfl) ?_
      obtain ⟨hin, h⟩ := ck_some h
      refine va_iald hx hb hK hP 1 0 rfl rfl hin dX2_placesLeaped_27 ?_
      refine jnW (fun (v58 : Int32) => ∀ (H : Heap) (locs : List Loc) (ls : Array Slot), va_P (dC, dI) vwCl (zwV cI cC f c_lanes c_spots c_byLeaps c_load c_gone c_held c_strong c_done c_r) H → va_S noA s.heap H locs → lv_has ls 5 [(0, .ref (f 0)), (1, .int p1), (2, .int v58), (3, .int ((p1 >>> ((10 : Int32) &&& 31)) &&& (1023 : Int32))), (4, .int x14_4)] → W p l e (RMk 2 45) s m args below meth c H locs 0 0 Q (F0 m 58 ls [])) h (fun v58 h H locs ls hP hS hl => ?_) (fun J58 j58 h => ?_)
      · refine lv_iload_n hx hb dX2_placesLeaped_58 rfl (lv_at hl 1 rfl) ?_
        refine lv_iload hx hb dX2_placesLeaped_59 (lv_at hl 4 rfl) ?_
        refine lv_ishr hx hb dX2_placesLeaped_61 ?_
        refine lv_iconst (v := (1 : Int32)) hx hb dX2_placesLeaped_62 (by decide) ?_
        refine lv_iand hx hb dX2_placesLeaped_63 ?_
        refine lv_iconst (v := (1 : Int32)) hx hb dX2_placesLeaped_64 (by decide) ?_
        refine lv_icmp_ne (tgt := 89) hx hb dX2_placesLeaped_65 (by decide) (fun c65 => ?_) (fun c65 => ?_)
        · have h := itF c65 h
          refine lv_iinc (v := (x14_4 + (1 : Int32))) (lv' := [(4, .int (x14_4 + (1 : Int32))), (0, .ref (f 0)), (1, .int p1), (2, .int v58), (3, .int ((p1 >>> ((10 : Int32) &&& 31)) &&& (1023 : Int32)))]) hx hb dX2_placesLeaped_89 hl (k := 4) rfl rfl (by decide) rfl (fun ls hl => ?_)
          refine lv_goto (tgt := 14) hx hb dX2_placesLeaped_92 (by decide) ?_
          exact ih14 _ _ h _ _ _ hP hS (lv_sub hl [1, 2, 3, 4, 0] rfl)
        have h := itT c65 h
        refine lv_iload_n hx hb dX2_placesLeaped_68 rfl (lv_at hl 2 rfl) ?_
        refine lv_aload_n hx hb dX2_placesLeaped_69 rfl (lv_at hl 0 rfl) ?_
        refine lv_iload hx hb dX2_placesLeaped_70 (lv_at hl 4 rfl) ?_
        obtain ⟨q72, e72, h⟩ := bd_some h
        refine g_roV (wc := (zwV cI cC f c_lanes c_spots c_byLeaps c_load c_gone c_held c_strong c_done c_r)) ⟨hx, hb, hml, hown, hts⟩ hE hK hP hS [0, 1, 2, 3, 4, 5, 6, 7, 8, 9] rfl (mX2_floesBeside l dC dI cI cC sk f x14_4 c_lanes c_spots c_byLeaps c_load c_gone c_held c_strong c_done c_r q72 e72) (cwV 1 hts gX2_placesLeaped_X2_floesBeside rfl rfl rfl (by decide +kernel) ⟨Nat.le_of_ble_eq_true rfl, Nat.le_of_ble_eq_true rfl⟩) (va_recv hK hP (ci := 2) (q0 := 0) rfl rfl) (As := [.int x14_4]) (rest := [.int v58]) rfl hl.1 rfl (Nat.le_of_ble_eq_true rfl) dX2_placesLeaped_72 ⟨Nat.zero_le _, Nat.zero_le _⟩ (fun H locs hP hS => ?_)
        refine lv_aload_n hx hb dX2_placesLeaped_75 rfl (lv_at hl 0 rfl) ?_
        refine va_get (D := (dC, dI)) (ci := 2) (v := .int c_strong) (C := RX2) (T := TX2) (N := 9) hx hb hts hiX2 hown hK hP 0 rfl rfl 7 (by decide) hw3 (fun _ h9 => h9) rfl dX2_placesLeaped_76 ?_
        refine lv_iand hx hb dX2_placesLeaped_79 ?_
        refine lv_aload_n hx hb dX2_placesLeaped_80 rfl (lv_at hl 0 rfl) ?_
        refine lv_iload hx hb dX2_placesLeaped_81 (lv_at hl 4 rfl) ?_
        obtain ⟨q83, e83, h⟩ := bd_some h
        refine g_roV (wc := (zwV cI cC f c_lanes c_spots c_byLeaps c_load c_gone c_held c_strong c_done c_r)) ⟨hx, hb, hml, hown, hts⟩ hE hK hP hS [0, 1, 2, 3, 4, 5, 6, 7, 8, 9] rfl (mX2_bankBeside l dC dI cI cC sk f x14_4 c_lanes c_spots c_byLeaps c_load c_gone c_held c_strong c_done c_r q83 e83) (cwV 1 hts gX2_placesLeaped_X2_bankBeside rfl rfl rfl (by decide +kernel) ⟨Nat.le_of_ble_eq_true rfl, Nat.le_of_ble_eq_true rfl⟩) (va_recv hK hP (ci := 2) (q0 := 0) rfl rfl) (As := [.int x14_4]) (rest := [.int (q72 &&& c_strong), .int v58]) rfl hl.1 rfl (Nat.le_of_ble_eq_true rfl) dX2_placesLeaped_83 ⟨Nat.zero_le _, Nat.zero_le _⟩ (fun H locs hP hS => ?_)
        refine lv_ior hx hb dX2_placesLeaped_86 ?_
        refine lv_ior hx hb dX2_placesLeaped_87 ?_
        refine lv_istore_n (lv' := [(2, .int (v58 ||| ((q72 &&& c_strong) ||| q83))), (0, .ref (f 0)), (1, .int p1), (3, .int ((p1 >>> ((10 : Int32) &&& 31)) &&& (1023 : Int32))), (4, .int x14_4)]) hx hb dX2_placesLeaped_88 rfl hl (by decide) rfl (fun ls hl => ?_)
        refine lv_iinc (v := (x14_4 + (1 : Int32))) (lv' := [(4, .int (x14_4 + (1 : Int32))), (2, .int (v58 ||| ((q72 &&& c_strong) ||| q83))), (0, .ref (f 0)), (1, .int p1), (3, .int ((p1 >>> ((10 : Int32) &&& 31)) &&& (1023 : Int32)))]) hx hb dX2_placesLeaped_89 hl (k := 4) rfl rfl (by decide) rfl (fun ls hl => ?_)
        refine lv_goto (tgt := 14) hx hb dX2_placesLeaped_92 (by decide) ?_
        exact ih14 _ _ h _ _ _ hP hS (lv_sub hl [2, 3, 1, 4, 0] rfl)
      refine lv_if_ne (tgt := 58) hx hb dX2_placesLeaped_28 (by decide) (fun c28 => ?_) (fun c28 => ?_)
      · have h := itF c28 h
        exact j58 _ h _ _ _ hP hS (lv_sub hl [0, 1, 2, 3, 4] rfl)
      have h := itT c28 h
      refine lv_aload_n hx hb dX2_placesLeaped_31 rfl (lv_at hl 0 rfl) ?_
      refine va_get (D := (dC, dI)) (ci := 2) (v := .ref (f 2)) (C := RX2) (T := TX2) (N := 9) hx hb hts hiX2 hown hK hP 0 rfl rfl 2 (by decide) hw2 (fun _ h9 => h9) rfl dX2_placesLeaped_32 ?_
      refine lv_iload hx hb dX2_placesLeaped_35 (lv_at hl 4 rfl) ?_
      obtain ⟨hin, h⟩ := ck_some h
      refine va_iald hx hb hK hP 2 0 rfl rfl hin dX2_placesLeaped_37 ?_
      obtain ⟨q38, e38, h⟩ := bd_some h
      refine g_roS (wc := ([] : va_W)) ⟨hx, hb, hml, hown, hts⟩ hE hK hP hS [] rfl (mX2_cellsNear l dC dI cI cC sk  (c_spots (x14_4).toNatClampNeg) q38 e38) (va_cwS 1 hts gX2_placesLeaped_X2_cellsNear rfl rfl rfl (by decide +kernel) ⟨Nat.le_of_ble_eq_true rfl, Nat.le_of_ble_eq_true rfl⟩) (As := [.int (c_spots (x14_4).toNatClampNeg)]) (rest := []) rfl hl.1 rfl (Nat.le_of_ble_eq_true rfl) dX2_placesLeaped_38 ⟨Nat.zero_le _, Nat.zero_le _⟩ (fun H locs hP hS => ?_)
      refine lv_iload_n hx hb dX2_placesLeaped_41 rfl (lv_at hl 3 rfl) ?_
      refine lv_iand hx hb dX2_placesLeaped_42 ?_
      refine lv_if_eq (tgt := 58) hx hb dX2_placesLeaped_43 (by decide) (fun c43 => ?_) (fun c43 => ?_)
      · have h := itT c43 h
        exact j58 _ h _ _ _ hP hS (lv_sub hl [0, 1, 2, 3, 4] rfl)
      have h := itF c43 h
      refine lv_iload_n hx hb dX2_placesLeaped_46 rfl (lv_at hl 2 rfl) ?_
      refine lv_iconst (v := (1 : Int32)) hx hb dX2_placesLeaped_47 (by decide) ?_
      refine lv_iload hx hb dX2_placesLeaped_48 (lv_at hl 4 rfl) ?_
      refine lv_ishl hx hb dX2_placesLeaped_50 ?_
      refine lv_aload_n hx hb dX2_placesLeaped_51 rfl (lv_at hl 0 rfl) ?_
      refine va_get (D := (dC, dI)) (ci := 2) (v := .int c_strong) (C := RX2) (T := TX2) (N := 9) hx hb hts hiX2 hown hK hP 0 rfl rfl 7 (by decide) hw3 (fun _ h9 => h9) rfl dX2_placesLeaped_52 ?_
      refine lv_iand hx hb dX2_placesLeaped_55 ?_
      refine lv_ior hx hb dX2_placesLeaped_56 ?_
      refine lv_istore_n (lv' := [(2, .int (x14_2 ||| (((1 : Int32) <<< (x14_4 &&& 31)) &&& c_strong))), (0, .ref (f 0)), (1, .int p1), (3, .int ((p1 >>> ((10 : Int32) &&& 31)) &&& (1023 : Int32))), (4, .int x14_4)]) hx hb dX2_placesLeaped_57 rfl hl (by decide) rfl (fun ls hl => ?_)
      exact j58 _ h _ _ _ hP hS (lv_sub hl [1, 2, 0, 3, 4] rfl)
  refine L14 _ (fun k14_2 h H locs ls hP hS hl => ?_) _ _ _ h _ _ _ hP hS (lv_sub hl [3, 4, 2, 1, 0] rfl)
  refine lv_iload_n hx hb dX2_placesLeaped_95 rfl (lv_at hl 0 rfl) ?_
  subst hQ
  exact retRO hx hb hr hlocks rfl hS h dX2_placesLeaped_96
