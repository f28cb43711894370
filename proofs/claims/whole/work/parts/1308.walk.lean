theorem dX2_fewestLeaps_0 : decode cX2_fewestLeaps 0 = .ok (.iconst 1, 1) := by decide +kernel
theorem dX2_fewestLeaps_1 : decode cX2_fewestLeaps 1 = .ok (.istore_n 2, 1) := by decide +kernel
theorem dX2_fewestLeaps_2 : decode cX2_fewestLeaps 2 = .ok (.iload_n 2, 1) := by decide +kernel
theorem dX2_fewestLeaps_3 : decode cX2_fewestLeaps 3 = .ok (.bipush 40, 2) := by decide +kernel
theorem dX2_fewestLeaps_5 : decode cX2_fewestLeaps 5 = .ok (.if_icmp .gt 16, 3) := by decide +kernel
theorem dX2_fewestLeaps_8 : decode cX2_fewestLeaps 8 = .ok (.aload_n 0, 1) := by decide +kernel
theorem dX2_fewestLeaps_9 : decode cX2_fewestLeaps 9 = .ok (.getfield 25, 3) := by decide +kernel
theorem dX2_fewestLeaps_12 : decode cX2_fewestLeaps 12 = .ok (.iload_n 2, 1) := by decide +kernel
theorem dX2_fewestLeaps_13 : decode cX2_fewestLeaps 13 = .ok (.iconst 0, 1) := by decide +kernel
theorem dX2_fewestLeaps_14 : decode cX2_fewestLeaps 14 = .ok (.iastore, 1) := by decide +kernel
theorem dX2_fewestLeaps_15 : decode cX2_fewestLeaps 15 = .ok (.iinc 2 1, 3) := by decide +kernel
theorem dX2_fewestLeaps_18 : decode cX2_fewestLeaps 18 = .ok (.goto (-16), 3) := by decide +kernel
theorem dX2_fewestLeaps_21 : decode cX2_fewestLeaps 21 = .ok (.aload_n 0, 1) := by decide +kernel
theorem dX2_fewestLeaps_22 : decode cX2_fewestLeaps 22 = .ok (.getfield 25, 3) := by decide +kernel
theorem dX2_fewestLeaps_25 : decode cX2_fewestLeaps 25 = .ok (.iconst 0, 1) := by decide +kernel
theorem dX2_fewestLeaps_26 : decode cX2_fewestLeaps 26 = .ok (.iload_n 1, 1) := by decide +kernel
theorem dX2_fewestLeaps_27 : decode cX2_fewestLeaps 27 = .ok (.invokestatic 59, 3) := by decide +kernel
theorem dX2_fewestLeaps_30 : decode cX2_fewestLeaps 30 = .ok (.iastore, 1) := by decide +kernel
theorem dX2_fewestLeaps_31 : decode cX2_fewestLeaps 31 = .ok (.iconst 0, 1) := by decide +kernel
theorem dX2_fewestLeaps_32 : decode cX2_fewestLeaps 32 = .ok (.istore_n 2, 1) := by decide +kernel
theorem dX2_fewestLeaps_33 : decode cX2_fewestLeaps 33 = .ok (.iload_n 2, 1) := by decide +kernel
theorem dX2_fewestLeaps_34 : decode cX2_fewestLeaps 34 = .ok (.bipush 40, 2) := by decide +kernel
theorem dX2_fewestLeaps_36 : decode cX2_fewestLeaps 36 = .ok (.if_icmp .ge 81, 3) := by decide +kernel
theorem dX2_fewestLeaps_39 : decode cX2_fewestLeaps 39 = .ok (.aload_n 0, 1) := by decide +kernel
theorem dX2_fewestLeaps_40 : decode cX2_fewestLeaps 40 = .ok (.aload_n 0, 1) := by decide +kernel
theorem dX2_fewestLeaps_41 : decode cX2_fewestLeaps 41 = .ok (.getfield 12, 3) := by decide +kernel
theorem dX2_fewestLeaps_44 : decode cX2_fewestLeaps 44 = .ok (.getfield 45, 3) := by decide +kernel
theorem dX2_fewestLeaps_47 : decode cX2_fewestLeaps 47 = .ok (.iload_n 2, 1) := by decide +kernel
theorem dX2_fewestLeaps_48 : decode cX2_fewestLeaps 48 = .ok (.iadd, 1) := by decide +kernel
theorem dX2_fewestLeaps_49 : decode cX2_fewestLeaps 49 = .ok (.invokevirtual 62, 3) := by decide +kernel
theorem dX2_fewestLeaps_52 : decode cX2_fewestLeaps 52 = .ok (.iload_n 2, 1) := by decide +kernel
theorem dX2_fewestLeaps_53 : decode cX2_fewestLeaps 53 = .ok (.iconst 1, 1) := by decide +kernel
theorem dX2_fewestLeaps_54 : decode cX2_fewestLeaps 54 = .ok (.iadd, 1) := by decide +kernel
theorem dX2_fewestLeaps_55 : decode cX2_fewestLeaps 55 = .ok (.istore_n 3, 1) := by decide +kernel
theorem dX2_fewestLeaps_56 : decode cX2_fewestLeaps 56 = .ok (.iload_n 3, 1) := by decide +kernel
theorem dX2_fewestLeaps_57 : decode cX2_fewestLeaps 57 = .ok (.ifCond .le 38, 3) := by decide +kernel
theorem dX2_fewestLeaps_60 : decode cX2_fewestLeaps 60 = .ok (.aload_n 0, 1) := by decide +kernel
theorem dX2_fewestLeaps_61 : decode cX2_fewestLeaps 61 = .ok (.getfield 25, 3) := by decide +kernel
theorem dX2_fewestLeaps_64 : decode cX2_fewestLeaps 64 = .ok (.iload_n 3, 1) := by decide +kernel
theorem dX2_fewestLeaps_65 : decode cX2_fewestLeaps 65 = .ok (.aload_n 0, 1) := by decide +kernel
theorem dX2_fewestLeaps_66 : decode cX2_fewestLeaps 66 = .ok (.aload_n 0, 1) := by decide +kernel
theorem dX2_fewestLeaps_67 : decode cX2_fewestLeaps 67 = .ok (.getfield 25, 3) := by decide +kernel
theorem dX2_fewestLeaps_70 : decode cX2_fewestLeaps 70 = .ok (.iload_n 3, 1) := by decide +kernel
theorem dX2_fewestLeaps_71 : decode cX2_fewestLeaps 71 = .ok (.iaload, 1) := by decide +kernel
theorem dX2_fewestLeaps_72 : decode cX2_fewestLeaps 72 = .ok (.invokevirtual 66, 3) := by decide +kernel
theorem dX2_fewestLeaps_75 : decode cX2_fewestLeaps 75 = .ok (.aload_n 0, 1) := by decide +kernel
theorem dX2_fewestLeaps_76 : decode cX2_fewestLeaps 76 = .ok (.aload_n 0, 1) := by decide +kernel
theorem dX2_fewestLeaps_77 : decode cX2_fewestLeaps 77 = .ok (.getfield 25, 3) := by decide +kernel
theorem dX2_fewestLeaps_80 : decode cX2_fewestLeaps 80 = .ok (.iload_n 3, 1) := by decide +kernel
theorem dX2_fewestLeaps_81 : decode cX2_fewestLeaps 81 = .ok (.iconst 1, 1) := by decide +kernel
theorem dX2_fewestLeaps_82 : decode cX2_fewestLeaps 82 = .ok (.isub, 1) := by decide +kernel
theorem dX2_fewestLeaps_83 : decode cX2_fewestLeaps 83 = .ok (.iaload, 1) := by decide +kernel
theorem dX2_fewestLeaps_84 : decode cX2_fewestLeaps 84 = .ok (.invokevirtual 69, 3) := by decide +kernel
theorem dX2_fewestLeaps_87 : decode cX2_fewestLeaps 87 = .ok (.ior, 1) := by decide +kernel
theorem dX2_fewestLeaps_88 : decode cX2_fewestLeaps 88 = .ok (.iastore, 1) := by decide +kernel
theorem dX2_fewestLeaps_89 : decode cX2_fewestLeaps 89 = .ok (.iinc 3 (-1), 3) := by decide +kernel
theorem dX2_fewestLeaps_92 : decode cX2_fewestLeaps 92 = .ok (.goto (-36), 3) := by decide +kernel
theorem dX2_fewestLeaps_95 : decode cX2_fewestLeaps 95 = .ok (.aload_n 0, 1) := by decide +kernel
theorem dX2_fewestLeaps_96 : decode cX2_fewestLeaps 96 = .ok (.getfield 25, 3) := by decide +kernel
theorem dX2_fewestLeaps_99 : decode cX2_fewestLeaps 99 = .ok (.iconst 0, 1) := by decide +kernel
theorem dX2_fewestLeaps_100 : decode cX2_fewestLeaps 100 = .ok (.aload_n 0, 1) := by decide +kernel
theorem dX2_fewestLeaps_101 : decode cX2_fewestLeaps 101 = .ok (.aload_n 0, 1) := by decide +kernel
theorem dX2_fewestLeaps_102 : decode cX2_fewestLeaps 102 = .ok (.getfield 25, 3) := by decide +kernel
theorem dX2_fewestLeaps_105 : decode cX2_fewestLeaps 105 = .ok (.iconst 0, 1) := by decide +kernel
theorem dX2_fewestLeaps_106 : decode cX2_fewestLeaps 106 = .ok (.iaload, 1) := by decide +kernel
theorem dX2_fewestLeaps_107 : decode cX2_fewestLeaps 107 = .ok (.invokevirtual 66, 3) := by decide +kernel
theorem dX2_fewestLeaps_110 : decode cX2_fewestLeaps 110 = .ok (.iastore, 1) := by decide +kernel
theorem dX2_fewestLeaps_111 : decode cX2_fewestLeaps 111 = .ok (.iinc 2 1, 3) := by decide +kernel
theorem dX2_fewestLeaps_114 : decode cX2_fewestLeaps 114 = .ok (.goto (-81), 3) := by decide +kernel
theorem dX2_fewestLeaps_117 : decode cX2_fewestLeaps 117 = .ok (.iconst 0, 1) := by decide +kernel
theorem dX2_fewestLeaps_118 : decode cX2_fewestLeaps 118 = .ok (.istore_n 2, 1) := by decide +kernel
theorem dX2_fewestLeaps_119 : decode cX2_fewestLeaps 119 = .ok (.iload_n 2, 1) := by decide +kernel
theorem dX2_fewestLeaps_120 : decode cX2_fewestLeaps 120 = .ok (.bipush 40, 2) := by decide +kernel
theorem dX2_fewestLeaps_122 : decode cX2_fewestLeaps 122 = .ok (.if_icmp .gt 24, 3) := by decide +kernel
theorem dX2_fewestLeaps_125 : decode cX2_fewestLeaps 125 = .ok (.aload_n 0, 1) := by decide +kernel
theorem dX2_fewestLeaps_126 : decode cX2_fewestLeaps 126 = .ok (.getfield 25, 3) := by decide +kernel
theorem dX2_fewestLeaps_129 : decode cX2_fewestLeaps 129 = .ok (.iload_n 2, 1) := by decide +kernel
theorem dX2_fewestLeaps_130 : decode cX2_fewestLeaps 130 = .ok (.iaload, 1) := by decide +kernel
theorem dX2_fewestLeaps_131 : decode cX2_fewestLeaps 131 = .ok (.sipush 256, 3) := by decide +kernel
theorem dX2_fewestLeaps_134 : decode cX2_fewestLeaps 134 = .ok (.iand, 1) := by decide +kernel
theorem dX2_fewestLeaps_135 : decode cX2_fewestLeaps 135 = .ok (.ifCond .eq 5, 3) := by decide +kernel
theorem dX2_fewestLeaps_138 : decode cX2_fewestLeaps 138 = .ok (.iload_n 2, 1) := by decide +kernel
theorem dX2_fewestLeaps_139 : decode cX2_fewestLeaps 139 = .ok (.ireturn, 1) := by decide +kernel
theorem dX2_fewestLeaps_140 : decode cX2_fewestLeaps 140 = .ok (.iinc 2 1, 3) := by decide +kernel
theorem dX2_fewestLeaps_143 : decode cX2_fewestLeaps 143 = .ok (.goto (-24), 3) := by decide +kernel
theorem dX2_fewestLeaps_146 : decode cX2_fewestLeaps 146 = .ok (.bipush (-9), 2) := by decide +kernel
theorem dX2_fewestLeaps_148 : decode cX2_fewestLeaps 148 = .ok (.ireturn, 1) := by decide +kernel
set_option maxRecDepth 20000 in
theorem ggX2_fewestLeaps_X3_southCell : GoodIn wsX2_fewestLeaps wsX3_southCell := goodIn_r _ [5] (by decide +kernel) (by decide +kernel)
set_option maxRecDepth 20000 in
theorem gX2_fewestLeaps_X3_southCell_n59 : GoodIn wsX2_fewestLeaps (wsX3_southCell) := ggX2_fewestLeaps_X3_southCell
set_option maxRecDepth 20000 in
theorem ggX2_fewestLeaps_X2_look : GoodIn wsX2_fewestLeaps wsX2_look := goodIn_r _ [10, 11, 12, 13, 2, 14, 15, 16, 17, 18, 19, 20, 21, 22, 23, 24, 25, 26, 27, 28, 29, 30, 31, 32, 33, 34, 35, 36, 37, 38, 39, 40, 41, 42, 43, 44, 45, 46, 47, 48, 49, 50, 51, 85, 86, 87, 88, 89, 90, 91, 92, 93, 94, 95, 96, 97, 98, 99, 100, 101] (by decide +kernel) (by decide +kernel)
set_option maxRecDepth 20000 in
theorem gX2_fewestLeaps_X2_look : GoodIn wsX2_fewestLeaps (wsV RX2 62 RX2 yX2_look wsX2_look) := goodIn_app (goodIn_of _ (by decide +kernel)) ggX2_fewestLeaps_X2_look
set_option maxRecDepth 20000 in
theorem ggX2_fewestLeaps_X2_placesUnleaped : GoodIn wsX2_fewestLeaps wsX2_placesUnleaped := goodIn_r _ [55, 56, 57, 58, 9, 59, 60, 11, 61, 62, 63, 64, 65, 66, 85, 86, 87, 88, 89, 90, 91, 92, 93] (by decide +kernel) (by decide +kernel)
set_option maxRecDepth 20000 in
theorem gX2_fewestLeaps_X2_placesUnleaped : GoodIn wsX2_fewestLeaps (wsV RX2 66 RX2 yX2_placesUnleaped wsX2_placesUnleaped) := goodIn_app (goodIn_of _ (by decide +kernel)) ggX2_fewestLeaps_X2_placesUnleaped
set_option maxRecDepth 20000 in
theorem ggX2_fewestLeaps_X2_placesLeaped : GoodIn wsX2_fewestLeaps wsX2_placesLeaped := goodIn_r _ [70, 13, 14, 11, 71, 72, 9, 73, 74, 75, 76, 77, 2, 78, 79, 50, 80, 42, 24, 25, 20, 26, 27, 81, 82, 83, 84, 3, 4, 5, 85, 86, 87, 88, 89, 90, 91, 92, 93, 94, 95, 96, 97, 98, 99, 100, 101] (by decide +kernel) (by decide +kernel)
set_option maxRecDepth 20000 in
theorem gX2_fewestLeaps_X2_placesLeaped : GoodIn wsX2_fewestLeaps (wsV RX2 69 RX2 yX2_placesLeaped wsX2_placesLeaped) := goodIn_app (goodIn_of _ (by decide +kernel)) ggX2_fewestLeaps_X2_placesLeaped
set_option maxHeartbeats 4000000 in
set_option maxRecDepth 100000 in
theorem mX2_fewestLeaps (l : Launch) (dC : Nat → ClassId) (dI : Nat → Nat → Nat) (cI cC : ClassId) (sk : (Nat → Nat) × (Nat → Nat)) (f : Nat → Nat) (sz : Nat) (p1 : Int32) (c_lanes : AR) (c_spots : AR) (c_byLeaps : AR) (c_load : Int32) (c_gone : Int32) (c_held : Int32) (c_strong : Int32) (c_done : Int32) (c_r : RT) (z : Int32 × AR × AR × AR × Int32) (h : fX2_fewestLeaps p1 c_lanes c_spots c_byLeaps c_load c_gone c_held c_strong c_r = some z) : cRW l yX2_fewestLeaps wsX2_fewestLeaps (RMk 4 93) sk (dC, dI) (tyz cI cC) sz (zwV cI cC f c_lanes c_spots c_byLeaps c_load c_gone c_held c_strong c_done c_r) (zwV cI cC f z.2.1 z.2.2.1 z.2.2.2.1 c_load c_gone c_held z.2.2.2.2 c_done c_r) [.ref (f 0), .int p1] z.1 := by
  refine ofRW (cc := cX2_fewestLeaps) (maxL := 4) (ret := (some .int)) (own := RX2) (plainFor_of_name (by decide)) rfl rfl (Nat.le_of_ble_eq_true rfl) ?_
  intro p e s m args below meth c A hA hx hb hml hr hts hown hlocks hE hK hP hD hS ls hl
  generalize hQ : qRW _ _ _ _ _ _ _ = Q
  have hl : lv_has ls 4 [(0, .ref (f 0)), (1, .int p1)] := hl
  have hiX0 : ∀ w ∈ wsX00, w ∈ wsX2_fewestLeaps := fun w h => List.mem_cons_of_mem _ (List.mem_append_right _ h)
  have hiX2 : ∀ w ∈ wsX20, w ∈ wsX2_fewestLeaps := fun w h => List.mem_cons_of_mem _ (List.mem_append_left _ (List.mem_append_right _ h))
  have hw1 := hts (Cond.fieldLink RX2 25 "FloeToFloe$Walk" "byLeaps" "[I") (List.mem_of_getElem? (i := 1) rfl)
  have hw4 := hts (Cond.initialized RX3) (List.mem_of_getElem? (i := 4) rfl)
  have hw3 := hts (Cond.static yX3_southCell) (List.mem_of_getElem? (i := 3) rfl)
  have hw2 := hts (Cond.fieldLink RX2 12 "FloeToFloe$Walk" "river" "LFloeToFloe$River;") (List.mem_of_getElem? (i := 2) rfl)
  have hnw3 : (Cond.fieldLinkNest "FloeToFloe$Walk" 45 "FloeToFloe$River" "minute" "I" "FloeToFloe").before args s = true := va_Nw.use rfl (hE.1 3 _ rfl)
  rw [fX2_fewestLeaps] at h
  refine lv_iconst (v := (1 : Int32)) hx hb dX2_fewestLeaps_0 (by decide) ?_
  refine lv_istore_n (lv' := [(2, .int (1 : Int32)), (0, .ref (f 0)), (1, .int p1)]) hx hb dX2_fewestLeaps_1 rfl hl (by decide) rfl (fun ls hl => ?_)
  have L2 : ∀ (K2 : AR → Option (Int32 × AR × AR × AR × Int32)), (∀ (k2_byLeaps : AR), K2 k2_byLeaps = some z → ∀ (H : Heap) (locs : List Loc) (ls : Array Slot), va_P (dC, dI) vwCl (zwV cI cC f c_lanes c_spots k2_byLeaps c_load c_gone c_held c_strong c_done c_r) H → va_D A (zwV cI cC f c_lanes c_spots k2_byLeaps c_load c_gone c_held c_strong c_done c_r) → va_S A s.heap H locs → lv_has ls 4 [(0, .ref (f 0)), (1, .int p1)] → W p l e (RMk 4 93) s m args below meth c H locs 0 0 Q (F0 m 21 ls [])) → ∀ (n : Nat) (x2_2 : Int32) (x2_byLeaps : AR), fX2_fewestLeaps_L2  K2 n x2_2 x2_byLeaps = some z → ∀ (H : Heap) (locs : List Loc) (ls : Array Slot), va_P (dC, dI) vwCl (zwV cI cC f c_lanes c_spots x2_byLeaps c_load c_gone c_held c_strong c_done c_r) H → va_D A (zwV cI cC f c_lanes c_spots x2_byLeaps c_load c_gone c_held c_strong c_done c_r) → va_S A s.heap H locs → lv_has ls 4 [(0, .ref (f 0)), (1, .int p1), (2, .int x2_2)] → W p l e (RMk 4 93) s m args below meth c H locs 0 0 Q (F0 m 2 ls []) := by
    intro K2 kx2 n
    induction n with
    | zero => intro x2_2 x2_byLeaps h; rw [fX2_fewestLeaps_L2] at h; cases h
    | succ n ih2 =>
      intro x2_2 x2_byLeaps h H locs ls hP hD hS hl
      rw [fX2_fewestLeaps_L2] at h
      refine lv_iload_n hx hb dX2_fewestLeaps_2 rfl (lv_at hl 2 rfl) ?_
      refine lv_bipush (v := (40 : Int32)) hx hb dX2_fewestLeaps_3 (by decide) ?_
      refine lv_icmp_gt (tgt := 21) hx hb dX2_fewestLeaps_5 (by decide) (fun c5 => ?_) (fun c5 => ?_)
      · have h := itT c5 h
        exact kx2 _ h _ _ _ hP hD hS (lv_sub hl [0, 1] rfl)
      have h := itF c5 h
      refine lv_aload_n hx hb dX2_fewestLeaps_8 rfl (lv_at hl 0 rfl) ?_
      refine va_get (D := (dC, dI)) (ci := 2) (v := .ref (f 3)) (C := RX2) (T := TX2) (N := 9) hx hb hts hiX2 hown hK hP 0 rfl rfl 3 (by decide) hw1 (fun _ h9 => h9) rfl dX2_fewestLeaps_9 ?_
      refine lv_iload_n hx hb dX2_fewestLeaps_12 rfl (lv_at hl 2 rfl) ?_
      refine lv_iconst (v := (0 : Int32)) hx hb dX2_fewestLeaps_13 (by decide) ?_
      obtain ⟨hin, h⟩ := ck_some h
      refine va_iast hx hb hK hP hD hS 3 0 rfl rfl hin dX2_fewestLeaps_14 (fun H locs hP hD hS => ?_)
      have hP : va_P (dC, dI) vwCl (zwV cI cC f c_lanes c_spots (upd x2_byLeaps (x2_2).toNatClampNeg (0 : Int32)) c_load c_gone c_held c_strong c_done c_r) H := hP
      have hD : va_D A (zwV cI cC f c_lanes c_spots (upd x2_byLeaps (x2_2).toNatClampNeg (0 : Int32)) c_load c_gone c_held c_strong c_done c_r) := hD
      refine lv_iinc (v := (x2_2 + (1 : Int32))) (lv' := [(2, .int (x2_2 + (1 : Int32))), (0, .ref (f 0)), (1, .int p1)]) hx hb dX2_fewestLeaps_15 hl (k := 2) rfl rfl (by decide) rfl (fun ls hl => ?_)
      refine lv_goto (tgt := 2) hx hb dX2_fewestLeaps_18 (by decide) ?_
      exact ih2 _ _ h _ _ _ hP hD hS (lv_sub hl [1, 2, 0] rfl)
  refine L2 _ (fun k2_byLeaps h H locs ls hP hD hS hl => ?_) _ _ _ h _ _ _ hP hD hS (lv_sub hl [1, 2, 0] rfl)
  refine lv_aload_n hx hb dX2_fewestLeaps_21 rfl (lv_at hl 0 rfl) ?_
  refine va_get (D := (dC, dI)) (ci := 2) (v := .ref (f 3)) (C := RX2) (T := TX2) (N := 9) hx hb hts hiX2 hown hK hP 0 rfl rfl 3 (by decide) hw1 (fun _ h9 => h9) rfl dX2_fewestLeaps_22 ?_
  refine lv_iconst (v := (0 : Int32)) hx hb dX2_fewestLeaps_25 (by decide) ?_
  refine lv_iload_n hx hb dX2_fewestLeaps_26 rfl (lv_at hl 1 rfl) ?_
  obtain ⟨q27, e27, h⟩ := bd_some h
  refine g_roN (wc := ([] : va_W)) ⟨hx, hb, hml, hown, hts⟩ hE hK hP hS [] rfl (mX3_southCell l dC dI cI cC sk  p1 q27 e27) ⟨va_cnB 1 hts gX2_fewestLeaps_X3_southCell_n59 rfl rfl rfl (hE.1 10 _ rfl) hw4 (by decide +kernel) ⟨Nat.le_of_ble_eq_true rfl, Nat.le_of_ble_eq_true rfl⟩, hw3, trivial⟩ (As := [.int p1]) (rest := [.int (0 : Int32), .ref (f 3)]) rfl hl.1 rfl (Nat.le_of_ble_eq_true rfl) dX2_fewestLeaps_27 ⟨Nat.zero_le _, Nat.zero_le _⟩ (fun H locs hP hS => ?_)
  obtain ⟨hin, h⟩ := ck_some h
  refine va_iast hx hb hK hP hD hS 3 0 rfl rfl hin dX2_fewestLeaps_30 (fun H locs hP hD hS => ?_)
  have hP : va_P (dC, dI) vwCl (zwV cI cC f c_lanes c_spots (upd k2_byLeaps ((0 : Int32)).toNatClampNeg q27) c_load c_gone c_held c_strong c_done c_r) H := hP
  have hD : va_D A (zwV cI cC f c_lanes c_spots (upd k2_byLeaps ((0 : Int32)).toNatClampNeg q27) c_load c_gone c_held c_strong c_done c_r) := hD
  refine lv_iconst (v := (0 : Int32)) hx hb dX2_fewestLeaps_31 (by decide) ?_
  refine lv_istore_n (lv' := [(2, .int (0 : Int32)), (0, .ref (f 0)), (1, .int p1)]) hx hb dX2_fewestLeaps_32 rfl hl (by decide) rfl (fun ls hl => ?_)
  have L33 : ∀ (K33 : AR → AR → AR → Int32 → Option (Int32 × AR × AR × AR × Int32)), (∀ (k33_lanes : AR) (k33_spots : AR) (k33_byLeaps : AR) (k33_strong : Int32), K33 k33_lanes k33_spots k33_byLeaps k33_strong = some z → ∀ (H : Heap) (locs : List Loc) (ls : Array Slot), va_P (dC, dI) vwCl (zwV cI cC f k33_lanes k33_spots k33_byLeaps c_load c_gone c_held k33_strong c_done c_r) H → va_D A (zwV cI cC f k33_lanes k33_spots k33_byLeaps c_load c_gone c_held k33_strong c_done c_r) → va_S A s.heap H locs → lv_has ls 4 [(0, .ref (f 0))] → W p l e (RMk 4 93) s m args below meth c H locs 0 0 Q (F0 m 117 ls [])) → ∀ (n : Nat) (x33_2 : Int32) (x33_lanes : AR) (x33_spots : AR) (x33_byLeaps : AR) (x33_strong : Int32), fX2_fewestLeaps_L33 c_gone c_held c_load c_r K33 n x33_2 x33_lanes x33_spots x33_byLeaps x33_strong = some z → ∀ (H : Heap) (locs : List Loc) (ls : Array Slot), va_P (dC, dI) vwCl (zwV cI cC f x33_lanes x33_spots x33_byLeaps c_load c_gone c_held x33_strong c_done c_r) H → va_D A (zwV cI cC f x33_lanes x33_spots x33_byLeaps c_load c_gone c_held x33_strong c_done c_r) → va_S A s.heap H locs → lv_has ls 4 [(0, .ref (f 0)), (2, .int x33_2)] → W p l e (RMk 4 93) s m args below meth c H locs 0 0 Q (F0 m 33 ls []) := by
    intro K33 kx33 n
    induction n with
    | zero => intro x33_2 x33_lanes x33_spots x33_byLeaps x33_strong h; rw [fX2_fewestLeaps_L33] at h; cases h
    | succ n ih33 =>
      intro x33_2 x33_lanes x33_spots x33_byLeaps x33_strong h H locs ls hP hD hS hl
      rw [fX2_fewestLeaps_L33] at h
      refine lv_iload_n hx hb dX2_fewestLeaps_33 rfl (lv_at hl 1 rfl) ?_
      refine lv_bipush (v := (40 : Int32)) hx hb dX2_fewestLeaps_34 (by decide) ?_
      refine lv_icmp_ge (tgt := 117) hx hb dX2_fewestLeaps_36 (by decide) (fun c36 => ?_) (fun c36 => ?_)
      · have h := itT c36 h
        exact kx33 _ _ _ _ h _ _ _ hP hD hS (lv_sub hl [0] rfl)
      have h := itF c36 h
      refine lv_aload_n hx hb dX2_fewestLeaps_39 rfl (lv_at hl 0 rfl) ?_
      refine lv_aload_n hx hb dX2_fewestLeaps_40 rfl (lv_at hl 0 rfl) ?_
      refine va_get (D := (dC, dI)) (ci := 2) (v := .ref (f 4)) (C := RX2) (T := TX2) (N := 9) hx hb hts hiX2 hown hK hP 0 rfl rfl 0 (by decide) hw2 (fun _ h9 => h9) rfl dX2_fewestLeaps_41 ?_
      refine va_getN (D := (dC, dI)) (ci := 0) (v := .int (R_minute c_r)) (C := RX0) (T := TX0) (N := 8) hx hb hts hiX0 hown hK hP 4 rfl rfl 7 (by decide) hnw3 (fun _ h9 => h9) rfl dX2_fewestLeaps_44 ?_
      refine lv_iload_n hx hb dX2_fewestLeaps_47 rfl (lv_at hl 1 rfl) ?_
      refine lv_iadd hx hb dX2_fewestLeaps_48 ?_
      obtain ⟨q49, e49, h⟩ := bd_some h
      refine g_rvA (wc := (zwV cI cC f x33_lanes x33_spots x33_byLeaps c_load c_gone c_held x33_strong c_done c_r)) (wc' := (zwV cI cC f q49.1 q49.2.1 x33_byLeaps c_load c_gone c_held q49.2.2 c_done c_r)) ⟨hx, hb, hml, hown, hts⟩ hE hK hA hP hD hS rfl (mX2_look l dC dI cI cC sk f H.size ((R_minute c_r) + x33_2) x33_lanes x33_spots x33_byLeaps c_load c_gone c_held x33_strong c_done c_r q49 e49) (cwV 1 hts gX2_fewestLeaps_X2_look rfl rfl rfl (by decide +kernel) ⟨Nat.le_of_ble_eq_true rfl, Nat.le_of_ble_eq_true rfl⟩) (va_recv hK hP (ci := 2) (q0 := 0) rfl rfl) (As := [.int ((R_minute c_r) + x33_2)]) (rest := []) rfl hl.1 rfl (Nat.le_of_ble_eq_true rfl) dX2_fewestLeaps_49 ⟨Nat.zero_le _, Nat.zero_le _⟩ (fun H locs hP hD hS => ?_)
      have hP : va_P (dC, dI) vwCl (zwV cI cC f q49.1 q49.2.1 x33_byLeaps c_load c_gone c_held q49.2.2 c_done c_r) H := hP
      have hD : va_D A (zwV cI cC f q49.1 q49.2.1 x33_byLeaps c_load c_gone c_held q49.2.2 c_done c_r) := hD
      refine lv_iload_n hx hb dX2_fewestLeaps_52 rfl (lv_at hl 1 rfl) ?_
      refine lv_iconst (v := (1 : Int32)) hx hb dX2_fewestLeaps_53 (by decide) ?_
      refine lv_iadd hx hb dX2_fewestLeaps_54 ?_
      refine lv_istore_n (lv' := [(3, .int (x33_2 + (1 : Int32))), (0, .ref (f 0)), (2, .int x33_2)]) hx hb dX2_fewestLeaps_55 rfl hl (by decide) rfl (fun ls hl => ?_)
      have L56 : ∀ (K56 : AR → Option (Int32 × AR × AR × AR × Int32)), (∀ (k56_byLeaps : AR), K56 k56_byLeaps = some z → ∀ (H : Heap) (locs : List Loc) (ls : Array Slot), va_P (dC, dI) vwCl (zwV cI cC f q49.1 q49.2.1 k56_byLeaps c_load c_gone c_held q49.2.2 c_done c_r) H → va_D A (zwV cI cC f q49.1 q49.2.1 k56_byLeaps c_load c_gone c_held q49.2.2 c_done c_r) → va_S A s.heap H locs → lv_has ls 4 [(0, .ref (f 0)), (2, .int x33_2)] → W p l e (RMk 4 93) s m args below meth c H locs 0 0 Q (F0 m 95 ls [])) → ∀ (n : Nat) (x56_3 : Int32) (x56_byLeaps : AR), fX2_fewestLeaps_L56 c_r q49 K56 n x56_3 x56_byLeaps = some z → ∀ (H : Heap) (locs : List Loc) (ls : Array Slot), va_P (dC, dI) vwCl (zwV cI cC f q49.1 q49.2.1 x56_byLeaps c_load c_gone c_held q49.2.2 c_done c_r) H → va_D A (zwV cI cC f q49.1 q49.2.1 x56_byLeaps c_load c_gone c_held q49.2.2 c_done c_r) → va_S A s.heap H locs → lv_has ls 4 [(0, .ref (f 0)), (2, .int x33_2), (3, .int x56_3)] → W p l e (RMk 4 93) s m args below meth c H locs 0 0 Q (F0 m 56 ls []) := by
        intro K56 kx56 n
        induction n with
        | zero => intro x56_3 x56_byLeaps h; rw [fX2_fewestLeaps_L56] at h; cases h
        | succ n ih56 =>
          intro x56_3 x56_byLeaps h H locs ls hP hD hS hl
          rw [fX2_fewestLeaps_L56] at h
          refine lv_iload_n hx hb dX2_fewestLeaps_56 rfl (lv_at hl 2 rfl) ?_
          refine lv_if_le (tgt := 95) hx hb dX2_fewestLeaps_57 (by decide) (fun c57 => ?_) (fun c57 => ?_)
          · have h := itT c57 h
            exact kx56 _ h _ _ _ hP hD hS (lv_sub hl [0, 1] rfl)
          have h := itF c57 h
          refine lv_aload_n hx hb dX2_fewestLeaps_60 rfl (lv_at hl 0 rfl) ?_
          refine va_get (D := (dC, dI)) (ci := 2) (v := .ref (f 3)) (C := RX2) (T := TX2) (N := 9) hx hb hts hiX2 hown hK hP 0 rfl rfl 3 (by decide) hw1 (fun _ h9 => h9) rfl dX2_fewestLeaps_61 ?_
          refine lv_iload_n hx hb dX2_fewestLeaps_64 rfl (lv_at hl 2 rfl) ?_
          refine lv_aload_n hx hb dX2_fewestLeaps_65 rfl (lv_at hl 0 rfl) ?_
          refine lv_aload_n hx hb dX2_fewestLeaps_66 rfl (lv_at hl 0 rfl) ?_
          refine va_get (D := (dC, dI)) (ci := 2) (v := .ref (f 3)) (C := RX2) (T := TX2) (N := 9) hx hb hts hiX2 hown hK hP 0 rfl rfl 3 (by decide) hw1 (fun _ h9 => h9) rfl dX2_fewestLeaps_67 ?_
          refine lv_iload_n hx hb dX2_fewestLeaps_70 rfl (lv_at hl 2 rfl) ?_
          obtain ⟨hin, h⟩ := ck_some h
          refine va_iald hx hb hK hP 3 0 rfl rfl hin dX2_fewestLeaps_71 ?_
          obtain ⟨q72, e72, h⟩ := bd_some h
          refine g_roV (wc := (zwV cI cC f q49.1 q49.2.1 x56_byLeaps c_load c_gone c_held q49.2.2 c_done c_r)) ⟨hx, hb, hml, hown, hts⟩ hE hK hP hS [0, 1, 2, 3, 4, 5, 6, 7, 8, 9] rfl (mX2_placesUnleaped l dC dI cI cC sk f (x56_byLeaps (x56_3).toNatClampNeg) q49.1 q49.2.1 x56_byLeaps c_load c_gone c_held q49.2.2 c_done c_r q72 e72) (cwV 1 hts gX2_fewestLeaps_X2_placesUnleaped rfl rfl rfl (by decide +kernel) ⟨Nat.le_of_ble_eq_true rfl, Nat.le_of_ble_eq_true rfl⟩) (va_recv hK hP (ci := 2) (q0 := 0) rfl rfl) (As := [.int (x56_byLeaps (x56_3).toNatClampNeg)]) (rest := [.int x56_3, .ref (f 3)]) rfl hl.1 rfl (Nat.le_of_ble_eq_true rfl) dX2_fewestLeaps_72 ⟨Nat.zero_le _, Nat.zero_le _⟩ (fun H locs hP hS => ?_)
          refine lv_aload_n hx hb dX2_fewestLeaps_75 rfl (lv_at hl 0 rfl) ?_
          refine lv_aload_n hx hb dX2_fewestLeaps_76 rfl (lv_at hl 0 rfl) ?_
          refine va_get (D := (dC, dI)) (ci := 2) (v := .ref (f 3)) (C := RX2) (T := TX2) (N := 9) hx hb hts hiX2 hown hK hP 0 rfl rfl 3 (by decide) hw1 (fun _ h9 => h9) rfl dX2_fewestLeaps_77 ?_
          refine lv_iload_n hx hb dX2_fewestLeaps_80 rfl (lv_at hl 2 rfl) ?_
          refine lv_iconst (v := (1 : Int32)) hx hb dX2_fewestLeaps_81 (by decide) ?_
          refine lv_isub hx hb dX2_fewestLeaps_82 ?_
          obtain ⟨hin, h⟩ := ck_some h
          refine va_iald hx hb hK hP 3 0 rfl rfl hin dX2_fewestLeaps_83 ?_
          obtain ⟨q84, e84, h⟩ := bd_some h
          refine g_roV (wc := (zwV cI cC f q49.1 q49.2.1 x56_byLeaps c_load c_gone c_held q49.2.2 c_done c_r)) ⟨hx, hb, hml, hown, hts⟩ hE hK hP hS [0, 1, 2, 3, 4, 5, 6, 7, 8, 9] rfl (mX2_placesLeaped l dC dI cI cC sk f (x56_byLeaps ((x56_3 - (1 : Int32))).toNatClampNeg) q49.1 q49.2.1 x56_byLeaps c_load c_gone c_held q49.2.2 c_done c_r q84 e84) (cwV 1 hts gX2_fewestLeaps_X2_placesLeaped rfl rfl rfl (by decide +kernel) ⟨Nat.le_of_ble_eq_true rfl, Nat.le_of_ble_eq_true rfl⟩) (va_recv hK hP (ci := 2) (q0 := 0) rfl rfl) (As := [.int (x56_byLeaps ((x56_3 - (1 : Int32))).toNatClampNeg)]) (rest := [.int q72, .int x56_3, .ref (f 3)]) rfl hl.1 rfl (Nat.le_of_ble_eq_true rfl) dX2_fewestLeaps_84 ⟨Nat.zero_le _, Nat.zero_le _⟩ (fun H locs hP hS => ?_)
          refine lv_ior hx hb dX2_fewestLeaps_87 ?_
          obtain ⟨hin, h⟩ := ck_some h
          refine va_iast hx hb hK hP hD hS 3 0 rfl rfl hin dX2_fewestLeaps_88 (fun H locs hP hD hS => ?_)
          have hP : va_P (dC, dI) vwCl (zwV cI cC f q49.1 q49.2.1 (upd x56_byLeaps (x56_3).toNatClampNeg (q72 ||| q84)) c_load c_gone c_held q49.2.2 c_done c_r) H := hP
          have hD : va_D A (zwV cI cC f q49.1 q49.2.1 (upd x56_byLeaps (x56_3).toNatClampNeg (q72 ||| q84)) c_load c_gone c_held q49.2.2 c_done c_r) := hD
          refine lv_iinc (v := (x56_3 + (-1 : Int32))) (lv' := [(3, .int (x56_3 + (-1 : Int32))), (0, .ref (f 0)), (2, .int x33_2)]) hx hb dX2_fewestLeaps_89 hl (k := 2) rfl rfl (by decide) rfl (fun ls hl => ?_)
          refine lv_goto (tgt := 56) hx hb dX2_fewestLeaps_92 (by decide) ?_
          exact ih56 _ _ h _ _ _ hP hD hS (lv_sub hl [1, 2, 0] rfl)
      refine L56 _ (fun k56_byLeaps h H locs ls hP hD hS hl => ?_) _ _ _ h _ _ _ hP hD hS (lv_sub hl [1, 2, 0] rfl)
      refine lv_aload_n hx hb dX2_fewestLeaps_95 rfl (lv_at hl 0 rfl) ?_
      refine va_get (D := (dC, dI)) (ci := 2) (v := .ref (f 3)) (C := RX2) (T := TX2) (N := 9) hx hb hts hiX2 hown hK hP 0 rfl rfl 3 (by decide) hw1 (fun _ h9 => h9) rfl dX2_fewestLeaps_96 ?_
      refine lv_iconst (v := (0 : Int32)) hx hb dX2_fewestLeaps_99 (by decide) ?_
      refine lv_aload_n hx hb dX2_fewestLeaps_100 rfl (lv_at hl 0 rfl) ?_
      refine lv_aload_n hx hb dX2_fewestLeaps_101 rfl (lv_at hl 0 rfl) ?_
      refine va_get (D := (dC, dI)) (ci := 2) (v := .ref (f 3)) (C := RX2) (T := TX2) (N := 9) hx hb hts hiX2 hown hK hP 0 rfl rfl 3 (by decide) hw1 (fun _ h9 => h9) rfl dX2_fewestLeaps_102 ?_
      refine lv_iconst (v := (0 : Int32)) hx hb dX2_fewestLeaps_105 (by decide) ?_
      obtain ⟨hin, h⟩ := ck_some h
      refine va_iald hx hb hK hP 3 0 rfl rfl hin dX2_fewestLeaps_106 ?_
      obtain ⟨q107, e107, h⟩ := bd_some h
      refine g_roV (wc := (zwV cI cC f q49.1 q49.2.1 k56_byLeaps c_load c_gone c_held q49.2.2 c_done c_r)) ⟨hx, hb, hml, hown, hts⟩ hE hK hP hS [0, 1, 2, 3, 4, 5, 6, 7, 8, 9] rfl (mX2_placesUnleaped l dC dI cI cC sk f (k56_byLeaps ((0 : Int32)).toNatClampNeg) q49.1 q49.2.1 k56_byLeaps c_load c_gone c_held q49.2.2 c_done c_r q107 e107) (cwV 1 hts gX2_fewestLeaps_X2_placesUnleaped rfl rfl rfl (by decide +kernel) ⟨Nat.le_of_ble_eq_true rfl, Nat.le_of_ble_eq_true rfl⟩) (va_recv hK hP (ci := 2) (q0 := 0) rfl rfl) (As := [.int (k56_byLeaps ((0 : Int32)).toNatClampNeg)]) (rest := [.int (0 : Int32), .ref (f 3)]) rfl hl.1 rfl (Nat.le_of_ble_eq_true rfl) dX2_fewestLeaps_107 ⟨Nat.zero_le _, Nat.zero_le _⟩ (fun H locs hP hS => ?_)
      obtain ⟨hin, h⟩ := ck_some h
      refine va_iast hx hb hK hP hD hS 3 0 rfl rfl hin dX2_fewestLeaps_110 (fun H locs hP hD hS => ?_)
      have hP : va_P (dC, dI) vwCl (zwV cI cC f q49.1 q49.2.1 (upd k56_byLeaps ((0 : Int32)).toNatClampNeg q107) c_load c_gone c_held q49.2.2 c_done c_r) H := hP
      have hD : va_D A (zwV cI cC f q49.1 q49.2.1 (upd k56_byLeaps ((0 : Int32)).toNatClampNeg q107) c_load c_gone c_held q49.2.2 c_done c_r) := hD
      refine lv_iinc (v := (x33_2 + (1 : Int32))) (lv' := [(2, .int (x33_2 + (1 : Int32))), (0, .ref (f 0))]) hx hb dX2_fewestLeaps_111 hl (k := 1) rfl rfl (by decide) rfl (fun ls hl => ?_)
      refine lv_goto (tgt := 33) hx hb dX2_fewestLeaps_114 (by decide) ?_
      exact ih33 _ _ _ _ _ h _ _ _ hP hD hS (lv_sub hl [1, 0] rfl)
  refine L33 _ (fun k33_lanes k33_spots k33_byLeaps k33_strong h H locs ls hP hD hS hl => ?_) _ _ _ _ _ _ h _ _ _ hP hD hS (lv_sub hl [1, 0] rfl)
  refine lv_iconst (v := (0 : Int32)) hx hb dX2_fewestLeaps_117 (by decide) ?_
  refine lv_istore_n (lv' := [(2, .int (0 : Int32)), (0, .ref (f 0))]) hx hb dX2_fewestLeaps_118 rfl hl (by decide) rfl (fun ls hl => ?_)
  have L119 : ∀ (K119 : Unit → Option (Int32 × AR × AR × AR × Int32)), (∀ (_ : Unit), K119 () = some z → ∀ (H : Heap) (locs : List Loc) (ls : Array Slot), va_P (dC, dI) vwCl (zwV cI cC f k33_lanes k33_spots k33_byLeaps c_load c_gone c_held k33_strong c_done c_r) H → va_D A (zwV cI cC f k33_lanes k33_spots k33_byLeaps c_load c_gone c_held k33_strong c_done c_r) → va_S A s.heap H locs → lv_has ls 4 [] → W p l e (RMk 4 93) s m args below meth c H locs 0 0 Q (F0 m 146 ls [])) → ∀ (n : Nat) (x119_2 : Int32), fX2_fewestLeaps_L119 k33_byLeaps k33_lanes k33_spots k33_strong K119 n x119_2 = some z → ∀ (H : Heap) (locs : List Loc) (ls : Array Slot), va_P (dC, dI) vwCl (zwV cI cC f k33_lanes k33_spots k33_byLeaps c_load c_gone c_held k33_strong c_done c_r) H → va_D A (zwV cI cC f k33_lanes k33_spots k33_byLeaps c_load c_gone c_held k33_strong c_done c_r) → va_S A s.heap H locs → lv_has ls 4 [(0, .ref (f 0)), (2, .int x119_2)] → W p l e (RMk 4 93) s m args below meth c H locs 0 0 Q (F0 m 119 ls []) := by
    intro K119 kx119 n
    induction n with
    | zero => intro x119_2 h; rw [fX2_fewestLeaps_L119] at h; cases h
    | succ n ih119 =>
      intro x119_2 h H locs ls hP hD hS hl
      rw [fX2_fewestLeaps_L119] at h
      refine lv_iload_n hx hb dX2_fewestLeaps_119 rfl (lv_at hl 1 rfl) ?_
      refine lv_bipush (v := (40 : Int32)) hx hb dX2_fewestLeaps_120 (by decide) ?_
      refine lv_icmp_gt (tgt := 146) hx hb dX2_fewestLeaps_122 (by decide) (fun c122 => ?_) (fun c122 => ?_)
      · have h := itT c122 h
        exact kx119 () h _ _ _ hP hD hS (lv_sub hl [] rfl)
      have h := itF c122 h
      refine lv_aload_n hx hb dX2_fewestLeaps_125 rfl (lv_at hl 0 rfl) ?_
      refine va_get (D := (dC, dI)) (ci := 2) (v := .ref (f 3)) (C := RX2) (T := TX2) (N := 9) hx hb hts hiX2 hown hK hP 0 rfl rfl 3 (by decide) hw1 (fun _ h9 => h9) rfl dX2_fewestLeaps_126 ?_
      refine lv_iload_n hx hb dX2_fewestLeaps_129 rfl (lv_at hl 1 rfl) ?_
      obtain ⟨hin, h⟩ := ck_some h
      refine va_iald hx hb hK hP 3 0 rfl rfl hin dX2_fewestLeaps_130 ?_
      refine lv_sipush (v := (256 : Int32)) hx hb dX2_fewestLeaps_131 (by decide) ?_
      refine lv_iand hx hb dX2_fewestLeaps_134 ?_
      refine lv_if_eq (tgt := 140) hx hb dX2_fewestLeaps_135 (by decide) (fun c135 => ?_) (fun c135 => ?_)
      · have h := itT c135 h
        refine lv_iinc (v := (x119_2 + (1 : Int32))) (lv' := [(2, .int (x119_2 + (1 : Int32))), (0, .ref (f 0))]) hx hb dX2_fewestLeaps_140 hl (k := 1) rfl rfl (by decide) rfl (fun ls hl => ?_)
        refine lv_goto (tgt := 119) hx hb dX2_fewestLeaps_143 (by decide) ?_
        exact ih119 _ h _ _ _ hP hD hS (lv_sub hl [1, 0] rfl)
      have h := itF c135 h
      refine lv_iload_n hx hb dX2_fewestLeaps_138 rfl (lv_at hl 1 rfl) ?_
      subst hQ
      exact retRW (zz := ((x119_2, k33_lanes, k33_spots, k33_byLeaps, k33_strong) : Int32 × AR × AR × AR × Int32)) (fun z => z.1) (fun z => (zwV cI cC f z.2.1 z.2.2.1 z.2.2.2.1 c_load c_gone c_held z.2.2.2.2 c_done c_r)) hx hb hr hlocks rfl hS h rfl hP dX2_fewestLeaps_139
  refine L119 _ (fun _ h H locs ls hP hD hS hl => ?_) _ _ h _ _ _ hP hD hS (lv_sub hl [1, 0] rfl)
  refine lv_bipush (v := (-9 : Int32)) hx hb dX2_fewestLeaps_146 (by decide) ?_
  subst hQ
  exact retRW (zz := (((-9 : Int32), k33_lanes, k33_spots, k33_byLeaps, k33_strong) : Int32 × AR × AR × AR × Int32)) (fun z => z.1) (fun z => (zwV cI cC f z.2.1 z.2.2.1 z.2.2.2.1 c_load c_gone c_held z.2.2.2.2 c_done c_r)) hx hb hr hlocks rfl hS h rfl hP dX2_fewestLeaps_148
