set_option maxRecDepth 20000 in
theorem ggL_law_X3_count : GoodIn wsL_law wsX3_count := goodIn_r _ [705, 28, 16, 595, 25, 706, 707, 708, 19, 709, 107, 108, 710, 326, 327, 328, 44, 40, 329, 330, 214, 331, 196, 197, 198, 199, 715, 716, 717, 718, 719, 720, 721, 722, 723, 761, 762, 763, 764, 765, 766, 767, 768, 769, 770] (by decide +kernel) (by decide +kernel)
set_option maxRecDepth 20000 in
theorem gL_law_X3_count : GoodIn wsL_law (wsV RL 117 RX3 yX3_count wsX3_count) := goodIn_app (goodIn_of _ (by decide +kernel)) ggL_law_X3_count
set_option maxRecDepth 20000 in
theorem ggL_law_X4_count : GoodIn wsL_law wsX4_count := goodIn_r _ [714, 55, 61, 252, 253, 600, 91, 243, 244, 5, 245, 336, 337, 338, 339, 60, 56, 724, 725, 726, 727, 728, 729, 730, 731, 732, 733, 734, 735, 736, 737, 738, 739, 740, 741, 742, 743, 744, 745, 746, 747, 748, 749, 750, 751] (by decide +kernel) (by decide +kernel)
set_option maxRecDepth 20000 in
theorem gL_law_X4_count : GoodIn wsL_law (wsV RL 120 RX4 yX4_count wsX4_count) := goodIn_app (goodIn_of _ (by decide +kernel)) ggL_law_X4_count
set_option maxHeartbeats 4000000 in
set_option maxRecDepth 100000 in
theorem lc_count {p : Program} {l : Launch} {e : Env} {s : State} {m : MethodId} {below : List Frame} {meth : Method} {c : Code} {dC : Nat → ClassId} {dI : Nat → Nat → Nat} {cI cC : ClassId} {sk : (Nat → Nat) × (Nat → Nat)} {b L : Nat} {xs : Nat → Int32} {f g : Nat → Nat} (B : LB p s m c dC dI cI cC sk b L xs) {i : Nat} (hi : i + 4 ≤ L) {x : XT} {w : MT} (hI : INV x w) {H : Heap} {locs : List Loc} {ls : Array Slot} (hP : va_P (dC, dI) vwCl (XW cI cC f x ++ MW cI cC g w) H) (hD : va_D (AW s) (XW cI cC f x ++ MW cI cC g w)) (hS : va_S (AW s) s.heap H locs) (hl : lv_has ls 4 [(0, .ref b), (1, .ref (f 0)), (2, .ref (g 0)), (3, .int (nI i))]) (kk : ∀ (x : XT) (w : MT) (H : Heap) (locs : List Loc), INV x w → va_P (dC, dI) vwCl (XW cI cC f x ++ MW cI cC g w) H → va_D (AW s) (XW cI cC f x ++ MW cI cC g w) → va_S (AW s) s.heap H locs → W p l e room_1 s m #[Value.ref b] below meth c H locs 43 4025 (lw_Z below #[Value.ref b] s) (F0 m 860 ls [])) : W p l e room_1 s m #[Value.ref b] below meth c H locs 43 4025 (lw_Z below #[Value.ref b] s) (F0 m 837 ls []) := by
  obtain ⟨hx, hb, hml, hown, hts, hX, hbl, hL, hE, hK⟩ := B
  have hA : ∀ q, s.heap.size ≤ q → AW s q := fun _ h => h
  have hbA : ¬ AW s b := Nat.not_le.mpr hbl
  have h_in1 : vp_in (nI i + (1 : Int32)) L := by rw [show nI i + (1 : Int32) = nI (i + 1) from nI_add i 1]; exact vp_in_nI (by omega) (by omega)
  obtain ⟨z, hcx, hcm⟩ := k_count l dC dI cI cC sk f g (xs ((nI i + (1 : Int32))).toNatClampNeg) hI
  refine lv_aload_n hx hb dL_law_837 rfl (lv_at hl 1 rfl) ?_
  refine lv_aload_n hx hb dL_law_838 rfl (lv_at hl 0 rfl) ?_
  refine lv_iload_n hx hb dL_law_839 rfl (lv_at hl 3 rfl) ?_
  refine lv_iconst (v := (1 : Int32)) hx hb dL_law_840 (by decide) ?_
  refine lv_iadd hx hb dL_law_841 ?_
  refine va_sld hx hb hX hbl hbA hS h_in1 dL_law_842 ?_
  refine lasX (cc := code) ⟨hx, hb, hml, hown, hts⟩ hE hK hP hS hcx (cwV 1 hts gL_law_X3_count rfl rfl rfl (by decide +kernel) ⟨Nat.le_of_ble_eq_true rfl, Nat.le_of_ble_eq_true rfl⟩) (As := [.int (xs ((nI i + (1 : Int32))).toNatClampNeg)]) (rest := []) rfl hl.1 rfl (Nat.le_of_ble_eq_true rfl) dL_law_843 ⟨Nat.le_refl _, Nat.le_refl _⟩ (fun H locs hP hS => ?_)
  refine lv_aload_n hx hb dL_law_846 rfl (lv_at hl 2 rfl) ?_
  refine lv_aload_n hx hb dL_law_847 rfl (lv_at hl 0 rfl) ?_
  refine lv_iload_n hx hb dL_law_848 rfl (lv_at hl 3 rfl) ?_
  refine lv_iconst (v := (1 : Int32)) hx hb dL_law_849 (by decide) ?_
  refine lv_iadd hx hb dL_law_850 ?_
  refine va_sld hx hb hX hbl hbA hS h_in1 dL_law_851 ?_
  refine lasM (cc := code) ⟨hx, hb, hml, hown, hts⟩ hE hK hP hS hcm (cwV 1 hts gL_law_X4_count rfl rfl rfl (by decide +kernel) ⟨Nat.le_of_ble_eq_true rfl, Nat.le_of_ble_eq_true rfl⟩) (As := [.int (xs ((nI i + (1 : Int32))).toNatClampNeg)]) (rest := [.int z]) rfl hl.1 rfl (Nat.le_of_ble_eq_true rfl) dL_law_852 ⟨Nat.le_refl _, Nat.le_refl _⟩ (fun H locs hP hS => ?_)
  refine lv_icmp_eq (tgt := 860) hx hb dL_law_855 (by decide) (fun _ => ?_) (fun c9 => absurd rfl c9)
  exact kk x w H locs hI hP hD hS
