set_option maxRecDepth 20000 in
theorem ggL_law_X3_ends : GoodIn wsL_law wsX3_ends := goodIn_r _ [648, 15, 27, 595, 404, 405, 2, 406, 407, 216, 217, 75, 76, 77, 78, 79, 80, 81, 28, 352, 353, 354, 14, 355, 356, 357, 358, 498, 412, 413, 622, 623, 624, 625, 626, 33, 414, 360, 361, 362, 363, 34, 35, 364, 193, 194, 19, 195, 41, 196, 197, 198, 199, 107, 365, 296, 297, 298, 40, 42, 43, 299, 300, 301, 302, 303, 304, 305, 366, 367, 326, 327, 328, 44, 329, 330, 214, 331, 627, 628, 629, 630, 631, 419, 420, 421, 422, 423, 424, 425, 426, 427, 428, 429, 430, 431, 432, 433, 373, 374, 375, 434, 369, 370, 371, 372, 213, 215, 435, 436, 437, 438, 649, 650, 651, 715, 716, 717, 718, 719, 720, 721, 722, 723, 752, 753, 754, 755, 756, 757, 758, 759, 760, 761, 762, 763, 764, 765, 766, 767, 768] (by decide +kernel) (by decide +kernel)
set_option maxRecDepth 20000 in
theorem gL_law_X3_ends : GoodIn wsL_law (wsV RL 97 RX3 yX3_ends wsX3_ends) := goodIn_app (goodIn_of _ (by decide +kernel)) ggL_law_X3_ends
set_option maxRecDepth 20000 in
theorem ggL_law_X4_ends : GoodIn wsL_law wsX4_ends := goodIn_r _ [655, 640, 443, 444, 5, 445, 446, 447, 448, 243, 244, 245, 92, 93, 94, 95, 96, 97, 98, 55, 636, 637, 638, 639, 600, 70, 253, 641, 642, 643, 644, 457, 458, 459, 460, 461, 462, 463, 464, 465, 336, 337, 338, 339, 60, 56, 384, 385, 386, 318, 319, 320, 310, 311, 312, 313, 314, 58, 59, 315, 316, 317, 466, 467, 468, 469, 252, 57, 61, 380, 381, 382, 383, 724, 725, 726, 727, 728, 729, 730, 731, 732, 733, 734, 735, 736, 737, 738, 739, 740, 741, 742, 743, 744, 745, 746, 747, 748, 749, 750, 751] (by decide +kernel) (by decide +kernel)
set_option maxRecDepth 20000 in
theorem gL_law_X4_ends : GoodIn wsL_law (wsV RL 100 RX4 yX4_ends wsX4_ends) := goodIn_app (goodIn_of _ (by decide +kernel)) ggL_law_X4_ends
set_option maxHeartbeats 4000000 in
set_option maxRecDepth 100000 in
theorem lc_ends {p : Program} {l : Launch} {e : Env} {s : State} {m : MethodId} {below : List Frame} {meth : Method} {c : Code} {dC : Nat → ClassId} {dI : Nat → Nat → Nat} {cI cC : ClassId} {sk : (Nat → Nat) × (Nat → Nat)} {b L : Nat} {xs : Nat → Int32} {f g : Nat → Nat} (B : LB p s m c dC dI cI cC sk b L xs) {i : Nat} (hi : i + 4 ≤ L) {x : XT} {w : MT} (hI : INV x w) {H : Heap} {locs : List Loc} {ls : Array Slot} (hP : va_P (dC, dI) vwCl (XW cI cC f x ++ MW cI cC g w) H) (hD : va_D (AW s) (XW cI cC f x ++ MW cI cC g w)) (hS : va_S (AW s) s.heap H locs) (hl : lv_has ls 4 [(0, .ref b), (1, .ref (f 0)), (2, .ref (g 0)), (3, .int (nI i))]) (kk : ∀ (x : XT) (w : MT) (H : Heap) (locs : List Loc), INV x w → va_P (dC, dI) vwCl (XW cI cC f x ++ MW cI cC g w) H → va_D (AW s) (XW cI cC f x ++ MW cI cC g w) → va_S (AW s) s.heap H locs → W p l e room_1 s m #[Value.ref b] below meth c H locs 43 4025 (lw_Z below #[Value.ref b] s) (F0 m 860 ls [])) : W p l e room_1 s m #[Value.ref b] below meth c H locs 43 4025 (lw_Z below #[Value.ref b] s) (F0 m 732 ls []) := by
  obtain ⟨hx, hb, hml, hown, hts, hX, hbl, hL, hE, hK⟩ := B
  have hA : ∀ q, s.heap.size ≤ q → AW s q := fun _ h => h
  have hbA : ¬ AW s b := Nat.not_le.mpr hbl
  have h_in1 : vp_in (nI i + (1 : Int32)) L := by rw [show nI i + (1 : Int32) = nI (i + 1) from nI_add i 1]; exact vp_in_nI (by omega) (by omega)
  have h_in2 : vp_in (nI i + (2 : Int32)) L := by rw [show nI i + (2 : Int32) = nI (i + 2) from nI_add i 2]; exact vp_in_nI (by omega) (by omega)
  obtain ⟨z, x', w', hI', hcx, hcm⟩ := k_ends l dC dI cI cC sk f g (xs ((nI i + (1 : Int32))).toNatClampNeg) (xs ((nI i + (2 : Int32))).toNatClampNeg) hI
  refine lv_aload_n hx hb dL_law_732 rfl (lv_at hl 1 rfl) ?_
  refine lv_aload_n hx hb dL_law_733 rfl (lv_at hl 0 rfl) ?_
  refine lv_iload_n hx hb dL_law_734 rfl (lv_at hl 3 rfl) ?_
  refine lv_iconst (v := (1 : Int32)) hx hb dL_law_735 (by decide) ?_
  refine lv_iadd hx hb dL_law_736 ?_
  refine va_sld hx hb hX hbl hbA hS h_in1 dL_law_737 ?_
  refine lv_aload_n hx hb dL_law_738 rfl (lv_at hl 0 rfl) ?_
  refine lv_iload_n hx hb dL_law_739 rfl (lv_at hl 3 rfl) ?_
  refine lv_iconst (v := (2 : Int32)) hx hb dL_law_740 (by decide) ?_
  refine lv_iadd hx hb dL_law_741 ?_
  refine va_sld hx hb hX hbl hbA hS h_in2 dL_law_742 ?_
  refine lawX (cc := code) ⟨hx, hb, hml, hown, hts⟩ hE hK hA hP hD hS hcx (cwV 2 hts gL_law_X3_ends rfl rfl rfl (by decide +kernel) ⟨Nat.le_of_ble_eq_true rfl, Nat.le_of_ble_eq_true rfl⟩) (As := [.int (xs ((nI i + (1 : Int32))).toNatClampNeg), .int (xs ((nI i + (2 : Int32))).toNatClampNeg)]) (rest := []) rfl hl.1 rfl (Nat.le_of_ble_eq_true rfl) dL_law_743 ⟨Nat.le_refl _, Nat.le_refl _⟩ (fun H locs hP hD hS => ?_)
  refine lv_aload_n hx hb dL_law_746 rfl (lv_at hl 2 rfl) ?_
  refine lv_aload_n hx hb dL_law_747 rfl (lv_at hl 0 rfl) ?_
  refine lv_iload_n hx hb dL_law_748 rfl (lv_at hl 3 rfl) ?_
  refine lv_iconst (v := (1 : Int32)) hx hb dL_law_749 (by decide) ?_
  refine lv_iadd hx hb dL_law_750 ?_
  refine va_sld hx hb hX hbl hbA hS h_in1 dL_law_751 ?_
  refine lv_aload_n hx hb dL_law_752 rfl (lv_at hl 0 rfl) ?_
  refine lv_iload_n hx hb dL_law_753 rfl (lv_at hl 3 rfl) ?_
  refine lv_iconst (v := (2 : Int32)) hx hb dL_law_754 (by decide) ?_
  refine lv_iadd hx hb dL_law_755 ?_
  refine va_sld hx hb hX hbl hbA hS h_in2 dL_law_756 ?_
  refine lawM (cc := code) ⟨hx, hb, hml, hown, hts⟩ hE hK hA hP hD hS hcm (cwV 2 hts gL_law_X4_ends rfl rfl rfl (by decide +kernel) ⟨Nat.le_of_ble_eq_true rfl, Nat.le_of_ble_eq_true rfl⟩) (As := [.int (xs ((nI i + (1 : Int32))).toNatClampNeg), .int (xs ((nI i + (2 : Int32))).toNatClampNeg)]) (rest := [.int z]) rfl hl.1 rfl (Nat.le_of_ble_eq_true rfl) dL_law_757 ⟨Nat.le_refl _, Nat.le_refl _⟩ (fun H locs hP hD hS => ?_)
  refine lv_icmp_eq (tgt := 860) hx hb dL_law_760 (by decide) (fun _ => ?_) (fun c9 => absurd rfl c9)
  exact kk x' w' H locs hI' hP hD hS
set_option maxRecDepth 20000 in
theorem ggL_law_X3_clear : GoodIn wsL_law wsX3_clear := goodIn_r _ [659, 595, 715, 716, 717, 718, 719, 720, 721, 722, 723] (by decide +kernel) (by decide +kernel)
set_option maxRecDepth 20000 in
theorem gL_law_X3_clear : GoodIn wsL_law (wsV RL 101 RX3 yX3_clear wsX3_clear) := goodIn_app (goodIn_of _ (by decide +kernel)) ggL_law_X3_clear
set_option maxRecDepth 20000 in
theorem ggL_law_X4_clear : GoodIn wsL_law wsX4_clear := goodIn_r _ [663, 600, 724, 725, 726, 727, 728, 729, 730, 731, 732, 733, 734, 735, 736, 737, 738, 739, 740, 741, 742, 743, 744, 745, 746, 747, 748, 749, 750, 751] (by decide +kernel) (by decide +kernel)
set_option maxRecDepth 20000 in
theorem gL_law_X4_clear : GoodIn wsL_law (wsV RL 104 RX4 yX4_clear wsX4_clear) := goodIn_app (goodIn_of _ (by decide +kernel)) ggL_law_X4_clear
set_option maxHeartbeats 4000000 in
set_option maxRecDepth 100000 in
theorem lc_clear {p : Program} {l : Launch} {e : Env} {s : State} {m : MethodId} {below : List Frame} {meth : Method} {c : Code} {dC : Nat → ClassId} {dI : Nat → Nat → Nat} {cI cC : ClassId} {sk : (Nat → Nat) × (Nat → Nat)} {b L : Nat} {xs : Nat → Int32} {f g : Nat → Nat} (B : LB p s m c dC dI cI cC sk b L xs) {i : Nat} (hi : i + 4 ≤ L) {x : XT} {w : MT} (hI : INV x w) {H : Heap} {locs : List Loc} {ls : Array Slot} (hP : va_P (dC, dI) vwCl (XW cI cC f x ++ MW cI cC g w) H) (hD : va_D (AW s) (XW cI cC f x ++ MW cI cC g w)) (hS : va_S (AW s) s.heap H locs) (hl : lv_has ls 4 [(0, .ref b), (1, .ref (f 0)), (2, .ref (g 0)), (3, .int (nI i))]) (kk : ∀ (x : XT) (w : MT) (H : Heap) (locs : List Loc), INV x w → va_P (dC, dI) vwCl (XW cI cC f x ++ MW cI cC g w) H → va_D (AW s) (XW cI cC f x ++ MW cI cC g w) → va_S (AW s) s.heap H locs → W p l e room_1 s m #[Value.ref b] below meth c H locs 43 4025 (lw_Z below #[Value.ref b] s) (F0 m 860 ls [])) : W p l e room_1 s m #[Value.ref b] below meth c H locs 43 4025 (lw_Z below #[Value.ref b] s) (F0 m 765 ls []) := by
  obtain ⟨hx, hb, hml, hown, hts, hX, hbl, hL, hE, hK⟩ := B
  have hA : ∀ q, s.heap.size ≤ q → AW s q := fun _ h => h
  have hbA : ¬ AW s b := Nat.not_le.mpr hbl
  obtain ⟨z, x', w', hI', hcx, hcm⟩ := k_clear l dC dI cI cC sk f g  hI
  refine lv_aload_n hx hb dL_law_765 rfl (lv_at hl 1 rfl) ?_
  refine lawX (cc := code) ⟨hx, hb, hml, hown, hts⟩ hE hK hA hP hD hS hcx (cwV 0 hts gL_law_X3_clear rfl rfl rfl (by decide +kernel) ⟨Nat.le_of_ble_eq_true rfl, Nat.le_of_ble_eq_true rfl⟩) (As := []) (rest := []) rfl hl.1 rfl (Nat.le_of_ble_eq_true rfl) dL_law_766 ⟨Nat.le_refl _, Nat.le_refl _⟩ (fun H locs hP hD hS => ?_)
  refine lv_aload_n hx hb dL_law_769 rfl (lv_at hl 2 rfl) ?_
  refine lawM (cc := code) ⟨hx, hb, hml, hown, hts⟩ hE hK hA hP hD hS hcm (cwV 0 hts gL_law_X4_clear rfl rfl rfl (by decide +kernel) ⟨Nat.le_of_ble_eq_true rfl, Nat.le_of_ble_eq_true rfl⟩) (As := []) (rest := [.int z]) rfl hl.1 rfl (Nat.le_of_ble_eq_true rfl) dL_law_770 ⟨Nat.le_refl _, Nat.le_refl _⟩ (fun H locs hP hD hS => ?_)
  refine lv_icmp_eq (tgt := 860) hx hb dL_law_773 (by decide) (fun _ => ?_) (fun c9 => absurd rfl c9)
  exact kk x' w' H locs hI' hP hD hS
set_option maxRecDepth 20000 in
theorem ggL_law_X3_seeds : GoodIn wsL_law wsX3_seeds := goodIn_r _ [667, 75, 76, 2, 77, 78, 79, 80, 81, 28, 668, 669, 670, 671, 672, 673, 674, 675, 676, 522, 523, 524, 525, 15, 16, 352, 353, 354, 14, 355, 356, 357, 358, 408, 409, 410, 411, 412, 413, 414, 360, 361, 362, 363, 34, 33, 35, 364, 193, 194, 19, 195, 41, 196, 197, 198, 199, 107, 365, 296, 297, 298, 40, 42, 43, 299, 300, 301, 302, 303, 304, 305, 366, 367, 326, 327, 328, 44, 329, 330, 214, 331, 415, 416, 417, 418, 419, 420, 421, 422, 423, 424, 425, 426, 427, 428, 429, 430, 431, 432, 433, 373, 374, 375, 434, 369, 370, 371, 372, 213, 215, 435, 436, 437, 438, 715, 716, 717, 718, 719, 720, 721, 722, 723, 761, 762, 763, 764, 765, 766, 767, 768, 752, 753, 754, 755, 756, 757, 758, 759, 760] (by decide +kernel) (by decide +kernel)
set_option maxRecDepth 20000 in
theorem gL_law_X3_seeds : GoodIn wsL_law (wsV RL 105 RX3 yX3_seeds wsX3_seeds) := goodIn_app (goodIn_of _ (by decide +kernel)) ggL_law_X3_seeds
set_option maxRecDepth 20000 in
theorem ggL_law_X4_seeds : GoodIn wsL_law wsX4_seeds := goodIn_r _ [680, 681, 682, 683, 253, 92, 93, 5, 94, 95, 96, 97, 98, 55, 449, 450, 451, 452, 453, 454, 455, 456, 457, 458, 459, 460, 461, 462, 463, 464, 465, 336, 337, 338, 339, 60, 56, 384, 385, 386, 318, 319, 320, 466, 467, 468, 469, 252, 57, 61, 243, 244, 245, 310, 311, 312, 313, 314, 58, 59, 315, 316, 317, 380, 381, 382, 383, 724, 725, 726, 727, 728, 729, 730, 731, 732, 733, 734, 735, 736, 737, 738, 739, 740, 741, 742, 743, 744, 745, 746, 747, 748, 749, 750, 751] (by decide +kernel) (by decide +kernel)
set_option maxRecDepth 20000 in
theorem gL_law_X4_seeds : GoodIn wsL_law (wsV RL 108 RX4 yX4_seeds wsX4_seeds) := goodIn_app (goodIn_of _ (by decide +kernel)) ggL_law_X4_seeds
set_option maxHeartbeats 4000000 in
set_option maxRecDepth 100000 in
theorem lc_seeds {p : Program} {l : Launch} {e : Env} {s : State} {m : MethodId} {below : List Frame} {meth : Method} {c : Code} {dC : Nat → ClassId} {dI : Nat → Nat → Nat} {cI cC : ClassId} {sk : (Nat → Nat) × (Nat → Nat)} {b L : Nat} {xs : Nat → Int32} {f g : Nat → Nat} (B : LB p s m c dC dI cI cC sk b L xs) {i : Nat} (hi : i + 4 ≤ L) {x : XT} {w : MT} (hI : INV x w) {H : Heap} {locs : List Loc} {ls : Array Slot} (hP : va_P (dC, dI) vwCl (XW cI cC f x ++ MW cI cC g w) H) (hD : va_D (AW s) (XW cI cC f x ++ MW cI cC g w)) (hS : va_S (AW s) s.heap H locs) (hl : lv_has ls 4 [(0, .ref b), (1, .ref (f 0)), (2, .ref (g 0)), (3, .int (nI i))]) (kk : ∀ (x : XT) (w : MT) (H : Heap) (locs : List Loc), INV x w → va_P (dC, dI) vwCl (XW cI cC f x ++ MW cI cC g w) H → va_D (AW s) (XW cI cC f x ++ MW cI cC g w) → va_S (AW s) s.heap H locs → W p l e room_1 s m #[Value.ref b] below meth c H locs 43 4025 (lw_Z below #[Value.ref b] s) (F0 m 860 ls [])) : W p l e room_1 s m #[Value.ref b] below meth c H locs 43 4025 (lw_Z below #[Value.ref b] s) (F0 m 778 ls []) := by
  obtain ⟨hx, hb, hml, hown, hts, hX, hbl, hL, hE, hK⟩ := B
  have hA : ∀ q, s.heap.size ≤ q → AW s q := fun _ h => h
  have hbA : ¬ AW s b := Nat.not_le.mpr hbl
  have h_in1 : vp_in (nI i + (1 : Int32)) L := by rw [show nI i + (1 : Int32) = nI (i + 1) from nI_add i 1]; exact vp_in_nI (by omega) (by omega)
  have h_in2 : vp_in (nI i + (2 : Int32)) L := by rw [show nI i + (2 : Int32) = nI (i + 2) from nI_add i 2]; exact vp_in_nI (by omega) (by omega)
  obtain ⟨z, x', w', hI', hcx, hcm⟩ := k_seeds l dC dI cI cC sk f g (xs ((nI i + (1 : Int32))).toNatClampNeg) (xs ((nI i + (2 : Int32))).toNatClampNeg) hI
  refine lv_aload_n hx hb dL_law_778 rfl (lv_at hl 1 rfl) ?_
  refine lv_aload_n hx hb dL_law_779 rfl (lv_at hl 0 rfl) ?_
  refine lv_iload_n hx hb dL_law_780 rfl (lv_at hl 3 rfl) ?_
  refine lv_iconst (v := (1 : Int32)) hx hb dL_law_781 (by decide) ?_
  refine lv_iadd hx hb dL_law_782 ?_
  refine va_sld hx hb hX hbl hbA hS h_in1 dL_law_783 ?_
  refine lv_aload_n hx hb dL_law_784 rfl (lv_at hl 0 rfl) ?_
  refine lv_iload_n hx hb dL_law_785 rfl (lv_at hl 3 rfl) ?_
  refine lv_iconst (v := (2 : Int32)) hx hb dL_law_786 (by decide) ?_
  refine lv_iadd hx hb dL_law_787 ?_
  refine va_sld hx hb hX hbl hbA hS h_in2 dL_law_788 ?_
  refine lawX (cc := code) ⟨hx, hb, hml, hown, hts⟩ hE hK hA hP hD hS hcx (cwV 2 hts gL_law_X3_seeds rfl rfl rfl (by decide +kernel) ⟨Nat.le_of_ble_eq_true rfl, Nat.le_of_ble_eq_true rfl⟩) (As := [.int (xs ((nI i + (1 : Int32))).toNatClampNeg), .int (xs ((nI i + (2 : Int32))).toNatClampNeg)]) (rest := []) rfl hl.1 rfl (Nat.le_of_ble_eq_true rfl) dL_law_789 ⟨Nat.le_refl _, Nat.le_refl _⟩ (fun H locs hP hD hS => ?_)
  refine lv_aload_n hx hb dL_law_792 rfl (lv_at hl 2 rfl) ?_
  refine lv_aload_n hx hb dL_law_793 rfl (lv_at hl 0 rfl) ?_
  refine lv_iload_n hx hb dL_law_794 rfl (lv_at hl 3 rfl) ?_
  refine lv_iconst (v := (1 : Int32)) hx hb dL_law_795 (by decide) ?_
  refine lv_iadd hx hb dL_law_796 ?_
  refine va_sld hx hb hX hbl hbA hS h_in1 dL_law_797 ?_
  refine lv_aload_n hx hb dL_law_798 rfl (lv_at hl 0 rfl) ?_
  refine lv_iload_n hx hb dL_law_799 rfl (lv_at hl 3 rfl) ?_
  refine lv_iconst (v := (2 : Int32)) hx hb dL_law_800 (by decide) ?_
  refine lv_iadd hx hb dL_law_801 ?_
  refine va_sld hx hb hX hbl hbA hS h_in2 dL_law_802 ?_
  refine lawM (cc := code) ⟨hx, hb, hml, hown, hts⟩ hE hK hA hP hD hS hcm (cwV 2 hts gL_law_X4_seeds rfl rfl rfl (by decide +kernel) ⟨Nat.le_of_ble_eq_true rfl, Nat.le_of_ble_eq_true rfl⟩) (As := [.int (xs ((nI i + (1 : Int32))).toNatClampNeg), .int (xs ((nI i + (2 : Int32))).toNatClampNeg)]) (rest := [.int z]) rfl hl.1 rfl (Nat.le_of_ble_eq_true rfl) dL_law_803 ⟨Nat.le_refl _, Nat.le_refl _⟩ (fun H locs hP hD hS => ?_)
  refine lv_icmp_eq (tgt := 860) hx hb dL_law_806 (by decide) (fun _ => ?_) (fun c9 => absurd rfl c9)
  exact kk x' w' H locs hI' hP hD hS
set_option maxRecDepth 20000 in
theorem ggL_law_X3_image : GoodIn wsL_law wsX3_image := goodIn_r _ [687, 21, 16, 688, 103, 104, 105, 19, 106, 40, 41, 42, 43, 44, 45, 107, 108, 715, 716, 717, 718, 719, 720, 721, 722, 723, 761, 762, 763, 764, 765, 766, 767, 768] (by decide +kernel) (by decide +kernel)
set_option maxRecDepth 20000 in
theorem gL_law_X3_image : GoodIn wsL_law (wsV RL 109 RX3 yX3_image wsX3_image) := goodIn_app (goodIn_of _ (by decide +kernel)) ggL_law_X3_image
set_option maxRecDepth 20000 in
theorem ggL_law_X4_image : GoodIn wsL_law wsX4_image := goodIn_r _ [692, 693, 253, 246, 247, 248, 5, 249, 250, 251, 56, 57, 58, 59, 60, 252, 61, 254, 255, 256, 257, 66, 258, 259, 260, 261, 724, 725, 726, 727, 728, 729, 730, 731, 732, 733, 734, 735, 736, 737, 738, 739, 740, 741, 742, 743, 744, 745, 746, 747, 748, 749, 750, 751] (by decide +kernel) (by decide +kernel)
set_option maxRecDepth 20000 in
theorem gL_law_X4_image : GoodIn wsL_law (wsV RL 112 RX4 yX4_image wsX4_image) := goodIn_app (goodIn_of _ (by decide +kernel)) ggL_law_X4_image
set_option maxHeartbeats 4000000 in
set_option maxRecDepth 100000 in
theorem lc_image {p : Program} {l : Launch} {e : Env} {s : State} {m : MethodId} {below : List Frame} {meth : Method} {c : Code} {dC : Nat → ClassId} {dI : Nat → Nat → Nat} {cI cC : ClassId} {sk : (Nat → Nat) × (Nat → Nat)} {b L : Nat} {xs : Nat → Int32} {f g : Nat → Nat} (B : LB p s m c dC dI cI cC sk b L xs) {i : Nat} (hi : i + 4 ≤ L) {x : XT} {w : MT} (hI : INV x w) {H : Heap} {locs : List Loc} {ls : Array Slot} (hP : va_P (dC, dI) vwCl (XW cI cC f x ++ MW cI cC g w) H) (hD : va_D (AW s) (XW cI cC f x ++ MW cI cC g w)) (hS : va_S (AW s) s.heap H locs) (hl : lv_has ls 4 [(0, .ref b), (1, .ref (f 0)), (2, .ref (g 0)), (3, .int (nI i))]) (kk : ∀ (x : XT) (w : MT) (H : Heap) (locs : List Loc), INV x w → va_P (dC, dI) vwCl (XW cI cC f x ++ MW cI cC g w) H → va_D (AW s) (XW cI cC f x ++ MW cI cC g w) → va_S (AW s) s.heap H locs → W p l e room_1 s m #[Value.ref b] below meth c H locs 43 4025 (lw_Z below #[Value.ref b] s) (F0 m 860 ls [])) : W p l e room_1 s m #[Value.ref b] below meth c H locs 43 4025 (lw_Z below #[Value.ref b] s) (F0 m 811 ls []) := by
  obtain ⟨hx, hb, hml, hown, hts, hX, hbl, hL, hE, hK⟩ := B
  have hA : ∀ q, s.heap.size ≤ q → AW s q := fun _ h => h
  have hbA : ¬ AW s b := Nat.not_le.mpr hbl
  obtain ⟨z, x', w', hI', hcx, hcm⟩ := k_image l dC dI cI cC sk f g  hI
  refine lv_aload_n hx hb dL_law_811 rfl (lv_at hl 1 rfl) ?_
  refine lawX (cc := code) ⟨hx, hb, hml, hown, hts⟩ hE hK hA hP hD hS hcx (cwV 0 hts gL_law_X3_image rfl rfl rfl (by decide +kernel) ⟨Nat.le_of_ble_eq_true rfl, Nat.le_of_ble_eq_true rfl⟩) (As := []) (rest := []) rfl hl.1 rfl (Nat.le_of_ble_eq_true rfl) dL_law_812 ⟨Nat.le_refl _, Nat.le_refl _⟩ (fun H locs hP hD hS => ?_)
  refine lv_aload_n hx hb dL_law_815 rfl (lv_at hl 2 rfl) ?_
  refine lawM (cc := code) ⟨hx, hb, hml, hown, hts⟩ hE hK hA hP hD hS hcm (cwV 0 hts gL_law_X4_image rfl rfl rfl (by decide +kernel) ⟨Nat.le_of_ble_eq_true rfl, Nat.le_of_ble_eq_true rfl⟩) (As := []) (rest := [.int z]) rfl hl.1 rfl (Nat.le_of_ble_eq_true rfl) dL_law_816 ⟨Nat.le_refl _, Nat.le_refl _⟩ (fun H locs hP hD hS => ?_)
  refine lv_icmp_eq (tgt := 860) hx hb dL_law_819 (by decide) (fun _ => ?_) (fun c9 => absurd rfl c9)
  exact kk x' w' H locs hI' hP hD hS
set_option maxRecDepth 20000 in
theorem ggL_law_X3_on : GoodIn wsL_law wsX3_on := goodIn_r _ [697, 688, 16, 21, 78, 79, 80, 2, 81, 28, 103, 104, 105, 19, 106, 40, 41, 42, 43, 44, 45, 107, 108, 715, 716, 717, 718, 719, 720, 721, 722, 723, 761, 762, 763, 764, 765, 766, 767, 768] (by decide +kernel) (by decide +kernel)
set_option maxRecDepth 20000 in
theorem gL_law_X3_on : GoodIn wsL_law (wsV RL 113 RX3 yX3_on wsX3_on) := goodIn_app (goodIn_of _ (by decide +kernel)) ggL_law_X3_on
set_option maxRecDepth 20000 in
theorem ggL_law_X4_on : GoodIn wsL_law wsX4_on := goodIn_r _ [701, 693, 253, 95, 96, 97, 5, 98, 55, 246, 247, 248, 249, 250, 251, 56, 57, 58, 59, 60, 252, 61, 254, 255, 256, 257, 66, 258, 259, 260, 261, 724, 725, 726, 727, 728, 729, 730, 731, 732, 733, 734, 735, 736, 737, 738, 739, 740, 741, 742, 743, 744, 745, 746, 747, 748, 749, 750, 751] (by decide +kernel) (by decide +kernel)
set_option maxRecDepth 20000 in
theorem gL_law_X4_on : GoodIn wsL_law (wsV RL 116 RX4 yX4_on wsX4_on) := goodIn_app (goodIn_of _ (by decide +kernel)) ggL_law_X4_on
set_option maxHeartbeats 4000000 in
set_option maxRecDepth 100000 in
theorem lc_on {p : Program} {l : Launch} {e : Env} {s : State} {m : MethodId} {below : List Frame} {meth : Method} {c : Code} {dC : Nat → ClassId} {dI : Nat → Nat → Nat} {cI cC : ClassId} {sk : (Nat → Nat) × (Nat → Nat)} {b L : Nat} {xs : Nat → Int32} {f g : Nat → Nat} (B : LB p s m c dC dI cI cC sk b L xs) {i : Nat} (hi : i + 4 ≤ L) {x : XT} {w : MT} (hI : INV x w) {H : Heap} {locs : List Loc} {ls : Array Slot} (hP : va_P (dC, dI) vwCl (XW cI cC f x ++ MW cI cC g w) H) (hD : va_D (AW s) (XW cI cC f x ++ MW cI cC g w)) (hS : va_S (AW s) s.heap H locs) (hl : lv_has ls 4 [(0, .ref b), (1, .ref (f 0)), (2, .ref (g 0)), (3, .int (nI i))]) (kk : ∀ (x : XT) (w : MT) (H : Heap) (locs : List Loc), INV x w → va_P (dC, dI) vwCl (XW cI cC f x ++ MW cI cC g w) H → va_D (AW s) (XW cI cC f x ++ MW cI cC g w) → va_S (AW s) s.heap H locs → W p l e room_1 s m #[Value.ref b] below meth c H locs 43 4025 (lw_Z below #[Value.ref b] s) (F0 m 860 ls [])) : W p l e room_1 s m #[Value.ref b] below meth c H locs 43 4025 (lw_Z below #[Value.ref b] s) (F0 m 824 ls []) := by
  obtain ⟨hx, hb, hml, hown, hts, hX, hbl, hL, hE, hK⟩ := B
  have hA : ∀ q, s.heap.size ≤ q → AW s q := fun _ h => h
  have hbA : ¬ AW s b := Nat.not_le.mpr hbl
  obtain ⟨z, x', w', hI', hcx, hcm⟩ := k_on l dC dI cI cC sk f g  hI
  refine lv_aload_n hx hb dL_law_824 rfl (lv_at hl 1 rfl) ?_
  refine lawX (cc := code) ⟨hx, hb, hml, hown, hts⟩ hE hK hA hP hD hS hcx (cwV 0 hts gL_law_X3_on rfl rfl rfl (by decide +kernel) ⟨Nat.le_of_ble_eq_true rfl, Nat.le_of_ble_eq_true rfl⟩) (As := []) (rest := []) rfl hl.1 rfl (Nat.le_of_ble_eq_true rfl) dL_law_825 ⟨Nat.le_refl _, Nat.le_refl _⟩ (fun H locs hP hD hS => ?_)
  refine lv_aload_n hx hb dL_law_828 rfl (lv_at hl 2 rfl) ?_
  refine lawM (cc := code) ⟨hx, hb, hml, hown, hts⟩ hE hK hA hP hD hS hcm (cwV 0 hts gL_law_X4_on rfl rfl rfl (by decide +kernel) ⟨Nat.le_of_ble_eq_true rfl, Nat.le_of_ble_eq_true rfl⟩) (As := []) (rest := [.int z]) rfl hl.1 rfl (Nat.le_of_ble_eq_true rfl) dL_law_829 ⟨Nat.le_refl _, Nat.le_refl _⟩ (fun H locs hP hD hS => ?_)
  refine lv_icmp_eq (tgt := 860) hx hb dL_law_832 (by decide) (fun _ => ?_) (fun c9 => absurd rfl c9)
  exact kk x' w' H locs hI' hP hD hS
