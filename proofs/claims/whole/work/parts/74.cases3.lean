set_option maxRecDepth 20000 in
theorem ggL_law_X3_from : GoodIn wsL_law wsX3_from := goodIn_r _ [578, 75, 76, 2, 77, 78, 79, 80, 81, 28, 522, 523, 524, 525, 15, 16, 352, 353, 354, 14, 355, 356, 357, 358, 408, 409, 410, 411, 412, 413, 414, 360, 361, 362, 363, 34, 33, 35, 364, 193, 194, 19, 195, 41, 196, 197, 198, 199, 107, 365, 296, 297, 298, 40, 42, 43, 299, 300, 301, 302, 303, 304, 305, 366, 367, 326, 327, 328, 44, 329, 330, 214, 331, 415, 416, 417, 418, 419, 420, 421, 422, 423, 424, 425, 426, 427, 428, 429, 430, 431, 432, 433, 373, 374, 375, 434, 369, 370, 371, 372, 213, 215, 435, 436, 437, 438, 715, 716, 717, 718, 719, 720, 721, 722, 723, 761, 762, 763, 764, 765, 766, 767, 768, 752, 753, 754, 755, 756, 757, 758, 759, 760] (by decide +kernel) (by decide +kernel)
set_option maxRecDepth 20000 in
theorem gL_law_X3_from : GoodIn wsL_law (wsV RL 77 RX3 yX3_from wsX3_from) := goodIn_app (goodIn_of _ (by decide +kernel)) ggL_law_X3_from
set_option maxRecDepth 20000 in
theorem ggL_law_X4_from : GoodIn wsL_law wsX4_from := goodIn_r _ [582, 253, 92, 93, 5, 94, 95, 96, 97, 98, 55, 449, 450, 451, 452, 453, 454, 455, 456, 457, 458, 459, 460, 461, 462, 463, 464, 465, 336, 337, 338, 339, 60, 56, 384, 385, 386, 318, 319, 320, 466, 467, 468, 469, 252, 57, 61, 243, 244, 245, 310, 311, 312, 313, 314, 58, 59, 315, 316, 317, 380, 381, 382, 383, 724, 725, 726, 727, 728, 729, 730, 731, 732, 733, 734, 735, 736, 737, 738, 739, 740, 741, 742, 743, 744, 745, 746, 747, 748, 749, 750, 751] (by decide +kernel) (by decide +kernel)
set_option maxRecDepth 20000 in
theorem gL_law_X4_from : GoodIn wsL_law (wsV RL 80 RX4 yX4_from wsX4_from) := goodIn_app (goodIn_of _ (by decide +kernel)) ggL_law_X4_from
set_option maxHeartbeats 4000000 in
set_option maxRecDepth 100000 in
theorem lc_from {p : Program} {l : Launch} {e : Env} {s : State} {m : MethodId} {below : List Frame} {meth : Method} {c : Code} {dC : Nat → ClassId} {dI : Nat → Nat → Nat} {cI cC : ClassId} {sk : (Nat → Nat) × (Nat → Nat)} {b L : Nat} {xs : Nat → Int32} {f g : Nat → Nat} (B : LB p s m c dC dI cI cC sk b L xs) {i : Nat} (hi : i + 4 ≤ L) {x : XT} {w : MT} (hI : INV x w) {H : Heap} {locs : List Loc} {ls : Array Slot} (hP : va_P (dC, dI) vwCl (XW cI cC f x ++ MW cI cC g w) H) (hD : va_D (AW s) (XW cI cC f x ++ MW cI cC g w)) (hS : va_S (AW s) s.heap H locs) (hl : lv_has ls 4 [(0, .ref b), (1, .ref (f 0)), (2, .ref (g 0)), (3, .int (nI i))]) (kk : ∀ (x : XT) (w : MT) (H : Heap) (locs : List Loc), INV x w → va_P (dC, dI) vwCl (XW cI cC f x ++ MW cI cC g w) H → va_D (AW s) (XW cI cC f x ++ MW cI cC g w) → va_S (AW s) s.heap H locs → W p l e room_1 s m #[Value.ref b] below meth c H locs 43 4025 (lw_Z below #[Value.ref b] s) (F0 m 860 ls [])) : W p l e room_1 s m #[Value.ref b] below meth c H locs 43 4025 (lw_Z below #[Value.ref b] s) (F0 m 587 ls []) := by
  obtain ⟨hx, hb, hml, hown, hts, hX, hbl, hL, hE, hK⟩ := B
  have hA : ∀ q, s.heap.size ≤ q → AW s q := fun _ h => h
  have hbA : ¬ AW s b := Nat.not_le.mpr hbl
  have h_in1 : vp_in (nI i + (1 : Int32)) L := by rw [show nI i + (1 : Int32) = nI (i + 1) from nI_add i 1]; exact vp_in_nI (by omega) (by omega)
  obtain ⟨z, x', w', hI', hcx, hcm⟩ := k_from l dC dI cI cC sk f g (xs ((nI i + (1 : Int32))).toNatClampNeg) hI
  refine lv_aload_n hx hb dL_law_587 rfl (lv_at hl 1 rfl) ?_
  refine lv_aload_n hx hb dL_law_588 rfl (lv_at hl 0 rfl) ?_
  refine lv_iload_n hx hb dL_law_589 rfl (lv_at hl 3 rfl) ?_
  refine lv_iconst (v := (1 : Int32)) hx hb dL_law_590 (by decide) ?_
  refine lv_iadd hx hb dL_law_591 ?_
  refine va_sld hx hb hX hbl hbA hS h_in1 dL_law_592 ?_
  refine lawX (cc := code) ⟨hx, hb, hml, hown, hts⟩ hE hK hA hP hD hS hcx (cwV 1 hts gL_law_X3_from rfl rfl rfl (by decide +kernel) ⟨Nat.le_of_ble_eq_true rfl, Nat.le_of_ble_eq_true rfl⟩) (As := [.int (xs ((nI i + (1 : Int32))).toNatClampNeg)]) (rest := []) rfl hl.1 rfl (Nat.le_of_ble_eq_true rfl) dL_law_593 ⟨Nat.le_refl _, Nat.le_refl _⟩ (fun H locs hP hD hS => ?_)
  refine lv_aload_n hx hb dL_law_596 rfl (lv_at hl 2 rfl) ?_
  refine lv_aload_n hx hb dL_law_597 rfl (lv_at hl 0 rfl) ?_
  refine lv_iload_n hx hb dL_law_598 rfl (lv_at hl 3 rfl) ?_
  refine lv_iconst (v := (1 : Int32)) hx hb dL_law_599 (by decide) ?_
  refine lv_iadd hx hb dL_law_600 ?_
  refine va_sld hx hb hX hbl hbA hS h_in1 dL_law_601 ?_
  refine lawM (cc := code) ⟨hx, hb, hml, hown, hts⟩ hE hK hA hP hD hS hcm (cwV 1 hts gL_law_X4_from rfl rfl rfl (by decide +kernel) ⟨Nat.le_of_ble_eq_true rfl, Nat.le_of_ble_eq_true rfl⟩) (As := [.int (xs ((nI i + (1 : Int32))).toNatClampNeg)]) (rest := [.int z]) rfl hl.1 rfl (Nat.le_of_ble_eq_true rfl) dL_law_602 ⟨Nat.le_refl _, Nat.le_refl _⟩ (fun H locs hP hD hS => ?_)
  refine lv_icmp_eq (tgt := 860) hx hb dL_law_605 (by decide) (fun _ => ?_) (fun c9 => absurd rfl c9)
  exact kk x' w' H locs hI' hP hD hS
set_option maxRecDepth 20000 in
theorem ggL_law_X3_byNow : GoodIn wsL_law wsX3_byNow := goodIn_r _ [586, 16, 15, 274, 197, 198, 19, 199, 107, 78, 79, 80, 2, 81, 28, 495, 496, 497, 352, 353, 354, 14, 355, 356, 357, 358, 499, 500, 501, 502, 414, 360, 361, 362, 363, 34, 33, 35, 364, 193, 194, 195, 41, 196, 365, 296, 297, 298, 40, 42, 43, 299, 300, 301, 302, 303, 304, 305, 366, 367, 326, 327, 328, 44, 329, 330, 214, 331, 415, 416, 417, 418, 419, 420, 421, 422, 423, 424, 425, 426, 427, 428, 429, 430, 431, 432, 433, 373, 374, 375, 434, 369, 370, 371, 372, 213, 215, 435, 436, 437, 438, 412, 413, 715, 716, 717, 718, 719, 720, 721, 722, 723, 761, 762, 763, 764, 765, 766, 767, 768, 752, 753, 754, 755, 756, 757, 758, 759, 760] (by decide +kernel) (by decide +kernel)
set_option maxRecDepth 20000 in
theorem gL_law_X3_byNow : GoodIn wsL_law (wsV RL 81 RX3 yX3_byNow wsX3_byNow) := goodIn_app (goodIn_of _ (by decide +kernel)) ggL_law_X3_byNow
set_option maxRecDepth 20000 in
theorem ggL_law_X4_byNow : GoodIn wsL_law wsX4_byNow := goodIn_r _ [590, 253, 283, 284, 285, 5, 286, 252, 95, 96, 97, 98, 55, 453, 454, 455, 456, 457, 458, 459, 460, 461, 462, 463, 464, 465, 336, 337, 338, 339, 60, 56, 384, 385, 386, 318, 319, 320, 466, 467, 468, 469, 57, 61, 243, 244, 245, 310, 311, 312, 313, 314, 58, 59, 315, 316, 317, 380, 381, 382, 383, 507, 508, 509, 724, 725, 726, 727, 728, 729, 730, 731, 732, 733, 734, 735, 736, 737, 738, 739, 740, 741, 742, 743, 744, 745, 746, 747, 748, 749, 750, 751] (by decide +kernel) (by decide +kernel)
set_option maxRecDepth 20000 in
theorem gL_law_X4_byNow : GoodIn wsL_law (wsV RL 84 RX4 yX4_byNow wsX4_byNow) := goodIn_app (goodIn_of _ (by decide +kernel)) ggL_law_X4_byNow
set_option maxHeartbeats 4000000 in
set_option maxRecDepth 100000 in
theorem lc_byNow {p : Program} {l : Launch} {e : Env} {s : State} {m : MethodId} {below : List Frame} {meth : Method} {c : Code} {dC : Nat → ClassId} {dI : Nat → Nat → Nat} {cI cC : ClassId} {sk : (Nat → Nat) × (Nat → Nat)} {b L : Nat} {xs : Nat → Int32} {f g : Nat → Nat} (B : LB p s m c dC dI cI cC sk b L xs) {i : Nat} (hi : i + 4 ≤ L) {x : XT} {w : MT} (hI : INV x w) {H : Heap} {locs : List Loc} {ls : Array Slot} (hP : va_P (dC, dI) vwCl (XW cI cC f x ++ MW cI cC g w) H) (hD : va_D (AW s) (XW cI cC f x ++ MW cI cC g w)) (hS : va_S (AW s) s.heap H locs) (hl : lv_has ls 4 [(0, .ref b), (1, .ref (f 0)), (2, .ref (g 0)), (3, .int (nI i))]) (kk : ∀ (x : XT) (w : MT) (H : Heap) (locs : List Loc), INV x w → va_P (dC, dI) vwCl (XW cI cC f x ++ MW cI cC g w) H → va_D (AW s) (XW cI cC f x ++ MW cI cC g w) → va_S (AW s) s.heap H locs → W p l e room_1 s m #[Value.ref b] below meth c H locs 43 4025 (lw_Z below #[Value.ref b] s) (F0 m 860 ls [])) : W p l e room_1 s m #[Value.ref b] below meth c H locs 43 4025 (lw_Z below #[Value.ref b] s) (F0 m 610 ls []) := by
  obtain ⟨hx, hb, hml, hown, hts, hX, hbl, hL, hE, hK⟩ := B
  have hA : ∀ q, s.heap.size ≤ q → AW s q := fun _ h => h
  have hbA : ¬ AW s b := Nat.not_le.mpr hbl
  have h_in1 : vp_in (nI i + (1 : Int32)) L := by rw [show nI i + (1 : Int32) = nI (i + 1) from nI_add i 1]; exact vp_in_nI (by omega) (by omega)
  have h_in2 : vp_in (nI i + (2 : Int32)) L := by rw [show nI i + (2 : Int32) = nI (i + 2) from nI_add i 2]; exact vp_in_nI (by omega) (by omega)
  have h_in3 : vp_in (nI i + (3 : Int32)) L := by rw [show nI i + (3 : Int32) = nI (i + 3) from nI_add i 3]; exact vp_in_nI (by omega) (by omega)
  obtain ⟨z, x', w', hI', hcx, hcm⟩ := k_byNow l dC dI cI cC sk f g (xs ((nI i + (1 : Int32))).toNatClampNeg) (xs ((nI i + (2 : Int32))).toNatClampNeg) (xs ((nI i + (3 : Int32))).toNatClampNeg) hI
  refine lv_aload_n hx hb dL_law_610 rfl (lv_at hl 1 rfl) ?_
  refine lv_aload_n hx hb dL_law_611 rfl (lv_at hl 0 rfl) ?_
  refine lv_iload_n hx hb dL_law_612 rfl (lv_at hl 3 rfl) ?_
  refine lv_iconst (v := (1 : Int32)) hx hb dL_law_613 (by decide) ?_
  refine lv_iadd hx hb dL_law_614 ?_
  refine va_sld hx hb hX hbl hbA hS h_in1 dL_law_615 ?_
  refine lv_aload_n hx hb dL_law_616 rfl (lv_at hl 0 rfl) ?_
  refine lv_iload_n hx hb dL_law_617 rfl (lv_at hl 3 rfl) ?_
  refine lv_iconst (v := (2 : Int32)) hx hb dL_law_618 (by decide) ?_
  refine lv_iadd hx hb dL_law_619 ?_
  refine va_sld hx hb hX hbl hbA hS h_in2 dL_law_620 ?_
  refine lv_aload_n hx hb dL_law_621 rfl (lv_at hl 0 rfl) ?_
  refine lv_iload_n hx hb dL_law_622 rfl (lv_at hl 3 rfl) ?_
  refine lv_iconst (v := (3 : Int32)) hx hb dL_law_623 (by decide) ?_
  refine lv_iadd hx hb dL_law_624 ?_
  refine va_sld hx hb hX hbl hbA hS h_in3 dL_law_625 ?_
  refine lawX (cc := code) ⟨hx, hb, hml, hown, hts⟩ hE hK hA hP hD hS hcx (cwV 3 hts gL_law_X3_byNow rfl rfl rfl (by decide +kernel) ⟨Nat.le_of_ble_eq_true rfl, Nat.le_of_ble_eq_true rfl⟩) (As := [.int (xs ((nI i + (1 : Int32))).toNatClampNeg), .int (xs ((nI i + (2 : Int32))).toNatClampNeg), .int (xs ((nI i + (3 : Int32))).toNatClampNeg)]) (rest := []) rfl hl.1 rfl (Nat.le_of_ble_eq_true rfl) dL_law_626 ⟨Nat.le_refl _, Nat.le_refl _⟩ (fun H locs hP hD hS => ?_)
  refine lv_aload_n hx hb dL_law_629 rfl (lv_at hl 2 rfl) ?_
  refine lv_aload_n hx hb dL_law_630 rfl (lv_at hl 0 rfl) ?_
  refine lv_iload_n hx hb dL_law_631 rfl (lv_at hl 3 rfl) ?_
  refine lv_iconst (v := (1 : Int32)) hx hb dL_law_632 (by decide) ?_
  refine lv_iadd hx hb dL_law_633 ?_
  refine va_sld hx hb hX hbl hbA hS h_in1 dL_law_634 ?_
  refine lv_aload_n hx hb dL_law_635 rfl (lv_at hl 0 rfl) ?_
  refine lv_iload_n hx hb dL_law_636 rfl (lv_at hl 3 rfl) ?_
  refine lv_iconst (v := (2 : Int32)) hx hb dL_law_637 (by decide) ?_
  refine lv_iadd hx hb dL_law_638 ?_
  refine va_sld hx hb hX hbl hbA hS h_in2 dL_law_639 ?_
  refine lv_aload_n hx hb dL_law_640 rfl (lv_at hl 0 rfl) ?_
  refine lv_iload_n hx hb dL_law_641 rfl (lv_at hl 3 rfl) ?_
  refine lv_iconst (v := (3 : Int32)) hx hb dL_law_642 (by decide) ?_
  refine lv_iadd hx hb dL_law_643 ?_
  refine va_sld hx hb hX hbl hbA hS h_in3 dL_law_644 ?_
  refine lawM (cc := code) ⟨hx, hb, hml, hown, hts⟩ hE hK hA hP hD hS hcm (cwV 3 hts gL_law_X4_byNow rfl rfl rfl (by decide +kernel) ⟨Nat.le_of_ble_eq_true rfl, Nat.le_of_ble_eq_true rfl⟩) (As := [.int (xs ((nI i + (1 : Int32))).toNatClampNeg), .int (xs ((nI i + (2 : Int32))).toNatClampNeg), .int (xs ((nI i + (3 : Int32))).toNatClampNeg)]) (rest := [.int z]) rfl hl.1 rfl (Nat.le_of_ble_eq_true rfl) dL_law_645 ⟨Nat.le_refl _, Nat.le_refl _⟩ (fun H locs hP hD hS => ?_)
  refine lv_icmp_eq (tgt := 860) hx hb dL_law_648 (by decide) (fun _ => ?_) (fun c9 => absurd rfl c9)
  exact kk x' w' H locs hI' hP hD hS
set_option maxRecDepth 20000 in
theorem ggL_law_X3_row : GoodIn wsL_law wsX3_row := goodIn_r _ [594, 595, 27, 75, 76, 2, 77, 78, 79, 80, 81, 28, 715, 716, 717, 718, 719, 720, 721, 722, 723] (by decide +kernel) (by decide +kernel)
set_option maxRecDepth 20000 in
theorem gL_law_X3_row : GoodIn wsL_law (wsV RL 85 RX3 yX3_row wsX3_row) := goodIn_app (goodIn_of _ (by decide +kernel)) ggL_law_X3_row
set_option maxRecDepth 20000 in
theorem ggL_law_X4_row : GoodIn wsL_law wsX4_row := goodIn_r _ [599, 600, 70, 92, 93, 5, 94, 95, 96, 97, 98, 55, 724, 725, 726, 727, 728, 729, 730, 731, 732, 733, 734, 735, 736, 737, 738, 739, 740, 741, 742, 743, 744, 745, 746, 747, 748, 749, 750, 751] (by decide +kernel) (by decide +kernel)
set_option maxRecDepth 20000 in
theorem gL_law_X4_row : GoodIn wsL_law (wsV RL 88 RX4 yX4_row wsX4_row) := goodIn_app (goodIn_of _ (by decide +kernel)) ggL_law_X4_row
set_option maxHeartbeats 4000000 in
set_option maxRecDepth 100000 in
theorem lc_row {p : Program} {l : Launch} {e : Env} {s : State} {m : MethodId} {below : List Frame} {meth : Method} {c : Code} {dC : Nat → ClassId} {dI : Nat → Nat → Nat} {cI cC : ClassId} {sk : (Nat → Nat) × (Nat → Nat)} {b L : Nat} {xs : Nat → Int32} {f g : Nat → Nat} (B : LB p s m c dC dI cI cC sk b L xs) {i : Nat} (hi : i + 4 ≤ L) {x : XT} {w : MT} (hI : INV x w) {H : Heap} {locs : List Loc} {ls : Array Slot} (hP : va_P (dC, dI) vwCl (XW cI cC f x ++ MW cI cC g w) H) (hD : va_D (AW s) (XW cI cC f x ++ MW cI cC g w)) (hS : va_S (AW s) s.heap H locs) (hl : lv_has ls 4 [(0, .ref b), (1, .ref (f 0)), (2, .ref (g 0)), (3, .int (nI i))]) (kk : ∀ (x : XT) (w : MT) (H : Heap) (locs : List Loc), INV x w → va_P (dC, dI) vwCl (XW cI cC f x ++ MW cI cC g w) H → va_D (AW s) (XW cI cC f x ++ MW cI cC g w) → va_S (AW s) s.heap H locs → W p l e room_1 s m #[Value.ref b] below meth c H locs 43 4025 (lw_Z below #[Value.ref b] s) (F0 m 860 ls [])) : W p l e room_1 s m #[Value.ref b] below meth c H locs 43 4025 (lw_Z below #[Value.ref b] s) (F0 m 653 ls []) := by
  obtain ⟨hx, hb, hml, hown, hts, hX, hbl, hL, hE, hK⟩ := B
  have hA : ∀ q, s.heap.size ≤ q → AW s q := fun _ h => h
  have hbA : ¬ AW s b := Nat.not_le.mpr hbl
  have h_in1 : vp_in (nI i + (1 : Int32)) L := by rw [show nI i + (1 : Int32) = nI (i + 1) from nI_add i 1]; exact vp_in_nI (by omega) (by omega)
  obtain ⟨z, x', w', hI', hcx, hcm⟩ := k_row l dC dI cI cC sk f g (xs ((nI i + (1 : Int32))).toNatClampNeg) hI
  refine lv_aload_n hx hb dL_law_653 rfl (lv_at hl 1 rfl) ?_
  refine lv_aload_n hx hb dL_law_654 rfl (lv_at hl 0 rfl) ?_
  refine lv_iload_n hx hb dL_law_655 rfl (lv_at hl 3 rfl) ?_
  refine lv_iconst (v := (1 : Int32)) hx hb dL_law_656 (by decide) ?_
  refine lv_iadd hx hb dL_law_657 ?_
  refine va_sld hx hb hX hbl hbA hS h_in1 dL_law_658 ?_
  refine lawX (cc := code) ⟨hx, hb, hml, hown, hts⟩ hE hK hA hP hD hS hcx (cwV 1 hts gL_law_X3_row rfl rfl rfl (by decide +kernel) ⟨Nat.le_of_ble_eq_true rfl, Nat.le_of_ble_eq_true rfl⟩) (As := [.int (xs ((nI i + (1 : Int32))).toNatClampNeg)]) (rest := []) rfl hl.1 rfl (Nat.le_of_ble_eq_true rfl) dL_law_659 ⟨Nat.le_refl _, Nat.le_refl _⟩ (fun H locs hP hD hS => ?_)
  refine lv_aload_n hx hb dL_law_662 rfl (lv_at hl 2 rfl) ?_
  refine lv_aload_n hx hb dL_law_663 rfl (lv_at hl 0 rfl) ?_
  refine lv_iload_n hx hb dL_law_664 rfl (lv_at hl 3 rfl) ?_
  refine lv_iconst (v := (1 : Int32)) hx hb dL_law_665 (by decide) ?_
  refine lv_iadd hx hb dL_law_666 ?_
  refine va_sld hx hb hX hbl hbA hS h_in1 dL_law_667 ?_
  refine lawM (cc := code) ⟨hx, hb, hml, hown, hts⟩ hE hK hA hP hD hS hcm (cwV 1 hts gL_law_X4_row rfl rfl rfl (by decide +kernel) ⟨Nat.le_of_ble_eq_true rfl, Nat.le_of_ble_eq_true rfl⟩) (As := [.int (xs ((nI i + (1 : Int32))).toNatClampNeg)]) (rest := [.int z]) rfl hl.1 rfl (Nat.le_of_ble_eq_true rfl) dL_law_668 ⟨Nat.le_refl _, Nat.le_refl _⟩ (fun H locs hP hD hS => ?_)
  refine lv_icmp_eq (tgt := 860) hx hb dL_law_671 (by decide) (fun _ => ?_) (fun c9 => absurd rfl c9)
  exact kk x' w' H locs hI' hP hD hS
set_option maxRecDepth 20000 in
theorem ggL_law_X3_fitting : GoodIn wsL_law wsX3_fitting := goodIn_r _ [604, 78, 79, 80, 2, 81, 28, 605, 606, 607, 608, 595, 27, 609, 300, 19, 301, 302, 303, 304, 305, 407, 216, 217, 715, 716, 717, 718, 719, 720, 721, 722, 723] (by decide +kernel) (by decide +kernel)
set_option maxRecDepth 20000 in
theorem gL_law_X3_fitting : GoodIn wsL_law (wsV RL 89 RX3 yX3_fitting wsX3_fitting) := goodIn_app (goodIn_of _ (by decide +kernel)) ggL_law_X3_fitting
set_option maxRecDepth 20000 in
theorem ggL_law_X4_fitting : GoodIn wsL_law wsX4_fitting := goodIn_r _ [613, 243, 244, 5, 245, 95, 96, 97, 98, 55, 614, 615, 616, 617, 600, 70, 315, 316, 317, 318, 319, 320, 724, 725, 726, 727, 728, 729, 730, 731, 732, 733, 734, 735, 736, 737, 738, 739, 740, 741, 742, 743, 744, 745, 746, 747, 748, 749, 750, 751] (by decide +kernel) (by decide +kernel)
set_option maxRecDepth 20000 in
theorem gL_law_X4_fitting : GoodIn wsL_law (wsV RL 92 RX4 yX4_fitting wsX4_fitting) := goodIn_app (goodIn_of _ (by decide +kernel)) ggL_law_X4_fitting
set_option maxHeartbeats 4000000 in
set_option maxRecDepth 100000 in
theorem lc_fitting {p : Program} {l : Launch} {e : Env} {s : State} {m : MethodId} {below : List Frame} {meth : Method} {c : Code} {dC : Nat → ClassId} {dI : Nat → Nat → Nat} {cI cC : ClassId} {sk : (Nat → Nat) × (Nat → Nat)} {b L : Nat} {xs : Nat → Int32} {f g : Nat → Nat} (B : LB p s m c dC dI cI cC sk b L xs) {i : Nat} (hi : i + 4 ≤ L) {x : XT} {w : MT} (hI : INV x w) {H : Heap} {locs : List Loc} {ls : Array Slot} (hP : va_P (dC, dI) vwCl (XW cI cC f x ++ MW cI cC g w) H) (hD : va_D (AW s) (XW cI cC f x ++ MW cI cC g w)) (hS : va_S (AW s) s.heap H locs) (hl : lv_has ls 4 [(0, .ref b), (1, .ref (f 0)), (2, .ref (g 0)), (3, .int (nI i))]) (kk : ∀ (x : XT) (w : MT) (H : Heap) (locs : List Loc), INV x w → va_P (dC, dI) vwCl (XW cI cC f x ++ MW cI cC g w) H → va_D (AW s) (XW cI cC f x ++ MW cI cC g w) → va_S (AW s) s.heap H locs → W p l e room_1 s m #[Value.ref b] below meth c H locs 43 4025 (lw_Z below #[Value.ref b] s) (F0 m 860 ls [])) : W p l e room_1 s m #[Value.ref b] below meth c H locs 43 4025 (lw_Z below #[Value.ref b] s) (F0 m 676 ls []) := by
  obtain ⟨hx, hb, hml, hown, hts, hX, hbl, hL, hE, hK⟩ := B
  have hA : ∀ q, s.heap.size ≤ q → AW s q := fun _ h => h
  have hbA : ¬ AW s b := Nat.not_le.mpr hbl
  have h_in1 : vp_in (nI i + (1 : Int32)) L := by rw [show nI i + (1 : Int32) = nI (i + 1) from nI_add i 1]; exact vp_in_nI (by omega) (by omega)
  obtain ⟨z, x', w', hI', hcx, hcm⟩ := k_fitting l dC dI cI cC sk f g (xs ((nI i + (1 : Int32))).toNatClampNeg) hI
  refine lv_aload_n hx hb dL_law_676 rfl (lv_at hl 1 rfl) ?_
  refine lv_aload_n hx hb dL_law_677 rfl (lv_at hl 0 rfl) ?_
  refine lv_iload_n hx hb dL_law_678 rfl (lv_at hl 3 rfl) ?_
  refine lv_iconst (v := (1 : Int32)) hx hb dL_law_679 (by decide) ?_
  refine lv_iadd hx hb dL_law_680 ?_
  refine va_sld hx hb hX hbl hbA hS h_in1 dL_law_681 ?_
  refine lawX (cc := code) ⟨hx, hb, hml, hown, hts⟩ hE hK hA hP hD hS hcx (cwV 1 hts gL_law_X3_fitting rfl rfl rfl (by decide +kernel) ⟨Nat.le_of_ble_eq_true rfl, Nat.le_of_ble_eq_true rfl⟩) (As := [.int (xs ((nI i + (1 : Int32))).toNatClampNeg)]) (rest := []) rfl hl.1 rfl (Nat.le_of_ble_eq_true rfl) dL_law_682 ⟨Nat.le_refl _, Nat.le_refl _⟩ (fun H locs hP hD hS => ?_)
  refine lv_aload_n hx hb dL_law_685 rfl (lv_at hl 2 rfl) ?_
  refine lv_aload_n hx hb dL_law_686 rfl (lv_at hl 0 rfl) ?_
  refine lv_iload_n hx hb dL_law_687 rfl (lv_at hl 3 rfl) ?_
  refine lv_iconst (v := (1 : Int32)) hx hb dL_law_688 (by decide) ?_
  refine lv_iadd hx hb dL_law_689 ?_
  refine va_sld hx hb hX hbl hbA hS h_in1 dL_law_690 ?_
  refine lawM (cc := code) ⟨hx, hb, hml, hown, hts⟩ hE hK hA hP hD hS hcm (cwV 1 hts gL_law_X4_fitting rfl rfl rfl (by decide +kernel) ⟨Nat.le_of_ble_eq_true rfl, Nat.le_of_ble_eq_true rfl⟩) (As := [.int (xs ((nI i + (1 : Int32))).toNatClampNeg)]) (rest := [.int z]) rfl hl.1 rfl (Nat.le_of_ble_eq_true rfl) dL_law_691 ⟨Nat.le_refl _, Nat.le_refl _⟩ (fun H locs hP hD hS => ?_)
  refine lv_icmp_eq (tgt := 860) hx hb dL_law_694 (by decide) (fun _ => ?_) (fun c9 => absurd rfl c9)
  exact kk x' w' H locs hI' hP hD hS
set_option maxRecDepth 20000 in
theorem ggL_law_X3_judge : GoodIn wsL_law wsX3_judge := goodIn_r _ [621, 15, 27, 595, 404, 405, 2, 406, 407, 216, 217, 75, 76, 77, 78, 79, 80, 81, 28, 352, 353, 354, 14, 355, 356, 357, 358, 498, 412, 413, 622, 623, 624, 625, 626, 33, 414, 360, 361, 362, 363, 34, 35, 364, 193, 194, 19, 195, 41, 196, 197, 198, 199, 107, 365, 296, 297, 298, 40, 42, 43, 299, 300, 301, 302, 303, 304, 305, 366, 367, 326, 327, 328, 44, 329, 330, 214, 331, 627, 628, 629, 630, 631, 419, 420, 421, 422, 423, 424, 425, 426, 427, 428, 429, 430, 431, 432, 433, 373, 374, 375, 434, 369, 370, 371, 372, 213, 215, 435, 436, 437, 438, 715, 716, 717, 718, 719, 720, 721, 722, 723, 752, 753, 754, 755, 756, 757, 758, 759, 760, 761, 762, 763, 764, 765, 766, 767, 768] (by decide +kernel) (by decide +kernel)
set_option maxRecDepth 20000 in
theorem gL_law_X3_judge : GoodIn wsL_law (wsV RL 93 RX3 yX3_judge wsX3_judge) := goodIn_app (goodIn_of _ (by decide +kernel)) ggL_law_X3_judge
set_option maxRecDepth 20000 in
theorem ggL_law_X4_judge : GoodIn wsL_law wsX4_judge := goodIn_r _ [635, 443, 444, 5, 445, 446, 447, 448, 243, 244, 245, 92, 93, 94, 95, 96, 97, 98, 55, 636, 637, 638, 639, 640, 600, 70, 253, 641, 642, 643, 644, 457, 458, 459, 460, 461, 462, 463, 464, 465, 336, 337, 338, 339, 60, 56, 384, 385, 386, 318, 319, 320, 310, 311, 312, 313, 314, 58, 59, 315, 316, 317, 466, 467, 468, 469, 252, 57, 61, 380, 381, 382, 383, 724, 725, 726, 727, 728, 729, 730, 731, 732, 733, 734, 735, 736, 737, 738, 739, 740, 741, 742, 743, 744, 745, 746, 747, 748, 749, 750, 751] (by decide +kernel) (by decide +kernel)
set_option maxRecDepth 20000 in
theorem gL_law_X4_judge : GoodIn wsL_law (wsV RL 96 RX4 yX4_judge wsX4_judge) := goodIn_app (goodIn_of _ (by decide +kernel)) ggL_law_X4_judge
set_option maxHeartbeats 4000000 in
set_option maxRecDepth 100000 in
theorem lc_judge {p : Program} {l : Launch} {e : Env} {s : State} {m : MethodId} {below : List Frame} {meth : Method} {c : Code} {dC : Nat → ClassId} {dI : Nat → Nat → Nat} {cI cC : ClassId} {sk : (Nat → Nat) × (Nat → Nat)} {b L : Nat} {xs : Nat → Int32} {f g : Nat → Nat} (B : LB p s m c dC dI cI cC sk b L xs) {i : Nat} (hi : i + 4 ≤ L) {x : XT} {w : MT} (hI : INV x w) {H : Heap} {locs : List Loc} {ls : Array Slot} (hP : va_P (dC, dI) vwCl (XW cI cC f x ++ MW cI cC g w) H) (hD : va_D (AW s) (XW cI cC f x ++ MW cI cC g w)) (hS : va_S (AW s) s.heap H locs) (hl : lv_has ls 4 [(0, .ref b), (1, .ref (f 0)), (2, .ref (g 0)), (3, .int (nI i))]) (kk : ∀ (x : XT) (w : MT) (H : Heap) (locs : List Loc), INV x w → va_P (dC, dI) vwCl (XW cI cC f x ++ MW cI cC g w) H → va_D (AW s) (XW cI cC f x ++ MW cI cC g w) → va_S (AW s) s.heap H locs → W p l e room_1 s m #[Value.ref b] below meth c H locs 43 4025 (lw_Z below #[Value.ref b] s) (F0 m 860 ls [])) : W p l e room_1 s m #[Value.ref b] below meth c H locs 43 4025 (lw_Z below #[Value.ref b] s) (F0 m 699 ls []) := by
  obtain ⟨hx, hb, hml, hown, hts, hX, hbl, hL, hE, hK⟩ := B
  have hA : ∀ q, s.heap.size ≤ q → AW s q := fun _ h => h
  have hbA : ¬ AW s b := Nat.not_le.mpr hbl
  have h_in1 : vp_in (nI i + (1 : Int32)) L := by rw [show nI i + (1 : Int32) = nI (i + 1) from nI_add i 1]; exact vp_in_nI (by omega) (by omega)
  have h_in2 : vp_in (nI i + (2 : Int32)) L := by rw [show nI i + (2 : Int32) = nI (i + 2) from nI_add i 2]; exact vp_in_nI (by omega) (by omega)
  obtain ⟨z, x', w', hI', hcx, hcm⟩ := k_judge l dC dI cI cC sk f g (xs ((nI i + (1 : Int32))).toNatClampNeg) (xs ((nI i + (2 : Int32))).toNatClampNeg) hI
  refine lv_aload_n hx hb dL_law_699 rfl (lv_at hl 1 rfl) ?_
  refine lv_aload_n hx hb dL_law_700 rfl (lv_at hl 0 rfl) ?_
  refine lv_iload_n hx hb dL_law_701 rfl (lv_at hl 3 rfl) ?_
  refine lv_iconst (v := (1 : Int32)) hx hb dL_law_702 (by decide) ?_
  refine lv_iadd hx hb dL_law_703 ?_
  refine va_sld hx hb hX hbl hbA hS h_in1 dL_law_704 ?_
  refine lv_aload_n hx hb dL_law_705 rfl (lv_at hl 0 rfl) ?_
  refine lv_iload_n hx hb dL_law_706 rfl (lv_at hl 3 rfl) ?_
  refine lv_iconst (v := (2 : Int32)) hx hb dL_law_707 (by decide) ?_
  refine lv_iadd hx hb dL_law_708 ?_
  refine va_sld hx hb hX hbl hbA hS h_in2 dL_law_709 ?_
  refine lawX (cc := code) ⟨hx, hb, hml, hown, hts⟩ hE hK hA hP hD hS hcx (cwV 2 hts gL_law_X3_judge rfl rfl rfl (by decide +kernel) ⟨Nat.le_of_ble_eq_true rfl, Nat.le_of_ble_eq_true rfl⟩) (As := [.int (xs ((nI i + (1 : Int32))).toNatClampNeg), .int (xs ((nI i + (2 : Int32))).toNatClampNeg)]) (rest := []) rfl hl.1 rfl (Nat.le_of_ble_eq_true rfl) dL_law_710 ⟨Nat.le_refl _, Nat.le_refl _⟩ (fun H locs hP hD hS => ?_)
  refine lv_aload_n hx hb dL_law_713 rfl (lv_at hl 2 rfl) ?_
  refine lv_aload_n hx hb dL_law_714 rfl (lv_at hl 0 rfl) ?_
  refine lv_iload_n hx hb dL_law_715 rfl (lv_at hl 3 rfl) ?_
  refine lv_iconst (v := (1 : Int32)) hx hb dL_law_716 (by decide) ?_
  refine lv_iadd hx hb dL_law_717 ?_
  refine va_sld hx hb hX hbl hbA hS h_in1 dL_law_718 ?_
  refine lv_aload_n hx hb dL_law_719 rfl (lv_at hl 0 rfl) ?_
  refine lv_iload_n hx hb dL_law_720 rfl (lv_at hl 3 rfl) ?_
  refine lv_iconst (v := (2 : Int32)) hx hb dL_law_721 (by decide) ?_
  refine lv_iadd hx hb dL_law_722 ?_
  refine va_sld hx hb hX hbl hbA hS h_in2 dL_law_723 ?_
  refine lawM (cc := code) ⟨hx, hb, hml, hown, hts⟩ hE hK hA hP hD hS hcm (cwV 2 hts gL_law_X4_judge rfl rfl rfl (by decide +kernel) ⟨Nat.le_of_ble_eq_true rfl, Nat.le_of_ble_eq_true rfl⟩) (As := [.int (xs ((nI i + (1 : Int32))).toNatClampNeg), .int (xs ((nI i + (2 : Int32))).toNatClampNeg)]) (rest := [.int z]) rfl hl.1 rfl (Nat.le_of_ble_eq_true rfl) dL_law_724 ⟨Nat.le_refl _, Nat.le_refl _⟩ (fun H locs hP hD hS => ?_)
  refine lv_icmp_eq (tgt := 860) hx hb dL_law_727 (by decide) (fun _ => ?_) (fun c9 => absurd rfl c9)
  exact kk x' w' H locs hI' hP hD hS
