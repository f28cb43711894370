set_option maxRecDepth 20000 in
theorem ggL_law_X3_pass : GoodIn wsL_law wsX3_pass := goodIn_r _ [343, 16, 75, 76, 2, 77, 78, 79, 80, 81, 28, 715, 716, 717, 718, 719, 720, 721, 722, 723, 761, 762, 763, 764, 765, 766, 767, 768] (by decide +kernel) (by decide +kernel)
set_option maxRecDepth 20000 in
theorem gL_law_X3_pass : GoodIn wsL_law (wsV RL 36 RX3 yX3_pass wsX3_pass) := goodIn_app (goodIn_of _ (by decide +kernel)) ggL_law_X3_pass
set_option maxRecDepth 20000 in
theorem ggL_law_X4_pass : GoodIn wsL_law wsX4_pass := goodIn_r _ [347, 253, 92, 93, 5, 94, 95, 96, 97, 98, 55, 724, 725, 726, 727, 728, 729, 730, 731, 732, 733, 734, 735, 736, 737, 738, 739, 740, 741, 742, 743, 744, 745, 746, 747, 748, 749, 750, 751] (by decide +kernel) (by decide +kernel)
set_option maxRecDepth 20000 in
theorem gL_law_X4_pass : GoodIn wsL_law (wsV RL 39 RX4 yX4_pass wsX4_pass) := goodIn_app (goodIn_of _ (by decide +kernel)) ggL_law_X4_pass
set_option maxHeartbeats 4000000 in
set_option maxRecDepth 100000 in
theorem lc_pass {p : Program} {l : Launch} {e : Env} {s : State} {m : MethodId} {below : List Frame} {meth : Method} {c : Code} {dC : Nat → ClassId} {dI : Nat → Nat → Nat} {cI cC : ClassId} {sk : (Nat → Nat) × (Nat → Nat)} {b L : Nat} {xs : Nat → Int32} {f g : Nat → Nat} (B : LB p s m c dC dI cI cC sk b L xs) {i : Nat} (hi : i + 4 ≤ L) {x : XT} {w : MT} (hI : INV x w) {H : Heap} {locs : List Loc} {ls : Array Slot} (hP : va_P (dC, dI) vwCl (XW cI cC f x ++ MW cI cC g w) H) (hD : va_D (AW s) (XW cI cC f x ++ MW cI cC g w)) (hS : va_S (AW s) s.heap H locs) (hl : lv_has ls 4 [(0, .ref b), (1, .ref (f 0)), (2, .ref (g 0)), (3, .int (nI i))]) (kk : ∀ (x : XT) (w : MT) (H : Heap) (locs : List Loc), INV x w → va_P (dC, dI) vwCl (XW cI cC f x ++ MW cI cC g w) H → va_D (AW s) (XW cI cC f x ++ MW cI cC g w) → va_S (AW s) s.heap H locs → W p l e room_1 s m #[Value.ref b] below meth c H locs 43 4025 (lw_Z below #[Value.ref b] s) (F0 m 860 ls [])) : W p l e room_1 s m #[Value.ref b] below meth c H locs 43 4025 (lw_Z below #[Value.ref b] s) (F0 m 287 ls []) := by
  obtain ⟨hx, hb, hml, hown, hts, hX, hbl, hL, hE, hK⟩ := B
  have hA : ∀ q, s.heap.size ≤ q → AW s q := fun _ h => h
  have hbA : ¬ AW s b := Nat.not_le.mpr hbl
  have h_in1 : vp_in (nI i + (1 : Int32)) L := by rw [show nI i + (1 : Int32) = nI (i + 1) from nI_add i 1]; exact vp_in_nI (by omega) (by omega)
  obtain ⟨z, x', w', hI', hcx, hcm⟩ := k_pass l dC dI cI cC sk f g (xs ((nI i + (1 : Int32))).toNatClampNeg) hI
  refine lv_aload_n hx hb dL_law_287 rfl (lv_at hl 1 rfl) ?_
  refine lv_aload_n hx hb dL_law_288 rfl (lv_at hl 0 rfl) ?_
  refine lv_iload_n hx hb dL_law_289 rfl (lv_at hl 3 rfl) ?_
  refine lv_iconst (v := (1 : Int32)) hx hb dL_law_290 (by decide) ?_
  refine lv_iadd hx hb dL_law_291 ?_
  refine va_sld hx hb hX hbl hbA hS h_in1 dL_law_292 ?_
  refine lawX (cc := code) ⟨hx, hb, hml, hown, hts⟩ hE hK hA hP hD hS hcx (cwV 1 hts gL_law_X3_pass rfl rfl rfl (by decide +kernel) ⟨Nat.le_of_ble_eq_true rfl, Nat.le_of_ble_eq_true rfl⟩) (As := [.int (xs ((nI i + (1 : Int32))).toNatClampNeg)]) (rest := []) rfl hl.1 rfl (Nat.le_of_ble_eq_true rfl) dL_law_293 ⟨Nat.le_refl _, Nat.le_refl _⟩ (fun H locs hP hD hS => ?_)
  refine lv_aload_n hx hb dL_law_296 rfl (lv_at hl 2 rfl) ?_
  refine lv_aload_n hx hb dL_law_297 rfl (lv_at hl 0 rfl) ?_
  refine lv_iload_n hx hb dL_law_298 rfl (lv_at hl 3 rfl) ?_
  refine lv_iconst (v := (1 : Int32)) hx hb dL_law_299 (by decide) ?_
  refine lv_iadd hx hb dL_law_300 ?_
  refine va_sld hx hb hX hbl hbA hS h_in1 dL_law_301 ?_
  refine lawM (cc := code) ⟨hx, hb, hml, hown, hts⟩ hE hK hA hP hD hS hcm (cwV 1 hts gL_law_X4_pass rfl rfl rfl (by decide +kernel) ⟨Nat.le_of_ble_eq_true rfl, Nat.le_of_ble_eq_true rfl⟩) (As := [.int (xs ((nI i + (1 : Int32))).toNatClampNeg)]) (rest := [.int z]) rfl hl.1 rfl (Nat.le_of_ble_eq_true rfl) dL_law_302 ⟨Nat.le_refl _, Nat.le_refl _⟩ (fun H locs hP hD hS => ?_)
  refine lv_icmp_eq (tgt := 860) hx hb dL_law_305 (by decide) (fun _ => ?_) (fun c9 => absurd rfl c9)
  exact kk x' w' H locs hI' hP hD hS
set_option maxRecDepth 20000 in
theorem ggL_law_X3_next : GoodIn wsL_law wsX3_next := goodIn_r _ [351, 16, 15, 274, 197, 198, 19, 199, 107, 78, 79, 80, 2, 81, 28, 352, 353, 354, 14, 355, 356, 357, 358, 359, 360, 361, 362, 363, 34, 33, 35, 364, 193, 194, 195, 41, 196, 365, 296, 297, 298, 40, 42, 43, 299, 300, 301, 302, 303, 304, 305, 366, 367, 326, 327, 328, 44, 329, 330, 214, 331, 368, 369, 370, 371, 372, 213, 215, 373, 374, 375, 715, 716, 717, 718, 719, 720, 721, 722, 723, 761, 762, 763, 764, 765, 766, 767, 768, 752, 753, 754, 755, 756, 757, 758, 759, 760] (by decide +kernel) (by decide +kernel)
set_option maxRecDepth 20000 in
theorem gL_law_X3_next : GoodIn wsL_law (wsV RL 40 RX3 yX3_next wsX3_next) := goodIn_app (goodIn_of _ (by decide +kernel)) ggL_law_X3_next
set_option maxRecDepth 20000 in
theorem ggL_law_X4_next : GoodIn wsL_law wsX4_next := goodIn_r _ [379, 252, 253, 283, 284, 285, 5, 286, 95, 96, 97, 98, 55, 380, 381, 382, 383, 57, 310, 311, 312, 313, 314, 56, 58, 59, 315, 316, 317, 318, 319, 320, 384, 385, 386, 724, 725, 726, 727, 728, 729, 730, 731, 732, 733, 734, 735, 736, 737, 738, 739, 740, 741, 742, 743, 744, 745, 746, 747, 748, 749, 750, 751] (by decide +kernel) (by decide +kernel)
set_option maxRecDepth 20000 in
theorem gL_law_X4_next : GoodIn wsL_law (wsV RL 43 RX4 yX4_next wsX4_next) := goodIn_app (goodIn_of _ (by decide +kernel)) ggL_law_X4_next
set_option maxHeartbeats 4000000 in
set_option maxRecDepth 100000 in
theorem lc_next {p : Program} {l : Launch} {e : Env} {s : State} {m : MethodId} {below : List Frame} {meth : Method} {c : Code} {dC : Nat → ClassId} {dI : Nat → Nat → Nat} {cI cC : ClassId} {sk : (Nat → Nat) × (Nat → Nat)} {b L : Nat} {xs : Nat → Int32} {f g : Nat → Nat} (B : LB p s m c dC dI cI cC sk b L xs) {i : Nat} (hi : i + 4 ≤ L) {x : XT} {w : MT} (hI : INV x w) {H : Heap} {locs : List Loc} {ls : Array Slot} (hP : va_P (dC, dI) vwCl (XW cI cC f x ++ MW cI cC g w) H) (hD : va_D (AW s) (XW cI cC f x ++ MW cI cC g w)) (hS : va_S (AW s) s.heap H locs) (hl : lv_has ls 4 [(0, .ref b), (1, .ref (f 0)), (2, .ref (g 0)), (3, .int (nI i))]) (kk : ∀ (x : XT) (w : MT) (H : Heap) (locs : List Loc), INV x w → va_P (dC, dI) vwCl (XW cI cC f x ++ MW cI cC g w) H → va_D (AW s) (XW cI cC f x ++ MW cI cC g w) → va_S (AW s) s.heap H locs → W p l e room_1 s m #[Value.ref b] below meth c H locs 43 4025 (lw_Z below #[Value.ref b] s) (F0 m 860 ls [])) : W p l e room_1 s m #[Value.ref b] below meth c H locs 43 4025 (lw_Z below #[Value.ref b] s) (F0 m 310 ls []) := by
  obtain ⟨hx, hb, hml, hown, hts, hX, hbl, hL, hE, hK⟩ := B
  have hA : ∀ q, s.heap.size ≤ q → AW s q := fun _ h => h
  have hbA : ¬ AW s b := Nat.not_le.mpr hbl
  have h_in1 : vp_in (nI i + (1 : Int32)) L := by rw [show nI i + (1 : Int32) = nI (i + 1) from nI_add i 1]; exact vp_in_nI (by omega) (by omega)
  obtain ⟨z, x', w', hI', hcx, hcm⟩ := k_next l dC dI cI cC sk f g (xs ((nI i + (1 : Int32))).toNatClampNeg) hI
  refine lv_aload_n hx hb dL_law_310 rfl (lv_at hl 1 rfl) ?_
  refine lv_aload_n hx hb dL_law_311 rfl (lv_at hl 0 rfl) ?_
  refine lv_iload_n hx hb dL_law_312 rfl (lv_at hl 3 rfl) ?_
  refine lv_iconst (v := (1 : Int32)) hx hb dL_law_313 (by decide) ?_
  refine lv_iadd hx hb dL_law_314 ?_
  refine va_sld hx hb hX hbl hbA hS h_in1 dL_law_315 ?_
  refine lawX (cc := code) ⟨hx, hb, hml, hown, hts⟩ hE hK hA hP hD hS hcx (cwV 1 hts gL_law_X3_next rfl rfl rfl (by decide +kernel) ⟨Nat.le_of_ble_eq_true rfl, Nat.le_of_ble_eq_true rfl⟩) (As := [.int (xs ((nI i + (1 : Int32))).toNatClampNeg)]) (rest := []) rfl hl.1 rfl (Nat.le_of_ble_eq_true rfl) dL_law_316 ⟨Nat.le_refl _, Nat.le_refl _⟩ (fun H locs hP hD hS => ?_)
  refine lv_aload_n hx hb dL_law_319 rfl (lv_at hl 2 rfl) ?_
  refine lv_aload_n hx hb dL_law_320 rfl (lv_at hl 0 rfl) ?_
  refine lv_iload_n hx hb dL_law_321 rfl (lv_at hl 3 rfl) ?_
  refine lv_iconst (v := (1 : Int32)) hx hb dL_law_322 (by decide) ?_
  refine lv_iadd hx hb dL_law_323 ?_
  refine va_sld hx hb hX hbl hbA hS h_in1 dL_law_324 ?_
  refine lawM (cc := code) ⟨hx, hb, hml, hown, hts⟩ hE hK hA hP hD hS hcm (cwV 1 hts gL_law_X4_next rfl rfl rfl (by decide +kernel) ⟨Nat.le_of_ble_eq_true rfl, Nat.le_of_ble_eq_true rfl⟩) (As := [.int (xs ((nI i + (1 : Int32))).toNatClampNeg)]) (rest := [.int z]) rfl hl.1 rfl (Nat.le_of_ble_eq_true rfl) dL_law_325 ⟨Nat.le_refl _, Nat.le_refl _⟩ (fun H locs hP hD hS => ?_)
  refine lv_icmp_eq (tgt := 860) hx hb dL_law_328 (by decide) (fun _ => ?_) (fun c9 => absurd rfl c9)
  exact kk x' w' H locs hI' hP hD hS
set_option maxRecDepth 20000 in
theorem ggL_law_X3_crowd : GoodIn wsL_law wsX3_crowd := goodIn_r _ [390, 16, 75, 76, 2, 77, 78, 79, 80, 81, 28, 391, 392, 393, 19, 394, 107, 192, 193, 194, 195, 41, 196, 197, 198, 199, 395, 296, 297, 298, 40, 42, 43, 299, 300, 301, 302, 303, 304, 305, 715, 716, 717, 718, 719, 720, 721, 722, 723, 761, 762, 763, 764, 765, 766, 767, 768] (by decide +kernel) (by decide +kernel)
set_option maxRecDepth 20000 in
theorem gL_law_X3_crowd : GoodIn wsL_law (wsV RL 44 RX3 yX3_crowd wsX3_crowd) := goodIn_app (goodIn_of _ (by decide +kernel)) ggL_law_X3_crowd
set_option maxRecDepth 20000 in
theorem ggL_law_X4_crowd : GoodIn wsL_law wsX4_crowd := goodIn_r _ [399, 252, 57, 92, 93, 5, 94, 95, 96, 97, 98, 55, 310, 311, 312, 313, 314, 253, 56, 58, 59, 315, 316, 317, 318, 319, 320, 724, 725, 726, 727, 728, 729, 730, 731, 732, 733, 734, 735, 736, 737, 738, 739, 740, 741, 742, 743, 744, 745, 746, 747, 748, 749, 750, 751] (by decide +kernel) (by decide +kernel)
set_option maxRecDepth 20000 in
theorem gL_law_X4_crowd : GoodIn wsL_law (wsV RL 47 RX4 yX4_crowd wsX4_crowd) := goodIn_app (goodIn_of _ (by decide +kernel)) ggL_law_X4_crowd
set_option maxHeartbeats 4000000 in
set_option maxRecDepth 100000 in
theorem lc_crowd {p : Program} {l : Launch} {e : Env} {s : State} {m : MethodId} {below : List Frame} {meth : Method} {c : Code} {dC : Nat → ClassId} {dI : Nat → Nat → Nat} {cI cC : ClassId} {sk : (Nat → Nat) × (Nat → Nat)} {b L : Nat} {xs : Nat → Int32} {f g : Nat → Nat} (B : LB p s m c dC dI cI cC sk b L xs) {i : Nat} (hi : i + 4 ≤ L) {x : XT} {w : MT} (hI : INV x w) {H : Heap} {locs : List Loc} {ls : Array Slot} (hP : va_P (dC, dI) vwCl (XW cI cC f x ++ MW cI cC g w) H) (hD : va_D (AW s) (XW cI cC f x ++ MW cI cC g w)) (hS : va_S (AW s) s.heap H locs) (hl : lv_has ls 4 [(0, .ref b), (1, .ref (f 0)), (2, .ref (g 0)), (3, .int (nI i))]) (kk : ∀ (x : XT) (w : MT) (H : Heap) (locs : List Loc), INV x w → va_P (dC, dI) vwCl (XW cI cC f x ++ MW cI cC g w) H → va_D (AW s) (XW cI cC f x ++ MW cI cC g w) → va_S (AW s) s.heap H locs → W p l e room_1 s m #[Value.ref b] below meth c H locs 43 4025 (lw_Z below #[Value.ref b] s) (F0 m 860 ls [])) : W p l e room_1 s m #[Value.ref b] below meth c H locs 43 4025 (lw_Z below #[Value.ref b] s) (F0 m 333 ls []) := by
  obtain ⟨hx, hb, hml, hown, hts, hX, hbl, hL, hE, hK⟩ := B
  have hA : ∀ q, s.heap.size ≤ q → AW s q := fun _ h => h
  have hbA : ¬ AW s b := Nat.not_le.mpr hbl
  have h_in1 : vp_in (nI i + (1 : Int32)) L := by rw [show nI i + (1 : Int32) = nI (i + 1) from nI_add i 1]; exact vp_in_nI (by omega) (by omega)
  obtain ⟨z, x', w', hI', hcx, hcm⟩ := k_crowd l dC dI cI cC sk f g (xs ((nI i + (1 : Int32))).toNatClampNeg) hI
  refine lv_aload_n hx hb dL_law_333 rfl (lv_at hl 1 rfl) ?_
  refine lv_aload_n hx hb dL_law_334 rfl (lv_at hl 0 rfl) ?_
  refine lv_iload_n hx hb dL_law_335 rfl (lv_at hl 3 rfl) ?_
  refine lv_iconst (v := (1 : Int32)) hx hb dL_law_336 (by decide) ?_
  refine lv_iadd hx hb dL_law_337 ?_
  refine va_sld hx hb hX hbl hbA hS h_in1 dL_law_338 ?_
  refine lawX (cc := code) ⟨hx, hb, hml, hown, hts⟩ hE hK hA hP hD hS hcx (cwV 1 hts gL_law_X3_crowd rfl rfl rfl (by decide +kernel) ⟨Nat.le_of_ble_eq_true rfl, Nat.le_of_ble_eq_true rfl⟩) (As := [.int (xs ((nI i + (1 : Int32))).toNatClampNeg)]) (rest := []) rfl hl.1 rfl (Nat.le_of_ble_eq_true rfl) dL_law_339 ⟨Nat.le_refl _, Nat.le_refl _⟩ (fun H locs hP hD hS => ?_)
  refine lv_aload_n hx hb dL_law_342 rfl (lv_at hl 2 rfl) ?_
  refine lv_aload_n hx hb dL_law_343 rfl (lv_at hl 0 rfl) ?_
  refine lv_iload_n hx hb dL_law_344 rfl (lv_at hl 3 rfl) ?_
  refine lv_iconst (v := (1 : Int32)) hx hb dL_law_345 (by decide) ?_
  refine lv_iadd hx hb dL_law_346 ?_
  refine va_sld hx hb hX hbl hbA hS h_in1 dL_law_347 ?_
  refine lawM (cc := code) ⟨hx, hb, hml, hown, hts⟩ hE hK hA hP hD hS hcm (cwV 1 hts gL_law_X4_crowd rfl rfl rfl (by decide +kernel) ⟨Nat.le_of_ble_eq_true rfl, Nat.le_of_ble_eq_true rfl⟩) (As := [.int (xs ((nI i + (1 : Int32))).toNatClampNeg)]) (rest := [.int z]) rfl hl.1 rfl (Nat.le_of_ble_eq_true rfl) dL_law_348 ⟨Nat.le_refl _, Nat.le_refl _⟩ (fun H locs hP hD hS => ?_)
  refine lv_icmp_eq (tgt := 860) hx hb dL_law_351 (by decide) (fun _ => ?_) (fun c9 => absurd rfl c9)
  exact kk x' w' H locs hI' hP hD hS
set_option maxRecDepth 20000 in
theorem ggL_law_X3_soonest : GoodIn wsL_law wsX3_soonest := goodIn_r _ [403, 15, 16, 404, 405, 2, 406, 407, 216, 217, 75, 76, 77, 78, 79, 80, 81, 28, 352, 353, 354, 14, 355, 356, 357, 358, 408, 409, 410, 411, 412, 413, 414, 360, 361, 362, 363, 34, 33, 35, 364, 193, 194, 19, 195, 41, 196, 197, 198, 199, 107, 365, 296, 297, 298, 40, 42, 43, 299, 300, 301, 302, 303, 304, 305, 366, 367, 326, 327, 328, 44, 329, 330, 214, 331, 415, 416, 417, 418, 419, 420, 421, 422, 423, 424, 425, 426, 427, 428, 429, 430, 431, 432, 433, 373, 374, 375, 434, 369, 370, 371, 372, 213, 215, 435, 436, 437, 438, 715, 716, 717, 718, 719, 720, 721, 722, 723, 761, 762, 763, 764, 765, 766, 767, 768, 752, 753, 754, 755, 756, 757, 758, 759, 760] (by decide +kernel) (by decide +kernel)
set_option maxRecDepth 20000 in
theorem gL_law_X3_soonest : GoodIn wsL_law (wsV RL 48 RX3 yX3_soonest wsX3_soonest) := goodIn_app (goodIn_of _ (by decide +kernel)) ggL_law_X3_soonest
set_option maxRecDepth 20000 in
theorem ggL_law_X4_soonest : GoodIn wsL_law wsX4_soonest := goodIn_r _ [442, 253, 443, 444, 5, 445, 446, 447, 448, 243, 244, 245, 92, 93, 94, 95, 96, 97, 98, 55, 449, 450, 451, 452, 453, 454, 455, 456, 457, 458, 459, 460, 461, 462, 463, 464, 465, 336, 337, 338, 339, 60, 56, 384, 385, 386, 318, 319, 320, 466, 467, 468, 469, 252, 57, 61, 310, 311, 312, 313, 314, 58, 59, 315, 316, 317, 380, 381, 382, 383, 724, 725, 726, 727, 728, 729, 730, 731, 732, 733, 734, 735, 736, 737, 738, 739, 740, 741, 742, 743, 744, 745, 746, 747, 748, 749, 750, 751] (by decide +kernel) (by decide +kernel)
set_option maxRecDepth 20000 in
theorem gL_law_X4_soonest : GoodIn wsL_law (wsV RL 51 RX4 yX4_soonest wsX4_soonest) := goodIn_app (goodIn_of _ (by decide +kernel)) ggL_law_X4_soonest
set_option maxHeartbeats 4000000 in
set_option maxRecDepth 100000 in
theorem lc_soonest {p : Program} {l : Launch} {e : Env} {s : State} {m : MethodId} {below : List Frame} {meth : Method} {c : Code} {dC : Nat → ClassId} {dI : Nat → Nat → Nat} {cI cC : ClassId} {sk : (Nat → Nat) × (Nat → Nat)} {b L : Nat} {xs : Nat → Int32} {f g : Nat → Nat} (B : LB p s m c dC dI cI cC sk b L xs) {i : Nat} (hi : i + 4 ≤ L) {x : XT} {w : MT} (hI : INV x w) {H : Heap} {locs : List Loc} {ls : Array Slot} (hP : va_P (dC, dI) vwCl (XW cI cC f x ++ MW cI cC g w) H) (hD : va_D (AW s) (XW cI cC f x ++ MW cI cC g w)) (hS : va_S (AW s) s.heap H locs) (hl : lv_has ls 4 [(0, .ref b), (1, .ref (f 0)), (2, .ref (g 0)), (3, .int (nI i))]) (kk : ∀ (x : XT) (w : MT) (H : Heap) (locs : List Loc), INV x w → va_P (dC, dI) vwCl (XW cI cC f x ++ MW cI cC g w) H → va_D (AW s) (XW cI cC f x ++ MW cI cC g w) → va_S (AW s) s.heap H locs → W p l e room_1 s m #[Value.ref b] below meth c H locs 43 4025 (lw_Z below #[Value.ref b] s) (F0 m 860 ls [])) : W p l e room_1 s m #[Value.ref b] below meth c H locs 43 4025 (lw_Z below #[Value.ref b] s) (F0 m 356 ls []) := by
  obtain ⟨hx, hb, hml, hown, hts, hX, hbl, hL, hE, hK⟩ := B
  have hA : ∀ q, s.heap.size ≤ q → AW s q := fun _ h => h
  have hbA : ¬ AW s b := Nat.not_le.mpr hbl
  have h_in1 : vp_in (nI i + (1 : Int32)) L := by rw [show nI i + (1 : Int32) = nI (i + 1) from nI_add i 1]; exact vp_in_nI (by omega) (by omega)
  have h_in2 : vp_in (nI i + (2 : Int32)) L := by rw [show nI i + (2 : Int32) = nI (i + 2) from nI_add i 2]; exact vp_in_nI (by omega) (by omega)
  obtain ⟨z, x', w', hI', hcx, hcm⟩ := k_soonest l dC dI cI cC sk f g (xs ((nI i + (1 : Int32))).toNatClampNeg) (xs ((nI i + (2 : Int32))).toNatClampNeg) hI
  refine lv_aload_n hx hb dL_law_356 rfl (lv_at hl 1 rfl) ?_
  refine lv_aload_n hx hb dL_law_357 rfl (lv_at hl 0 rfl) ?_
  refine lv_iload_n hx hb dL_law_358 rfl (lv_at hl 3 rfl) ?_
  refine lv_iconst (v := (1 : Int32)) hx hb dL_law_359 (by decide) ?_
  refine lv_iadd hx hb dL_law_360 ?_
  refine va_sld hx hb hX hbl hbA hS h_in1 dL_law_361 ?_
  refine lv_aload_n hx hb dL_law_362 rfl (lv_at hl 0 rfl) ?_
  refine lv_iload_n hx hb dL_law_363 rfl (lv_at hl 3 rfl) ?_
  refine lv_iconst (v := (2 : Int32)) hx hb dL_law_364 (by decide) ?_
  refine lv_iadd hx hb dL_law_365 ?_
  refine va_sld hx hb hX hbl hbA hS h_in2 dL_law_366 ?_
  refine lawX (cc := code) ⟨hx, hb, hml, hown, hts⟩ hE hK hA hP hD hS hcx (cwV 2 hts gL_law_X3_soonest rfl rfl rfl (by decide +kernel) ⟨Nat.le_of_ble_eq_true rfl, Nat.le_of_ble_eq_true rfl⟩) (As := [.int (xs ((nI i + (1 : Int32))).toNatClampNeg), .int (xs ((nI i + (2 : Int32))).toNatClampNeg)]) (rest := []) rfl hl.1 rfl (Nat.le_of_ble_eq_true rfl) dL_law_367 ⟨Nat.le_refl _, Nat.le_refl _⟩ (fun H locs hP hD hS => ?_)
  refine lv_aload_n hx hb dL_law_370 rfl (lv_at hl 2 rfl) ?_
  refine lv_aload_n hx hb dL_law_371 rfl (lv_at hl 0 rfl) ?_
  refine lv_iload_n hx hb dL_law_372 rfl (lv_at hl 3 rfl) ?_
  refine lv_iconst (v := (1 : Int32)) hx hb dL_law_373 (by decide) ?_
  refine lv_iadd hx hb dL_law_374 ?_
  refine va_sld hx hb hX hbl hbA hS h_in1 dL_law_375 ?_
  refine lv_aload_n hx hb dL_law_376 rfl (lv_at hl 0 rfl) ?_
  refine lv_iload_n hx hb dL_law_377 rfl (lv_at hl 3 rfl) ?_
  refine lv_iconst (v := (2 : Int32)) hx hb dL_law_378 (by decide) ?_
  refine lv_iadd hx hb dL_law_379 ?_
  refine va_sld hx hb hX hbl hbA hS h_in2 dL_law_380 ?_
  refine lawM (cc := code) ⟨hx, hb, hml, hown, hts⟩ hE hK hA hP hD hS hcm (cwV 2 hts gL_law_X4_soonest rfl rfl rfl (by decide +kernel) ⟨Nat.le_of_ble_eq_true rfl, Nat.le_of_ble_eq_true rfl⟩) (As := [.int (xs ((nI i + (1 : Int32))).toNatClampNeg), .int (xs ((nI i + (2 : Int32))).toNatClampNeg)]) (rest := [.int z]) rfl hl.1 rfl (Nat.le_of_ble_eq_true rfl) dL_law_381 ⟨Nat.le_refl _, Nat.le_refl _⟩ (fun H locs hP hD hS => ?_)
  refine lv_icmp_eq (tgt := 860) hx hb dL_law_384 (by decide) (fun _ => ?_) (fun c9 => absurd rfl c9)
  exact kk x' w' H locs hI' hP hD hS
set_option maxRecDepth 20000 in
theorem ggL_law_X3_leaps : GoodIn wsL_law wsX3_leaps := goodIn_r _ [473, 15, 404, 405, 2, 406, 407, 216, 217, 75, 76, 77, 78, 79, 80, 81, 28, 352, 353, 354, 14, 355, 356, 357, 358, 474, 475, 476, 477, 36, 33, 412, 413, 414, 360, 361, 362, 363, 34, 35, 364, 193, 194, 19, 195, 41, 196, 197, 198, 199, 107, 365, 296, 297, 298, 40, 42, 43, 299, 300, 301, 302, 303, 304, 305, 366, 367, 326, 327, 328, 44, 329, 330, 214, 331, 415, 416, 417, 418, 419, 420, 421, 422, 423, 424, 425, 426, 427, 428, 429, 430, 431, 432, 433, 373, 374, 375, 434, 369, 370, 371, 372, 213, 215, 435, 436, 437, 438, 715, 716, 717, 718, 719, 720, 721, 722, 723, 752, 753, 754, 755, 756, 757, 758, 759, 760, 761, 762, 763, 764, 765, 766, 767, 768] (by decide +kernel) (by decide +kernel)
set_option maxRecDepth 20000 in
theorem gL_law_X3_leaps : GoodIn wsL_law (wsV RL 52 RX3 yX3_leaps wsX3_leaps) := goodIn_app (goodIn_of _ (by decide +kernel)) ggL_law_X3_leaps
set_option maxRecDepth 20000 in
theorem ggL_law_X4_leaps : GoodIn wsL_law wsX4_leaps := goodIn_r _ [481, 67, 253, 443, 444, 5, 445, 446, 447, 448, 243, 244, 245, 92, 93, 94, 95, 96, 97, 98, 55, 482, 483, 484, 485, 68, 457, 458, 459, 460, 461, 462, 463, 464, 465, 336, 337, 338, 339, 60, 56, 384, 385, 386, 318, 319, 320, 486, 487, 488, 489, 466, 467, 468, 469, 252, 57, 61, 310, 311, 312, 313, 314, 58, 59, 315, 316, 317, 380, 381, 382, 383, 724, 725, 726, 727, 728, 729, 730, 731, 732, 733, 734, 735, 736, 737, 738, 739, 740, 741, 742, 743, 744, 745, 746, 747, 748, 749, 750, 751] (by decide +kernel) (by decide +kernel)
set_option maxRecDepth 20000 in
theorem gL_law_X4_leaps : GoodIn wsL_law (wsV RL 55 RX4 yX4_leaps wsX4_leaps) := goodIn_app (goodIn_of _ (by decide +kernel)) ggL_law_X4_leaps
set_option maxHeartbeats 4000000 in
set_option maxRecDepth 100000 in
theorem lc_leaps {p : Program} {l : Launch} {e : Env} {s : State} {m : MethodId} {below : List Frame} {meth : Method} {c : Code} {dC : Nat → ClassId} {dI : Nat → Nat → Nat} {cI cC : ClassId} {sk : (Nat → Nat) × (Nat → Nat)} {b L : Nat} {xs : Nat → Int32} {f g : Nat → Nat} (B : LB p s m c dC dI cI cC sk b L xs) {i : Nat} (hi : i + 4 ≤ L) {x : XT} {w : MT} (hI : INV x w) {H : Heap} {locs : List Loc} {ls : Array Slot} (hP : va_P (dC, dI) vwCl (XW cI cC f x ++ MW cI cC g w) H) (hD : va_D (AW s) (XW cI cC f x ++ MW cI cC g w)) (hS : va_S (AW s) s.heap H locs) (hl : lv_has ls 4 [(0, .ref b), (1, .ref (f 0)), (2, .ref (g 0)), (3, .int (nI i))]) (kk : ∀ (x : XT) (w : MT) (H : Heap) (locs : List Loc), INV x w → va_P (dC, dI) vwCl (XW cI cC f x ++ MW cI cC g w) H → va_D (AW s) (XW cI cC f x ++ MW cI cC g w) → va_S (AW s) s.heap H locs → W p l e room_1 s m #[Value.ref b] below meth c H locs 43 4025 (lw_Z below #[Value.ref b] s) (F0 m 860 ls [])) : W p l e room_1 s m #[Value.ref b] below meth c H locs 43 4025 (lw_Z below #[Value.ref b] s) (F0 m 389 ls []) := by
  obtain ⟨hx, hb, hml, hown, hts, hX, hbl, hL, hE, hK⟩ := B
  have hA : ∀ q, s.heap.size ≤ q → AW s q := fun _ h => h
  have hbA : ¬ AW s b := Nat.not_le.mpr hbl
  have h_in1 : vp_in (nI i + (1 : Int32)) L := by rw [show nI i + (1 : Int32) = nI (i + 1) from nI_add i 1]; exact vp_in_nI (by omega) (by omega)
  have h_in2 : vp_in (nI i + (2 : Int32)) L := by rw [show nI i + (2 : Int32) = nI (i + 2) from nI_add i 2]; exact vp_in_nI (by omega) (by omega)
  obtain ⟨z, x', w', hI', hcx, hcm⟩ := k_leaps l dC dI cI cC sk f g (xs ((nI i + (1 : Int32))).toNatClampNeg) (xs ((nI i + (2 : Int32))).toNatClampNeg) hI
  refine lv_aload_n hx hb dL_law_389 rfl (lv_at hl 1 rfl) ?_
  refine lv_aload_n hx hb dL_law_390 rfl (lv_at hl 0 rfl) ?_
  refine lv_iload_n hx hb dL_law_391 rfl (lv_at hl 3 rfl) ?_
  refine lv_iconst (v := (1 : Int32)) hx hb dL_law_392 (by decide) ?_
  refine lv_iadd hx hb dL_law_393 ?_
  refine va_sld hx hb hX hbl hbA hS h_in1 dL_law_394 ?_
  refine lv_aload_n hx hb dL_law_395 rfl (lv_at hl 0 rfl) ?_
  refine lv_iload_n hx hb dL_law_396 rfl (lv_at hl 3 rfl) ?_
  refine lv_iconst (v := (2 : Int32)) hx hb dL_law_397 (by decide) ?_
  refine lv_iadd hx hb dL_law_398 ?_
  refine va_sld hx hb hX hbl hbA hS h_in2 dL_law_399 ?_
  refine lawX (cc := code) ⟨hx, hb, hml, hown, hts⟩ hE hK hA hP hD hS hcx (cwV 2 hts gL_law_X3_leaps rfl rfl rfl (by decide +kernel) ⟨Nat.le_of_ble_eq_true rfl, Nat.le_of_ble_eq_true rfl⟩) (As := [.int (xs ((nI i + (1 : Int32))).toNatClampNeg), .int (xs ((nI i + (2 : Int32))).toNatClampNeg)]) (rest := []) rfl hl.1 rfl (Nat.le_of_ble_eq_true rfl) dL_law_400 ⟨Nat.le_refl _, Nat.le_refl _⟩ (fun H locs hP hD hS => ?_)
  refine lv_aload_n hx hb dL_law_403 rfl (lv_at hl 2 rfl) ?_
  refine lv_aload_n hx hb dL_law_404 rfl (lv_at hl 0 rfl) ?_
  refine lv_iload_n hx hb dL_law_405 rfl (lv_at hl 3 rfl) ?_
  refine lv_iconst (v := (1 : Int32)) hx hb dL_law_406 (by decide) ?_
  refine lv_iadd hx hb dL_law_407 ?_
  refine va_sld hx hb hX hbl hbA hS h_in1 dL_law_408 ?_
  refine lv_aload_n hx hb dL_law_409 rfl (lv_at hl 0 rfl) ?_
  refine lv_iload_n hx hb dL_law_410 rfl (lv_at hl 3 rfl) ?_
  refine lv_iconst (v := (2 : Int32)) hx hb dL_law_411 (by decide) ?_
  refine lv_iadd hx hb dL_law_412 ?_
  refine va_sld hx hb hX hbl hbA hS h_in2 dL_law_413 ?_
  refine lawM (cc := code) ⟨hx, hb, hml, hown, hts⟩ hE hK hA hP hD hS hcm (cwV 2 hts gL_law_X4_leaps rfl rfl rfl (by decide +kernel) ⟨Nat.le_of_ble_eq_true rfl, Nat.le_of_ble_eq_true rfl⟩) (As := [.int (xs ((nI i + (1 : Int32))).toNatClampNeg), .int (xs ((nI i + (2 : Int32))).toNatClampNeg)]) (rest := [.int z]) rfl hl.1 rfl (Nat.le_of_ble_eq_true rfl) dL_law_414 ⟨Nat.le_refl _, Nat.le_refl _⟩ (fun H locs hP hD hS => ?_)
  refine lv_icmp_eq (tgt := 860) hx hb dL_law_417 (by decide) (fun _ => ?_) (fun c9 => absurd rfl c9)
  exact kk x' w' H locs hI' hP hD hS
