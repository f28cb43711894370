set_option maxRecDepth 20000 in
theorem ggL_law_X3_letter : GoodIn wsL_law wsX3_letter := goodIn_r _ [74, 25, 75, 76, 2, 77, 78, 79, 80, 81, 28, 82, 83, 84, 24, 85, 86, 50, 715, 716, 717, 718, 719, 720, 721, 722, 723, 769, 770] (by decide +kernel) (by decide +kernel)
set_option maxRecDepth 20000 in
theorem gL_law_X3_letter : GoodIn wsL_law (wsV RL 13 RX3 yX3_letter wsX3_letter) := goodIn_app (goodIn_of _ (by decide +kernel)) ggL_law_X3_letter
set_option maxRecDepth 20000 in
theorem ggL_law_X4_letter : GoodIn wsL_law wsX4_letter := goodIn_r _ [90, 91, 62, 92, 93, 5, 94, 95, 96, 97, 98, 55, 724, 725, 726, 727, 728, 729, 730, 731, 732, 733, 734, 735, 736, 737, 738, 739, 740, 741, 742, 743, 744, 745, 746, 747, 748, 749, 750, 751] (by decide +kernel) (by decide +kernel)
set_option maxRecDepth 20000 in
theorem gL_law_X4_letter : GoodIn wsL_law (wsV RL 17 RX4 yX4_letter wsX4_letter) := goodIn_app (goodIn_of _ (by decide +kernel)) ggL_law_X4_letter
set_option maxHeartbeats 4000000 in
set_option maxRecDepth 100000 in
theorem lc_letter {p : Program} {l : Launch} {e : Env} {s : State} {m : MethodId} {below : List Frame} {meth : Method} {c : Code} {dC : Nat → ClassId} {dI : Nat → Nat → Nat} {cI cC : ClassId} {sk : (Nat → Nat) × (Nat → Nat)} {b L : Nat} {xs : Nat → Int32} {f g : Nat → Nat} (B : LB p s m c dC dI cI cC sk b L xs) {i : Nat} (hi : i + 4 ≤ L) {x : XT} {w : MT} (hI : INV x w) {H : Heap} {locs : List Loc} {ls : Array Slot} (hP : va_P (dC, dI) vwCl (XW cI cC f x ++ MW cI cC g w) H) (hD : va_D (AW s) (XW cI cC f x ++ MW cI cC g w)) (hS : va_S (AW s) s.heap H locs) (hl : lv_has ls 4 [(0, .ref b), (1, .ref (f 0)), (2, .ref (g 0)), (3, .int (nI i))]) (kk : ∀ (x : XT) (w : MT) (H : Heap) (locs : List Loc), INV x w → va_P (dC, dI) vwCl (XW cI cC f x ++ MW cI cC g w) H → va_D (AW s) (XW cI cC f x ++ MW cI cC g w) → va_S (AW s) s.heap H locs → W p l e room_1 s m #[Value.ref b] below meth c H locs 43 4025 (lw_Z below #[Value.ref b] s) (F0 m 860 ls [])) : W p l e room_1 s m #[Value.ref b] below meth c H locs 43 4025 (lw_Z below #[Value.ref b] s) (F0 m 152 ls []) := by
  obtain ⟨hx, hb, hml, hown, hts, hX, hbl, hL, hE, hK⟩ := B
  have hA : ∀ q, s.heap.size ≤ q → AW s q := fun _ h => h
  have hbA : ¬ AW s b := Nat.not_le.mpr hbl
  have h_in1 : vp_in (nI i + (1 : Int32)) L := by rw [show nI i + (1 : Int32) = nI (i + 1) from nI_add i 1]; exact vp_in_nI (by omega) (by omega)
  obtain ⟨z, x', w', hI', hcx, hcm⟩ := k_letter l dC dI cI cC sk f g (xs ((nI i + (1 : Int32))).toNatClampNeg) hI
  refine lv_aload_n hx hb dL_law_152 rfl (lv_at hl 1 rfl) ?_
  refine lv_aload_n hx hb dL_law_153 rfl (lv_at hl 0 rfl) ?_
  refine lv_iload_n hx hb dL_law_154 rfl (lv_at hl 3 rfl) ?_
  refine lv_iconst (v := (1 : Int32)) hx hb dL_law_155 (by decide) ?_
  refine lv_iadd hx hb dL_law_156 ?_
  refine va_sld hx hb hX hbl hbA hS h_in1 dL_law_157 ?_
  refine lawX (cc := code) ⟨hx, hb, hml, hown, hts⟩ hE hK hA hP hD hS hcx (cwV 1 hts gL_law_X3_letter rfl rfl rfl (by decide +kernel) ⟨Nat.le_of_ble_eq_true rfl, Nat.le_of_ble_eq_true rfl⟩) (As := [.int (xs ((nI i + (1 : Int32))).toNatClampNeg)]) (rest := []) rfl hl.1 rfl (Nat.le_of_ble_eq_true rfl) dL_law_158 ⟨Nat.le_refl _, Nat.le_refl _⟩ (fun H locs hP hD hS => ?_)
  refine lv_aload_n hx hb dL_law_161 rfl (lv_at hl 2 rfl) ?_
  refine lv_aload_n hx hb dL_law_162 rfl (lv_at hl 0 rfl) ?_
  refine lv_iload_n hx hb dL_law_163 rfl (lv_at hl 3 rfl) ?_
  refine lv_iconst (v := (1 : Int32)) hx hb dL_law_164 (by decide) ?_
  refine lv_iadd hx hb dL_law_165 ?_
  refine va_sld hx hb hX hbl hbA hS h_in1 dL_law_166 ?_
  refine lawM (cc := code) ⟨hx, hb, hml, hown, hts⟩ hE hK hA hP hD hS hcm (cwV 1 hts gL_law_X4_letter rfl rfl rfl (by decide +kernel) ⟨Nat.le_of_ble_eq_true rfl, Nat.le_of_ble_eq_true rfl⟩) (As := [.int (xs ((nI i + (1 : Int32))).toNatClampNeg)]) (rest := [.int z]) rfl hl.1 rfl (Nat.le_of_ble_eq_true rfl) dL_law_167 ⟨Nat.le_refl _, Nat.le_refl _⟩ (fun H locs hP hD hS => ?_)
  refine lv_icmp_eq (tgt := 860) hx hb dL_law_170 (by decide) (fun _ => ?_) (fun c9 => absurd rfl c9)
  exact kk x' w' H locs hI' hP hD hS
set_option maxRecDepth 20000 in
theorem ggL_law_X3_river : GoodIn wsL_law wsX3_river := goodIn_r _ [102, 20, 16, 25, 103, 104, 105, 19, 106, 40, 41, 42, 43, 44, 45, 107, 108, 109, 110, 111, 24, 112, 86, 113, 114, 115, 116, 117, 118, 119, 120, 121, 122, 123, 124, 50, 125, 126, 127, 128, 129, 130, 131, 132, 133, 134, 135, 136, 137, 138, 139, 140, 141, 142, 143, 144, 145, 146, 147, 148, 149, 150, 151, 152, 153, 154, 155, 156, 157, 158, 159, 160, 161, 162, 163, 164, 165, 166, 167, 168, 169, 170, 171, 172, 173, 174, 175, 176, 177, 178, 179, 180, 181, 182, 183, 184, 185, 186, 187, 188, 189, 190, 191, 192, 193, 194, 195, 196, 197, 198, 199, 200, 201, 202, 203, 204, 205, 206, 207, 208, 209, 210, 211, 212, 213, 214, 215, 216, 2, 217, 715, 716, 717, 718, 719, 720, 721, 722, 723, 769, 770, 761, 762, 763, 764, 765, 766, 767, 768] (by decide +kernel) (by decide +kernel)
set_option maxRecDepth 20000 in
theorem gL_law_X3_river : GoodIn wsL_law (wsV RL 18 RX3 yX3_river wsX3_river) := goodIn_app (goodIn_of _ (by decide +kernel)) ggL_law_X3_river
set_option maxRecDepth 20000 in
theorem ggL_law_X4_river : GoodIn wsL_law wsX4_river := goodIn_r _ [221, 222, 223, 91, 64, 224, 225, 226, 5, 227, 63, 228, 229, 230, 231, 62, 232, 233, 234, 235, 65, 236, 237, 238, 239, 240, 241, 242, 243, 244, 245, 246, 247, 248, 249, 250, 251, 56, 57, 58, 59, 60, 252, 61, 253, 254, 255, 256, 257, 66, 258, 259, 260, 261, 262, 263, 264, 265, 266, 267, 268, 269, 724, 725, 726, 727, 728, 729, 730, 731, 732, 733, 734, 735, 736, 737, 738, 739, 740, 741, 742, 743, 744, 745, 746, 747, 748, 749, 750, 751] (by decide +kernel) (by decide +kernel)
set_option maxRecDepth 20000 in
theorem gL_law_X4_river : GoodIn wsL_law (wsV RL 22 RX4 yX4_river wsX4_river) := goodIn_app (goodIn_of _ (by decide +kernel)) ggL_law_X4_river
set_option maxHeartbeats 4000000 in
set_option maxRecDepth 100000 in
theorem lc_river {p : Program} {l : Launch} {e : Env} {s : State} {m : MethodId} {below : List Frame} {meth : Method} {c : Code} {dC : Nat → ClassId} {dI : Nat → Nat → Nat} {cI cC : ClassId} {sk : (Nat → Nat) × (Nat → Nat)} {b L : Nat} {xs : Nat → Int32} {f g : Nat → Nat} (B : LB p s m c dC dI cI cC sk b L xs) {i : Nat} (hi : i + 4 ≤ L) {x : XT} {w : MT} (hI : INV x w) {H : Heap} {locs : List Loc} {ls : Array Slot} (hP : va_P (dC, dI) vwCl (XW cI cC f x ++ MW cI cC g w) H) (hD : va_D (AW s) (XW cI cC f x ++ MW cI cC g w)) (hS : va_S (AW s) s.heap H locs) (hl : lv_has ls 4 [(0, .ref b), (1, .ref (f 0)), (2, .ref (g 0)), (3, .int (nI i))]) (kk : ∀ (x : XT) (w : MT) (H : Heap) (locs : List Loc), INV x w → va_P (dC, dI) vwCl (XW cI cC f x ++ MW cI cC g w) H → va_D (AW s) (XW cI cC f x ++ MW cI cC g w) → va_S (AW s) s.heap H locs → W p l e room_1 s m #[Value.ref b] below meth c H locs 43 4025 (lw_Z below #[Value.ref b] s) (F0 m 860 ls [])) : W p l e room_1 s m #[Value.ref b] below meth c H locs 43 4025 (lw_Z below #[Value.ref b] s) (F0 m 175 ls []) := by
  obtain ⟨hx, hb, hml, hown, hts, hX, hbl, hL, hE, hK⟩ := B
  have hA : ∀ q, s.heap.size ≤ q → AW s q := fun _ h => h
  have hbA : ¬ AW s b := Nat.not_le.mpr hbl
  obtain ⟨z, x', w', hI', hcx, hcm⟩ := k_river l dC dI cI cC sk f g  hI
  refine lv_aload_n hx hb dL_law_175 rfl (lv_at hl 1 rfl) ?_
  refine lawX (cc := code) ⟨hx, hb, hml, hown, hts⟩ hE hK hA hP hD hS hcx (cwV 0 hts gL_law_X3_river rfl rfl rfl (by decide +kernel) ⟨Nat.le_of_ble_eq_true rfl, Nat.le_of_ble_eq_true rfl⟩) (As := []) (rest := []) rfl hl.1 rfl (Nat.le_of_ble_eq_true rfl) dL_law_176 ⟨Nat.le_refl _, Nat.le_refl _⟩ (fun H locs hP hD hS => ?_)
  refine lv_aload_n hx hb dL_law_179 rfl (lv_at hl 2 rfl) ?_
  refine lawM (cc := code) ⟨hx, hb, hml, hown, hts⟩ hE hK hA hP hD hS hcm (cwV 0 hts gL_law_X4_river rfl rfl rfl (by decide +kernel) ⟨Nat.le_of_ble_eq_true rfl, Nat.le_of_ble_eq_true rfl⟩) (As := []) (rest := [.int z]) rfl hl.1 rfl (Nat.le_of_ble_eq_true rfl) dL_law_180 ⟨Nat.le_refl _, Nat.le_refl _⟩ (fun H locs hP hD hS => ?_)
  refine lv_icmp_eq (tgt := 860) hx hb dL_law_183 (by decide) (fun _ => ?_) (fun c9 => absurd rfl c9)
  exact kk x' w' H locs hI' hP hD hS
set_option maxRecDepth 20000 in
theorem ggL_law_X3_floe : GoodIn wsL_law wsX3_floe := goodIn_r _ [273, 16, 274, 197, 198, 19, 199, 107, 78, 79, 80, 2, 81, 28, 275, 276, 277, 278, 40, 41, 42, 43, 44, 196, 715, 716, 717, 718, 719, 720, 721, 722, 723, 761, 762, 763, 764, 765, 766, 767, 768] (by decide +kernel) (by decide +kernel)
set_option maxRecDepth 20000 in
theorem gL_law_X3_floe : GoodIn wsL_law (wsV RL 23 RX3 yX3_floe wsX3_floe) := goodIn_app (goodIn_of _ (by decide +kernel)) ggL_law_X3_floe
set_option maxRecDepth 20000 in
theorem ggL_law_X4_floe : GoodIn wsL_law wsX4_floe := goodIn_r _ [282, 56, 57, 58, 59, 60, 283, 284, 285, 5, 286, 252, 95, 96, 97, 98, 55, 724, 725, 726, 727, 728, 729, 730, 731, 732, 733, 734, 735, 736, 737, 738, 739, 740, 741, 742, 743, 744, 745, 746, 747, 748, 749, 750, 751] (by decide +kernel) (by decide +kernel)
set_option maxRecDepth 20000 in
theorem gL_law_X4_floe : GoodIn wsL_law (wsV RL 27 RX4 yX4_floe wsX4_floe) := goodIn_app (goodIn_of _ (by decide +kernel)) ggL_law_X4_floe
set_option maxHeartbeats 4000000 in
set_option maxRecDepth 100000 in
theorem lc_floe {p : Program} {l : Launch} {e : Env} {s : State} {m : MethodId} {below : List Frame} {meth : Method} {c : Code} {dC : Nat → ClassId} {dI : Nat → Nat → Nat} {cI cC : ClassId} {sk : (Nat → Nat) × (Nat → Nat)} {b L : Nat} {xs : Nat → Int32} {f g : Nat → Nat} (B : LB p s m c dC dI cI cC sk b L xs) {i : Nat} (hi : i + 4 ≤ L) {x : XT} {w : MT} (hI : INV x w) {H : Heap} {locs : List Loc} {ls : Array Slot} (hP : va_P (dC, dI) vwCl (XW cI cC f x ++ MW cI cC g w) H) (hD : va_D (AW s) (XW cI cC f x ++ MW cI cC g w)) (hS : va_S (AW s) s.heap H locs) (hl : lv_has ls 4 [(0, .ref b), (1, .ref (f 0)), (2, .ref (g 0)), (3, .int (nI i))]) (kk : ∀ (x : XT) (w : MT) (H : Heap) (locs : List Loc), INV x w → va_P (dC, dI) vwCl (XW cI cC f x ++ MW cI cC g w) H → va_D (AW s) (XW cI cC f x ++ MW cI cC g w) → va_S (AW s) s.heap H locs → W p l e room_1 s m #[Value.ref b] below meth c H locs 43 4025 (lw_Z below #[Value.ref b] s) (F0 m 860 ls [])) : W p l e room_1 s m #[Value.ref b] below meth c H locs 43 4025 (lw_Z below #[Value.ref b] s) (F0 m 188 ls []) := by
  obtain ⟨hx, hb, hml, hown, hts, hX, hbl, hL, hE, hK⟩ := B
  have hA : ∀ q, s.heap.size ≤ q → AW s q := fun _ h => h
  have hbA : ¬ AW s b := Nat.not_le.mpr hbl
  have h_in1 : vp_in (nI i + (1 : Int32)) L := by rw [show nI i + (1 : Int32) = nI (i + 1) from nI_add i 1]; exact vp_in_nI (by omega) (by omega)
  have h_in2 : vp_in (nI i + (2 : Int32)) L := by rw [show nI i + (2 : Int32) = nI (i + 2) from nI_add i 2]; exact vp_in_nI (by omega) (by omega)
  obtain ⟨z, x', w', hI', hcx, hcm⟩ := k_floe l dC dI cI cC sk f g (xs ((nI i + (1 : Int32))).toNatClampNeg) (xs ((nI i + (2 : Int32))).toNatClampNeg) hI
  refine lv_aload_n hx hb dL_law_188 rfl (lv_at hl 1 rfl) ?_
  refine lv_aload_n hx hb dL_law_189 rfl (lv_at hl 0 rfl) ?_
  refine lv_iload_n hx hb dL_law_190 rfl (lv_at hl 3 rfl) ?_
  refine lv_iconst (v := (1 : Int32)) hx hb dL_law_191 (by decide) ?_
  refine lv_iadd hx hb dL_law_192 ?_
  refine va_sld hx hb hX hbl hbA hS h_in1 dL_law_193 ?_
  refine lv_aload_n hx hb dL_law_194 rfl (lv_at hl 0 rfl) ?_
  refine lv_iload_n hx hb dL_law_195 rfl (lv_at hl 3 rfl) ?_
  refine lv_iconst (v := (2 : Int32)) hx hb dL_law_196 (by decide) ?_
  refine lv_iadd hx hb dL_law_197 ?_
  refine va_sld hx hb hX hbl hbA hS h_in2 dL_law_198 ?_
  refine lawX (cc := code) ⟨hx, hb, hml, hown, hts⟩ hE hK hA hP hD hS hcx (cwV 2 hts gL_law_X3_floe rfl rfl rfl (by decide +kernel) ⟨Nat.le_of_ble_eq_true rfl, Nat.le_of_ble_eq_true rfl⟩) (As := [.int (xs ((nI i + (1 : Int32))).toNatClampNeg), .int (xs ((nI i + (2 : Int32))).toNatClampNeg)]) (rest := []) rfl hl.1 rfl (Nat.le_of_ble_eq_true rfl) dL_law_199 ⟨Nat.le_refl _, Nat.le_refl _⟩ (fun H locs hP hD hS => ?_)
  refine lv_aload_n hx hb dL_law_202 rfl (lv_at hl 2 rfl) ?_
  refine lv_aload_n hx hb dL_law_203 rfl (lv_at hl 0 rfl) ?_
  refine lv_iload_n hx hb dL_law_204 rfl (lv_at hl 3 rfl) ?_
  refine lv_iconst (v := (1 : Int32)) hx hb dL_law_205 (by decide) ?_
  refine lv_iadd hx hb dL_law_206 ?_
  refine va_sld hx hb hX hbl hbA hS h_in1 dL_law_207 ?_
  refine lv_aload_n hx hb dL_law_208 rfl (lv_at hl 0 rfl) ?_
  refine lv_iload_n hx hb dL_law_209 rfl (lv_at hl 3 rfl) ?_
  refine lv_iconst (v := (2 : Int32)) hx hb dL_law_210 (by decide) ?_
  refine lv_iadd hx hb dL_law_211 ?_
  refine va_sld hx hb hX hbl hbA hS h_in2 dL_law_212 ?_
  refine lawM (cc := code) ⟨hx, hb, hml, hown, hts⟩ hE hK hA hP hD hS hcm (cwV 2 hts gL_law_X4_floe rfl rfl rfl (by decide +kernel) ⟨Nat.le_of_ble_eq_true rfl, Nat.le_of_ble_eq_true rfl⟩) (As := [.int (xs ((nI i + (1 : Int32))).toNatClampNeg), .int (xs ((nI i + (2 : Int32))).toNatClampNeg)]) (rest := [.int z]) rfl hl.1 rfl (Nat.le_of_ble_eq_true rfl) dL_law_213 ⟨Nat.le_refl _, Nat.le_refl _⟩ (fun H locs hP hD hS => ?_)
  refine lv_icmp_eq (tgt := 860) hx hb dL_law_216 (by decide) (fun _ => ?_) (fun c9 => absurd rfl c9)
  exact kk x' w' H locs hI' hP hD hS
set_option maxRecDepth 20000 in
theorem ggL_law_X3_is : GoodIn wsL_law wsX3_is := goodIn_r _ [290, 16, 291, 292, 293, 2, 294, 274, 197, 198, 19, 199, 107, 75, 76, 77, 78, 79, 80, 81, 28, 295, 296, 297, 298, 40, 42, 43, 196, 299, 300, 301, 302, 303, 304, 305, 715, 716, 717, 718, 719, 720, 721, 722, 723, 761, 762, 763, 764, 765, 766, 767, 768] (by decide +kernel) (by decide +kernel)
set_option maxRecDepth 20000 in
theorem gL_law_X3_is : GoodIn wsL_law (wsV RL 28 RX3 yX3_is wsX3_is) := goodIn_app (goodIn_of _ (by decide +kernel)) ggL_law_X3_is
set_option maxRecDepth 20000 in
theorem ggL_law_X4_is : GoodIn wsL_law wsX4_is := goodIn_r _ [309, 283, 284, 285, 5, 286, 252, 92, 93, 94, 95, 96, 97, 98, 55, 310, 311, 312, 313, 314, 253, 56, 58, 59, 315, 316, 317, 318, 319, 320, 724, 725, 726, 727, 728, 729, 730, 731, 732, 733, 734, 735, 736, 737, 738, 739, 740, 741, 742, 743, 744, 745, 746, 747, 748, 749, 750, 751] (by decide +kernel) (by decide +kernel)
set_option maxRecDepth 20000 in
theorem gL_law_X4_is : GoodIn wsL_law (wsV RL 31 RX4 yX4_is wsX4_is) := goodIn_app (goodIn_of _ (by decide +kernel)) ggL_law_X4_is
set_option maxHeartbeats 4000000 in
set_option maxRecDepth 100000 in
theorem lc_is {p : Program} {l : Launch} {e : Env} {s : State} {m : MethodId} {below : List Frame} {meth : Method} {c : Code} {dC : Nat → ClassId} {dI : Nat → Nat → Nat} {cI cC : ClassId} {sk : (Nat → Nat) × (Nat → Nat)} {b L : Nat} {xs : Nat → Int32} {f g : Nat → Nat} (B : LB p s m c dC dI cI cC sk b L xs) {i : Nat} (hi : i + 4 ≤ L) {x : XT} {w : MT} (hI : INV x w) {H : Heap} {locs : List Loc} {ls : Array Slot} (hP : va_P (dC, dI) vwCl (XW cI cC f x ++ MW cI cC g w) H) (hD : va_D (AW s) (XW cI cC f x ++ MW cI cC g w)) (hS : va_S (AW s) s.heap H locs) (hl : lv_has ls 4 [(0, .ref b), (1, .ref (f 0)), (2, .ref (g 0)), (3, .int (nI i))]) (kk : ∀ (x : XT) (w : MT) (H : Heap) (locs : List Loc), INV x w → va_P (dC, dI) vwCl (XW cI cC f x ++ MW cI cC g w) H → va_D (AW s) (XW cI cC f x ++ MW cI cC g w) → va_S (AW s) s.heap H locs → W p l e room_1 s m #[Value.ref b] below meth c H locs 43 4025 (lw_Z below #[Value.ref b] s) (F0 m 860 ls [])) : W p l e room_1 s m #[Value.ref b] below meth c H locs 43 4025 (lw_Z below #[Value.ref b] s) (F0 m 221 ls []) := by
  obtain ⟨hx, hb, hml, hown, hts, hX, hbl, hL, hE, hK⟩ := B
  have hA : ∀ q, s.heap.size ≤ q → AW s q := fun _ h => h
  have hbA : ¬ AW s b := Nat.not_le.mpr hbl
  have h_in1 : vp_in (nI i + (1 : Int32)) L := by rw [show nI i + (1 : Int32) = nI (i + 1) from nI_add i 1]; exact vp_in_nI (by omega) (by omega)
  have h_in2 : vp_in (nI i + (2 : Int32)) L := by rw [show nI i + (2 : Int32) = nI (i + 2) from nI_add i 2]; exact vp_in_nI (by omega) (by omega)
  obtain ⟨z, x', w', hI', hcx, hcm⟩ := k_is l dC dI cI cC sk f g (xs ((nI i + (1 : Int32))).toNatClampNeg) (xs ((nI i + (2 : Int32))).toNatClampNeg) hI
  refine lv_aload_n hx hb dL_law_221 rfl (lv_at hl 1 rfl) ?_
  refine lv_aload_n hx hb dL_law_222 rfl (lv_at hl 0 rfl) ?_
  refine lv_iload_n hx hb dL_law_223 rfl (lv_at hl 3 rfl) ?_
  refine lv_iconst (v := (1 : Int32)) hx hb dL_law_224 (by decide) ?_
  refine lv_iadd hx hb dL_law_225 ?_
  refine va_sld hx hb hX hbl hbA hS h_in1 dL_law_226 ?_
  refine lv_aload_n hx hb dL_law_227 rfl (lv_at hl 0 rfl) ?_
  refine lv_iload_n hx hb dL_law_228 rfl (lv_at hl 3 rfl) ?_
  refine lv_iconst (v := (2 : Int32)) hx hb dL_law_229 (by decide) ?_
  refine lv_iadd hx hb dL_law_230 ?_
  refine va_sld hx hb hX hbl hbA hS h_in2 dL_law_231 ?_
  refine lawX (cc := code) ⟨hx, hb, hml, hown, hts⟩ hE hK hA hP hD hS hcx (cwV 2 hts gL_law_X3_is rfl rfl rfl (by decide +kernel) ⟨Nat.le_of_ble_eq_true rfl, Nat.le_of_ble_eq_true rfl⟩) (As := [.int (xs ((nI i + (1 : Int32))).toNatClampNeg), .int (xs ((nI i + (2 : Int32))).toNatClampNeg)]) (rest := []) rfl hl.1 rfl (Nat.le_of_ble_eq_true rfl) dL_law_232 ⟨Nat.le_refl _, Nat.le_refl _⟩ (fun H locs hP hD hS => ?_)
  refine lv_aload_n hx hb dL_law_235 rfl (lv_at hl 2 rfl) ?_
  refine lv_aload_n hx hb dL_law_236 rfl (lv_at hl 0 rfl) ?_
  refine lv_iload_n hx hb dL_law_237 rfl (lv_at hl 3 rfl) ?_
  refine lv_iconst (v := (1 : Int32)) hx hb dL_law_238 (by decide) ?_
  refine lv_iadd hx hb dL_law_239 ?_
  refine va_sld hx hb hX hbl hbA hS h_in1 dL_law_240 ?_
  refine lv_aload_n hx hb dL_law_241 rfl (lv_at hl 0 rfl) ?_
  refine lv_iload_n hx hb dL_law_242 rfl (lv_at hl 3 rfl) ?_
  refine lv_iconst (v := (2 : Int32)) hx hb dL_law_243 (by decide) ?_
  refine lv_iadd hx hb dL_law_244 ?_
  refine va_sld hx hb hX hbl hbA hS h_in2 dL_law_245 ?_
  refine lawM (cc := code) ⟨hx, hb, hml, hown, hts⟩ hE hK hA hP hD hS hcm (cwV 2 hts gL_law_X4_is rfl rfl rfl (by decide +kernel) ⟨Nat.le_of_ble_eq_true rfl, Nat.le_of_ble_eq_true rfl⟩) (As := [.int (xs ((nI i + (1 : Int32))).toNatClampNeg), .int (xs ((nI i + (2 : Int32))).toNatClampNeg)]) (rest := [.int z]) rfl hl.1 rfl (Nat.le_of_ble_eq_true rfl) dL_law_246 ⟨Nat.le_refl _, Nat.le_refl _⟩ (fun H locs hP hD hS => ?_)
  refine lv_icmp_eq (tgt := 860) hx hb dL_law_249 (by decide) (fun _ => ?_) (fun c9 => absurd rfl c9)
  exact kk x' w' H locs hI' hP hD hS
set_option maxRecDepth 20000 in
theorem ggL_law_X3_bears : GoodIn wsL_law wsX3_bears := goodIn_r _ [324, 16, 291, 292, 293, 2, 294, 274, 197, 198, 19, 199, 107, 75, 76, 77, 78, 79, 80, 81, 28, 325, 326, 327, 328, 44, 40, 329, 330, 214, 331, 196, 715, 716, 717, 718, 719, 720, 721, 722, 723, 761, 762, 763, 764, 765, 766, 767, 768] (by decide +kernel) (by decide +kernel)
set_option maxRecDepth 20000 in
theorem gL_law_X3_bears : GoodIn wsL_law (wsV RL 32 RX3 yX3_bears wsX3_bears) := goodIn_app (goodIn_of _ (by decide +kernel)) ggL_law_X3_bears
set_option maxRecDepth 20000 in
theorem ggL_law_X4_bears : GoodIn wsL_law wsX4_bears := goodIn_r _ [335, 283, 284, 285, 5, 286, 252, 92, 93, 94, 95, 96, 97, 98, 55, 336, 337, 338, 339, 60, 56, 724, 725, 726, 727, 728, 729, 730, 731, 732, 733, 734, 735, 736, 737, 738, 739, 740, 741, 742, 743, 744, 745, 746, 747, 748, 749, 750, 751] (by decide +kernel) (by decide +kernel)
set_option maxRecDepth 20000 in
theorem gL_law_X4_bears : GoodIn wsL_law (wsV RL 35 RX4 yX4_bears wsX4_bears) := goodIn_app (goodIn_of _ (by decide +kernel)) ggL_law_X4_bears
set_option maxHeartbeats 4000000 in
set_option maxRecDepth 100000 in
theorem lc_bears {p : Program} {l : Launch} {e : Env} {s : State} {m : MethodId} {below : List Frame} {meth : Method} {c : Code} {dC : Nat → ClassId} {dI : Nat → Nat → Nat} {cI cC : ClassId} {sk : (Nat → Nat) × (Nat → Nat)} {b L : Nat} {xs : Nat → Int32} {f g : Nat → Nat} (B : LB p s m c dC dI cI cC sk b L xs) {i : Nat} (hi : i + 4 ≤ L) {x : XT} {w : MT} (hI : INV x w) {H : Heap} {locs : List Loc} {ls : Array Slot} (hP : va_P (dC, dI) vwCl (XW cI cC f x ++ MW cI cC g w) H) (hD : va_D (AW s) (XW cI cC f x ++ MW cI cC g w)) (hS : va_S (AW s) s.heap H locs) (hl : lv_has ls 4 [(0, .ref b), (1, .ref (f 0)), (2, .ref (g 0)), (3, .int (nI i))]) (kk : ∀ (x : XT) (w : MT) (H : Heap) (locs : List Loc), INV x w → va_P (dC, dI) vwCl (XW cI cC f x ++ MW cI cC g w) H → va_D (AW s) (XW cI cC f x ++ MW cI cC g w) → va_S (AW s) s.heap H locs → W p l e room_1 s m #[Value.ref b] below meth c H locs 43 4025 (lw_Z below #[Value.ref b] s) (F0 m 860 ls [])) : W p l e room_1 s m #[Value.ref b] below meth c H locs 43 4025 (lw_Z below #[Value.ref b] s) (F0 m 254 ls []) := by
  obtain ⟨hx, hb, hml, hown, hts, hX, hbl, hL, hE, hK⟩ := B
  have hA : ∀ q, s.heap.size ≤ q → AW s q := fun _ h => h
  have hbA : ¬ AW s b := Nat.not_le.mpr hbl
  have h_in1 : vp_in (nI i + (1 : Int32)) L := by rw [show nI i + (1 : Int32) = nI (i + 1) from nI_add i 1]; exact vp_in_nI (by omega) (by omega)
  have h_in2 : vp_in (nI i + (2 : Int32)) L := by rw [show nI i + (2 : Int32) = nI (i + 2) from nI_add i 2]; exact vp_in_nI (by omega) (by omega)
  obtain ⟨z, x', w', hI', hcx, hcm⟩ := k_bears l dC dI cI cC sk f g (xs ((nI i + (1 : Int32))).toNatClampNeg) (xs ((nI i + (2 : Int32))).toNatClampNeg) hI
  refine lv_aload_n hx hb dL_law_254 rfl (lv_at hl 1 rfl) ?_
  refine lv_aload_n hx hb dL_law_255 rfl (lv_at hl 0 rfl) ?_
  refine lv_iload_n hx hb dL_law_256 rfl (lv_at hl 3 rfl) ?_
  refine lv_iconst (v := (1 : Int32)) hx hb dL_law_257 (by decide) ?_
  refine lv_iadd hx hb dL_law_258 ?_
  refine va_sld hx hb hX hbl hbA hS h_in1 dL_law_259 ?_
  refine lv_aload_n hx hb dL_law_260 rfl (lv_at hl 0 rfl) ?_
  refine lv_iload_n hx hb dL_law_261 rfl (lv_at hl 3 rfl) ?_
  refine lv_iconst (v := (2 : Int32)) hx hb dL_law_262 (by decide) ?_
  refine lv_iadd hx hb dL_law_263 ?_
  refine va_sld hx hb hX hbl hbA hS h_in2 dL_law_264 ?_
  refine lawX (cc := code) ⟨hx, hb, hml, hown, hts⟩ hE hK hA hP hD hS hcx (cwV 2 hts gL_law_X3_bears rfl rfl rfl (by decide +kernel) ⟨Nat.le_of_ble_eq_true rfl, Nat.le_of_ble_eq_true rfl⟩) (As := [.int (xs ((nI i + (1 : Int32))).toNatClampNeg), .int (xs ((nI i + (2 : Int32))).toNatClampNeg)]) (rest := []) rfl hl.1 rfl (Nat.le_of_ble_eq_true rfl) dL_law_265 ⟨Nat.le_refl _, Nat.le_refl _⟩ (fun H locs hP hD hS => ?_)
  refine lv_aload_n hx hb dL_law_268 rfl (lv_at hl 2 rfl) ?_
  refine lv_aload_n hx hb dL_law_269 rfl (lv_at hl 0 rfl) ?_
  refine lv_iload_n hx hb dL_law_270 rfl (lv_at hl 3 rfl) ?_
  refine lv_iconst (v := (1 : Int32)) hx hb dL_law_271 (by decide) ?_
  refine lv_iadd hx hb dL_law_272 ?_
  refine va_sld hx hb hX hbl hbA hS h_in1 dL_law_273 ?_
  refine lv_aload_n hx hb dL_law_274 rfl (lv_at hl 0 rfl) ?_
  refine lv_iload_n hx hb dL_law_275 rfl (lv_at hl 3 rfl) ?_
  refine lv_iconst (v := (2 : Int32)) hx hb dL_law_276 (by decide) ?_
  refine lv_iadd hx hb dL_law_277 ?_
  refine va_sld hx hb hX hbl hbA hS h_in2 dL_law_278 ?_
  refine lawM (cc := code) ⟨hx, hb, hml, hown, hts⟩ hE hK hA hP hD hS hcm (cwV 2 hts gL_law_X4_bears rfl rfl rfl (by decide +kernel) ⟨Nat.le_of_ble_eq_true rfl, Nat.le_of_ble_eq_true rfl⟩) (As := [.int (xs ((nI i + (1 : Int32))).toNatClampNeg), .int (xs ((nI i + (2 : Int32))).toNatClampNeg)]) (rest := [.int z]) rfl hl.1 rfl (Nat.le_of_ble_eq_true rfl) dL_law_279 ⟨Nat.le_refl _, Nat.le_refl _⟩ (fun H locs hP hD hS => ?_)
  refine lv_icmp_eq (tgt := 860) hx hb dL_law_282 (by decide) (fun _ => ?_) (fun c9 => absurd rfl c9)
  exact kk x' w' H locs hI' hP hD hS
