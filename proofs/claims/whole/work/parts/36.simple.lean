/-! ===== refusals and bounds ===== -/
def WR (r : RT) : Prop := ∃ n t, VR n t r
def isW (k : Int32) : Prop := k = -1 ∨ k = -2 ∨ k = -3 ∨ k = -4 ∨ k = -6
theorem isW_0 {k : Int32} (h : isW k) : ¬ k = 0 := by
  rcases h with rfl | rfl | rfl | rfl | rfl <;> decide
theorem rf5 {k : Int32} (h : isW k) (a : AR) : ∃ b, fX3_refuse k a = some (k, b) ∧ fX4_no k a = some (k, b) := by
  have key : ∀ (i : Nat) (k : Int32), i < 7 → -k = nI i → ∃ b, fX3_refuse k a = some (k, b) ∧ fX4_no k a = some (k, b) := by
    intro i k hi e
    unfold fX3_refuse fX4_no
    rw [e, if_neg (nI_pos (by omega)), if_neg (g_ge (n := 7) hi (by decide)), ck_n _ hi (by decide), ck_n _ hi (by decide)]
    exact ⟨_, rfl, rfl⟩
  rcases h with rfl | rfl | rfl | rfl | rfl
  · exact key 1 _ (by omega) (by decide)
  · exact key 2 _ (by omega) (by decide)
  · exact key 3 _ (by omega) (by decide)
  · exact key 4 _ (by omega) (by decide)
  · exact key 6 _ (by omega) (by decide)
theorem bound_e (v a b : Int32) : fX4_bound v a b = fX3_outOf v a b := rfl
/-- a number that may be, or a refusal -/
theorem out_c (v : Int32) (a b : Nat) (hb : b < 2 ^ 31) (hab : a ≤ b) : (fX3_outOf v (nI a) (nI b) = some 0 ∧ ∃ k, a ≤ k ∧ k ≤ b ∧ v = nI k) ∨ ∃ w, isW w ∧ fX3_outOf v (nI a) (nI b) = some w := by
  unfold fX3_outOf
  by_cases c1 : nI a ≤ v
  · rw [if_pos c1]
    by_cases c2 : v ≤ nI b
    · rw [if_pos c2]
      rw [i_le, ti_n (by omega)] at c1
      rw [i_le, ti_n hb] at c2
      exact Or.inl ⟨rfl, v.toInt.toNat, by omega, by omega, i_of (by omega) (by omega)⟩
    · rw [if_neg c2]
      exact Or.inr ⟨-6, by unfold isW; simp, rfl⟩
  · rw [if_neg c1]
    exact Or.inr ⟨-4, by unfold isW; simp, rfl⟩
theorem has_c {n t : Nat} {r : RT} (V : VR n t r) (p1 : Int32) : (fX0_has p1 r = some 1 ∧ fX4_isFloe p1 r = some 1 ∧ ∃ j, j < n ∧ p1 = nI j) ∨ (fX0_has p1 r = some 0 ∧ fX4_isFloe p1 r = some 0) := by
  have h8 := V.1
  rcases pk_ix p1 (n := n) (by omega) with h | h | ⟨j, hj, rfl⟩
  · right
    unfold fX0_has fX4_isFloe
    rw [if_pos h, if_pos h]
    exact ⟨rfl, rfl⟩
  · right
    unfold fX0_has fX4_isFloe
    rw [V.2.2.1, if_pos h]
    by_cases c : p1 < 0
    · rw [if_pos c, if_pos c]; exact ⟨rfl, rfl⟩
    · rw [if_neg c, if_neg c, if_pos h]; exact ⟨rfl, rfl⟩
  · left
    refine ⟨has_y V hj, ?_, j, hj, rfl⟩
    unfold fX4_isFloe
    rw [V.2.2.1, if_neg (nI_pos (by omega)), if_neg (nI_ge hj (by omega))]
theorem isCell_c (c : Int32) : (fX3_isCell c = some 1 ∧ fX4_isCell c = some 1 ∧ ∃ k, k < 10 ∧ c = nI k) ∨ (fX3_isCell c = some 0 ∧ fX4_isCell c = some 0) := by
  rcases pk_ix c (n := 10) (by omega) with h | h | ⟨j, hj, rfl⟩
  · right
    unfold fX3_isCell fX4_isCell fX4_isIn
    rw [if_pos h, if_pos h]
    exact ⟨rfl, rfl⟩
  · right
    unfold fX3_isCell fX4_isCell fX4_isIn
    rw [show (10 : Int32) = nI 10 from rfl, if_pos h, if_pos (show (9 : Int32) < c by
      rw [i_le, ti_n (by decide)] at h
      rw [i_lt]
      have : (9 : Int32).toInt = 9 := rfl
      omega)]
    by_cases q : c < 0
    · rw [if_pos q]; exact ⟨rfl, rfl⟩
    · rw [if_neg q]; exact ⟨rfl, rfl⟩
  · left
    unfold fX3_isCell fX4_isCell fX4_isIn
    rw [if_neg (nI_pos (by omega)), if_neg (g_ge (n := 10) hj (by decide)), if_neg (nI_pos (by omega)), if_neg (by rw [show (9 : Int32) = nI 9 from rfl, nI_ltI (by decide) (by omega)]; omega)]
    exact ⟨rfl, rfl, j, hj, rfl⟩
/-- somebody's load and cell -/
theorem walker_c (ld c : Int32) : (fX3_faultOfWalker ld c = some 0 ∧ fX4_notLoad ld c = some 0 ∧ (∃ k, k < 10 ∧ c = nI k) ∧ ∃ k, 1 ≤ k ∧ k ≤ 9 ∧ ld = nI k) ∨ ∃ w, isW w ∧ fX3_faultOfWalker ld c = some w ∧ fX4_notLoad ld c = some w := by
  unfold fX3_faultOfWalker fX4_notLoad
  rcases isCell_c c with ⟨h1, h2, h3⟩ | ⟨h1, h2⟩
  · rw [h1, h2, bd_s, bd_s, if_neg (by decide), if_neg (by decide), bound_e]
    rcases out_c ld 1 9 (by decide) (by decide) with ⟨g1, g2⟩ | ⟨w, g1, g2⟩
    · rw [show fX3_outOf ld (1 : Int32) (9 : Int32) = some 0 from g1]
      exact Or.inl ⟨rfl, rfl, h3, g2⟩
    · rw [show fX3_outOf ld (1 : Int32) (9 : Int32) = some w from g2]
      exact Or.inr ⟨w, g1, rfl, rfl⟩
  · rw [h1, h2, bd_s, bd_s, if_pos rfl, if_pos rfl]
    exact Or.inr ⟨-1, by unfold isW; simp, rfl, rfl⟩
/-! ===== letters, the row, the minute, floes ===== -/
theorem char_t : ∀ k, k < 256 → vp_nar .char (((nI k).toUInt32 % 65536).toInt32) = nI k := by decide +kernel
theorem letter_p (p1 : Int32) (le refs : AR) {s : Nat} (hs : s ≤ 80) : ∃ z le' s' rf, fX3_letter p1 le (nI s) refs = some (z, le', nI s', rf) ∧ fX4_letter p1 refs le (nI s) = some (z, rf, le', nI s') ∧ s' ≤ 80 ∧ ((∀ j, ∃ b, b < 256 ∧ le j = nI b) → ∀ j, ∃ b, b < 256 ∧ le' j = nI b) := by
  unfold fX3_letter fX4_letter
  rw [bound_e]
  have bad : ∀ w, isW w → ∃ z le' s' rf, bd (fX3_refuse w refs) (fun (q34 : Int32 × AR) => some (q34.1, le, nI s, q34.2)) = some (z, le', nI s', rf) ∧ bd (fX4_no w refs) (fun (q31 : Int32 × AR) => some (q31.1, q31.2, le, nI s)) = some (z, rf, le', nI s') ∧ s' ≤ 80 ∧ ((∀ j, ∃ b, b < 256 ∧ le j = nI b) → ∀ j, ∃ b, b < 256 ∧ le' j = nI b) := by
    intro w hw
    obtain ⟨b, h1, h2⟩ := rf5 hw refs
    rw [h1, h2]
    exact ⟨w, le, s, b, rfl, rfl, hs, id⟩
  rcases out_c p1 0 255 (by decide) (by decide) with ⟨g1, k, -, hk, rfl⟩ | ⟨w, g1, g2⟩
  · rw [show fX3_outOf (nI k) (0 : Int32) (255 : Int32) = some 0 from g1, bd_s, bd_s]
    dsimp only [jn]
    rw [if_pos rfl, if_pos rfl]
    by_cases c : s = 80
    · rw [if_pos (g_eq (n := 80) c), if_pos (g_eq (n := 80) c), if_neg (show ¬ (-6 : Int32) = 0 by decide), if_neg (show ¬ (-6 : Int32) = 0 by decide)]
      exact bad (-6) (by unfold isW; simp)
    · have c' : ¬ nI s = (80 : Int32) := by rw [show (80 : Int32) = nI 80 from rfl, nI_eq (by omega) (by decide)]; exact c
      rw [if_neg c', if_neg c', if_pos rfl, if_pos rfl]
      unfold fX1_put
      rw [if_neg (nI_pos (by omega)), if_neg (g_ge (n := 80) (by omega) (by decide)), ck_n _ (by omega) (by decide), ck_n _ (by omega) (by decide), bd_s, cl_n (by omega), char_t k (by omega), nI1]
      refine ⟨_, upd le s (nI k), s + 1, _, rfl, rfl, by omega, fun h j => ?_⟩
      by_cases e : j = s
      · subst e; exact ⟨k, by omega, upd_s _ _ _⟩
      · rw [upd_n _ _ e]; exact h j
  · rw [show fX3_outOf p1 (0 : Int32) (255 : Int32) = some w from g2, bd_s, bd_s]
    dsimp only [jn]
    rw [if_neg (isW_0 g1), if_neg (isW_0 g1), if_neg (isW_0 g1), if_neg (isW_0 g1)]
    exact bad w g1
theorem row_p (p1 : Int32) (se refs : AR) {s : Nat} (hs : s ≤ 12) : ∃ z se' s' rf, fX3_row p1 se refs (nI s) = some (z, se', rf, nI s') ∧ fX4_row p1 refs se (nI s) = some (z, rf, se', nI s') ∧ s' ≤ 12 ∧ ((∀ j, ∃ b, b ≤ 12 ∧ se j = nI b) → ∀ j, ∃ b, b ≤ 12 ∧ se' j = nI b) := by
  unfold fX3_row fX4_row
  rw [bound_e]
  have bad : ∀ w, isW w → ∃ z se' s' rf, bd (fX3_refuse w refs) (fun (q34 : Int32 × AR) => some (q34.1, se, q34.2, nI s)) = some (z, se', rf, nI s') ∧ bd (fX4_no w refs) (fun (q31 : Int32 × AR) => some (q31.1, q31.2, se, nI s)) = some (z, rf, se', nI s') ∧ s' ≤ 12 ∧ ((∀ j, ∃ b, b ≤ 12 ∧ se j = nI b) → ∀ j, ∃ b, b ≤ 12 ∧ se' j = nI b) := by
    intro w hw
    obtain ⟨b, h1, h2⟩ := rf5 hw refs
    rw [h1, h2]
    exact ⟨w, se, s, b, rfl, rfl, hs, id⟩
  rcases out_c p1 0 12 (by decide) (by decide) with ⟨g1, k, -, hk, rfl⟩ | ⟨w, g1, g2⟩
  · rw [show fX3_outOf (nI k) (0 : Int32) (12 : Int32) = some 0 from g1, bd_s, bd_s]
    dsimp only [jn]
    rw [if_pos rfl, if_pos rfl]
    by_cases c : s = 12
    · rw [if_neg (by rw [show (12 : Int32) = nI 12 from rfl, nI_ltI (by omega) (by decide)]; omega), if_pos (g_eq (n := 12) c), if_neg (show ¬ (-6 : Int32) = 0 by decide), if_neg (show ¬ (-6 : Int32) = 0 by decide)]
      exact bad (-6) (by unfold isW; simp)
    · have c' : ¬ nI s = (12 : Int32) := by rw [show (12 : Int32) = nI 12 from rfl, nI_eq (by omega) (by decide)]; exact c
      rw [if_pos (g_lt (n := 12) (by omega) (by decide)), if_neg c', if_pos rfl, if_pos rfl, ck_n _ (by omega) (by decide), ck_n _ (by omega) (by decide), cl_n (by omega), nI1]
      refine ⟨_, upd se s (nI k), s + 1, _, rfl, rfl, by omega, fun h j => ?_⟩
      by_cases e : j = s
      · subst e; exact ⟨k, by omega, upd_s _ _ _⟩
      · rw [upd_n _ _ e]; exact h j
  · rw [show fX3_outOf p1 (0 : Int32) (12 : Int32) = some w from g2, bd_s, bd_s]
    dsimp only [jn]
    rw [if_neg (isW_0 g1), if_neg (isW_0 g1), if_neg (isW_0 g1), if_neg (isW_0 g1)]
    exact bad w g1
theorem pass_p {n t : Nat} {r : RT} (V : VR n t r) (p1 : Int32) (refs : AR) : ∃ z r' rf, fX3_pass p1 r refs = some (z, r', rf) ∧ fX4_pass p1 r refs = some (z, r', rf) ∧ WR r' ∧ (r' = r ∨ ∃ m, r' = R_setMinute r m) := by
  have ht := V.2.1
  unfold fX3_pass fX4_pass
  rw [bound_e]
  have bad : ∀ w, isW w → ∃ z r' rf, bd (fX3_refuse w refs) (fun (q35 : Int32 × AR) => some (q35.1, r, q35.2)) = some (z, r', rf) ∧ bd (fX4_no w refs) (fun (q32 : Int32 × AR) => some (q32.1, r, q32.2)) = some (z, r', rf) ∧ WR r' ∧ (r' = r ∨ ∃ m, r' = R_setMinute r m) := by
    intro w hw
    obtain ⟨b, h1, h2⟩ := rf5 hw refs
    rw [h1, h2]
    exact ⟨w, r, b, rfl, rfl, ⟨n, t, V⟩, Or.inl rfl⟩
  rcases out_c p1 1 60 (by decide) (by decide) with ⟨g1, k, hk0, hk, rfl⟩ | ⟨w, g1, g2⟩
  · rw [show fX3_outOf (nI k) (1 : Int32) (60 : Int32) = some 0 from g1, bd_s, bd_s]
    dsimp only [jn]
    rw [if_pos rfl, if_pos rfl, V.2.2.2.1, nI_add]
    by_cases c : t + k ≤ 60
    · rw [if_pos (g_lle (n := 60) c (by decide)), if_pos (g_lle (n := 60) c (by decide)), if_pos rfl, if_pos rfl]
      exact ⟨_, _, _, rfl, rfl, ⟨n, t + k, V.1, c, V.2.2.1, rfl, V.2.2.2.2⟩, Or.inr ⟨_, rfl⟩⟩
    · rw [if_neg (g_nle (n := 60) (by omega) (by omega)), if_neg (g_nle (n := 60) (by omega) (by omega)), if_neg (show ¬ (-6 : Int32) = 0 by decide), if_neg (show ¬ (-6 : Int32) = 0 by decide)]
      exact bad (-6) (by unfold isW; simp)
  · rw [show fX3_outOf p1 (1 : Int32) (60 : Int32) = some w from g2, bd_s, bd_s]
    dsimp only [jn]
    rw [if_neg (isW_0 g1), if_neg (isW_0 g1), if_neg (isW_0 g1), if_neg (isW_0 g1)]
    exact bad w g1
theorem bad2 {w : Int32} (hw : isW w) (refs : AR) : ∃ z rf, bd (fX3_refuse w refs) (fun (q : Int32 × AR) => some (q.1, q.2)) = some (z, rf) ∧ bd (fX4_no w refs) (fun (q : Int32 × AR) => some (q.1, q.2)) = some (z, rf) := by
  obtain ⟨b, h1, h2⟩ := rf5 hw refs
  rw [h1, h2]
  exact ⟨w, b, rfl, rfl⟩
theorem w1 : isW (-1) := by unfold isW; simp
theorem w2 : isW (-2) := by unfold isW; simp
theorem w3 : isW (-3) := by unfold isW; simp
theorem w4 : isW (-4) := by unfold isW; simp
theorem w6 : isW (-6) := by unfold isW; simp
theorem floe_p {n t : Nat} {r : RT} (V : VR n t r) (p1 p2 : Int32) (refs : AR) : ∃ z rf, fX3_floe p1 p2 r refs = some (z, rf) ∧ fX4_floe p1 p2 r refs = some (z, rf) := by
  have h8 := V.1
  unfold fX3_floe fX4_floe
  rcases has_c V p1 with ⟨h1, h2, j, hj, rfl⟩ | ⟨h1, h2⟩
  · rw [h1, h2, bd_s, bd_s, if_neg (by decide), if_neg (by decide)]
    dsimp only [jn]
    have hj8 : j < 8 := by omega
    rcases pk_ix p2 (n := 5) (by omega) with h | h | ⟨k, hk, rfl⟩
    · have e : ∀ q : Nat, q < 5 → ¬ p2 = nI q := fun q _ e => nI_pos (n := q) (by omega) (e ▸ h)
      rw [if_pos h, if_neg (show ¬ p2 = (0 : Int32) from e 0 (by omega)), if_neg (show ¬ p2 = (1 : Int32) from e 1 (by omega)), if_neg (show ¬ p2 = (2 : Int32) from e 2 (by omega)), if_neg (show ¬ p2 = (3 : Int32) from e 3 (by omega)), if_neg (show ¬ p2 = (4 : Int32) from e 4 (by omega))]
      exact bad2 w2 refs
    · have e : ∀ q : Nat, q < 5 → ¬ p2 = nI q := fun q hq e => nI_ge (a := q) (b := 5) hq (by decide) (e ▸ h)
      have q4 : ¬ p2 ≤ (4 : Int32) := by
        rw [i_le, ti_n (by decide)] at h
        rw [i_le]
        have : (4 : Int32).toInt = 4 := rfl
        omega
      rw [if_neg (show ¬ p2 = (0 : Int32) from e 0 (by omega)), if_neg (show ¬ p2 = (1 : Int32) from e 1 (by omega)), if_neg (show ¬ p2 = (2 : Int32) from e 2 (by omega)), if_neg (show ¬ p2 = (3 : Int32) from e 3 (by omega)), if_neg (show ¬ p2 = (4 : Int32) from e 4 (by omega)), if_neg q4]
      by_cases c : p2 < 0
      · rw [if_pos c]; exact bad2 w2 refs
      · rw [if_neg c]; exact bad2 w2 refs
    · rw [if_neg (nI_pos (by omega)), if_pos (g_lle (n := 4) (by omega) (by decide))]
      unfold fX0_toldOf
      rw [h1, bd_s, if_neg (by decide)]
      simp only [ck8 hj8, cl8 hj8]
      have hk' : k = 0 ∨ k = 1 ∨ k = 2 ∨ k = 3 ∨ k = 4 := by omega
      rcases hk' with rfl | rfl | rfl | rfl | rfl
      · exact ⟨_, _, rfl, rfl⟩
      · exact ⟨_, _, rfl, rfl⟩
      · exact ⟨_, _, rfl, rfl⟩
      · exact ⟨_, _, rfl, rfl⟩
      · exact ⟨_, _, rfl, rfl⟩
  · rw [h1, h2, bd_s, bd_s, if_pos rfl, if_pos rfl]
    exact bad2 w1 refs
theorem b_z (j : Nat) : bt (0 : Int32) j = false := b_0 j
theorem is_p {n t : Nat} {r : RT} (V : VR n t r) (p1 p2 : Int32) (refs : AR) : ∃ z rf, fX3_is p1 p2 r refs = some (z, rf) ∧ fX4_is p1 p2 r refs 0 = some (z, rf) := by
  have h8 := V.1
  have ht := V.2.1
  unfold fX3_is fX4_is fX3_faultOfLook
  rw [bound_e]
  rcases has_c V p1 with ⟨h1, h2, j, hj, rfl⟩ | ⟨h1, h2⟩
  · rw [h1, h2, bd_s, bd_s, if_neg (by decide)]
    dsimp only [jn]
    rw [if_neg (by decide)]
    rcases out_c p2 0 120 (by decide) (by decide) with ⟨g1, k, -, hk, rfl⟩ | ⟨w, g1, g2⟩
    · rw [show fX3_outOf (nI k) (0 : Int32) (120 : Int32) = some 0 from g1, bd_s, bd_s, bd_s, if_pos rfl, if_pos rfl, spotOf_y V hj (by omega), whereIs_e V.2.2.2.1 (by omega) 0 (by omega) (by omega), b_z]
      exact ⟨_, _, rfl, rfl⟩
    · rw [show fX3_outOf p2 (0 : Int32) (120 : Int32) = some w from g2, bd_s, bd_s, bd_s, if_neg (isW_0 g1), if_neg (isW_0 g1)]
      exact bad2 g1 refs
  · rw [h1, h2, bd_s, bd_s, if_pos rfl]
    dsimp only [jn]
    rw [if_pos rfl, bd_s, if_neg (by decide), if_neg (by decide)]
    exact bad2 w1 refs
theorem bears_p {n t : Nat} {r : RT} (V : VR n t r) (p1 p2 : Int32) (refs : AR) : ∃ z rf, fX3_bears p1 p2 r refs = some (z, rf) ∧ fX4_bears p1 p2 r refs = some (z, rf) := by
  have h8 := V.1
  have ht := V.2.1
  unfold fX3_bears fX4_bears fX3_faultOfLook
  rw [bound_e]
  rcases has_c V p1 with ⟨h1, h2, j, hj, rfl⟩ | ⟨h1, h2⟩
  · rw [h1, h2, bd_s, bd_s, if_neg (by decide)]
    dsimp only [jn]
    rw [if_neg (by decide)]
    rcases out_c p2 0 120 (by decide) (by decide) with ⟨g1, k, -, hk, rfl⟩ | ⟨w, g1, g2⟩
    · rw [show fX3_outOf (nI k) (0 : Int32) (120 : Int32) = some 0 from g1, bd_s, bd_s, bd_s, if_pos rfl, if_pos rfl, strengthOf_y V hj (by omega), bearsIn_e r (by omega) (by omega)]
      exact ⟨_, _, rfl, rfl⟩
    · rw [show fX3_outOf p2 (0 : Int32) (120 : Int32) = some w from g2, bd_s, bd_s, bd_s, if_neg (isW_0 g1), if_neg (isW_0 g1)]
      exact bad2 g1 refs
  · rw [h1, h2, bd_s, bd_s, if_pos rfl]
    dsimp only [jn]
    rw [if_pos rfl, bd_s, if_neg (by decide), if_neg (by decide)]
    exact bad2 w1 refs
/-! ===== next, crowd, count ===== -/
theorem adj_c (r : RT) (i j : Nat) : adjB r i j = adjB r j i := by
  have : ∀ i j, adjB r i j = true → adjB r j i = true := by
    intro i j h
    unfold adjB at h ⊢
    simp only [Bool.or_eq_true_iff, decide_eq_true_iff] at h ⊢
    have e : R_homes r j - R_homes r i = -(R_homes r i - R_homes r j) := by rw [Int32.neg_sub]
    rcases h with h | h
    · right; rw [e, h]
    · left; rw [e, h]; rfl
  rw [Bool.eq_iff_iff]
  exact ⟨this i j, this j i⟩
theorem nearB_c (a b : Int32) : nearB a b = nearB b a := Bool.or_comm _ _
theorem next_in {n t : Nat} {r : RT} (V : VR n t r) {f : Nat} (hf : f < n) (K : Int32 → Option (Int32 × AR)) : ∀ d i fuel : Nat, i + d = n → d < fuel → ∀ acc : Int32, ∃ v, fX4_next_L18 0 r (nI f) K fuel acc (nI i) = K v ∧ ∀ j, j < 32 → bt v j = (bt acc j || (decide (i ≤ j) && fbB n r t 0 t f j)) := by
  have hn := V.1
  have ht := V.2.1
  intro d
  induction d with
  | zero =>
    intro i fuel hi hfu acc
    obtain ⟨fuel, rfl⟩ : ∃ m, fuel = m + 1 := ⟨fuel - 1, by omega⟩
    refine ⟨acc, ?_, fun j hj => ?_⟩
    · rw [fX4_next_L18, V.2.2.1, if_pos (nI_le (by omega) (by omega))]
    · unfold fbB
      by_cases q : j < n
      · rw [decide_eq_false (by omega)]; simp
      · rw [decide_eq_false q]; simp
  | succ d ih =>
    intro i fuel hi hfu acc
    obtain ⟨fuel, rfl⟩ : ∃ m, fuel = m + 1 := ⟨fuel - 1, by omega⟩
    rw [fX4_next_L18, V.2.2.1, if_neg (nI_ge (by omega) (by omega)), V.2.2.2.1, canLeap_e V 0 (show f < 8 by omega) (show i < 8 by omega) (show t < 2 ^ 31 by omega), bd_s, if_bI, nI1]
    have key : ∀ (acc' : Int32), (∀ j, j < 32 → bt acc' j = (bt acc j || (decide (j = i) && fbB n r t 0 t f i))) → ∃ v, fX4_next_L18 0 r (nI f) K fuel acc' (nI (i + 1)) = K v ∧ ∀ j, j < 32 → bt v j = (bt acc j || (decide (i ≤ j) && fbB n r t 0 t f j)) := by
      intro acc' h'
      obtain ⟨v, h1, h2⟩ := ih (i + 1) fuel (by omega) (by omega) acc'
      refine ⟨v, h1, fun j hj => ?_⟩
      rw [h2 j hj, h' j hj]
      by_cases e : j = i
      · subst e
        rw [decide_eq_true rfl, decide_eq_false (show ¬ j + 1 ≤ j by omega), decide_eq_true (Nat.le_refl j)]; simp
      · rw [decide_eq_false e]
        by_cases q : i + 1 ≤ j
        · rw [decide_eq_true q, decide_eq_true (show i ≤ j by omega)]; simp
        · rw [decide_eq_false q, decide_eq_false (show ¬ i ≤ j by omega)]; simp
    have hfb : fbB n r t 0 t f i = (adjB r f i && nearB (wh r t 0 t f) (wh r t 0 t i)) := by
      unfold fbB
      rw [decide_eq_true (show i < n by omega), adj_c r i f, nearB_c]; rfl
    rw [← hfb]
    cases hq : fbB n r t 0 t f i with
    | true =>
      rw [if_pos rfl]
      refine key _ (fun j hj => ?_)
      rw [b_or, sh1 (by omega) hj, hq]; simp
    | false =>
      rw [if_neg (by decide)]
      refine key _ (fun j hj => ?_)
      rw [b_or, b_0, hq]; simp
theorem next_p {n t : Nat} {r : RT} (V : VR n t r) (p1 : Int32) (la sp : AR) (ld go he st : Int32) (refs : AR) : ∃ z la' sp' ld' go' he' st' rf, fX3_next p1 la sp ld go he st r refs = some (z, la', sp', ld', go', he', st', rf) ∧ fX4_next p1 r refs 0 = some (z, rf) := by
  have h8 := V.1
  have ht := V.2.1
  unfold fX3_next fX4_next
  rcases has_c V p1 with ⟨h1, h2, j, hj, rfl⟩ | ⟨h1, h2⟩
  · rw [h1, h2, bd_s, bd_s, if_neg (by decide), if_neg (by decide)]
    unfold fX2_begin
    rw [bd_s, V.2.2.2.1]
    obtain ⟨la', sp', st', e1, L⟩ := look_e V 0 0 1 (show t + 1 < 2 ^ 31 by omega) la sp
    simp only
    rw [e1, bd_s]
    obtain ⟨v, e2, g2⟩ := beside_e V L hj
    simp only
    rw [e2, bd_s]
    obtain ⟨u, e3, g3⟩ := next_in V hj (fun (k18_2 : Int32) => some (k18_2, refs)) n 0 400 (by omega) (by omega) 0
    rw [show (0 : Int32) = nI 0 from rfl] at e3 ⊢
    rw [e3]
    have : u = v := b_ext (fun i hi => by rw [g2 i hi, g3 i hi]; simp [show nI 0 = (0 : Int32) from rfl, b_0])
    rw [this]
    exact ⟨_, _, _, _, _, _, _, _, rfl, rfl⟩
  · rw [h1, h2, bd_s, bd_s, if_pos rfl, if_pos rfl]
    obtain ⟨b, e1, e2⟩ := rf5 w1 refs
    rw [e1, e2]
    exact ⟨_, _, _, _, _, _, _, _, rfl, rfl⟩
/-- with another one -/
def shB (n : Nat) (r : RT) (m f k : Nat) : Bool := decide (k < n) && !decide (k = f) && decide (R_homes r k = R_homes r f) && decide (spv r k m = spv r f m)
def shA (n : Nat) (r : RT) (m f : Nat) : Bool := (List.range n).any (shB n r m f)
def shU (n : Nat) (r : RT) (m f : Nat) : Nat → Nat → Bool
  | 0, _ => false
  | d + 1, k => shB n r m f k || shU n r m f d (k + 1)
theorem shared_in {n t : Nat} {r : RT} (V : VR n t r) {m f : Nat} (hm : m < 2 ^ 31) (hf : f < n) (K : Unit → Option Int32) : ∀ d k fuel : Nat, k + d = n → d < fuel → fX0_isShared_L2 r (nI f) (nI m) K fuel (nI k) = if shU n r m f d k then some 1 else K () := by
  have hn := V.1
  intro d
  induction d with
  | zero =>
    intro k fuel hk hfu
    obtain ⟨fuel, rfl⟩ : ∃ m, fuel = m + 1 := ⟨fuel - 1, by omega⟩
    rw [fX0_isShared_L2, V.2.2.1, if_pos (nI_le (by omega) (by omega))]; rfl
  | succ d ih =>
    intro k fuel hk hfu
    obtain ⟨fuel, rfl⟩ : ∃ m, fuel = m + 1 := ⟨fuel - 1, by omega⟩
    have hkn : k < n := by omega
    rw [fX0_isShared_L2, V.2.2.1, if_neg (nI_ge hkn (by omega)), nI1, ih (k + 1) fuel (by omega) (by omega), laneOf_y V hkn, laneOf_y V hf, spotOf_y V hkn hm, spotOf_y V hf hm]
    simp only [bd_s]
    show _ = if (shB n r m f k || shU n r m f d (k + 1)) = true then some 1 else K ()
    unfold shB
    rw [decide_eq_true hkn]
    by_cases c1 : k = f
    · rw [if_pos (congrArg nI c1), decide_eq_true c1]; simp
    · rw [if_neg (by rw [nI_eq (by omega) (by omega)]; exact c1), decide_eq_false c1]
      by_cases c2 : R_homes r k = R_homes r f
      · rw [if_pos c2, decide_eq_true c2]
        by_cases c3 : spv r k m = spv r f m
        · rw [if_pos c3, decide_eq_true c3]; simp
        · rw [if_neg c3, decide_eq_false c3]; simp
      · rw [if_neg c2, decide_eq_false c2]; simp
theorem crowd_in {n t : Nat} {r : RT} (V : VR n t r) {m f : Nat} (hm : m < 2 ^ 31) (hf : f < n) (K : Int32 → Option (Int32 × AR)) : ∀ d k fuel : Nat, k + d = n → d < fuel → ∀ b : Bool, fX4_crowd_L38 0 r (nI m) (nI f) K fuel (bI b) (nI k) = K (bI (b || shU n r m f d k)) := by
  have hn := V.1
  have ht := V.2.1
  intro d
  induction d with
  | zero =>
    intro k fuel hk hfu b
    obtain ⟨fuel, rfl⟩ : ∃ m, fuel = m + 1 := ⟨fuel - 1, by omega⟩
    rw [fX4_crowd_L38, V.2.2.1, if_pos (nI_le (by omega) (by omega))]
    unfold shU
    rw [Bool.or_false]
  | succ d ih =>
    intro k fuel hk hfu b
    obtain ⟨fuel, rfl⟩ : ∃ m, fuel = m + 1 := ⟨fuel - 1, by omega⟩
    have hkn : k < n := by omega
    have i0 := ih (k + 1) fuel (by omega) (by omega) false
    have i1 := ih (k + 1) fuel (by omega) (by omega) true
    rw [bI_f] at i0
    rw [bI_t] at i1
    rw [fX4_crowd_L38, V.2.2.1, if_neg (nI_ge hkn (by omega)), nI1, i0, i1, whereIs_e V.2.2.2.1 (by omega) 0 (by omega) hm, whereIs_e V.2.2.2.1 (by omega) 0 (by omega) hm, b_z, b_z]
    simp only [bd_s, ck8 (show k < 8 by omega), ck8 (show f < 8 by omega), cl8 (show k < 8 by omega), cl8 (show f < 8 by omega), Bool.false_eq_true, if_false]
    rw [if_bI]
    cases b with
    | true => rw [if_pos rfl]; simp
    | false =>
      simp only [Bool.false_eq_true, if_false, if_true, Bool.false_or]
      show _ = K (bI (shB n r m f k || shU n r m f d (k + 1)))
      unfold shB
      rw [decide_eq_true hkn]
      by_cases c1 : k = f
      · rw [if_pos (congrArg nI c1), decide_eq_true c1]; simp
      · rw [if_neg (by rw [nI_eq (by omega) (by omega)]; exact c1), decide_eq_false c1]
        by_cases c2 : R_homes r k = R_homes r f
        · rw [if_pos c2, decide_eq_true c2]
          by_cases c3 : spv r k m = spv r f m
          · rw [if_pos c3, decide_eq_true c3]; simp
          · rw [if_neg c3, decide_eq_false c3]; simp
        · rw [if_neg c2, decide_eq_false c2]; simp
def cwd (n : Nat) (r : RT) (m : Nat) : Nat → Nat → Int32 → Int32
  | 0, _, a => a
  | d + 1, f, a => cwd n r m d (f + 1) (if shU n r m f n 0 then a + 1 else a)
theorem crowd_x {n t : Nat} {r : RT} (V : VR n t r) {m : Nat} (hm : m < 2 ^ 31) (K : Int32 → Option (Int32 × AR)) : ∀ d f fuel : Nat, f + d = n → d < fuel → ∀ a : Int32, fX3_crowd_L23 r (nI m) K fuel a (nI f) = K (cwd n r m d f a) := by
  have hn := V.1
  intro d
  induction d with
  | zero =>
    intro f fuel hf hfu a
    obtain ⟨fuel, rfl⟩ : ∃ m, fuel = m + 1 := ⟨fuel - 1, by omega⟩
    rw [fX3_crowd_L23, V.2.2.1, if_pos (nI_le (by omega) (by omega))]; rfl
  | succ d ih =>
    intro f fuel hf hfu a
    obtain ⟨fuel, rfl⟩ : ∃ m, fuel = m + 1 := ⟨fuel - 1, by omega⟩
    have e : fX0_isShared (nI f) (nI m) r = some (bI (shU n r m f n 0)) := by
      unfold fX0_isShared
      rw [show (0 : Int32) = nI 0 from rfl, shared_in V hm (show f < n by omega) _ n 0 400 (by omega) (by omega)]
      cases shU n r m f n 0 <;> rfl
    rw [fX3_crowd_L23, V.2.2.1, if_neg (nI_ge (show f < n by omega) (by omega)), nI1, e, bd_s, if_bI, ih (f + 1) fuel (by omega) (by omega), ih (f + 1) fuel (by omega) (by omega)]
    show _ = K (cwd n r m d (f + 1) _)
    cases shU n r m f n 0 <;> rfl
theorem crowd_m {n t : Nat} {r : RT} (V : VR n t r) {m : Nat} (hm : m < 2 ^ 31) (K : Int32 → Option (Int32 × AR)) : ∀ d f fuel : Nat, f + d = n → d < fuel → ∀ a : Int32, fX4_crowd_L23 0 r (nI m) K fuel a (nI f) = K (cwd n r m d f a) := by
  have hn := V.1
  intro d
  induction d with
  | zero =>
    intro f fuel hf hfu a
    obtain ⟨fuel, rfl⟩ : ∃ m, fuel = m + 1 := ⟨fuel - 1, by omega⟩
    rw [fX4_crowd_L23, V.2.2.1, if_pos (nI_le (by omega) (by omega))]; rfl
  | succ d ih =>
    intro f fuel hf hfu a
    obtain ⟨fuel, rfl⟩ : ∃ m, fuel = m + 1 := ⟨fuel - 1, by omega⟩
    have e := crowd_in V hm (show f < n by omega) (fun (k38_5 : Int32) => if k38_5 = 0 then (fX4_crowd_L23 0 r (nI m) K fuel (a + (0 : Int32)) (nI f + (1 : Int32))) else (fX4_crowd_L23 0 r (nI m) K fuel (a + (1 : Int32)) (nI f + (1 : Int32)))) n 0 400 (by omega) (by omega) false
    rw [fX4_crowd_L23, V.2.2.1, if_neg (nI_ge (show f < n by omega) (by omega))]
    rw [bI_f, show nI 0 = (0 : Int32) from rfl] at e
    rw [e, nI1, if_bI, Bool.false_or, ih (f + 1) fuel (by omega) (by omega), ih (f + 1) fuel (by omega) (by omega)]
    show _ = K (cwd n r m d (f + 1) _)
    cases shU n r m f n 0 with
    | true => rfl
    | false => rw [Int32.add_zero]; rfl
theorem crowd_p {n t : Nat} {r : RT} (V : VR n t r) (p1 : Int32) (refs : AR) : ∃ z rf, fX3_crowd p1 r refs = some (z, rf) ∧ fX4_crowd p1 r refs 0 = some (z, rf) := by
  have hn := V.1
  unfold fX3_crowd fX4_crowd
  rw [bound_e]
  rcases out_c p1 0 120 (by decide) (by decide) with ⟨g1, k, -, hk, rfl⟩ | ⟨w, g1, g2⟩
  · rw [show fX3_outOf (nI k) (0 : Int32) (120 : Int32) = some 0 from g1, bd_s, bd_s, if_pos rfl, if_pos rfl, show (0 : Int32) = nI 0 from rfl, crowd_x V (by omega) _ n 0 400 (by omega) (by omega)]
    have := crowd_m V (show k < 2 ^ 31 by omega) (fun (k23_3 : Int32) => some (k23_3, refs)) n 0 400 (by omega) (by omega) (nI 0)
    rw [show nI 0 = (0 : Int32) from rfl] at this ⊢
    rw [this]
    exact ⟨_, _, rfl, rfl⟩
  · rw [show fX3_outOf p1 (0 : Int32) (120 : Int32) = some w from g2, bd_s, bd_s, if_neg (isW_0 g1), if_neg (isW_0 g1)]
    exact bad2 g1 refs
theorem all_in {n t : Nat} {r : RT} (V : VR n t r) (K K' : Int32 → Option Int32) (hK : ∀ v, K v = K' v) : ∀ d f fuel fuel' : Nat, f + d = n → d < fuel → d < fuel' → ∀ a : Int32, ∃ v, fX0_allStrength_L4 r K fuel a (nI f) = K v ∧ fX4_count_L91 r K' fuel' a (nI f) = K v := by
  have hn := V.1
  have ht := V.2.1
  intro d
  induction d with
  | zero =>
    intro f fuel fuel' hf hfu hfu' a
    obtain ⟨fuel, rfl⟩ : ∃ m, fuel = m + 1 := ⟨fuel - 1, by omega⟩
    obtain ⟨fuel', rfl⟩ : ∃ m, fuel' = m + 1 := ⟨fuel' - 1, by omega⟩
    rw [fX0_allStrength_L4, fX4_count_L91, V.2.2.1, if_pos (nI_le (by omega) (by omega)), if_pos (nI_le (by omega) (by omega))]
    exact ⟨a, rfl, (hK a).symm⟩
  | succ d ih =>
    intro f fuel fuel' hf hfu hfu' a
    obtain ⟨fuel, rfl⟩ : ∃ m, fuel = m + 1 := ⟨fuel - 1, by omega⟩
    obtain ⟨fuel', rfl⟩ : ∃ m, fuel' = m + 1 := ⟨fuel' - 1, by omega⟩
    rw [fX0_allStrength_L4, fX4_count_L91, V.2.2.1, V.2.2.2.1, if_neg (nI_ge (show f < n by omega) (by omega)), if_neg (nI_ge (show f < n by omega) (by omega)), strengthOf_y V (by omega) (by omega), bearsIn_e r (by omega) (by omega), bd_s, bd_s, nI1]
    exact ih (f + 1) fuel fuel' (by omega) (by omega) (by omega) _
theorem count_p {n t : Nat} {r : RT} (V : VR n t r) (p1 : Int32) (sz inRow : Int32) (refs : AR) : ∃ z, fX3_count p1 r sz refs inRow = some z ∧ fX4_count p1 r refs sz inRow = some z := by
  have hn := V.1
  unfold fX3_count fX4_count fX4_isIn
  dsimp only [jn]
  have h1 := p1.minValue_le_toInt
  have h2 := p1.toInt_le
  have hm : (Int32.minValue).toInt = -2147483648 := rfl
  have hM : (Int32.maxValue).toInt = 2147483647 := rfl
  have e10 : (10 : Int32).toInt = 10 := rfl
  have e11 : (11 : Int32).toInt = 11 := rfl
  have e16 : (16 : Int32).toInt = 16 := rfl
  have e1 : (1 : Int32).toInt = 1 := rfl
  have e7 : (7 : Int32).toInt = 7 := rfl
  have hd : (p1 - (10 : Int32)).toInt = if p1.toInt < -2147483638 then p1.toInt - 10 + 4294967296 else p1.toInt - 10 := by
    rw [Int32.toInt_sub, e10, Int.bmod_def]
    split <;> split <;> omega
  have q1 : p1 - (10 : Int32) < (1 : Int32) ↔ (if p1.toInt < -2147483638 then p1.toInt - 10 + 4294967296 else p1.toInt - 10) < 1 := by rw [i_lt, hd, e1]
  have q7 : (7 : Int32) ≤ p1 - (10 : Int32) ↔ 7 ≤ (if p1.toInt < -2147483638 then p1.toInt - 10 + 4294967296 else p1.toInt - 10) := by rw [i_le, hd, e7]
  have tail : ∃ z, (if p1 = (0 : Int32) then (some (R_lanes r)) else (if p1 = (1 : Int32) then (some (R_floes r)) else (if p1 = (2 : Int32) then (some (R_minute r)) else (if p1 = (3 : Int32) then (some inRow) else (if p1 = (4 : Int32) then (some sz) else (if p1 = (5 : Int32) then (bd (fX0_allStrength r) (fun (q105 : Int32) => some q105)) else (some (-9 : Int32)))))))) = some z ∧ (if p1 = (0 : Int32) then (some (R_lanes r)) else (if p1 = (1 : Int32) then (some (R_floes r)) else (if p1 = (2 : Int32) then (some (R_minute r)) else (if p1 = (3 : Int32) then (some inRow) else (if p1 = (4 : Int32) then (some sz) else (if p1 = (5 : Int32) then (fX4_count_L91 r (fun (k91_2 : Int32) => some k91_2) 400 (0 : Int32) (0 : Int32)) else (some (-9 : Int32)))))))) = some z := by
    obtain ⟨v, h3, h4⟩ := all_in V (fun (k4_1 : Int32) => some k4_1) (fun (k91_2 : Int32) => some k91_2) (fun _ => rfl) n 0 400 400 (by omega) (by omega) (by omega) 0
    have h3' : fX0_allStrength r = some v := h3
    have h4' : fX4_count_L91 r (fun (k91_2 : Int32) => some k91_2) 400 (0 : Int32) (0 : Int32) = some v := h4
    rw [h3', h4', bd_s]
    by_cases c0 : p1 = (0 : Int32)
    · rw [if_pos c0]; exact ⟨_, rfl, rfl⟩
    rw [if_neg c0]
    by_cases c1 : p1 = (1 : Int32)
    · rw [if_pos c1]; exact ⟨_, rfl, rfl⟩
    rw [if_neg c1]
    by_cases c2 : p1 = (2 : Int32)
    · rw [if_pos c2]; exact ⟨_, rfl, rfl⟩
    rw [if_neg c2]
    by_cases c3 : p1 = (3 : Int32)
    · rw [if_pos c3]; exact ⟨_, rfl, rfl⟩
    rw [if_neg c3]
    by_cases c4 : p1 = (4 : Int32)
    · rw [if_pos c4]; exact ⟨_, rfl, rfl⟩
    rw [if_neg c4]
    by_cases c5 : p1 = (5 : Int32)
    · rw [if_pos c5]; exact ⟨_, rfl, rfl⟩
    rw [if_neg c5]
    exact ⟨_, rfl, rfl⟩
  by_cases c1 : p1 - (10 : Int32) < (1 : Int32)
  · rw [if_pos c1]
    by_cases d1 : p1 < (11 : Int32)
    · rw [if_pos d1, bd_s, if_pos rfl]; exact tail
    · exfalso
      rw [i_lt, e11] at d1
      rw [q1] at c1
      split at c1 <;> omega
  · rw [if_neg c1]
    by_cases c2 : (7 : Int32) ≤ p1 - (10 : Int32)
    · rw [if_pos c2]
      by_cases d1 : p1 < (11 : Int32)
      · rw [if_pos d1, bd_s, if_pos rfl]; exact tail
      · rw [if_neg d1]
        by_cases d2 : (16 : Int32) < p1
        · rw [if_pos d2, bd_s, if_pos rfl]; exact tail
        · exfalso
          rw [i_lt, e11] at d1
          rw [i_lt, e16] at d2
          rw [q7] at c2
          split at c2 <;> omega
    · rw [if_neg c2]
      rw [q1] at c1
      rw [q7] at c2
      have r1 : p1 - (10 : Int32) = nI (p1.toInt - 10).toNat := i_of (by rw [hd]; split at c1 <;> split at c2 <;> split <;> omega) (by omega)
      have r2 : (p1.toInt - 10).toNat < 7 := by split at c1 <;> split at c2 <;> omega
      have d1 : ¬ p1 < (11 : Int32) := by rw [i_lt, e11]; split at c1 <;> split at c2 <;> omega
      have d2 : ¬ (16 : Int32) < p1 := by rw [i_lt, e16]; split at c1 <;> split at c2 <;> omega
      rw [if_neg d1, if_neg d2, bd_s, if_neg (by decide), r1, ck_n _ r2 (by decide)]
      exact ⟨_, rfl, rfl⟩
