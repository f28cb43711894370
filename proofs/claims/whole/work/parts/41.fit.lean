/-! ===== kinds and paces that fit ===== -/
def allF (g : Nat → Bool) : Nat → Nat → Bool
  | 0, _ => true
  | d + 1, i => g i && allF g d (i + 1)
theorem allF_c {g g' : Nat → Bool} (h : ∀ i, g i = g' i) : ∀ d i, allF g d i = allF g' d i := by
  intro d
  induction d with
  | zero => intro i; rfl
  | succ d ih => intro i; unfold allF; rw [h i, ih]
def XI (se : AR) (kd pa : Int32) (i : Nat) : Int32 := if kd = 4 then se 0 else rnd (se 0 + pa * (if kd = 3 then nI (trn i) else nI i))
theorem fits_x {se : AR} {s : Nat} (hs : s ≤ 12) (kd pa : Int32) (K : Unit → Option Int32) : ∀ d i fuel : Nat, i + d = s → d < fuel → fX3_fitsRow_L22 (nI s) se pa kd K fuel (nI i) = if allF (fun i => decide (se i = XI se kd pa i)) d i then K () else some 0 := by
  intro d
  induction d with
  | zero =>
    intro i fuel hi hf
    obtain ⟨fuel, rfl⟩ : ∃ m, fuel = m + 1 := ⟨fuel - 1, by omega⟩
    rw [fX3_fitsRow_L22, if_pos (nI_le (by omega) (by omega))]; rfl
  | succ d ih =>
    intro i fuel hi hf
    obtain ⟨fuel, rfl⟩ : ∃ m, fuel = m + 1 := ⟨fuel - 1, by omega⟩
    have e0 : ∀ a : Option Int32, ck (0 : Int32) 12 a = a := fun a => ck_n (j := 0) a (by decide) (by decide)
    rw [fX3_fitsRow_L22, if_neg (nI_ge (show i < s by omega) (by omega)), if_neg (g_ge (n := 12) (by omega) (by decide)), ck_n _ (show i < 12 by omega) (by decide), e0, spotAt_e _ _ _ (by omega), bd_s, cl_n (by omega), nI1, ih (i + 1) fuel (by omega) (by omega)]
    show (if se i = XI se kd pa i then _ else _) = if (decide (se i = XI se kd pa i) && allF _ d (i + 1)) = true then _ else _
    by_cases c : se i = XI se kd pa i
    · rw [if_pos c, decide_eq_true c, Bool.true_and]
    · rw [if_neg c, decide_eq_false c, Bool.false_and]; rfl
def YI (se : AR) (k : Nat) (pa : Int32) (i : Nat) : Int32 := rnd (se 0 + pa * (if k = 2 then 0 else if k = 1 then nI (trn i) else nI i))
theorem fits_m {se : AR} {s : Nat} (hs : s ≤ 12) {k : Nat} (hk : k < 3) (pa : Int32) (K : Unit → Option Int32) : ∀ d i fuel : Nat, i + d = s → d < fuel → fX4_isSeen_L2 se (nI s) (nI k) pa K fuel (nI i) = if allF (fun i => !decide ((9 : Int32) < se i) && decide (se i = YI se k pa i)) d i then K () else some 0 := by
  intro d
  induction d with
  | zero =>
    intro i fuel hi hf
    obtain ⟨fuel, rfl⟩ : ∃ m, fuel = m + 1 := ⟨fuel - 1, by omega⟩
    rw [fX4_isSeen_L2, if_pos (nI_le (by omega) (by omega))]; rfl
  | succ d ih =>
    intro i fuel hi hf
    obtain ⟨fuel, rfl⟩ : ∃ m, fuel = m + 1 := ⟨fuel - 1, by omega⟩
    have e0 : ∀ a : Option Int32, ck (0 : Int32) 12 a = a := fun a => ck_n (j := 0) a (by decide) (by decide)
    rw [fX4_isSeen_L2, if_neg (nI_ge (show i < s by omega) (by omega)), turned_e (by omega), nI1, ih (i + 1) fuel (by omega) (by omega)]
    dsimp only [jn]
    simp only [bd_s, ck_n _ (show i < 12 by omega) (show 12 < 2 ^ 31 by decide), e0, cl_n (show i < 2 ^ 31 by omega), round_e]
    have goal : ∀ v : Int32, YI se k pa i = rnd (se 0 + pa * v) → (if (9 : Int32) < se i then some (0 : Int32) else if se i = rnd (se 0 + pa * v) then (if allF (fun i => !decide ((9 : Int32) < se i) && decide (se i = YI se k pa i)) d (i + 1) = true then K () else some 0) else some 0) = if allF (fun i => !decide ((9 : Int32) < se i) && decide (se i = YI se k pa i)) (d + 1) i = true then K () else some 0 := by
      intro v hv
      show _ = if ((!decide ((9 : Int32) < se i) && decide (se i = YI se k pa i)) && allF _ d (i + 1)) = true then _ else _
      rw [← hv]
      by_cases c : (9 : Int32) < se i
      · rw [if_pos c, decide_eq_true c]; rfl
      · rw [if_neg c, decide_eq_false c]
        by_cases c2 : se i = YI se k pa i
        · rw [if_pos c2, decide_eq_true c2]; rfl
        · rw [if_neg c2, decide_eq_false c2]; rfl
    by_cases k2 : k = 2
    · rw [if_pos (g_eq (n := 2) k2)]
      exact goal 0 (by unfold YI; rw [if_pos k2])
    · rw [if_neg (g_ne (n := 2) k2 (by omega) (by decide))]
      by_cases k1 : k = 1
      · rw [if_pos (g_eq (n := 1) k1)]
        exact goal _ (by unfold YI; rw [if_neg k2, if_pos k1])
      · rw [if_neg (g_ne (n := 1) k1 (by omega) (by decide))]
        exact goal _ (by unfold YI; rw [if_neg k2, if_neg k1])
theorem rnd_s : ∀ b, b < 10 → rnd (nI b) = nI b := by decide +kernel
def kdK (k : Nat) : Int32 := if k = 0 then 0 else if k = 1 then 3 else 4
theorem XY {se : AR} {k : Nat} (hk : k < 3) (pa : Int32) {b : Nat} (hb : b < 10) (h0 : se 0 = nI b) (i : Nat) : XI se (kdK k) pa i = YI se k pa i ∧ ∃ w, w < 10 ∧ XI se (kdK k) pa i = nI w := by
  unfold XI YI kdK
  have hk' : k = 0 ∨ k = 1 ∨ k = 2 := by omega
  rcases hk' with rfl | rfl | rfl
  · exact ⟨rfl, rnd_in _⟩
  · exact ⟨rfl, rnd_in _⟩
  · refine ⟨?_, b, hb, h0⟩
    show se 0 = rnd (se 0 + pa * 0)
    rw [Int32.mul_zero, Int32.add_zero, h0, rnd_s b hb]
theorem fits_e {se : AR} {s : Nat} (hs : s ≤ 12) (hse : ∀ j, ∃ b, b ≤ 12 ∧ se j = nI b) {k : Nat} (hk : k < 3) (pa : Int32) : ∃ b : Bool, fX3_fitsRow (nI k) pa se (nI s) = some (bI b) ∧ fX4_isSeen (nI k) pa se (nI s) = some (bI b) := by
  have e0 : ∀ a : Option Int32, ck (0 : Int32) 12 a = a := fun a => ck_n (j := 0) a (by decide) (by decide)
  have cls : fX3_fitsRow (nI k) pa se (nI s) = if allF (fun i => decide (se i = XI se (kdK k) pa i)) s 0 then (if s = 0 then some 0 else fX3_isCell (se 0)) else some 0 := by
    unfold fX3_fitsRow
    dsimp only [jn]
    have hX := fun kd => fits_x hs (se := se) kd pa (fun (_ : Unit) => if nI s ≤ 0 then (some (0 : Int32)) else (ck (0 : Int32) 12 (bd (fX3_isCell (se ((0 : Int32)).toNatClampNeg)) (fun (q85 : Int32) => if q85 = 0 then (some (0 : Int32)) else (some (1 : Int32)))))) s 0 400 (by omega) (by omega)
    have hend : (if nI s ≤ 0 then (some (0 : Int32)) else (ck (0 : Int32) 12 (bd (fX3_isCell (se ((0 : Int32)).toNatClampNeg)) (fun (q85 : Int32) => if q85 = 0 then (some (0 : Int32)) else (some (1 : Int32)))))) = if s = 0 then some 0 else fX3_isCell (se 0) := by
      by_cases c : s = 0
      · rw [if_pos c, c, if_pos (by decide)]
      · rw [if_neg c, if_neg (nI_nle (by omega) (by omega)), e0]
        show bd (fX3_isCell (se 0)) _ = _
        rcases isCell_c (se 0) with ⟨h, -⟩ | ⟨h, -⟩ <;> rw [h] <;> rfl
    rw [show nI 0 = (0 : Int32) from rfl] at hX
    have hk' : k = 0 ∨ k = 1 ∨ k = 2 := by omega
    rcases hk' with rfl | rfl | rfl
    · rw [if_pos (by decide)]
      refine (hX 0).trans ?_
      rw [hend]
      rfl
    · rw [if_neg (by decide), if_pos (by decide)]
      refine (hX 3).trans ?_
      rw [hend]
      rfl
    · rw [if_neg (by decide), if_neg (by decide)]
      refine (hX 4).trans ?_
      rw [hend]
      rfl
  have mdl : fX4_isSeen (nI k) pa se (nI s) = if allF (fun i => !decide ((9 : Int32) < se i) && decide (se i = YI se k pa i)) s 0 then (if s = 0 then some 0 else some 1) else some 0 := by
    unfold fX4_isSeen
    have h0 := fits_m hs hk pa (fun (_ : Unit) => if nI s ≤ 0 then (some (0 : Int32)) else (some (1 : Int32))) s 0 400 (by omega) (by omega) (se := se)
    rw [show nI 0 = (0 : Int32) from rfl] at h0
    refine h0.trans ?_
    by_cases c : s = 0
    · rw [if_pos c, c, if_pos (show nI 0 ≤ 0 by decide)]
    · rw [if_neg c, if_neg (nI_nle (by omega) (by omega))]
  rw [cls, mdl]
  by_cases c : s = 0
  · rw [if_pos c, if_pos c]
    refine ⟨false, ?_, ?_⟩ <;> split <;> rfl
  · rw [if_neg c, if_neg c]
    obtain ⟨b, hb, h0⟩ := hse 0
    by_cases cb : b < 10
    · have e : allF (fun i => !decide ((9 : Int32) < se i) && decide (se i = YI se k pa i)) s 0 = allF (fun i => decide (se i = XI se (kdK k) pa i)) s 0 := by
        refine allF_c (fun i => ?_) s 0
        obtain ⟨h1, w, hw, h2⟩ := XY hk pa cb h0 i
        rw [← h1]
        by_cases q : se i = XI se (kdK k) pa i
        · rw [decide_eq_true q, q, h2, decide_eq_false (g_ngt (n := 9) (by omega) (by decide))]; rfl
        · rw [decide_eq_false q, Bool.and_false]
      rw [e, h0]
      have : fX3_isCell (nI b) = some 1 := by
        unfold fX3_isCell
        rw [if_neg (nI_pos (by omega)), if_neg (g_ge (n := 10) cb (by decide))]
      rw [this]
      cases allF (fun i => decide (se i = XI se (kdK k) pa i)) s 0 with
      | true => exact ⟨true, rfl, rfl⟩
      | false => exact ⟨false, rfl, rfl⟩
    · have e : allF (fun i => !decide ((9 : Int32) < se i) && decide (se i = YI se k pa i)) s 0 = false := by
        obtain ⟨s, rfl⟩ : ∃ m, s = m + 1 := ⟨s - 1, by omega⟩
        show ((!decide ((9 : Int32) < se 0) && _) && _) = false
        rw [h0, decide_eq_true (g_gt (n := 9) (by omega) (by omega))]; rfl
      have : fX3_isCell (se 0) = some 0 := by
        rw [h0]
        unfold fX3_isCell
        rw [if_neg (nI_pos (by omega)), if_pos (g_le (n := 10) (by omega) (by omega))]
      rw [e, this]
      refine ⟨false, ?_, rfl⟩
      split <;> rfl
/-- the fifteen, one by one -/
def ftB (se : AR) (s : Nat) (k : Nat) : Bool := fX4_isSeen (nI (k / 5)) (nI (k % 5) - (2 : Int32)) se (nI s) == some 1
theorem ftB_e {se : AR} {s : Nat} (hs : s ≤ 12) (hse : ∀ j, ∃ b, b ≤ 12 ∧ se j = nI b) {k : Nat} (hk : k < 15) : fX3_fitsRow (nI (k / 5)) (nI (k % 5) - (2 : Int32)) se (nI s) = some (bI (ftB se s k)) ∧ fX4_isSeen (nI (k / 5)) (nI (k % 5) - (2 : Int32)) se (nI s) = some (bI (ftB se s k)) := by
  obtain ⟨b, h1, h2⟩ := fits_e hs hse (show k / 5 < 3 by omega) (nI (k % 5) - (2 : Int32))
  have : ftB se s k = b := by
    unfold ftB
    rw [h2]
    cases b <;> decide
  rw [this]
  exact ⟨h1, h2⟩
def fo (g : Nat → Bool) : Nat → Nat → Int32 → Int32 → Int32 × Int32
  | 0, _, m, f => (m, f)
  | d + 1, k, m, f => if g k then fo g d (k + 1) (m + 1) (if m = 0 then nI (10 * (k / 5) + k % 5) else f) else fo g d (k + 1) m f
theorem fo_s (g : Nat → Bool) (d k : Nat) (m f : Int32) : fo g (d + 1) k m f = if g k then fo g d (k + 1) (m + 1) (if m = 0 then nI (10 * (k / 5) + k % 5) else f) else fo g d (k + 1) m f := rfl
theorem fo_add (g : Nat → Bool) (e : Nat) : ∀ d k m f, fo g (d + e) k m f = fo g e (k + d) (fo g d k m f).1 (fo g d k m f).2 := by
  intro d
  induction d with
  | zero => intro k m f; rw [Nat.zero_add]; rfl
  | succ d ih =>
    intro k m f
    rw [show d + 1 + e = (d + e) + 1 by omega, fo_s g (d + e), fo_s g d]
    cases g k with
    | true =>
      simp only [if_true]
      rw [ih, show k + 1 + d = k + (d + 1) by omega]
    | false =>
      simp only [Bool.false_eq_true, if_false]
      rw [ih, show k + 1 + d = k + (d + 1) by omega]
theorem fit_m {se : AR} {s : Nat} (hs : s ≤ 12) (hse : ∀ j, ∃ b, b ≤ 12 ∧ se j = nI b) (K : Int32 → Int32 → Option (Int32 × AR)) : ∀ d k fuel : Nat, k + d = 15 → d < fuel → ∀ m f : Int32, fX4_fitting_L24 se (nI s) K fuel m f (nI k) = K (fo (ftB se s) d k m f).1 (fo (ftB se s) d k m f).2 := by
  intro d
  induction d with
  | zero =>
    intro k fuel hk hf m f
    obtain ⟨fuel, rfl⟩ : ∃ q, fuel = q + 1 := ⟨fuel - 1, by omega⟩
    rw [fX4_fitting_L24, if_pos (g_le (n := 15) (by omega) (by omega))]; rfl
  | succ d ih =>
    intro k fuel hk hf m f
    obtain ⟨fuel, rfl⟩ : ∃ q, fuel = q + 1 := ⟨fuel - 1, by omega⟩
    have m5 : nI k - nI k / (5 : Int32) * (5 : Int32) = nI (k % 5) := pk_rem (d := 5) (by omega) (by decide) (by decide)
    have d5 : nI k / (5 : Int32) = nI (k / 5) := pk_div (d := 5) (by omega) (by decide) (by decide)
    have t5 : (10 : Int32) * nI (k / 5) + nI (k % 5) = nI (10 * (k / 5) + k % 5) := by rw [show (10 : Int32) = nI 10 from rfl, pk_mul, nI_add]
    rw [fX4_fitting_L24, if_neg (g_ge (n := 15) (by omega) (by decide)), m5, d5, (ftB_e hs hse (show k < 15 by omega)).2, bd_s, if_bI, t5, nI1]
    unfold fo
    cases ftB se s k with
    | false =>
      simp only [Bool.false_eq_true, if_false]
      exact ih (k + 1) fuel (by omega) (by omega) m f
    | true =>
      simp only [if_true]
      by_cases c : m = 0
      · rw [if_pos c, if_pos c]
        exact ih (k + 1) fuel (by omega) (by omega) _ _
      · rw [if_neg c, if_neg c]
        exact ih (k + 1) fuel (by omega) (by omega) _ _
theorem pace_t : ∀ b, b < 5 → ¬ (2 : Int32) < nI b - (2 : Int32) ∧ nI b - (2 : Int32) + (1 : Int32) = nI (b + 1) - (2 : Int32) := by decide +kernel
theorem code_t : ∀ a, a < 3 → ∀ b, b < 5 → (((10 : Int32) * nI a) + (nI b - (2 : Int32))) + (2 : Int32) = nI (10 * a + b) := by decide +kernel
theorem fit_x1 {se : AR} {s : Nat} (hs : s ≤ 12) (hse : ∀ j, ∃ b, b ≤ 12 ∧ se j = nI b) {a : Nat} (ha : a < 3) (K : Int32 → Int32 → Option (Int32 × AR)) : ∀ d b fuel : Nat, b + d = 5 → d < fuel → ∀ m f : Int32, fX3_fitting_L34 (nI s) se (nI a) K fuel m f (nI b - (2 : Int32)) = K (fo (ftB se s) d (5 * a + b) m f).1 (fo (ftB se s) d (5 * a + b) m f).2 := by
  intro d
  induction d with
  | zero =>
    intro b fuel hb hf m f
    obtain ⟨fuel, rfl⟩ : ∃ q, fuel = q + 1 := ⟨fuel - 1, by omega⟩
    rw [fX3_fitting_L34, show b = 5 by omega, if_pos (by decide)]; rfl
  | succ d ih =>
    intro b fuel hb hf m f
    obtain ⟨fuel, rfl⟩ : ∃ q, fuel = q + 1 := ⟨fuel - 1, by omega⟩
    have e := (ftB_e hs hse (show 5 * a + b < 15 by omega)).1
    rw [show (5 * a + b) / 5 = a by omega, show (5 * a + b) % 5 = b by omega] at e
    rw [fX3_fitting_L34, if_neg (pace_t b (by omega)).1, e, bd_s, if_bI, code_t a ha b (by omega), (pace_t b (by omega)).2]
    unfold fo
    rw [show (5 * a + b) / 5 = a by omega, show (5 * a + b) % 5 = b by omega, show 5 * a + b + 1 = 5 * a + (b + 1) by omega]
    cases ftB se s (5 * a + b) with
    | false =>
      simp only [Bool.false_eq_true, if_false]
      exact ih (b + 1) fuel (by omega) (by omega) m f
    | true =>
      simp only [if_true]
      by_cases c : m = 0
      · rw [if_pos c, if_pos c]
        exact ih (b + 1) fuel (by omega) (by omega) _ _
      · rw [if_neg c, if_neg c]
        exact ih (b + 1) fuel (by omega) (by omega) _ _
theorem fit_x {se : AR} {s : Nat} (hs : s ≤ 12) (hse : ∀ j, ∃ b, b ≤ 12 ∧ se j = nI b) (K : Int32 → Int32 → Option (Int32 × AR)) : ∀ d a fuel : Nat, a + d = 3 → d < fuel → ∀ m f : Int32, fX3_fitting_L24 (nI s) se K fuel m f (nI a) = K (fo (ftB se s) (5 * d) (5 * a) m f).1 (fo (ftB se s) (5 * d) (5 * a) m f).2 := by
  intro d
  induction d with
  | zero =>
    intro a fuel hb hf m f
    obtain ⟨fuel, rfl⟩ : ∃ q, fuel = q + 1 := ⟨fuel - 1, by omega⟩
    rw [fX3_fitting_L24, if_pos (g_gt (n := 2) (by omega) (by omega))]; rfl
  | succ d ih =>
    intro a fuel hb hf m f
    obtain ⟨fuel, rfl⟩ : ∃ q, fuel = q + 1 := ⟨fuel - 1, by omega⟩
    have e := fit_x1 hs hse (show a < 3 by omega) (fun (k34_2 : Int32) (k34_3 : Int32) => fX3_fitting_L24 (nI s) se K fuel k34_2 k34_3 (nI a + (1 : Int32))) 5 0 400 (by omega) (by omega) m f
    rw [show nI 0 - (2 : Int32) = (-2 : Int32) from by decide] at e
    rw [fX3_fitting_L24, if_neg (g_ngt (n := 2) (by omega) (by decide)), e, nI1, ih (a + 1) fuel (by omega) (by omega), show 5 * (d + 1) = 5 + 5 * d by omega, fo_add, show 5 * (a + 1) = 5 * a + 5 by omega]
    rfl
theorem fitting_p (p1 : Int32) {se : AR} {s : Nat} (hs : s ≤ 12) (hse : ∀ j, ∃ b, b ≤ 12 ∧ se j = nI b) (refs : AR) : ∃ z rf, fX3_fitting p1 se refs (nI s) = some (z, rf) ∧ fX4_fitting p1 refs se (nI s) = some (z, rf) := by
  unfold fX3_fitting fX4_fitting fX4_isIn
  dsimp only [jn]
  by_cases c1 : p1 < 0
  · rw [if_pos c1, if_pos c1, bd_s, if_pos rfl]
    exact bad2 w2 refs
  · rw [if_neg c1, if_neg c1]
    by_cases c2 : p1 ≤ (1 : Int32)
    · rw [if_pos c2, if_neg (Int32.not_lt.mpr c2), bd_s, if_neg (by decide)]
      have e1 := fit_x hs hse (fun (k24_2 : Int32) (k24_3 : Int32) => if p1 = 0 then (some (k24_2, refs)) else (some (k24_3, refs))) 3 0 400 (by omega) (by omega) 0 (-9)
      have e2 := fit_m hs hse (fun (k24_2 : Int32) (k24_3 : Int32) => if p1 = 0 then (some (k24_2, refs)) else (some (k24_3, refs))) 15 0 400 (by omega) (by omega) 0 (-9)
      rw [show nI 0 = (0 : Int32) from rfl] at e1 e2
      rw [e1, e2]
      by_cases c : p1 = 0
      · rw [if_pos c]; exact ⟨_, _, rfl, rfl⟩
      · rw [if_neg c]; exact ⟨_, _, rfl, rfl⟩
    · rw [if_neg c2, if_pos (Int32.not_le.mp c2), bd_s, if_pos rfl]
      exact bad2 w2 refs
