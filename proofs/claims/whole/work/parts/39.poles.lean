/-! ===== held by poles ===== -/
/-- only the two floes' own bits count -/
theorem edge_pl {n t : Nat} {r : RT} (p p' ba ld : Int32) (k a b : Nat) (ha : 10 ≤ a → a < 18 → bt p (a - 10) = bt p' (a - 10)) (hb : 10 ≤ b → b < 18 → bt p (b - 10) = bt p' (b - 10)) : edgeE n r t p ba ld k a b = edgeE n r t p' ba ld k a b := by
  have h : leapE n r t p ba ld k a b = leapE n r t p' ba ld k a b := by
    unfold leapE wh
    by_cases cb : 10 ≤ b ∧ b < 18
    · rw [if_pos cb, if_pos cb, hb cb.1 cb.2]
      by_cases ca : a < 10
      · rw [if_pos ca, if_pos ca]
      · rw [if_neg ca, if_neg ca]
        by_cases c2 : a < 18
        · rw [ha (by omega) c2]
        · rw [decide_eq_false c2]; simp
    · rw [if_neg cb, if_neg cb]
      by_cases ca : 10 ≤ a ∧ a < 18
      · rw [if_pos ca, if_pos ca, ha ca.1 ca.2]
      · rw [if_neg ca, if_neg ca]
  unfold edgeE
  rw [h]
def plb (p : Nat) (h : Bool) : Int32 := if h ∧ 10 ≤ p ∧ p < 18 then (1 : Int32) <<< (nI (p - 10) &&& 31) else 0
theorem plb_b (p : Nat) (h : Bool) {i : Nat} (hi : i < 8) : bt (plb p h) i = (h && decide (p = i + 10)) := by
  unfold plb
  by_cases c : h = true ∧ 10 ≤ p ∧ p < 18
  · rw [if_pos c, sh1 (by omega) (by omega), c.1, Bool.true_and, Bool.eq_iff_iff, decide_eq_true_iff, decide_eq_true_iff]
    omega
  · rw [if_neg c, b_0]
    cases h with
    | false => rfl
    | true =>
      rw [Bool.true_and]
      symm
      rw [decide_eq_false_iff_not]
      intro e
      exact c ⟨rfl, by omega, by omega⟩
theorem floeBit_e {p : Nat} (hp : p < 19) (h : Bool) : fX4_floeBit (nI p) (bI h) = some (plb p h) := by
  unfold fX4_floeBit plb
  rw [if_bI1]
  cases h with
  | false => rfl
  | true =>
    rw [if_pos rfl, isIn_e (by omega), bd_s, if_bI]
    by_cases c : 10 ≤ p ∧ p < 18
    · rw [decide_eq_true c, if_pos rfl, if_pos ⟨rfl, c⟩, n10 c.1]
    · rw [decide_eq_false c, if_neg (by decide), if_neg (fun g => c g.2)]
/-- whether one may come from a to b, a held or not, b held or not -/
def LFB (n : Nat) (r : RT) (t : Nat) (ld : Int32) (k a : Nat) (hf ht : Bool) (b : Nat) : Bool := edgeE n r t (plb a hf ||| plb b ht) 0 ld k a b
theorem half_t : ∀ h, h < 4 → nI h / (2 : Int32) = bI (decide (2 ≤ h)) ∧ nI h - nI h / (2 : Int32) * (2 : Int32) = bI (decide (h % 2 = 1)) := by decide +kernel
theorem lands_in {n t : Nat} {r : RT} (V : VR n t r) (ld : Int32) {k : Nat} (hk : k + 1 < 2 ^ 31) {a h : Nat} (ha : a < 19) (hh : h < 4) (K : Int32 → Int32 → Option (Int32 × Int32)) : ∀ d b fuel : Nat, b + d = 19 → d < fuel → ∀ acc p : Int32, ∃ v p', fX4_landsFrom_L6 0 r (nI a) (nI h) ld (nI k) K fuel acc (nI b) p = K v p' ∧ ∀ i, i < 32 → bt v i = (bt acc i || (decide (b ≤ i ∧ i < 19) && LFB n r t ld k a (decide (2 ≤ h)) (decide (h % 2 = 1)) i)) := by
  intro d
  induction d with
  | zero =>
    intro b fuel hb hf acc p
    obtain ⟨fuel, rfl⟩ : ∃ m, fuel = m + 1 := ⟨fuel - 1, by omega⟩
    refine ⟨acc, p, ?_, fun i hi => ?_⟩
    · rw [fX4_landsFrom_L6, if_pos (g_le (n := 19) (by omega) (by omega))]
    · rw [decide_eq_false (by omega)]; simp
  | succ d ih =>
    intro b fuel hb hf acc p
    obtain ⟨fuel, rfl⟩ : ∃ m, fuel = m + 1 := ⟨fuel - 1, by omega⟩
    rw [fX4_landsFrom_L6, if_neg (g_ge (n := 19) (by omega) (by decide)), (half_t h hh).2, (half_t h hh).1, floeBit_e ha, bd_s, floeBit_e (show b < 19 by omega), bd_s, mayStay_e r 0 ld ha (by omega) hk, bd_s, mayLeap_e V _ 0 ld ha (by omega) hk, nI1]
    dsimp only [jn]
    rw [bd_s, if_bI, if_bI]
    have key : ∀ (acc' p1 : Int32), (∀ i, i < 32 → bt acc' i = (bt acc i || (decide (i = b) && LFB n r t ld k a (decide (2 ≤ h)) (decide (h % 2 = 1)) b))) → ∃ v p', fX4_landsFrom_L6 0 r (nI a) (nI h) ld (nI k) K fuel acc' (nI (b + 1)) p1 = K v p' ∧ ∀ i, i < 32 → bt v i = (bt acc i || (decide (b ≤ i ∧ i < 19) && LFB n r t ld k a (decide (2 ≤ h)) (decide (h % 2 = 1)) i)) := by
      intro acc' p1 h'
      obtain ⟨v, p', h1, h2⟩ := ih (b + 1) fuel (by omega) (by omega) acc' p1
      refine ⟨v, p', h1, fun i hi => ?_⟩
      rw [h2 i hi, h' i hi]
      by_cases e : i = b
      · subst e
        rw [decide_eq_true (show i = i from rfl), decide_eq_false (show ¬ (i + 1 ≤ i ∧ i < 19) by omega), decide_eq_true (show i ≤ i ∧ i < 19 by omega)]
        simp
      · rw [decide_eq_false e]
        by_cases q : b + 1 ≤ i ∧ i < 19
        · rw [decide_eq_true q, decide_eq_true (show b ≤ i ∧ i < 19 by omega)]; simp
        · rw [decide_eq_false q, decide_eq_false (show ¬ (b ≤ i ∧ i < 19) by omega)]; simp
    have hor : ∀ i, i < 32 → bt (acc ||| ((1 : Int32) <<< (nI b &&& 31))) i = (bt acc i || decide (i = b)) := fun i hi => by rw [b_or, sh1 (by omega) hi]
    cases hs : stayE r 0 ld k a b with
    | true =>
      simp only [if_true]
      exact key _ _ (fun i hi => by rw [hor i hi]; unfold LFB edgeE; rw [hs]; simp)
    | false =>
      cases hl : leapE n r t (plb a (decide (2 ≤ h)) ||| plb b (decide (h % 2 = 1))) 0 ld k a b with
      | true =>
        simp only [if_true, Bool.false_eq_true, if_false]
        exact key _ _ (fun i hi => by rw [hor i hi]; unfold LFB edgeE; rw [hs, hl]; simp)
      | false =>
        simp only [Bool.false_eq_true, if_false]
        exact key _ _ (fun i hi => by rw [or_z]; unfold LFB edgeE; rw [hs, hl]; simp)
/-- one entry of the table -/
def LE1 (n : Nat) (r : RT) (t : Nat) (ld : Int32) (i : Nat) (x : Int32) : Prop := ∀ j, j < 32 → bt x j = (decide (j < 19) && LFB n r t ld (t + i / 4 / 19) (i / 4 % 19) (decide (2 ≤ i % 4)) (decide (i % 4 % 2 = 1)) j)
theorem finds_in {n t : Nat} {r : RT} (V : VR n t r) (ld : Int32) (K : Int32 → AR → Option (Int32 × AR)) : ∀ d i fuel : Nat, i + d = 3116 → d < fuel → ∀ (lands : AR), (∀ q, q < i → LE1 n r t ld q (lands q)) → ∃ lands' : AR, fX4_findLands_L2 0 r ld K fuel (nI i) 0 lands = K 0 lands' ∧ ∀ q, q < 3116 → LE1 n r t ld q (lands' q) := by
  have ht := V.2.1
  intro d
  induction d with
  | zero =>
    intro i fuel hi hf lands h
    obtain ⟨fuel, rfl⟩ : ∃ m, fuel = m + 1 := ⟨fuel - 1, by omega⟩
    exact ⟨lands, by rw [fX4_findLands_L2, if_pos (g_le (n := 3116) (by omega) (by omega))], fun q hq => h q (by omega)⟩
  | succ d ih =>
    intro i fuel hi hf lands h
    obtain ⟨fuel, rfl⟩ : ∃ m, fuel = m + 1 := ⟨fuel - 1, by omega⟩
    have m19 : nI (i / 4) - nI (i / 4) / (19 : Int32) * (19 : Int32) = nI (i / 4 % 19) := pk_rem (d := 19) (by omega) (by decide) (by decide)
    have d19 : nI (i / 4) / (19 : Int32) = nI (i / 4 / 19) := pk_div (d := 19) (by omega) (by decide) (by decide)
    have m4 : nI i - nI i / (4 : Int32) * (4 : Int32) = nI (i % 4) := pk_rem (d := 4) (by omega) (by decide) (by decide)
    obtain ⟨v, p', h1, h2⟩ := lands_in V ld (show t + i / 4 / 19 + 1 < 2 ^ 31 by omega) (show i / 4 % 19 < 19 by omega) (show i % 4 < 4 by omega) (fun (k6_5 : Int32) (k6_poled : Int32) => some (k6_5, (0 : Int32))) 19 0 400 (by omega) (by omega) 0 0
    have e : fX4_landsFrom (nI (i / 4 % 19)) (nI (i % 4)) ld (nI (t + i / 4 / 19)) r 0 0 = some (v, 0) := h1
    rw [fX4_findLands_L2, if_neg (g_ge (n := 3116) (by omega) (by decide)), m4, d4 (by omega), m19, d19, V.2.2.2.1, nI_add, e, bd_s, ck_n _ (show i < 3120 by omega) (by decide), cl_n (by omega), nI1]
    refine ih (i + 1) fuel (by omega) (by omega) _ (fun q hq => ?_)
    by_cases c : q = i
    · subst c
      rw [upd_s]
      intro j hj
      rw [h2 j hj, b_0]
      by_cases g : j < 19
      · rw [decide_eq_true (show 0 ≤ j ∧ j < 19 by omega), decide_eq_true g]; simp
      · rw [decide_eq_false (show ¬ (0 ≤ j ∧ j < 19) by omega), decide_eq_false g]; simp
    · rw [upd_n _ _ c]; exact h q (by omega)
theorem findLands_e {n t : Nat} {r : RT} (V : VR n t r) (ld : Int32) (lands : AR) : ∃ lands' : AR, fX4_findLands ld r 0 0 lands = some (0, lands') ∧ ∀ q, q < 3116 → LE1 n r t ld q (lands' q) := by
  obtain ⟨lands', h1, h2⟩ := finds_in V ld (fun (k2_poled : Int32) (k2_lands : AR) => some (k2_poled, k2_lands)) 3116 0 3200 (by omega) (by omega) lands (fun q hq => by omega)
  exact ⟨lands', h1, h2⟩
/-- the bits of a set of floes, at the places' numbers -/
def hmask (s : Int32) : Int32 := s <<< ((10 : Int32) &&& 31)
theorem hmask_b (s : Int32) {i : Nat} (hi : i < 32) : bt (hmask s) i = (decide (10 ≤ i) && bt s (i - 10)) := by
  unfold hmask
  rw [show (10 : Int32) = nI 10 from rfl, b_shl 10 (by decide) s hi]
theorem b_not (x : Int32) {i : Nat} (hi : i < 32) : bt (x ^^^ (-1 : Int32)) i = !bt x i := by
  have e : bt (x ^^^ (-1 : Int32)) i = (bt x i ^^ bt (-1) i) := by unfold bt; rw [Int32.toBitVec_xor, BitVec.getLsbD_xor]
  rw [e, (by decide +kernel : ∀ i, i < 32 → bt (-1) i = true) i hi]
  cases bt x i <;> rfl
theorem LFB_e {n t : Nat} {r : RT} (ld s : Int32) (k a b : Nat) (hs : ∀ i, 8 ≤ i → bt s i = false) (ha : a < 19) (hb : b < 19) : LFB n r t ld k a (bt (hmask s) a) (bt (hmask s) b) b = edgeE n r t s 0 ld k a b := by
  unfold LFB
  apply edge_pl
  · intro h1 h2
    rw [b_or, plb_b _ _ (by omega), plb_b _ _ (by omega), hmask_b s (by omega), hmask_b s (by omega), decide_eq_true h1, decide_eq_true (show a = a - 10 + 10 by omega)]
    by_cases e : b = a - 10 + 10
    · have : b = a := by omega
      subst this
      rw [decide_eq_true h1]
      cases bt s _ <;> simp
    · rw [decide_eq_false e]; simp
  · intro h1 h2
    rw [b_or, plb_b _ _ (by omega), plb_b _ _ (by omega), hmask_b s (by omega), hmask_b s (by omega), decide_eq_true h1, decide_eq_true (show b = b - 10 + 10 by omega)]
    by_cases e : a = b - 10 + 10
    · have : a = b := by omega
      subst this
      rw [decide_eq_true h1]
      cases bt s _ <;> simp
    · rw [decide_eq_false e]; simp
theorem ix_t (k a : Nat) (h : Bool) : (((4 : Int32) * (((19 : Int32) * nI k) + nI a)) + ((2 : Int32) * bI h)) = nI (4 * (19 * k + a) + (if h then 2 else 0)) := by
  rw [show (4 : Int32) = nI 4 from rfl, show (19 : Int32) = nI 19 from rfl, show (2 : Int32) = nI 2 from rfl, pk_mul, nI_add, pk_mul, show bI h = nI (if h then 1 else 0) by cases h <;> rfl, pk_mul, nI_add]
  cases h <;> rfl
theorem held_in {n t : Nat} {r : RT} (ld s : Int32) (hs : ∀ i, 8 ≤ i → bt s i = false) {lands : AR} (hl : ∀ q, q < 3116 → LE1 n r t ld q (lands q)) {k : Nat} (hk : k ≤ 40) (p : Int32) (K : Int32 → Option Int32) : ∀ d a fuel : Nat, a + d = 19 → d < fuel → ∀ acc : Int32, ∃ v, fX4_goesOnHeld_L6 lands p (nI k) (hmask s) K fuel acc (nI a) = K v ∧ ∀ i, i < 32 → bt v i = (bt acc i || (decide (i < 19) && (List.range 19).any (fun a' => decide (a ≤ a') && (bt p a' && edgeE n r t s 0 ld (t + k) a' i)))) := by
  intro d
  induction d with
  | zero =>
    intro a fuel ha hf acc
    obtain ⟨fuel, rfl⟩ : ∃ m, fuel = m + 1 := ⟨fuel - 1, by omega⟩
    refine ⟨acc, ?_, fun i hi => ?_⟩
    · rw [fX4_goesOnHeld_L6, if_pos (g_le (n := 19) (by omega) (by omega))]
    · have : (List.range 19).any (fun a' => decide (a ≤ a') && (bt p a' && edgeE n r t s 0 ld (t + k) a' i)) = false := by
        rw [Bool.eq_false_iff]
        intro h
        obtain ⟨a', h1, h2⟩ := any_of.mp h
        rw [decide_eq_false (by omega)] at h2
        cases h2
      rw [this]; simp
  | succ d ih =>
    intro a fuel ha hf acc
    obtain ⟨fuel, rfl⟩ : ∃ m, fuel = m + 1 := ⟨fuel - 1, by omega⟩
    rw [fX4_goesOnHeld_L6, if_neg (g_ge (n := 19) (by omega) (by decide)), bit p (by omega), bit (hmask s) (by omega), if_bI, ix_t, nI1, nI1]
    have key : ∀ (acc' : Int32), (∀ i, i < 32 → bt acc' i = (bt acc i || (decide (i < 19) && (bt p a && edgeE n r t s 0 ld (t + k) a i)))) → ∃ v, fX4_goesOnHeld_L6 lands p (nI k) (hmask s) K fuel acc' (nI (a + 1)) = K v ∧ ∀ i, i < 32 → bt v i = (bt acc i || (decide (i < 19) && (List.range 19).any (fun a' => decide (a ≤ a') && (bt p a' && edgeE n r t s 0 ld (t + k) a' i)))) := by
      intro acc' h'
      obtain ⟨v, h1, h2⟩ := ih (a + 1) fuel (by omega) (by omega) acc'
      refine ⟨v, h1, fun i hi => ?_⟩
      rw [h2 i hi, h' i hi, Bool.or_assoc, ← Bool.and_or_distrib_left]
      congr 2
      rw [Bool.eq_iff_iff, Bool.or_eq_true_iff, any_of, any_of]
      constructor
      · rintro (h | ⟨a', g1, g2⟩)
        · exact ⟨a, by omega, by rw [decide_eq_true (Nat.le_refl a)]; exact h⟩
        · have := (Bool.and_eq_true_iff.mp g2)
          exact ⟨a', g1, by rw [decide_eq_true (by have := of_decide_eq_true this.1; omega)]; exact this.2⟩
      · rintro ⟨a', g1, g2⟩
        have g := Bool.and_eq_true_iff.mp g2
        by_cases e : a' = a
        · subst e; exact Or.inl g.2
        · exact Or.inr ⟨a', g1, by rw [decide_eq_true (by have := of_decide_eq_true g.1; omega)]; exact g.2⟩
    cases hp : bt p a with
    | false =>
      simp only [Bool.false_eq_true, if_false]
      exact key _ (fun i hi => by rw [hp]; simp)
    | true =>
      simp only [if_true]
      generalize hq : (if bt (hmask s) a = true then 2 else 0) = q
      have hq2 : q ≤ 2 := by rw [← hq]; split <;> omega
      rw [ck_n _ (show 4 * (19 * k + a) + q < 3120 by omega) (by decide), ck_n _ (show 4 * (19 * k + a) + q + 1 < 3120 by omega) (by decide), cl_n (by omega), cl_n (by omega)]
      refine key _ (fun i hi => ?_)
      have l0 := hl (4 * (19 * k + a) + q) (by omega) i hi
      have l1 := hl (4 * (19 * k + a) + q + 1) (by omega) i hi
      have q1 : decide (2 ≤ q) = bt (hmask s) a := by rw [← hq]; cases bt (hmask s) a <;> rfl
      have q2 : q = 0 ∨ q = 2 := by rw [← hq]; cases bt (hmask s) a <;> simp
      have z0 : (4 * (19 * k + a) + q) / 4 = 19 * k + a := by omega
      have z1 : (4 * (19 * k + a) + q + 1) / 4 = 19 * k + a := by omega
      have y0 : (4 * (19 * k + a) + q) % 4 = q := by omega
      have y1 : (4 * (19 * k + a) + q + 1) % 4 = q + 1 := by omega
      have x0 : (19 * k + a) / 19 = k := by omega
      have x1 : (19 * k + a) % 19 = a := by omega
      rw [z0, y0, x0, x1, q1, decide_eq_false (show ¬ q % 2 = 1 by omega)] at l0
      rw [z1, y1, x0, x1, decide_eq_true (show (q + 1) % 2 = 1 by omega), show decide (2 ≤ q + 1) = decide (2 ≤ q) by rcases q2 with h | h <;> subst h <;> rfl, q1] at l1
      rw [b_or, b_or, b_and, b_and, b_not _ hi, l0, l1, hp]
      by_cases c : i < 19
      · rw [decide_eq_true c, ← LFB_e ld s (t + k) a i hs (by omega) c]
        cases bt (hmask s) i <;> simp
      · rw [decide_eq_false c]; simp
theorem held_e {n t : Nat} {r : RT} (ld s : Int32) (hs : ∀ i, 8 ≤ i → bt s i = false) {lands : AR} (hl : ∀ q, q < 3116 → LE1 n r t ld q (lands q)) {k : Nat} (hk : k ≤ 40) {Q : Nat → Bool} {p : Int32} (hp : MS Q p) : ∃ v, fX4_goesOnHeld p (nI k) (hmask s) lands = some v ∧ MS (stepQ (edgeE n r t s 0 ld (t + k)) Q) v := by
  obtain ⟨v, h1, h2⟩ := held_in ld s hs hl hk p (fun v => some v) 19 0 400 rfl (by decide) 0
  refine ⟨v, h1, fun i hi => ?_⟩
  rw [h2 i hi, b_0]
  simp only [Bool.false_or]
  congr 1
  unfold stepQ
  rw [Bool.eq_iff_iff, any_of, any_of]
  constructor
  · rintro ⟨a, g1, g2⟩
    rw [hp a (by omega), decide_eq_true g1] at g2
    exact ⟨a, g1, by simpa using g2⟩
  · rintro ⟨a, g1, g2⟩
    refine ⟨a, g1, ?_⟩
    rw [hp a (by omega), decide_eq_true g1]
    simpa using g2
def exD (f : Nat → Bool) : Nat → Nat → Bool
  | 0, _ => false
  | d + 1, m => f m || exD f d (m + 1)
theorem ovS_ex (f : Nat → Bool) : ∀ d m, m + d < 2 ^ 30 → (ovS f d m = -9 ↔ exD f d (m + 1) = false) := by
  intro d
  induction d with
  | zero => intro m _; exact ⟨fun _ => rfl, fun _ => rfl⟩
  | succ d ih =>
    intro m hm
    unfold ovS exD
    cases h : f (m + 1) with
    | true =>
      simp only [if_true, Bool.true_or]
      constructor
      · intro e
        rw [i_eq, ti_n (by omega)] at e
        have : (-9 : Int32).toInt = -9 := rfl
        omega
      · intro e; cases e
    | false =>
      simp only [Bool.false_eq_true, if_false, Bool.false_or]
      exact ih (m + 1) (by omega)
theorem comesH_in {n t : Nat} {r : RT} (ld s : Int32) (hs : ∀ i, 8 ≤ i → bt s i = false) {lands : AR} (hl : ∀ q, q < 3116 → LE1 n r t ld q (lands q)) {Q : Nat → Bool} (K : Unit → Option Int32) (hK : K () = some 0) : ∀ d m fuel : Nat, m + d = 41 → d < fuel → ∀ x : Int32, MS (runQ (fun k => edgeE n r t s 0 ld k) Q t m) x → fX4_comesOverHeld_L7 lands (hmask s) K fuel x (nI m) = some (bI (exD (fun m => runQ (fun k => edgeE n r t s 0 ld k) Q t m 18) d m)) := by
  intro d
  induction d with
  | zero =>
    intro m fuel hm hf x hx
    obtain ⟨fuel, rfl⟩ : ∃ q, fuel = q + 1 := ⟨fuel - 1, by omega⟩
    rw [fX4_comesOverHeld_L7, if_pos (g_gt (n := 40) (by omega) (by omega)), hK]; rfl
  | succ d ih =>
    intro m fuel hm hf x hx
    obtain ⟨fuel, rfl⟩ : ∃ q, fuel = q + 1 := ⟨fuel - 1, by omega⟩
    rw [fX4_comesOverHeld_L7, if_neg (g_ngt (n := 40) (by omega) (by decide)), show (18 : Int32) = nI 18 from rfl, bit x (by decide), if_bI1, hx 18 (by omega)]
    unfold exD
    cases hq : runQ (fun k => edgeE n r t s 0 ld k) Q t m 18 with
    | true => rfl
    | false =>
      simp only [Bool.and_false, Bool.false_eq_true, if_false, Bool.false_or]
      obtain ⟨v, h1, h2⟩ := held_e ld s hs hl (show m ≤ 40 by omega) hx
      rw [h1, bd_s, nI1]
      exact ih (m + 1) fuel (by omega) (by omega) v h2
theorem comesH_e {n t : Nat} {r : RT} (ld s : Int32) (hs : ∀ i, 8 ≤ i → bt s i = false) {lands : AR} (hl : ∀ q, q < 3116 → LE1 n r t ld q (lands q)) {c : Nat} (hc : c < 10) : fX4_comesOverHeld (nI c) (hmask s) lands = some (bI (ovB n r t s 0 ld t c)) := by
  unfold fX4_comesOverHeld
  have e0 := comesH_in ld s hs hl (fun (_ : Unit) => some (0 : Int32)) rfl 41 0 400 (by omega) (by omega) _ (MS_1 (show c < 19 by omega))
  rw [show nI 0 = (0 : Int32) from rfl] at e0
  rw [e0]
  apply congrArg (fun b => some (bI b))
  have e := ov_ne n r t s 0 ld t c
  unfold OV at e
  rw [ovS_ex _ 40 0 (by omega)] at e
  show (runQ (fun k => edgeE n r t s 0 ld k) (at1 c) t 0 18 || exD (fun m => runQ (fun k => edgeE n r t s 0 ld k) (at1 c) t m 18) 40 (0 + 1)) = _
  rw [show runQ (fun k => edgeE n r t s 0 ld k) (at1 c) t 0 18 = false from decide_eq_false (by omega), Bool.false_or]
  cases h : ovB n r t s 0 ld t c with
  | false => exact e.mpr h
  | true =>
    cases h2 : exD (fun m => runQ (fun k => edgeE n r t s 0 ld k) (at1 c) t m 18) 40 (0 + 1) with
    | true => rfl
    | false => rw [e.mp h2] at h; cases h
/-! the sets, by how many and by number -/
def pc (s : Nat) : Nat := ((List.range 8).filter (fun i => s.testBit i)).length
theorem pc_le : ∀ n, n ≤ 8 → ∀ s, s < 2 ^ n → pc s ≤ n := by decide +kernel
theorem bitCount_t : ∀ s, s < 256 → fJ6_bitCount_0f7a4 (nI s) = some (nI (pc s)) := by decide +kernel
theorem bits_t : ∀ s, s < 256 → fX4_bits (nI s) = some (nI (pc s)) := by decide +kernel
theorem sets_t : ∀ n, n ≤ 8 → (1 : Int32) <<< (nI n &&& 31) = nI (2 ^ n) := by decide +kernel
theorem pow_le {n : Nat} (h : n ≤ 8) : 2 ^ n ≤ 256 := Nat.pow_le_pow_right (by decide) h
theorem bt_small {s : Nat} (hs : s < 256) : ∀ i, 8 ≤ i → bt (nI s) i = false := by
  intro i hi
  unfold bt
  rw [BitVec.getLsbD, pk_tn (show s < 2 ^ 32 by omega)]
  exact Nat.testBit_lt_two_pow (Nat.lt_of_lt_of_le hs (Nat.pow_le_pow_right (by decide) hi : 2 ^ 8 ≤ 2 ^ i))
def LM (N : Nat) (g : Nat → Bool) (s : Nat) : Prop := s < N ∧ g s = true ∧ ∀ s', s' < N → g s' = true → pc s < pc s' ∨ (pc s = pc s' ∧ s ≤ s')
def LMr (N : Nat) (g : Nat → Bool) (z : Int32) : Prop := (∃ s, LM N g s ∧ z = nI s) ∨ ((∀ s, s < N → g s = false) ∧ z = -9)
theorem LMr_u {N : Nat} {g : Nat → Bool} {z z' : Int32} (h : LMr N g z) (h' : LMr N g z') : z = z' := by
  rcases h with ⟨s, ⟨h1, h2, h3⟩, rfl⟩ | ⟨h1, rfl⟩
  · rcases h' with ⟨s', ⟨g1, g2, g3⟩, rfl⟩ | ⟨g1, rfl⟩
    · have a := h3 s' g1 g2
      have b := g3 s h1 h2
      rw [show s = s' by omega]
    · rw [g1 s h1] at h2; cases h2
  · rcases h' with ⟨s', ⟨g1, g2, g3⟩, rfl⟩ | ⟨g1, rfl⟩
    · rw [h1 s' g1] at g2; cases g2
    · rfl
theorem poles_in {n t : Nat} {r : RT} (V : VR n t r) (ld : Int32) {c : Nat} (hc : c < 10) (refs : AR) {m : Nat} (hm : m ≤ n) (K : AR → AR → Int32 → Int32 → Int32 → Int32 → Option (Int32 × AR × AR × Int32 × Int32 × Int32 × Int32 × AR)) (hlow : ∀ s, s < 2 ^ n → pc s < m → ovB n r t (nI s) 0 ld t c = false) (hK : (∀ s, s < 2 ^ n → pc s < m + 1 → ovB n r t (nI s) 0 ld t c = false) → ∀ la sp l go he st, ∃ z la' sp' l' go' he' st', K la sp l go he st = some (z, la', sp', l', go', he', st', refs) ∧ LMr (2 ^ n) (fun s => ovB n r t (nI s) 0 ld t c) z) : ∀ d s fuel : Nat, s + d = 2 ^ n → d < fuel → (∀ q, q < s → pc q = m → ovB n r t (nI q) 0 ld t c = false) → ∀ (la sp : AR) (l go he st : Int32), ∃ z la' sp' l' go' he' st', fX3_poles_L34 refs r ld (nI c) (nI m) K fuel (nI s) la sp l go he st = some (z, la', sp', l', go', he', st', refs) ∧ LMr (2 ^ n) (fun s => ovB n r t (nI s) 0 ld t c) z := by
  have hn := V.1
  have hp := pow_le hn
  intro d
  induction d with
  | zero =>
    intro s fuel hs hf hq la sp l go he st
    obtain ⟨fuel, rfl⟩ : ∃ q, fuel = q + 1 := ⟨fuel - 1, by omega⟩
    rw [fX3_poles_L34, V.2.2.1, sets_t n hn, if_pos (nI_le (by omega) (by omega))]
    refine hK (fun s' h1 h2 => ?_) _ _ _ _ _ _
    rcases Nat.lt_or_ge (pc s') m with h | h
    · exact hlow s' h1 h
    · exact hq s' (by omega) (by omega)
  | succ d ih =>
    intro s fuel hs hf hq la sp l go he st
    obtain ⟨fuel, rfl⟩ : ∃ q, fuel = q + 1 := ⟨fuel - 1, by omega⟩
    rw [fX3_poles_L34, V.2.2.1, sets_t n hn, if_neg (nI_ge (by omega) (by omega)), bitCount_t s (by omega), bd_s, nI1]
    have hps := pc_le n hn s (by omega)
    by_cases e : pc s = m
    · rw [if_pos (congrArg nI e)]
      obtain ⟨la1, sp1, st1, e1⟩ := comesOver_e V ld hc 0 (nI s) la sp st
      rw [e1, bd_s]
      simp only
      rw [if_bI]
      cases h : ovB n r t (nI s) 0 ld t c with
      | false =>
        simp only [Bool.false_eq_true, if_false]
        exact ih (s + 1) fuel (by omega) (by omega) (fun q g1 g2 => by
          by_cases g : q = s
          · subst g; exact h
          · exact hq q (by omega) g2) _ _ _ _ _ _
      | true =>
        simp only [if_true]
        refine ⟨_, _, _, _, _, _, _, rfl, Or.inl ⟨s, ⟨by omega, h, fun s' g1 g2 => ?_⟩, rfl⟩⟩
        rcases Nat.lt_or_ge (pc s') m with g | g
        · have := hlow s' g1 g
          exact absurd (this.symm.trans g2) Bool.false_ne_true
        · rcases Nat.lt_or_ge m (pc s') with g' | g'
          · exact Or.inl (by omega)
          · refine Or.inr ⟨by omega, ?_⟩
            rcases Nat.lt_or_ge s' s with k | k
            · have := hq s' k (by omega)
              exact absurd (this.symm.trans g2) Bool.false_ne_true
            · exact k
    · rw [if_neg (by rw [nI_eq (by omega) (by omega)]; exact e)]
      exact ih (s + 1) fuel (by omega) (by omega) (fun q g1 g2 => by
        by_cases g : q = s
        · subst g; exact absurd g2 e
        · exact hq q (by omega) g2) _ _ _ _ _ _
theorem poles_out {n t : Nat} {r : RT} (V : VR n t r) (ld : Int32) {c : Nat} (hc : c < 10) (refs : AR) (K : AR → AR → Int32 → Int32 → Int32 → Int32 → Option (Int32 × AR × AR × Int32 × Int32 × Int32 × Int32 × AR)) (hK : ∀ la sp l go he st, K la sp l go he st = some (-9, la, sp, l, go, he, st, refs)) : ∀ d m fuel : Nat, m + d = n + 1 → d < fuel → (∀ s, s < 2 ^ n → pc s < m → ovB n r t (nI s) 0 ld t c = false) → ∀ (la sp : AR) (l go he st : Int32), ∃ z la' sp' l' go' he' st', fX3_poles_L19 refs r ld (nI c) K fuel (nI m) la sp l go he st = some (z, la', sp', l', go', he', st', refs) ∧ LMr (2 ^ n) (fun s => ovB n r t (nI s) 0 ld t c) z := by
  have hn := V.1
  have hp := pow_le hn
  intro d
  induction d with
  | zero =>
    intro m fuel hm hf hq la sp l go he st
    obtain ⟨fuel, rfl⟩ : ∃ q, fuel = q + 1 := ⟨fuel - 1, by omega⟩
    rw [fX3_poles_L19, V.2.2.1, if_pos (nI_lt (by omega) (by omega)), hK]
    refine ⟨_, _, _, _, _, _, _, rfl, Or.inr ⟨fun s hs => hq s hs ?_, rfl⟩⟩
    have := pc_le n hn s hs
    omega
  | succ d ih =>
    intro m fuel hm hf hq la sp l go he st
    obtain ⟨fuel, rfl⟩ : ∃ q, fuel = q + 1 := ⟨fuel - 1, by omega⟩
    rw [fX3_poles_L19, V.2.2.1, if_neg (nI_nlt (by omega) (by omega))]
    exact poles_in V ld hc refs (show m ≤ n by omega) _ hq (fun h la sp l go he st => by
      rw [nI1]
      exact ih (m + 1) fuel (by omega) (by omega) h la sp l go he st) (2 ^ n) 0 400 (by omega) (by omega) (fun q g => by omega) la sp l go he st
/-- the best so far, of the sets from s on -/
def BST (N : Nat) (g : Nat → Bool) (s : Nat) (z : Int32) : Prop := (∃ b, s ≤ b ∧ b < N ∧ g b = true ∧ z = nI b ∧ ∀ s', s ≤ s' → s' < N → g s' = true → pc b < pc s' ∨ (pc b = pc s' ∧ b ≤ s')) ∨ ((∀ s', s ≤ s' → s' < N → g s' = false) ∧ z = -9)
theorem poles_m {n t : Nat} {r : RT} (V : VR n t r) (ld : Int32) {c : Nat} (hc : c < 10) {lands : AR} (hl : ∀ q, q < 3116 → LE1 n r t ld q (lands q)) (q22 : Int32 × AR) (hq : q22.2 = lands) (K : Int32 → Option (Int32 × AR × Int32 × AR)) : ∀ s fuel : Nat, s ≤ 2 ^ n → s < fuel → ∀ best : Int32, BST (2 ^ n) (fun s => ovB n r t (nI s) 0 ld t c) s best → ∃ z, fX4_poles_L35 (nI c) q22 K fuel best (nI s + (-1 : Int32)) = K z ∧ LMr (2 ^ n) (fun s => ovB n r t (nI s) 0 ld t c) z := by
  have hn := V.1
  have hp := pow_le hn
  intro s
  induction s with
  | zero =>
    intro fuel hs hf best hb
    obtain ⟨fuel, rfl⟩ : ∃ q, fuel = q + 1 := ⟨fuel - 1, by omega⟩
    refine ⟨best, by rw [fX4_poles_L35, if_pos (by decide)], ?_⟩
    rcases hb with ⟨b, h0, h1, h2, h3, h4⟩ | ⟨h1, h2⟩
    · exact Or.inl ⟨b, ⟨h1, h2, fun s' g1 g2 => h4 s' (Nat.zero_le _) g1 g2⟩, h3⟩
    · exact Or.inr ⟨fun s' g => h1 s' (Nat.zero_le _) g, h2⟩
  | succ s ih =>
    intro fuel hs hf best hb
    obtain ⟨fuel, rfl⟩ : ∃ q, fuel = q + 1 := ⟨fuel - 1, by omega⟩
    rw [fX4_poles_L35, pk_m1, if_neg (nI_pos (by omega)), hq, show (nI s <<< ((10 : Int32) &&& 31)) = hmask (nI s) from rfl, comesH_e ld (nI s) (bt_small (by omega)) hl hc]
    dsimp only [jn]
    rw [bd_s, if_bI]
    -- to take it or not
    have take : ∀ (tk : Bool), (tk = true → (best = -9 ∨ ∃ b, b < 2 ^ n ∧ best = nI b ∧ pc s ≤ pc b)) → (tk = false → ∃ b, b < 2 ^ n ∧ best = nI b ∧ pc b < pc s) → ∃ z, (if tk then (if ovB n r t (nI s) 0 ld t c then fX4_poles_L35 (nI c) q22 K fuel (nI s) (nI s + (-1 : Int32)) else fX4_poles_L35 (nI c) q22 K fuel best (nI s + (-1 : Int32))) else fX4_poles_L35 (nI c) q22 K fuel best (nI s + (-1 : Int32))) = K z ∧ LMr (2 ^ n) (fun s => ovB n r t (nI s) 0 ld t c) z := by
      intro tk h1 h2
      cases h : ovB n r t (nI s) 0 ld t c with
      | false =>
        have : BST (2 ^ n) (fun s => ovB n r t (nI s) 0 ld t c) s best := by
          rcases hb with ⟨b, k0, k1, k2, k3, k4⟩ | ⟨k1, k2⟩
          · refine Or.inl ⟨b, by omega, k1, k2, k3, fun s' g0 g1 g2 => ?_⟩
            by_cases e : s' = s
            · subst e; exact absurd (h.symm.trans g2) Bool.false_ne_true
            · exact k4 s' (by omega) g1 g2
          · refine Or.inr ⟨fun s' g0 g1 => ?_, k2⟩
            by_cases e : s' = s
            · subst e; exact h
            · exact k1 s' (by omega) g1
        obtain ⟨z, e1, e2⟩ := ih fuel (by omega) (by omega) best this
        refine ⟨z, ?_, e2⟩
        cases tk <;> exact e1
      | true =>
        cases tk with
        | true =>
          have : BST (2 ^ n) (fun s => ovB n r t (nI s) 0 ld t c) s (nI s) := by
            refine Or.inl ⟨s, Nat.le_refl s, by omega, h, rfl, fun s' g0 g1 g2 => ?_⟩
            by_cases e : s' = s
            · subst e; exact Or.inr ⟨rfl, Nat.le_refl _⟩
            · rcases hb with ⟨b, k0, k1, k2, k3, k4⟩ | ⟨k1, k2⟩
              · have := k4 s' (by omega) g1 g2
                rcases h1 rfl with q | ⟨b', q0, q1, q2⟩
                · exfalso
                  rw [k3, i_eq, ti_n (by omega)] at q
                  have : (-9 : Int32).toInt = -9 := rfl
                  omega
                · have hbb : nI b = nI b' := by rw [← k3, q1]
                  have : pc s ≤ pc b := by
                    rw [nI_eq (by omega) (by omega)] at hbb; rw [hbb]; exact q2
                  omega
              · have := k1 s' (by omega) g1
                exact absurd (this.symm.trans g2) Bool.false_ne_true
          exact ih fuel (by omega) (by omega) (nI s) this
        | false =>
          obtain ⟨b, k0, k1, k2⟩ := h2 rfl
          have : BST (2 ^ n) (fun s => ovB n r t (nI s) 0 ld t c) s best := by
            rcases hb with ⟨b', l0, l1, l2, l3, l4⟩ | ⟨l1, l2⟩
            · have hbb : b = b' := by
                rw [k1] at l3
                rwa [nI_eq (by omega) (by omega)] at l3
              subst hbb
              refine Or.inl ⟨b, by omega, l1, l2, l3, fun s' g0 g1 g2 => ?_⟩
              by_cases e : s' = s
              · subst e; exact Or.inl k2
              · exact l4 s' (by omega) g1 g2
            · exfalso
              rw [k1, i_eq, ti_n (by omega)] at l2
              have : (-9 : Int32).toInt = -9 := rfl
              omega
          exact ih fuel (by omega) (by omega) best this
    rcases hb with ⟨b, k0, k1, k2, k3, k4⟩ | ⟨k1, k2⟩
    · subst k3
      rw [if_neg (nI_pos (by omega)), bits_t s (by omega), bd_s, bits_t b (by omega), bd_s]
      have p1 := pc_le n hn s (by omega)
      have p2 := pc_le n hn b k1
      by_cases c1 : pc b < pc s
      · rw [if_pos (nI_lt c1 (by omega))]
        exact take false (fun h => by cases h) (fun _ => ⟨b, k1, rfl, c1⟩)
      · rw [if_neg (nI_nlt (by omega) (by omega))]
        exact take true (fun _ => Or.inr ⟨b, k1, rfl, by omega⟩) (fun h => by cases h)
    · subst k2
      rw [if_pos (by decide)]
      exact take true (fun _ => Or.inl rfl) (fun h => by cases h)
theorem poles_p {n t : Nat} {r : RT} (V : VR n t r) (p1 p2 : Int32) (la sp : AR) (ld go he st : Int32) (refs lands : AR) : ∃ z la' sp' ld' go' he' st' rf lands', fX3_poles p1 p2 la sp ld go he st r refs = some (z, la', sp', ld', go', he', st', rf) ∧ fX4_poles p1 p2 r refs 0 0 lands = some (z, rf, 0, lands') := by
  have hn := V.1
  have hp := pow_le hn
  unfold fX3_poles fX4_poles
  rcases walker_c p1 p2 with ⟨h1, h2, ⟨c, hc, rfl⟩, -⟩ | ⟨w, hw, h1, h2⟩
  · rw [h1, h2, bd_s, bd_s, if_pos rfl, if_pos rfl]
    obtain ⟨lands', e1, hl⟩ := findLands_e V p1 lands
    obtain ⟨z, la', sp', l', go', he', st', e2, z1⟩ := poles_out V p1 hc refs (fun (k19_lanes : AR) (k19_spots : AR) (k19_load : Int32) (k19_gone : Int32) (k19_held : Int32) (k19_strong : Int32) => some ((-9 : Int32), k19_lanes, k19_spots, k19_load, k19_gone, k19_held, k19_strong, refs)) (fun _ _ _ _ _ _ => rfl) (n + 1) 0 400 (by omega) (by omega) (fun s _ h => by omega) la sp ld go he st
    obtain ⟨z', e3, z2⟩ := poles_m V p1 hc hl (0, lands') rfl (fun (k35_4 : Int32) => some (k35_4, refs, (0 : Int32), lands')) (2 ^ n) 400 (by omega) (by omega) (-9) (Or.inr ⟨fun s h1 h2 => by omega, rfl⟩)
    rw [e1, bd_s, V.2.2.1, sets_t n hn]
    rw [show nI 0 = (0 : Int32) from rfl] at e2
    have e4 : nI (2 ^ n) - (1 : Int32) = nI (2 ^ n) + (-1 : Int32) := by
      obtain ⟨m, hm⟩ : ∃ m, 2 ^ n = m + 1 := ⟨2 ^ n - 1, by have := Nat.two_pow_pos n; omega⟩
      rw [hm, nI_pred, pk_m1]
    rw [e4, e2, e3, LMr_u z2 z1]
    exact ⟨_, _, _, _, _, _, _, _, _, rfl, rfl⟩
  · rw [h1, h2, bd_s, bd_s, if_neg (isW_0 hw), if_neg (isW_0 hw)]
    obtain ⟨b, h1, h2⟩ := rf5 hw refs
    rw [h1, h2]
    exact ⟨_, _, _, _, _, _, _, _, _, rfl, rfl⟩
