/-! ===== one minute: from a set of places to the next, on both sides ===== -/
/-- places: 0 .. 9 the south bank's cells, 10 .. 17 the floes, 18 the north bank -/
def nr (a b : Nat) : Bool := decide (a = b) || decide ((a + 1) % 10 = b) || decide ((b + 1) % 10 = a)
def nearB (a b : Int32) : Bool := decide (rnd (a - b) < 2) || decide (rnd (b - a) < 2)
theorem near_t : ∀ a, a < 10 → ∀ b, b < 10 → nearB (nI a) (nI b) = nr a b := by decide +kernel
theorem isNear_e (a b : Int32) : fX4_isNear a b = some (bI (nearB a b)) := by
  unfold fX4_isNear nearB
  rw [round_e, round_e, bd_s, bd_s]
  by_cases c1 : rnd (a - b) < (2 : Int32)
  · rw [if_pos c1, decide_eq_true c1]; rfl
  · rw [if_neg c1, decide_eq_false c1]
    by_cases c2 : rnd (b - a) < (2 : Int32)
    · rw [if_neg (Int32.not_le.mpr c2), decide_eq_true c2]; rfl
    · rw [if_pos (Int32.not_lt.mp c2), decide_eq_false c2]; rfl
def wh (r : RT) (t : Nat) (pl : Int32) (k j : Nat) : Int32 := spv r j (if bt pl j then t else k)
def bearB (r : RT) (ba ld : Int32) (k f : Nat) : Bool := !bt ba f && !decide (brv r f k < ld) && !decide (brv r f (k + 1) < ld)
def adjB (r : RT) (i j : Nat) : Bool := decide (R_homes r i - R_homes r j = 1) || decide (R_homes r i - R_homes r j = -1)
def stayE (r : RT) (ba ld : Int32) (k a b : Nat) : Bool := if a = b then (decide (a < 10) || decide (a = 18) || bearB r ba ld k (a - 10)) else decide (a < 10) && decide (b < 10) && nearB (nI a) (nI b)
def leapE (n : Nat) (r : RT) (t : Nat) (pl ba ld : Int32) (k a b : Nat) : Bool :=
  if 10 ≤ b ∧ b < 18 then decide (b - 10 < n) && bearB r ba ld k (b - 10) && (if a < 10 then decide (R_homes r (b - 10) = 0) && nearB (nI a) (wh r t pl k (b - 10)) else decide (a < 18) && decide (a ≠ b) && adjB r (a - 10) (b - 10) && nearB (wh r t pl k (a - 10)) (wh r t pl k (b - 10)))
  else if 10 ≤ a ∧ a < 18 then (if b = 18 then decide (R_homes r (a - 10) = R_lanes r - 1) else decide (R_homes r (a - 10) = 0) && decide (wh r t pl k (a - 10) = nI b)) else false
def edgeE (n : Nat) (r : RT) (t : Nat) (pl ba ld : Int32) (k a b : Nat) : Bool := stayE r ba ld k a b || leapE n r t pl ba ld k a b
theorem n10 {a : Nat} (h : 10 ≤ a) : nI a - (10 : Int32) = nI (a - 10) := pk_sub (b := 10) h
theorem nI1 (k : Nat) : nI k + (1 : Int32) = nI (k + 1) := nI_1 k
theorem doesBear_e (r : RT) (ba ld : Int32) {f k : Nat} (hf : f < 8) (hk : k + 1 < 2 ^ 31) : fX4_doesBear (nI f) ld (nI k) r ba = some (bI (bearB r ba ld k f)) := by
  unfold fX4_doesBear bearB
  rw [bit ba (show f < 32 by omega), bearsIn_e r hf (show k < 2 ^ 31 by omega), nI1, bearsIn_e r hf hk]
  cases bt ba f with
  | true => rfl
  | false =>
    rw [if_pos (by decide), bd_s]
    by_cases c1 : brv r f k < ld
    · rw [if_pos c1, decide_eq_true c1]; rfl
    · rw [if_neg c1, decide_eq_false c1, bd_s]
      by_cases c2 : brv r f (k + 1) < ld
      · rw [if_pos c2, decide_eq_true c2]; rfl
      · rw [if_neg c2, decide_eq_false c2]; rfl
theorem if_bI {α : Type} (b : Bool) (x y : α) : (if bI b = 0 then x else y) = if b then y else x := by cases b <;> rfl
theorem if_bI1 {α : Type} (b : Bool) (x y : α) : (if bI b = (1 : Int32) then x else y) = if b then x else y := by cases b <;> rfl
theorem sm_bI (b : Bool) : (if b then (some (1 : Int32)) else some (0 : Int32)) = some (bI b) := by cases b <;> rfl
theorem mayStay_e (r : RT) (ba ld : Int32) {a b k : Nat} (ha : a < 19) (hb : b < 19) (hk : k + 1 < 2 ^ 31) : fX4_mayStay (nI a) (nI b) ld (nI k) r ba = some (bI (stayE r ba ld k a b)) := by
  unfold fX4_mayStay stayE
  by_cases e : a = b
  · rw [if_pos (congrArg nI e), if_pos e]
    by_cases c : a < 10
    · rw [if_pos (g_lt (n := 10) c (by decide)), decide_eq_true c]; rfl
    · rw [if_neg (by rw [show (10 : Int32) = nI 10 from rfl, nI_ltI (by omega) (by decide)]; exact c), decide_eq_false c]
      by_cases c2 : a = 18
      · rw [if_pos (g_eq (n := 18) c2), decide_eq_true c2]; rfl
      · rw [if_neg (by rw [show (18 : Int32) = nI 18 from rfl, nI_eq (by omega) (by decide)]; exact c2), decide_eq_false c2, n10 (by omega), doesBear_e r ba ld (by omega) hk, bd_s, if_bI, sm_bI]
        simp
  · rw [if_neg (by rw [nI_eq (by omega) (by omega)]; exact e), if_neg e]
    by_cases c : a < 10
    · rw [if_neg (g_ge (n := 10) c (by decide)), decide_eq_true c]
      by_cases c2 : b < 10
      · rw [if_neg (g_ge (n := 10) c2 (by decide)), decide_eq_true c2, isNear_e, bd_s, if_bI, sm_bI]
        simp
      · rw [if_pos (g_le (n := 10) (by omega) (by omega)), decide_eq_false c2]; rfl
    · rw [if_pos (g_le (n := 10) (by omega) (by omega)), decide_eq_false c]; rfl
theorem isIn_e {b : Nat} (hb : b < 2 ^ 31) : fX4_isIn (nI b) (10 : Int32) (17 : Int32) = some (bI (decide (10 ≤ b ∧ b < 18))) := by
  unfold fX4_isIn
  by_cases c : b < 10
  · rw [if_pos (g_lt (n := 10) c (by decide)), decide_eq_false (by omega)]; rfl
  · rw [if_neg (by rw [show (10 : Int32) = nI 10 from rfl, nI_ltI hb (by decide)]; exact c)]
    by_cases c2 : b < 18
    · rw [if_neg (by rw [show (17 : Int32) = nI 17 from rfl, nI_ltI (by decide) hb]; omega), decide_eq_true (by omega)]; rfl
    · rw [if_pos (g_gt (n := 17) (by omega) hb), decide_eq_false (by omega)]; rfl
theorem canLeap_e {n t : Nat} {r : RT} (V : VR n t r) (pl : Int32) {i j k : Nat} (hi : i < 8) (hj : j < 8) (hk : k < 2 ^ 31) : fX4_canLeap (nI i) (nI j) (nI k) r pl = some (bI (adjB r i j && nearB (wh r t pl k i) (wh r t pl k j))) := by
  have ht := V.2.1
  unfold fX4_canLeap adjB
  simp only [ck8 hi, ck8 hj, cl8 hi, cl8 hj, whereIs_e V.2.2.2.1 (show t < 2 ^ 31 by omega) pl hi hk, whereIs_e V.2.2.2.1 (show t < 2 ^ 31 by omega) pl hj hk, isNear_e, bd_s, if_bI, sm_bI]
  dsimp only [jn]
  by_cases c1 : R_homes r i - R_homes r j = (1 : Int32)
  · rw [if_pos c1, decide_eq_true c1]; rfl
  · rw [if_neg c1, decide_eq_false c1]
    by_cases c2 : R_homes r i - R_homes r j = (-1 : Int32)
    · rw [if_pos c2, decide_eq_true c2]; rfl
    · rw [if_neg c2, decide_eq_false c2]; rfl
theorem mayLeap_e {n t : Nat} {r : RT} (V : VR n t r) (pl ba ld : Int32) {a b k : Nat} (ha : a < 19) (hb : b < 19) (hk : k + 1 < 2 ^ 31) : fX4_mayLeap (nI a) (nI b) ld (nI k) r pl ba = some (bI (leapE n r t pl ba ld k a b)) := by
  have ht := V.2.1
  have hn := V.1
  unfold fX4_mayLeap leapE
  rw [isIn_e (by omega), bd_s, if_bI]
  by_cases cb : 10 ≤ b ∧ b < 18
  · have hb8 : b - 10 < 8 := by omega
    rw [decide_eq_true cb, if_pos cb, n10 cb.1, V.2.2.1]
    simp only [if_true, doesBear_e r ba ld hb8 hk, bd_s, if_bI, ck8 hb8, cl8 hb8, whereIs_e V.2.2.2.1 (show t < 2 ^ 31 by omega) pl hb8 (show k < 2 ^ 31 by omega), isNear_e, sm_bI]
    by_cases c1 : b - 10 < n
    · rw [if_neg (nI_ge c1 (by omega)), decide_eq_true c1]
      cases bearB r ba ld k (b - 10) with
      | false => rfl
      | true =>
        simp only [if_true, Bool.true_and]
        by_cases c2 : a < 10
        · rw [if_neg (g_ge (n := 10) c2 (by decide)), if_pos c2]
          by_cases c3 : R_homes r (b - 10) = 0
          · rw [if_pos c3, decide_eq_true c3]; rfl
          · rw [if_neg c3, decide_eq_false c3]; rfl
        · rw [if_pos (g_le (n := 10) (by omega) (by omega)), if_neg c2]
          by_cases c3 : a < 18
          · rw [if_neg (g_ge (n := 18) c3 (by decide)), decide_eq_true c3]
            by_cases c4 : a = b
            · rw [if_pos (congrArg nI c4), decide_eq_false (fun h => h c4)]; rfl
            · rw [if_neg (by rw [nI_eq (by omega) (by omega)]; exact c4), decide_eq_true c4, n10 (by omega), canLeap_e V pl (show a - 10 < 8 by omega) hb8 (by omega), bd_s, if_bI, sm_bI]
              simp
          · rw [if_pos (g_le (n := 18) (by omega) (by omega)), decide_eq_false c3]; rfl
    · rw [if_pos (nI_le (by omega) (by omega)), decide_eq_false c1]; rfl
  · rw [decide_eq_false cb, if_neg cb]
    simp only [Bool.false_eq_true, if_false]
    rw [isIn_e (by omega), bd_s, if_bI]
    by_cases ca : 10 ≤ a ∧ a < 18
    · have ha8 : a - 10 < 8 := by omega
      rw [decide_eq_true ca, if_pos ca, n10 ca.1]
      simp only [if_true, ck8 ha8, cl8 ha8, whereIs_e V.2.2.2.1 (show t < 2 ^ 31 by omega) pl ha8 (show k < 2 ^ 31 by omega), bd_s]
      by_cases c1 : b = 18
      · rw [if_pos (g_eq (n := 18) c1), if_pos c1]
        by_cases c2 : R_homes r (a - 10) = R_lanes r - (1 : Int32)
        · rw [if_pos c2, decide_eq_true c2]; rfl
        · rw [if_neg c2, decide_eq_false c2]; rfl
      · rw [if_neg (by rw [show (18 : Int32) = nI 18 from rfl, nI_eq (by omega) (by decide)]; exact c1), if_neg c1]
        by_cases c2 : R_homes r (a - 10) = 0
        · rw [if_pos c2, decide_eq_true c2]
          show (if wh r t pl k (a - 10) = nI b then some (1 : Int32) else some 0) = _
          by_cases c3 : wh r t pl k (a - 10) = nI b
          · rw [if_pos c3, decide_eq_true c3]; rfl
          · rw [if_neg c3, decide_eq_false c3]; rfl
        · rw [if_neg c2, decide_eq_false c2]; rfl
    · rw [decide_eq_false ca, if_neg ca]; rfl
/-! ===== the model's minute ===== -/
/-- a set of places, as the model keeps it -/
def MS (Q : Nat → Bool) (x : Int32) : Prop := ∀ i, i < 32 → bt x i = (decide (i < 19) && Q i)
/-- the places that come from a set by edges -/
def stepQ (E : Nat → Nat → Bool) (Q : Nat → Bool) (b : Nat) : Bool := (List.range 19).any (fun a => Q a && E a b)
theorem stepQ_iff {E : Nat → Nat → Bool} {Q : Nat → Bool} {b : Nat} : stepQ E Q b = true ↔ ∃ a, a < 19 ∧ Q a = true ∧ E a b = true := by
  unfold stepQ
  rw [any_of]
  constructor
  · rintro ⟨a, h1, h2⟩; exact ⟨a, h1, (Bool.and_eq_true_iff.mp h2).1, (Bool.and_eq_true_iff.mp h2).2⟩
  · rintro ⟨a, h1, h2, h3⟩; exact ⟨a, h1, by rw [h2, h3]; rfl⟩
theorem goesOn_in {n t : Nat} {r : RT} (V : VR n t r) (pl ba ld : Int32) {k : Nat} (hk : k + 1 < 2 ^ 31) {a : Nat} (ha : a < 19) (K : Int32 → Option Int32) : ∀ d b fuel : Nat, b + d = 19 → d < fuel → ∀ acc : Int32, ∃ v, fX4_goesOn_L28 ba pl r ld (nI k) (nI a) K fuel acc (nI b) = K v ∧ ∀ i, i < 32 → bt v i = (bt acc i || (decide (b ≤ i ∧ i < 19) && edgeE n r t pl ba ld k a i)) := by
  intro d
  induction d with
  | zero =>
    intro b fuel hb hf acc
    obtain ⟨fuel, rfl⟩ : ∃ m, fuel = m + 1 := ⟨fuel - 1, by omega⟩
    refine ⟨acc, ?_, fun i hi => ?_⟩
    · rw [fX4_goesOn_L28, if_pos (g_le (n := 19) (by omega) (by omega))]
    · rw [decide_eq_false (by omega)]; simp
  | succ d ih =>
    intro b fuel hb hf acc
    obtain ⟨fuel, rfl⟩ : ∃ m, fuel = m + 1 := ⟨fuel - 1, by omega⟩
    rw [fX4_goesOn_L28, if_neg (g_ge (n := 19) (by omega) (by decide)), mayStay_e r ba ld ha (by omega) hk, mayLeap_e V pl ba ld ha (by omega) hk, nI1]
    simp only [bd_s, if_bI]
    dsimp only [jn]
    have key : ∀ (acc' : Int32), (∀ i, i < 32 → bt acc' i = (bt acc i || (decide (i = b) && edgeE n r t pl ba ld k a b))) → ∃ v, fX4_goesOn_L28 ba pl r ld (nI k) (nI a) K fuel acc' (nI (b + 1)) = K v ∧ ∀ i, i < 32 → bt v i = (bt acc i || (decide (b ≤ i ∧ i < 19) && edgeE n r t pl ba ld k a i)) := by
      intro acc' h'
      obtain ⟨v, h1, h2⟩ := ih (b + 1) fuel (by omega) (by omega) acc'
      refine ⟨v, h1, fun i hi => ?_⟩
      rw [h2 i hi, h' i hi]
      by_cases e : i = b
      · subst e
        rw [decide_eq_true rfl, decide_eq_false (by omega), decide_eq_true (by omega)]
        simp
      · rw [decide_eq_false e]
        by_cases q : b + 1 ≤ i ∧ i < 19
        · rw [decide_eq_true q, decide_eq_true (by omega)]; simp
        · rw [decide_eq_false q, decide_eq_false (by omega)]; simp
    have hor : ∀ i, i < 32 → bt (acc ||| ((1 : Int32) <<< (nI b &&& 31))) i = (bt acc i || decide (i = b)) := fun i hi => by rw [b_or, sh1 (by omega) hi]
    cases hs : stayE r ba ld k a b with
    | true =>
      simp only [if_true]
      exact key _ (fun i hi => by rw [hor i hi]; unfold edgeE; rw [hs]; simp)
    | false =>
      cases hl : leapE n r t pl ba ld k a b with
      | true =>
        simp only [if_true, Bool.false_eq_true, if_false]
        exact key _ (fun i hi => by rw [hor i hi]; unfold edgeE; rw [hs, hl]; simp)
      | false =>
        simp only [Bool.false_eq_true, if_false]
        exact key _ (fun i hi => by unfold edgeE; rw [hs, hl]; simp)
theorem goesOn_out {n t : Nat} {r : RT} (V : VR n t r) (pl ba ld : Int32) {k : Nat} (hk : k + 1 < 2 ^ 31) (p : Int32) (K : Int32 → Option Int32) : ∀ d a fuel : Nat, a + d = 19 → d < fuel → ∀ acc : Int32, ∃ v, fX4_goesOn_L6 ba pl r p ld (nI k) K fuel acc (nI a) = K v ∧ ∀ i, i < 32 → bt v i = (bt acc i || (decide (i < 19) && (List.range 19).any (fun a' => decide (a ≤ a') && (bt p a' && edgeE n r t pl ba ld k a' i)))) := by
  intro d
  induction d with
  | zero =>
    intro a fuel ha hf acc
    obtain ⟨fuel, rfl⟩ : ∃ m, fuel = m + 1 := ⟨fuel - 1, by omega⟩
    refine ⟨acc, ?_, fun i hi => ?_⟩
    · rw [fX4_goesOn_L6, if_pos (g_le (n := 19) (by omega) (by omega))]
    · have : (List.range 19).any (fun a' => decide (a ≤ a') && (bt p a' && edgeE n r t pl ba ld k a' i)) = false := by
        rw [Bool.eq_false_iff]
        intro h
        obtain ⟨a', h1, h2⟩ := any_of.mp h
        rw [decide_eq_false (by omega)] at h2
        cases h2
      rw [this]; simp
  | succ d ih =>
    intro a fuel ha hf acc
    obtain ⟨fuel, rfl⟩ : ∃ m, fuel = m + 1 := ⟨fuel - 1, by omega⟩
    rw [fX4_goesOn_L6, if_neg (g_ge (n := 19) (by omega) (by decide)), bit p (by omega), if_bI, nI1]
    have key : ∀ (acc' : Int32), (∀ i, i < 32 → bt acc' i = (bt acc i || (decide (i < 19) && (bt p a && edgeE n r t pl ba ld k a i)))) → ∃ v, fX4_goesOn_L6 ba pl r p ld (nI k) K fuel acc' (nI (a + 1)) = K v ∧ ∀ i, i < 32 → bt v i = (bt acc i || (decide (i < 19) && (List.range 19).any (fun a' => decide (a ≤ a') && (bt p a' && edgeE n r t pl ba ld k a' i)))) := by
      intro acc' h'
      obtain ⟨v, h1, h2⟩ := ih (a + 1) fuel (by omega) (by omega) acc'
      refine ⟨v, h1, fun i hi => ?_⟩
      rw [h2 i hi, h' i hi, Bool.or_assoc, ← Bool.and_or_distrib_left]
      congr 2
      rw [Bool.eq_iff_iff, Bool.or_eq_true_iff, any_of, any_of]
      constructor
      · rintro (h | ⟨a', g1, g2⟩)
        · exact ⟨a, by omega, by rw [decide_eq_true (Nat.le_refl a)]; exact h⟩
        · have := (Bool.and_eq_true_iff.mp g2)
          exact ⟨a', g1, by rw [decide_eq_true (by have := of_decide_eq_true this.1; omega)]; exact this.2⟩
      · rintro ⟨a', g1, g2⟩
        have g := Bool.and_eq_true_iff.mp g2
        by_cases e : a' = a
        · subst e; exact Or.inl g.2
        · exact Or.inr ⟨a', g1, by rw [decide_eq_true (by have := of_decide_eq_true g.1; omega)]; exact g.2⟩
    cases hp : bt p a with
    | false =>
      simp only [Bool.false_eq_true, if_false]
      exact key _ (fun i hi => by rw [hp]; simp)
    | true =>
      simp only [if_true]
      obtain ⟨v, h1, h2⟩ := goesOn_in V pl ba ld hk (show a < 19 by omega) (fun v => fX4_goesOn_L6 ba pl r p ld (nI k) K fuel v (nI (a + 1))) 19 0 400 rfl (by decide) acc
      rw [show (0 : Int32) = nI 0 from rfl, h1]
      refine key v (fun i hi => ?_)
      rw [h2 i hi, hp]
      by_cases q : i < 19
      · rw [decide_eq_true (by omega), decide_eq_true q]; simp
      · rw [decide_eq_false (by omega), decide_eq_false q]; simp
theorem goesOn_e {n t : Nat} {r : RT} (V : VR n t r) (pl ba ld : Int32) {k : Nat} (hk : k + 1 < 2 ^ 31) {Q : Nat → Bool} {p : Int32} (hp : MS Q p) : ∃ v, fX4_goesOn p ld (nI k) r pl ba = some v ∧ MS (stepQ (edgeE n r t pl ba ld k) Q) v := by
  obtain ⟨v, h1, h2⟩ := goesOn_out V pl ba ld hk p (fun v => some v) 19 0 400 rfl (by decide) 0
  refine ⟨v, h1, fun i hi => ?_⟩
  rw [h2 i hi, b_0]
  simp only [Bool.false_or]
  congr 1
  unfold stepQ
  rw [Bool.eq_iff_iff, any_of, any_of]
  constructor
  · rintro ⟨a, g1, g2⟩
    rw [hp a (by omega), decide_eq_true g1] at g2
    exact ⟨a, g1, by simpa using g2⟩
  · rintro ⟨a, g1, g2⟩
    refine ⟨a, g1, ?_⟩
    rw [hp a (by omega), decide_eq_true g1]
    simpa using g2
