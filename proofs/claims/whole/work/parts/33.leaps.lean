/-! to leap, as the class does -/
def cnv (w : Nat) : Int32 := (fX2_cellsNear (nI w)).getD 0
theorem cells_t : ∀ w, w < 10 → fX2_cellsNear (nI w) = some (cnv w) ∧ ∀ i, i < 32 → bt (cnv w) i = (decide (i < 10) && nr i w) := by
  have h : ∀ w, w < 10 → ∀ i, i < 32 → bt (cnv w) i = (decide (i < 10) && nr i w) := by decide +kernel
  exact fun w hw => ⟨rfl, h w hw⟩
theorem nr_c (a b : Nat) : nr a b = nr b a := by
  unfold nr
  rw [Bool.eq_iff_iff]
  simp only [Bool.or_eq_true_iff, decide_eq_true_iff]
  constructor <;> rintro ((h | h) | h)
  · exact Or.inl (Or.inl h.symm)
  · exact Or.inr h
  · exact Or.inl (Or.inr h)
  · exact Or.inl (Or.inl h.symm)
  · exact Or.inr h
  · exact Or.inl (Or.inr h)
theorem wh_in {n t : Nat} {r : RT} (V : VR n t r) (pl : Int32) (k : Nat) {j : Nat} (hj : j < n) : ∃ w, w < 10 ∧ wh r t pl k j = nI w := spv_in V hj _
theorem abs1 (d : Int32) : (if 0 ≤ d then d else 0 - d) = 1 ↔ d = 1 ∨ d = -1 := by
  by_cases c : 0 ≤ d
  · rw [if_pos c]
    constructor
    · exact Or.inl
    · rintro (h | h)
      · exact h
      · subst h; exact absurd c (by decide)
  · rw [if_neg c]
    constructor
    · intro h
      right
      have : d = 0 - (0 - d) := by
        rw [i_eq]
        have e0 : (0 : Int32).toInt = 0 := rfl
        have h1 := d.minValue_le_toInt
        have h2 := d.toInt_le
        have hm : (Int32.minValue).toInt = -2147483648 := rfl
        have hM : (Int32.maxValue).toInt = 2147483647 := rfl
        rw [h]
        rw [i_eq] at h
        rw [Int32.toInt_sub, e0] at h
        have e1 : (1 : Int32).toInt = 1 := rfl
        have e2 : (0 - 1 : Int32).toInt = -1 := rfl
        rw [e1] at h
        rw [e2]
        rw [Int.bmod_def] at h
        split at h <;> omega
      rw [this, h]; rfl
    · rintro (h | h)
      · subst h; exact absurd (show (0 : Int32) ≤ 1 by decide) c
      · subst h; rfl
/-- the floes beside floe f -/
def fbB (n : Nat) (r : RT) (t : Nat) (pl : Int32) (k f i : Nat) : Bool := decide (i < n) && (adjB r i f && nearB (wh r t pl k i) (wh r t pl k f))
theorem beside_in {n t : Nat} {r : RT} (V : VR n t r) {pl ba ld : Int32} {k : Nat} {la sp : AR} {st : Int32} (L : LK n r t pl ba ld k la sp st) {f : Nat} (hf : f < n) {w : Nat} (hw : w < 10) (ew : wh r t pl k f = nI w) (K : Int32 → Option Int32) : ∀ d i fuel : Nat, i + d = 8 → d < fuel → ∀ acc : Int32, ∃ v, fX2_floesBeside_L28 la r sp (nI f) (cnv w) K fuel acc (nI i) = K v ∧ ∀ j, j < 32 → bt v j = (bt acc j || (decide (i ≤ j) && fbB n r t pl k f j)) := by
  have hn := V.1
  intro d
  induction d with
  | zero =>
    intro i fuel hi hfu acc
    obtain ⟨fuel, rfl⟩ : ∃ m, fuel = m + 1 := ⟨fuel - 1, by omega⟩
    refine ⟨acc, ?_, fun j hj => ?_⟩
    · rw [fX2_floesBeside_L28, if_pos (g_le (n := 8) (by omega) (by omega))]
    · unfold fbB
      by_cases q : j < n
      · rw [decide_eq_false (by omega)]; simp
      · rw [decide_eq_false q]; simp
  | succ d ih =>
    intro i fuel hi hfu acc
    obtain ⟨fuel, rfl⟩ : ∃ m, fuel = m + 1 := ⟨fuel - 1, by omega⟩
    have hi8 : i < 8 := by omega
    have hf8 : f < 8 := by omega
    have key : ∀ (acc' : Int32), (∀ j, j < 32 → bt acc' j = (bt acc j || (decide (j = i) && fbB n r t pl k f i))) → ∃ v, fX2_floesBeside_L28 la r sp (nI f) (cnv w) K fuel acc' (nI (i + 1)) = K v ∧ ∀ j, j < 32 → bt v j = (bt acc j || (decide (i ≤ j) && fbB n r t pl k f j)) := by
      intro acc' h'
      obtain ⟨v, h1, h2⟩ := ih (i + 1) fuel (by omega) (by omega) acc'
      refine ⟨v, h1, fun j hj => ?_⟩
      rw [h2 j hj, h' j hj]
      by_cases e : j = i
      · subst e
        rw [decide_eq_true rfl, decide_eq_false (show ¬ j + 1 ≤ j by omega), decide_eq_true (Nat.le_refl j)]; simp
      · rw [decide_eq_false e]
        by_cases q : i + 1 ≤ j
        · rw [decide_eq_true q, decide_eq_true (show i ≤ j by omega)]; simp
        · rw [decide_eq_false q, decide_eq_false (show ¬ i ≤ j by omega)]; simp
    have hskip : fbB n r t pl k f i = false → ∃ v, fX2_floesBeside_L28 la r sp (nI f) (cnv w) K fuel acc (nI (i + 1)) = K v ∧ ∀ j, j < 32 → bt v j = (bt acc j || (decide (i ≤ j) && fbB n r t pl k f j)) := fun h => key acc (fun j hj => by rw [h]; simp)
    rw [fX2_floesBeside_L28, if_neg (g_ge (n := 8) hi8 (by decide)), nI1]
    by_cases hin : i < n
    · rw [has_y V hin, bd_s, if_neg (by decide : ¬ (1 : Int32) = 0)]
      simp only [ck8 hi8, ck8 hf8, cl8 hi8, cl8 hf8]
      rw [L.1 i hi8, L.1 f hf8, L.2.1 i hi8]
      unfold lnv spx
      rw [if_pos hin, if_pos hf, if_pos hin]
      obtain ⟨u, hu, eu⟩ := wh_in V pl k hin
      have hfb : fbB n r t pl k f i = (adjB r i f && nr u w) := by unfold fbB; rw [decide_eq_true hin, eu, ew, near_t u hu w hw]; rfl
      by_cases ca : adjB r i f = true
      · have ca' : (if 0 ≤ R_homes r i - R_homes r f then R_homes r i - R_homes r f else 0 - (R_homes r i - R_homes r f)) = (1 : Int32) := by
          rw [abs1]
          unfold adjB at ca
          simpa only [Bool.or_eq_true_iff, decide_eq_true_iff] using ca
        rw [if_pos ca', eu, bit _ (show u < 32 by omega), if_bI1, (cells_t w hw).2 u (by omega), decide_eq_true hu]
        cases hnr : nr u w with
        | true =>
          simp only [Bool.and_self, if_true]
          exact key _ (fun j hj => by rw [b_or, sh1 (by omega) hj, hfb, ca, hnr]; simp)
        | false =>
          simp only [Bool.and_false, Bool.false_eq_true, if_false]
          exact hskip (by rw [hfb, hnr]; simp)
      · have ca' : ¬ (if 0 ≤ R_homes r i - R_homes r f then R_homes r i - R_homes r f else 0 - (R_homes r i - R_homes r f)) = (1 : Int32) := by
          rw [abs1]
          unfold adjB at ca
          simpa only [Bool.or_eq_true_iff, decide_eq_true_iff] using ca
        rw [if_neg ca']
        exact hskip (by rw [hfb, Bool.eq_false_iff.mpr ca]; rfl)
    · rw [has_n V (by omega) (by omega), bd_s, if_pos rfl]
      exact hskip (by unfold fbB; rw [decide_eq_false hin]; rfl)
theorem beside_e {n t : Nat} {r : RT} (V : VR n t r) {pl ba ld : Int32} {k : Nat} {la sp : AR} {st : Int32} (L : LK n r t pl ba ld k la sp st) {f : Nat} (hf : f < n) : ∃ v, fX2_floesBeside (nI f) la sp r = some v ∧ ∀ j, j < 32 → bt v j = fbB n r t pl k f j := by
  have hf8 : f < 8 := Nat.lt_of_lt_of_le hf V.1
  obtain ⟨w, hw, ew⟩ := wh_in V pl k hf
  obtain ⟨v, h1, h2⟩ := beside_in V L hf hw ew (fun v => some v) 8 0 400 rfl (by decide) 0
  refine ⟨v, ?_, fun j hj => ?_⟩
  · unfold fX2_floesBeside
    rw [has_y V hf, bd_s, if_neg (by decide : ¬ (1 : Int32) = 0), ck8 hf8, cl8 hf8, L.2.1 f hf8]
    unfold spx
    rw [if_pos hf, ew, (cells_t w hw).1, bd_s]
    exact h1
  · rw [h2 j hj, b_0]; simp
/-- the banks beside floe f -/
theorem bank_e {n t : Nat} {r : RT} (V : VR n t r) {pl ba ld : Int32} {k : Nat} {la sp : AR} {st : Int32} (L : LK n r t pl ba ld k la sp st) {f : Nat} (hf : f < n) : ∃ v, fX2_bankBeside (nI f) la sp r = some v ∧ ∀ j, j < 32 → bt v j = ((decide (R_homes r f = 0) && (decide (10 ≤ j) && decide (wh r t pl k f = nI (j - 10)))) || (decide (j = 8) && decide (R_homes r f = R_lanes r - 1))) := by
  have hf8 : f < 8 := Nat.lt_of_lt_of_le hf V.1
  obtain ⟨w, hw, ew⟩ := wh_in V pl k hf
  unfold fX2_bankBeside
  rw [has_y V hf, bd_s, if_neg (by decide : ¬ (1 : Int32) = 0)]
  simp only [ck8 hf8, cl8 hf8]
  rw [L.1 f hf8, L.2.1 f hf8]
  unfold lnv spx
  rw [if_pos hf, if_pos hf, ew]
  have hsc : fX3_southCell (nI w) = some ((1 : Int32) <<< (nI (10 + w) &&& 31)) := by
    unfold fX3_southCell
    rw [show (10 : Int32) = nI 10 from rfl, nI_add]
  rw [hsc]
  dsimp only [jn, bd]
  have b256 : ∀ j, j < 32 → bt (256 : Int32) j = decide (j = 8) := by decide +kernel
  have e1 : ∀ j, j < 32 → bt ((1 : Int32) <<< (nI (10 + w) &&& 31)) j = (decide (10 ≤ j) && decide (nI w = nI (j - 10))) := by
    intro j hj
    rw [sh1 (by omega) hj, Bool.eq_iff_iff, Bool.and_eq_true_iff, decide_eq_true_iff, decide_eq_true_iff, decide_eq_true_iff, nI_eq (by omega) (by omega)]
    omega
  by_cases c1 : R_homes r f = 0
  · rw [if_pos c1, decide_eq_true c1]
    by_cases c2 : R_homes r f = R_lanes r - (1 : Int32)
    · rw [if_pos c2, decide_eq_true c2]
      exact ⟨_, rfl, fun j hj => by rw [b_or, e1 j hj, b256 j hj]; simp⟩
    · rw [if_neg c2, decide_eq_false c2]
      exact ⟨_, rfl, fun j hj => by rw [e1 j hj]; simp⟩
  · rw [if_neg c1, decide_eq_false c1]
    by_cases c2 : R_homes r f = R_lanes r - (1 : Int32)
    · rw [if_pos c2, decide_eq_true c2]
      exact ⟨_, rfl, fun j hj => by rw [b_or, b_0, b256 j hj]; simp⟩
    · rw [if_neg c2, decide_eq_false c2]
      exact ⟨_, rfl, fun j hj => by rw [b_0]; simp⟩
/-- what floe f gives to a leap's set: by the south bank, and by who stands on it -/
def lpA (n : Nat) (r : RT) (t : Nat) (pl ba ld : Int32) (k : Nat) (Q : Nat → Bool) (f j : Nat) : Bool := decide (j = f) && (decide (f < n) && bearB r ba ld k f && decide (R_homes r f = 0) && (List.range 10).any (fun c => Q c && nearB (nI c) (wh r t pl k f)))
def lpB (n : Nat) (r : RT) (t : Nat) (pl ba ld : Int32) (k : Nat) (Q : Nat → Bool) (f j : Nat) : Bool := Q (f + 10) && ((fbB n r t pl k f j && bearB r ba ld k j) || ((decide (R_homes r f = 0) && (decide (10 ≤ j) && decide (wh r t pl k f = nI (j - 10)))) || (decide (j = 8) && decide (R_homes r f = R_lanes r - 1))))
theorem leaped_in {n t : Nat} {r : RT} (V : VR n t r) {pl ba ld : Int32} {k : Nat} {la sp : AR} {st : Int32} (L : LK n r t pl ba ld k la sp st) {Q : Nat → Bool} (G : good n Q) {x : Int32} (h : XS Q x) (K : Int32 → Option Int32) : ∀ d f fuel : Nat, f + d = 8 → d < fuel → ∀ acc : Int32, ∃ v, fX2_placesLeaped_L14 la r sp st x K fuel acc (nI f) = K v ∧ ∀ j, j < 32 → bt v j = (bt acc j || (List.range 8).any (fun f' => decide (f ≤ f') && (lpA n r t pl ba ld k Q f' j || lpB n r t pl ba ld k Q f' j))) := by
  have hn := V.1
  have hcx := b_cells h
  intro d
  induction d with
  | zero =>
    intro f fuel hf hfu acc
    obtain ⟨fuel, rfl⟩ : ∃ m, fuel = m + 1 := ⟨fuel - 1, by omega⟩
    refine ⟨acc, ?_, fun j hj => ?_⟩
    · rw [fX2_placesLeaped_L14, if_pos (g_le (n := 8) (by omega) (by omega))]
    · have : (List.range 8).any (fun f' => decide (f ≤ f') && (lpA n r t pl ba ld k Q f' j || lpB n r t pl ba ld k Q f' j)) = false := by
        rw [Bool.eq_false_iff]
        intro g
        obtain ⟨a, h1, h2⟩ := any_of.mp g
        rw [decide_eq_false (by omega)] at h2
        cases h2
      rw [this]; simp
  | succ d ih =>
    intro f fuel hf hfu acc
    obtain ⟨fuel, rfl⟩ : ∃ m, fuel = m + 1 := ⟨fuel - 1, by omega⟩
    have hf8 : f < 8 := by omega
    have key : ∀ (acc' : Int32), (∀ j, j < 32 → bt acc' j = (bt acc j || (lpA n r t pl ba ld k Q f j || lpB n r t pl ba ld k Q f j))) → ∃ v, fX2_placesLeaped_L14 la r sp st x K fuel acc' (nI (f + 1)) = K v ∧ ∀ j, j < 32 → bt v j = (bt acc j || (List.range 8).any (fun f' => decide (f ≤ f') && (lpA n r t pl ba ld k Q f' j || lpB n r t pl ba ld k Q f' j))) := by
      intro acc' h'
      obtain ⟨v, h1, h2⟩ := ih (f + 1) fuel (by omega) (by omega) acc'
      refine ⟨v, h1, fun j hj => ?_⟩
      rw [h2 j hj, h' j hj, Bool.or_assoc]
      congr 1
      rw [Bool.eq_iff_iff, Bool.or_eq_true_iff, any_of, any_of]
      constructor
      · rintro (q | ⟨a, g1, g2⟩)
        · exact ⟨f, hf8, by rw [decide_eq_true (Nat.le_refl f), q]; rfl⟩
        · have g := Bool.and_eq_true_iff.mp g2
          exact ⟨a, g1, by rw [decide_eq_true (show f ≤ a by have := of_decide_eq_true g.1; omega), g.2]; rfl⟩
      · rintro ⟨a, g1, g2⟩
        have g := Bool.and_eq_true_iff.mp g2
        by_cases e : a = f
        · subst e; exact Or.inl g.2
        · exact Or.inr ⟨a, g1, by rw [decide_eq_true (show f + 1 ≤ a by have := of_decide_eq_true g.1; omega), g.2]; rfl⟩
    rw [fX2_placesLeaped_L14, if_neg (g_ge (n := 8) hf8 (by decide)), ck8 hf8, nI1]
    simp only [ck8 hf8, cl8 hf8]
    rw [L.1 f hf8, L.2.1 f hf8, bit x (show f < 32 by omega), h f (by omega), plc_f _ hf8]
    -- the second half, from a set that holds the first
    have second : ∀ acc1 : Int32, (∀ j, j < 32 → bt acc1 j = (bt acc j || lpA n r t pl ba ld k Q f j)) → ∃ v, (if bI (Q (f + 10)) = (1 : Int32) then bd (fX2_floesBeside (nI f) la sp r) (fun (q72 : Int32) => bd (fX2_bankBeside (nI f) la sp r) (fun (q83 : Int32) => fX2_placesLeaped_L14 la r sp st x K fuel (acc1 ||| ((q72 &&& st) ||| q83)) (nI (f + 1)))) else fX2_placesLeaped_L14 la r sp st x K fuel acc1 (nI (f + 1))) = K v ∧ ∀ j, j < 32 → bt v j = (bt acc j || (List.range 8).any (fun f' => decide (f ≤ f') && (lpA n r t pl ba ld k Q f' j || lpB n r t pl ba ld k Q f' j))) := by
      intro acc1 h1
      rw [if_bI1]
      cases hq : Q (f + 10) with
      | false =>
        simp only [Bool.false_eq_true, if_false]
        refine key acc1 (fun j hj => ?_)
        rw [h1 j hj]; unfold lpB; rw [hq]; simp
      | true =>
        have hfn : f < n := by
          rcases Nat.lt_or_ge f n with q | q
          · exact q
          · rw [G f q hf8] at hq; cases hq
        obtain ⟨v1, e1, g1⟩ := beside_e V L hfn
        obtain ⟨v2, e2, g2⟩ := bank_e V L hfn
        simp only [if_true]
        rw [e1, bd_s, e2, bd_s]
        refine key _ (fun j hj => ?_)
        rw [b_or, b_or, b_and, h1 j hj, g1 j hj, g2 j hj, L.2.2 j hj]
        unfold lpB
        rw [hq, Bool.true_and, Bool.or_assoc]
        congr 2
        unfold fbB
        by_cases q : j < n
        · rw [decide_eq_true q]; simp
        · rw [decide_eq_false q]; simp
    by_cases hfn : f < n
    · obtain ⟨w, hw, ew⟩ := wh_in V pl k hfn
      unfold lnv spx
      rw [if_pos hfn, if_pos hfn, ew, (cells_t w hw).1]
      dsimp only [jn]
      simp only [bd_s]
      by_cases c1 : R_homes r f = 0
      · rw [if_pos c1]
        have hany : ((cnv w &&& cellsX x) = 0) ↔ (List.range 10).any (fun c => Q c && nearB (nI c) (wh r t pl k f)) = false := by
          rw [← Decidable.not_iff_not, ne0, Bool.not_eq_false, any_of]
          constructor
          · rintro ⟨i, hi, g⟩
            rw [b_and, (cells_t w hw).2 i hi, hcx i hi] at g
            simp only [Bool.and_eq_true_iff, decide_eq_true_iff] at g
            exact ⟨i, g.1.1, by rw [ew, near_t i g.1.1 w hw, g.2.2, g.1.2]; rfl⟩
          · rintro ⟨c, hc, g⟩
            rw [ew, near_t c hc w hw] at g
            have g := Bool.and_eq_true_iff.mp g
            exact ⟨c, by omega, by rw [b_and, (cells_t w hw).2 c (by omega), hcx c (by omega), decide_eq_true hc, g.1, g.2]; rfl⟩
        show ∃ v, (if (cnv w &&& cellsX x) = 0 then _ else _) = _ ∧ _
        by_cases c2 : (cnv w &&& cellsX x) = 0
        · rw [if_pos c2]
          exact second acc (fun j hj => by unfold lpA; rw [hany.mp c2]; simp)
        · rw [if_neg c2]
          refine second _ (fun j hj => ?_)
          rw [b_or, b_and, sh1 (by omega) hj, L.2.2 j hj]
          unfold lpA
          rw [eq_true_of_ne_false (fun g => c2 (hany.mpr g)), decide_eq_true c1]
          by_cases e : j = f
          · subst e; rw [decide_eq_true hfn]; simp
          · rw [decide_eq_false e]; simp
      · rw [if_neg c1]
        exact second acc (fun j hj => by unfold lpA; rw [decide_eq_false c1]; simp)
    · unfold lnv
      rw [if_neg hfn]
      dsimp only [jn]
      rw [if_neg (by decide : ¬ (-9 : Int32) = 0)]
      exact second acc (fun j hj => by unfold lpA; rw [decide_eq_false hfn]; simp)
theorem leaped_e {n t : Nat} {r : RT} (V : VR n t r) {pl ba ld : Int32} {k : Nat} {la sp : AR} {st : Int32} (L : LK n r t pl ba ld k la sp st) {Q : Nat → Bool} (G : good n Q) {x : Int32} (h : XS Q x) : ∃ v, fX2_placesLeaped x la sp st r = some v ∧ XS (stepQ (leapE n r t pl ba ld k) Q) v := by
  have hn := V.1
  obtain ⟨v, h1, h2⟩ := leaped_in V L G h (fun v => some v) 8 0 400 rfl (by decide) 0
  refine ⟨v, h1, ?_⟩
  have h3 : ∀ j, j < 32 → bt v j = (List.range 8).any (fun f => lpA n r t pl ba ld k Q f j || lpB n r t pl ba ld k Q f j) := by
    intro j hj
    rw [h2 j hj, b_0, Bool.false_or]
    congr 1
  have hG : ∀ f, f < 8 → Q (f + 10) = true → f < n := by
    intro f hf hq
    rcases Nat.lt_or_ge f n with q | q
    · exact q
    · rw [G f q hf] at hq; cases hq
  refine bit_cases (fun j hj => ?_) ?_ (fun c hc => ?_) (fun i g1 hi => ?_)
  · rw [h3 j (by omega), plc_f _ hj, Bool.eq_iff_iff, any_of, stepQ_iff]
    constructor
    · rintro ⟨f, hf, g⟩
      rcases Bool.or_eq_true_iff.mp g with g | g
      · unfold lpA at g
        simp only [Bool.and_eq_true_iff, decide_eq_true_iff] at g
        obtain ⟨e, ⟨⟨q1, q2⟩, q3⟩, q4⟩ := g
        subst e
        obtain ⟨c, hc, q5⟩ := any_of.mp q4
        have q5 := Bool.and_eq_true_iff.mp q5
        refine ⟨c, by omega, q5.1, ?_⟩
        unfold leapE
        rw [if_pos (by omega), show j + 10 - 10 = j by omega, decide_eq_true q1, q2, if_pos hc, decide_eq_true q3, q5.2]; rfl
      · unfold lpB fbB at g
        simp only [Bool.and_eq_true_iff, Bool.or_eq_true_iff, decide_eq_true_iff] at g
        obtain ⟨q0, g⟩ := g
        rcases g with ⟨⟨q1, q2, q3⟩, q4⟩ | ⟨_, q1, _⟩ | ⟨q1, _⟩
        · refine ⟨f + 10, by omega, q0, ?_⟩
          unfold leapE
          have hadj : adjB r f j = true := by
            unfold adjB at q2 ⊢
            simp only [Bool.or_eq_true_iff, decide_eq_true_iff] at q2 ⊢
            rcases q2 with q2 | q2
            · right
              have : R_homes r f - R_homes r j = -(R_homes r j - R_homes r f) := by rw [Int32.neg_sub]
              rw [this, q2]
            · left
              have : R_homes r f - R_homes r j = -(R_homes r j - R_homes r f) := by rw [Int32.neg_sub]
              rw [this, q2]; rfl
          have hne : f ≠ j := by
            intro e
            subst e
            unfold adjB at q2
            rw [Int32.sub_self] at q2
            exact absurd q2 (by decide)
          obtain ⟨u, hu, eu⟩ := wh_in V pl k (hG f hf q0)
          obtain ⟨u2, hu2, eu2⟩ := wh_in V pl k q1
          have hnear : nearB (wh r t pl k f) (wh r t pl k j) = true := by
            rw [eu, eu2, near_t u hu u2 hu2, nr_c, ← near_t u2 hu2 u hu, ← eu, ← eu2]; exact q3
          rw [if_pos (by omega), show j + 10 - 10 = j by omega, show f + 10 - 10 = f by omega, decide_eq_true q1, q4, if_neg (by omega), decide_eq_true (show f + 10 < 18 by omega), decide_eq_true (show f + 10 ≠ j + 10 by omega), hadj, hnear]; rfl
        · omega
        · omega
    · rintro ⟨a, ha, q, g⟩
      unfold leapE at g
      rw [if_pos (by omega), show j + 10 - 10 = j by omega] at g
      by_cases c : a < 10
      · rw [if_pos c] at g
        simp only [Bool.and_eq_true_iff, decide_eq_true_iff] at g
        obtain ⟨⟨q1, q2⟩, q3, q4⟩ := g
        refine ⟨j, hj, Bool.or_eq_true_iff.mpr (Or.inl ?_)⟩
        unfold lpA
        rw [decide_eq_true rfl, decide_eq_true q1, q2, decide_eq_true q3, any_of.mpr ⟨a, c, by rw [q, q4]; rfl⟩]; rfl
      · rw [if_neg c] at g
        simp only [Bool.and_eq_true_iff, decide_eq_true_iff] at g
        obtain ⟨⟨q1, q2⟩, ⟨⟨q3, q4⟩, q5⟩, q6⟩ := g
        have hq10 : Q (a - 10 + 10) = true := by rw [show a - 10 + 10 = a by omega]; exact q
        refine ⟨a - 10, by omega, Bool.or_eq_true_iff.mpr (Or.inr ?_)⟩
        have hadj : adjB r j (a - 10) = true := by
          unfold adjB at q5 ⊢
          simp only [Bool.or_eq_true_iff, decide_eq_true_iff] at q5 ⊢
          have : R_homes r j - R_homes r (a - 10) = -(R_homes r (a - 10) - R_homes r j) := by rw [Int32.neg_sub]
          rcases q5 with q5 | q5
          · right; rw [this, q5]
          · left; rw [this, q5]; rfl
        obtain ⟨u, hu, eu⟩ := wh_in V pl k (hG (a - 10) (by omega) hq10)
        obtain ⟨u2, hu2, eu2⟩ := wh_in V pl k q1
        have hnear : nearB (wh r t pl k j) (wh r t pl k (a - 10)) = true := by
          rw [eu, eu2, near_t u2 hu2 u hu, nr_c, ← near_t u hu u2 hu2, ← eu, ← eu2]; exact q6
        unfold lpB fbB
        rw [hq10, decide_eq_true q1, hadj, hnear, q2]; rfl
  · rw [h3 8 (by omega), plc_n, Bool.eq_iff_iff, any_of, stepQ_iff]
    constructor
    · rintro ⟨f, hf, g⟩
      rcases Bool.or_eq_true_iff.mp g with g | g
      · unfold lpA at g
        simp only [Bool.and_eq_true_iff, decide_eq_true_iff] at g
        omega
      · unfold lpB fbB at g
        simp only [Bool.and_eq_true_iff, Bool.or_eq_true_iff, decide_eq_true_iff] at g
        obtain ⟨q0, g⟩ := g
        rcases g with ⟨⟨q1, _⟩, _⟩ | ⟨_, q1, _⟩ | ⟨_, q1⟩
        · omega
        · omega
        · refine ⟨f + 10, by omega, q0, ?_⟩
          unfold leapE
          rw [if_neg (by omega), if_pos (by omega), if_pos rfl, show f + 10 - 10 = f by omega]
          exact decide_eq_true q1
    · rintro ⟨a, ha, q, g⟩
      unfold leapE at g
      rw [if_neg (by omega)] at g
      by_cases c : 10 ≤ a ∧ a < 18
      · rw [if_pos c, if_pos rfl] at g
        refine ⟨a - 10, by omega, Bool.or_eq_true_iff.mpr (Or.inr ?_)⟩
        unfold lpB
        rw [show a - 10 + 10 = a by omega, q, g]; simp
      · rw [if_neg c] at g; cases g
  · rw [h3 (10 + c) (by omega), plc_s _ hc, Bool.eq_iff_iff, any_of, stepQ_iff]
    constructor
    · rintro ⟨f, hf, g⟩
      rcases Bool.or_eq_true_iff.mp g with g | g
      · unfold lpA at g
        simp only [Bool.and_eq_true_iff, decide_eq_true_iff] at g
        omega
      · unfold lpB fbB at g
        simp only [Bool.and_eq_true_iff, Bool.or_eq_true_iff, decide_eq_true_iff] at g
        obtain ⟨q0, g⟩ := g
        rcases g with ⟨⟨q1, _⟩, _⟩ | ⟨q1, _, q2⟩ | ⟨q1, _⟩
        · omega
        · refine ⟨f + 10, by omega, q0, ?_⟩
          unfold leapE
          rw [if_neg (by omega), if_pos (by omega), if_neg (by omega), show f + 10 - 10 = f by omega, decide_eq_true q1]
          rw [show 10 + c - 10 = c by omega] at q2
          rw [decide_eq_true q2]; rfl
        · omega
    · rintro ⟨a, ha, q, g⟩
      unfold leapE at g
      rw [if_neg (by omega)] at g
      by_cases c1 : 10 ≤ a ∧ a < 18
      · rw [if_pos c1, if_neg (by omega)] at g
        have g := Bool.and_eq_true_iff.mp g
        refine ⟨a - 10, by omega, Bool.or_eq_true_iff.mpr (Or.inr ?_)⟩
        unfold lpB
        rw [show a - 10 + 10 = a by omega, q, g.1, show 10 + c - 10 = c by omega, g.2, decide_eq_true (show 10 ≤ 10 + c by omega)]; simp
      · rw [if_neg c1] at g; cases g
  · rw [h3 i hi, plc_o _ g1, Bool.eq_false_iff]
    intro g
    obtain ⟨f, hf, g⟩ := any_of.mp g
    rcases Bool.or_eq_true_iff.mp g with g | g
    · unfold lpA at g
      simp only [Bool.and_eq_true_iff, decide_eq_true_iff] at g
      omega
    · unfold lpB fbB at g
      simp only [Bool.and_eq_true_iff, Bool.or_eq_true_iff, decide_eq_true_iff] at g
      obtain ⟨q0, g⟩ := g
      rcases g with ⟨⟨q1, _⟩, _⟩ | ⟨_, q1, q2⟩ | ⟨q1, _⟩
      · omega
      · obtain ⟨u, hu, eu⟩ := wh_in V pl k (hG f hf q0)
        rw [eu, nI_eq (by omega) (by omega)] at q2
        omega
      · omega
