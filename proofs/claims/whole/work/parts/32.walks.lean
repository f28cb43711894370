/-! ===== the class's minute ===== -/
/-- a set of places, as the class keeps it -/
def plc (Q : Nat → Bool) (i : Nat) : Bool := if i < 8 then Q (i + 10) else if i = 8 then Q 18 else if 10 ≤ i ∧ i < 20 then Q (i - 10) else false
def XS (Q : Nat → Bool) (x : Int32) : Prop := ∀ i, i < 32 → bt x i = plc Q i
/-- no floe in it that isn't there -/
def good (n : Nat) (Q : Nat → Bool) : Prop := ∀ j, n ≤ j → j < 8 → Q (j + 10) = false
theorem plc_f (Q : Nat → Bool) {i : Nat} (h : i < 8) : plc Q i = Q (i + 10) := if_pos h
theorem plc_n (Q : Nat → Bool) : plc Q 8 = Q 18 := rfl
theorem plc_s (Q : Nat → Bool) {c : Nat} (h : c < 10) : plc Q (10 + c) = Q c := by
  unfold plc
  rw [if_neg (by omega), if_neg (by omega), if_pos (by omega), show 10 + c - 10 = c by omega]
theorem plc_o (Q : Nat → Bool) {i : Nat} (h : i = 9 ∨ 20 ≤ i) : plc Q i = false := by
  unfold plc
  rw [if_neg (by omega), if_neg (by omega), if_neg (by omega)]
/-- every bit's number, by kind -/
theorem bit_cases {P : Nat → Prop} (hf : ∀ j, j < 8 → P j) (hn : P 8) (hs : ∀ c, c < 10 → P (10 + c)) (ho : ∀ i, (i = 9 ∨ 20 ≤ i) → i < 32 → P i) : ∀ i, i < 32 → P i := by
  intro i hi
  by_cases h1 : i < 8
  · exact hf i h1
  · by_cases h2 : i = 8
    · rw [h2]; exact hn
    · by_cases h3 : 10 ≤ i ∧ i < 20
      · have := hs (i - 10) (by omega)
        rwa [show 10 + (i - 10) = i by omega] at this
      · exact ho i (by omega) hi
theorem XS.or {Q1 Q2 : Nat → Bool} {x y : Int32} (h1 : XS Q1 x) (h2 : XS Q2 y) : XS (fun a => Q1 a || Q2 a) (x ||| y) := by
  intro i hi
  rw [b_or, h1 i hi, h2 i hi]
  unfold plc
  by_cases c1 : i < 8
  · rw [if_pos c1, if_pos c1, if_pos c1]
  · rw [if_neg c1, if_neg c1, if_neg c1]
    by_cases c2 : i = 8
    · rw [if_pos c2, if_pos c2, if_pos c2]
    · rw [if_neg c2, if_neg c2, if_neg c2]
      by_cases c3 : 10 ≤ i ∧ i < 20
      · rw [if_pos c3, if_pos c3, if_pos c3]
      · rw [if_neg c3, if_neg c3, if_neg c3]; rfl
theorem XS.congr {Q1 Q2 : Nat → Bool} {x : Int32} (h : XS Q1 x) (e : ∀ a, a < 19 → Q1 a = Q2 a) : XS Q2 x := by
  refine bit_cases (fun j hj => ?_) ?_ (fun c hc => ?_) (fun i h1 hi => ?_)
  · rw [h j (by omega), plc_f _ hj, plc_f _ hj, e _ (by omega)]
  · rw [h 8 (by omega), plc_n, plc_n, e _ (by omega)]
  · rw [h (10 + c) (by omega), plc_s _ hc, plc_s _ hc, e _ (by omega)]
  · rw [h i hi, plc_o _ h1, plc_o _ h1]
/-! what 'look' finds -/
def lnv (n : Nat) (r : RT) (j : Nat) : Int32 := if j < n then R_homes r j else -9
def spx (n : Nat) (r : RT) (t : Nat) (pl : Int32) (k j : Nat) : Int32 := if j < n then wh r t pl k j else -9
/-- lanes, spots and strong as they are behind a look -/
def LK (n : Nat) (r : RT) (t : Nat) (pl ba ld : Int32) (k : Nat) (la sp : AR) (st : Int32) : Prop := (∀ j, j < 8 → la j = lnv n r j) ∧ (∀ j, j < 8 → sp j = spx n r t pl k j) ∧ ∀ i, i < 32 → bt st i = (decide (i < n) && bearB r ba ld k i)
theorem look_in {n t : Nat} {r : RT} (V : VR n t r) (pl ba ld : Int32) {k : Nat} (hk : k + 1 < 2 ^ 31) (K : AR → AR → Int32 → Option (AR × AR × Int32)) : ∀ d f fuel : Nat, f + d = 8 → d < fuel → ∀ (la sp : AR) (st : Int32), ∃ (la' sp' : AR) (st' : Int32), fX2_look_L7 ba pl ld r (nI k) K fuel (nI f) la sp st = K la' sp' st' ∧ (∀ j, j < 8 → la' j = if j < f then la j else lnv n r j) ∧ (∀ j, j < 8 → sp' j = if j < f then sp j else spx n r t pl k j) ∧ ∀ i, i < 32 → bt st' i = (bt st i || (decide (f ≤ i ∧ i < n) && bearB r ba ld k i)) := by
  have ht := V.2.1
  have hn := V.1
  intro d
  induction d with
  | zero =>
    intro f fuel hf hfu la sp st
    obtain ⟨fuel, rfl⟩ : ∃ m, fuel = m + 1 := ⟨fuel - 1, by omega⟩
    refine ⟨la, sp, st, ?_, fun j hj => (if_pos (by omega)).symm, fun j hj => (if_pos (by omega)).symm, fun i hi => ?_⟩
    · rw [fX2_look_L7, if_pos (g_le (n := 8) (by omega) (by omega))]
    · rw [decide_eq_false (by omega)]; simp
  | succ d ih =>
    intro f fuel hf hfu la sp st
    obtain ⟨fuel, rfl⟩ : ∃ m, fuel = m + 1 := ⟨fuel - 1, by omega⟩
    have hf8 : f < 8 := by omega
    have key : ∀ (x y : Int32) (st1 : Int32), x = lnv n r f → y = spx n r t pl k f → (∀ i, i < 32 → bt st1 i = (bt st i || (decide (i = f ∧ i < n) && bearB r ba ld k i))) → ∃ (la' sp' : AR) (st' : Int32), fX2_look_L7 ba pl ld r (nI k) K fuel (nI (f + 1)) (upd la f x) (upd sp f y) st1 = K la' sp' st' ∧ (∀ j, j < 8 → la' j = if j < f then la j else lnv n r j) ∧ (∀ j, j < 8 → sp' j = if j < f then sp j else spx n r t pl k j) ∧ ∀ i, i < 32 → bt st' i = (bt st i || (decide (f ≤ i ∧ i < n) && bearB r ba ld k i)) := by
      intro x y st1 hx hy hs
      obtain ⟨la', sp', st', h1, h2, h3, h4⟩ := ih (f + 1) fuel (by omega) (by omega) (upd la f x) (upd sp f y) st1
      refine ⟨la', sp', st', h1, fun j hj => ?_, fun j hj => ?_, fun i hi => ?_⟩
      · rw [h2 j hj]
        by_cases e : j = f
        · subst e; rw [if_pos (by omega), if_neg (by omega), upd_s, hx]
        · by_cases q : j < f
          · rw [if_pos (by omega), if_pos q, upd_n _ _ e]
          · rw [if_neg (by omega), if_neg q]
      · rw [h3 j hj]
        by_cases e : j = f
        · subst e; rw [if_pos (by omega), if_neg (by omega), upd_s, hy]
        · by_cases q : j < f
          · rw [if_pos (by omega), if_pos q, upd_n _ _ e]
          · rw [if_neg (by omega), if_neg q]
      · rw [h4 i hi, hs i hi]
        by_cases e : i = f
        · subst e
          rw [decide_eq_false (show ¬ (i + 1 ≤ i ∧ i < n) by omega)]
          by_cases q : i < n
          · rw [decide_eq_true (show i = i ∧ i < n from ⟨rfl, q⟩), decide_eq_true (show i ≤ i ∧ i < n from ⟨Nat.le_refl i, q⟩)]; simp
          · rw [decide_eq_false (show ¬ (i = i ∧ i < n) by omega), decide_eq_false (show ¬ (i ≤ i ∧ i < n) by omega)]; simp
        · rw [decide_eq_false (show ¬ (i = f ∧ i < n) by omega)]
          by_cases q : f + 1 ≤ i ∧ i < n
          · rw [decide_eq_true q, decide_eq_true (show f ≤ i ∧ i < n by omega)]; simp
          · rw [decide_eq_false q, decide_eq_false (show ¬ (f ≤ i ∧ i < n) by omega)]; simp
    have hnil : ∀ (P : Prop) [Decidable P], ¬ (P ∧ bearB r ba ld k f = true) → (∀ i, i < 32 → bt st i = (bt st i || (decide (i = f ∧ P) && bearB r ba ld k i))) := by
      intro P _ hP i hi
      by_cases e : i = f
      · subst e
        by_cases q : P
        · have : bearB r ba ld k i = false := Bool.eq_false_iff.mpr (fun h => hP ⟨q, h⟩)
          rw [this]; simp
        · rw [decide_eq_false (fun h => q h.2)]; simp
      · rw [decide_eq_false (fun h => e h.1)]; simp
    rw [fX2_look_L7, if_neg (g_ge (n := 8) hf8 (by decide)), jn_it]
    rw [bit pl (show f < 32 by omega), V.2.2.2.1, nI1]
    have e30 : (if bI (bt pl f) = (1 : Int32) then (1 : Int32) else 0) = bI (bt pl f) := by cases bt pl f <;> rfl
    rw [e30]
    simp only [jn_it, if_bI, ck8 hf8, cl8 hf8]
    have e70 : (if bt pl f = true then nI t else nI k) = nI (if bt pl f then t else k) := by cases bt pl f <;> rfl
    rw [e70]
    by_cases hfn : f < n
    · rw [laneOf_y V hfn, bd_s, spotOf_y V hfn (by cases bt pl f <;> simp <;> omega), bd_s, has_y V hfn, bd_s]
      dsimp only [jn]
      rw [if_neg (by decide : ¬ (1 : Int32) = 0), bit ba (show f < 32 by omega), if_bI, strengthOf_y V hfn (show k < 2 ^ 31 by omega), nI1 k, strengthOf_y V hfn (show k + 1 < 2 ^ 31 by omega)]
      have hx : R_homes r f = lnv n r f := (if_pos hfn).symm
      have hy : spv r f (if bt pl f = true then t else k) = spx n r t pl k f := (if_pos hfn).symm
      cases hb : bt ba f with
      | true =>
        simp only [if_true]
        refine key _ _ _ hx hy ?_
        intro i hi
        have := hnil (f < n) (by unfold bearB; rw [hb]; simp) i hi
        by_cases e : i = f
        · subst e; exact this
        · rw [decide_eq_false (fun h => e h.1)]; simp
      | false =>
        simp only [Bool.false_eq_true, if_false, bd_s]
        rw [if_neg (by decide : ¬ (1 : Int32) = 0)]
        by_cases c1 : brv r f k < ld
        · rw [if_pos c1]
          refine key _ _ _ hx hy ?_
          intro i hi
          have := hnil (f < n) (by unfold bearB; rw [decide_eq_true c1]; simp) i hi
          by_cases e : i = f
          · subst e; exact this
          · rw [decide_eq_false (fun h => e h.1)]; simp
        · rw [if_neg c1]
          by_cases c2 : brv r f (k + 1) < ld
          · rw [if_pos c2]
            refine key _ _ _ hx hy ?_
            intro i hi
            have := hnil (f < n) (by unfold bearB; rw [decide_eq_true c2]; simp) i hi
            by_cases e : i = f
            · subst e; exact this
            · rw [decide_eq_false (fun h => e h.1)]; simp
          · rw [if_neg c2]
            refine key _ _ _ hx hy ?_
            intro i hi
            rw [b_or, sh1 (by omega) hi]
            by_cases e : i = f
            · subst e
              rw [decide_eq_true rfl, decide_eq_true ⟨rfl, hfn⟩]
              unfold bearB
              rw [hb, decide_eq_false c1, decide_eq_false c2]; simp
            · rw [decide_eq_false e, decide_eq_false (fun h => e h.1)]; simp
    · rw [laneOf_n V (by omega) (by omega), bd_s, spotOf_n V _ (by omega) (by omega), bd_s, has_n V (by omega) (by omega), bd_s]
      dsimp only [jn]
      rw [if_pos rfl]
      simp only [if_true]
      refine key _ _ _ (if_neg hfn).symm (if_neg hfn).symm ?_
      intro i hi
      rw [decide_eq_false (show ¬ (i = f ∧ i < n) by omega)]; simp
theorem look_e {n t : Nat} {r : RT} (V : VR n t r) (pl ba ld : Int32) {k : Nat} (hk : k + 1 < 2 ^ 31) (la sp : AR) : ∃ (la' sp' : AR) (st' : Int32), fX2_look (nI k) la sp ld ba pl r = some (la', sp', st') ∧ LK n r t pl ba ld k la' sp' st' := by
  obtain ⟨la', sp', st', h1, h2, h3, h4⟩ := look_in V pl ba ld hk (fun a b c => some (a, b, c)) 8 0 400 rfl (by decide) la sp 0
  refine ⟨la', sp', st', h1, fun j hj => ?_, fun j hj => ?_, fun i hi => ?_⟩
  · rw [h2 j hj, if_neg (by omega)]
  · rw [h3 j hj, if_neg (by omega)]
  · rw [h4 i hi, b_0]
    by_cases q : i < n
    · rw [decide_eq_true (show 0 ≤ i ∧ i < n by omega), decide_eq_true q]; simp
    · rw [decide_eq_false (show ¬ (0 ≤ i ∧ i < n) by omega), decide_eq_false q]; simp
/-! to stay and to walk -/
theorem b_SN : ∀ i, i < 32 → bt (1047808 : Int32) i = decide (i = 8 ∨ (10 ≤ i ∧ i < 20)) := by decide +kernel
theorem b_S : ∀ i, i < 32 → bt (1047552 : Int32) i = decide (10 ≤ i ∧ i < 20) := by decide +kernel
def cellsX (x : Int32) : Int32 := (x >>> ((10 : Int32) &&& 31)) &&& (1023 : Int32)
theorem b_cells {Q : Nat → Bool} {x : Int32} (h : XS Q x) : ∀ i, i < 32 → bt (cellsX x) i = (decide (i < 10) && Q i) := by
  intro i hi
  unfold cellsX
  rw [b_and, b_1023, show (10 : Int32) = nI 10 from rfl, b_sshr 10 (by decide) x hi]
  by_cases c : i < 10
  · rw [if_pos (by omega), h (10 + i) (by omega), plc_s _ c, decide_eq_true c]; simp
  · rw [decide_eq_false c]; simp
theorem stayed_e {n t : Nat} {r : RT} {pl ba ld : Int32} {k : Nat} {la sp : AR} {st : Int32} (L : LK n r t pl ba ld k la sp st) {Q : Nat → Bool} (G : good n Q) {x : Int32} (h : XS Q x) : ∃ v, fX2_placesStayed x st = some v ∧ XS (fun a => Q a && (decide (a < 10) || decide (a = 18) || bearB r ba ld k (a - 10))) v := by
  refine ⟨_, rfl, bit_cases (fun j hj => ?_) ?_ (fun c hc => ?_) (fun i h1 hi => ?_)⟩
  · rw [b_and, b_or, b_SN j (by omega), L.2.2 j (by omega), h j (by omega), plc_f _ hj, plc_f _ hj, decide_eq_false (show ¬ (j = 8 ∨ 10 ≤ j ∧ j < 20) by omega)]
    show _ = (Q (j + 10) && (decide (j + 10 < 10) || decide (j + 10 = 18) || bearB r ba ld k (j + 10 - 10)))
    rw [decide_eq_false (show ¬ j + 10 < 10 by omega), decide_eq_false (show ¬ j + 10 = 18 by omega), show j + 10 - 10 = j by omega]
    by_cases q : j < n
    · rw [decide_eq_true q]; simp
    · rw [G j (by omega) hj]; simp
  · rw [b_and, b_or, b_SN 8 (by omega), h 8 (by omega), plc_n, plc_n]; simp
  · rw [b_and, b_or, b_SN (10 + c) (by omega), h (10 + c) (by omega), plc_s _ hc, plc_s _ hc, decide_eq_true (show 10 + c = 8 ∨ 10 ≤ 10 + c ∧ 10 + c < 20 by omega), decide_eq_true hc]; simp
  · rw [b_and, h i hi, plc_o _ h1, plc_o _ h1]; simp
theorem wless_e {Q : Nat → Bool} {x : Int32} (h : XS Q x) : ∃ v, fX2_walkedLess x = some v ∧ XS (fun a => decide (a < 10) && Q ((a + 1) % 10)) v := by
  have hc := b_cells h
  refine ⟨_, rfl, bit_cases (fun j hj => ?_) ?_ (fun c hc1 => ?_) (fun i h1 hi => ?_)⟩
  · rw [show (10 : Int32) = nI 10 from rfl, b_shl 10 (by decide) _ (by omega), decide_eq_false (by omega), plc_f _ hj, decide_eq_false (by omega)]; rfl
  · rw [show (10 : Int32) = nI 10 from rfl, b_shl 10 (by decide) _ (by omega), decide_eq_false (by omega), plc_n]; rfl
  · rw [plc_s _ hc1, decide_eq_true hc1]
    show bt ((((cellsX x) >>> ((1 : Int32) &&& 31)) ||| (((cellsX x) &&& (1 : Int32)) <<< ((9 : Int32) &&& 31))) <<< ((10 : Int32) &&& 31)) (10 + c) = _
    rw [show ((10 : Int32) &&& 31) = (nI 10 &&& 31) from rfl, b_shl 10 (by decide) _ (by omega), decide_eq_true (by omega), show 10 + c - 10 = c by omega, b_or, show ((1 : Int32) &&& 31) = (nI 1 &&& 31) from rfl, b_sshr 1 (by decide) _ (by omega), if_pos (by omega), hc (1 + c) (by omega), show ((9 : Int32) &&& 31) = (nI 9 &&& 31) from rfl, b_shl 9 (by decide) _ (by omega), b_and, b_1]
    by_cases q : c = 9
    · subst q
      rw [hc 0 (by omega)]; simp
    · rw [decide_eq_false (show ¬ 9 ≤ c by omega), decide_eq_true (show 1 + c < 10 by omega), Nat.mod_eq_of_lt (show c + 1 < 10 by omega), Nat.add_comm 1 c]; simp
  · rw [plc_o _ h1]
    show bt ((((cellsX x) >>> ((1 : Int32) &&& 31)) ||| (((cellsX x) &&& (1 : Int32)) <<< ((9 : Int32) &&& 31))) <<< ((10 : Int32) &&& 31)) i = _
    rw [show ((10 : Int32) &&& 31) = (nI 10 &&& 31) from rfl, b_shl 10 (by decide) _ hi]
    by_cases q : 10 ≤ i
    · rw [b_or, show ((1 : Int32) &&& 31) = (nI 1 &&& 31) from rfl, b_sshr 1 (by decide) _ (by omega), if_pos (by omega), hc (1 + (i - 10)) (by omega), show ((9 : Int32) &&& 31) = (nI 9 &&& 31) from rfl, b_shl 9 (by decide) _ (by omega), b_and, b_1, decide_eq_false (show ¬ 1 + (i - 10) < 10 by omega), decide_eq_false (show ¬ i - 10 - 9 = 0 by omega)]; simp
    · rw [decide_eq_false q]; rfl
theorem wgreater_e {Q : Nat → Bool} {x : Int32} (h : XS Q x) : ∃ v, fX2_walkedGreater x = some v ∧ XS (fun a => decide (a < 10) && Q ((a + 9) % 10)) v := by
  have hc := b_cells h
  refine ⟨_, rfl, bit_cases (fun j hj => ?_) ?_ (fun c hc1 => ?_) (fun i h1 hi => ?_)⟩
  · rw [show (10 : Int32) = nI 10 from rfl, b_shl 10 (by decide) _ (by omega), decide_eq_false (by omega), plc_f _ hj, decide_eq_false (by omega)]; rfl
  · rw [show (10 : Int32) = nI 10 from rfl, b_shl 10 (by decide) _ (by omega), decide_eq_false (by omega), plc_n]; rfl
  · rw [plc_s _ hc1, decide_eq_true hc1]
    show bt (((((cellsX x) <<< ((1 : Int32) &&& 31)) &&& (1023 : Int32)) ||| ((cellsX x) >>> ((9 : Int32) &&& 31))) <<< ((10 : Int32) &&& 31)) (10 + c) = _
    rw [show ((10 : Int32) &&& 31) = (nI 10 &&& 31) from rfl, b_shl 10 (by decide) _ (by omega), decide_eq_true (by omega), show 10 + c - 10 = c by omega, b_or, b_and, b_1023, show ((1 : Int32) &&& 31) = (nI 1 &&& 31) from rfl, b_shl 1 (by decide) _ (by omega), show ((9 : Int32) &&& 31) = (nI 9 &&& 31) from rfl, b_sshr 9 (by decide) _ (by omega), if_pos (by omega), hc (9 + c) (by omega)]
    by_cases q : c = 0
    · subst q; simp
    · rw [hc (c - 1) (by omega), decide_eq_true (show 1 ≤ c by omega), decide_eq_true (show c - 1 < 10 by omega), decide_eq_true hc1, decide_eq_false (show ¬ 9 + c < 10 by omega), show (c + 9) % 10 = c - 1 by omega]; simp
  · rw [plc_o _ h1]
    show bt (((((cellsX x) <<< ((1 : Int32) &&& 31)) &&& (1023 : Int32)) ||| ((cellsX x) >>> ((9 : Int32) &&& 31))) <<< ((10 : Int32) &&& 31)) i = _
    rw [show ((10 : Int32) &&& 31) = (nI 10 &&& 31) from rfl, b_shl 10 (by decide) _ hi]
    by_cases q : 10 ≤ i
    · rw [b_or, b_and, b_1023, show ((9 : Int32) &&& 31) = (nI 9 &&& 31) from rfl, b_sshr 9 (by decide) _ (by omega), decide_eq_false (show ¬ i - 10 < 10 by omega)]
      by_cases q2 : 9 + (i - 10) < 32
      · rw [if_pos q2, hc _ q2, decide_eq_false (show ¬ 9 + (i - 10) < 10 by omega)]; simp
      · rw [if_neg q2, hc 31 (by omega), decide_eq_false (by omega)]; simp
    · rw [decide_eq_false q]; rfl
theorem unleaped_e {n t : Nat} {r : RT} {pl ba ld : Int32} {k : Nat} {la sp : AR} {st : Int32} (L : LK n r t pl ba ld k la sp st) {Q : Nat → Bool} (G : good n Q) {x : Int32} (h : XS Q x) : ∃ v, fX2_placesUnleaped x st = some v ∧ XS (stepQ (stayE r ba ld k) Q) v := by
  obtain ⟨v1, e1, h1⟩ := stayed_e L G h
  obtain ⟨v2, e2, h2⟩ := wless_e h
  obtain ⟨v3, e3, h3⟩ := wgreater_e h
  refine ⟨(v1 ||| v2) ||| v3, by unfold fX2_placesUnleaped; rw [e1, e2, e3]; rfl, ((h1.or h2).or h3).congr (fun b hb => ?_)⟩
  rw [Bool.eq_iff_iff, stepQ_iff]
  simp only [Bool.or_eq_true_iff, Bool.and_eq_true_iff, decide_eq_true_iff]
  constructor
  · rintro ((⟨q, w⟩ | ⟨hb1, q⟩) | ⟨hb1, q⟩)
    · refine ⟨b, hb, q, ?_⟩
      unfold stayE
      rw [if_pos rfl]
      simp only [Bool.or_eq_true_iff, decide_eq_true_iff]
      exact w
    · refine ⟨(b + 1) % 10, by omega, q, ?_⟩
      unfold stayE
      rw [if_neg (by omega), near_t _ (by omega) _ hb1]
      unfold nr
      simp only [Bool.or_eq_true_iff, Bool.and_eq_true_iff, decide_eq_true_iff]
      exact ⟨⟨by omega, hb1⟩, Or.inr trivial⟩
    · refine ⟨(b + 9) % 10, by omega, q, ?_⟩
      unfold stayE
      rw [if_neg (by omega), near_t _ (by omega) _ hb1]
      unfold nr
      simp only [Bool.or_eq_true_iff, Bool.and_eq_true_iff, decide_eq_true_iff]
      exact ⟨⟨by omega, hb1⟩, Or.inl (Or.inr (by omega))⟩
  · rintro ⟨a, ha, q, w⟩
    unfold stayE at w
    by_cases e : a = b
    · subst e
      rw [if_pos rfl] at w
      simp only [Bool.or_eq_true_iff, decide_eq_true_iff] at w
      exact Or.inl (Or.inl ⟨q, w⟩)
    · rw [if_neg e] at w
      simp only [Bool.and_eq_true_iff, decide_eq_true_iff] at w
      obtain ⟨⟨ha1, hb1⟩, w⟩ := w
      rw [near_t _ ha1 _ hb1] at w
      unfold nr at w
      simp only [Bool.or_eq_true_iff, decide_eq_true_iff] at w
      rcases w with (w | w) | w
      · exact absurd w e
      · refine Or.inr ⟨hb1, ?_⟩
        rw [show (b + 9) % 10 = a by omega]; exact q
      · refine Or.inl (Or.inr ⟨hb1, ?_⟩)
        rw [w]; exact q
