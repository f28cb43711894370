/-! ===== minute after minute ===== -/
theorem stepQ_or (E1 E2 : Nat → Nat → Bool) (Q : Nat → Bool) (b : Nat) : stepQ (fun a b => E1 a b || E2 a b) Q b = (stepQ E1 Q b || stepQ E2 Q b) := by
  rw [Bool.eq_iff_iff, Bool.or_eq_true_iff, stepQ_iff, stepQ_iff, stepQ_iff]
  constructor
  · rintro ⟨a, h1, h2, h3⟩
    rcases Bool.or_eq_true_iff.mp h3 with h | h
    · exact Or.inl ⟨a, h1, h2, h⟩
    · exact Or.inr ⟨a, h1, h2, h⟩
  · rintro (⟨a, h1, h2, h3⟩ | ⟨a, h1, h2, h3⟩)
    · exact ⟨a, h1, h2, by rw [h3]; rfl⟩
    · exact ⟨a, h1, h2, by rw [h3]; simp⟩
theorem good_step {n t : Nat} {r : RT} (pl ba ld : Int32) (k : Nat) {Q : Nat → Bool} (G : good n Q) : good n (stepQ (edgeE n r t pl ba ld k) Q) := by
  intro j hj h8
  rw [Bool.eq_false_iff]
  intro h
  obtain ⟨a, h1, h2, h3⟩ := stepQ_iff.mp h
  unfold edgeE at h3
  rcases Bool.or_eq_true_iff.mp h3 with h | h
  · unfold stayE at h
    by_cases e : a = j + 10
    · subst e; rw [G j hj h8] at h2; cases h2
    · rw [if_neg e] at h
      simp only [Bool.and_eq_true_iff, decide_eq_true_iff] at h
      omega
  · unfold leapE at h
    rw [if_pos (by omega)] at h
    simp only [Bool.and_eq_true_iff, decide_eq_true_iff] at h
    omega
def runQ (E : Nat → Nat → Nat → Bool) (Q : Nat → Bool) (s : Nat) : Nat → Nat → Bool
  | 0 => Q
  | m + 1 => stepQ (E (s + m)) (runQ E Q s m)
theorem good_run {n t : Nat} {r : RT} (pl ba ld : Int32) (s : Nat) {Q : Nat → Bool} (G : good n Q) : ∀ m, good n (runQ (fun k => edgeE n r t pl ba ld k) Q s m) := by
  intro m
  induction m with
  | zero => exact G
  | succ m ih => exact good_step pl ba ld (s + m) ih
/-- one minute of the class: look, and then both sets -/
theorem minute_e {n t : Nat} {r : RT} (V : VR n t r) (pl ba ld : Int32) {k : Nat} (hk : k + 1 < 2 ^ 31) (la sp : AR) {Q : Nat → Bool} (G : good n Q) {x : Int32} (h : XS Q x) : ∃ (la' sp' : AR) (st' v1 v2 : Int32), fX2_look (nI k) la sp ld ba pl r = some (la', sp', st') ∧ LK n r t pl ba ld k la' sp' st' ∧ fX2_placesUnleaped x st' = some v1 ∧ fX2_placesLeaped x la' sp' st' r = some v2 ∧ XS (stepQ (stayE r ba ld k) Q) v1 ∧ XS (stepQ (leapE n r t pl ba ld k) Q) v2 ∧ XS (stepQ (edgeE n r t pl ba ld k) Q) (v1 ||| v2) := by
  obtain ⟨la', sp', st', h1, L⟩ := look_e V pl ba ld hk la sp
  obtain ⟨v1, h2, g2⟩ := unleaped_e L G h
  obtain ⟨v2, h3, g3⟩ := leaped_e V L G h
  exact ⟨la', sp', st', v1, v2, h1, L, h2, h3, g2, g3, (g2.or g3).congr (fun b _ => (stepQ_or _ _ Q b).symm)⟩
/-- the first minute at which something is so -/
def ovS (f : Nat → Bool) : Nat → Nat → Int32
  | 0, _ => -9
  | d + 1, m => if f (m + 1) then nI (m + 1) else ovS f d (m + 1)
theorem b256 : ∀ j, j < 32 → bt (256 : Int32) j = decide (j = 8) := by decide +kernel
theorem north_x {Q : Nat → Bool} {x : Int32} (h : XS Q x) : (x &&& (256 : Int32)) = 0 ↔ Q 18 = false := by
  rw [← Decidable.not_iff_not, ne0, Bool.not_eq_false]
  constructor
  · rintro ⟨i, hi, g⟩
    rw [b_and, b256 i hi] at g
    simp only [Bool.and_eq_true_iff, decide_eq_true_iff] at g
    obtain ⟨g, e⟩ := g
    subst e
    rw [h 8 hi, plc_n] at g
    exact g
  · intro g
    exact ⟨8, by omega, by rw [b_and, b256 8 (by omega), h 8 (by omega), plc_n, g]; rfl⟩
theorem over_x {n t : Nat} {r : RT} (V : VR n t r) (pl ba ld : Int32) {s : Nat} (hs : s < 1000) {Q : Nat → Bool} (G : good n Q) (K : AR → AR → Int32 → Option (Int32 × AR × AR × Int32)) (hK : ∀ la sp st, K la sp st = some (-9, la, sp, st)) : ∀ d m fuel : Nat, m + d = 40 → d < fuel → ∀ (x : Int32) (la sp : AR) (st : Int32), XS (runQ (fun k => edgeE n r t pl ba ld k) Q s m) x → ∃ (la' sp' : AR) (st' : Int32), fX2_minutesOver_L8 ba pl ld r (nI s) K fuel x (nI m) la sp st = some (ovS (fun m => runQ (fun k => edgeE n r t pl ba ld k) Q s m 18) d m, la', sp', st') := by
  intro d
  induction d with
  | zero =>
    intro m fuel hm hf x la sp st hx
    obtain ⟨fuel, rfl⟩ : ∃ q, fuel = q + 1 := ⟨fuel - 1, by omega⟩
    exact ⟨la, sp, st, by rw [fX2_minutesOver_L8, if_pos (g_le (n := 40) (by omega) (by omega)), hK]; rfl⟩
  | succ d ih =>
    intro m fuel hm hf x la sp st hx
    obtain ⟨fuel, rfl⟩ : ∃ q, fuel = q + 1 := ⟨fuel - 1, by omega⟩
    obtain ⟨la', sp', st', v1, v2, h1, -, h2, h3, -, -, h4⟩ := minute_e V pl ba ld (show s + m + 1 < 2 ^ 31 by omega) la sp (good_run pl ba ld s G m) hx
    rw [fX2_minutesOver_L8, if_neg (g_ge (n := 40) (by omega) (by decide)), nI_add, h1, bd_s]
    simp only
    rw [h2, bd_s, h3, bd_s, nI1]
    have h4' : XS (runQ (fun k => edgeE n r t pl ba ld k) Q s (m + 1)) (v1 ||| v2) := h4
    unfold ovS
    cases hq : runQ (fun k => edgeE n r t pl ba ld k) Q s (m + 1) 18 with
    | false =>
      rw [if_pos ((north_x h4').mpr hq)]
      simp only [Bool.false_eq_true, if_false]
      exact ih (m + 1) fuel (by omega) (by omega) _ _ _ _ h4'
    | true =>
      rw [if_neg (fun g => by rw [(north_x h4').mp g] at hq; cases hq)]
      simp only [if_true]
      exact ⟨la', sp', st', rfl⟩
theorem over_m {n t : Nat} {r : RT} (V : VR n t r) (pl ba ld : Int32) {s : Nat} (hs : s < 1000) {Q : Nat → Bool} (K : Unit → Option Int32) (hK : K () = some (-9)) : ∀ d m fuel : Nat, m + d = 40 → d + 1 < fuel → ∀ x : Int32, MS (runQ (fun k => edgeE n r t pl ba ld k) Q s (m + 1)) x → fX4_soonestFrom_L8 ba pl r ld (nI s) K fuel x (nI (m + 1)) = some (if runQ (fun k => edgeE n r t pl ba ld k) Q s (m + 1) 18 ∧ m < 40 then nI (m + 1) else ovS (fun m => runQ (fun k => edgeE n r t pl ba ld k) Q s m 18) (d - 1) (m + 1)) := by
  intro d
  induction d with
  | zero =>
    intro m fuel hm hf x hx
    obtain ⟨fuel, rfl⟩ : ∃ q, fuel = q + 1 := ⟨fuel - 1, by omega⟩
    rw [fX4_soonestFrom_L8, if_pos (g_gt (n := 40) (by omega) (by omega)), hK, if_neg (by omega)]
    rfl
  | succ d ih =>
    intro m fuel hm hf x hx
    obtain ⟨fuel, rfl⟩ : ∃ q, fuel = q + 1 := ⟨fuel - 1, by omega⟩
    rw [fX4_soonestFrom_L8, if_neg (by rw [show (40 : Int32) = nI 40 from rfl, nI_ltI (by decide) (by omega)]; omega)]
    rw [show (18 : Int32) = nI 18 from rfl, bit x (by decide), if_bI1, hx 18 (by omega)]
    cases hq : runQ (fun k => edgeE n r t pl ba ld k) Q s (m + 1) 18 with
    | true =>
      rw [if_pos (show true = true ∧ m < 40 from ⟨rfl, by omega⟩)]; rfl
    | false =>
      rw [if_neg (show ¬ (false = true ∧ m < 40) from fun h => absurd h.1 (by decide))]
      simp only [Bool.and_false, Bool.false_eq_true, if_false]
      obtain ⟨v, h1, h2⟩ := goesOn_e V pl ba ld (show s + (m + 1) + 1 < 2 ^ 31 by omega) hx
      rw [nI_add, h1, bd_s, nI1, ih (m + 1) fuel (by omega) (by omega) v h2]
      apply congrArg some
      show _ = ovS _ d (m + 1)
      cases d with
      | zero => rw [if_neg (by omega)]; rfl
      | succ d =>
        show _ = if runQ (fun k => edgeE n r t pl ba ld k) Q s (m + 1 + 1) 18 then nI (m + 1 + 1) else _
        by_cases c : runQ (fun k => edgeE n r t pl ba ld k) Q s (m + 1 + 1) 18 = true
        · rw [if_pos ⟨c, by omega⟩, if_pos c]
        · rw [if_neg (fun h => c h.1), if_neg c]; rfl
/-- in how many minutes from minute s on, from cell c -/
def at1 (c : Nat) : Nat → Bool := fun a => decide (a = c)
def OV (n : Nat) (r : RT) (t : Nat) (pl ba ld : Int32) (s c : Nat) : Int32 := ovS (fun m => runQ (fun k => edgeE n r t pl ba ld k) (at1 c) s m 18) 40 0
theorem good_1 (n : Nat) {c : Nat} (hc : c < 10) : good n (at1 c) := fun j _ _ => decide_eq_false (by omega)
theorem XS_1 {c : Nat} (hc : c < 10) : fX3_southCell (nI c) = some ((1 : Int32) <<< (nI (10 + c) &&& 31)) ∧ XS (at1 c) ((1 : Int32) <<< (nI (10 + c) &&& 31)) := by
  refine ⟨by unfold fX3_southCell; rw [show (10 : Int32) = nI 10 from rfl, nI_add], bit_cases (fun j hj => ?_) ?_ (fun d hd => ?_) (fun i h1 hi => ?_)⟩
  · rw [sh1 (by omega) (by omega), plc_f _ hj]; unfold at1; rw [decide_eq_false (by omega), decide_eq_false (by omega)]
  · rw [sh1 (by omega) (by omega), plc_n]; unfold at1; rw [decide_eq_false (by omega), decide_eq_false (by omega)]
  · rw [sh1 (by omega) (by omega), plc_s _ hd]; unfold at1
    by_cases e : d = c
    · rw [decide_eq_true (by omega), decide_eq_true e]
    · rw [decide_eq_false (by omega), decide_eq_false e]
  · rw [sh1 (by omega) hi, plc_o _ h1, decide_eq_false (by omega)]
theorem MS_1 {c : Nat} (hc : c < 19) : MS (at1 c) ((1 : Int32) <<< (nI c &&& 31)) := by
  intro i hi
  rw [sh1 (by omega) hi]
  unfold at1
  by_cases e : i = c
  · rw [decide_eq_true e, decide_eq_true (by omega)]; rfl
  · rw [decide_eq_false e]; simp
theorem minutesOver_e {n t : Nat} {r : RT} (V : VR n t r) (pl ba ld : Int32) {s c : Nat} (hs : s < 1000) (hc : c < 10) (la sp : AR) (st : Int32) : ∃ (la' sp' : AR) (st' : Int32), fX2_minutesOver (nI c) (nI s) la sp ld ba pl st r = some (OV n r t pl ba ld s c, la', sp', st') := by
  unfold fX2_minutesOver
  rw [(XS_1 hc).1, bd_s]
  exact over_x V pl ba ld hs (good_1 n hc) _ (fun _ _ _ => rfl) 40 0 400 rfl (by decide) _ la sp st (XS_1 hc).2
theorem soonestFrom_e {n t : Nat} {r : RT} (V : VR n t r) (pl ba ld : Int32) {s c : Nat} (hs : s < 1000) (hc : c < 10) : fX4_soonestFrom ld (nI c) (nI s) r pl ba = some (OV n r t pl ba ld s c) := by
  unfold fX4_soonestFrom
  have h0 := MS_1 (show c < 19 by omega)
  rw [show (400 : Nat) = 399 + 1 from rfl, fX4_soonestFrom_L8, if_neg (by decide : ¬ (40 : Int32) < 0), show (18 : Int32) = nI 18 from rfl, bit _ (by decide), if_bI1, h0 18 (by omega)]
  have e : (decide (18 < 19) && at1 c 18) = false := by unfold at1; rw [decide_eq_false (show ¬ 18 = c by omega)]; rfl
  rw [e]
  simp only [Bool.false_eq_true, if_false]
  obtain ⟨v, h1, h2⟩ := goesOn_e V pl ba ld (show s + 0 + 1 < 2 ^ 31 by omega) h0
  rw [show (0 : Int32) = nI 0 from rfl, nI_add, Nat.add_zero, h1, bd_s, nI1, over_m V pl ba ld hs _ rfl 40 0 399 rfl (by decide) v h2]
  apply congrArg some
  unfold OV
  show _ = ovS _ (39 + 1) 0
  show _ = if runQ (fun k => edgeE n r t pl ba ld k) (at1 c) s (0 + 1) 18 then nI (0 + 1) else _
  by_cases q : runQ (fun k => edgeE n r t pl ba ld k) (at1 c) s (0 + 1) 18 = true
  · rw [if_pos ⟨q, by omega⟩, if_pos q]
  · rw [if_neg (fun h => q h.1), if_neg q]; rfl
theorem ovS_in (f : Nat → Bool) : ∀ d m, ovS f d m = -9 ∨ ∃ k, m < k ∧ k ≤ m + d ∧ ovS f d m = nI k := by
  intro d
  induction d with
  | zero => intro m; exact Or.inl rfl
  | succ d ih =>
    intro m
    unfold ovS
    by_cases c : f (m + 1) = true
    · rw [if_pos c]; exact Or.inr ⟨m + 1, by omega, by omega, rfl⟩
    · rw [if_neg c]
      rcases ih (m + 1) with h | ⟨k, h1, h2, h3⟩
      · exact Or.inl h
      · exact Or.inr ⟨k, by omega, by omega, h3⟩
/-- over or not, however it is asked -/
def ovB (n : Nat) (r : RT) (t : Nat) (pl ba ld : Int32) (s c : Nat) : Bool := !decide (OV n r t pl ba ld s c = -9)
theorem ov_ne (n : Nat) (r : RT) (t : Nat) (pl ba ld : Int32) (s c : Nat) : OV n r t pl ba ld s c = -9 ↔ ovB n r t pl ba ld s c = false := by
  unfold ovB; simp
theorem ov_lt (n : Nat) (r : RT) (t : Nat) (pl ba ld : Int32) (s c : Nat) : OV n r t pl ba ld s c < 0 ↔ ovB n r t pl ba ld s c = false := by
  rw [← ov_ne]
  rcases ovS_in (fun m => runQ (fun k => edgeE n r t pl ba ld k) (at1 c) s m 18) 40 0 with h | ⟨k, h1, h2, h3⟩
  · unfold OV; rw [h]; exact ⟨fun _ => rfl, fun _ => by decide⟩
  · unfold OV; rw [h3]
    constructor
    · intro h; exact absurd h (nI_pos (by omega))
    · intro h
      rw [i_eq, ti_n (by omega)] at h
      have : (-9 : Int32).toInt = -9 := rfl
      omega
theorem ov_ge (n : Nat) (r : RT) (t : Nat) (pl ba ld : Int32) (s c : Nat) : 0 ≤ OV n r t pl ba ld s c ↔ ovB n r t pl ba ld s c = true := by
  rw [← Int32.not_lt, ov_lt, Bool.not_eq_false]
