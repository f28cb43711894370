/-! ===== soonest, leaps, await, heaviest, needed, from, seeds, reach, by now ===== -/
def R8 (ox : Option (Int32 × AR × AR × Int32 × Int32 × Int32 × Int32 × AR)) (om : Option (Int32 × AR)) : Prop := ∃ z la sp ld go he st rf, ox = some (z, la, sp, ld, go, he, st, rf) ∧ om = some (z, rf)
theorem R8_bad {w : Int32} (hw : isW w) (la sp : AR) (ld go he st : Int32) (refs : AR) : R8 (bd (fX3_refuse w refs) (fun (q : Int32 × AR) => some (q.1, la, sp, ld, go, he, st, q.2))) (bd (fX4_no w refs) (fun (q : Int32 × AR) => some (q.1, q.2))) := by
  obtain ⟨b, h1, h2⟩ := rf5 hw refs
  rw [h1, h2]
  exact ⟨w, la, sp, ld, go, he, st, b, rfl, rfl⟩
theorem soonest_p {n t : Nat} {r : RT} (V : VR n t r) (p1 p2 : Int32) (la sp : AR) (ld go he st : Int32) (refs : AR) : R8 (fX3_soonest p1 p2 la sp ld go he st r refs) (fX4_soonest p1 p2 r refs 0 0) := by
  have ht := V.2.1
  unfold fX3_soonest fX4_soonest
  rcases walker_c p1 p2 with ⟨h1, h2, ⟨c, hc, rfl⟩, -⟩ | ⟨w, hw, h1, h2⟩
  · rw [h1, h2, bd_s, bd_s, if_pos rfl, if_pos rfl]
    unfold fX2_begin
    rw [bd_s, V.2.2.2.1]
    obtain ⟨la', sp', st', e⟩ := minutesOver_e V 0 0 p1 (show t < 1000 by omega) hc la sp st
    simp only
    rw [e, soonestFrom_e V 0 0 p1 (show t < 1000 by omega) hc]
    exact ⟨_, _, _, _, _, _, _, _, rfl, rfl⟩
  · rw [h1, h2, bd_s, bd_s, if_neg (isW_0 hw), if_neg (isW_0 hw)]
    exact R8_bad hw la sp ld go he st refs
theorem leaps_p {n t : Nat} {r : RT} (V : VR n t r) (p1 p2 : Int32) (la sp bl : AR) (ld go he st : Int32) (refs lt th : AR) : ∃ z la' sp' bl' ld' go' he' st' rf lt' th', fX3_leaps p1 p2 la sp bl ld go he st r refs = some (z, la', sp', bl', ld', go', he', st', rf) ∧ fX4_leaps p1 p2 r refs 0 0 lt th = some (z, rf, lt', th') := by
  have ht := V.2.1
  unfold fX3_leaps fX4_leaps
  rcases walker_c p1 p2 with ⟨h1, h2, ⟨c, hc, rfl⟩, -⟩ | ⟨w, hw, h1, h2⟩
  · rw [h1, h2, bd_s, bd_s, if_pos rfl, if_pos rfl]
    unfold fX2_begin
    rw [bd_s]
    obtain ⟨la', sp', bl', st', e⟩ := fewest_e V 0 0 p1 hc la sp bl st
    obtain ⟨lt', th', e2⟩ := leaps_m V 0 0 p1 hc refs lt th
    simp only
    rw [e, bd_s, e2]
    exact ⟨_, _, _, _, _, _, _, _, _, _, _, rfl, rfl⟩
  · rw [h1, h2, bd_s, bd_s, if_neg (isW_0 hw), if_neg (isW_0 hw)]
    obtain ⟨b, h1, h2⟩ := rf5 hw refs
    rw [h1, h2]
    exact ⟨_, _, _, _, _, _, _, _, _, _, _, rfl, rfl⟩
/-! the longest wait -/
def awS (f : Nat → Bool) : Nat → Int32
  | 0 => -9
  | k + 1 => if f k then nI k else awS f k
theorem await_x {n t : Nat} {r : RT} (V : VR n t r) (ld : Int32) {c : Nat} (hc : c < 10) (refs : AR) (go he : Int32) (q : Int32 × Int32 × Int32) (hq : q = (ld, 0, 0)) (K : AR → AR → Int32 → Option (Int32 × AR × AR × Int32 × Int32 × Int32 × Int32 × AR)) (hK : ∀ la sp st, K la sp st = some (-9, la, sp, ld, 0, 0, st, refs)) : ∀ k fuel : Nat, k ≤ 41 → k < fuel → ∀ (la sp : AR) (st : Int32), ∃ (la' sp' : AR) (st' : Int32), fX3_await_L30 refs r (nI c) q K fuel (nI k + (-1 : Int32)) la sp st = some (awS (fun k => ovB n r t 0 0 ld (t + k) c) k, la', sp', ld, 0, 0, st', refs) := by
  have ht := V.2.1
  subst hq
  intro k
  induction k with
  | zero =>
    intro fuel hk hf la sp st
    obtain ⟨fuel, rfl⟩ : ∃ q, fuel = q + 1 := ⟨fuel - 1, by omega⟩
    exact ⟨la, sp, st, by rw [fX3_await_L30, if_pos (by decide), hK]; rfl⟩
  | succ k ih =>
    intro fuel hk hf la sp st
    obtain ⟨fuel, rfl⟩ : ∃ q, fuel = q + 1 := ⟨fuel - 1, by omega⟩
    obtain ⟨la', sp', st', e⟩ := minutesOver_e V 0 0 ld (show t + k < 1000 by omega) hc la sp st
    rw [fX3_await_L30, pk_m1, if_neg (nI_pos (by omega)), V.2.2.2.1, nI_add]
    simp only
    rw [e, bd_s]
    unfold awS
    cases h : ovB n r t 0 0 ld (t + k) c with
    | false =>
      rw [if_pos ((ov_ne n r t 0 0 ld (t + k) c).mpr h)]
      simp only [Bool.false_eq_true, if_false]
      exact ih fuel (by omega) (by omega) _ _ _
    | true =>
      rw [if_neg (fun g => by rw [(ov_ne n r t 0 0 ld (t + k) c).mp g] at h; cases h)]
      simp only [if_true]
      exact ⟨la', sp', st', rfl⟩
theorem await_m {n t : Nat} {r : RT} (V : VR n t r) (ld : Int32) {c : Nat} (hc : c < 10) (refs : AR) (K : Unit → Option (Int32 × AR)) (hK : K () = some (-9, refs)) : ∀ k fuel : Nat, k ≤ 41 → k < fuel → fX4_await_L20 0 0 r refs ld (nI c) K fuel (nI k + (-1 : Int32)) = some (awS (fun k => ovB n r t 0 0 ld (t + k) c) k, refs) := by
  have ht := V.2.1
  intro k
  induction k with
  | zero =>
    intro fuel hk hf
    obtain ⟨fuel, rfl⟩ : ∃ q, fuel = q + 1 := ⟨fuel - 1, by omega⟩
    rw [fX4_await_L20, if_pos (by decide), hK]; rfl
  | succ k ih =>
    intro fuel hk hf
    obtain ⟨fuel, rfl⟩ : ∃ q, fuel = q + 1 := ⟨fuel - 1, by omega⟩
    rw [fX4_await_L20, pk_m1, if_neg (nI_pos (by omega)), V.2.2.2.1, nI_add, soonestFrom_e V 0 0 ld (show t + k < 1000 by omega) hc, bd_s]
    unfold awS
    cases h : ovB n r t 0 0 ld (t + k) c with
    | false =>
      rw [if_pos ((ov_lt n r t 0 0 ld (t + k) c).mpr h)]
      simp only [Bool.false_eq_true, if_false]
      exact ih fuel (by omega) (by omega)
    | true =>
      rw [if_neg (fun g => by rw [(ov_lt n r t 0 0 ld (t + k) c).mp g] at h; cases h)]
      simp only [if_true]
theorem await_p {n t : Nat} {r : RT} (V : VR n t r) (p1 p2 : Int32) (la sp : AR) (ld go he st : Int32) (refs : AR) : R8 (fX3_await p1 p2 la sp ld go he st r refs) (fX4_await p1 p2 r refs 0 0) := by
  unfold fX3_await fX4_await
  rcases walker_c p1 p2 with ⟨h1, h2, ⟨c, hc, rfl⟩, -⟩ | ⟨w, hw, h1, h2⟩
  · rw [h1, h2, bd_s, bd_s, if_pos rfl, if_pos rfl]
    unfold fX2_begin
    rw [bd_s]
    obtain ⟨la', sp', st', e⟩ := await_x V p1 hc refs 0 0 (p1, 0, 0) rfl (fun (k30_lanes : AR) (k30_spots : AR) (k30_strong : Int32) => some ((-9 : Int32), k30_lanes, k30_spots, p1, 0, 0, k30_strong, refs)) (fun _ _ _ => rfl) 41 400 (by omega) (by omega) la sp st
    have e2 := await_m V p1 hc refs (fun (_ : Unit) => some ((-9 : Int32), refs)) rfl 41 400 (by omega) (by omega)
    rw [show nI 41 + (-1 : Int32) = (40 : Int32) from by decide] at e e2
    simp only
    rw [e, e2]
    exact ⟨_, _, _, _, _, _, _, _, rfl, rfl⟩
  · rw [h1, h2, bd_s, bd_s, if_neg (isW_0 hw), if_neg (isW_0 hw)]
    exact R8_bad hw la sp ld go he st refs
/-! one question: does he come over -/
theorem comesOver_e {n t : Nat} {r : RT} (V : VR n t r) (ld : Int32) {c : Nat} (hc : c < 10) (ba pl : Int32) (la sp : AR) (st : Int32) : ∃ (la' sp' : AR) (st' : Int32), fX3_comesOver ld (nI c) ba pl la sp st r = some (bI (ovB n r t pl ba ld t c), la', sp', ld, ba, pl, st') := by
  have ht := V.2.1
  unfold fX3_comesOver fX2_begin
  rw [bd_s, V.2.2.2.1]
  obtain ⟨la', sp', st', e⟩ := minutesOver_e V pl ba ld (show t < 1000 by omega) hc la sp st
  simp only
  rw [e, bd_s]
  refine ⟨la', sp', st', ?_⟩
  cases h : ovB n r t pl ba ld t c with
  | false => rw [if_pos ((ov_ne n r t pl ba ld t c).mpr h)]; rfl
  | true => rw [if_neg (fun g => by rw [(ov_ne n r t pl ba ld t c).mp g] at h; cases h)]; rfl
def hvS (f : Nat → Bool) : Nat → Int32
  | 0 => 0
  | k + 1 => if f (k + 1) then nI (k + 1) else hvS f k
theorem heavy_x {n t : Nat} {r : RT} (V : VR n t r) {c : Nat} (hc : c < 10) (refs : AR) (K : AR → AR → Int32 → Int32 → Int32 → Int32 → Option (Int32 × AR × AR × Int32 × Int32 × Int32 × Int32 × AR)) (hK : ∀ la sp ld go he st, K la sp ld go he st = some (0, la, sp, ld, go, he, st, refs)) : ∀ k fuel : Nat, k ≤ 9 → k < fuel → ∀ (la sp : AR) (ld go he st : Int32), ∃ (la' sp' : AR) (ld' go' he' st' : Int32), fX3_heaviest_L16 refs r (nI c) K fuel (nI k) la sp ld go he st = some (hvS (fun k => ovB n r t 0 0 (nI k) t c) k, la', sp', ld', go', he', st', refs) := by
  intro k
  induction k with
  | zero =>
    intro fuel hk hf la sp ld go he st
    obtain ⟨fuel, rfl⟩ : ∃ q, fuel = q + 1 := ⟨fuel - 1, by omega⟩
    exact ⟨la, sp, ld, go, he, st, by rw [fX3_heaviest_L16, if_pos (by decide), hK]; rfl⟩
  | succ k ih =>
    intro fuel hk hf la sp ld go he st
    obtain ⟨fuel, rfl⟩ : ∃ q, fuel = q + 1 := ⟨fuel - 1, by omega⟩
    obtain ⟨la', sp', st', e⟩ := comesOver_e V (nI (k + 1)) hc 0 0 la sp st
    rw [fX3_heaviest_L16, if_neg (nI_nle (by omega) (by omega)), e, bd_s, pk_m1]
    simp only
    rw [if_bI]
    unfold hvS
    cases h : ovB n r t 0 0 (nI (k + 1)) t c with
    | false =>
      simp only [Bool.false_eq_true, if_false]
      exact ih fuel (by omega) (by omega) _ _ _ _ _ _
    | true =>
      simp only [if_true]
      exact ⟨_, _, _, _, _, _, rfl⟩
theorem heavy_m {n t : Nat} {r : RT} (V : VR n t r) {c : Nat} (hc : c < 10) (refs : AR) (K : Int32 → Option (Int32 × AR)) (hK : ∀ v, K v = some (v, refs)) : ∀ k fuel : Nat, k ≤ 9 → k < fuel → fX4_heaviest_L16 0 0 r (nI c) K fuel (nI k) = some (hvS (fun k => ovB n r t 0 0 (nI k) t c) k, refs) := by
  have ht := V.2.1
  intro k
  induction k with
  | zero =>
    intro fuel hk hf
    obtain ⟨fuel, rfl⟩ : ∃ q, fuel = q + 1 := ⟨fuel - 1, by omega⟩
    rw [fX4_heaviest_L16, if_pos (by decide), hK]; rfl
  | succ k ih =>
    intro fuel hk hf
    obtain ⟨fuel, rfl⟩ : ∃ q, fuel = q + 1 := ⟨fuel - 1, by omega⟩
    rw [fX4_heaviest_L16, if_neg (nI_nle (by omega) (by omega)), V.2.2.2.1, soonestFrom_e V 0 0 (nI (k + 1)) (show t < 1000 by omega) hc, bd_s, pk_m1, hK]
    unfold hvS
    cases h : ovB n r t 0 0 (nI (k + 1)) t c with
    | false =>
      rw [if_neg (fun g => by rw [(ov_ge n r t 0 0 _ t c).mp g] at h; cases h)]
      simp only [Bool.false_eq_true, if_false]
      exact ih fuel (by omega) (by omega)
    | true =>
      rw [if_pos ((ov_ge n r t 0 0 _ t c).mpr h)]
      simp only [if_true]
theorem heaviest_p {n t : Nat} {r : RT} (V : VR n t r) (p1 : Int32) (la sp : AR) (ld go he st : Int32) (refs : AR) : R8 (fX3_heaviest p1 la sp ld go he st r refs) (fX4_heaviest p1 r refs 0 0) := by
  unfold fX3_heaviest fX4_heaviest
  rcases isCell_c p1 with ⟨h1, h2, c, hc, rfl⟩ | ⟨h1, h2⟩
  · rw [h1, h2, bd_s, bd_s, if_neg (by decide), if_neg (by decide)]
    obtain ⟨la', sp', ld', go', he', st', e⟩ := heavy_x V hc refs (fun (k16_lanes : AR) (k16_spots : AR) (k16_load : Int32) (k16_gone : Int32) (k16_held : Int32) (k16_strong : Int32) => some ((0 : Int32), k16_lanes, k16_spots, k16_load, k16_gone, k16_held, k16_strong, refs)) (fun _ _ _ _ _ _ => rfl) 9 400 (by omega) (by omega) la sp ld go he st
    have e2 := heavy_m V hc refs (fun (k16_2 : Int32) => some (k16_2, refs)) (fun _ => rfl) 9 400 (by omega) (by omega)
    rw [show nI 9 = (9 : Int32) from rfl] at e e2
    rw [e, e2]
    exact ⟨_, _, _, _, _, _, _, _, rfl, rfl⟩
  · rw [h1, h2, bd_s, bd_s, if_pos rfl, if_pos rfl]
    exact R8_bad w1 la sp ld go he st refs
/-! who is needed; from where -/
theorem or_z (x : Int32) : x ||| (0 : Int32) = x := b_ext (fun i _ => by rw [b_or, b_0]; simp)
/-- bits put together, from f on -/
def orS (g : Nat → Bool) : Nat → Nat → Int32 → Int32
  | 0, _, a => a
  | d + 1, f, a => orS g d (f + 1) (if g f then a ||| ((1 : Int32) <<< (nI f &&& 31)) else a)
theorem need_x {n t : Nat} {r : RT} (V : VR n t r) (ld : Int32) {c : Nat} (hc : c < 10) (K : Int32 → AR → AR → Int32 → Int32 → Int32 → Int32 → Option (Int32 × AR × AR × Int32 × Int32 × Int32 × Int32 × AR)) : ∀ d f fuel : Nat, f + d = n → d < fuel → ∀ (a : Int32) (la sp : AR) (l go he st : Int32), ∃ (la' sp' : AR) (l' go' he' st' : Int32), fX3_needed_L36 r ld (nI c) K fuel a (nI f) la sp l go he st = K (orS (fun f => !ovB n r t 0 ((1 : Int32) <<< (nI f &&& 31)) ld t c) d f a) la' sp' l' go' he' st' := by
  have hn := V.1
  intro d
  induction d with
  | zero =>
    intro f fuel hf hfu a la sp l go he st
    obtain ⟨fuel, rfl⟩ : ∃ q, fuel = q + 1 := ⟨fuel - 1, by omega⟩
    exact ⟨la, sp, l, go, he, st, by rw [fX3_needed_L36, V.2.2.1, if_pos (nI_le (by omega) (by omega))]; rfl⟩
  | succ d ih =>
    intro f fuel hf hfu a la sp l go he st
    obtain ⟨fuel, rfl⟩ : ∃ q, fuel = q + 1 := ⟨fuel - 1, by omega⟩
    obtain ⟨la', sp', st', e⟩ := comesOver_e V ld hc ((1 : Int32) <<< (nI f &&& 31)) 0 la sp st
    rw [fX3_needed_L36, V.2.2.1, if_neg (nI_ge (show f < n by omega) (by omega)), e, bd_s, nI1]
    simp only
    rw [if_bI]
    unfold orS
    cases h : ovB n r t 0 ((1 : Int32) <<< (nI f &&& 31)) ld t c with
    | false =>
      simp only [Bool.false_eq_true, if_false, Bool.not_false, if_true]
      exact ih (f + 1) fuel (by omega) (by omega) _ _ _ _ _ _ _
    | true =>
      simp only [if_true, Bool.not_true, Bool.false_eq_true, if_false]
      exact ih (f + 1) fuel (by omega) (by omega) _ _ _ _ _ _ _
theorem need_m {n t : Nat} {r : RT} (V : VR n t r) (ld : Int32) {c : Nat} (hc : c < 10) (K : Int32 → Int32 → Option (Int32 × AR × Int32)) : ∀ d f fuel : Nat, f + d = n → d < fuel → ∀ (a b : Int32), ∃ b', fX4_needed_L37 0 r ld (nI c) K fuel a (nI f) b = K (orS (fun f => !ovB n r t 0 ((1 : Int32) <<< (nI f &&& 31)) ld t c) d f a) b' := by
  have hn := V.1
  have ht := V.2.1
  intro d
  induction d with
  | zero =>
    intro f fuel hf hfu a b
    obtain ⟨fuel, rfl⟩ : ∃ q, fuel = q + 1 := ⟨fuel - 1, by omega⟩
    exact ⟨b, by rw [fX4_needed_L37, V.2.2.1, if_pos (nI_le (by omega) (by omega))]; rfl⟩
  | succ d ih =>
    intro f fuel hf hfu a b
    obtain ⟨fuel, rfl⟩ : ∃ q, fuel = q + 1 := ⟨fuel - 1, by omega⟩
    rw [fX4_needed_L37, V.2.2.1, if_neg (nI_ge (show f < n by omega) (by omega)), V.2.2.2.1, soonestFrom_e V 0 ((1 : Int32) <<< (nI f &&& 31)) ld (show t < 1000 by omega) hc, bd_s, nI1, or_z]
    unfold orS
    cases h : ovB n r t 0 ((1 : Int32) <<< (nI f &&& 31)) ld t c with
    | false =>
      rw [if_neg (fun g => by rw [(ov_ge n r t 0 _ ld t c).mp g] at h; cases h)]
      simp only [Bool.not_false, if_true]
      exact ih (f + 1) fuel (by omega) (by omega) _ _
    | true =>
      rw [if_pos ((ov_ge n r t 0 _ ld t c).mpr h)]
      simp only [Bool.not_true, Bool.false_eq_true, if_false]
      exact ih (f + 1) fuel (by omega) (by omega) _ _
theorem needed_p {n t : Nat} {r : RT} (V : VR n t r) (p1 p2 : Int32) (la sp : AR) (ld go he st : Int32) (refs : AR) : ∃ z la' sp' ld' go' he' st' rf, fX3_needed p1 p2 la sp ld go he st r refs = some (z, la', sp', ld', go', he', st', rf) ∧ fX4_needed p1 p2 r refs 0 0 = some (z, rf, 0) := by
  have hn := V.1
  have ht := V.2.1
  unfold fX3_needed fX4_needed
  rcases walker_c p1 p2 with ⟨h1, h2, ⟨c, hc, rfl⟩, -⟩ | ⟨w, hw, h1, h2⟩
  · rw [h1, h2, bd_s, bd_s, if_pos rfl, if_pos rfl]
    obtain ⟨la1, sp1, st1, e⟩ := comesOver_e V p1 hc 0 0 la sp st
    rw [e, bd_s, V.2.2.2.1, soonestFrom_e V 0 0 p1 (show t < 1000 by omega) hc, bd_s]
    simp only
    rw [if_bI]
    cases h : ovB n r t 0 0 p1 t c with
    | false =>
      rw [if_neg (show ¬ 0 ≤ OV n r t 0 0 p1 t c from fun g => by rw [(ov_ge n r t 0 0 p1 t c).mp g] at h; cases h)]
      simp only [Bool.false_eq_true, if_false]
      exact ⟨_, _, _, _, _, _, _, _, rfl, rfl⟩
    | true =>
      rw [if_pos ((ov_ge n r t 0 0 p1 t c).mpr h)]
      simp only [if_true]
      obtain ⟨la', sp', l', go', he', st', e1⟩ := need_x V p1 hc (fun (k36_4 : Int32) (k36_lanes : AR) (k36_spots : AR) (k36_load : Int32) (k36_gone : Int32) (k36_held : Int32) (k36_strong : Int32) => some (k36_4, k36_lanes, k36_spots, k36_load, k36_gone, k36_held, k36_strong, refs)) n 0 400 (by omega) (by omega) 0 la1 sp1 p1 0 0 st1
      obtain ⟨b', e2⟩ := need_m V p1 hc (fun (k37_4 : Int32) (k37_barred : Int32) => some (k37_4, refs, (0 : Int32))) n 0 400 (by omega) (by omega) 0 0
      rw [show nI 0 = (0 : Int32) from rfl] at e1 e2
      rw [e1, e2]
      exact ⟨_, _, _, _, _, _, _, _, rfl, rfl⟩
  · rw [h1, h2, bd_s, bd_s, if_neg (isW_0 hw), if_neg (isW_0 hw)]
    obtain ⟨b, h1, h2⟩ := rf5 hw refs
    rw [h1, h2]
    exact ⟨_, _, _, _, _, _, _, _, rfl, rfl⟩
theorem from_x {n t : Nat} {r : RT} (V : VR n t r) (ld : Int32) (K : Int32 → AR → AR → Int32 → Int32 → Int32 → Int32 → Option (Int32 × AR × AR × Int32 × Int32 × Int32 × Int32 × AR)) : ∀ d f fuel : Nat, f + d = 10 → d < fuel → ∀ (a : Int32) (la sp : AR) (l go he st : Int32), ∃ (la' sp' : AR) (l' go' he' st' : Int32), fX3_from_L23 r ld K fuel a (nI f) la sp l go he st = K (orS (fun f => ovB n r t 0 0 ld t f) d f a) la' sp' l' go' he' st' := by
  intro d
  induction d with
  | zero =>
    intro f fuel hf hfu a la sp l go he st
    obtain ⟨fuel, rfl⟩ : ∃ q, fuel = q + 1 := ⟨fuel - 1, by omega⟩
    exact ⟨la, sp, l, go, he, st, by rw [fX3_from_L23, if_pos (g_le (n := 10) (by omega) (by omega))]; rfl⟩
  | succ d ih =>
    intro f fuel hf hfu a la sp l go he st
    obtain ⟨fuel, rfl⟩ : ∃ q, fuel = q + 1 := ⟨fuel - 1, by omega⟩
    obtain ⟨la', sp', st', e⟩ := comesOver_e V ld (show f < 10 by omega) 0 0 la sp st
    rw [fX3_from_L23, if_neg (g_ge (n := 10) (by omega) (by omega)), e, bd_s, nI1]
    simp only
    rw [if_bI]
    unfold orS
    cases h : ovB n r t 0 0 ld t f with
    | false =>
      simp only [Bool.false_eq_true, if_false]
      exact ih (f + 1) fuel (by omega) (by omega) _ _ _ _ _ _ _
    | true =>
      simp only [if_true]
      exact ih (f + 1) fuel (by omega) (by omega) _ _ _ _ _ _ _
theorem from_m {n t : Nat} {r : RT} (V : VR n t r) (ld : Int32) (K : Int32 → Option (Int32 × AR)) : ∀ d f fuel : Nat, f + d = 10 → d < fuel → ∀ (a : Int32), fX4_from_L23 0 0 r ld K fuel a (nI f) = K (orS (fun f => ovB n r t 0 0 ld t f) d f a) := by
  have ht := V.2.1
  intro d
  induction d with
  | zero =>
    intro f fuel hf hfu a
    obtain ⟨fuel, rfl⟩ : ∃ q, fuel = q + 1 := ⟨fuel - 1, by omega⟩
    rw [fX4_from_L23, if_pos (g_le (n := 10) (by omega) (by omega))]; rfl
  | succ d ih =>
    intro f fuel hf hfu a
    obtain ⟨fuel, rfl⟩ : ∃ q, fuel = q + 1 := ⟨fuel - 1, by omega⟩
    rw [fX4_from_L23, if_neg (g_ge (n := 10) (by omega) (by omega)), V.2.2.2.1, soonestFrom_e V 0 0 ld (show t < 1000 by omega) (show f < 10 by omega), bd_s, nI1, or_z]
    unfold orS
    cases h : ovB n r t 0 0 ld t f with
    | false =>
      rw [if_pos ((ov_lt n r t 0 0 ld t f).mpr h)]
      simp only [Bool.false_eq_true, if_false]
      exact ih (f + 1) fuel (by omega) (by omega) _
    | true =>
      rw [if_neg (fun g => by rw [(ov_lt n r t 0 0 ld t f).mp g] at h; cases h)]
      simp only [if_true]
      exact ih (f + 1) fuel (by omega) (by omega) _
theorem from_p {n t : Nat} {r : RT} (V : VR n t r) (p1 : Int32) (la sp : AR) (ld go he st : Int32) (refs : AR) : R8 (fX3_from p1 la sp ld go he st r refs) (fX4_from p1 r refs 0 0) := by
  unfold fX3_from fX4_from
  rw [bound_e]
  rcases out_c p1 1 9 (by decide) (by decide) with ⟨g1, -⟩ | ⟨w, g1, g2⟩
  · rw [show fX3_outOf p1 (1 : Int32) (9 : Int32) = some 0 from g1, bd_s, bd_s, if_pos rfl, if_pos rfl]
    obtain ⟨la', sp', l', go', he', st', e1⟩ := from_x V p1 (fun (k23_3 : Int32) (k23_lanes : AR) (k23_spots : AR) (k23_load : Int32) (k23_gone : Int32) (k23_held : Int32) (k23_strong : Int32) => some (k23_3, k23_lanes, k23_spots, k23_load, k23_gone, k23_held, k23_strong, refs)) 10 0 400 (by omega) (by omega) 0 la sp ld go he st
    have e2 := from_m V p1 (fun (k23_3 : Int32) => some (k23_3, refs)) 10 0 400 (by omega) (by omega) 0
    rw [show nI 0 = (0 : Int32) from rfl] at e1 e2
    rw [e1, e2]
    exact ⟨_, _, _, _, _, _, _, _, rfl, rfl⟩
  · rw [show fX3_outOf p1 (1 : Int32) (9 : Int32) = some w from g2, bd_s, bd_s, if_neg (isW_0 g1), if_neg (isW_0 g1)]
    exact R8_bad g1 la sp ld go he st refs
/-! banks by seeds -/
theorem draw_e (x : Int32) (m : Nat) (hm : 0 < m) (hm2 : m < 2 ^ 31) : ∃ k, k < m ∧ ((x &&& (2147483647 : Int32)) / (256 : Int32)) - ((x &&& (2147483647 : Int32)) / (256 : Int32)) / nI m * nI m = nI k := by
  obtain ⟨j, hj, e⟩ := pk_andE x (m := (2147483647 : Int32)) 31 (by decide)
  rw [e, show (256 : Int32) = nI 256 from rfl, pk_div (by omega) (by decide) (by decide), pk_rem (by omega) hm hm2]
  exact ⟨_, Nat.mod_lt _ hm, rfl⟩
theorem seeds_in {n t : Nat} {r : RT} (V : VR n t r) {q : Nat} (hq : q ≤ 20) (K : Int32 → AR → AR → Int32 → Int32 → Int32 → Int32 → Option (Int32 × AR × AR × Int32 × Int32 × Int32 × Int32 × AR)) (K' : Int32 → Option (Int32 × AR)) : ∀ d i fuel fuel' : Nat, i + d = q → d < fuel → d < fuel' → ∀ (a z : Int32) (la sp : AR) (l go he st : Int32), ∃ (a' : Int32) (la' sp' : AR) (l' go' he' st' : Int32), fX3_seeds_L27 r (nI q) K fuel a z (nI i) la sp l go he st = K a' la' sp' l' go' he' st' ∧ fX4_seeds_L27 0 0 r (nI q) K' fuel' z a (nI i) = K' a' := by
  have ht := V.2.1
  intro d
  induction d with
  | zero =>
    intro i fuel fuel' hi hf hf' a z la sp l go he st
    obtain ⟨fuel, rfl⟩ : ∃ q, fuel = q + 1 := ⟨fuel - 1, by omega⟩
    obtain ⟨fuel', rfl⟩ : ∃ q, fuel' = q + 1 := ⟨fuel' - 1, by omega⟩
    exact ⟨a, la, sp, l, go, he, st, by rw [fX3_seeds_L27, if_pos (nI_le (by omega) (by omega))], by rw [fX4_seeds_L27, if_pos (nI_le (by omega) (by omega))]⟩
  | succ d ih =>
    intro i fuel fuel' hi hf hf' a z la sp l go he st
    obtain ⟨fuel, rfl⟩ : ∃ q, fuel = q + 1 := ⟨fuel - 1, by omega⟩
    obtain ⟨fuel', rfl⟩ : ∃ q, fuel' = q + 1 := ⟨fuel' - 1, by omega⟩
    rw [fX3_seeds_L27, fX4_seeds_L27, if_neg (nI_ge (show i < q by omega) (by omega)), if_neg (nI_ge (show i < q by omega) (by omega))]
    unfold fX3_seedBehind fX3_drawOf
    simp only [bd_s]
    obtain ⟨c, hc, ec⟩ := draw_e ((z * (1664525 : Int32)) + (1013904223 : Int32)) 10 (by decide) (by decide)
    obtain ⟨b, hb, eb⟩ := draw_e ((((z * (1664525 : Int32)) + (1013904223 : Int32)) * (1664525 : Int32)) + (1013904223 : Int32)) 9 (by decide) (by decide)
    rw [show (10 : Int32) = nI 10 from rfl, show (9 : Int32) = nI 9 from rfl, ec, eb, nI1, nI1]
    obtain ⟨la', sp', st', e⟩ := comesOver_e V (nI (b + 1)) hc 0 0 la sp st
    rw [e, bd_s, V.2.2.2.1, soonestFrom_e V 0 0 (nI (b + 1)) (show t < 1000 by omega) hc, bd_s]
    simp only
    rw [if_bI]
    cases h : ovB n r t 0 0 (nI (b + 1)) t c with
    | false =>
      rw [if_pos ((ov_lt n r t 0 0 _ t c).mpr h), Int32.add_zero]
      simp only [Bool.false_eq_true, if_false]
      exact ih (i + 1) fuel fuel' (by omega) (by omega) (by omega) _ _ _ _ _ _ _ _
    | true =>
      rw [if_neg (show ¬ OV n r t 0 0 (nI (b + 1)) t c < 0 from fun g => by rw [(ov_lt n r t 0 0 _ t c).mp g] at h; cases h)]
      simp only [if_true]
      exact ih (i + 1) fuel fuel' (by omega) (by omega) (by omega) _ _ _ _ _ _ _ _
theorem seeds_p {n t : Nat} {r : RT} (V : VR n t r) (p1 p2 : Int32) (la sp : AR) (ld go he st : Int32) (refs : AR) : R8 (fX3_seeds p1 p2 la sp ld go he st r refs) (fX4_seeds p1 p2 r refs 0 0) := by
  unfold fX3_seeds fX4_seeds
  rw [bound_e]
  rcases out_c p1 1 20 (by decide) (by decide) with ⟨g1, q, -, hq, rfl⟩ | ⟨w, g1, g2⟩
  · rw [show fX3_outOf (nI q) (1 : Int32) (20 : Int32) = some 0 from g1, bd_s, bd_s, if_pos rfl, if_pos rfl]
    obtain ⟨a', la', sp', l', go', he', st', e1, e2⟩ := seeds_in V hq (fun (k27_4 : Int32) (k27_lanes : AR) (k27_spots : AR) (k27_load : Int32) (k27_gone : Int32) (k27_held : Int32) (k27_strong : Int32) => some (k27_4, k27_lanes, k27_spots, k27_load, k27_gone, k27_held, k27_strong, refs)) (fun (k27_5 : Int32) => some (k27_5, refs)) q 0 400 400 (by omega) (by omega) (by omega) 0 p2 la sp ld go he st
    rw [show nI 0 = (0 : Int32) from rfl] at e1 e2
    rw [e1, e2]
    exact ⟨_, _, _, _, _, _, _, _, rfl, rfl⟩
  · rw [show fX3_outOf p1 (1 : Int32) (20 : Int32) = some w from g2, bd_s, bd_s, if_neg (isW_0 g1), if_neg (isW_0 g1)]
    exact R8_bad g1 la sp ld go he st refs
/-! places behind so many minutes -/
theorem behind_e {n t : Nat} {r : RT} (V : VR n t r) (ld : Int32) {s M : Nat} (hs : s + M < 1000) {Q : Nat → Bool} (G : good n Q) (K : Int32 → AR → AR → Int32 → Option (Int32 × AR × AR × Int32)) : ∀ d m fuel : Nat, m + d = M → d < fuel → ∀ (x : Int32) (la sp : AR) (st : Int32), XS (runQ (fun k => edgeE n r t 0 0 ld k) Q s m) x → ∃ (v : Int32) (la' sp' : AR) (st' : Int32), fX2_placesBehind_L6 0 0 ld r (nI s) (nI M) K fuel x (nI m) la sp st = K v la' sp' st' ∧ XS (runQ (fun k => edgeE n r t 0 0 ld k) Q s M) v := by
  intro d
  induction d with
  | zero =>
    intro m fuel hm hf x la sp st hx
    obtain ⟨fuel, rfl⟩ : ∃ q, fuel = q + 1 := ⟨fuel - 1, by omega⟩
    refine ⟨x, la, sp, st, by rw [fX2_placesBehind_L6, if_pos (nI_le (by omega) (by omega))], ?_⟩
    rw [show M = m by omega]; exact hx
  | succ d ih =>
    intro m fuel hm hf x la sp st hx
    obtain ⟨fuel, rfl⟩ : ∃ q, fuel = q + 1 := ⟨fuel - 1, by omega⟩
    obtain ⟨la', sp', st', v1, v2, h1, -, h2, h3, -, -, h4⟩ := minute_e V 0 0 ld (show s + m + 1 < 2 ^ 31 by omega) la sp (good_run 0 0 ld s G m) hx
    rw [fX2_placesBehind_L6, if_neg (nI_ge (show m < M by omega) (by omega)), nI_add, h1, bd_s]
    simp only
    rw [h2, bd_s, h3, bd_s, nI1]
    exact ih (m + 1) fuel (by omega) (by omega) _ _ _ _ h4
theorem reach_m {n t : Nat} {r : RT} (V : VR n t r) (ld : Int32) {M : Nat} (hs : t + M < 1000) {Q : Nat → Bool} (K : Int32 → Option (Int32 × AR)) : ∀ d m fuel : Nat, m + d = M → d < fuel → ∀ (x : Int32), MS (runQ (fun k => edgeE n r t 0 0 ld k) Q t m) x → ∃ (v : Int32), fX4_reach_L65 0 0 r ld (nI M) K fuel x (nI m) = K v ∧ MS (runQ (fun k => edgeE n r t 0 0 ld k) Q t M) v := by
  intro d
  induction d with
  | zero =>
    intro m fuel hm hf x hx
    obtain ⟨fuel, rfl⟩ : ∃ q, fuel = q + 1 := ⟨fuel - 1, by omega⟩
    refine ⟨x, by rw [fX4_reach_L65, if_pos (nI_le (by omega) (by omega))], ?_⟩
    rw [show M = m by omega]; exact hx
  | succ d ih =>
    intro m fuel hm hf x hx
    obtain ⟨fuel, rfl⟩ : ∃ q, fuel = q + 1 := ⟨fuel - 1, by omega⟩
    obtain ⟨v, h1, h2⟩ := goesOn_e V 0 0 ld (show t + m + 1 < 2 ^ 31 by omega) hx
    rw [fX4_reach_L65, if_neg (nI_ge (show m < M by omega) (by omega)), V.2.2.2.1, nI_add, h1, bd_s, nI1]
    exact ih (m + 1) fuel (by omega) (by omega) v h2
theorem byNow_m {n t : Nat} {r : RT} (V : VR n t r) (ld : Int32) {M : Nat} (hs : M ≤ t) {Q : Nat → Bool} (K : Int32 → Option (Int32 × AR)) : ∀ d m fuel : Nat, m + d = M → d < fuel → ∀ (x : Int32), MS (runQ (fun k => edgeE n r t 0 0 ld k) Q (t - M) m) x → ∃ (v : Int32), fX4_byNow_L71 0 0 r ld K fuel x (nI d) = K v ∧ MS (runQ (fun k => edgeE n r t 0 0 ld k) Q (t - M) M) v := by
  have ht := V.2.1
  intro d
  induction d with
  | zero =>
    intro m fuel hm hf x hx
    obtain ⟨fuel, rfl⟩ : ∃ q, fuel = q + 1 := ⟨fuel - 1, by omega⟩
    refine ⟨x, by rw [fX4_byNow_L71, if_pos (by decide)], ?_⟩
    rw [show m = M by omega] at hx; exact hx
  | succ d ih =>
    intro m fuel hm hf x hx
    obtain ⟨fuel, rfl⟩ : ∃ q, fuel = q + 1 := ⟨fuel - 1, by omega⟩
    obtain ⟨v, h1, h2⟩ := goesOn_e V 0 0 ld (show t - M + m + 1 < 2 ^ 31 by omega) hx
    rw [fX4_byNow_L71, if_neg (nI_nle (by omega) (by omega)), V.2.2.2.1, pk_sub (by omega), show t - (d + 1) = t - M + m by omega, h1, bd_s, pk_m1]
    exact ih (m + 1) fuel (by omega) (by omega) v h2
theorem b_511 (i : Nat) : bt 511 i = decide (i < 9) := by
  rcases Nat.lt_or_ge i 32 with h | h
  · exact (by decide +kernel : ∀ i, i < 32 → bt 511 i = decide (i < 9)) i h
  · rw [b_big h, decide_eq_false (by omega)]
theorem b_512 : ∀ i, i < 32 → bt (512 : Int32) i = decide (i = 9) := by decide +kernel
/-- the floes of a set, on both sides -/
theorem floesOf_e {Q : Nat → Bool} {x y : Int32} (hx : XS Q x) (hy : MS Q y) : fX4_floesOf y = some (x &&& (255 : Int32)) := by
  unfold fX4_floesOf
  apply congrArg some
  apply b_ext
  intro i hi
  rw [b_and, b_and, b_255, show (10 : Int32) = nI 10 from rfl, b_sshr 10 (by decide) y hi]
  by_cases c : i < 8
  · rw [if_pos (by omega), hy (10 + i) (by omega), hx i hi, plc_f _ c, decide_eq_true (show 10 + i < 19 by omega), Nat.add_comm 10 i]; simp
  · rw [decide_eq_false c]; simp
theorem sum_t : ∀ a, a < 256 → nI a + (1 : Int32) * (256 : Int32) = nI a ||| (256 : Int32) ∧ nI a + (0 : Int32) * (256 : Int32) = nI a ||| (0 : Int32) := by decide +kernel
theorem sum_t2 : ∀ a, a < 512 → nI a + (512 : Int32) = nI a ||| (512 : Int32) := by decide +kernel
theorem reach_sum {Q : Nat → Bool} {x y : Int32} (hx : XS Q x) (hy : MS Q y) : ((x &&& (255 : Int32)) + (((y >>> ((18 : Int32) &&& 31)) &&& (1 : Int32)) * (256 : Int32))) = (x &&& (511 : Int32)) := by
  rw [show (18 : Int32) = nI 18 from rfl, bit y (by decide), hy 18 (by omega)]
  obtain ⟨a, ha, ea⟩ := pk_andE x (m := (255 : Int32)) 8 (by decide)
  have e : (x &&& (255 : Int32)) ||| (if Q 18 then (256 : Int32) else 0) = (x &&& (511 : Int32)) := by
    apply b_ext
    intro i hi
    rw [b_or, b_and, b_and, b_255, b_511]
    by_cases c : i = 8
    · subst c
      rw [hx 8 hi, plc_n]
      cases Q 18 with
      | true => simp [b256 8 (by omega)]
      | false => simp [b_0]
    · have : bt (if Q 18 then (256 : Int32) else 0) i = false := by
        cases Q 18 with
        | true => simp [b256 i hi, c]
        | false => simp [b_0]
      rw [this]
      by_cases d : i < 8
      · rw [decide_eq_true d, decide_eq_true (show i < 9 by omega)]; simp
      · rw [decide_eq_false d, decide_eq_false (show ¬ i < 9 by omega)]; simp
  rw [← e, ea]
  rw [decide_eq_true (show 18 < 19 by omega), Bool.true_and]
  cases Q 18 with
  | true => exact (sum_t a ha).1
  | false => exact (sum_t a ha).2
theorem b_1047552 : ∀ i, i < 32 → bt (1047552 : Int32) i = decide (10 ≤ i ∧ i < 20) := by decide +kernel
theorem south_e {Q : Nat → Bool} {x y : Int32} (hx : XS Q x) (hy : MS Q y) : (x &&& (1047552 : Int32)) = 0 ↔ (y &&& (1023 : Int32)) = 0 := by
  rw [← Decidable.not_iff_not, ne0, ne0]
  constructor
  · rintro ⟨i, hi, g⟩
    rw [b_and, b_1047552 i hi] at g
    simp only [Bool.and_eq_true_iff, decide_eq_true_iff] at g
    obtain ⟨g, e1, e2⟩ := g
    refine ⟨i - 10, by omega, ?_⟩
    rw [hx i hi, show i = 10 + (i - 10) by omega, plc_s _ (by omega)] at g
    rw [b_and, b_1023, hy (i - 10) (by omega), g, decide_eq_true (show i - 10 < 10 by omega), decide_eq_true (show i - 10 < 19 by omega)]; rfl
  · rintro ⟨i, hi, g⟩
    rw [b_and, b_1023, hy i hi] at g
    simp only [Bool.and_eq_true_iff, decide_eq_true_iff] at g
    obtain ⟨⟨g1, g⟩, e⟩ := g
    refine ⟨10 + i, by omega, ?_⟩
    rw [b_and, b_1047552 _ (by omega), hx (10 + i) (by omega), plc_s _ e, g, decide_eq_true (show 10 ≤ 10 + i ∧ 10 + i < 20 by omega)]; rfl
theorem either_c (ld m : Int32) (M : Nat) (hM : M < 2 ^ 31) : (fX3_outOfEither ld m (nI M) = some 0 ∧ ∃ k, k ≤ M ∧ m = nI k) ∨ ∃ w, isW w ∧ fX3_outOfEither ld m (nI M) = some w := by
  unfold fX3_outOfEither
  by_cases c1 : ld < (1 : Int32)
  · rw [if_pos c1]; exact Or.inr ⟨-4, w4, rfl⟩
  · rw [if_neg c1]
    by_cases c2 : 0 ≤ m
    · rw [if_pos c2]
      by_cases c3 : (9 : Int32) < ld
      · rw [if_pos c3]; exact Or.inr ⟨-6, w6, rfl⟩
      · rw [if_neg c3]
        by_cases c4 : m ≤ nI M
        · rw [if_pos c4]
          obtain ⟨k, hk, e⟩ := nI_of2 (M := nI M) (n := M) (ti_n hM) (Int32.not_lt.mpr c2) c4
          exact Or.inl ⟨rfl, k, hk, e⟩
        · rw [if_neg c4]; exact Or.inr ⟨-6, w6, rfl⟩
    · rw [if_neg c2]; exact Or.inr ⟨-4, w4, rfl⟩
/-- the model asks the same in other words -/
theorem either_j {α : Type} (ld m M : Int32) (J : Int32 → Option α) : (if ld < (1 : Int32) then (J (-4 : Int32)) else (if 0 ≤ m then (if (9 : Int32) < ld then (J (-6 : Int32)) else (if m ≤ M then (J (0 : Int32)) else (J (-6 : Int32)))) else (J (-4 : Int32)))) = bd (fX3_outOfEither ld m M) J := by
  unfold fX3_outOfEither
  by_cases c1 : ld < (1 : Int32)
  · rw [if_pos c1, if_pos c1, bd_s]
  · rw [if_neg c1, if_neg c1]
    by_cases c2 : 0 ≤ m
    · rw [if_pos c2, if_pos c2]
      by_cases c3 : (9 : Int32) < ld
      · rw [if_pos c3, if_pos c3, bd_s]
      · rw [if_neg c3, if_neg c3]
        by_cases c4 : m ≤ M
        · rw [if_pos c4, if_pos c4, bd_s]
        · rw [if_neg c4, if_neg c4, bd_s]
    · rw [if_neg c2, if_neg c2, bd_s]
theorem either_jn {α : Type} (q ld m M : Int32) (k : Int32 → Option α) : jn (fun J => if q = 0 then (J (-1 : Int32)) else (if ld < (1 : Int32) then (J (-4 : Int32)) else (if 0 ≤ m then (if (9 : Int32) < ld then (J (-6 : Int32)) else (if m ≤ M then (J (0 : Int32)) else (J (-6 : Int32)))) else (J (-4 : Int32))))) k = if q = 0 then k (-1) else bd (fX3_outOfEither ld m M) k := by
  rw [← either_j]
  rfl
theorem reach_p {n t : Nat} {r : RT} (V : VR n t r) (p1 p2 p3 : Int32) (la sp : AR) (ld go he st : Int32) (refs : AR) : R8 (fX3_reach p1 p2 p3 la sp ld go he st r refs) (fX4_reach p1 p2 p3 r refs 0 0) := by
  have ht := V.2.1
  unfold fX3_reach fX4_reach
  rcases isCell_c p2 with ⟨h1, h2, c, hc, rfl⟩ | ⟨h1, h2⟩
  · rw [h1, h2, bd_s, bd_s, if_neg (by decide), either_jn, if_neg (by decide)]
    rcases either_c p1 p3 40 (by decide) with ⟨g1, M, hM, rfl⟩ | ⟨w, g1, g2⟩
    · rw [show fX3_outOfEither p1 (nI M) (40 : Int32) = some 0 from g1, bd_s, bd_s, if_pos rfl, if_pos rfl]
      unfold fX2_begin fX2_placesBehind
      rw [bd_s, (XS_1 hc).1, bd_s, V.2.2.2.1]
      simp only
      obtain ⟨v, la', sp', st', e1, x1⟩ := behind_e V p1 (show t + M < 1000 by omega) (good_1 n hc) (fun (k6_4 : Int32) (k6_lanes : AR) (k6_spots : AR) (k6_strong : Int32) => some (k6_4, k6_lanes, k6_spots, k6_strong)) M 0 400 (by omega) (by omega) _ la sp st (XS_1 hc).2
      obtain ⟨u, e2, x2⟩ := reach_m V p1 (show t + M < 1000 by omega) (fun (k65_5 : Int32) => bd (fX4_floesOf k65_5) (fun (q95 : Int32) => if (k65_5 &&& (1023 : Int32)) = 0 then (some (((q95 + (((k65_5 >>> ((18 : Int32) &&& 31)) &&& (1 : Int32)) * (256 : Int32))) + (0 : Int32)), refs)) else (some (((q95 + (((k65_5 >>> ((18 : Int32) &&& 31)) &&& (1 : Int32)) * (256 : Int32))) + (512 : Int32)), refs)))) M 0 400 (by omega) (by omega) _ (MS_1 (show c < 19 by omega))
      rw [show nI 0 = (0 : Int32) from rfl] at e1 e2
      rw [e1, e2, bd_s, floesOf_e x1 x2, bd_s, reach_sum x1 x2]
      simp only
      by_cases q : (v &&& (1047552 : Int32)) = 0
      · rw [if_pos q, if_pos ((south_e x1 x2).mp q), Int32.add_zero]
        exact ⟨_, _, _, _, _, _, _, _, rfl, rfl⟩
      · rw [if_neg q, if_neg (fun g => q ((south_e x1 x2).mpr g))]
        obtain ⟨a, ha, ea⟩ := pk_andE v (m := (511 : Int32)) 9 (by decide)
        rw [ea, sum_t2 a ha]
        exact ⟨_, _, _, _, _, _, _, _, rfl, rfl⟩
    · rw [show fX3_outOfEither p1 p3 (40 : Int32) = some w from g2, bd_s, bd_s, if_neg (isW_0 g1), if_neg (isW_0 g1)]
      exact R8_bad g1 la sp ld go he st refs
  · rw [h1, h2, bd_s, bd_s, if_pos rfl]
    dsimp only [jn]
    rw [if_pos rfl, if_neg (by decide)]
    exact R8_bad w1 la sp ld go he st refs
theorem XS_f {n j : Nat} (hj : j < 8) : XS (at1 (10 + j)) ((1 : Int32) <<< (nI j &&& 31)) := by
  refine bit_cases (fun i hi => ?_) ?_ (fun d hd => ?_) (fun i h1 hi => ?_)
  · rw [sh1 (by omega) (by omega), plc_f _ hi]; unfold at1
    by_cases e : i = j
    · rw [decide_eq_true e, decide_eq_true (by omega)]
    · rw [decide_eq_false e, decide_eq_false (by omega)]
  · rw [sh1 (by omega) (by omega), plc_n]; unfold at1; rw [decide_eq_false (by omega), decide_eq_false (by omega)]
  · rw [sh1 (by omega) (by omega), plc_s _ hd]; unfold at1; rw [decide_eq_false (by omega), decide_eq_false (by omega)]
  · rw [sh1 (by omega) hi, plc_o _ h1, decide_eq_false (by omega)]
theorem byNow_p {n t : Nat} {r : RT} (V : VR n t r) (p1 p2 p3 : Int32) (la sp : AR) (ld go he st : Int32) (refs : AR) : R8 (fX3_byNow p1 p2 p3 la sp ld go he st r refs) (fX4_byNow p1 p2 p3 r refs 0 0) := by
  have ht := V.2.1
  have hn := V.1
  unfold fX3_byNow fX4_byNow
  rcases has_c V p2 with ⟨h1, h2, j, hj, rfl⟩ | ⟨h1, h2⟩
  · rw [h1, h2, bd_s, bd_s, if_neg (by decide), either_jn, if_neg (by decide), V.2.2.2.1]
    rcases either_c p1 p3 t (by omega) with ⟨g1, M, hM, rfl⟩ | ⟨w, g1, g2⟩
    · rw [g1, bd_s, bd_s, if_pos rfl, if_pos rfl]
      unfold fX2_begin fX2_placesBehind
      rw [bd_s, pk_sub hM]
      simp only
      obtain ⟨v, la', sp', st', e1, x1⟩ := behind_e V p1 (show t - M + M < 1000 by omega) (show good n (at1 (10 + j)) from fun i h1 h2 => decide_eq_false (by omega)) (fun (k6_4 : Int32) (k6_lanes : AR) (k6_spots : AR) (k6_strong : Int32) => some (k6_4, k6_lanes, k6_spots, k6_strong)) M 0 400 (by omega) (by omega) _ la sp st (XS_f (n := n) (show j < 8 by omega))
      obtain ⟨u, e2, x2⟩ := byNow_m V p1 hM (fun (k71_5 : Int32) => bd (fX4_floesOf k71_5) (fun (q100 : Int32) => some (q100, refs))) M 0 400 (by omega) (by omega) _ (MS_1 (show 10 + j < 19 by omega))
      rw [show nI 0 = (0 : Int32) from rfl] at e1
      rw [show (10 : Int32) = nI 10 from rfl, nI_add, e1, e2, bd_s, floesOf_e x1 x2, bd_s]
      exact ⟨_, _, _, _, _, _, _, _, rfl, rfl⟩
    · rw [g2, bd_s, bd_s, if_neg (isW_0 g1), if_neg (isW_0 g1)]
      exact R8_bad g1 la sp ld go he st refs
  · rw [h1, h2, bd_s, bd_s, if_pos rfl]
    dsimp only [jn]
    rw [if_pos rfl, if_neg (by decide)]
    exact R8_bad w1 la sp ld go he st refs
