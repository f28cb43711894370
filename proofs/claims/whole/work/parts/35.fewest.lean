/-! ===== the fewest leaps ===== -/
/-- who can be where behind m minutes with k leaps -/
def AL (n : Nat) (r : RT) (t : Nat) (pl ba ld : Int32) (s c : Nat) : Nat → Nat → Nat → Bool
  | 0, 0 => at1 c
  | 0, _ + 1 => fun _ => false
  | m + 1, 0 => stepQ (stayE r ba ld (s + m)) (AL n r t pl ba ld s c m 0)
  | m + 1, k + 1 => fun b => stepQ (stayE r ba ld (s + m)) (AL n r t pl ba ld s c m (k + 1)) b || stepQ (leapE n r t pl ba ld (s + m)) (AL n r t pl ba ld s c m k) b
theorem stepQ_f (E : Nat → Nat → Bool) {Q : Nat → Bool} (h : ∀ a, Q a = false) (b : Nat) : stepQ E Q b = false := by
  rw [Bool.eq_false_iff]
  intro g
  obtain ⟨a, h1, h2, h3⟩ := stepQ_iff.mp g
  rw [h a] at h2; cases h2
theorem AL_big (n : Nat) (r : RT) (t : Nat) (pl ba ld : Int32) (s c : Nat) : ∀ m k, m < k → ∀ b, AL n r t pl ba ld s c m k b = false := by
  intro m
  induction m with
  | zero =>
    intro k hk b
    obtain ⟨k, rfl⟩ : ∃ q, k = q + 1 := ⟨k - 1, by omega⟩
    rfl
  | succ m ih =>
    intro k hk b
    obtain ⟨k, rfl⟩ : ∃ q, k = q + 1 := ⟨k - 1, by omega⟩
    show (stepQ _ _ b || stepQ _ _ b) = false
    rw [stepQ_f _ (ih (k + 1) (by omega)), stepQ_f _ (ih k (by omega))]; rfl
theorem good_stay {n : Nat} {r : RT} (ba ld : Int32) (k : Nat) {Q : Nat → Bool} (G : good n Q) : good n (stepQ (stayE r ba ld k) Q) := by
  intro j hj h8
  rw [Bool.eq_false_iff]
  intro h
  obtain ⟨a, h1, h2, h⟩ := stepQ_iff.mp h
  unfold stayE at h
  by_cases e : a = j + 10
  · subst e; rw [G j hj h8] at h2; cases h2
  · rw [if_neg e] at h
    simp only [Bool.and_eq_true_iff, decide_eq_true_iff] at h
    omega
theorem good_leap {n t : Nat} {r : RT} (pl ba ld : Int32) (k : Nat) (Q : Nat → Bool) : good n (stepQ (leapE n r t pl ba ld k) Q) := by
  intro j hj h8
  rw [Bool.eq_false_iff]
  intro h
  obtain ⟨a, h1, h2, h⟩ := stepQ_iff.mp h
  unfold leapE at h
  rw [if_pos (by omega)] at h
  simp only [Bool.and_eq_true_iff, decide_eq_true_iff] at h
  omega
theorem good_AL (n : Nat) (r : RT) (t : Nat) (pl ba ld : Int32) (s : Nat) {c : Nat} (hc : c < 10) : ∀ m k, good n (AL n r t pl ba ld s c m k) := by
  intro m
  induction m with
  | zero =>
    intro k
    cases k with
    | zero => exact good_1 n hc
    | succ k => exact fun _ _ _ => rfl
  | succ m ih =>
    intro k
    cases k with
    | zero => exact good_stay ba ld (s + m) (ih 0)
    | succ k =>
      intro j hj h8
      show (stepQ _ _ _ || stepQ _ _ _) = false
      rw [good_stay ba ld (s + m) (ih (k + 1)) j hj h8, good_leap pl ba ld (s + m) _ j hj h8]; rfl
theorem XS_0 : XS (fun _ => false) 0 := by
  intro i hi
  rw [b_0]
  unfold plc
  by_cases c1 : i < 8
  · rw [if_pos c1]
  · rw [if_neg c1]
    by_cases c2 : i = 8
    · rw [if_pos c2]
    · rw [if_neg c2]
      by_cases c3 : 10 ≤ i ∧ i < 20
      · rw [if_pos c3]
      · rw [if_neg c3]
/-- the least number of leaps at which something is so -/
def lvS (f : Nat → Bool) : Nat → Nat → Int32
  | 0, _ => -9
  | d + 1, k => if f k then nI k else lvS f d (k + 1)
theorem lvS_0 (f : Nat → Bool) : ∀ d k, (∀ j, k ≤ j → j < k + d → f j = false) → lvS f d k = -9 := by
  intro d
  induction d with
  | zero => intro k _; rfl
  | succ d ih =>
    intro k h
    unfold lvS
    rw [h k (Nat.le_refl k) (by omega)]
    simp only [Bool.false_eq_true, if_false]
    exact ih (k + 1) (fun j h1 h2 => h j (by omega) (by omega))
theorem lvS_s (f : Nat → Bool) {v : Nat} (hv : f v = true) : ∀ d k, k ≤ v → v < k + d → (∀ j, k ≤ j → j < v → f j = false) → lvS f d k = nI v := by
  intro d
  induction d with
  | zero => intro k h1 h2; omega
  | succ d ih =>
    intro k h1 h2 h
    unfold lvS
    by_cases e : k = v
    · subst e; rw [if_pos hv]
    · rw [h k (Nat.le_refl k) (by omega)]
      simp only [Bool.false_eq_true, if_false]
      exact ih (k + 1) (by omega) (by omega) (fun j h3 h4 => h j (by omega) h4)
/-- the answer of both -/
def LV (n : Nat) (r : RT) (t : Nat) (pl ba ld : Int32) (s c : Nat) : Int32 := lvS (fun k => AL n r t pl ba ld s c 40 k 18) 41 0
/-! the class -/
theorem fin41 {α : Type} {j : Nat} (h : j < 41) (a : Option α) : ck (nI j) 41 a = a := ck_n a h (by decide)
theorem cl41 {j : Nat} (h : j < 41) : (nI j).toNatClampNeg = j := cl_n (by omega)
theorem fl_zero (K : AR → Option (Int32 × AR × AR × AR × Int32)) : ∀ d k fuel : Nat, k + d = 41 → d < fuel → ∀ bl : AR, ∃ bl', fX2_fewestLeaps_L2 K fuel (nI k) bl = K bl' ∧ ∀ j, bl' j = if k ≤ j ∧ j < 41 then 0 else bl j := by
  intro d
  induction d with
  | zero =>
    intro k fuel hk hf bl
    obtain ⟨fuel, rfl⟩ : ∃ q, fuel = q + 1 := ⟨fuel - 1, by omega⟩
    exact ⟨bl, by rw [fX2_fewestLeaps_L2, if_pos (g_gt (n := 40) (by omega) (by omega))], fun j => by rw [if_neg (by omega)]⟩
  | succ d ih =>
    intro k fuel hk hf bl
    obtain ⟨fuel, rfl⟩ : ∃ q, fuel = q + 1 := ⟨fuel - 1, by omega⟩
    rw [fX2_fewestLeaps_L2, if_neg (by rw [show (40 : Int32) = nI 40 from rfl, nI_ltI (by decide) (by omega)]; omega), fin41 (by omega), nI1, cl41 (by omega)]
    obtain ⟨bl', h1, h2⟩ := ih (k + 1) fuel (by omega) (by omega) (upd bl k 0)
    refine ⟨bl', h1, fun j => ?_⟩
    rw [h2 j]
    by_cases e : j = k
    · subst e; rw [if_neg (by omega), if_pos (by omega), upd_s]
    · by_cases q : k + 1 ≤ j ∧ j < 41
      · rw [if_pos q, if_pos (by omega)]
      · rw [if_neg q, if_neg (by omega), upd_n _ _ e]
/-- one minute: from above down to 1 -/
theorem fl_down {n t : Nat} {r : RT} (V : VR n t r) {pl ba ld : Int32} {s c m : Nat} (hc : c < 10) {la sp : AR} {st : Int32} (L : LK n r t pl ba ld (s + m) la sp st) (hm : m < 40) (K : AR → Option (Int32 × AR × AR × AR × Int32)) : ∀ k fuel : Nat, k ≤ m + 1 → k < fuel → ∀ bl : AR, (∀ j, j ≤ 40 → XS (if k < j then AL n r t pl ba ld s c (m + 1) j else AL n r t pl ba ld s c m j) (bl j)) → ∃ bl', fX2_fewestLeaps_L56 r (la, sp, st) K fuel (nI k) bl = K bl' ∧ (∀ j, 1 ≤ j → j ≤ 40 → XS (AL n r t pl ba ld s c (m + 1) j) (bl' j)) ∧ XS (AL n r t pl ba ld s c m 0) (bl' 0) := by
  intro k
  induction k with
  | zero =>
    intro fuel hk hf bl hb
    obtain ⟨fuel, rfl⟩ : ∃ q, fuel = q + 1 := ⟨fuel - 1, by omega⟩
    refine ⟨bl, by rw [fX2_fewestLeaps_L56, if_pos (by decide)], fun j h1 h2 => ?_, ?_⟩
    · have := hb j h2
      rwa [if_pos (by omega)] at this
    · have := hb 0 (by omega)
      rwa [if_neg (by omega)] at this
  | succ k ih =>
    intro fuel hk hf bl hb
    obtain ⟨fuel, rfl⟩ : ∃ q, fuel = q + 1 := ⟨fuel - 1, by omega⟩
    have b1 := hb (k + 1) (by omega)
    rw [if_neg (by omega)] at b1
    have b0 := hb k (by omega)
    rw [if_neg (by omega)] at b0
    obtain ⟨v1, e1, g1⟩ := unleaped_e L (good_AL n r t pl ba ld s hc m (k + 1)) b1
    obtain ⟨v2, e2, g2⟩ := leaped_e V L (good_AL n r t pl ba ld s hc m k) b0
    rw [fX2_fewestLeaps_L56, if_neg (nI_nle (by omega) (by omega)), fin41 (by omega), cl41 (by omega)]
    simp only
    rw [e1, bd_s, nI_pred, fin41 (by omega), cl41 (by omega), e2, bd_s, fin41 (by omega), show nI (k + 1) + (-1 : Int32) = nI k from pk_m1 k]
    refine ih fuel (by omega) (by omega) _ (fun j hj => ?_)
    by_cases e : j = k + 1
    · subst e
      rw [upd_s, if_pos (by omega)]
      exact g1.or g2
    · rw [upd_n _ _ e]
      have := hb j hj
      by_cases q : k < j
      · rw [if_pos (by omega)] at this ⊢
        exact this
      · rw [if_neg (by omega)] at this ⊢
        exact this
theorem fl_run {n t : Nat} {r : RT} (V : VR n t r) (pl ba ld : Int32) {c : Nat} (hc : c < 10) (K : AR → AR → AR → Int32 → Option (Int32 × AR × AR × AR × Int32)) : ∀ d m fuel : Nat, m + d = 40 → d < fuel → ∀ (la sp bl : AR) (st : Int32), (∀ j, j ≤ 40 → XS (AL n r t pl ba ld t c m j) (bl j)) → ∃ (la' sp' bl' : AR) (st' : Int32), fX2_fewestLeaps_L33 ba pl ld r K fuel (nI m) la sp bl st = K la' sp' bl' st' ∧ ∀ j, j ≤ 40 → XS (AL n r t pl ba ld t c 40 j) (bl' j) := by
  intro d
  induction d with
  | zero =>
    intro m fuel hm hf la sp bl st hb
    obtain ⟨fuel, rfl⟩ : ∃ q, fuel = q + 1 := ⟨fuel - 1, by omega⟩
    refine ⟨la, sp, bl, st, by rw [fX2_fewestLeaps_L33, if_pos (g_le (n := 40) (by omega) (by omega))], ?_⟩
    rw [show m = 40 by omega] at hb
    exact hb
  | succ d ih =>
    intro m fuel hm hf la sp bl st hb
    obtain ⟨fuel, rfl⟩ : ∃ q, fuel = q + 1 := ⟨fuel - 1, by omega⟩
    have ht := V.2.1
    obtain ⟨la1, sp1, st1, h1, L⟩ := look_e V pl ba ld (show t + m + 1 < 2 ^ 31 by omega) la sp
    obtain ⟨bl1, h2, g1, g0⟩ := fl_down V hc L (show m < 40 by omega) (fun (k56_byLeaps : AR) => ck (0 : Int32) 41 (bd (fX2_placesUnleaped (k56_byLeaps ((0 : Int32)).toNatClampNeg) (la1, sp1, st1).2.2) (fun (q107 : Int32) => ck (0 : Int32) 41 (fX2_fewestLeaps_L33 ba pl ld r K fuel (nI m + (1 : Int32)) (la1, sp1, st1).1 (la1, sp1, st1).2.1 (upd k56_byLeaps ((0 : Int32)).toNatClampNeg q107) (la1, sp1, st1).2.2)))) (m + 1) 400 (Nat.le_refl _) (by omega) bl (fun j hj => by
      by_cases q : m + 1 < j
      · rw [if_pos q]
        refine (hb j hj).congr (fun a _ => ?_)
        rw [AL_big n r t pl ba ld t c m j (by omega), AL_big n r t pl ba ld t c (m + 1) j q]
      · rw [if_neg q]; exact hb j hj)
    rw [fX2_fewestLeaps_L33, if_neg (g_ge (n := 40) (by omega) (by decide)), V.2.2.2.1, nI_add, h1, bd_s, nI1]
    rw [nI1] at h2
    rw [h2]
    obtain ⟨v, e, g⟩ := unleaped_e L (good_AL n r t pl ba ld t hc m 0) g0
    simp only
    rw [show (0 : Int32) = nI 0 from rfl, fin41 (by omega), cl41 (by omega), e, bd_s, fin41 (by omega)]
    refine ih (m + 1) fuel (by omega) (by omega) _ _ _ _ (fun j hj => ?_)
    by_cases q : j = 0
    · subst q; rw [upd_s]; exact g
    · rw [upd_n _ _ q]; exact g1 j (by omega) hj
theorem fl_find (f : Nat → Bool) (bl la sp : AR) (st : Int32) (hb : ∀ j, j ≤ 40 → (((bl j) &&& (256 : Int32)) = 0 ↔ f j = false)) (K : Unit → Option (Int32 × AR × AR × AR × Int32)) (hK : K () = some (-9, la, sp, bl, st)) : ∀ d k fuel : Nat, k + d = 41 → d < fuel → fX2_fewestLeaps_L119 bl la sp st K fuel (nI k) = some (lvS f d k, la, sp, bl, st) := by
  intro d
  induction d with
  | zero =>
    intro k fuel hk hf
    obtain ⟨fuel, rfl⟩ : ∃ q, fuel = q + 1 := ⟨fuel - 1, by omega⟩
    rw [fX2_fewestLeaps_L119, if_pos (g_gt (n := 40) (by omega) (by omega)), hK]; rfl
  | succ d ih =>
    intro k fuel hk hf
    obtain ⟨fuel, rfl⟩ : ∃ q, fuel = q + 1 := ⟨fuel - 1, by omega⟩
    rw [fX2_fewestLeaps_L119, if_neg (by rw [show (40 : Int32) = nI 40 from rfl, nI_ltI (by decide) (by omega)]; omega), fin41 (by omega), cl41 (by omega), nI1]
    unfold lvS
    cases hq : f k with
    | false =>
      rw [if_pos ((hb k (by omega)).mpr hq), ih (k + 1) fuel (by omega) (by omega)]
      simp only [Bool.false_eq_true, if_false]
    | true =>
      rw [if_neg (fun g => by rw [(hb k (by omega)).mp g] at hq; cases hq)]
      simp only [if_true]
theorem fewest_e {n t : Nat} {r : RT} (V : VR n t r) (pl ba ld : Int32) {c : Nat} (hc : c < 10) (la sp bl : AR) (st : Int32) : ∃ (la' sp' bl' : AR) (st' : Int32), fX2_fewestLeaps (nI c) la sp bl ld ba pl st r = some (LV n r t pl ba ld t c, la', sp', bl', st') := by
  unfold fX2_fewestLeaps
  obtain ⟨bl1, h1, g1⟩ := fl_zero (fun (k2_byLeaps : AR) => bd (fX3_southCell (nI c)) (fun (q27 : Int32) => ck (0 : Int32) 41 (fX2_fewestLeaps_L33 ba pl ld r (fun (k33_lanes : AR) (k33_spots : AR) (k33_byLeaps : AR) (k33_strong : Int32) => fX2_fewestLeaps_L119 k33_byLeaps k33_lanes k33_spots k33_strong (fun (_ : Unit) => some ((-9 : Int32), k33_lanes, k33_spots, k33_byLeaps, k33_strong)) 400 (0 : Int32)) 400 (0 : Int32) la sp (upd k2_byLeaps ((0 : Int32)).toNatClampNeg q27) st))) 40 1 400 rfl (by decide) bl
  rw [show (1 : Int32) = nI 1 from rfl]
  rw [h1, (XS_1 hc).1, bd_s, show (0 : Int32) = nI 0 from rfl, fin41 (by omega), cl41 (by omega)]
  obtain ⟨la', sp', bl', st', h2, g2⟩ := fl_run V pl ba ld hc (fun (k33_lanes : AR) (k33_spots : AR) (k33_byLeaps : AR) (k33_strong : Int32) => fX2_fewestLeaps_L119 k33_byLeaps k33_lanes k33_spots k33_strong (fun (_ : Unit) => some ((-9 : Int32), k33_lanes, k33_spots, k33_byLeaps, k33_strong)) 400 (nI 0)) 40 0 400 rfl (by decide) la sp (upd bl1 0 ((1 : Int32) <<< (nI (10 + c) &&& 31))) st (fun j hj => by
    by_cases q : j = 0
    · subst q; rw [upd_s]; exact (XS_1 hc).2
    · rw [upd_n _ _ q, g1 j, if_pos (by omega)]
      refine XS_0.congr (fun a _ => ?_)
      rw [AL_big n r t pl ba ld t c 0 j (by omega)])
  refine ⟨la', sp', bl', st', ?_⟩
  rw [h2]
  exact fl_find (fun k => AL n r t pl ba ld t c 40 k 18) bl' la' sp' st' (fun j hj => north_x (g2 j hj)) _ rfl 41 0 400 rfl (by decide)
/-! the model -/
/-- a row of least numbers -/
def LMP (C : Nat → Nat → Prop) (th : AR) : Prop := ∀ p, p < 19 → ((∀ v, ¬ C p v) ∧ th p = -9) ∨ ∃ v, v < 1000 ∧ C p v ∧ (∀ w, C p w → v ≤ w) ∧ th p = nI v
theorem LMP.congr {C C' : Nat → Nat → Prop} {th : AR} (h : LMP C th) (e : ∀ p, p < 19 → ∀ v, C p v ↔ C' p v) : LMP C' th := by
  intro p hp
  rcases h p hp with ⟨h1, h2⟩ | ⟨v, h1, h2, h3, h4⟩
  · exact Or.inl ⟨fun v g => h1 v ((e p hp v).mpr g), h2⟩
  · exact Or.inr ⟨v, h1, (e p hp v).mp h2, fun w g => h3 w ((e p hp w).mpr g), h4⟩
theorem ck19 {α : Type} {j : Nat} (h : j < 19) (a : Option α) : ck (nI j) 19 a = a := ck_n a h (by decide)
theorem cl19 {j : Nat} (h : j < 19) : (nI j).toNatClampNeg = j := cl_n (by omega)
theorem lowers_e {C : Nat → Nat → Prop} {th : AR} (h : LMP C th) {p v : Nat} (hp : p < 19) (hv : v < 1000) : ∃ th', fX4_lowers (nI p) (nI v) th = some th' ∧ LMP (fun q w => C q w ∨ (q = p ∧ w = v)) th' := by
  unfold fX4_lowers
  simp only [ck19 hp, cl19 hp]
  dsimp only [jn]
  have put : (∀ w, C p w → v ≤ w) → LMP (fun q w => C q w ∨ (q = p ∧ w = v)) (upd th p (nI v)) := by
    intro hmin q hq
    by_cases e : q = p
    · subst e
      right
      refine ⟨v, hv, Or.inr ⟨rfl, rfl⟩, fun w g => ?_, upd_s _ _ _⟩
      rcases g with g | ⟨_, g⟩
      · exact hmin w g
      · omega
    · rw [upd_n _ _ e]
      rcases h q hq with ⟨h1, h2⟩ | ⟨u, h1, h2, h3, h4⟩
      · exact Or.inl ⟨fun w g => g.elim (h1 w) (fun g => e g.1), h2⟩
      · exact Or.inr ⟨u, h1, Or.inl h2, fun w g => g.elim (h3 w) (fun g => absurd g.1 e), h4⟩
  rcases h p hp with ⟨h1, h2⟩ | ⟨u, h1, h2, h3, h4⟩
  · rw [h2, if_pos (by decide)]
    exact ⟨_, rfl, put (fun w g => absurd g (h1 w))⟩
  · rw [h4, if_neg (nI_pos (by omega))]
    by_cases c : u ≤ v
    · rw [if_pos (nI_le c (by omega))]
      refine ⟨th, rfl, fun q hq => ?_⟩
      by_cases e : q = p
      · subst e
        exact Or.inr ⟨u, h1, Or.inl h2, fun w g => g.elim (h3 w) (fun g => by omega), h4⟩
      · rcases h q hq with ⟨k1, k2⟩ | ⟨x, k1, k2, k3, k4⟩
        · exact Or.inl ⟨fun w g => g.elim (k1 w) (fun g => e g.1), k2⟩
        · exact Or.inr ⟨x, k1, Or.inl k2, fun w g => g.elim (k3 w) (fun g => absurd g.1 e), k4⟩
    · rw [if_neg (nI_ge (by omega) (by omega))]
      exact ⟨_, rfl, put (fun w g => by have := h3 w g; omega)⟩
theorem gl_in {n t : Nat} {r : RT} (V : VR n t r) (pl ba ld : Int32) {k : Nat} (hk : k + 1 < 2 ^ 31) {lt : AR} {a u : Nat} (ha : a < 19) (hu : u < 500) (hl : lt a = nI u) (K : AR → Option (AR × AR)) : ∀ d b fuel : Nat, b + d = 19 → d < fuel → ∀ (C : Nat → Nat → Prop) (th : AR), LMP C th → ∃ th', fX4_goesOnLeaping_L33 ba lt pl r ld (nI k) (nI a) K fuel (nI b) th = K th' ∧ LMP (fun q w => C q w ∨ (b ≤ q ∧ q < 19 ∧ ((stayE r ba ld k a q = true ∧ w = u) ∨ (leapE n r t pl ba ld k a q = true ∧ w = u + 1)))) th' := by
  intro d
  induction d with
  | zero =>
    intro b fuel hb hf C th h
    obtain ⟨fuel, rfl⟩ : ∃ q, fuel = q + 1 := ⟨fuel - 1, by omega⟩
    refine ⟨th, by rw [fX4_goesOnLeaping_L33, if_pos (g_le (n := 19) (by omega) (by omega))], h.congr (fun p hp v => ⟨Or.inl, fun g => g.elim id (fun g => by omega)⟩)⟩
  | succ d ih =>
    intro b fuel hb hf C th h
    obtain ⟨fuel, rfl⟩ : ∃ q, fuel = q + 1 := ⟨fuel - 1, by omega⟩
    rw [fX4_goesOnLeaping_L33, if_neg (g_ge (n := 19) (by omega) (by decide)), ck19 ha, cl19 ha, hl, if_neg (nI_pos (by omega)), mayStay_e r ba ld ha (by omega) hk, bd_s, mayLeap_e V pl ba ld ha (by omega) hk]
    simp only [if_bI, ck19 ha, bd_s, nI1]
    dsimp only [jn]
    have second : ∀ (C1 : Nat → Nat → Prop) (th1 : AR), LMP C1 th1 → (∀ q w, C1 q w ↔ (C q w ∨ (q = b ∧ stayE r ba ld k a b = true ∧ w = u))) → ∃ th', (if leapE n r t pl ba ld k a b = true then bd (fX4_lowers (nI b) (nI (u + 1)) th1) (fun (q96 : AR) => fX4_goesOnLeaping_L33 ba lt pl r ld (nI k) (nI a) K fuel (nI (b + 1)) q96) else fX4_goesOnLeaping_L33 ba lt pl r ld (nI k) (nI a) K fuel (nI (b + 1)) th1) = K th' ∧ LMP (fun q w => C q w ∨ (b ≤ q ∧ q < 19 ∧ ((stayE r ba ld k a q = true ∧ w = u) ∨ (leapE n r t pl ba ld k a q = true ∧ w = u + 1)))) th' := by
      intro C1 th1 h1 hC1
      by_cases cl : leapE n r t pl ba ld k a b = true
      · rw [if_pos cl]
        obtain ⟨th2, e2, h2⟩ := lowers_e h1 (show b < 19 by omega) (show u + 1 < 1000 by omega)
        rw [e2, bd_s]
        obtain ⟨th', e3, h3⟩ := ih (b + 1) fuel (by omega) (by omega) _ th2 h2
        refine ⟨th', e3, h3.congr (fun p hp v => ?_)⟩
        rw [hC1 p v]
        constructor
        · rintro (((g | ⟨g1, g2, g3⟩) | ⟨g1, g2⟩) | ⟨g1, g2, g3⟩)
          · exact Or.inl g
          · exact Or.inr ⟨by omega, hp, Or.inl ⟨by rw [g1]; exact g2, g3⟩⟩
          · exact Or.inr ⟨by omega, hp, Or.inr ⟨by rw [g1]; exact cl, g2⟩⟩
          · exact Or.inr ⟨by omega, hp, g3⟩
        · rintro (g | ⟨g1, g2, g3⟩)
          · exact Or.inl (Or.inl (Or.inl g))
          · by_cases e : p = b
            · subst e
              rcases g3 with ⟨g3, g4⟩ | ⟨g3, g4⟩
              · exact Or.inl (Or.inl (Or.inr ⟨rfl, g3, g4⟩))
              · exact Or.inl (Or.inr ⟨rfl, g4⟩)
            · exact Or.inr ⟨by omega, hp, g3⟩
      · rw [if_neg cl]
        obtain ⟨th', e3, h3⟩ := ih (b + 1) fuel (by omega) (by omega) _ th1 h1
        refine ⟨th', e3, h3.congr (fun p hp v => ?_)⟩
        rw [hC1 p v]
        constructor
        · rintro ((g | ⟨g1, g2, g3⟩) | ⟨g1, g2, g3⟩)
          · exact Or.inl g
          · exact Or.inr ⟨by omega, hp, Or.inl ⟨by rw [g1]; exact g2, g3⟩⟩
          · exact Or.inr ⟨by omega, hp, g3⟩
        · rintro (g | ⟨g1, g2, g3⟩)
          · exact Or.inl (Or.inl g)
          · by_cases e : p = b
            · subst e
              rcases g3 with ⟨g3, g4⟩ | ⟨g3, g4⟩
              · exact Or.inl (Or.inr ⟨rfl, g3, g4⟩)
              · exact absurd g3 cl
            · exact Or.inr ⟨by omega, hp, g3⟩
    by_cases cs : stayE r ba ld k a b = true
    · rw [if_pos cs]
      obtain ⟨th1, e1, h1⟩ := lowers_e h (show b < 19 by omega) (show u < 1000 by omega)
      rw [e1, bd_s]
      exact second _ th1 h1 (fun q w => ⟨fun g => g.elim Or.inl (fun g => Or.inr ⟨g.1, cs, g.2⟩), fun g => g.elim Or.inl (fun g => Or.inr ⟨g.1, g.2.2⟩)⟩)
    · rw [if_neg cs]
      exact second C th h (fun q w => ⟨Or.inl, fun g => g.elim id (fun g => absurd g.2.1 cs)⟩)
/-- what one minute gives: from where, and with how many leaps -/
def cand (n : Nat) (r : RT) (t : Nat) (pl ba ld : Int32) (k : Nat) (B : Nat → Nat → Prop) (lo hi : Nat) (q w : Nat) : Prop := ∃ a u, lo ≤ a ∧ a < hi ∧ B a u ∧ (∀ x, B a x → u ≤ x) ∧ ((stayE r ba ld k a q = true ∧ w = u) ∨ (leapE n r t pl ba ld k a q = true ∧ w = u + 1))
theorem gl_out {n t : Nat} {r : RT} (V : VR n t r) (pl ba ld : Int32) {k : Nat} (hk : k + 1 < 2 ^ 31) {lt : AR} {B : Nat → Nat → Prop} (hB : LMP B lt) (hb5 : ∀ a u, B a u → u < 500) (K : AR → Option (AR × AR)) : ∀ d a fuel : Nat, a + d = 19 → d < fuel → ∀ (C : Nat → Nat → Prop) (th : AR), LMP C th → ∃ th', fX4_goesOnLeaping_L24 ba lt pl r ld (nI k) K fuel (nI a) th = K th' ∧ LMP (fun q w => C q w ∨ cand n r t pl ba ld k B a 19 q w) th' := by
  intro d
  induction d with
  | zero =>
    intro a fuel ha hf C th h
    obtain ⟨fuel, rfl⟩ : ∃ q, fuel = q + 1 := ⟨fuel - 1, by omega⟩
    refine ⟨th, by rw [fX4_goesOnLeaping_L24, if_pos (g_le (n := 19) (by omega) (by omega))], h.congr (fun p hp v => ⟨Or.inl, fun g => g.elim id (fun ⟨x, y, z1, z2, _⟩ => by omega)⟩)⟩
  | succ d ih =>
    intro a fuel ha hf C th h
    obtain ⟨fuel, rfl⟩ : ∃ q, fuel = q + 1 := ⟨fuel - 1, by omega⟩
    rw [fX4_goesOnLeaping_L24, if_neg (g_ge (n := 19) (by omega) (by decide)), nI1]
    rcases hB a (by omega) with ⟨h1, h2⟩ | ⟨u, h1, h2, h3, h4⟩
    · rw [show (400 : Nat) = 399 + 1 from rfl, fX4_goesOnLeaping_L33, if_neg (by decide : ¬ (19 : Int32) ≤ 0), ck19 (by omega), cl19 (by omega), h2, if_pos (by decide)]
      obtain ⟨th', e3, g3⟩ := ih (a + 1) fuel (by omega) (by omega) C th h
      refine ⟨th', e3, g3.congr (fun p hp v => or_congr Iff.rfl ?_)⟩
      constructor
      · rintro ⟨x, y, z1, z2, z3⟩; exact ⟨x, y, by omega, z2, z3⟩
      · rintro ⟨x, y, z1, z2, z3, z4⟩
        by_cases e : x = a
        · subst e; exact absurd z3 (h1 y)
        · exact ⟨x, y, by omega, z2, z3, z4⟩
    · obtain ⟨th1, e1, g1⟩ := gl_in V pl ba ld hk (show a < 19 by omega) (hb5 a u h2) h4 (fun (k33_leapsThen : AR) => fX4_goesOnLeaping_L24 ba lt pl r ld (nI k) K fuel (nI (a + 1)) k33_leapsThen) 19 0 400 rfl (by decide) C th h
      rw [show (0 : Int32) = nI 0 from rfl, e1]
      obtain ⟨th', e3, g3⟩ := ih (a + 1) fuel (by omega) (by omega) _ th1 g1
      refine ⟨th', e3, g3.congr (fun p hp v => ?_)⟩
      constructor
      · rintro ((g | ⟨_, _, g⟩) | ⟨x, y, z1, z2, z3⟩)
        · exact Or.inl g
        · exact Or.inr ⟨a, u, Nat.le_refl a, by omega, h2, h3, g⟩
        · exact Or.inr ⟨x, y, by omega, z2, z3⟩
      · rintro (g | ⟨x, y, z1, z2, z3, z4, z5⟩)
        · exact Or.inl (Or.inl g)
        · by_cases e : x = a
          · subst e
            have : y = u := Nat.le_antisymm (z4 u h2) (h3 y z3)
            subst this
            exact Or.inl (Or.inr ⟨by omega, hp, z5⟩)
          · exact Or.inr ⟨x, y, by omega, z2, z3, z4, z5⟩
theorem gl_fill (K : AR → Option (AR × AR)) : ∀ d p fuel : Nat, p + d = 19 → d < fuel → ∀ th : AR, (∀ q, q < p → th q = -9) → ∃ th', fX4_goesOnLeaping_L2 K fuel (nI p) th = K th' ∧ ∀ q, q < 19 → th' q = -9 := by
  intro d
  induction d with
  | zero =>
    intro p fuel hp hf th h
    obtain ⟨fuel, rfl⟩ : ∃ q, fuel = q + 1 := ⟨fuel - 1, by omega⟩
    exact ⟨th, by rw [fX4_goesOnLeaping_L2, if_pos (g_le (n := 19) (by omega) (by omega))], fun q hq => h q (by omega)⟩
  | succ d ih =>
    intro p fuel hp hf th h
    obtain ⟨fuel, rfl⟩ : ∃ q, fuel = q + 1 := ⟨fuel - 1, by omega⟩
    rw [fX4_goesOnLeaping_L2, if_neg (g_ge (n := 19) (by omega) (by decide)), ck19 (by omega), cl19 (by omega), nI1]
    refine ih (p + 1) fuel (by omega) (by omega) _ (fun q hq => ?_)
    by_cases e : q = p
    · subst e; exact upd_s _ _ _
    · rw [upd_n _ _ e]; exact h q (by omega)
theorem gl_copy (th : AR) (K : AR → Option (AR × AR)) : ∀ d p fuel : Nat, p + d = 19 → d < fuel → ∀ lt : AR, (∀ q, q < p → lt q = th q) → ∃ lt', fX4_goesOnLeaping_L113 th K fuel (nI p) lt = K lt' ∧ ∀ q, q < 19 → lt' q = th q := by
  intro d
  induction d with
  | zero =>
    intro p fuel hp hf lt h
    obtain ⟨fuel, rfl⟩ : ∃ q, fuel = q + 1 := ⟨fuel - 1, by omega⟩
    exact ⟨lt, by rw [fX4_goesOnLeaping_L113, if_pos (g_le (n := 19) (by omega) (by omega))], fun q hq => h q (by omega)⟩
  | succ d ih =>
    intro p fuel hp hf lt h
    obtain ⟨fuel, rfl⟩ : ∃ q, fuel = q + 1 := ⟨fuel - 1, by omega⟩
    rw [fX4_goesOnLeaping_L113, if_neg (g_ge (n := 19) (by omega) (by decide)), ck19 (by omega), ck19 (by omega), cl19 (by omega), nI1]
    refine ih (p + 1) fuel (by omega) (by omega) _ (fun q hq => ?_)
    by_cases e : q = p
    · subst e; exact upd_s _ _ _
    · rw [upd_n _ _ e]; exact h q (by omega)
theorem goesOnLeaping_e {n t : Nat} {r : RT} (V : VR n t r) (pl ba ld : Int32) {k : Nat} (hk : k + 1 < 2 ^ 31) {lt : AR} {B : Nat → Nat → Prop} (hB : LMP B lt) (hb5 : ∀ a u, B a u → u < 500) (th : AR) : ∃ lt' th', fX4_goesOnLeaping ld (nI k) r pl ba lt th = some (lt', th') ∧ LMP (cand n r t pl ba ld k B 0 19) lt' := by
  unfold fX4_goesOnLeaping
  obtain ⟨th1, e1, g1⟩ := gl_fill (fun (k2_leapsThen : AR) => fX4_goesOnLeaping_L24 ba lt pl r ld (nI k) (fun (k24_leapsThen : AR) => fX4_goesOnLeaping_L113 k24_leapsThen (fun (k113_leapsTo : AR) => some (k113_leapsTo, k24_leapsThen)) 400 (0 : Int32) lt) 400 (0 : Int32) k2_leapsThen) 19 0 400 rfl (by decide) th (fun q hq => by omega)
  rw [show (0 : Int32) = nI 0 from rfl] at e1 ⊢
  rw [e1]
  obtain ⟨th2, e2, g2⟩ := gl_out V pl ba ld hk hB hb5 (fun (k24_leapsThen : AR) => fX4_goesOnLeaping_L113 k24_leapsThen (fun (k113_leapsTo : AR) => some (k113_leapsTo, k24_leapsThen)) 400 (nI 0) lt) 19 0 400 rfl (by decide) (fun _ _ => False) th1 (fun p hp => Or.inl ⟨fun _ g => g, g1 p hp⟩)
  rw [e2]
  obtain ⟨lt', e3, g3⟩ := gl_copy th2 (fun (k113_leapsTo : AR) => some (k113_leapsTo, th2)) 19 0 400 rfl (by decide) lt (fun q hq => by omega)
  refine ⟨lt', th2, e3, fun p hp => ?_⟩
  rw [g3 p hp]
  have := g2.congr (C' := cand n r t pl ba ld k B 0 19) (fun p hp v => ⟨fun g => g.elim (fun g => g.elim) id, Or.inr⟩)
  exact this p hp
theorem cand_AL {n t : Nat} {r : RT} (pl ba ld : Int32) (s c m : Nat) {lt : AR} (h : LMP (cand n r t pl ba ld (s + m) (fun p v => AL n r t pl ba ld s c m v p = true) 0 19) lt) : LMP (fun p v => AL n r t pl ba ld s c (m + 1) v p = true) lt := by
  -- every number of leaps is one of the candidates' or more
  have low : ∀ p v, AL n r t pl ba ld s c (m + 1) v p = true → ∃ w, w ≤ v ∧ cand n r t pl ba ld (s + m) (fun p v => AL n r t pl ba ld s c m v p = true) 0 19 p w := by
    intro p v hv
    have get : ∀ a x, a < 19 → AL n r t pl ba ld s c m x a = true → ∃ u, u ≤ x ∧ AL n r t pl ba ld s c m u a = true ∧ ∀ y, AL n r t pl ba ld s c m y a = true → u ≤ y := by
      intro a x _ hx
      obtain ⟨u, h1, h2⟩ := pk_least (fun u => AL n r t pl ba ld s c m u a = true) ⟨x, hx⟩
      refine ⟨u, ?_, h1, fun y hy => ?_⟩
      · rcases Nat.lt_or_ge x u with q | q
        · exact absurd hx (h2 x q)
        · exact q
      · rcases Nat.lt_or_ge y u with q | q
        · exact absurd hy (h2 y q)
        · exact q
    cases v with
    | zero =>
      obtain ⟨a, h1, h2, h3⟩ := stepQ_iff.mp hv
      obtain ⟨u, g1, g2, g3⟩ := get a 0 h1 h2
      exact ⟨u, g1, a, u, Nat.zero_le a, h1, g2, g3, Or.inl ⟨h3, rfl⟩⟩
    | succ v =>
      rcases Bool.or_eq_true_iff.mp hv with hv | hv
      · obtain ⟨a, h1, h2, h3⟩ := stepQ_iff.mp hv
        obtain ⟨u, g1, g2, g3⟩ := get a (v + 1) h1 h2
        exact ⟨u, g1, a, u, Nat.zero_le a, h1, g2, g3, Or.inl ⟨h3, rfl⟩⟩
      · obtain ⟨a, h1, h2, h3⟩ := stepQ_iff.mp hv
        obtain ⟨u, g1, g2, g3⟩ := get a v h1 h2
        exact ⟨u + 1, by omega, a, u, Nat.zero_le a, h1, g2, g3, Or.inr ⟨h3, rfl⟩⟩
  have up : ∀ p v, cand n r t pl ba ld (s + m) (fun p v => AL n r t pl ba ld s c m v p = true) 0 19 p v → AL n r t pl ba ld s c (m + 1) v p = true := by
    rintro p v ⟨a, u, _, h1, h2, _, ⟨h3, h4⟩ | ⟨h3, h4⟩⟩
    · subst h4
      cases v with
      | zero => exact stepQ_iff.mpr ⟨a, h1, h2, h3⟩
      | succ v => exact Bool.or_eq_true_iff.mpr (Or.inl (stepQ_iff.mpr ⟨a, h1, h2, h3⟩))
    · subst h4
      exact Bool.or_eq_true_iff.mpr (Or.inr (stepQ_iff.mpr ⟨a, h1, h2, h3⟩))
  intro p hp
  rcases h p hp with ⟨h1, h2⟩ | ⟨v, h1, h2, h3, h4⟩
  · refine Or.inl ⟨fun v g => ?_, h2⟩
    obtain ⟨w, _, hw⟩ := low p v g
    exact h1 w hw
  · refine Or.inr ⟨v, h1, up p v h2, fun w g => ?_, h4⟩
    obtain ⟨x, hx, gx⟩ := low p w g
    exact Nat.le_trans (h3 x gx) hx
theorem lt_run {n t : Nat} {r : RT} (V : VR n t r) (pl ba ld : Int32) (c : Nat) (K : AR → AR → Option (Int32 × AR × AR × AR)) : ∀ d m fuel : Nat, m + d = 40 → d < fuel → ∀ lt th : AR, LMP (fun p v => AL n r t pl ba ld t c m v p = true) lt → ∃ lt' th', fX4_leaps_L54 ba pl r ld K fuel (nI m) lt th = K lt' th' ∧ LMP (fun p v => AL n r t pl ba ld t c 40 v p = true) lt' := by
  intro d
  induction d with
  | zero =>
    intro m fuel hm hf lt th h
    obtain ⟨fuel, rfl⟩ : ∃ q, fuel = q + 1 := ⟨fuel - 1, by omega⟩
    refine ⟨lt, th, by rw [fX4_leaps_L54, if_pos (g_le (n := 40) (by omega) (by omega))], ?_⟩
    rw [show m = 40 by omega] at h
    exact h
  | succ d ih =>
    intro m fuel hm hf lt th h
    obtain ⟨fuel, rfl⟩ : ∃ q, fuel = q + 1 := ⟨fuel - 1, by omega⟩
    have ht := V.2.1
    obtain ⟨lt1, th1, e1, g1⟩ := goesOnLeaping_e V pl ba ld (show t + m + 1 < 2 ^ 31 by omega) h (fun a u g => by
      rcases Nat.lt_or_ge u 500 with q | q
      · exact q
      · rw [AL_big n r t pl ba ld t c m u (by omega) a] at g; cases g) th
    rw [fX4_leaps_L54, if_neg (g_ge (n := 40) (by omega) (by decide)), V.2.2.2.1, nI_add, e1, bd_s, nI1]
    exact ih (m + 1) fuel (by omega) (by omega) lt1 th1 (cand_AL pl ba ld t c m g1)
theorem lt_start {c : Nat} (K : AR → Option (Int32 × AR × AR × AR)) (hc : c < 10) : ∀ d p fuel : Nat, p + d = 19 → d < fuel → ∀ lt : AR, (∀ q, q < p → lt q = if q = c then 0 else -9) → ∃ lt', fX4_leaps_L19 (nI c) K fuel (nI p) lt = K lt' ∧ ∀ q, q < 19 → lt' q = if q = c then 0 else -9 := by
  intro d
  induction d with
  | zero =>
    intro p fuel hp hf lt h
    obtain ⟨fuel, rfl⟩ : ∃ q, fuel = q + 1 := ⟨fuel - 1, by omega⟩
    exact ⟨lt, by rw [fX4_leaps_L19, if_pos (g_le (n := 19) (by omega) (by omega))], fun q hq => h q (by omega)⟩
  | succ d ih =>
    intro p fuel hp hf lt h
    obtain ⟨fuel, rfl⟩ : ∃ q, fuel = q + 1 := ⟨fuel - 1, by omega⟩
    rw [fX4_leaps_L19, if_neg (g_ge (n := 19) (by omega) (by decide)), jn_it, ck19 (by omega), cl19 (by omega), nI1]
    refine ih (p + 1) fuel (by omega) (by omega) _ (fun q hq => ?_)
    by_cases e : q = p
    · subst e
      rw [upd_s]
      by_cases e2 : q = c
      · rw [if_pos (congrArg nI e2), if_pos e2]
      · rw [if_neg (by rw [nI_eq (by omega) (by omega)]; exact e2), if_neg e2]
    · rw [upd_n _ _ e]; exact h q (by omega)
theorem leaps_m {n t : Nat} {r : RT} (V : VR n t r) (pl ba ld : Int32) {c : Nat} (hc : c < 10) (rf lt th : AR) : ∃ lt' th', (fX4_leaps_L19 (nI c) (fun (k19_leapsTo : AR) => fX4_leaps_L54 ba pl r ld (fun (k54_leapsTo : AR) (k54_leapsThen : AR) => ck (18 : Int32) 19 (some ((k54_leapsTo ((18 : Int32)).toNatClampNeg), rf, k54_leapsTo, k54_leapsThen))) 400 (0 : Int32) k19_leapsTo th) 400 (0 : Int32) lt) = some (LV n r t pl ba ld t c, rf, lt', th') := by
  obtain ⟨lt1, e1, g1⟩ := lt_start (fun (k19_leapsTo : AR) => fX4_leaps_L54 ba pl r ld (fun (k54_leapsTo : AR) (k54_leapsThen : AR) => ck (18 : Int32) 19 (some ((k54_leapsTo ((18 : Int32)).toNatClampNeg), rf, k54_leapsTo, k54_leapsThen))) 400 (0 : Int32) k19_leapsTo th) hc 19 0 400 rfl (by decide) lt (fun q hq => by omega)
  rw [show (0 : Int32) = nI 0 from rfl] at e1 ⊢
  rw [e1]
  obtain ⟨lt2, th2, e2, g2⟩ := lt_run V pl ba ld c (fun (k54_leapsTo : AR) (k54_leapsThen : AR) => ck (18 : Int32) 19 (some ((k54_leapsTo ((18 : Int32)).toNatClampNeg), rf, k54_leapsTo, k54_leapsThen))) 40 0 400 rfl (by decide) lt1 th (fun p hp => by
    rw [g1 p hp]
    by_cases e : p = c
    · right
      rw [if_pos e]
      exact ⟨0, by omega, by subst e; exact decide_eq_true rfl, fun _ _ => Nat.zero_le _, rfl⟩
    · left
      rw [if_neg e]
      refine ⟨fun v => ?_, rfl⟩
      cases v with
      | zero => exact fun g => e (of_decide_eq_true g)
      | succ v => exact fun g => by cases g)
  rw [e2]
  refine ⟨lt2, th2, ?_⟩
  rw [show (18 : Int32) = nI 18 from rfl, ck19 (by omega), cl19 (by omega)]
  have : lt2 18 = LV n r t pl ba ld t c := by
    unfold LV
    rcases g2 18 (by omega) with ⟨h1, h2⟩ | ⟨v, h1, h2, h3, h4⟩
    · rw [h2, lvS_0]
      intro j _ _
      exact Bool.eq_false_iff.mpr (h1 j)
    · rw [h4]
      refine (lvS_s (fun k => AL n r t pl ba ld t c 40 k 18) (v := v) h2 41 0 (Nat.zero_le v) ?_ (fun j _ g => ?_)).symm
      · rcases Nat.lt_or_ge v 41 with q | q
        · omega
        · rw [AL_big n r t pl ba ld t c 40 v (by omega) 18] at h2; cases h2
      · rw [Bool.eq_false_iff]
        intro g2
        have := h3 j g2
        omega
  rw [this]
