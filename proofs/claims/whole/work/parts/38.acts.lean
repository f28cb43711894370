/-! ===== crossings told: judge, ends ===== -/
theorem step1 (E : Nat → Nat → Bool) {a : Nat} (ha : a < 19) (b : Nat) : stepQ E (at1 a) b = E a b := by
  rw [Bool.eq_iff_iff, stepQ_iff]
  constructor
  · rintro ⟨a', h1, h2, h3⟩
    have : a' = a := of_decide_eq_true h2
    subst this; exact h3
  · intro h
    exact ⟨a, ha, decide_eq_true rfl, h⟩
/-- the number of a place's bit -/
def pn (b : Nat) : Nat := if b < 10 then 10 + b else if b = 18 then 8 else b - 10
theorem pn_lt {b : Nat} (h : b < 19) : pn b < 20 := by unfold pn; split <;> (try split) <;> omega
theorem at1_bit {b : Nat} (hb : b < 19) {x : Int32} (h : XS (at1 b) x) : ∀ i, i < 32 → bt x i = decide (i = pn b) := by
  refine bit_cases (fun j hj => ?_) ?_ (fun c hc => ?_) (fun i h1 hi => ?_)
  · rw [h j (by omega), plc_f _ hj]; unfold at1 pn
    rw [Bool.eq_iff_iff, decide_eq_true_iff, decide_eq_true_iff]
    split <;> (try split) <;> omega
  · rw [h 8 (by omega), plc_n]; unfold at1 pn
    rw [Bool.eq_iff_iff, decide_eq_true_iff, decide_eq_true_iff]
    split <;> (try split) <;> omega
  · rw [h (10 + c) (by omega), plc_s _ hc]; unfold at1 pn
    rw [Bool.eq_iff_iff, decide_eq_true_iff, decide_eq_true_iff]
    split <;> (try split) <;> omega
  · rw [h i hi, plc_o _ h1, Bool.eq_iff_iff, decide_eq_true_iff]
    have := pn_lt hb
    unfold pn at this ⊢
    constructor
    · intro h; cases h
    · intro h; exfalso; split at h <;> (try split at h) <;> omega
theorem at1_ne {b : Nat} (hb : b < 19) {x : Int32} (h : XS (at1 b) x) : ¬ x = 0 := by
  rw [ne0]
  have := pn_lt hb
  exact ⟨pn b, by omega, by rw [at1_bit hb h _ (by omega), decide_eq_true rfl]⟩
theorem XS_nil {x : Int32} (h : XS (fun _ => false) x) : x = 0 := by
  apply b_ext
  intro i hi
  rw [h i hi, b_0]
  unfold plc
  split
  · rfl
  · split
    · rfl
    · split <;> rfl
theorem XS_sel {b0 : Nat} {c : Bool} {x : Int32} {S : Nat → Bool} (h : XS S x) (e : ∀ b, b < 19 → S b = (at1 b0 b && c)) : (c = true ∧ XS (at1 b0) x) ∨ (c = false ∧ x = 0) := by
  cases c with
  | true => exact Or.inl ⟨rfl, h.congr (fun b hb => by rw [e b hb, Bool.and_true])⟩
  | false => exact Or.inr ⟨rfl, XS_nil (h.congr (fun b hb => by rw [e b hb, Bool.and_false]))⟩
theorem XS.and {Q : Nat → Bool} {x : Int32} (h : XS Q x) (m : Int32) (M : Nat → Bool) (hm : ∀ i, i < 20 → bt m i = plc M i) : XS (fun b => Q b && M b) (x &&& m) := by
  refine bit_cases (fun j hj => ?_) ?_ (fun c hc => ?_) (fun i h1 hi => ?_)
  · rw [b_and, h j (by omega), hm j (by omega), plc_f _ hj, plc_f _ hj, plc_f _ hj]
  · rw [b_and, h 8 (by omega), hm 8 (by omega), plc_n, plc_n, plc_n]
  · rw [b_and, h (10 + c) (by omega), hm (10 + c) (by omega), plc_s _ hc, plc_s _ hc, plc_s _ hc]
  · rw [b_and, h i hi, plc_o _ h1, plc_o _ h1]; rfl
/-- where an act leads, on both sides -/
def Leads (n : Nat) (q w : Int32) : Prop := (q = 0 ∧ w = -9) ∨ ∃ b, b < 19 ∧ XS (at1 b) q ∧ w = nI b ∧ good n (at1 b)
theorem good_a {n b : Nat} (h : 10 ≤ b → b < 18 → b - 10 < n) : good n (at1 b) := fun j h1 h2 => decide_eq_false (by omega)
theorem round_t : ∀ a, a < 10 → rnd (nI a + (-1)) = nI ((a + 9) % 10) ∧ rnd (nI a + 1) = nI ((a + 1) % 10) := by decide +kernel
theorem isIn18 : fX4_isIn (18 : Int32) (10 : Int32) (17 : Int32) = some 0 := by decide
theorem act_e {n t : Nat} {r : RT} (V : VR n t r) (ld : Int32) {k : Nat} (hk : k + 1 < 2 ^ 31) {la sp : AR} {st : Int32} (L : LK n r t 0 0 ld k la sp st) {a : Nat} (ha : a < 19) (G : good n (at1 a)) {x : Int32} (hx : XS (at1 a) x) {v : Nat} (hv : v ≤ 12) : ∃ q w, fX2_placeBehindAct x (nI v) la sp st r = some q ∧ fX4_leadsTo (nI v) (nI a) ld (nI k) r 0 0 = some w ∧ Leads n q w := by
  have ht := V.2.1
  have hn := V.1
  have hfl : 10 ≤ a → a < 18 → a - 10 < n := by
    intro h1 h2
    rcases Nat.lt_or_ge (a - 10) n with h | h
    · exact h
    · have := G (a - 10) h (by omega)
      unfold at1 at this
      rw [decide_eq_true (by omega)] at this
      cases this
  unfold fX2_placeBehindAct fX4_leadsTo
  by_cases c18 : a = 18
  · have e : x = (256 : Int32) := b_ext (fun i hi => by
      rw [at1_bit ha hx i hi, b256 i hi, c18]; rfl)
    rw [if_pos e, if_pos (g_eq (n := 18) c18)]
    exact ⟨0, -9, rfl, rfl, Or.inl ⟨rfl, rfl⟩⟩
  · have e : ¬ x = (256 : Int32) := by
      intro e
      have h8 := at1_bit ha hx 8 (by omega)
      rw [e, b256 8 (by omega), decide_eq_true rfl] at h8
      have := of_decide_eq_true h8.symm
      unfold pn at this
      split at this
      · omega
      · omega
    rw [if_neg e, if_neg (g_ne (n := 18) c18 (by omega) (by decide))]
    obtain ⟨v2, e2, x2⟩ := leaped_e V L G hx
    have x2' : XS (fun b => leapE n r t 0 0 ld k a b) v2 := x2.congr (fun b _ => step1 _ ha b)
    by_cases c9 : v = 9
    · rw [if_pos (g_eq (n := 9) c9), if_pos (g_eq (n := 9) c9)]
      obtain ⟨q, e1, x1⟩ := stayed_e L G hx
      rw [e1, bd_s, mayStay_e r 0 ld ha ha hk, bd_s, if_bI]
      rcases XS_sel (b0 := a) (c := stayE r 0 ld k a a) x1 (fun b _ => by
        by_cases q : b = a
        · subst q; unfold stayE; rw [if_pos rfl]
        · unfold at1; rw [decide_eq_false q]; rfl) with ⟨h1, h2⟩ | ⟨h1, h2⟩
      · rw [h1, if_pos rfl]
        exact ⟨q, nI a, rfl, rfl, Or.inr ⟨a, ha, h2, rfl, G⟩⟩
      · rw [h1, if_neg (by decide)]
        exact ⟨q, -9, rfl, rfl, Or.inl ⟨h2, rfl⟩⟩
    rw [if_neg (g_ne (n := 9) c9 (by omega) (by decide)), if_neg (g_ne (n := 9) c9 (by omega) (by decide))]
    dsimp only [jn]
    by_cases c10 : v = 10
    · rw [if_pos (g_eq (n := 10) c10), if_pos (g_eq (n := 10) c10)]
      obtain ⟨q, e1, x1⟩ := wless_e hx
      rw [e1, bd_s]
      by_cases d : a < 10
      · rw [if_neg (g_ge (n := 10) d (by decide)), if_pos (g_eq (n := 10) c10), round_e, bd_s, (round_t a d).1]
        refine ⟨q, _, rfl, rfl, Or.inr ⟨(a + 9) % 10, by omega, x1.congr (fun b hb => ?_), rfl, good_a (by omega)⟩⟩
        unfold at1
        rw [Bool.eq_iff_iff, Bool.and_eq_true_iff, decide_eq_true_iff, decide_eq_true_iff, decide_eq_true_iff]
        omega
      · rw [if_pos (g_le (n := 10) (by omega) (by omega))]
        refine ⟨q, -9, rfl, rfl, Or.inl ⟨XS_nil (x1.congr (fun b hb => ?_)), rfl⟩⟩
        unfold at1
        rw [decide_eq_false (show ¬ (b + 1) % 10 = a by omega), Bool.and_false]
    rw [if_neg (g_ne (n := 10) c10 (by omega) (by decide)), if_neg (g_ne (n := 10) c10 (by omega) (by decide))]
    by_cases c11 : v = 11
    · rw [if_pos (g_eq (n := 11) c11), if_pos (g_eq (n := 11) c11)]
      obtain ⟨q, e1, x1⟩ := wgreater_e hx
      rw [e1, bd_s]
      by_cases d : a < 10
      · rw [if_neg (g_ge (n := 10) d (by decide)), if_neg (g_ne (n := 10) c10 (by omega) (by decide)), round_e, bd_s, (round_t a d).2]
        refine ⟨q, _, rfl, rfl, Or.inr ⟨(a + 1) % 10, by omega, x1.congr (fun b hb => ?_), rfl, good_a (by omega)⟩⟩
        unfold at1
        rw [Bool.eq_iff_iff, Bool.and_eq_true_iff, decide_eq_true_iff, decide_eq_true_iff, decide_eq_true_iff]
        omega
      · rw [if_pos (g_le (n := 10) (by omega) (by omega))]
        refine ⟨q, -9, rfl, rfl, Or.inl ⟨XS_nil (x1.congr (fun b hb => ?_)), rfl⟩⟩
        unfold at1
        rw [decide_eq_false (show ¬ (b + 9) % 10 = a by omega), Bool.and_false]
    rw [if_neg (g_ne (n := 11) c11 (by omega) (by decide)), if_neg (g_ne (n := 11) c11 (by omega) (by decide))]
    by_cases c12 : v = 12
    · have c8 : ¬ v = 8 := by omega
      rw [if_pos (g_eq (n := 12) c12), if_neg (g_ne (n := 8) c8 (by omega) (by decide)), e2, bd_s, if_pos (g_eq (n := 12) c12), isIn_e (by omega), bd_s, if_bI]
      have xs : XS (fun b => leapE n r t 0 0 ld k a b && decide (b < 10)) (v2 &&& (1047552 : Int32)) := x2'.and _ (fun b => decide (b < 10)) (fun i hi => by
        rw [b_1047552 i (by omega)]
        unfold plc
        rw [Bool.eq_iff_iff, decide_eq_true_iff]
        split
        · rw [decide_eq_true_iff]; omega
        · split
          · rw [decide_eq_true_iff]; omega
          · split
            · rw [decide_eq_true_iff]; omega
            · exact ⟨fun h => by omega, fun h => by cases h⟩)
      by_cases d : 10 ≤ a ∧ a < 18
      · rw [decide_eq_true d]
        simp only [if_true]
        obtain ⟨w, hw, ew⟩ := wh_in V 0 k (hfl d.1 d.2)
        rw [n10 d.1, whereIs_e V.2.2.2.1 (show t < 2 ^ 31 by omega) 0 (show a - 10 < 8 by omega) (show k < 2 ^ 31 by omega)]
        rw [show spv r (a - 10) (if bt 0 (a - 10) then t else k) = nI w from ew, bd_s, mayLeap_e V 0 0 ld ha (show w < 19 by omega) hk, bd_s, if_bI, if_pos (g_eq (n := 12) c12), if_neg (g_ge (n := 10) hw (by decide))]
        rcases XS_sel (b0 := w) (c := leapE n r t 0 0 ld k a w) xs (fun b _ => by
          by_cases q : b = w
          · subst q; unfold at1; rw [decide_eq_true rfl, decide_eq_true hw]; simp
          · unfold at1
            rw [decide_eq_false q, Bool.false_and]
            by_cases q2 : b < 10
            · unfold leapE
              rw [if_neg (by omega), if_pos d, if_neg (by omega), ew, decide_eq_false (show ¬ nI w = nI b by rw [nI_eq (by omega) (by omega)]; omega)]; simp
            · rw [decide_eq_false q2]; simp) with ⟨h1, h2⟩ | ⟨h1, h2⟩
        · rw [h1, if_pos rfl]
          exact ⟨_, nI w, rfl, rfl, Or.inr ⟨w, by omega, h2, rfl, good_a (by omega)⟩⟩
        · rw [h1, if_neg (by decide)]
          exact ⟨_, -9, rfl, rfl, Or.inl ⟨h2, rfl⟩⟩
      · rw [decide_eq_false d]
        simp only [Bool.false_eq_true, if_false]
        rw [show (18 : Int32) = nI 18 from rfl, mayLeap_e V 0 0 ld ha (show 18 < 19 by omega) hk, bd_s]
        have e0 : leapE n r t 0 0 ld k a 18 = false := by unfold leapE; rw [if_neg (by omega), if_neg d]
        rw [e0, if_pos (show bI false = 0 from rfl)]
        refine ⟨_, -9, rfl, rfl, Or.inl ⟨XS_nil (xs.congr (fun b hb => ?_)), rfl⟩⟩
        by_cases q2 : b < 10
        · unfold leapE; rw [if_neg (by omega), if_neg d]; rfl
        · rw [decide_eq_false q2]; simp
    simp only [if_neg (show ¬ nI v = (12 : Int32) from g_ne (n := 12) c12 (by omega) (by decide))]
    have hv8 : v ≤ 8 := by omega
    rw [if_neg (nI_pos (by omega)), if_neg (g_ngt (n := 8) hv8 (by decide)), e2, bd_s]
    -- the place that the act names
    have fin : ∀ b0, b0 < 19 → pn b0 = v → (b0 = 18 ∨ 10 ≤ b0) → ∃ q w, some (v2 &&& ((1 : Int32) <<< (nI v &&& 31))) = some q ∧ bd (fX4_mayLeap (nI a) (nI b0) ld (nI k) r 0 0) (fun (q132 : Int32) => if q132 = 0 then (some (-9 : Int32)) else (some (nI b0))) = some w ∧ Leads n q w := by
      intro b0 hb0 hpn hb1
      rw [mayLeap_e V 0 0 ld ha hb0 hk, bd_s, if_bI]
      have xs := x2'.and ((1 : Int32) <<< (nI v &&& 31)) (at1 b0) (fun i hi => by
        rw [sh1 (by omega) (by omega), ← hpn]
        unfold plc at1 pn
        rw [Bool.eq_iff_iff, decide_eq_true_iff]
        split
        · omega
        · split <;> split <;> (try split) <;> (try split) <;> (try rw [decide_eq_true_iff]) <;> first | omega | (exact ⟨fun h => by omega, fun h => by cases h⟩))
      rcases XS_sel (b0 := b0) (c := leapE n r t 0 0 ld k a b0) xs (fun b _ => by
        by_cases q : b = b0
        · subst q; rw [Bool.and_comm]
        · unfold at1; rw [decide_eq_false q]; simp) with ⟨h1, h2⟩ | ⟨h1, h2⟩
      · rw [h1, if_pos rfl]
        refine ⟨_, nI b0, rfl, rfl, Or.inr ⟨b0, hb0, h2, rfl, good_a (fun g1 g2 => ?_)⟩⟩
        unfold leapE at h1
        rw [if_pos ⟨g1, g2⟩] at h1
        simp only [Bool.and_eq_true_iff, decide_eq_true_iff] at h1
        exact h1.1.1
      · rw [h1, if_neg (by decide)]
        exact ⟨_, -9, rfl, rfl, Or.inl ⟨h2, rfl⟩⟩
    by_cases c8 : v = 8
    · rw [if_pos (g_eq (n := 8) c8)]
      exact fin 18 (by omega) (by rw [c8]; rfl) (Or.inl rfl)
    · rw [if_neg (g_ne (n := 8) c8 (by omega) (by decide)), show (10 : Int32) = nI 10 from rfl, nI_add]
      refine fin (10 + v) (by omega) ?_ (Or.inr (by omega))
      unfold pn
      rw [if_neg (by omega), if_neg (by omega)]; omega
/-- the row, act by act -/
theorem follow_e {n t : Nat} {r : RT} (V : VR n t r) (ld : Int32) {se : AR} {s : Nat} (hs : s ≤ 12) (hse : ∀ j, ∃ b, b ≤ 12 ∧ se j = nI b) : ∀ d i fuel fuel' : Nat, i + d = s → d < fuel → d < fuel' → ∀ (x : Int32) (la sp : AR) (st : Int32) (a : Nat), a < 19 → good n (at1 a) → XS (at1 a) x → ∃ (x' : Int32) (la' sp' : AR) (st' : Int32) (i' b : Nat), fX2_follow_L8 se 0 0 ld r (nI s) (fun (k8_4 : Int32) (k8_lanes : AR) (k8_spots : AR) (k8_strong : Int32) (k8_done : Int32) => some (k8_4, k8_lanes, k8_spots, k8_strong, k8_done)) fuel x la sp st (nI i) = some (x', la', sp', st', nI i') ∧ fX4_firstWrong_L7 0 0 r se (nI s) ld (fun (k7_endsAt : Int32) => some ((-9 : Int32), k7_endsAt)) fuel' (nI i) (nI a) = some (if i' < s then nI i' else -9, nI b) ∧ i' ≤ s ∧ b < 19 ∧ XS (at1 b) x' := by
  have ht := V.2.1
  intro d
  induction d with
  | zero =>
    intro i fuel fuel' hi hf hf' x la sp st a ha G hx
    obtain ⟨fuel, rfl⟩ : ∃ q, fuel = q + 1 := ⟨fuel - 1, by omega⟩
    obtain ⟨fuel', rfl⟩ : ∃ q, fuel' = q + 1 := ⟨fuel' - 1, by omega⟩
    refine ⟨x, la, sp, st, i, a, by rw [fX2_follow_L8, if_pos (nI_le (by omega) (by omega))], ?_, by omega, ha, hx⟩
    rw [fX4_firstWrong_L7, if_pos (nI_le (by omega) (by omega)), if_neg (by omega)]
  | succ d ih =>
    intro i fuel fuel' hi hf hf' x la sp st a ha G hx
    obtain ⟨fuel, rfl⟩ : ∃ q, fuel = q + 1 := ⟨fuel - 1, by omega⟩
    obtain ⟨fuel', rfl⟩ : ∃ q, fuel' = q + 1 := ⟨fuel' - 1, by omega⟩
    obtain ⟨la', sp', st', e1, L⟩ := look_e V 0 0 ld (show t + i + 1 < 2 ^ 31 by omega) la sp
    obtain ⟨v, hv, ev⟩ := hse i
    obtain ⟨q, w, e2, e3, hl⟩ := act_e V ld (show t + i + 1 < 2 ^ 31 by omega) L ha G hx hv
    rw [fX2_follow_L8, fX4_firstWrong_L7, if_neg (nI_ge (show i < s by omega) (by omega)), if_neg (nI_ge (show i < s by omega) (by omega)), if_neg (g_ge (n := 12) (by omega) (by decide)), V.2.2.2.1, nI_add, e1, bd_s, ck_n _ (show i < 12 by omega) (by decide), ck_n _ (show i < 12 by omega) (by decide), cl_n (by omega), ev]
    simp only
    rw [e2, bd_s, e3, bd_s]
    rcases hl with ⟨rfl, rfl⟩ | ⟨b, hb, hxb, rfl, Gb⟩
    · rw [if_pos rfl, if_neg (by decide)]
      exact ⟨x, la', sp', st', i, a, rfl, by rw [if_pos (by omega)], by omega, ha, hx⟩
    · rw [if_neg (at1_ne hb hxb), if_pos (nI_pos' (by omega)), nI1]
      exact ih (i + 1) fuel fuel' (by omega) (by omega) (by omega) q la' sp' st' b hb Gb hxb
theorem placeOf_in {b : Nat} (hb : b < 19) {x : Int32} (h : XS (at1 b) x) (K : Unit → Option Int32) : ∀ d k fuel : Nat, k + d = pn b → d < fuel → fX3_placeOf_L2 x K fuel (nI k) = some (nI (pn b)) := by
  have hp := pn_lt hb
  intro d
  induction d with
  | zero =>
    intro k fuel hk hf
    obtain ⟨fuel, rfl⟩ : ∃ q, fuel = q + 1 := ⟨fuel - 1, by omega⟩
    rw [fX3_placeOf_L2, if_neg (g_ge (n := 20) (by omega) (by decide)), bit x (by omega), at1_bit hb h k (by omega), decide_eq_true (by omega), if_pos (show bI true = 1 from rfl), show k = pn b by omega]
  | succ d ih =>
    intro k fuel hk hf
    obtain ⟨fuel, rfl⟩ : ∃ q, fuel = q + 1 := ⟨fuel - 1, by omega⟩
    rw [fX3_placeOf_L2, if_neg (g_ge (n := 20) (by omega) (by decide)), bit x (by omega), at1_bit hb h k (by omega), decide_eq_false (by omega), if_neg (by decide), nI1]
    exact ih (k + 1) fuel (by omega) (by omega)
theorem acts_c {n t : Nat} {r : RT} (V : VR n t r) (ld : Int32) {se : AR} {s : Nat} (hs : s ≤ 12) (hse : ∀ j, ∃ b, b ≤ 12 ∧ se j = nI b) {c : Nat} (hc : c < 10) (la sp : AR) (st : Int32) : ∃ (x' : Int32) (la' sp' : AR) (st' : Int32) (i' b : Nat), fX2_follow (nI s) ((1 : Int32) <<< (nI (10 + c) &&& 31)) la sp ld 0 0 st r se = some (x', la', sp', st', nI i') ∧ fX4_firstWrong ld (nI c) r 0 0 se (nI s) = some (if i' < s then nI i' else -9, nI b) ∧ i' ≤ s ∧ b < 19 ∧ XS (at1 b) x' :=
  follow_e V ld hs hse s 0 400 400 (by omega) (by omega) (by omega) _ la sp st c (by omega) (good_1 n hc) (XS_1 hc).2
theorem judge_p {n t : Nat} {r : RT} (V : VR n t r) (p1 p2 : Int32) (la sp : AR) (ld go he st dn : Int32) {se : AR} {s : Nat} (hs : s ≤ 12) (hse : ∀ j, ∃ b, b ≤ 12 ∧ se j = nI b) (refs : AR) (ea : Int32) : ∃ z la' sp' ld' go' he' st' dn' rf ea', fX3_judge p1 p2 la sp ld go he st dn r se refs (nI s) = some (z, la', sp', ld', go', he', st', dn', rf) ∧ fX4_judge p1 p2 r refs 0 0 se (nI s) ea = some (z, rf, ea') := by
  unfold fX3_judge fX4_judge
  rcases walker_c p1 p2 with ⟨h1, h2, ⟨c, hc, rfl⟩, -⟩ | ⟨w, hw, h1, h2⟩
  · rw [h1, h2, bd_s, bd_s, if_pos rfl, if_pos rfl]
    unfold fX2_begin
    rw [bd_s, (XS_1 hc).1, bd_s]
    simp only
    obtain ⟨x', la', sp', st', i', b, e1, e2, hi, hb, hx⟩ := acts_c V p1 hs hse hc la sp st
    rw [e1, bd_s, e2, bd_s]
    simp only
    by_cases q : i' < s
    · rw [if_neg (nI_ge q (by omega)), if_pos q]
      exact ⟨_, _, _, _, _, _, _, _, _, _, rfl, rfl⟩
    · rw [if_pos (nI_le (by omega) (by omega)), if_neg q]
      exact ⟨_, _, _, _, _, _, _, _, _, _, rfl, rfl⟩
  · rw [h1, h2, bd_s, bd_s, if_neg (isW_0 hw), if_neg (isW_0 hw)]
    obtain ⟨b, h1, h2⟩ := rf5 hw refs
    rw [h1, h2]
    exact ⟨_, _, _, _, _, _, _, _, _, _, rfl, rfl⟩
theorem ends_p {n t : Nat} {r : RT} (V : VR n t r) (p1 p2 : Int32) (la sp : AR) (ld go he st dn : Int32) {se : AR} {s : Nat} (hs : s ≤ 12) (hse : ∀ j, ∃ b, b ≤ 12 ∧ se j = nI b) (refs : AR) (ea : Int32) : ∃ z la' sp' ld' go' he' st' dn' rf ea', fX3_ends p1 p2 la sp ld go he st dn r se refs (nI s) = some (z, la', sp', ld', go', he', st', dn', rf) ∧ fX4_ends p1 p2 r refs 0 0 se (nI s) ea = some (z, rf, ea') := by
  unfold fX3_ends fX4_ends
  rcases walker_c p1 p2 with ⟨h1, h2, ⟨c, hc, rfl⟩, -⟩ | ⟨w, hw, h1, h2⟩
  · rw [h1, h2, bd_s, bd_s, if_pos rfl, if_pos rfl]
    unfold fX2_begin
    rw [bd_s, (XS_1 hc).1, bd_s]
    simp only
    obtain ⟨x', la', sp', st', i', b, e1, e2, hi, hb, hx⟩ := acts_c V p1 hs hse hc la sp st
    rw [e1, bd_s, e2, bd_s]
    simp only
    unfold fX3_placeOf
    rw [show (0 : Int32) = nI 0 from rfl, placeOf_in hb hx _ (pn b) 0 400 (by omega) (by have := pn_lt hb; omega), bd_s]
    by_cases q : b = 18
    · rw [if_pos (g_eq (n := 18) q), q]
      exact ⟨_, _, _, _, _, _, _, _, _, _, rfl, rfl⟩
    · rw [if_neg (g_ne (n := 18) q (by omega) (by decide))]
      by_cases q2 : b < 10
      · rw [if_neg (g_ge (n := 10) q2 (by decide)), show (10 : Int32) = nI 10 from rfl, nI_add]
        unfold pn
        rw [if_pos q2]
        exact ⟨_, _, _, _, _, _, _, _, _, _, rfl, rfl⟩
      · rw [if_pos (g_le (n := 10) (by omega) (by omega)), n10 (by omega)]
        unfold pn
        rw [if_neg q2, if_neg q]
        exact ⟨_, _, _, _, _, _, _, _, _, _, rfl, rfl⟩
  · rw [h1, h2, bd_s, bd_s, if_neg (isW_0 hw), if_neg (isW_0 hw)]
    obtain ⟨b, h1, h2⟩ := rf5 hw refs
    rw [h1, h2]
    exact ⟨_, _, _, _, _, _, _, _, _, _, rfl, rfl⟩
