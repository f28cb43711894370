/-! ===== a statement, as the model reads it ===== -/
theorem iob_x (c x : Int32) (h1 : ¬ c = (63 : Int32)) (h2 : ¬ c = (100 : Int32)) (h3 : ¬ c = (107 : Int32)) (h4 : ¬ c = (115 : Int32)) : iob c x = decide (x = c) := by
  unfold iob
  rw [if_neg h1, if_neg h2, if_neg h3, if_neg h4]
theorem iob_d (x : Int32) : iob (100 : Int32) x = dgB x := by
  unfold iob
  rw [if_neg (by decide), if_pos rfl]
theorem iob_k (x : Int32) : iob (107 : Int32) x = !decide (kd x < 0) := by
  unfold iob
  rw [if_neg (by decide), if_neg (by decide), if_pos rfl]
theorem iob_s (x : Int32) : iob (115 : Int32) x = (decide (x = (108 : Int32)) || decide (x = (114 : Int32))) := by
  unfold iob
  rw [if_neg (by decide), if_neg (by decide), if_neg (by decide), if_pos rfl]
theorem iob_q (x : Int32) : iob (63 : Int32) x = false := by
  unfold iob
  rw [if_pos rfl]
theorem iob_59 (x : Int32) : iob (59 : Int32) x = decide (x = (59 : Int32)) := iob_x _ _ (by decide) (by decide) (by decide) (by decide)
def kb (x : Int32) : Bool := !decide (kd x < 0)
def sd (x : Int32) : Bool := decide (x = (108 : Int32)) || decide (x = (114 : Int32))
def sc (x : Int32) : Bool := decide (x = (59 : Int32))
theorem bp_r {tp : AR} {s i : Nat} (h : lt tp s i = (114 : Int32)) : FM tp s i = 0 ∧ ln tp s i = 3 ∧ bp tp s i = if dgB (lt tp s (i + 1)) then (if sc (lt tp s (i + 2)) then none else some (i + 2)) else some (i + 1) := by
  have hF : FM tp s i = 0 := by
    unfold FM
    rw [h, if_neg (by decide), if_neg (by decide), if_pos rfl]
  have hl : ln tp s i = 3 := by unfold ln; rw [hF]; rfl
  refine ⟨hF, hl, ?_⟩
  have t0 : tbX tp s i 0 = true := by
    unfold tbX; rw [hF, show sg 0 0 = (114 : Int32) from by decide, iob_x _ _ (by decide) (by decide) (by decide) (by decide), Nat.add_zero, h]; rfl
  have t1 : tbX tp s i (0 + 1) = dgB (lt tp s (i + 1)) := by unfold tbX; rw [hF, show sg 0 (0 + 1) = (100 : Int32) from by decide, iob_d]
  have t2 : tbX tp s i (0 + 1 + 1) = sc (lt tp s (i + 2)) := by unfold tbX sc; rw [hF, show sg 0 (0 + 1 + 1) = (59 : Int32) from by decide, iob_59]
  unfold bp
  rw [hl, fsN_s, fsN_s, fsN_s, t0, t1, t2]
  rfl
theorem bp_m2 {tp : AR} {s i : Nat} (h : lt tp s i = (109 : Int32)) (h2 : dgB (lt tp s (i + 2)) = true) : FM tp s i = 2 ∧ ln tp s i = 4 ∧ bp tp s i = if dgB (lt tp s (i + 1)) then (if sc (lt tp s (i + 3)) then none else some (i + 3)) else some (i + 1) := by
  have hF : FM tp s i = 2 := by
    unfold FM
    rw [h, if_neg (by decide), if_pos rfl, h2]; rfl
  have hl : ln tp s i = 4 := by unfold ln; rw [hF]; rfl
  refine ⟨hF, hl, ?_⟩
  have t0 : tbX tp s i 0 = true := by
    unfold tbX; rw [hF, show sg 2 0 = (109 : Int32) from by decide, iob_x _ _ (by decide) (by decide) (by decide) (by decide), Nat.add_zero, h]; rfl
  have t1 : tbX tp s i (0 + 1) = dgB (lt tp s (i + 1)) := by unfold tbX; rw [hF, show sg 2 (0 + 1) = (100 : Int32) from by decide, iob_d]
  have t2 : tbX tp s i (0 + 1 + 1) = true := by unfold tbX; rw [hF, show sg 2 (0 + 1 + 1) = (100 : Int32) from by decide, iob_d]; exact h2
  have t3 : tbX tp s i (0 + 1 + 1 + 1) = sc (lt tp s (i + 3)) := by unfold tbX sc; rw [hF, show sg 2 (0 + 1 + 1 + 1) = (59 : Int32) from by decide, iob_59]
  unfold bp
  rw [hl, fsN_s, fsN_s, fsN_s, fsN_s, t0, t1, t2, t3]
  rfl
theorem bp_m1 {tp : AR} {s i : Nat} (h : lt tp s i = (109 : Int32)) (h2 : dgB (lt tp s (i + 2)) = false) : FM tp s i = 3 ∧ ln tp s i = 3 ∧ bp tp s i = if dgB (lt tp s (i + 1)) then (if sc (lt tp s (i + 2)) then none else some (i + 2)) else some (i + 1) := by
  have hF : FM tp s i = 3 := by
    unfold FM
    rw [h, if_neg (by decide), if_pos rfl, h2]; rfl
  have hl : ln tp s i = 3 := by unfold ln; rw [hF]; rfl
  refine ⟨hF, hl, ?_⟩
  have t0 : tbX tp s i 0 = true := by
    unfold tbX; rw [hF, show sg 3 0 = (109 : Int32) from by decide, iob_x _ _ (by decide) (by decide) (by decide) (by decide), Nat.add_zero, h]; rfl
  have t1 : tbX tp s i (0 + 1) = dgB (lt tp s (i + 1)) := by unfold tbX; rw [hF, show sg 3 (0 + 1) = (100 : Int32) from by decide, iob_d]
  have t2 : tbX tp s i (0 + 1 + 1) = sc (lt tp s (i + 2)) := by unfold tbX sc; rw [hF, show sg 3 (0 + 1 + 1) = (59 : Int32) from by decide, iob_59]
  unfold bp
  rw [hl, fsN_s, fsN_s, fsN_s, t0, t1, t2]
  rfl
theorem bp_q {tp : AR} {s i : Nat} (h1 : ¬ lt tp s i = (102 : Int32)) (h2 : ¬ lt tp s i = (109 : Int32)) (h3 : ¬ lt tp s i = (114 : Int32)) : bp tp s i = some i := by
  have hF : FM tp s i = 4 := by
    unfold FM
    rw [if_neg h1, if_neg h2, if_neg h3]
  have hl : ln tp s i = 1 := by unfold ln; rw [hF]; rfl
  have t0 : tbX tp s i 0 = false := by
    unfold tbX; rw [hF, show sg 4 0 = (63 : Int32) from by decide, iob_q]
  unfold bp
  rw [hl, fsN_s, t0]
  rfl
theorem bp_f {tp : AR} {s i : Nat} (h : lt tp s i = (102 : Int32)) : FM tp s i = 1 ∧ ln tp s i = 8 ∧ bp tp s i = if kb (lt tp s (i + 1)) then (if dgB (lt tp s (i + 2)) then (if dgB (lt tp s (i + 3)) then (if sd (lt tp s (i + 4)) then (if dgB (lt tp s (i + 5)) then (if dgB (lt tp s (i + 6)) then (if sc (lt tp s (i + 7)) then none else some (i + 7)) else some (i + 6)) else some (i + 5)) else some (i + 4)) else some (i + 3)) else some (i + 2)) else some (i + 1) := by
  have hF : FM tp s i = 1 := by
    unfold FM
    rw [h, if_pos rfl]
  have hl : ln tp s i = 8 := by unfold ln; rw [hF]; rfl
  refine ⟨hF, hl, ?_⟩
  have t0 : tbX tp s i 0 = true := by
    unfold tbX; rw [hF, show sg 1 0 = (102 : Int32) from by decide, iob_x _ _ (by decide) (by decide) (by decide) (by decide), Nat.add_zero, h]; rfl
  have t1 : tbX tp s i (0 + 1) = kb (lt tp s (i + 1)) := by unfold tbX kb; rw [hF, show sg 1 (0 + 1) = (107 : Int32) from by decide, iob_k]
  have t2 : tbX tp s i (0 + 1 + 1) = dgB (lt tp s (i + 2)) := by unfold tbX; rw [hF, show sg 1 (0 + 1 + 1) = (100 : Int32) from by decide, iob_d]
  have t3 : tbX tp s i (0 + 1 + 1 + 1) = dgB (lt tp s (i + 3)) := by unfold tbX; rw [hF, show sg 1 (0 + 1 + 1 + 1) = (100 : Int32) from by decide, iob_d]
  have t4 : tbX tp s i (0 + 1 + 1 + 1 + 1) = sd (lt tp s (i + 4)) := by unfold tbX sd; rw [hF, show sg 1 (0 + 1 + 1 + 1 + 1) = (115 : Int32) from by decide, iob_s]
  have t5 : tbX tp s i (0 + 1 + 1 + 1 + 1 + 1) = dgB (lt tp s (i + 5)) := by unfold tbX; rw [hF, show sg 1 (0 + 1 + 1 + 1 + 1 + 1) = (100 : Int32) from by decide, iob_d]
  have t6 : tbX tp s i (0 + 1 + 1 + 1 + 1 + 1 + 1) = dgB (lt tp s (i + 6)) := by unfold tbX; rw [hF, show sg 1 (0 + 1 + 1 + 1 + 1 + 1 + 1) = (100 : Int32) from by decide, iob_d]
  have t7 : tbX tp s i (0 + 1 + 1 + 1 + 1 + 1 + 1 + 1) = sc (lt tp s (i + 7)) := by unfold tbX sc; rw [hF, show sg 1 (0 + 1 + 1 + 1 + 1 + 1 + 1 + 1) = (59 : Int32) from by decide, iob_59]
  unfold bp
  rw [hl, fsN_s, fsN_s, fsN_s, fsN_s, fsN_s, fsN_s, fsN_s, fsN_s, t0, t1, t2, t3, t4, t5, t6, t7]
  rfl
/-! numbers read -/
theorem fin200 {α : Type} {j : Nat} (h : j < 200) (a : Option α) : ck (nI j) 200 a = a := ck_n a h (by decide)
theorem cl200 {j : Nat} (h : j < 200) : (nI j).toNatClampNeg = j := cl_n (by omega)
theorem first_e (x : Int32) : (((10 : Int32) * 0) + x) - (48 : Int32) = x - (48 : Int32) := by rw [Int32.mul_zero, Int32.zero_add]
theorem reads1 (tp nu : AR) {s i p : Nat} (hs : s ≤ 80) (hi : i < 1000) (hp : p < 200) : fX4_reads (nI p) (1 : Int32) tp nu (nI s) (nI i) = if dgB (lt tp s i) then some (1, upd nu p (lt tp s i - (48 : Int32)), nI (i + 1)) else some (0, nu, nI i) := by
  unfold fX4_reads
  rw [nextLetter_e tp hs (by omega), bd_s, isIn_d, bd_s, if_bI]
  cases h : dgB (lt tp s i) with
  | false => rfl
  | true =>
    simp only [if_true]
    rw [show (400 : Nat) = 398 + 1 + 1 from rfl, fX4_reads_L21, if_neg (by decide), nextLetter_e tp hs (by omega), bd_s, isIn_d, bd_s, if_bI, h]
    simp only [if_true]
    rw [bd_s, fX4_reads_L21, if_pos (by decide), fin200 hp, cl200 hp, first_e, nI1]
theorem reads2 (tp nu : AR) {s i p : Nat} (hs : s ≤ 80) (hi : i < 1000) (hp : p < 200) : fX4_reads (nI p) (2 : Int32) tp nu (nI s) (nI i) = if dgB (lt tp s i) then (if dgB (lt tp s (i + 1)) then some (1, upd nu p ((((10 : Int32) * (lt tp s i - (48 : Int32))) + lt tp s (i + 1)) - (48 : Int32)), nI (i + 1 + 1)) else some (1, upd nu p (lt tp s i - (48 : Int32)), nI (i + 1))) else some (0, nu, nI i) := by
  unfold fX4_reads
  rw [nextLetter_e tp hs (by omega), bd_s, isIn_d, bd_s, if_bI]
  cases h : dgB (lt tp s i) with
  | false => rfl
  | true =>
    simp only [if_true]
    rw [show (400 : Nat) = 397 + 1 + 1 + 1 from rfl, fX4_reads_L21, if_neg (by decide), nextLetter_e tp hs (by omega), bd_s, isIn_d, bd_s, if_bI, h]
    simp only [if_true]
    rw [bd_s, fX4_reads_L21, if_neg (by decide), first_e, nI1, nextLetter_e tp hs (by omega), bd_s, isIn_d, bd_s, if_bI]
    cases h2 : dgB (lt tp s (i + 1)) with
    | false =>
      simp only [Bool.false_eq_true, if_false]
      rw [fin200 hp, cl200 hp]
    | true =>
      simp only [if_true]
      rw [bd_s, fX4_reads_L21, if_pos (by decide), fin200 hp, cl200 hp, nI1]
/-! one statement -/
/-- what statement k's numbers say, the statement being at place i -/
def VAL (tp : AR) (s i : Nat) (nu : AR) (k : Nat) : Prop :=
  (lt tp s i = (114 : Int32) → nu (5 * k) = lt tp s (i + 1) - (48 : Int32)) ∧
  (lt tp s i = (109 : Int32) → nu (5 * k) = if dgB (lt tp s (i + 2)) then (((10 : Int32) * (lt tp s (i + 1) - (48 : Int32))) + lt tp s (i + 2)) - (48 : Int32) else lt tp s (i + 1) - (48 : Int32)) ∧
  (lt tp s i = (102 : Int32) → nu (5 * k) = kd (lt tp s (i + 1)) ∧ nu (5 * k + 1) = lt tp s (i + 2) - (48 : Int32) ∧ nu (5 * k + 2) = lt tp s (i + 3) - (48 : Int32) ∧ nu (5 * k + 3) = (lt tp s (i + 5) - (48 : Int32)) * (if lt tp s (i + 4) = (108 : Int32) then -1 else 1) ∧ nu (5 * k + 4) = lt tp s (i + 6) - (48 : Int32))
theorem readsFloe_e (tp nu : AR) {s i k : Nat} (hs : s ≤ 80) (hi : i < 900) (hk : k < 40) (h : lt tp s i = (102 : Int32)) : (∃ j nu', fX4_readsFloe (nI (5 * k)) tp nu (nI s) (nI (i + 1)) = some (0, nu', nI j) ∧ bp tp s i = some j) ∨ (∃ nu', fX4_readsFloe (nI (5 * k)) tp nu (nI s) (nI (i + 1)) = some (1, nu', nI (i + 7)) ∧ (bp tp s i = if sc (lt tp s (i + 7)) then none else some (i + 7)) ∧ (∀ q, q < 5 * k → nu' q = nu q) ∧ VAL tp s i nu' k) := by
  rw [(bp_f h).2.2]
  unfold fX4_readsFloe
  rw [nextLetter_e tp hs (by omega), bd_s, kindOf_m, bd_s, fin200 (by omega), fin200 (by omega), cl200 (show 5 * k < 200 by omega), upd_s]
  cases h1 : kb (lt tp s (i + 1)) with
  | false =>
    left
    have c : ¬ 0 ≤ kd (lt tp s (i + 1)) := by
      unfold kb at h1
      rw [Int32.not_le]
      exact of_decide_eq_true (by simpa using h1)
    rw [if_neg c]
    exact ⟨_, _, rfl, rfl⟩
  | true =>
    have c : 0 ≤ kd (lt tp s (i + 1)) := by
      unfold kb at h1
      rw [← Int32.not_lt]
      exact of_decide_eq_false (by simpa using h1)
    rw [if_pos c, show (1 : Int32) = nI 1 from rfl, nI_add, nI_add, show nI 1 = (1 : Int32) from rfl, reads1 tp _ hs (by omega) (by omega)]
    simp only [if_true]
    cases h2 : dgB (lt tp s (i + 1 + 1)) with
    | false =>
      left
      simp only [Bool.false_eq_true, if_false]
      rw [bd_s, if_pos rfl]
      exact ⟨_, _, rfl, rfl⟩
    | true =>
      simp only [if_true]
      rw [bd_s, if_neg (show ¬ (1 : Int32) = 0 by decide), show (2 : Int32) = nI 2 from rfl, nI_add]
      simp only
      rw [reads1 tp _ hs (by omega) (by omega)]
      cases h3 : dgB (lt tp s (i + 1 + 1 + 1)) with
      | false =>
        left
        simp only [Bool.false_eq_true, if_false]
        rw [bd_s, if_pos rfl]
        exact ⟨_, _, rfl, rfl⟩
      | true =>
        simp only [if_true]
        rw [bd_s, if_neg (show ¬ (1 : Int32) = 0 by decide)]
        simp only
        rw [nextLetter_e tp hs (by omega), bd_s]
        dsimp only [jn]
        -- behind the side
        have side : ∀ (w : Int32), ¬ w = 0 → (w = if lt tp s (i + 4) = (108 : Int32) then -1 else 1) → sd (lt tp s (i + 4)) = true → ∀ X : Option (Int32 × AR × Int32), X = (bd (fX4_reads (nI (5 * k) + (3 : Int32)) (1 : Int32) tp (upd (upd (upd nu (5 * k) (kd (lt tp s (i + 1)))) (5 * k + 1) (lt tp s (i + 1 + 1) - (48 : Int32))) (5 * k + 2) (lt tp s (i + 1 + 1 + 1) - (48 : Int32))) (nI s) (nI (i + 1 + 1 + 1 + 1) + (1 : Int32))) (fun (q107 : Int32 × AR × Int32) => if q107.1 = 0 then (some ((0 : Int32), q107.2.1, q107.2.2)) else (bd (fX4_reads (nI (5 * k) + (4 : Int32)) (1 : Int32) tp q107.2.1 (nI s) q107.2.2) (fun (q118 : Int32 × AR × Int32) => if q118.1 = 0 then (some ((0 : Int32), q118.2.1, q118.2.2)) else (ck (nI (5 * k) + (3 : Int32)) 200 (ck (nI (5 * k) + (3 : Int32)) 200 (some ((1 : Int32), (upd q118.2.1 ((nI (5 * k) + (3 : Int32))).toNatClampNeg ((q118.2.1 ((nI (5 * k) + (3 : Int32))).toNatClampNeg) * w)), q118.2.2)))))))) → (∃ j nu', X = some (0, nu', nI j) ∧ (if sd (lt tp s (i + 4)) then (if dgB (lt tp s (i + 5)) then (if dgB (lt tp s (i + 6)) then (if sc (lt tp s (i + 7)) then none else some (i + 7)) else some (i + 6)) else some (i + 5)) else some (i + 4)) = some j) ∨ (∃ nu', X = some (1, nu', nI (i + 7)) ∧ ((if sd (lt tp s (i + 4)) then (if dgB (lt tp s (i + 5)) then (if dgB (lt tp s (i + 6)) then (if sc (lt tp s (i + 7)) then none else some (i + 7)) else some (i + 6)) else some (i + 5)) else some (i + 4)) = if sc (lt tp s (i + 7)) then none else some (i + 7)) ∧ (∀ q, q < 5 * k → nu' q = nu q) ∧ VAL tp s i nu' k) := by
          intro w hw0 hw hsd X hX
          rw [hsd]
          simp only [if_true]
          rw [hX, show (3 : Int32) = nI 3 from rfl, show (4 : Int32) = nI 4 from rfl, nI_add, nI_add, nI1, reads1 tp _ hs (by omega) (by omega)]
          cases h5 : dgB (lt tp s (i + 1 + 1 + 1 + 1 + 1)) with
          | false =>
            left
            simp only [Bool.false_eq_true, if_false]
            rw [bd_s, if_pos rfl]
            exact ⟨_, _, rfl, rfl⟩
          | true =>
            simp only [if_true]
            rw [bd_s, if_neg (show ¬ (1 : Int32) = 0 by decide)]
            simp only
            rw [reads1 tp _ hs (by omega) (by omega)]
            cases h6 : dgB (lt tp s (i + 1 + 1 + 1 + 1 + 1 + 1)) with
            | false =>
              left
              simp only [Bool.false_eq_true, if_false]
              rw [bd_s, if_pos rfl]
              exact ⟨_, _, rfl, rfl⟩
            | true =>
              right
              simp only [if_true]
              rw [bd_s, if_neg (show ¬ (1 : Int32) = 0 by decide)]
              simp only
              rw [fin200 (by omega), fin200 (by omega), cl200 (show 5 * k + 3 < 200 by omega)]
              refine ⟨_, rfl, trivial, fun q hq => ?_, fun e => ?_, fun e => ?_, fun _ => ⟨?_, ?_, ?_, ?_, ?_⟩⟩
              · rw [upd_n _ _ (show ¬ q = 5 * k + 3 by omega), upd_n _ _ (show ¬ q = 5 * k + 4 by omega), upd_n _ _ (show ¬ q = 5 * k + 3 by omega), upd_n _ _ (show ¬ q = 5 * k + 2 by omega), upd_n _ _ (show ¬ q = 5 * k + 1 by omega), upd_n _ _ (show ¬ q = 5 * k by omega)]
              · rw [h] at e; exact absurd e (by decide)
              · rw [h] at e; exact absurd e (by decide)
              · rw [upd_n _ _ (show ¬ 5 * k = 5 * k + 3 by omega), upd_n _ _ (show ¬ 5 * k = 5 * k + 4 by omega), upd_n _ _ (show ¬ 5 * k = 5 * k + 3 by omega), upd_n _ _ (show ¬ 5 * k = 5 * k + 2 by omega), upd_n _ _ (show ¬ 5 * k = 5 * k + 1 by omega), upd_s]
              · rw [upd_n _ _ (show ¬ 5 * k + 1 = 5 * k + 3 by omega), upd_n _ _ (show ¬ 5 * k + 1 = 5 * k + 4 by omega), upd_n _ _ (show ¬ 5 * k + 1 = 5 * k + 3 by omega), upd_n _ _ (show ¬ 5 * k + 1 = 5 * k + 2 by omega), upd_s]
              · rw [upd_n _ _ (show ¬ 5 * k + 2 = 5 * k + 3 by omega), upd_n _ _ (show ¬ 5 * k + 2 = 5 * k + 4 by omega), upd_n _ _ (show ¬ 5 * k + 2 = 5 * k + 3 by omega), upd_s]
              · rw [upd_s, upd_n _ _ (show ¬ 5 * k + 3 = 5 * k + 4 by omega), upd_s, hw]
              · rw [upd_n _ _ (show ¬ 5 * k + 4 = 5 * k + 3 by omega), upd_s]
        by_cases cl : lt tp s (i + 4) = (108 : Int32)
        · rw [if_pos (show lt tp s (i + 1 + 1 + 1 + 1) = (108 : Int32) from cl), if_neg (by decide)]
          exact side (-1) (by decide) (by rw [if_pos cl]) (by unfold sd; rw [decide_eq_true cl]; rfl) _ rfl
        · rw [if_neg (show ¬ lt tp s (i + 1 + 1 + 1 + 1) = (108 : Int32) from cl), bd_s]
          by_cases cr : lt tp s (i + 4) = (114 : Int32)
          · rw [if_pos (show lt tp s (i + 1 + 1 + 1 + 1) = (114 : Int32) from cr), if_neg (by decide)]
            exact side 1 (by decide) (by rw [if_neg cl]) (by unfold sd; rw [decide_eq_true cr]; simp) _ rfl
          · rw [if_neg (show ¬ lt tp s (i + 1 + 1 + 1 + 1) = (114 : Int32) from cr), if_pos rfl]
            left
            have hsd : sd (lt tp s (i + 4)) = false := by unfold sd; rw [decide_eq_false cl, decide_eq_false cr]; rfl
            rw [hsd]
            exact ⟨_, _, rfl, rfl⟩
theorem statement_e (tp le la nu : AR) {s i k : Nat} (hs : s ≤ 80) (hi : i < 900) (hk : k < 40) : (∃ j le' la' nu', fX4_statement tp le la nu (nI s) (nI i) (nI k) = some (0, le', la', nu', nI j) ∧ bp tp s i = some j) ∨ (∃ nu', fX4_statement tp le la nu (nI s) (nI i) (nI k) = some (1, upd le k (lt tp s i), upd la k (nI i), nu', nI (i + ln tp s i)) ∧ bp tp s i = none ∧ (∀ q, q < 5 * k → nu' q = nu q) ∧ VAL tp s i nu' k ∧ (lt tp s i = (102 : Int32) ∨ lt tp s i = (109 : Int32) ∨ lt tp s i = (114 : Int32))) := by
  have f40 : ∀ {α : Type} (a : Option α), ck (nI k) 40 a = a := fun a => ck_n a hk (by decide)
  have ck40 : (nI k).toNatClampNeg = k := cl_n (by omega)
  have m5 : (5 : Int32) * nI k = nI (5 * k) := by rw [show (5 : Int32) = nI 5 from rfl, pk_mul]
  unfold fX4_statement
  rw [nextLetter_e tp hs (by omega), bd_s]
  dsimp only [jn]
  rw [f40, f40, ck40, m5, nI1]
  by_cases c1 : lt tp s i = (102 : Int32)
  · have c2 : ¬ lt tp s i = (114 : Int32) := by rw [c1]; decide
    simp only [if_neg c2, if_pos c1]
    rcases readsFloe_e tp nu hs hi hk c1 with ⟨j, nu', e, hb⟩ | ⟨nu', e, hb, hq, hv⟩
    · rw [e, bd_s, if_pos rfl]
      exact Or.inl ⟨j, _, _, _, rfl, hb⟩
    · rw [e, bd_s, if_neg (show ¬ (1 : Int32) = 0 by decide)]
      simp only
      rw [nextLetter_e tp hs (by omega), bd_s, hb, (bp_f c1).2.1]
      unfold sc
      by_cases c : lt tp s (i + 7) = (59 : Int32)
      · rw [if_pos c, decide_eq_true c, nI1]
        exact Or.inr ⟨nu', rfl, rfl, hq, hv, Or.inl c1⟩
      · rw [if_neg c, decide_eq_false c]
        exact Or.inl ⟨i + 7, _, _, _, rfl, rfl⟩
  · simp only [if_neg c1]
    by_cases c2 : lt tp s i = (109 : Int32)
    · have c3 : ¬ lt tp s i = (114 : Int32) := by rw [c2]; decide
      simp only [if_neg c3, if_pos c2]
      rw [reads2 tp nu hs (by omega) (by omega)]
      cases h1 : dgB (lt tp s (i + 1)) with
      | false =>
        left
        simp only [Bool.false_eq_true, if_false]
        rw [bd_s, if_pos rfl]
        refine ⟨i + 1, _, _, _, rfl, ?_⟩
        cases h2 : dgB (lt tp s (i + 2)) with
        | false => rw [(bp_m1 c2 h2).2.2, h1]; rfl
        | true => rw [(bp_m2 c2 h2).2.2, h1]; rfl
      | true =>
        simp only [if_true]
        cases h2 : dgB (lt tp s (i + 1 + 1)) with
        | false =>
          simp only [Bool.false_eq_true, if_false]
          rw [bd_s, if_neg (show ¬ (1 : Int32) = 0 by decide)]
          simp only
          rw [nextLetter_e tp hs (by omega), bd_s, (bp_m1 c2 h2).2.2, (bp_m1 c2 h2).2.1, h1]
          unfold sc
          by_cases c : lt tp s (i + 2) = (59 : Int32)
          · rw [if_pos (show lt tp s (i + 1 + 1) = (59 : Int32) from c), decide_eq_true c, nI1]
            refine Or.inr ⟨_, rfl, rfl, fun q hq => upd_n _ _ (by omega), ⟨fun e => absurd e c3, fun _ => ?_, fun e => absurd e c1⟩, Or.inr (Or.inl c2)⟩
            rw [upd_s, show i + 2 = i + 1 + 1 from rfl, h2]; rfl
          · rw [if_neg (show ¬ lt tp s (i + 1 + 1) = (59 : Int32) from c), decide_eq_false c]
            exact Or.inl ⟨i + 2, _, _, _, rfl, rfl⟩
        | true =>
          simp only [if_true]
          rw [bd_s, if_neg (show ¬ (1 : Int32) = 0 by decide)]
          simp only
          rw [nextLetter_e tp hs (by omega), bd_s, (bp_m2 c2 h2).2.2, (bp_m2 c2 h2).2.1, h1]
          unfold sc
          by_cases c : lt tp s (i + 3) = (59 : Int32)
          · rw [if_pos (show lt tp s (i + 1 + 1 + 1) = (59 : Int32) from c), decide_eq_true c, nI1]
            refine Or.inr ⟨_, rfl, rfl, fun q hq => upd_n _ _ (by omega), ⟨fun e => absurd e c3, fun _ => ?_, fun e => absurd e c1⟩, Or.inr (Or.inl c2)⟩
            rw [upd_s, show i + 2 = i + 1 + 1 from rfl, h2]; rfl
          · rw [if_neg (show ¬ lt tp s (i + 1 + 1 + 1) = (59 : Int32) from c), decide_eq_false c]
            exact Or.inl ⟨i + 3, _, _, _, rfl, rfl⟩
    · simp only [if_neg c2]
      by_cases c3 : lt tp s i = (114 : Int32)
      · rw [if_pos c3, reads1 tp nu hs (by omega) (by omega), (bp_r c3).2.2, (bp_r c3).2.1]
        cases h1 : dgB (lt tp s (i + 1)) with
        | false =>
          left
          simp only [Bool.false_eq_true, if_false]
          rw [bd_s, if_pos rfl]
          exact ⟨i + 1, _, _, _, rfl, rfl⟩
        | true =>
          simp only [if_true]
          rw [bd_s, if_neg (show ¬ (1 : Int32) = 0 by decide)]
          simp only
          rw [nextLetter_e tp hs (by omega), bd_s]
          unfold sc
          by_cases c : lt tp s (i + 2) = (59 : Int32)
          · rw [if_pos (show lt tp s (i + 1 + 1) = (59 : Int32) from c), decide_eq_true c, nI1]
            refine Or.inr ⟨_, rfl, rfl, fun q hq => upd_n _ _ (by omega), ⟨fun _ => upd_s _ _ _, fun e => absurd e c2, fun e => absurd e c1⟩, Or.inr (Or.inr c3)⟩
          · rw [if_neg (show ¬ lt tp s (i + 1 + 1) = (59 : Int32) from c), decide_eq_false c]
            exact Or.inl ⟨i + 2, _, _, _, rfl, rfl⟩
      · rw [if_neg c3]
        exact Or.inl ⟨i, _, _, _, rfl, bp_q c1 c2 c3⟩
