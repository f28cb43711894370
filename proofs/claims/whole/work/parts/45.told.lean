/-! ===== a river told, whole ===== -/
/-- the place of statement m -/
def PL (tp : AR) (s : Nat) : Nat → Nat
  | 0 => 0
  | m + 1 => PL tp s m + ln tp s (PL tp s m)
theorem PL_s (tp : AR) (s m : Nat) : PL tp s (m + 1) = PL tp s m + ln tp s (PL tp s m) := rfl
/-- the statements ahead of k are good, and the model's rows have them -/
def HYP (tp : AR) (s : Nat) (le la nu : AR) (k : Nat) : Prop := ∀ m, m < k → bp tp s (PL tp s m) = none ∧ le m = lt tp s (PL tp s m) ∧ la m = nI (PL tp s m) ∧ VAL tp s (PL tp s m) nu m ∧ (lt tp s (PL tp s m) = (102 : Int32) ∨ lt tp s (PL tp s m) = (109 : Int32) ∨ lt tp s (PL tp s m) = (114 : Int32))
theorem VAL_c {tp : AR} {s i : Nat} {nu nu' : AR} {m k : Nat} (hm : m < k) (h : ∀ q, q < 5 * k → nu' q = nu q) (hv : VAL tp s i nu m) : VAL tp s i nu' m := by
  refine ⟨fun e => ?_, fun e => ?_, fun e => ⟨?_, ?_, ?_, ?_, ?_⟩⟩
  · rw [h _ (by omega)]; exact hv.1 e
  · rw [h _ (by omega)]; exact hv.2.1 e
  · rw [h _ (by omega)]; exact (hv.2.2 e).1
  · rw [h _ (by omega)]; exact (hv.2.2 e).2.1
  · rw [h _ (by omega)]; exact (hv.2.2 e).2.2.1
  · rw [h _ (by omega)]; exact (hv.2.2 e).2.2.2.1
  · rw [h _ (by omega)]; exact (hv.2.2 e).2.2.2.2
theorem fsN_le (tb : Nat → Bool) (i : Nat) : ∀ d k j, fsN tb i d k = some j → j < i + k + d := by
  intro d
  induction d with
  | zero => intro k j h; cases h
  | succ d ih =>
    intro k j h
    rw [fsN_s] at h
    cases c : tb k with
    | false =>
      rw [c] at h
      simp only [Bool.false_eq_true, if_false, Option.some.injEq] at h
      omega
    | true =>
      rw [c] at h
      simp only [if_true] at h
      have := ih (k + 1) j h
      omega
theorem bp_le {tp : AR} {s i j : Nat} (h : bp tp s i = some j) : j < i + 8 := by
  have := fsN_le _ _ _ _ _ h
  have := (ln_c tp s i).2
  omega
theorem sc_lt {tp : AR} {s i : Nat} (h : sc (lt tp s i) = true) : i < s := by
  refine lt_in (tp := tp) (fun e => ?_)
  rw [e] at h
  exact absurd h (by decide)
theorem bp_end {tp : AR} {s i : Nat} (h : bp tp s i = none) : 3 ≤ ln tp s i ∧ i + ln tp s i ≤ s := by
  by_cases c1 : lt tp s i = (102 : Int32)
  · rw [(bp_f c1).2.2] at h
    rw [(bp_f c1).2.1]
    have : sc (lt tp s (i + 7)) = true := by
      cases h1 : kb (lt tp s (i + 1)) with
      | false => rw [h1] at h; cases h
      | true =>
      cases h2 : dgB (lt tp s (i + 2)) with
      | false => rw [h1, h2] at h; cases h
      | true =>
      cases h3 : dgB (lt tp s (i + 3)) with
      | false => rw [h1, h2, h3] at h; cases h
      | true =>
      cases h4 : sd (lt tp s (i + 4)) with
      | false => rw [h1, h2, h3, h4] at h; cases h
      | true =>
      cases h5 : dgB (lt tp s (i + 5)) with
      | false => rw [h1, h2, h3, h4, h5] at h; cases h
      | true =>
      cases h6 : dgB (lt tp s (i + 6)) with
      | false => rw [h1, h2, h3, h4, h5, h6] at h; cases h
      | true =>
      cases h7 : sc (lt tp s (i + 7)) with
      | false => rw [h1, h2, h3, h4, h5, h6, h7] at h; cases h
      | true => rfl
    have := sc_lt this
    omega
  · by_cases c2 : lt tp s i = (109 : Int32)
    · cases h2 : dgB (lt tp s (i + 2)) with
      | false =>
        rw [(bp_m1 c2 h2).2.2] at h
        rw [(bp_m1 c2 h2).2.1]
        cases h1 : dgB (lt tp s (i + 1)) with
        | false => rw [h1] at h; cases h
        | true =>
        cases h3 : sc (lt tp s (i + 2)) with
        | false => rw [h1, h3] at h; cases h
        | true =>
          have := sc_lt h3
          omega
      | true =>
        rw [(bp_m2 c2 h2).2.2] at h
        rw [(bp_m2 c2 h2).2.1]
        cases h1 : dgB (lt tp s (i + 1)) with
        | false => rw [h1] at h; cases h
        | true =>
        cases h3 : sc (lt tp s (i + 3)) with
        | false => rw [h1, h3] at h; cases h
        | true =>
          have := sc_lt h3
          omega
    · by_cases c3 : lt tp s i = (114 : Int32)
      · rw [(bp_r c3).2.2] at h
        rw [(bp_r c3).2.1]
        cases h1 : dgB (lt tp s (i + 1)) with
        | false => rw [h1] at h; cases h
        | true =>
        cases h3 : sc (lt tp s (i + 2)) with
        | false => rw [h1, h3] at h; cases h
        | true =>
          have := sc_lt h3
          omega
      · rw [bp_q c1 c2 c3] at h; cases h
theorem PL_le {tp : AR} {s : Nat} {le la nu : AR} {k : Nat} (H : HYP tp s le la nu k) : ∀ m, m ≤ k → 3 * m ≤ PL tp s m ∧ (0 < m → PL tp s m ≤ s) := by
  intro m
  induction m with
  | zero => intro _; exact ⟨Nat.zero_le _, fun h => by omega⟩
  | succ m ih =>
    intro hm
    have h1 := ih (by omega)
    have h2 := bp_end (H m (by omega)).1
    rw [PL_s]
    exact ⟨by omega, fun _ => h2.2⟩
theorem phase1 {tp : AR} {s : Nat} (hs : s ≤ 80) (K4 : Unit → Option Int32) (K12 : Int32 → AR → AR → AR → Int32 → Int32 → Option (Int32 × RT × AR × AR × AR × Int32 × Int32 × Int32 × AR × Int32 × Int32)) : ∀ d k fuel fuel' : Nat, k + d = 40 → d < fuel → d < fuel' → ∀ le la nu : AR, HYP tp s le la nu k → (∃ (j : Nat) (le' la' nu' : AR) (st : Int32), fX1_faultOfForm_L4 tp (nI s) K4 fuel (nI (PL tp s k)) (nI k) = some (nI j) ∧ fX4_river_L12 tp (nI s) K12 fuel' 1 le la nu (nI (PL tp s k)) (nI k) = K12 0 le' la' nu' (nI j) st ∧ j < 1000) ∨ (∃ (N : Nat) (le' la' nu' : AR), 1 ≤ N ∧ N ≤ 27 ∧ fX1_faultOfForm_L4 tp (nI s) K4 fuel (nI (PL tp s k)) (nI k) = K4 () ∧ fX4_river_L12 tp (nI s) K12 fuel' 1 le la nu (nI (PL tp s k)) (nI k) = K12 1 le' la' nu' (nI (PL tp s N)) (nI N) ∧ HYP tp s le' la' nu' N ∧ s ≤ PL tp s N) := by
  intro d
  induction d with
  | zero =>
    intro k fuel fuel' hk hf hf' le la nu H
    exfalso
    have := PL_le H k (Nat.le_refl k)
    have := this.2 (by omega)
    omega
  | succ d ih =>
    intro k fuel fuel' hk hf hf' le la nu H
    obtain ⟨fuel, rfl⟩ : ∃ q, fuel = q + 1 := ⟨fuel - 1, by omega⟩
    obtain ⟨fuel', rfl⟩ : ∃ q, fuel' = q + 1 := ⟨fuel' - 1, by omega⟩
    have hp := PL_le H k (Nat.le_refl k)
    have hk27 : k ≤ 27 := by
      by_cases c : k = 0
      · omega
      · have := hp.2 (by omega); omega
    have hi : PL tp s k < 900 := by
      by_cases c : k = 0
      · subst c; show 0 < 900; omega
      · have := hp.2 (by omega); omega
    rw [fX1_faultOfForm_L4, fX4_river_L12, if_neg (g_ge (n := 80) (by omega) (by decide)), if_neg (show ¬ (1 : Int32) = 0 by decide)]
    dsimp only [jn]
    -- one statement more
    have more : (∃ (j : Nat) (le' la' nu' : AR) (st : Int32), bd (fX1_formAt (nI (PL tp s k)) tp (nI s)) (fun (q24 : Nat) => fX1_faultOfForm_L31 tp (nI s) q24 (nI (PL tp s k)) (fun (_ : Unit) => bd (fJ0_length_8abf5 q24) (fun (q73 : Int32) => fX1_faultOfForm_L4 tp (nI s) K4 fuel (nI (PL tp s k) + q73) (nI k + (1 : Int32)))) 400 (0 : Int32)) = some (nI j) ∧ bd (fX4_statement tp le la nu (nI s) (nI (PL tp s k)) (nI k)) (fun (q35 : Int32 × AR × AR × AR × Int32) => if q35.1 = 0 then fX4_river_L12 tp (nI s) K12 fuel' q35.1 q35.2.1 q35.2.2.1 q35.2.2.2.1 q35.2.2.2.2 (nI k + (0 : Int32)) else fX4_river_L12 tp (nI s) K12 fuel' q35.1 q35.2.1 q35.2.2.1 q35.2.2.2.1 q35.2.2.2.2 (nI k + (1 : Int32))) = K12 0 le' la' nu' (nI j) st ∧ j < 1000) ∨ (∃ (N : Nat) (le' la' nu' : AR), 1 ≤ N ∧ N ≤ 27 ∧ bd (fX1_formAt (nI (PL tp s k)) tp (nI s)) (fun (q24 : Nat) => fX1_faultOfForm_L31 tp (nI s) q24 (nI (PL tp s k)) (fun (_ : Unit) => bd (fJ0_length_8abf5 q24) (fun (q73 : Int32) => fX1_faultOfForm_L4 tp (nI s) K4 fuel (nI (PL tp s k) + q73) (nI k + (1 : Int32)))) 400 (0 : Int32)) = K4 () ∧ bd (fX4_statement tp le la nu (nI s) (nI (PL tp s k)) (nI k)) (fun (q35 : Int32 × AR × AR × AR × Int32) => if q35.1 = 0 then fX4_river_L12 tp (nI s) K12 fuel' q35.1 q35.2.1 q35.2.2.1 q35.2.2.2.1 q35.2.2.2.2 (nI k + (0 : Int32)) else fX4_river_L12 tp (nI s) K12 fuel' q35.1 q35.2.1 q35.2.2.1 q35.2.2.2.1 q35.2.2.2.2 (nI k + (1 : Int32))) = K12 1 le' la' nu' (nI (PL tp s N)) (nI N) ∧ HYP tp s le' la' nu' N ∧ s ≤ PL tp s N) := by
      rw [formAt_e tp hs (by omega), bd_s, show (0 : Int32) = nI 0 from rfl, form_in tp hs (by omega) _ (ln tp s (PL tp s k)) 0 400 (by omega) (by have := (ln_c tp s (PL tp s k)).2; omega)]
      rw [show nI 0 = (0 : Int32) from rfl, show fsN (tbX tp s (PL tp s k)) (PL tp s k) (ln tp s (PL tp s k)) 0 = bp tp s (PL tp s k) from rfl]
      rcases statement_e tp le la nu hs hi (show k < 40 by omega) with ⟨j, le', la', nu', e, hb⟩ | ⟨nu', e, hb, hq, hv, hc⟩
      · rw [hb, e, bd_s, if_pos rfl]
        left
        have hj := bp_le hb
        obtain ⟨f2, rfl⟩ : ∃ q, fuel' = q + 1 := ⟨fuel' - 1, by omega⟩
        refine ⟨j, le', la', nu', nI k + (0 : Int32), rfl, ?_, by omega⟩
        rw [fX4_river_L12, if_pos rfl]
      · rw [hb, e, bd_s, if_neg (show ¬ (1 : Int32) = 0 by decide)]
        simp only
        rw [len_t _ (FM_lt tp s (PL tp s k)), bd_s, nI_add, nI1]
        have H' : HYP tp s (upd le k (lt tp s (PL tp s k))) (upd la k (nI (PL tp s k))) nu' (k + 1) := by
          intro m hm
          by_cases c : m = k
          · subst c
            exact ⟨hb, upd_s _ _ _, upd_s _ _ _, hv, hc⟩
          · obtain ⟨g1, g2, g3, g4, g5⟩ := H m (by omega)
            exact ⟨g1, (upd_n _ _ c).trans g2, (upd_n _ _ c).trans g3, VAL_c (show m < k by omega) hq g4, g5⟩
        exact ih (k + 1) fuel fuel' (by omega) (by omega) (by omega) _ _ _ H'
    by_cases c : k = 0
    · rw [if_pos (g_eq (n := 0) c)]
      by_cases c2 : nI (PL tp s k) < nI s
      · rw [if_pos c2]; exact more
      · rw [if_neg c2, if_pos (g_eq (n := 0) c)]; exact more
    · rw [if_neg (g_ne (n := 0) c (by omega) (by decide))]
      by_cases c2 : PL tp s k < s
      · rw [if_neg (nI_ge c2 (by omega)), if_pos (nI_lt c2 (by omega))]; exact more
      · rw [if_pos (nI_le (by omega) (by omega)), if_neg (nI_nlt (by omega) (by omega)), if_neg (g_ne (n := 0) c (by omega) (by decide))]
        exact Or.inr ⟨k, le, la, nu, by omega, hk27, rfl, rfl, H, by omega⟩
theorem phase2 {tp : AR} {s : Nat} (hs : s ≤ 80) {le la nu : AR} {N : Nat} (hN : N ≤ 27) (H : HYP tp s le la nu N) (hend : s ≤ PL tp s N) {r0 : RT} (z0 : Zr r0) (kq : RT × AR × Int32 × Int32) (hkp : KP 50 r0 kq.2.1) (at_ st : Int32) (K20 : Int32 → RT → Option (Int32 × RT)) (K86 : RT → Option (Int32 × RT × AR × AR × AR × Int32 × Int32 × Int32 × AR × Int32 × Int32)) (hst : st = nI N) : ∀ d k fuel fuel' : Nat, k + d = N → d < fuel → d < fuel' → ∀ r : RT, WR r → Zr r → (∃ (j : Nat) (r1 : RT) (ik cu : Int32), fX1_tellTo_L20 tp (nI s) K20 fuel (nI (PL tp s k)) (nI k) r = some ((-2000 : Int32) - nI j, r1) ∧ fX4_river_L86 at_ le la nu st kq K86 fuel' (nI k) r = some ((-2000 : Int32) - nI j, r0, le, la, nu, 0, at_, st, kq.2.1, ik, cu) ∧ Zr r1 ∧ j < 1000) ∨ (∃ r' : RT, fX1_tellTo_L20 tp (nI s) K20 fuel (nI (PL tp s k)) (nI k) r = K20 (nI N) r' ∧ fX4_river_L86 at_ le la nu st kq K86 fuel' (nI k) r = K86 r' ∧ WR r' ∧ Zr r') := by
  intro d
  induction d with
  | zero =>
    intro k fuel fuel' hk hf hf' r W z
    obtain ⟨fuel, rfl⟩ : ∃ q, fuel = q + 1 := ⟨fuel - 1, by omega⟩
    obtain ⟨fuel', rfl⟩ : ∃ q, fuel' = q + 1 := ⟨fuel' - 1, by omega⟩
    have e : k = N := by omega
    subst e
    right
    have hp : PL tp s k < 2 ^ 31 := by
      by_cases c : k = 0
      · subst c; show 0 < 2 ^ 31; omega
      · have := (PL_le H k (Nat.le_refl k)).2 (by omega); omega
    refine ⟨r, ?_, ?_, W, z⟩
    · rw [fX1_tellTo_L20, if_neg (g_ge (n := 80) (by omega) (by decide)), if_pos (nI_le hend hp)]
    · rw [fX4_river_L86, hst, if_pos (nI_le (Nat.le_refl k) (by omega))]
  | succ d ih =>
    intro k fuel fuel' hk hf hf' r W z
    obtain ⟨fuel, rfl⟩ : ∃ q, fuel = q + 1 := ⟨fuel - 1, by omega⟩
    obtain ⟨fuel', rfl⟩ : ∃ q, fuel' = q + 1 := ⟨fuel' - 1, by omega⟩
    obtain ⟨g1, g2, g3, g4, g5⟩ := H k (by omega)
    have hps := bp_end g1
    obtain ⟨b, r1, r2, e1, e2, z1, z2, hb⟩ := one_e hs (show PL tp s k < 900 by omega) (show k < 40 by omega) g1 g2 g4 g5 W z
    rw [fX1_tellTo_L20, fX4_river_L86, if_neg (g_ge (n := 80) (by omega) (by decide)), if_neg (nI_ge (show PL tp s k < s by omega) (by omega)), hst, if_neg (nI_ge (show k < N by omega) (by omega)), e1, bd_s, e2, bd_s]
    simp only
    rw [if_bI, if_bI]
    cases b with
    | false =>
      left
      simp only [Bool.false_eq_true, if_false]
      obtain ⟨cu, h1⟩ := backAll z2 z0 (w := 1) (by omega) hkp
      rw [show (1 : Int32) = nI 1 from rfl, h1, bd_s, ck_n _ (show k < 40 by omega) (by decide), cl_n (by omega), g3]
      exact ⟨PL tp s k, r1, 0, cu, rfl, by rw [← hst], z1, by omega⟩
    | true =>
      simp only [if_true]
      obtain ⟨h1, h2⟩ := hb rfl
      rw [formAt_e tp hs (by omega), bd_s, len_t _ (FM_lt tp s (PL tp s k)), bd_s, nI_add, nI1, ← h1]
      have := ih (k + 1) fuel fuel' (by omega) (by omega) (by omega) r1 h2 z1
      rw [hst] at this
      exact this
theorem neg_le {c : Int32} {i : Int} (hc : c.toInt = i) (h1 : -100000 ≤ i) (h2 : i ≤ -1000) {j : Nat} (hj : j < 1000) : c - nI j ≤ 0 := by
  rw [i_le, ti_sub (by rw [hc, ti_n (by omega)]; omega) (by rw [hc, ti_n (by omega)]; omega), hc, ti_n (by omega)]
  have : (0 : Int32).toInt = 0 := rfl
  omega
theorem river_p {tp : AR} {s : Nat} (hs : s ≤ 80) {rn rt : RT} (W : WR rn) (zn : Zr rn) (zt : Zr rt) (le la nu kp : AR) (ik cu : Int32) : ∃ z rn' rt' le' la' nu' at' st' kp' ik' cu', fX3_river rn rt tp (nI s) = some (z, rn', rt', 0) ∧ fX4_river rn tp le la nu (nI s) kp ik cu = some (z, rn', le', la', nu', 0, at', st', kp', ik', cu') ∧ WR rn' ∧ Zr rn' ∧ Zr rt' ∧ ∀ j, j < 50 → kp' j = kp j := by
  unfold fX3_river fX4_river fX1_tellTo fX1_faultOfForm
  rw [become_e zt zn, bd_s]
  dsimp only [jn]
  rcases phase1 hs (fun (_ : Unit) => some (-1 : Int32)) (fun (k12_1 : Int32) (k12_letter : AR) (k12_letterAt : AR) (k12_number : AR) (k12_at : Int32) (k12_statements : Int32) => if k12_1 = 0 then (some (((-1000 : Int32) - k12_at), rn, k12_letter, k12_letterAt, k12_number, (0 : Int32), k12_at, k12_statements, kp, ik, cu)) else (bd (fX4_passesAll (1 : Int32) (1 : Int32) rn kp) (fun (q81 : RT × AR × Int32 × Int32) => fX4_river_L86 k12_at k12_letter k12_letterAt k12_number k12_statements q81 (fun (k86_r : RT) => some (k12_statements, k86_r, k12_letter, k12_letterAt, k12_number, (0 : Int32), k12_at, k12_statements, q81.2.1, q81.2.2.1, q81.2.2.2)) 400 (0 : Int32) q81.1))) 40 0 400 400 (by omega) (by omega) (by omega) le la nu (fun m hm => by omega) with ⟨j, le', la', nu', st, e1, e2, hj⟩ | ⟨N, le', la', nu', hN1, hN, e1, e2, H, hend⟩
  · rw [show nI (PL tp s 0) = (0 : Int32) from rfl, show nI 0 = (0 : Int32) from rfl] at e1 e2
    rw [e1, e2, bd_s, if_neg (nI_pos (by omega)), bd_s, if_pos rfl]
    simp only
    rw [if_pos (neg_le (i := -1000) rfl (by omega) (by omega) hj)]
    exact ⟨_, _, _, _, _, _, _, _, _, _, _, rfl, rfl, W, zn, zn, fun _ _ => rfl⟩
  · rw [show nI (PL tp s 0) = (0 : Int32) from rfl, show nI 0 = (0 : Int32) from rfl] at e1 e2
    obtain ⟨kp', cu1, h1, h2, h3⟩ := keepAll rn (w := 1) (by omega) kp
    rw [show nI 1 = (1 : Int32) from rfl] at h1
    rw [e1, e2, bd_s, if_pos (show (-1 : Int32) < 0 by decide), if_neg (show ¬ (1 : Int32) = 0 by decide), h1, bd_s]
    simp only
    rcases phase2 hs hN H hend zn (rn, kp', 1, cu1) h2 (nI (PL tp s N)) (nI N) (fun (k20_4 : Int32) (k20_r : RT) => some (k20_4, k20_r)) (fun (k86_r : RT) => some (nI N, k86_r, le', la', nu', (0 : Int32), nI (PL tp s N), nI N, kp', 1, cu1)) rfl N 0 400 400 (by omega) (by omega) (by omega) rn W zn with ⟨j, r1, ik', cu', e3, e4, z1, hj⟩ | ⟨r', e3, e4, W', z'⟩
    · rw [show nI (PL tp s 0) = (0 : Int32) from rfl, show nI 0 = (0 : Int32) from rfl] at e3
      rw [show nI 0 = (0 : Int32) from rfl] at e4
      rw [e3, e4, bd_s]
      simp only
      rw [if_pos (neg_le (i := -2000) rfl (by omega) (by omega) hj)]
      exact ⟨_, _, _, _, _, _, _, _, _, _, _, rfl, rfl, W, zn, z1, fun j hj => h3 j (by omega)⟩
    · rw [show nI (PL tp s 0) = (0 : Int32) from rfl, show nI 0 = (0 : Int32) from rfl] at e3
      rw [show nI 0 = (0 : Int32) from rfl] at e4
      rw [e3, e4, bd_s]
      simp only
      rw [if_neg (nI_nle (by omega) (by omega)), become_e zn z', bd_s]
      exact ⟨_, _, _, _, _, _, _, _, _, _, _, rfl, rfl, W', z', z', fun j hj => h3 j (by omega)⟩
