/-! ===== where floes are and what they bear: both sides say the same ===== -/
theorem sg_v (x : Int32) : 0 ≤ x ↔ bt x 31 = false := by
  have h : (0 : Int32) ≤ x ↔ BitVec.sle 0#32 x.toBitVec = true := Iff.rfl
  rw [h, BitVec.zero_sle_iff_msb_eq_false, BitVec.msb_eq_getLsbD_last]
  exact Iff.rfl
theorem sg_x (v : Int32) : 0 ≤ (v ^^^ (10 : Int32)) ↔ 0 ≤ v := by
  rw [sg_v, sg_v]
  have e : bt (v ^^^ (10 : Int32)) 31 = (bt v 31 ^^ bt 10 31) := by unfold bt; rw [Int32.toBitVec_xor, BitVec.getLsbD_xor]
  rw [e, show bt 10 31 = false by decide]
  simp
theorem sg_6 (v : Int32) : 0 ≤ (v ^^^ (6 : Int32)) ↔ 0 ≤ v := by
  rw [sg_v, sg_v]
  have e : bt (v ^^^ (6 : Int32)) 31 = (bt v 31 ^^ bt 6 31) := by unfold bt; rw [Int32.toBitVec_xor, BitVec.getLsbD_xor]
  rw [e, show bt 6 31 = false by decide]
  simp
theorem rem10 (v : Int32) : (v - v / (10 : Int32) * (10 : Int32)).toInt = v.toInt.tmod 10 := by
  have hv1 := v.minValue_le_toInt
  have hv2 := v.toInt_le
  have e10 : (10 : Int32).toInt = 10 := rfl
  have hd : (v / (10 : Int32)).toInt = v.toInt.tdiv 10 := by
    rw [Int32.toInt_div_of_ne_right _ _ (by decide), e10]
  have h1 := Int.tdiv_mul_add_tmod v.toInt 10
  have h2 := Int.tmod_lt_of_pos v.toInt (b := 10) (by decide)
  have h3 := Int.lt_tmod_of_pos v.toInt (b := 10) (by decide)
  have hm : (Int32.minValue).toInt = -2147483648 := rfl
  have hM : (Int32.maxValue).toInt = 2147483647 := rfl
  have hp1 : 0 ≤ v.toInt → 0 ≤ v.toInt.tmod 10 := fun h => Int.tmod_nonneg _ h
  have hp2 : v.toInt ≤ 0 → v.toInt.tmod 10 ≤ 0 := fun h => by
    have := Int.tmod_nonneg (a := -v.toInt) 10 (by omega)
    rw [Int.neg_tmod] at this
    omega
  have hmul : (v / (10 : Int32) * (10 : Int32)).toInt = v.toInt.tdiv 10 * 10 := by
    rcases Int.le_total 0 v.toInt with hs | hs
    · have := hp1 hs
      rw [ti_mul (by rw [hd, e10]; omega) (by rw [hd, e10]; omega), hd, e10]
    · have := hp2 hs
      rw [ti_mul (by rw [hd, e10]; omega) (by rw [hd, e10]; omega), hd, e10]
  rw [ti_sub (by rw [hmul]; omega) (by rw [hmul]; omega), hmul]
  omega
def rnd (v : Int32) : Int32 := ((v - v / (10 : Int32) * (10 : Int32)) + (10 : Int32)) - ((v - v / (10 : Int32) * (10 : Int32)) + (10 : Int32)) / (10 : Int32) * (10 : Int32)
theorem rnd_t : ∀ k, k < 19 → ((nI k - 9) + (10 : Int32)) - ((nI k - 9) + (10 : Int32)) / (10 : Int32) * (10 : Int32) = (if nI k - 9 < 0 then (nI k - 9) + 10 else nI k - 9) ∧ ∃ w, w < 10 ∧ (if nI k - 9 < 0 then (nI k - 9) + 10 else nI k - 9) = nI w := by
  intro k hk
  have h : ∀ k, k < 19 → ((nI k - 9) + (10 : Int32)) - ((nI k - 9) + (10 : Int32)) / (10 : Int32) * (10 : Int32) = (if nI k - 9 < 0 then (nI k - 9) + 10 else nI k - 9) ∧ (if nI k - 9 < 0 then (nI k - 9) + 10 else nI k - 9) = nI ((k + 1) % 10) := by decide +kernel
  exact ⟨(h k hk).1, (k + 1) % 10, Nat.mod_lt _ (by decide), (h k hk).2⟩
theorem rem_k (v : Int32) : ∃ k, k < 19 ∧ v - v / (10 : Int32) * (10 : Int32) = nI k - 9 := by
  have h1 := rem10 v
  have h2 := Int.tmod_lt_of_pos v.toInt (b := 10) (by decide)
  have h3 := Int.lt_tmod_of_pos v.toInt (b := 10) (by decide)
  refine ⟨(v.toInt.tmod 10 + 9).toNat, by omega, (i_eq _ _).mpr ?_⟩
  have e9 : (9 : Int32).toInt = 9 := rfl
  rw [h1, ti_sub (by rw [ti_n (by omega), e9]; omega) (by rw [ti_n (by omega), e9]; omega), ti_n (by omega), e9]
  omega
theorem rnd_in (v : Int32) : ∃ w, w < 10 ∧ rnd v = nI w := by
  obtain ⟨k, hk, e⟩ := rem_k v
  unfold rnd
  rw [e]
  obtain ⟨h1, w, hw, h2⟩ := rnd_t k hk
  exact ⟨w, hw, h1.trans h2⟩
theorem fmd10 (v : Int32) : fJ9_floorMod_7cf53 v (10 : Int32) = some (rnd v) := by
  unfold fJ9_floorMod_7cf53
  rw [ckz_ok _ (by decide)]
  obtain ⟨k, hk, e⟩ := rem_k v
  have hr : rnd v = if nI k - 9 < 0 then (nI k - 9) + 10 else nI k - 9 := by unfold rnd; rw [e]; exact (rnd_t k hk).1
  have ht : (nI k - 9).toInt = v.toInt.tmod 10 := by rw [← e]; exact rem10 v
  rw [hr, e]
  have z0 : (0 : Int32).toInt = 0 := rfl
  by_cases hs : 0 ≤ v
  · rw [if_pos ((sg_x v).mpr hs)]
    have : 0 ≤ v.toInt.tmod 10 := Int.tmod_nonneg _ (by rw [i_le, z0] at hs; exact hs)
    rw [if_neg (by rw [i_lt, ht, z0]; omega)]
  · rw [if_neg (fun h => hs ((sg_x v).mp h))]
    have hneg : v.toInt.tmod 10 ≤ 0 := by
      rw [i_le, z0] at hs
      have := Int.tmod_nonneg (a := -v.toInt) 10 (by omega)
      rw [Int.neg_tmod] at this
      omega
    by_cases h0 : nI k - 9 = 0
    · rw [if_pos h0, h0]
      rfl
    · rw [if_neg h0, if_pos]
      rw [i_lt, ht, z0]
      have : ¬ v.toInt.tmod 10 = 0 := fun q => h0 ((i_eq _ _).mpr (by rw [ht, z0]; exact q))
      omega
theorem m6 {k : Nat} (h : k < 2 ^ 31) : nI k - nI k / (6 : Int32) * (6 : Int32) = nI (k % 6) := pk_rem h (by decide) (by decide)
theorem m2 {k : Nat} (h : k < 2 ^ 31) : nI k - nI k / (2 : Int32) * (2 : Int32) = nI (k % 2) := pk_rem h (by decide) (by decide)
theorem d4 {k : Nat} (h : k < 2 ^ 31) : nI k / (4 : Int32) = nI (k / 4) := pk_div h (by decide) (by decide)
theorem d6 {k : Nat} (h : k < 2 ^ 31) : nI k / (6 : Int32) = nI (k / 6) := pk_div h (by decide) (by decide)
theorem fmd6 {k : Nat} (h : k < 2 ^ 31) : fJ9_floorMod_7cf53 (nI k) (6 : Int32) = some (nI (k % 6)) := by
  unfold fJ9_floorMod_7cf53
  rw [ckz_ok _ (by decide), if_pos ((sg_6 _).mpr (nI_pos' h)), m6 h]
/-- the turned minute -/
def trn (k : Nat) : Nat := if 3 < k % 6 then 6 - k % 6 else k % 6
theorem trn_t : ∀ q, q < 6 → (if (3 : Int32) < nI q then (6 : Int32) - nI q else nI q) = nI (if 3 < q then 6 - q else q) ∧ (if nI q ≤ (3 : Int32) then nI q else (6 : Int32) - nI q) = nI (if 3 < q then 6 - q else q) := by decide +kernel
theorem turned_e {k : Nat} (h : k < 2 ^ 31) : fX4_turned (nI k) = some (nI (trn k)) := by
  unfold fX4_turned
  rw [m6 h]
  have := (trn_t (k % 6) (Nat.mod_lt _ (by decide))).2
  unfold trn
  rw [← this]
  by_cases c : nI (k % 6) ≤ (3 : Int32)
  · rw [if_pos c, if_pos c]
  · rw [if_neg c, if_neg c]
theorem round_e (v : Int32) : fX4_round v = some (rnd v) := rfl
/-- rivers that can be: n floes, minute t -/
def VR (n t : Nat) (r : RT) : Prop := n ≤ 8 ∧ t ≤ 60 ∧ R_floes r = nI n ∧ R_minute r = nI t ∧ ∀ j, j < n → (∃ c, c < 10 ∧ R_cells r j = nI c) ∧ (∃ b, b ≤ 9 ∧ R_strengths r j = nI b)
/-- where floe j is in minute k -/
def spv (r : RT) (j k : Nat) : Int32 := if R_kinds r j = 4 then R_cells r j else rnd (R_cells r j + R_paces r j * (if R_kinds r j = 3 then nI (trn k) else nI k))
/-- what floe j bears in minute k -/
def mlt (r : RT) (j k : Nat) : Int32 := if R_strengths r j ≤ nI (k / 4) then 0 else R_strengths r j - nI (k / 4)
def brv (r : RT) (j k : Nat) : Int32 := if R_kinds r j = 1 then mlt r j k else if R_kinds r j = 2 then (if mlt r j k ≤ 0 then 0 else mlt r j k - nI (k % 2)) else if R_kinds r j = 5 then R_strengths r j + nI (k / 6) else R_strengths r j
theorem spv_in {n t : Nat} {r : RT} (V : VR n t r) {j : Nat} (hj : j < n) (k : Nat) : ∃ w, w < 10 ∧ spv r j k = nI w := by
  unfold spv
  by_cases c : R_kinds r j = 4
  · rw [if_pos c]; exact (V.2.2.2.2 j hj).1
  · rw [if_neg c]; exact rnd_in _
theorem ck8 {α : Type} {j : Nat} (h : j < 8) (a : Option α) : ck (nI j) 8 a = a := ck_n a h (by decide)
theorem cl8 {j : Nat} (h : j < 8) : (nI j).toNatClampNeg = j := cl_n (by omega)
theorem has_y {n t : Nat} {r : RT} (V : VR n t r) {j : Nat} (hj : j < n) : fX0_has (nI j) r = some 1 := by
  have h8 := V.1
  unfold fX0_has
  rw [V.2.2.1, if_neg (nI_pos (by omega)), if_neg (nI_ge hj (by omega)), if_neg (g_ge (n := 8) (by omega) (by decide))]
theorem has_n {n t : Nat} {r : RT} (V : VR n t r) {j : Nat} (hj : n ≤ j) (hj2 : j < 2 ^ 31) : fX0_has (nI j) r = some 0 := by
  have h8 := V.1
  unfold fX0_has
  rw [V.2.2.1, if_neg (nI_pos hj2), if_pos (nI_le hj hj2)]
theorem has_neg {n t : Nat} {r : RT} (_ : VR n t r) {x : Int32} (hx : x < 0) : fX0_has x r = some 0 := by
  unfold fX0_has
  rw [if_pos hx]
theorem spotAt_e (kd ce pa : Int32) {k : Nat} (hk : k < 2 ^ 31) : fX0_spotAt kd ce pa (nI k) = some (if kd = 4 then ce else rnd (ce + pa * (if kd = 3 then nI (trn k) else nI k))) := by
  unfold fX0_spotAt
  by_cases c : kd = 4
  · rw [if_pos c, if_pos c]
  · rw [if_neg c, if_neg c, fmd6 hk]
    dsimp only [jn]
    by_cases c3 : kd = 3
    · simp only [if_pos c3, bd_s, fmd10]
      have e := (trn_t (k % 6) (Nat.mod_lt _ (by decide))).1
      unfold trn
      rw [← e]
      by_cases q : (3 : Int32) < nI (k % 6)
      · rw [if_pos q, if_pos q]
      · rw [if_neg q, if_neg q]
    · simp only [if_neg c3, bd_s, fmd10]
theorem spotOf_y {n t : Nat} {r : RT} (V : VR n t r) {j k : Nat} (hj : j < n) (hk : k < 2 ^ 31) : fX0_spotOf (nI j) (nI k) r = some (spv r j k) := by
  have h8 : j < 8 := Nat.lt_of_lt_of_le hj V.1
  unfold fX0_spotOf
  rw [has_y V hj]
  simp only [bd_s, ck8 h8, cl8 h8, spotAt_e _ _ _ hk]
  rfl
theorem spotOf_n {n t : Nat} {r : RT} (V : VR n t r) {j : Nat} (x : Int32) (hj : n ≤ j) (hj2 : j < 2 ^ 31) : fX0_spotOf (nI j) x r = some (-9) := by
  unfold fX0_spotOf
  rw [has_n V hj hj2]
  rfl
theorem laneOf_y {n t : Nat} {r : RT} (V : VR n t r) {j : Nat} (hj : j < n) : fX0_laneOf (nI j) r = some (R_homes r j) := by
  have h8 : j < 8 := Nat.lt_of_lt_of_le hj V.1
  unfold fX0_laneOf
  rw [has_y V hj]
  simp only [bd_s, ck8 h8, cl8 h8]
  rfl
theorem laneOf_n {n t : Nat} {r : RT} (V : VR n t r) {j : Nat} (hj : n ≤ j) (hj2 : j < 2 ^ 31) : fX0_laneOf (nI j) r = some (-9) := by
  unfold fX0_laneOf
  rw [has_n V hj hj2]
  rfl
theorem whereIs_e {r : RT} {t : Nat} (hm : R_minute r = nI t) (ht : t < 2 ^ 31) (pl : Int32) {j k : Nat} (h8 : j < 8) (hk : k < 2 ^ 31) : fX4_whereIs (nI j) (nI k) r pl = some (spv r j (if bt pl j then t else k)) := by
  unfold fX4_whereIs
  rw [bit pl (show j < 32 by omega), jn_it, hm]
  have e : (if bI (bt pl j) = (1 : Int32) then nI t else nI k) = nI (if bt pl j then t else k) := by
    cases bt pl j <;> rfl
  rw [e]
  have hq : (if bt pl j then t else k) < 2 ^ 31 := by cases bt pl j <;> simp [ht, hk]
  generalize (if bt pl j then t else k) = q at hq ⊢
  simp only [ck8 h8, cl8 h8]
  unfold spv
  by_cases c : R_kinds r j = (4 : Int32)
  · rw [if_pos c, if_pos c]
  · rw [if_neg c, if_neg c]
    dsimp only [jn]
    by_cases c3 : R_kinds r j = (3 : Int32)
    · simp only [if_pos c3, turned_e hq, bd_s, round_e]
    · simp only [if_neg c3, bd_s, round_e]
theorem bearsIn_e (r : RT) {j k : Nat} (h8 : j < 8) (hk : k < 2 ^ 31) : fX4_bearsIn (nI j) (nI k) r = some (brv r j k) := by
  unfold fX4_bearsIn
  simp only [ck8 h8, cl8 h8, d4 hk, d6 hk, m2 hk, jn_it]
  show _ = some (brv r j k)
  unfold brv
  rw [show (if R_strengths r j ≤ nI (k / 4) then (0 : Int32) else R_strengths r j - nI (k / 4)) = mlt r j k from rfl]
  by_cases c1 : R_kinds r j = (1 : Int32)
  · rw [if_pos c1, if_pos c1]
  · rw [if_neg c1, if_neg c1]
    by_cases c2 : R_kinds r j = (2 : Int32)
    · rw [if_pos c2, if_pos c2]
      by_cases q : mlt r j k ≤ 0
      · rw [if_pos q, if_pos q]
      · rw [if_neg q, if_neg q]
    · rw [if_neg c2, if_neg c2]
      by_cases c3 : R_kinds r j = (3 : Int32)
      · rw [if_pos c3, if_neg (by rw [c3]; decide)]
      · rw [if_neg c3]
        by_cases c4 : R_kinds r j = (4 : Int32)
        · rw [if_pos c4, if_neg (by rw [c4]; decide)]
        · rw [if_neg c4]
          by_cases c5 : R_kinds r j = (5 : Int32)
          · rw [if_pos c5, if_pos c5]
          · rw [if_neg c5, if_neg c5]
theorem strengthOf_y {n t : Nat} {r : RT} (V : VR n t r) {j k : Nat} (hj : j < n) (hk : k < 2 ^ 31) : fX0_strengthOf (nI j) (nI k) r = some (brv r j k) := by
  have h8 : j < 8 := Nat.lt_of_lt_of_le hj V.1
  obtain ⟨b, hb, eb⟩ := (V.2.2.2.2 j hj).2
  unfold fX0_strengthOf
  rw [has_y V hj]
  simp only [bd_s, ck8 h8, cl8 h8, d4 hk, d6 hk, m2 hk]
  rw [if_neg (by decide : ¬ (1 : Int32) = 0)]
  have z0 : (0 : Int32).toInt = 0 := rfl
  have hs : (nI b - nI (k / 4)).toInt = (b : Int) - (k / 4 : Nat) := by
    rw [ti_sub (by rw [ti_n (by omega), ti_n (by omega)]; omega) (by rw [ti_n (by omega), ti_n (by omega)]; omega), ti_n (by omega), ti_n (by omega)]
  have hp : (0 : Int32) < nI b - nI (k / 4) ↔ k / 4 < b := by rw [i_lt, hs, z0]; omega
  have hq : nI b ≤ nI (k / 4) ↔ b ≤ k / 4 := nI_leI (by omega) (by omega)
  have hm : mlt r j k = if k / 4 < b then nI (b - k / 4) else 0 := by
    unfold mlt
    rw [eb]
    by_cases c : k / 4 < b
    · rw [if_neg (by rw [hq]; omega), if_pos c, pk_sub (by omega)]
    · rw [if_pos (by rw [hq]; omega), if_neg c]
  unfold brv
  rw [hm, eb]
  by_cases c1 : R_kinds r j = (1 : Int32)
  · rw [if_pos c1, if_pos c1]
    by_cases c : k / 4 < b
    · rw [if_pos (hp.mpr c), if_pos c, pk_sub (by omega)]
    · rw [if_neg (fun h => c (hp.mp h)), if_neg c]
  · rw [if_neg c1, if_neg c1]
    by_cases c2 : R_kinds r j = (2 : Int32)
    · rw [if_pos c2, if_pos c2]
      have hz : ((nI b - nI (k / 4)) - nI (k % 2)).toInt = (b : Int) - (k / 4 : Nat) - (k % 2 : Nat) := by
        rw [ti_sub (by rw [hs, ti_n (by omega)]; omega) (by rw [hs, ti_n (by omega)]; omega), hs, ti_n (by omega)]
      by_cases c : k / 4 < b
      · rw [if_pos c, if_neg (g_nle (n := 0) (by omega) (by omega))]
        rw [pk_sub (show k / 4 ≤ b by omega)] at hz ⊢
        by_cases c0 : (0 : Int32) < nI (b - k / 4) - nI (k % 2)
        · rw [if_pos c0]
        · rw [if_neg c0]
          apply congrArg some
          rw [i_lt, hz, z0] at c0
          rw [i_eq, hz, z0]
          omega
      · rw [if_neg c, if_pos (show (0 : Int32) ≤ 0 by decide), if_neg (show ¬ (0 : Int32) < nI b - nI (k / 4) - nI (k % 2) by rw [i_lt, hz, z0]; omega)]
    · rw [if_neg c2, if_neg c2]
      by_cases c3 : R_kinds r j = (3 : Int32)
      · rw [if_pos c3, if_neg (by rw [c3]; decide)]
      · rw [if_neg c3]
        by_cases c4 : R_kinds r j = (4 : Int32)
        · rw [if_pos c4, if_neg (by rw [c4]; decide)]
        · rw [if_neg c4]
          by_cases c5 : R_kinds r j = (5 : Int32)
          · rw [if_pos c5, if_pos c5]
          · rw [if_neg c5, if_neg c5]
