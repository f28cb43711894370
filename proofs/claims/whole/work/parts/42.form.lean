/-! ===== letters and forms ===== -/
/-- the letter at a place; -1 behind the end -/
def lt (tp : AR) (s i : Nat) : Int32 := if i < s then tp i else -1
def TP (tp : AR) : Prop := ∀ j, ∃ b, b < 256 ∧ tp j = nI b
theorem lt_c {tp : AR} (T : TP tp) (s i : Nat) : lt tp s i = -1 ∨ ∃ b, b < 256 ∧ lt tp s i = nI b := by
  unfold lt
  by_cases c : i < s
  · rw [if_pos c]; exact Or.inr (T i)
  · rw [if_neg c]; exact Or.inl rfl
theorem lt_in {tp : AR} {s i : Nat} (h : ¬ lt tp s i = -1) : i < s := by
  rcases Nat.lt_or_ge i s with c | c
  · exact c
  · exfalso; apply h; unfold lt; rw [if_neg (by omega)]
theorem letterAt_e (tp : AR) {s i : Nat} (hs : s ≤ 80) (hi : i < 2 ^ 30) : fX1_letterAt (nI i) tp (nI s) = some (lt tp s i) := by
  unfold fX1_letterAt lt
  rw [if_neg (nI_pos (by omega))]
  by_cases c : i < s
  · rw [if_neg (nI_ge c (by omega)), if_neg (g_ge (n := 80) (by omega) (by decide)), ck_n _ (show i < 80 by omega) (by decide), cl_n (by omega), if_pos c]
  · rw [if_pos (nI_le (by omega) (by omega)), if_neg c]
theorem nextLetter_e (tp : AR) {s i : Nat} (hs : s ≤ 80) (hi : i < 2 ^ 30) : fX4_nextLetter tp (nI s) (nI i) = some (lt tp s i) := by
  unfold fX4_nextLetter lt
  by_cases c : i < s
  · rw [if_neg (nI_ge c (by omega)), ck_n _ (show i < 80 by omega) (by decide), cl_n (by omega), if_pos c]
  · rw [if_pos (nI_le (by omega) (by omega)), if_neg c]
/-- a digit -/
def dgB (x : Int32) : Bool := !decide (x < (48 : Int32)) && !decide ((57 : Int32) < x)
def dv (x : Int32) : Nat := x.toNatClampNeg - 48
theorem dg_v {x : Int32} (h : dgB x = true) : dv x ≤ 9 ∧ x = nI (48 + dv x) ∧ x - (48 : Int32) = nI (dv x) := by
  unfold dgB at h
  simp only [Bool.and_eq_true_iff, Bool.not_eq_true', decide_eq_false_iff_not] at h
  obtain ⟨h1, h2⟩ := h
  have e48 : (48 : Int32).toInt = 48 := rfl
  have e57 : (57 : Int32).toInt = 57 := rfl
  rw [i_lt, e48] at h1
  rw [i_lt, e57] at h2
  have e : x = nI x.toInt.toNat := i_of (by omega) (by omega)
  have hc : x.toNatClampNeg = x.toInt.toNat := by
    rw [e]
    rw [cl_n (by omega), ti_n (by omega)]; omega
  have hv : dv x = x.toInt.toNat - 48 := by unfold dv; rw [hc]
  refine ⟨by omega, ?_, ?_⟩
  · rw [hv]
    refine e.trans (congrArg nI ?_)
    omega
  · rw [hv, ← pk_sub (b := 48) (by omega), ← e]; rfl
theorem isOf_d (x : Int32) : fX1_isOf (100 : Int32) x = some (bI (dgB x)) := by
  unfold fX1_isOf dgB
  rw [if_neg (by decide), if_pos rfl]
  by_cases c1 : x < (48 : Int32)
  · rw [if_pos c1, decide_eq_true c1]; rfl
  · rw [if_neg c1, decide_eq_false c1]
    by_cases c2 : (57 : Int32) < x
    · rw [if_pos c2, decide_eq_true c2]; rfl
    · rw [if_neg c2, decide_eq_false c2]; rfl
theorem isIn_d (x : Int32) : fX4_isIn x (48 : Int32) (57 : Int32) = some (bI (dgB x)) := by
  unfold fX4_isIn dgB
  by_cases c1 : x < (48 : Int32)
  · rw [if_pos c1, decide_eq_true c1]; rfl
  · rw [if_neg c1, decide_eq_false c1]
    by_cases c2 : (57 : Int32) < x
    · rw [if_pos c2, decide_eq_true c2]; rfl
    · rw [if_neg c2, decide_eq_false c2]; rfl
/-- a kind's number -/
def ch (k : Nat) : Nat := [102, 109, 103, 116, 104, 115].getD k 0
theorem ch_t : ∀ k, k < 6 → fJ0_charAt_5068e 5 (nI k) = some (nI (ch k)) := by decide +kernel
theorem len_t : ∀ q, q < 6 → fJ0_length_8abf5 q = some (nI (lenS.getD q 0)) := by decide +kernel
def kfr : Nat → Nat → Int32 → Int32
  | 0, _, _ => -1
  | d + 1, k, x => if nI (ch k) = x then nI k else kfr d (k + 1) x
def kd (x : Int32) : Int32 := kfr 6 0 x
theorem kind_in (x : Int32) (K : Unit → Option Int32) (hK : K () = some (-1)) : ∀ d k fuel : Nat, k + d = 6 → d < fuel → fX1_kindOf_L2 x K fuel (nI k) = some (kfr d k x) := by
  intro d
  induction d with
  | zero =>
    intro k fuel hk hf
    obtain ⟨fuel, rfl⟩ : ∃ q, fuel = q + 1 := ⟨fuel - 1, by omega⟩
    rw [fX1_kindOf_L2, len_t 5 (by decide), bd_s, if_pos (nI_le (a := lenS.getD 5 0) (show 6 ≤ k by omega) (by omega)), hK]; rfl
  | succ d ih =>
    intro k fuel hk hf
    obtain ⟨fuel, rfl⟩ : ∃ q, fuel = q + 1 := ⟨fuel - 1, by omega⟩
    rw [fX1_kindOf_L2, len_t 5 (by decide), bd_s, if_neg (nI_ge (b := lenS.getD 5 0) (show k < 6 by omega) (by decide)), ch_t k (by omega), bd_s, nI1, ih (k + 1) fuel (by omega) (by omega)]
    show _ = some (if nI (ch k) = x then nI k else kfr d (k + 1) x)
    by_cases c : nI (ch k) = x
    · rw [if_pos c, if_pos c]
    · rw [if_neg c, if_neg c]
theorem kindOf_x (x : Int32) : fX1_kindOf x = some (kd x) := kind_in x _ rfl 6 0 400 (by omega) (by omega)
theorem kd_e (x : Int32) : kd x = if (102 : Int32) = x then 0 else if (109 : Int32) = x then 1 else if (103 : Int32) = x then 2 else if (116 : Int32) = x then 3 else if (104 : Int32) = x then 4 else if (115 : Int32) = x then 5 else -1 := rfl
theorem kindOf_m (x : Int32) : fX4_kindOf x = some (kd x) := by
  rw [kd_e]
  by_cases h1 : x = (102 : Int32)
  · subst h1; decide
  by_cases h2 : x = (109 : Int32)
  · subst h2; decide
  by_cases h3 : x = (103 : Int32)
  · subst h3; decide
  by_cases h4 : x = (116 : Int32)
  · subst h4; decide
  by_cases h5 : x = (104 : Int32)
  · subst h5; decide
  by_cases h6 : x = (115 : Int32)
  · subst h6; decide
  rw [if_neg (fun e => h1 e.symm), if_neg (fun e => h2 e.symm), if_neg (fun e => h3 e.symm), if_neg (fun e => h4 e.symm), if_neg (fun e => h5 e.symm), if_neg (fun e => h6 e.symm)]
  unfold fX4_kindOf
  simp only [if_neg h1, if_neg h2, if_neg h3, if_neg h4, if_neg h5, if_neg h6, ite_self]
theorem kd_c (x : Int32) : kd x = -1 ∨ ∃ v, v ≤ 5 ∧ kd x = nI v := by
  rw [kd_e]
  by_cases h1 : (102 : Int32) = x
  · rw [if_pos h1]; exact Or.inr ⟨0, by omega, rfl⟩
  rw [if_neg h1]
  by_cases h2 : (109 : Int32) = x
  · rw [if_pos h2]; exact Or.inr ⟨1, by omega, rfl⟩
  rw [if_neg h2]
  by_cases h3 : (103 : Int32) = x
  · rw [if_pos h3]; exact Or.inr ⟨2, by omega, rfl⟩
  rw [if_neg h3]
  by_cases h4 : (116 : Int32) = x
  · rw [if_pos h4]; exact Or.inr ⟨3, by omega, rfl⟩
  rw [if_neg h4]
  by_cases h5 : (104 : Int32) = x
  · rw [if_pos h5]; exact Or.inr ⟨4, by omega, rfl⟩
  rw [if_neg h5]
  by_cases h6 : (115 : Int32) = x
  · rw [if_pos h6]; exact Or.inr ⟨5, by omega, rfl⟩
  rw [if_neg h6]; exact Or.inl rfl
/-- what a sign of a form asks -/
def iob (sg x : Int32) : Bool := if sg = (63 : Int32) then false else if sg = (100 : Int32) then dgB x else if sg = (107 : Int32) then !decide (kd x < 0) else if sg = (115 : Int32) then (decide (x = (108 : Int32)) || decide (x = (114 : Int32))) else decide (x = sg)
theorem isOf_e (sg x : Int32) : fX1_isOf sg x = some (bI (iob sg x)) := by
  by_cases h2 : sg = (100 : Int32)
  · subst h2; exact isOf_d x
  unfold fX1_isOf iob
  by_cases h1 : sg = (63 : Int32)
  · rw [if_pos h1, if_pos h1]; rfl
  rw [if_neg h1, if_neg h1, if_neg h2, if_neg h2]
  by_cases h3 : sg = (107 : Int32)
  · rw [if_pos h3, if_pos h3, kindOf_x, bd_s]
    by_cases c : kd x < 0
    · rw [if_pos c, decide_eq_true c]; rfl
    · rw [if_neg c, decide_eq_false c]; rfl
  rw [if_neg h3, if_neg h3]
  by_cases h4 : sg = (115 : Int32)
  · rw [if_pos h4, if_pos h4]
    by_cases c : x = (108 : Int32)
    · rw [if_pos c, decide_eq_true c]; rfl
    · rw [if_neg c, decide_eq_false c]
      by_cases c2 : x = (114 : Int32)
      · rw [if_pos c2, decide_eq_true c2]; rfl
      · rw [if_neg c2, decide_eq_false c2]; rfl
  rw [if_neg h4, if_neg h4]
  by_cases c : x = sg
  · rw [if_pos c, decide_eq_true c]; rfl
  · rw [if_neg c, decide_eq_false c]; rfl
/-- the form of the statement at a place -/
def FM (tp : AR) (s i : Nat) : Nat := if lt tp s i = (102 : Int32) then 1 else if lt tp s i = (109 : Int32) then (if dgB (lt tp s (i + 2)) then 2 else 3) else if lt tp s i = (114 : Int32) then 0 else 4
theorem FM_lt (tp : AR) (s i : Nat) : FM tp s i < 6 := by unfold FM; split <;> (try split) <;> (try split) <;> omega
theorem formAt_e (tp : AR) {s i : Nat} (hs : s ≤ 80) (hi : i < 2 ^ 29) : fX1_formAt (nI i) tp (nI s) = some (FM tp s i) := by
  unfold fX1_formAt FM
  rw [letterAt_e tp hs (by omega), bd_s]
  by_cases h1 : lt tp s i = (102 : Int32)
  · rw [if_pos h1, if_pos h1]
  rw [if_neg h1, if_neg h1]
  by_cases h2 : lt tp s i = (109 : Int32)
  · rw [if_pos h2, if_pos h2, show (2 : Int32) = nI 2 from rfl, nI_add, letterAt_e tp hs (by omega), bd_s, isOf_d, bd_s, if_bI]
    cases dgB (lt tp s (i + 2)) <;> rfl
  rw [if_neg h2, if_neg h2]
  by_cases h3 : lt tp s i = (114 : Int32)
  · rw [if_pos h3, if_pos h3]
  · rw [if_neg h3, if_neg h3]
def ln (tp : AR) (s i : Nat) : Nat := lenS.getD (FM tp s i) 0
theorem ln_c (tp : AR) (s i : Nat) : 1 ≤ ln tp s i ∧ ln tp s i ≤ 8 := by
  have h : ∀ q, q < 6 → 1 ≤ lenS.getD q 0 ∧ lenS.getD q 0 ≤ 8 := by decide
  exact h _ (FM_lt tp s i)
/-- a form's sign -/
def sg (q k : Nat) : Int32 := ((bytS.getD q []).getD k 0) &&& 255
theorem charAt_e {q k : Nat} (hq : q < 6) (hk : k < lenS.getD q 0) : fJ0_charAt_5068e q (nI k) = some (sg q k) := by
  have h8 : ∀ q, q < 6 → lenS.getD q 0 ≤ 8 := by decide
  have := h8 q hq
  unfold fJ0_charAt_5068e sg
  rw [if_pos hq, ck_n _ hk (by omega), cl_n (by omega)]
/-- the first place of a statement where a form isn't met -/
def fsN (tb : Nat → Bool) (i : Nat) : Nat → Nat → Option Nat
  | 0, _ => none
  | d + 1, k => if tb k then fsN tb i d (k + 1) else some (i + k)
theorem fsN_s (tb : Nat → Bool) (i d k : Nat) : fsN tb i (d + 1) k = if tb k then fsN tb i d (k + 1) else some (i + k) := rfl
def tbX (tp : AR) (s i k : Nat) : Bool := iob (sg (FM tp s i) k) (lt tp s (i + k))
def bp (tp : AR) (s i : Nat) : Option Nat := fsN (tbX tp s i) i (ln tp s i) 0
theorem form_in (tp : AR) {s i : Nat} (hs : s ≤ 80) (hi : i < 2 ^ 29) (K : Unit → Option Int32) : ∀ d k fuel : Nat, k + d = ln tp s i → d < fuel → fX1_faultOfForm_L31 tp (nI s) (FM tp s i) (nI i) K fuel (nI k) = match fsN (tbX tp s i) i d k with | none => K () | some j => some (nI j) := by
  have hl := (ln_c tp s i).2
  have hq := FM_lt tp s i
  intro d
  induction d with
  | zero =>
    intro k fuel hk hf
    obtain ⟨fuel, rfl⟩ : ∃ q, fuel = q + 1 := ⟨fuel - 1, by omega⟩
    rw [fX1_faultOfForm_L31, len_t _ hq, bd_s, if_pos (nI_le (a := lenS.getD (FM tp s i) 0) (show ln tp s i ≤ k by omega) (by omega))]; rfl
  | succ d ih =>
    intro k fuel hk hf
    obtain ⟨fuel, rfl⟩ : ∃ q, fuel = q + 1 := ⟨fuel - 1, by omega⟩
    have hkl : k < ln tp s i := by omega
    rw [fX1_faultOfForm_L31, len_t _ hq, bd_s, if_neg (nI_ge (b := lenS.getD (FM tp s i) 0) hkl (by show ln tp s i < _; omega)), charAt_e hq hkl, bd_s, nI_add, letterAt_e tp hs (by omega), bd_s, isOf_e, bd_s, if_bI, nI1, ih (k + 1) fuel (by omega) (by omega), fsN_s]
    unfold tbX
    cases iob (sg (FM tp s i) k) (lt tp s (i + k)) <;> rfl
