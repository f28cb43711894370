/-! ===== images: what is kept, what comes back ===== -/
theorem RT_ext {a b : RT} (h1 : R_kinds a = R_kinds b) (h2 : R_homes a = R_homes b) (h3 : R_cells a = R_cells b) (h4 : R_paces a = R_paces b) (h5 : R_strengths a = R_strengths b) (h6 : R_lanes a = R_lanes b) (h7 : R_floes a = R_floes b) (h8 : R_minute a = R_minute b) : a = b := by
  obtain ⟨a1, a2, a3, a4, a5, a6, a7, a8⟩ := a
  obtain ⟨b1, b2, b3, b4, b5, b6, b7, b8⟩ := b
  have h1 : a1 = b1 := h1
  have h2 : a2 = b2 := h2
  have h3 : a3 = b3 := h3
  have h4 : a4 = b4 := h4
  have h5 : a5 = b5 := h5
  have h6 : a6 = b6 := h6
  have h7 : a7 = b7 := h7
  have h8 : a8 = b8 := h8
  subst h1 h2 h3 h4 h5 h6 h7 h8
  rfl
/-- nothing stands in a river's rows behind their ends -/
def Zr (r : RT) : Prop := ∀ j, 8 ≤ j → R_kinds r j = 0 ∧ R_homes r j = 0 ∧ R_cells r j = 0 ∧ R_paces r j = 0 ∧ R_strengths r j = 0
theorem become_in (o : RT) (K : RT → Option RT) : ∀ d k fuel : Nat, k + d = 8 → d < fuel → ∀ x : RT, (∀ j, j < k → R_kinds x j = R_kinds o j ∧ R_homes x j = R_homes o j ∧ R_cells x j = R_cells o j ∧ R_paces x j = R_paces o j ∧ R_strengths x j = R_strengths o j) → Zr x → ∃ y, fX0_become_L2 o K fuel (nI k) x = K y ∧ (∀ j, j < 8 → R_kinds y j = R_kinds o j ∧ R_homes y j = R_homes o j ∧ R_cells y j = R_cells o j ∧ R_paces y j = R_paces o j ∧ R_strengths y j = R_strengths o j) ∧ Zr y := by
  intro d
  induction d with
  | zero =>
    intro k fuel hk hf x h z
    obtain ⟨fuel, rfl⟩ : ∃ m, fuel = m + 1 := ⟨fuel - 1, by omega⟩
    exact ⟨x, by rw [fX0_become_L2, if_pos (g_le (n := 8) (by omega) (by omega))], fun j hj => h j (by omega), z⟩
  | succ d ih =>
    intro k fuel hk hf x h z
    obtain ⟨fuel, rfl⟩ : ∃ m, fuel = m + 1 := ⟨fuel - 1, by omega⟩
    have hk8 : k < 8 := by omega
    rw [fX0_become_L2, if_neg (g_ge (n := 8) hk8 (by decide))]
    simp only [ck8 hk8, cl8 hk8, nI1]
    refine ih (k + 1) fuel (by omega) (by omega) _ (fun j hj => ?_) (fun j hj => ?_)
    · by_cases e : j = k
      · subst e
        refine ⟨?_, ?_, ?_, ?_, ?_⟩ <;> exact upd_s _ _ _
      · have := h j (by omega)
        refine ⟨?_, ?_, ?_, ?_, ?_⟩
        · exact (upd_n _ _ e).trans this.1
        · exact (upd_n _ _ e).trans this.2.1
        · exact (upd_n _ _ e).trans this.2.2.1
        · exact (upd_n _ _ e).trans this.2.2.2.1
        · exact (upd_n _ _ e).trans this.2.2.2.2
    · have e : ¬ j = k := by omega
      have := z j hj
      refine ⟨?_, ?_, ?_, ?_, ?_⟩
      · exact (upd_n _ _ e).trans this.1
      · exact (upd_n _ _ e).trans this.2.1
      · exact (upd_n _ _ e).trans this.2.2.1
      · exact (upd_n _ _ e).trans this.2.2.2.1
      · exact (upd_n _ _ e).trans this.2.2.2.2
theorem fn_ext {f g : AR} (h1 : ∀ j, j < 8 → f j = g j) (h2 : ∀ j, 8 ≤ j → f j = 0) (h3 : ∀ j, 8 ≤ j → g j = 0) : f = g := by
  funext j
  rcases Nat.lt_or_ge j 8 with h | h
  · exact h1 j h
  · rw [h2 j h, h3 j h]
theorem become_e {r o : RT} (zr : Zr r) (zo : Zr o) : fX0_become r o = some o := by
  unfold fX0_become
  obtain ⟨y, h1, h2, h3⟩ := become_in o (fun (k2_r : RT) => some (R_setMinute (R_setFloes (R_setLanes k2_r (R_lanes o)) (R_floes o)) (R_minute o))) 8 0 400 (by omega) (by omega) r (fun j hj => by omega) zr
  rw [show nI 0 = (0 : Int32) from rfl] at h1
  rw [h1]
  apply congrArg some
  apply RT_ext
  · exact fn_ext (fun j hj => (h2 j hj).1) (fun j hj => (h3 j hj).1) (fun j hj => (zo j hj).1)
  · exact fn_ext (fun j hj => (h2 j hj).2.1) (fun j hj => (h3 j hj).2.1) (fun j hj => (zo j hj).2.1)
  · exact fn_ext (fun j hj => (h2 j hj).2.2.1) (fun j hj => (h3 j hj).2.2.1) (fun j hj => (zo j hj).2.2.1)
  · exact fn_ext (fun j hj => (h2 j hj).2.2.2.1) (fun j hj => (h3 j hj).2.2.2.1) (fun j hj => (zo j hj).2.2.2.1)
  · exact fn_ext (fun j hj => (h2 j hj).2.2.2.2) (fun j hj => (h3 j hj).2.2.2.2) (fun j hj => (zo j hj).2.2.2.2)
  · rfl
  · rfl
  · rfl
theorem fin100 {α : Type} {j : Nat} (h : j < 100) (a : Option α) : ck (nI j) 100 a = a := ck_n a h (by decide)
theorem cl100 {j : Nat} (h : j < 100) : (nI j).toNatClampNeg = j := cl_n (by omega)
theorem keep2 (r : RT) {c : Nat} (hc : c + 8 ≤ 100) (K : RT → AR → Int32 → Option (RT × AR × Int32)) : ∀ d i fuel : Nat, i + d = 8 → d < fuel → ∀ kp : AR, ∃ kp' : AR, fX4_passes_2_L2 1 K fuel (nI i) r kp (nI (c + i)) = K r kp' (nI (c + 8)) ∧ ∀ j, kp' j = if c + i ≤ j ∧ j < c + 8 then R_kinds r (j - c) else kp j := by
  intro d
  induction d with
  | zero =>
    intro i fuel hi hf kp
    obtain ⟨fuel, rfl⟩ : ∃ m, fuel = m + 1 := ⟨fuel - 1, by omega⟩
    exact ⟨kp, by rw [fX4_passes_2_L2, if_pos (g_le (n := 8) (by omega) (by omega)), show i = 8 by omega], fun j => by rw [if_neg (by omega)]⟩
  | succ d ih =>
    intro i fuel hi hf kp
    obtain ⟨fuel, rfl⟩ : ∃ m, fuel = m + 1 := ⟨fuel - 1, by omega⟩
    have h8 : i < 8 := by omega
    rw [fX4_passes_2_L2, if_neg (g_ge (n := 8) h8 (by decide))]
    dsimp only [jn]
    rw [if_neg (show ¬ (1 : Int32) = 0 by decide), ck8 h8, fin100 (by omega), cl8 h8, cl100 (by omega), nI1, nI1]
    obtain ⟨kp', h1, h2⟩ := ih (i + 1) fuel (by omega) (by omega) (upd kp (c + i) (R_kinds r i))
    refine ⟨kp', h1, fun j => ?_⟩
    rw [h2 j]
    by_cases e : j = c + i
    · subst e
      rw [if_neg (by omega), if_pos (by omega), upd_s, show c + i - c = i by omega]
    · by_cases q : c + (i + 1) ≤ j ∧ j < c + 8
      · rw [if_pos q, if_pos (by omega)]
      · rw [if_neg q, if_neg (by omega), upd_n _ _ e]
theorem bring2 (kp : AR) {c : Nat} (hc : c + 8 ≤ 100) (K : RT → AR → Int32 → Option (RT × AR × Int32)) : ∀ d i fuel : Nat, i + d = 8 → d < fuel → ∀ r : RT, ∃ a : AR, fX4_passes_2_L2 0 K fuel (nI i) r kp (nI (c + i)) = K (R_setKinds r a) kp (nI (c + 8)) ∧ ∀ j, a j = if i ≤ j ∧ j < 8 then kp (c + j) else R_kinds r j := by
  intro d
  induction d with
  | zero =>
    intro i fuel hi hf r
    obtain ⟨fuel, rfl⟩ : ∃ m, fuel = m + 1 := ⟨fuel - 1, by omega⟩
    refine ⟨R_kinds r, ?_, fun j => by rw [if_neg (by omega)]⟩
    rw [fX4_passes_2_L2, if_pos (g_le (n := 8) (by omega) (by omega)), show i = 8 by omega]
    rfl
  | succ d ih =>
    intro i fuel hi hf r
    obtain ⟨fuel, rfl⟩ : ∃ m, fuel = m + 1 := ⟨fuel - 1, by omega⟩
    have h8 : i < 8 := by omega
    rw [fX4_passes_2_L2, if_neg (g_ge (n := 8) h8 (by decide))]
    dsimp only [jn]
    rw [if_pos rfl, fin100 (by omega), ck8 h8, cl8 h8, cl100 (by omega), nI1, nI1]
    obtain ⟨a, h1, h2⟩ := ih (i + 1) fuel (by omega) (by omega) (R_setKinds r (upd (R_kinds r) i (kp (c + i))))
    refine ⟨a, h1, fun j => ?_⟩
    rw [h2 j]
    by_cases e : j = i
    · subst e
      rw [if_neg (by omega), if_pos (by omega)]
      exact upd_s _ _ _
    · by_cases q : i + 1 ≤ j ∧ j < 8
      · rw [if_pos q, if_pos (by omega)]
      · rw [if_neg q, if_neg (by omega)]
        exact upd_n _ _ e
theorem keepP2 (r : RT) {c : Nat} (hc : c + 8 ≤ 100) (kp : AR) : ∃ kp' : AR, fX4_passes_2 r kp 1 (nI c) = some (r, kp', nI (c + 8)) ∧ ∀ j, kp' j = if c ≤ j ∧ j < c + 8 then R_kinds r (j - c) else kp j := by
  obtain ⟨kp', h1, h2⟩ := keep2 r hc (fun (k2_r : RT) (k2_kept : AR) (k2_cursor : Int32) => some (k2_r, k2_kept, k2_cursor)) 8 0 400 (by omega) (by omega) kp
  exact ⟨kp', h1, h2⟩
theorem backP2 (r : RT) {c : Nat} (hc : c + 8 ≤ 100) (kp : AR) : ∃ a : AR, fX4_passes_2 r kp 0 (nI c) = some (R_setKinds r a, kp, nI (c + 8)) ∧ ∀ j, a j = if j < 8 then kp (c + j) else R_kinds r j := by
  obtain ⟨a, h1, h2⟩ := bring2 kp hc (fun (k2_r : RT) (k2_kept : AR) (k2_cursor : Int32) => some (k2_r, k2_kept, k2_cursor)) 8 0 400 (by omega) (by omega) r
  refine ⟨a, h1, fun j => ?_⟩
  rw [h2 j]
  by_cases q : j < 8
  · rw [if_pos ⟨Nat.zero_le j, q⟩, if_pos q]
  · rw [if_neg (fun h => q h.2), if_neg q]
theorem keep3 (r : RT) {c : Nat} (hc : c + 8 ≤ 100) (K : RT → AR → Int32 → Option (RT × AR × Int32)) : ∀ d i fuel : Nat, i + d = 8 → d < fuel → ∀ kp : AR, ∃ kp' : AR, fX4_passes_3_L2 1 K fuel (nI i) r kp (nI (c + i)) = K r kp' (nI (c + 8)) ∧ ∀ j, kp' j = if c + i ≤ j ∧ j < c + 8 then R_homes r (j - c) else kp j := by
  intro d
  induction d with
  | zero =>
    intro i fuel hi hf kp
    obtain ⟨fuel, rfl⟩ : ∃ m, fuel = m + 1 := ⟨fuel - 1, by omega⟩
    exact ⟨kp, by rw [fX4_passes_3_L2, if_pos (g_le (n := 8) (by omega) (by omega)), show i = 8 by omega], fun j => by rw [if_neg (by omega)]⟩
  | succ d ih =>
    intro i fuel hi hf kp
    obtain ⟨fuel, rfl⟩ : ∃ m, fuel = m + 1 := ⟨fuel - 1, by omega⟩
    have h8 : i < 8 := by omega
    rw [fX4_passes_3_L2, if_neg (g_ge (n := 8) h8 (by decide))]
    dsimp only [jn]
    rw [if_neg (show ¬ (1 : Int32) = 0 by decide), ck8 h8, fin100 (by omega), cl8 h8, cl100 (by omega), nI1, nI1]
    obtain ⟨kp', h1, h2⟩ := ih (i + 1) fuel (by omega) (by omega) (upd kp (c + i) (R_homes r i))
    refine ⟨kp', h1, fun j => ?_⟩
    rw [h2 j]
    by_cases e : j = c + i
    · subst e
      rw [if_neg (by omega), if_pos (by omega), upd_s, show c + i - c = i by omega]
    · by_cases q : c + (i + 1) ≤ j ∧ j < c + 8
      · rw [if_pos q, if_pos (by omega)]
      · rw [if_neg q, if_neg (by omega), upd_n _ _ e]
theorem bring3 (kp : AR) {c : Nat} (hc : c + 8 ≤ 100) (K : RT → AR → Int32 → Option (RT × AR × Int32)) : ∀ d i fuel : Nat, i + d = 8 → d < fuel → ∀ r : RT, ∃ a : AR, fX4_passes_3_L2 0 K fuel (nI i) r kp (nI (c + i)) = K (R_setHomes r a) kp (nI (c + 8)) ∧ ∀ j, a j = if i ≤ j ∧ j < 8 then kp (c + j) else R_homes r j := by
  intro d
  induction d with
  | zero =>
    intro i fuel hi hf r
    obtain ⟨fuel, rfl⟩ : ∃ m, fuel = m + 1 := ⟨fuel - 1, by omega⟩
    refine ⟨R_homes r, ?_, fun j => by rw [if_neg (by omega)]⟩
    rw [fX4_passes_3_L2, if_pos (g_le (n := 8) (by omega) (by omega)), show i = 8 by omega]
    rfl
  | succ d ih =>
    intro i fuel hi hf r
    obtain ⟨fuel, rfl⟩ : ∃ m, fuel = m + 1 := ⟨fuel - 1, by omega⟩
    have h8 : i < 8 := by omega
    rw [fX4_passes_3_L2, if_neg (g_ge (n := 8) h8 (by decide))]
    dsimp only [jn]
    rw [if_pos rfl, fin100 (by omega), ck8 h8, cl8 h8, cl100 (by omega), nI1, nI1]
    obtain ⟨a, h1, h2⟩ := ih (i + 1) fuel (by omega) (by omega) (R_setHomes r (upd (R_homes r) i (kp (c + i))))
    refine ⟨a, h1, fun j => ?_⟩
    rw [h2 j]
    by_cases e : j = i
    · subst e
      rw [if_neg (by omega), if_pos (by omega)]
      exact upd_s _ _ _
    · by_cases q : i + 1 ≤ j ∧ j < 8
      · rw [if_pos q, if_pos (by omega)]
      · rw [if_neg q, if_neg (by omega)]
        exact upd_n _ _ e
theorem keepP3 (r : RT) {c : Nat} (hc : c + 8 ≤ 100) (kp : AR) : ∃ kp' : AR, fX4_passes_3 r kp 1 (nI c) = some (r, kp', nI (c + 8)) ∧ ∀ j, kp' j = if c ≤ j ∧ j < c + 8 then R_homes r (j - c) else kp j := by
  obtain ⟨kp', h1, h2⟩ := keep3 r hc (fun (k2_r : RT) (k2_kept : AR) (k2_cursor : Int32) => some (k2_r, k2_kept, k2_cursor)) 8 0 400 (by omega) (by omega) kp
  exact ⟨kp', h1, h2⟩
theorem backP3 (r : RT) {c : Nat} (hc : c + 8 ≤ 100) (kp : AR) : ∃ a : AR, fX4_passes_3 r kp 0 (nI c) = some (R_setHomes r a, kp, nI (c + 8)) ∧ ∀ j, a j = if j < 8 then kp (c + j) else R_homes r j := by
  obtain ⟨a, h1, h2⟩ := bring3 kp hc (fun (k2_r : RT) (k2_kept : AR) (k2_cursor : Int32) => some (k2_r, k2_kept, k2_cursor)) 8 0 400 (by omega) (by omega) r
  refine ⟨a, h1, fun j => ?_⟩
  rw [h2 j]
  by_cases q : j < 8
  · rw [if_pos ⟨Nat.zero_le j, q⟩, if_pos q]
  · rw [if_neg (fun h => q h.2), if_neg q]
theorem keep4 (r : RT) {c : Nat} (hc : c + 8 ≤ 100) (K : RT → AR → Int32 → Option (RT × AR × Int32)) : ∀ d i fuel : Nat, i + d = 8 → d < fuel → ∀ kp : AR, ∃ kp' : AR, fX4_passes_4_L2 1 K fuel (nI i) r kp (nI (c + i)) = K r kp' (nI (c + 8)) ∧ ∀ j, kp' j = if c + i ≤ j ∧ j < c + 8 then R_cells r (j - c) else kp j := by
  intro d
  induction d with
  | zero =>
    intro i fuel hi hf kp
    obtain ⟨fuel, rfl⟩ : ∃ m, fuel = m + 1 := ⟨fuel - 1, by omega⟩
    exact ⟨kp, by rw [fX4_passes_4_L2, if_pos (g_le (n := 8) (by omega) (by omega)), show i = 8 by omega], fun j => by rw [if_neg (by omega)]⟩
  | succ d ih =>
    intro i fuel hi hf kp
    obtain ⟨fuel, rfl⟩ : ∃ m, fuel = m + 1 := ⟨fuel - 1, by omega⟩
    have h8 : i < 8 := by omega
    rw [fX4_passes_4_L2, if_neg (g_ge (n := 8) h8 (by decide))]
    dsimp only [jn]
    rw [if_neg (show ¬ (1 : Int32) = 0 by decide), ck8 h8, fin100 (by omega), cl8 h8, cl100 (by omega), nI1, nI1]
    obtain ⟨kp', h1, h2⟩ := ih (i + 1) fuel (by omega) (by omega) (upd kp (c + i) (R_cells r i))
    refine ⟨kp', h1, fun j => ?_⟩
    rw [h2 j]
    by_cases e : j = c + i
    · subst e
      rw [if_neg (by omega), if_pos (by omega), upd_s, show c + i - c = i by omega]
    · by_cases q : c + (i + 1) ≤ j ∧ j < c + 8
      · rw [if_pos q, if_pos (by omega)]
      · rw [if_neg q, if_neg (by omega), upd_n _ _ e]
theorem bring4 (kp : AR) {c : Nat} (hc : c + 8 ≤ 100) (K : RT → AR → Int32 → Option (RT × AR × Int32)) : ∀ d i fuel : Nat, i + d = 8 → d < fuel → ∀ r : RT, ∃ a : AR, fX4_passes_4_L2 0 K fuel (nI i) r kp (nI (c + i)) = K (R_setCells r a) kp (nI (c + 8)) ∧ ∀ j, a j = if i ≤ j ∧ j < 8 then kp (c + j) else R_cells r j := by
  intro d
  induction d with
  | zero =>
    intro i fuel hi hf r
    obtain ⟨fuel, rfl⟩ : ∃ m, fuel = m + 1 := ⟨fuel - 1, by omega⟩
    refine ⟨R_cells r, ?_, fun j => by rw [if_neg (by omega)]⟩
    rw [fX4_passes_4_L2, if_pos (g_le (n := 8) (by omega) (by omega)), show i = 8 by omega]
    rfl
  | succ d ih =>
    intro i fuel hi hf r
    obtain ⟨fuel, rfl⟩ : ∃ m, fuel = m + 1 := ⟨fuel - 1, by omega⟩
    have h8 : i < 8 := by omega
    rw [fX4_passes_4_L2, if_neg (g_ge (n := 8) h8 (by decide))]
    dsimp only [jn]
    rw [if_pos rfl, fin100 (by omega), ck8 h8, cl8 h8, cl100 (by omega), nI1, nI1]
    obtain ⟨a, h1, h2⟩ := ih (i + 1) fuel (by omega) (by omega) (R_setCells r (upd (R_cells r) i (kp (c + i))))
    refine ⟨a, h1, fun j => ?_⟩
    rw [h2 j]
    by_cases e : j = i
    · subst e
      rw [if_neg (by omega), if_pos (by omega)]
      exact upd_s _ _ _
    · by_cases q : i + 1 ≤ j ∧ j < 8
      · rw [if_pos q, if_pos (by omega)]
      · rw [if_neg q, if_neg (by omega)]
        exact upd_n _ _ e
theorem keepP4 (r : RT) {c : Nat} (hc : c + 8 ≤ 100) (kp : AR) : ∃ kp' : AR, fX4_passes_4 r kp 1 (nI c) = some (r, kp', nI (c + 8)) ∧ ∀ j, kp' j = if c ≤ j ∧ j < c + 8 then R_cells r (j - c) else kp j := by
  obtain ⟨kp', h1, h2⟩ := keep4 r hc (fun (k2_r : RT) (k2_kept : AR) (k2_cursor : Int32) => some (k2_r, k2_kept, k2_cursor)) 8 0 400 (by omega) (by omega) kp
  exact ⟨kp', h1, h2⟩
theorem backP4 (r : RT) {c : Nat} (hc : c + 8 ≤ 100) (kp : AR) : ∃ a : AR, fX4_passes_4 r kp 0 (nI c) = some (R_setCells r a, kp, nI (c + 8)) ∧ ∀ j, a j = if j < 8 then kp (c + j) else R_cells r j := by
  obtain ⟨a, h1, h2⟩ := bring4 kp hc (fun (k2_r : RT) (k2_kept : AR) (k2_cursor : Int32) => some (k2_r, k2_kept, k2_cursor)) 8 0 400 (by omega) (by omega) r
  refine ⟨a, h1, fun j => ?_⟩
  rw [h2 j]
  by_cases q : j < 8
  · rw [if_pos ⟨Nat.zero_le j, q⟩, if_pos q]
  · rw [if_neg (fun h => q h.2), if_neg q]
theorem keep5 (r : RT) {c : Nat} (hc : c + 8 ≤ 100) (K : RT → AR → Int32 → Option (RT × AR × Int32)) : ∀ d i fuel : Nat, i + d = 8 → d < fuel → ∀ kp : AR, ∃ kp' : AR, fX4_passes_5_L2 1 K fuel (nI i) r kp (nI (c + i)) = K r kp' (nI (c + 8)) ∧ ∀ j, kp' j = if c + i ≤ j ∧ j < c + 8 then R_paces r (j - c) else kp j := by
  intro d
  induction d with
  | zero =>
    intro i fuel hi hf kp
    obtain ⟨fuel, rfl⟩ : ∃ m, fuel = m + 1 := ⟨fuel - 1, by omega⟩
    exact ⟨kp, by rw [fX4_passes_5_L2, if_pos (g_le (n := 8) (by omega) (by omega)), show i = 8 by omega], fun j => by rw [if_neg (by omega)]⟩
  | succ d ih =>
    intro i fuel hi hf kp
    obtain ⟨fuel, rfl⟩ : ∃ m, fuel = m + 1 := ⟨fuel - 1, by omega⟩
    have h8 : i < 8 := by omega
    rw [fX4_passes_5_L2, if_neg (g_ge (n := 8) h8 (by decide))]
    dsimp only [jn]
    rw [if_neg (show ¬ (1 : Int32) = 0 by decide), ck8 h8, fin100 (by omega), cl8 h8, cl100 (by omega), nI1, nI1]
    obtain ⟨kp', h1, h2⟩ := ih (i + 1) fuel (by omega) (by omega) (upd kp (c + i) (R_paces r i))
    refine ⟨kp', h1, fun j => ?_⟩
    rw [h2 j]
    by_cases e : j = c + i
    · subst e
      rw [if_neg (by omega), if_pos (by omega), upd_s, show c + i - c = i by omega]
    · by_cases q : c + (i + 1) ≤ j ∧ j < c + 8
      · rw [if_pos q, if_pos (by omega)]
      · rw [if_neg q, if_neg (by omega), upd_n _ _ e]
theorem bring5 (kp : AR) {c : Nat} (hc : c + 8 ≤ 100) (K : RT → AR → Int32 → Option (RT × AR × Int32)) : ∀ d i fuel : Nat, i + d = 8 → d < fuel → ∀ r : RT, ∃ a : AR, fX4_passes_5_L2 0 K fuel (nI i) r kp (nI (c + i)) = K (R_setPaces r a) kp (nI (c + 8)) ∧ ∀ j, a j = if i ≤ j ∧ j < 8 then kp (c + j) else R_paces r j := by
  intro d
  induction d with
  | zero =>
    intro i fuel hi hf r
    obtain ⟨fuel, rfl⟩ : ∃ m, fuel = m + 1 := ⟨fuel - 1, by omega⟩
    refine ⟨R_paces r, ?_, fun j => by rw [if_neg (by omega)]⟩
    rw [fX4_passes_5_L2, if_pos (g_le (n := 8) (by omega) (by omega)), show i = 8 by omega]
    rfl
  | succ d ih =>
    intro i fuel hi hf r
    obtain ⟨fuel, rfl⟩ : ∃ m, fuel = m + 1 := ⟨fuel - 1, by omega⟩
    have h8 : i < 8 := by omega
    rw [fX4_passes_5_L2, if_neg (g_ge (n := 8) h8 (by decide))]
    dsimp only [jn]
    rw [if_pos rfl, fin100 (by omega), ck8 h8, cl8 h8, cl100 (by omega), nI1, nI1]
    obtain ⟨a, h1, h2⟩ := ih (i + 1) fuel (by omega) (by omega) (R_setPaces r (upd (R_paces r) i (kp (c + i))))
    refine ⟨a, h1, fun j => ?_⟩
    rw [h2 j]
    by_cases e : j = i
    · subst e
      rw [if_neg (by omega), if_pos (by omega)]
      exact upd_s _ _ _
    · by_cases q : i + 1 ≤ j ∧ j < 8
      · rw [if_pos q, if_pos (by omega)]
      · rw [if_neg q, if_neg (by omega)]
        exact upd_n _ _ e
theorem keepP5 (r : RT) {c : Nat} (hc : c + 8 ≤ 100) (kp : AR) : ∃ kp' : AR, fX4_passes_5 r kp 1 (nI c) = some (r, kp', nI (c + 8)) ∧ ∀ j, kp' j = if c ≤ j ∧ j < c + 8 then R_paces r (j - c) else kp j := by
  obtain ⟨kp', h1, h2⟩ := keep5 r hc (fun (k2_r : RT) (k2_kept : AR) (k2_cursor : Int32) => some (k2_r, k2_kept, k2_cursor)) 8 0 400 (by omega) (by omega) kp
  exact ⟨kp', h1, h2⟩
theorem backP5 (r : RT) {c : Nat} (hc : c + 8 ≤ 100) (kp : AR) : ∃ a : AR, fX4_passes_5 r kp 0 (nI c) = some (R_setPaces r a, kp, nI (c + 8)) ∧ ∀ j, a j = if j < 8 then kp (c + j) else R_paces r j := by
  obtain ⟨a, h1, h2⟩ := bring5 kp hc (fun (k2_r : RT) (k2_kept : AR) (k2_cursor : Int32) => some (k2_r, k2_kept, k2_cursor)) 8 0 400 (by omega) (by omega) r
  refine ⟨a, h1, fun j => ?_⟩
  rw [h2 j]
  by_cases q : j < 8
  · rw [if_pos ⟨Nat.zero_le j, q⟩, if_pos q]
  · rw [if_neg (fun h => q h.2), if_neg q]
theorem keep6 (r : RT) {c : Nat} (hc : c + 8 ≤ 100) (K : RT → AR → Int32 → Option (RT × AR × Int32)) : ∀ d i fuel : Nat, i + d = 8 → d < fuel → ∀ kp : AR, ∃ kp' : AR, fX4_passes_6_L2 1 K fuel (nI i) r kp (nI (c + i)) = K r kp' (nI (c + 8)) ∧ ∀ j, kp' j = if c + i ≤ j ∧ j < c + 8 then R_strengths r (j - c) else kp j := by
  intro d
  induction d with
  | zero =>
    intro i fuel hi hf kp
    obtain ⟨fuel, rfl⟩ : ∃ m, fuel = m + 1 := ⟨fuel - 1, by omega⟩
    exact ⟨kp, by rw [fX4_passes_6_L2, if_pos (g_le (n := 8) (by omega) (by omega)), show i = 8 by omega], fun j => by rw [if_neg (by omega)]⟩
  | succ d ih =>
    intro i fuel hi hf kp
    obtain ⟨fuel, rfl⟩ : ∃ m, fuel = m + 1 := ⟨fuel - 1, by omega⟩
    have h8 : i < 8 := by omega
    rw [fX4_passes_6_L2, if_neg (g_ge (n := 8) h8 (by decide))]
    dsimp only [jn]
    rw [if_neg (show ¬ (1 : Int32) = 0 by decide), ck8 h8, fin100 (by omega), cl8 h8, cl100 (by omega), nI1, nI1]
    obtain ⟨kp', h1, h2⟩ := ih (i + 1) fuel (by omega) (by omega) (upd kp (c + i) (R_strengths r i))
    refine ⟨kp', h1, fun j => ?_⟩
    rw [h2 j]
    by_cases e : j = c + i
    · subst e
      rw [if_neg (by omega), if_pos (by omega), upd_s, show c + i - c = i by omega]
    · by_cases q : c + (i + 1) ≤ j ∧ j < c + 8
      · rw [if_pos q, if_pos (by omega)]
      · rw [if_neg q, if_neg (by omega), upd_n _ _ e]
theorem bring6 (kp : AR) {c : Nat} (hc : c + 8 ≤ 100) (K : RT → AR → Int32 → Option (RT × AR × Int32)) : ∀ d i fuel : Nat, i + d = 8 → d < fuel → ∀ r : RT, ∃ a : AR, fX4_passes_6_L2 0 K fuel (nI i) r kp (nI (c + i)) = K (R_setStrengths r a) kp (nI (c + 8)) ∧ ∀ j, a j = if i ≤ j ∧ j < 8 then kp (c + j) else R_strengths r j := by
  intro d
  induction d with
  | zero =>
    intro i fuel hi hf r
    obtain ⟨fuel, rfl⟩ : ∃ m, fuel = m + 1 := ⟨fuel - 1, by omega⟩
    refine ⟨R_strengths r, ?_, fun j => by rw [if_neg (by omega)]⟩
    rw [fX4_passes_6_L2, if_pos (g_le (n := 8) (by omega) (by omega)), show i = 8 by omega]
    rfl
  | succ d ih =>
    intro i fuel hi hf r
    obtain ⟨fuel, rfl⟩ : ∃ m, fuel = m + 1 := ⟨fuel - 1, by omega⟩
    have h8 : i < 8 := by omega
    rw [fX4_passes_6_L2, if_neg (g_ge (n := 8) h8 (by decide))]
    dsimp only [jn]
    rw [if_pos rfl, fin100 (by omega), ck8 h8, cl8 h8, cl100 (by omega), nI1, nI1]
    obtain ⟨a, h1, h2⟩ := ih (i + 1) fuel (by omega) (by omega) (R_setStrengths r (upd (R_strengths r) i (kp (c + i))))
    refine ⟨a, h1, fun j => ?_⟩
    rw [h2 j]
    by_cases e : j = i
    · subst e
      rw [if_neg (by omega), if_pos (by omega)]
      exact upd_s _ _ _
    · by_cases q : i + 1 ≤ j ∧ j < 8
      · rw [if_pos q, if_pos (by omega)]
      · rw [if_neg q, if_neg (by omega)]
        exact upd_n _ _ e
theorem keepP6 (r : RT) {c : Nat} (hc : c + 8 ≤ 100) (kp : AR) : ∃ kp' : AR, fX4_passes_6 r kp 1 (nI c) = some (r, kp', nI (c + 8)) ∧ ∀ j, kp' j = if c ≤ j ∧ j < c + 8 then R_strengths r (j - c) else kp j := by
  obtain ⟨kp', h1, h2⟩ := keep6 r hc (fun (k2_r : RT) (k2_kept : AR) (k2_cursor : Int32) => some (k2_r, k2_kept, k2_cursor)) 8 0 400 (by omega) (by omega) kp
  exact ⟨kp', h1, h2⟩
theorem backP6 (r : RT) {c : Nat} (hc : c + 8 ≤ 100) (kp : AR) : ∃ a : AR, fX4_passes_6 r kp 0 (nI c) = some (R_setStrengths r a, kp, nI (c + 8)) ∧ ∀ j, a j = if j < 8 then kp (c + j) else R_strengths r j := by
  obtain ⟨a, h1, h2⟩ := bring6 kp hc (fun (k2_r : RT) (k2_kept : AR) (k2_cursor : Int32) => some (k2_r, k2_kept, k2_cursor)) 8 0 400 (by omega) (by omega) r
  refine ⟨a, h1, fun j => ?_⟩
  rw [h2 j]
  by_cases q : j < 8
  · rw [if_pos ⟨Nat.zero_le j, q⟩, if_pos q]
  · rw [if_neg (fun h => q h.2), if_neg q]
theorem keepO (v : Int32) {c : Nat} (hc : c < 100) (kp : AR) : fX4_passOne v kp 1 (nI c) = some (v, upd kp c v, nI (c + 1)) := by
  unfold fX4_passOne
  dsimp only [jn]
  rw [if_neg (show ¬ (1 : Int32) = 0 by decide), if_neg (show ¬ (1 : Int32) = 0 by decide), fin100 hc, cl100 hc, nI1]
theorem backO (v : Int32) {c : Nat} (hc : c < 100) (kp : AR) : fX4_passOne v kp 0 (nI c) = some (kp c, kp, nI (c + 1)) := by
  unfold fX4_passOne
  dsimp only [jn]
  rw [if_pos rfl, if_pos rfl, fin100 hc, cl100 hc, nI1]
/-- a river is kept from place c on -/
def KP (c : Nat) (r : RT) (kp : AR) : Prop := (∀ j, j < 8 → kp (c + j) = R_kinds r j ∧ kp (c + 8 + j) = R_homes r j ∧ kp (c + 16 + j) = R_cells r j ∧ kp (c + 24 + j) = R_paces r j ∧ kp (c + 32 + j) = R_strengths r j) ∧ kp (c + 40) = R_floes r ∧ kp (c + 41) = R_lanes r ∧ kp (c + 42) = R_minute r
theorem keepAll (r : RT) {w : Nat} (hw : w ≤ 1) (kp : AR) : ∃ (kp' : AR) (cu : Int32), fX4_passesAll (nI w) 1 r kp = some (r, kp', 1, cu) ∧ KP (50 * w) r kp' ∧ ∀ j, (j < 50 * w ∨ 50 * w + 43 ≤ j) → kp' j = kp j := by
  unfold fX4_passesAll
  rw [ckb_1, show (50 : Int32) = nI 50 from rfl, pk_mul]
  obtain ⟨k1, e1, g1⟩ := keepP2 r (c := 50 * w) (by omega) kp
  obtain ⟨k2, e2, g2⟩ := keepP3 r (c := 50 * w + 8) (by omega) k1
  obtain ⟨k3, e3, g3⟩ := keepP4 r (c := 50 * w + 8 + 8) (by omega) k2
  obtain ⟨k4, e4, g4⟩ := keepP5 r (c := 50 * w + 8 + 8 + 8) (by omega) k3
  obtain ⟨k5, e5, g5⟩ := keepP6 r (c := 50 * w + 8 + 8 + 8 + 8) (by omega) k4
  rw [e1, bd_s]
  dsimp only
  rw [e2, bd_s]
  dsimp only
  rw [e3, bd_s]
  dsimp only
  rw [e4, bd_s]
  dsimp only
  rw [e5, bd_s]
  dsimp only
  rw [keepO _ (by omega), bd_s]
  dsimp only
  rw [keepO _ (by omega), bd_s]
  dsimp only
  rw [keepO _ (by omega), bd_s]
  have hv : ∀ j, (upd (upd (upd k5 (50 * w + 8 + 8 + 8 + 8 + 8) (R_floes r)) (50 * w + 8 + 8 + 8 + 8 + 8 + 1) (R_lanes r)) (50 * w + 8 + 8 + 8 + 8 + 8 + 1 + 1) (R_minute r)) j = if j = 50 * w + 42 then R_minute r else if j = 50 * w + 41 then R_lanes r else if j = 50 * w + 40 then R_floes r else k5 j := by
    intro j
    by_cases a : j = 50 * w + 42
    · rw [if_pos a, a]; exact upd_s _ _ _
    · rw [if_neg a, upd_n _ _ (by omega)]
      by_cases b : j = 50 * w + 41
      · rw [if_pos b, b]; exact upd_s _ _ _
      · rw [if_neg b, upd_n _ _ (by omega)]
        by_cases d : j = 50 * w + 40
        · rw [if_pos d, d]; exact upd_s _ _ _
        · rw [if_neg d, upd_n _ _ (by omega)]
  refine ⟨_, _, rfl, ⟨fun j hj => ⟨?_, ?_, ?_, ?_, ?_⟩, ?_, ?_, ?_⟩, fun j hj => ?_⟩
  · refine (hv _).trans ?_
    rw [if_neg (by omega), if_neg (by omega), if_neg (by omega), g5, if_neg (by omega), g4, if_neg (by omega), g3, if_neg (by omega), g2, if_neg (by omega), g1, if_pos (by omega), show 50 * w + j - 50 * w = j by omega]
  · refine (hv _).trans ?_
    rw [if_neg (by omega), if_neg (by omega), if_neg (by omega), g5, if_neg (by omega), g4, if_neg (by omega), g3, if_neg (by omega), g2, if_pos (by omega), show 50 * w + 8 + j - (50 * w + 8) = j by omega]
  · refine (hv _).trans ?_
    rw [if_neg (by omega), if_neg (by omega), if_neg (by omega), g5, if_neg (by omega), g4, if_neg (by omega), g3, if_pos (by omega), show 50 * w + 16 + j - (50 * w + 8 + 8) = j by omega]
  · refine (hv _).trans ?_
    rw [if_neg (by omega), if_neg (by omega), if_neg (by omega), g5, if_neg (by omega), g4, if_pos (by omega), show 50 * w + 24 + j - (50 * w + 8 + 8 + 8) = j by omega]
  · refine (hv _).trans ?_
    rw [if_neg (by omega), if_neg (by omega), if_neg (by omega), g5, if_pos (by omega), show 50 * w + 32 + j - (50 * w + 8 + 8 + 8 + 8) = j by omega]
  · refine (hv _).trans ?_
    rw [if_neg (by omega), if_neg (by omega), if_pos rfl]
  · refine (hv _).trans ?_
    rw [if_neg (by omega), if_pos rfl]
  · refine (hv _).trans ?_
    rw [if_pos rfl]
  · refine (hv _).trans ?_
    rw [if_neg (by omega), if_neg (by omega), if_neg (by omega), g5, if_neg (by omega), g4, if_neg (by omega), g3, if_neg (by omega), g2, if_neg (by omega), g1, if_neg (by omega)]
theorem backAll {r r0 : RT} (zr : Zr r) (z0 : Zr r0) {w : Nat} (hw : w ≤ 1) {kp : AR} (h : KP (50 * w) r0 kp) : ∃ (cu : Int32), fX4_passesAll (nI w) 0 r kp = some (r0, kp, 0, cu) := by
  unfold fX4_passesAll
  rw [ckb_0, show (50 : Int32) = nI 50 from rfl, pk_mul]
  obtain ⟨a1, e1, g1⟩ := backP2 r (c := 50 * w) (by omega) kp
  obtain ⟨a2, e2, g2⟩ := backP3 (R_setKinds r a1) (c := 50 * w + 8) (by omega) kp
  obtain ⟨a3, e3, g3⟩ := backP4 (R_setHomes (R_setKinds r a1) a2) (c := 50 * w + 8 + 8) (by omega) kp
  obtain ⟨a4, e4, g4⟩ := backP5 (R_setCells (R_setHomes (R_setKinds r a1) a2) a3) (c := 50 * w + 8 + 8 + 8) (by omega) kp
  obtain ⟨a5, e5, g5⟩ := backP6 (R_setPaces (R_setCells (R_setHomes (R_setKinds r a1) a2) a3) a4) (c := 50 * w + 8 + 8 + 8 + 8) (by omega) kp
  rw [e1, bd_s]
  dsimp only
  rw [e2, bd_s]
  dsimp only
  rw [e3, bd_s]
  dsimp only
  rw [e4, bd_s]
  dsimp only
  rw [e5, bd_s]
  dsimp only
  rw [backO _ (by omega), bd_s]
  dsimp only
  rw [backO _ (by omega), bd_s]
  dsimp only
  rw [backO _ (by omega), bd_s]
  refine ⟨nI (50 * w + 8 + 8 + 8 + 8 + 8 + 1 + 1 + 1), ?_⟩
  refine congrArg (fun x : RT => some (x, kp, (0 : Int32), nI (50 * w + 8 + 8 + 8 + 8 + 8 + 1 + 1 + 1))) (RT_ext ?_ ?_ ?_ ?_ ?_ ?_ ?_ ?_)
  · exact fn_ext (fun j hj => (g1 j).trans (by rw [if_pos hj]; exact (h.1 j hj).1)) (fun j hj => (g1 j).trans (by rw [if_neg (by omega)]; exact (zr j hj).1)) (fun j hj => (z0 j hj).1)
  · exact fn_ext (fun j hj => (g2 j).trans (by rw [if_pos hj]; exact (h.1 j hj).2.1)) (fun j hj => (g2 j).trans (by rw [if_neg (by omega)]; exact (zr j hj).2.1)) (fun j hj => (z0 j hj).2.1)
  · exact fn_ext (fun j hj => (g3 j).trans (by rw [if_pos hj]; exact (h.1 j hj).2.2.1)) (fun j hj => (g3 j).trans (by rw [if_neg (by omega)]; exact (zr j hj).2.2.1)) (fun j hj => (z0 j hj).2.2.1)
  · exact fn_ext (fun j hj => (g4 j).trans (by rw [if_pos hj]; exact (h.1 j hj).2.2.2.1)) (fun j hj => (g4 j).trans (by rw [if_neg (by omega)]; exact (zr j hj).2.2.2.1)) (fun j hj => (z0 j hj).2.2.2.1)
  · exact fn_ext (fun j hj => (g5 j).trans (by rw [if_pos hj]; exact (h.1 j hj).2.2.2.2)) (fun j hj => (g5 j).trans (by rw [if_neg (by omega)]; exact (zr j hj).2.2.2.2)) (fun j hj => (z0 j hj).2.2.2.2)
  · exact h.2.2.1
  · exact h.2.1
  · exact h.2.2.2
theorem image_p {rn rp : RT} (zn : Zr rn) (zp : Zr rp) (kp : AR) : ∃ z kp' ik cu, fX3_image rn rp = some (z, rn, 1) ∧ fX4_image rn kp = some (z, rn, kp', 1, ik, cu) ∧ KP 0 rn kp' := by
  unfold fX3_image fX4_image
  obtain ⟨kp', cu, h1, h2, -⟩ := keepAll rn (w := 0) (by omega) kp
  rw [become_e zp zn, bd_s, show (0 : Int32) = nI 0 from rfl, h1, bd_s]
  exact ⟨_, _, _, _, rfl, rfl, h2⟩
theorem on_p {rn rp : RT} (zn : Zr rn) (zp : Zr rp) {ip : Int32} (kp refs : AR) (ik cu : Int32) (hi : ip = 0 ∨ ip = 1 ∧ KP 0 rp kp) : ∃ z r' rf ik' cu', fX3_on rn rp refs ip = some (z, r', rf) ∧ fX4_on rn refs kp ip ik cu = some (z, r', rf, kp, ik', cu') ∧ (r' = rn ∨ ip = 1 ∧ r' = rp) := by
  unfold fX3_on fX4_on
  rcases hi with rfl | ⟨rfl, hk⟩
  · rw [if_pos rfl, if_pos rfl]
    obtain ⟨b, h1, h2⟩ := rf5 w3 refs
    rw [h1, h2]
    exact ⟨_, _, _, _, _, rfl, rfl, Or.inl rfl⟩
  · rw [if_neg (by decide), if_neg (by decide)]
    obtain ⟨cu', h1⟩ := backAll zn zp (w := 0) (by omega) hk
    rw [show nI 0 = (0 : Int32) from rfl] at h1
    rw [become_e zn zp, bd_s, h1, bd_s]
    exact ⟨_, _, _, _, _, rfl, rfl, Or.inr ⟨rfl, rfl⟩⟩
