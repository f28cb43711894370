/-! ===== pure helpers: the readable functions that the methods are proved to compute ===== -/
abbrev AR : Type := Nat → Int32
def bd {α β : Type} (o : Option α) (k : α → Option β) : Option β := match o with
  | none => none
  | some a => k a
theorem bd_some {α β : Type} {o : Option α} {k : α → Option β} {z : β} (h : bd o k = some z) : ∃ a, o = some a ∧ k a = some z := by
  cases o with
  | none => cases h
  | some a => exact ⟨a, rfl, h⟩
def ck {α : Type} (i : Int32) (n : Nat) (a : Option α) : Option α := if i < 0 ∨ n ≤ i.toNatClampNeg then none else a
theorem ck_some {α : Type} {i : Int32} {n : Nat} {a : Option α} {z : α} (h : ck i n a = some z) : vp_in i n ∧ a = some z := by
  unfold ck at h
  by_cases c : i < 0 ∨ n ≤ i.toNatClampNeg
  · rw [if_pos c] at h; cases h
  · rw [if_neg c] at h; exact ⟨c, h⟩
theorem ck_ok {α : Type} {i : Int32} {n : Nat} (a : Option α) (h : vp_in i n) : ck i n a = a := if_neg h
def ckz {α : Type} (y : Int32) (a : Option α) : Option α := if y = 0 then none else a
theorem ckz_some {α : Type} {y : Int32} {a : Option α} {z : α} (h : ckz y a = some z) : ¬ y = 0 ∧ a = some z := by
  unfold ckz at h
  by_cases c : y = 0
  · rw [if_pos c] at h; cases h
  · rw [if_neg c] at h; exact ⟨c, h⟩
def ckb {α : Type} (y : Int32) (a : Option α) : Option α := if y = 0 ∨ y = 1 then a else none
theorem ckb_some {α : Type} {y : Int32} {a : Option α} {z : α} (h : ckb y a = some z) : (y = 0 ∨ y = 1) ∧ a = some z := by
  unfold ckb at h
  by_cases c : y = 0 ∨ y = 1
  · rw [if_pos c] at h; exact ⟨c, h⟩
  · rw [if_neg c] at h; cases h
theorem ckb_n {y : Int32} (h : y = 0 ∨ y = 1) : narrow .boolean (.int y) = .int y := by
  rcases h with h | h <;> subst h <;> rfl
theorem ckb_f {y : Int32} (h : y = 0 ∨ y = 1) : fits .boolean (.int y) = true := by
  rcases h with h | h <;> subst h <;> rfl
theorem itT {c : Prop} [Decidable c] {α : Type} {a b : Option α} {z : α} (hc : c) (h : (if c then a else b) = some z) : a = some z := by
  rw [if_pos hc] at h; exact h
theorem itF {c : Prop} [Decidable c] {α : Type} {a b : Option α} {z : α} (hc : ¬ c) (h : (if c then a else b) = some z) : b = some z := by
  rw [if_neg hc] at h; exact h
def jn {α ρ : Type} (f : (α → Option ρ) → Option ρ) (J : α → Option ρ) : Option ρ := f J
theorem jnW {α ρ : Type} {f : (α → Option ρ) → Option ρ} {J : α → Option ρ} {z : ρ} {G : Prop} (P : α → Prop) (h : jn f J = some z) (k1 : ∀ v, J v = some z → P v) (k2 : ∀ JJ : α → Option ρ, (∀ v, JJ v = some z → P v) → f JJ = some z → G) : G := k2 J k1 h
/-! ===== a world with some cells put anew ===== -/
theorem dOf {A : Nat → Prop} {ws ws' : va_W} (h : va_D A ws) (e : ws'.map Prod.fst = ws.map Prod.fst) : va_D A ws' := by
  have g : ∀ (k : Nat) (q : Nat × va_E), ws'[k]? = some q → ∃ x : va_E, ws[k]? = some (q.1, x) := by
    intro k q hq
    have h1 : (ws'.map Prod.fst)[k]? = some q.1 := by rw [List.getElem?_map, hq]; rfl
    rw [e, List.getElem?_map] at h1
    cases hw : ws[k]? with
    | none => rw [hw] at h1; cases h1
    | some y =>
      rw [hw] at h1
      refine ⟨y.2, ?_⟩
      have : y.1 = q.1 := Option.some.inj h1
      rw [← this]
  refine ⟨fun i j p q hi hj hpq => ?_, fun k q hk => ?_⟩
  · obtain ⟨x, hx⟩ := g i p hi
    obtain ⟨y, hy⟩ := g j q hj
    exact h.1 i j _ _ hx hy hpq
  · obtain ⟨x, hx⟩ := g k q hk
    exact h.2 k (q.1, x) hx
theorem memMap {α β : Type} {f g : α → β} : ∀ {l : List α}, l.map f = l.map g → ∀ {a : α}, a ∈ l → f a = g a := by
  intro l
  induction l with
  | nil => intro _ a h; exact absurd h List.not_mem_nil
  | cons x l ih =>
    intro h a ha
    rcases List.mem_cons.mp ha with e | e
    · rw [e]; exact (List.cons.inj h).1
    · exact ih (List.cons.inj h).2 e
theorem atMap {α β : Type} {f : α → β} {l : List α} {m : List β} (h : l.map f = m) {a : α} (ha : a ∈ l) : ∃ j : Nat, l[j]? = some a ∧ m[j]? = some (f a) := by
  obtain ⟨j, hj⟩ := List.getElem?_of_mem ha
  exact ⟨j, hj, by rw [← h, List.getElem?_map, hj]; rfl⟩
/-- behind a call: the callee's cells are as it says, the others as they were -/
theorem back2 {A : Nat → Prop} {D : va_G} {cl : List vw_C} {ws ws' wc wc' wr : va_W} {H H1 : Heap} {n : Nat} (hP : va_P D cl ws H) (hD : va_D A ws) (iC iR : List Nat) (hC : iC.map (fun i => ws[i]?) = wc.map some) (hC' : iC.map (fun i => ws'[i]?) = wc'.map some) (hR1 : iR.map (fun i => ws[i]?) = wr.map some) (hR2 : iR.map (fun i => ws'[i]?) = wr.map some) (hn : ws'.length = n) (hcov : (List.range n).all (fun i => iC.contains i || (iR.contains i && !iC.contains i)) = true) (hf : ws'.map Prod.fst = ws.map Prod.fst)
    (hk : ∀ q : Nat, q < H.size → ¬ va_A wc H.size q → H1[q]? = H[q]?) (hP1 : va_P D cl wc' H1) : va_P D cl ws' H1 ∧ va_D A ws' := by
  refine ⟨fun k q hq => ?_, dOf hD hf⟩
  have hkn : k < n := by rw [← hn]; exact (List.getElem?_eq_some_iff.mp hq).1
  have hc := List.all_eq_true.mp hcov k (List.mem_range.mpr hkn)
  rcases Bool.or_eq_true_iff.mp hc with hc | hc
  · obtain ⟨j, -, hj⟩ := atMap hC' (List.contains_iff_mem.mp hc)
    rw [hq, List.getElem?_map] at hj
    cases hw : wc'[j]? with
    | none => rw [hw] at hj; cases hj
    | some y =>
      rw [hw] at hj
      cases hj
      exact hP1 j q hw
  · obtain ⟨hc1, hc2⟩ := Bool.and_eq_true_iff.mp hc
    have hw : ws[k]? = some q := by rw [← memMap (hR2.trans hR1.symm) (List.contains_iff_mem.mp hc1)]; exact hq
    have hl := (hP k q hw).lt
    refine (hP k q hw).kept (hk q.1 hl (fun h => ?_))
    rcases h with ⟨k2, e, h⟩ | h
    · have h1 : (iC.map (fun i => ws[i]?))[k2]? = some (some (q.1, e)) := by rw [hC, List.getElem?_map, h]; rfl
      rw [List.getElem?_map] at h1
      cases hi : iC[k2]? with
      | none => rw [hi] at h1; cases h1
      | some j =>
        rw [hi] at h1
        have h4 : ws[j]? = some (q.1, e) := Option.some.inj h1
        have hij := hD.1 k j q (q.1, e) hw h4 rfl
        subst hij
        have := List.contains_iff_mem.mpr (List.mem_of_getElem? hi)
        rw [this] at hc2
        cases hc2
    · omega
theorem subP {D : va_G} {cl : List vw_C} {ws wc : va_W} {H : Heap} (hP : va_P D cl ws H) (iC : List Nat) (hC : iC.map (fun i => ws[i]?) = wc.map some) : va_P D cl wc H := by
  intro k q hq
  have h1 : (iC.map (fun i => ws[i]?))[k]? = some (some q) := by rw [hC, List.getElem?_map, hq]; rfl
  rw [List.getElem?_map] at h1
  cases hi : iC[k]? with
  | none => rw [hi] at h1; cases h1
  | some j => rw [hi] at h1; exact hP j q (Option.some.inj h1)
theorem subD {A : Nat → Prop} {ws wc : va_W} (hD : va_D A ws) (iC : List Nat) (hC : iC.map (fun i => ws[i]?) = wc.map some) (hn : va_nd iC = true) : va_D (fun _ => True) wc := (hD.sub iC hn hC).weaken (fun _ _ _ _ => trivial)
