/-! ===== pure helpers: the readable functions that the methods are proved to compute ===== -/
abbrev AR : Type := Nat → Int32
def bd {α β : Type} (o : Option α) (k : α → Option β) : Option β := match o with
  | none => none
  | some a => k a
theorem bd_some {α β : Type} {o : Option α} {k : α → Option β} {z : β} (h : bd o k = some z) : ∃ a, o = some a ∧ k a = some z := by
  cases o with
  | none => cases h
  | some a => exact ⟨a, rfl, h⟩
def ck {α : Type} (i : Int32) (n : Nat) (a : Option α) : Option α := if i < 0 ∨ n ≤ i.toNatClampNeg then none else a
theorem ck_some {α : Type} {i : Int32} {n : Nat} {a : Option α} {z : α} (h : ck i n a = some z) : vp_in i n ∧ a = some z := by
  unfold ck at h
  by_cases c : i < 0 ∨ n ≤ i.toNatClampNeg
  · rw [if_pos c] at h; cases h
  · rw [if_neg c] at h; exact ⟨c, h⟩
theorem ck_ok {α : Type} {i : Int32} {n : Nat} (a : Option α) (h : vp_in i n) : ck i n a = a := if_neg h
def ckz {α : Type} (y : Int32) (a : Option α) : Option α := if y = 0 then none else a
theorem ckz_some {α : Type} {y : Int32} {a : Option α} {z : α} (h : ckz y a = some z) : ¬ y = 0 ∧ a = some z := by
  unfold ckz at h
  by_cases c : y = 0
  · rw [if_pos c] at h; cases h
  · rw [if_neg c] at h; exact ⟨c, h⟩
def ckb {α : Type} (y : Int32) (a : Option α) : Option α := if y = 0 ∨ y = 1 then a else none
theorem ckb_some {α : Type} {y : Int32} {a : Option α} {z : α} (h : ckb y a = some z) : (y = 0 ∨ y = 1) ∧ a = some z := by
  unfold ckb at h
  by_cases c : y = 0 ∨ y = 1
  · rw [if_pos c] at h; exact ⟨c, h⟩
  · rw [if_neg c] at h; cases h
theorem ckb_n {y : Int32} (h : y = 0 ∨ y = 1) : narrow .boolean (.int y) = .int y := by
  rcases h with h | h <;> subst h <;> rfl
theorem ckb_f {y : Int32} (h : y = 0 ∨ y = 1) : fits .boolean (.int y) = true := by
  rcases h with h | h <;> subst h <;> rfl
theorem itT {c : Prop} [Decidable c] {α : Type} {a b : Option α} {z : α} (hc : c) (h : (if c then a else b) = some z) : a = some z := by
  rw [if_pos hc] at h; exact h
theorem itF {c : Prop} [Decidable c] {α : Type} {a b : Option α} {z : α} (hc : ¬ c) (h : (if c then a else b) = some z) : b = some z := by
  rw [if_neg hc] at h; exact h
def jn {α ρ : Type} (f : (α → Option ρ) → Option ρ) (J : α → Option ρ) : Option ρ := f J
theorem jnW {α ρ : Type} {f : (α → Option ρ) → Option ρ} {J : α → Option ρ} {z : ρ} {G : Prop} (P : α → Prop) (h : jn f J = some z) (k1 : ∀ v, J v = some z → P v) (k2 : ∀ JJ : α → Option ρ, (∀ v, JJ v = some z → P v) → f JJ = some z → G) : G := k2 J k1 h
/-! ===== a world with some cells put anew ===== -/
def setL : va_W → List Nat → va_W → va_W
  | ws, i :: is, c :: cs => setL (ws.set i c) is cs
  | ws, [], _ => ws
  | ws, _ :: _, [] => ws
theorem setL_get : ∀ (is : List Nat) (cs ws : va_W) (k : Nat) (q : Nat × va_E), is.length = cs.length → (setL ws is cs)[k]? = some q → (∃ j : Nat, cs[j]? = some q) ∨ (k ∉ is ∧ ws[k]? = some q) := by
  intro is
  induction is with
  | nil => intro cs ws k q _ h; exact Or.inr ⟨List.not_mem_nil, by cases cs <;> exact h⟩
  | cons i is ih =>
    intro cs ws k q hl h
    cases cs with
    | nil => cases hl
    | cons c cs =>
      have hl' : is.length = cs.length := Nat.succ.inj hl
      rcases ih cs (ws.set i c) k q hl' h with ⟨j, hj⟩ | ⟨h1, h2⟩
      · exact Or.inl ⟨j + 1, hj⟩
      · by_cases hk : i = k
        · subst hk
          left
          refine ⟨0, ?_⟩
          rw [List.getElem?_set_self'] at h2
          cases hw : ws[i]? with
          | none => rw [hw] at h2; cases h2
          | some x => rw [hw] at h2; cases h2; rfl
        · rw [List.getElem?_set_ne hk] at h2
          exact Or.inr ⟨fun hm => (List.mem_cons.mp hm).elim (fun e => hk e.symm) h1, h2⟩
theorem setL_fst : ∀ (is : List Nat) (cs ws : va_W), is.map (fun i => (ws.map Prod.fst)[i]?) = cs.map (fun c => some c.1) → (setL ws is cs).map Prod.fst = ws.map Prod.fst := by
  intro is
  induction is with
  | nil => intro cs ws _; cases cs <;> rfl
  | cons i is ih =>
    intro cs ws h
    cases cs with
    | nil => cases h
    | cons c cs =>
      have h1 : (ws.map Prod.fst)[i]? = some c.1 := (List.cons.inj h).1
      have h2 := (List.cons.inj h).2
      have e : (ws.set i c).map Prod.fst = ws.map Prod.fst := by
        rw [List.map_set]
        apply List.ext_getElem?
        intro k
        by_cases hk : i = k
        · subst hk
          rw [List.getElem?_set_self', h1]; rfl
        · rw [List.getElem?_set_ne hk]
      show (setL (ws.set i c) is cs).map Prod.fst = _
      rw [ih cs (ws.set i c) (by rw [e]; exact h2), e]
theorem dOf {A : Nat → Prop} {ws ws' : va_W} (h : va_D A ws) (e : ws'.map Prod.fst = ws.map Prod.fst) : va_D A ws' := by
  have g : ∀ (k : Nat) (q : Nat × va_E), ws'[k]? = some q → ∃ x : va_E, ws[k]? = some (q.1, x) := by
    intro k q hq
    have h1 : (ws'.map Prod.fst)[k]? = some q.1 := by rw [List.getElem?_map, hq]; rfl
    rw [e, List.getElem?_map] at h1
    cases hw : ws[k]? with
    | none => rw [hw] at h1; cases h1
    | some y =>
      rw [hw] at h1
      refine ⟨y.2, ?_⟩
      have : y.1 = q.1 := Option.some.inj h1
      rw [← this]
  refine ⟨fun i j p q hi hj hpq => ?_, fun k q hk => ?_⟩
  · obtain ⟨x, hx⟩ := g i p hi
    obtain ⟨y, hy⟩ := g j q hj
    exact h.1 i j _ _ hx hy hpq
  · obtain ⟨x, hx⟩ := g k q hk
    exact h.2 k (q.1, x) hx
theorem mapC_fst {ws wc wc' : va_W} {iC : List Nat} (hC : iC.map (fun i => ws[i]?) = wc.map some) (hf : wc'.map Prod.fst = wc.map Prod.fst) : iC.map (fun i => (ws.map Prod.fst)[i]?) = wc'.map (fun c => some c.1) := by
  have e1 : wc'.map (fun c => some c.1) = (wc'.map Prod.fst).map some := by rw [List.map_map]; rfl
  have e2 : iC.map (fun i => (ws.map Prod.fst)[i]?) = (iC.map (fun i => ws[i]?)).map (fun o => o.map Prod.fst) := by
    rw [List.map_map]
    apply List.map_congr_left
    intro i _
    rw [List.getElem?_map]; rfl
  rw [e1, e2, hC, hf, List.map_map, List.map_map]
  rfl
theorem setL_back {A : Nat → Prop} {D : va_G} {cl : List vw_C} {ws wc wc' : va_W} {H H1 : Heap} (hP : va_P D cl ws H) (hD : va_D A ws) (iC : List Nat) (hC : iC.map (fun i => ws[i]?) = wc.map some) (hf : wc'.map Prod.fst = wc.map Prod.fst)
    (hk : ∀ q : Nat, q < H.size → ¬ va_A wc H.size q → H1[q]? = H[q]?) (hP1 : va_P D cl wc' H1) : va_P D cl (setL ws iC wc') H1 ∧ va_D A (setL ws iC wc') := by
  have hlen : iC.length = wc'.length := by
    have h1 : iC.length = wc.length := by simpa using congrArg List.length hC
    have h2 : wc'.length = wc.length := by simpa using congrArg List.length hf
    omega
  refine ⟨fun k q hq => ?_, dOf hD (setL_fst iC wc' ws (mapC_fst hC hf))⟩
  rcases setL_get iC wc' ws k q hlen hq with ⟨j, hj⟩ | ⟨hn, hw⟩
  · exact hP1 j q hj
  · have hl := (hP k q hw).lt
    refine (hP k q hw).kept (hk q.1 hl (fun h => ?_))
    rcases h with ⟨k2, e, h⟩ | h
    · have h1 : (iC.map (fun i => ws[i]?))[k2]? = some (some (q.1, e)) := by rw [hC, List.getElem?_map, h]; rfl
      rw [List.getElem?_map] at h1
      cases hi : iC[k2]? with
      | none => rw [hi] at h1; cases h1
      | some j =>
        rw [hi] at h1
        have h4 : ws[j]? = some (q.1, e) := Option.some.inj h1
        have hij := hD.1 k j q (q.1, e) hw h4 rfl
        subst hij
        exact hn (List.mem_of_getElem? hi)
    · omega
theorem subP {D : va_G} {cl : List vw_C} {ws wc : va_W} {H : Heap} (hP : va_P D cl ws H) (iC : List Nat) (hC : iC.map (fun i => ws[i]?) = wc.map some) : va_P D cl wc H := by
  intro k q hq
  have h1 : (iC.map (fun i => ws[i]?))[k]? = some (some q) := by rw [hC, List.getElem?_map, hq]; rfl
  rw [List.getElem?_map] at h1
  cases hi : iC[k]? with
  | none => rw [hi] at h1; cases h1
  | some j => rw [hi] at h1; exact hP j q (Option.some.inj h1)
theorem subD {A : Nat → Prop} {ws wc : va_W} (hD : va_D A ws) (iC : List Nat) (hC : iC.map (fun i => ws[i]?) = wc.map some) (hn : va_nd iC = true) : va_D (fun _ => True) wc := (hD.sub iC hn hC).weaken (fun _ _ _ _ => trivial)
