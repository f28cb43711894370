/-! THE CLAIM OUT OF ONE WALK OF THE LAW'S BODY. Your part is whole_start (and what it stands on); all else here is the same for every law, but numbers. -/
def R_law : String := "FloeToFloeLaw"
def lw_P (b : Addr) (xs : List Int32) (args : Array Value) (s : State) : Prop := args = #[.ref b] ∧ s.IntsAt b xs ∧ xs.length ≤ 2048 ∧ (Jvm.Cond.and given_1 narrow_1).before args s = true
def lw_Q (_ : Array Value) (s : State) (o : Outcome) (t : State) : Prop := o = .returned (some (.int 1)) ∧ Framed s o t [] 43 4025
def lw_Z (below : List Frame) (a : Array Value) (s : State) : State → Prop := fun t => ∃ o, t.status = .running ∧ Ended t below o ∧ lw_Q a s o t
/-- the law's own end, with 1 on the stack, nothing written that was there before, its room as the claim has it -/
theorem lw_ret {p : Program} {l : Launch} {e : Env} {s : State} {m : MethodId} {below : List Frame} {meth : Method} {c : Code} {b : Nat} (hx : p.tables.exec = Jvm.exec) (hb : c.code = code) (hr : meth.sig.returnType = ret) (hlocks : meth.locks = false) {pc : Nat} {H : Heap} {ls : Array Slot} (hdg : decode code pc = .ok (.ireturn, 1)) : W p l e room_1 s m #[Value.ref b] below meth c H [] 43 4025 (lw_Z below #[Value.ref b] s) (F0 m pc ls [.int 1]) := by
  intro T hT X
  obtain ⟨fs, hret, hrun, hended, hW, hframe⟩ := X.leave (v := some (.int 1)) (hlocks := hlocks) (fun h => by rw [hr] at h; cases h)
  have hmeth' : T.vm.method? m = some meth := X.method'
  refine ⟨T.setFrames fs, ?_, .returned (some (.int 1)), hrun, hended, rfl, ⟨_, rfl⟩, hW, hframe⟩
  jvm_step X.here [X.here.top, hx, hb, hdg, hmeth', hr, ret, narrow_b1]
  (try refine ⟨rfl, ?_⟩); (try refine ⟨rfl, ?_⟩)
  first | (intro acts; rw [hret _ acts rfl rfl rfl]) | rw [hret _ _ rfl rfl rfl]
  exact Steps.refl _
/-- what holds at the law's entry: the machine, the code, the tables' words (any of lw_tbl by 'hts w (by decide +kernel)'), the script of L ints xs at the cell b, what the Statement gives of the start (any of its parts by flat_of_before) -/
def lw_At (p : Program) (s : State) (m : MethodId) (meth : Method) (c : Code) (b L : Nat) (xs : Nat → Int32) : Prop :=
  p.tables.exec = Jvm.exec ∧ c.code = code ∧ meth.sig.returnType = ret ∧ c.maxLocals = 4 ∧ s.vm.findClass R_law = some m.cls ∧ (∀ w ∈ lw_tbl, w.before #[Value.ref b] s = true) ∧ va_X b L xs s s.heap ∧ b < s.heap.size ∧ meth.locks = false ∧ (Jvm.Cond.and given_1 narrow_1).before #[Value.ref b] s = true
/-- the cells that are the law's own -/
abbrev AW (s : State) : Nat → Prop := fun q => s.heap.size ≤ q
/-- what holds all through the law's body -/
def LB (p : Program) (s : State) (m : MethodId) (c : Code) (dC : Nat → ClassId) (dI : Nat → Nat → Nat) (cI cC : ClassId) (sk : (Nat → Nat) × (Nat → Nat)) (b L : Nat) (xs : Nat → Int32) : Prop := p.tables.exec = Jvm.exec ∧ c.code = code ∧ c.maxLocals = 4 ∧ s.vm.findClass RL = some m.cls ∧ (∀ w ∈ wsL_law, w.before #[Value.ref b] s = true) ∧ va_X b L xs s s.heap ∧ b < s.heap.size ∧ L ≤ 2048 ∧ EX sk (AW s) s s.heap ∧ va_K (dC, dI) vwCl (tyz cI cC) s
section LAWCALL
variable {p : Program} {l : Launch} {e : Env} {R : Room} {s : State} {m : MethodId} {args : Array Value} {below : List Frame} {meth : Method} {c : Code} {H : Heap} {locs : List Loc} {cells slots : Nat} {Q : State → Prop} {y : MethodName} {bytes cc : ByteArray} {maxL nL n index : Nat} {ret : Option FieldType} {wsy Ts : List Cond} {rm : Room} {own : String} {As rest st : List Value} {sk : (Nat → Nat) × (Nat → Nat)} {dC : Nat → ClassId} {dI : Nat → Nat → Nat} {cI cC : ClassId} {A : Nat → Prop} {pc : Nat} {ls : Array Slot} {r : Int32} {f g : Nat → Nat} {x x' : XT} {w w' : MT}
set_option maxRecDepth 100000 in
theorem lawX (S : CallFix p m c cc nL s args Ts own) (hE : EX sk A s s.heap) (hK : va_K (dC, dI) vwCl (tyz cI cC) s) (hA : ∀ q, s.heap.size ≤ q → A q) (hP : va_P (dC, dI) vwCl (XW cI cC f x ++ MW cI cC g w) H) (hD : va_D A (XW cI cC f x ++ MW cI cC g w)) (hS : va_S A s.heap H locs)
    (hM : ∀ sz : Nat, cRW l y wsy rm sk (dC, dI) (tyz cI cC) sz (XW cI cC f x) (XW cI cC f x') (.ref (f 0) :: As) r) (cw : CallW R s args own RX3 index y bytes maxL ret wsy rm 0 0 n) (hn : As.length = n) (hsz : ls.size = nL) (hst : st = As.reverse ++ .ref (f 0) :: rest) (hW : (rest.map fun v => v.category).sum ≤ 8) (hdg : decode cc pc = .ok (.invokevirtual index, 3)) (hf : cells ≤ R.cells ∧ slots ≤ R.slots)
    (kk : ∀ (H1 : Heap) (locs1 : List Loc), va_P (dC, dI) vwCl (XW cI cC f x' ++ MW cI cC g w) H1 → va_D A (XW cI cC f x' ++ MW cI cC g w) → va_S A s.heap H1 locs1 → W p l e R s m args below meth c H1 locs1 cells slots Q (F0 m (pc + 3) ls (.int r :: rest))) : W p l e R s m args below meth c H locs cells slots Q (F0 m pc ls st) :=
  g_rwV S hE hK hA hP hD hS (wc := XW cI cC f x) (wc' := XW cI cC f x') (ws' := XW cI cC f x' ++ MW cI cC g w) (wr := MW cI cC g w) (nw := 43) [0, 1, 2, 3, 4, 5, 6, 7, 8, 9, 10, 11, 12, 13, 14, 15, 16, 17, 18, 19, 20, 21, 22, 23, 24, 25, 26] [27, 28, 29, 30, 31, 32, 33, 34, 35, 36, 37, 38, 39, 40, 41, 42] rfl rfl rfl rfl rfl rfl (by decide +kernel) rfl (hM H.size) cw (va_recv hK hP (ci := 3) (q0 := 0) rfl rfl) hn hsz hst hW hdg hf kk
set_option maxRecDepth 100000 in
theorem lawM (S : CallFix p m c cc nL s args Ts own) (hE : EX sk A s s.heap) (hK : va_K (dC, dI) vwCl (tyz cI cC) s) (hA : ∀ q, s.heap.size ≤ q → A q) (hP : va_P (dC, dI) vwCl (XW cI cC f x ++ MW cI cC g w) H) (hD : va_D A (XW cI cC f x ++ MW cI cC g w)) (hS : va_S A s.heap H locs)
    (hM : ∀ sz : Nat, cRW l y wsy rm sk (dC, dI) (tyz cI cC) sz (MW cI cC g w) (MW cI cC g w') (.ref (g 0) :: As) r) (cw : CallW R s args own RX4 index y bytes maxL ret wsy rm 0 0 n) (hn : As.length = n) (hsz : ls.size = nL) (hst : st = As.reverse ++ .ref (g 0) :: rest) (hW : (rest.map fun v => v.category).sum ≤ 8) (hdg : decode cc pc = .ok (.invokevirtual index, 3)) (hf : cells ≤ R.cells ∧ slots ≤ R.slots)
    (kk : ∀ (H1 : Heap) (locs1 : List Loc), va_P (dC, dI) vwCl (XW cI cC f x ++ MW cI cC g w') H1 → va_D A (XW cI cC f x ++ MW cI cC g w') → va_S A s.heap H1 locs1 → W p l e R s m args below meth c H1 locs1 cells slots Q (F0 m (pc + 3) ls (.int r :: rest))) : W p l e R s m args below meth c H locs cells slots Q (F0 m pc ls st) :=
  g_rwV S hE hK hA hP hD hS (wc := MW cI cC g w) (wc' := MW cI cC g w') (ws' := XW cI cC f x ++ MW cI cC g w') (wr := XW cI cC f x) (nw := 43) [27, 28, 29, 30, 31, 32, 33, 34, 35, 36, 37, 38, 39, 40, 41, 42] [0, 1, 2, 3, 4, 5, 6, 7, 8, 9, 10, 11, 12, 13, 14, 15, 16, 17, 18, 19, 20, 21, 22, 23, 24, 25, 26] rfl rfl rfl rfl rfl rfl (by decide +kernel) rfl (hM H.size) cw (va_recv hK hP (ci := 4) (q0 := 27) rfl rfl) hn hsz hst hW hdg hf kk
set_option maxRecDepth 100000 in
theorem lasX (S : CallFix p m c cc nL s args Ts own) (hE : EX sk A s s.heap) (hK : va_K (dC, dI) vwCl (tyz cI cC) s) (hP : va_P (dC, dI) vwCl (XW cI cC f x ++ MW cI cC g w) H) (hS : va_S A s.heap H locs)
    (hM : cRO l y wsy rm sk (dC, dI) (tyz cI cC) (XW cI cC f x) (.ref (f 0) :: As) r) (cw : CallW R s args own RX3 index y bytes maxL ret wsy rm 0 0 n) (hn : As.length = n) (hsz : ls.size = nL) (hst : st = As.reverse ++ .ref (f 0) :: rest) (hW : (rest.map fun v => v.category).sum ≤ 8) (hdg : decode cc pc = .ok (.invokevirtual index, 3)) (hf : cells ≤ R.cells ∧ slots ≤ R.slots)
    (kk : ∀ (H1 : Heap) (locs1 : List Loc), va_P (dC, dI) vwCl (XW cI cC f x ++ MW cI cC g w) H1 → va_S A s.heap H1 locs1 → W p l e R s m args below meth c H1 locs1 cells slots Q (F0 m (pc + 3) ls (.int r :: rest))) : W p l e R s m args below meth c H locs cells slots Q (F0 m pc ls st) :=
  g_roV S hE hK hP hS (wc := XW cI cC f x) [0, 1, 2, 3, 4, 5, 6, 7, 8, 9, 10, 11, 12, 13, 14, 15, 16, 17, 18, 19, 20, 21, 22, 23, 24, 25, 26] rfl hM cw (va_recv hK hP (ci := 3) (q0 := 0) rfl rfl) hn hsz hst hW hdg hf kk
set_option maxRecDepth 100000 in
theorem lasM (S : CallFix p m c cc nL s args Ts own) (hE : EX sk A s s.heap) (hK : va_K (dC, dI) vwCl (tyz cI cC) s) (hP : va_P (dC, dI) vwCl (XW cI cC f x ++ MW cI cC g w) H) (hS : va_S A s.heap H locs)
    (hM : cRO l y wsy rm sk (dC, dI) (tyz cI cC) (MW cI cC g w) (.ref (g 0) :: As) r) (cw : CallW R s args own RX4 index y bytes maxL ret wsy rm 0 0 n) (hn : As.length = n) (hsz : ls.size = nL) (hst : st = As.reverse ++ .ref (g 0) :: rest) (hW : (rest.map fun v => v.category).sum ≤ 8) (hdg : decode cc pc = .ok (.invokevirtual index, 3)) (hf : cells ≤ R.cells ∧ slots ≤ R.slots)
    (kk : ∀ (H1 : Heap) (locs1 : List Loc), va_P (dC, dI) vwCl (XW cI cC f x ++ MW cI cC g w) H1 → va_S A s.heap H1 locs1 → W p l e R s m args below meth c H1 locs1 cells slots Q (F0 m (pc + 3) ls (.int r :: rest))) : W p l e R s m args below meth c H locs cells slots Q (F0 m pc ls st) :=
  g_roV S hE hK hP hS (wc := MW cI cC g w) [27, 28, 29, 30, 31, 32, 33, 34, 35, 36, 37, 38, 39, 40, 41, 42] rfl hM cw (va_recv hK hP (ci := 4) (q0 := 27) rfl rfl) hn hsz hst hW hdg hf kk
end LAWCALL
