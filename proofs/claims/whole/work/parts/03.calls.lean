/-! ===== what every method is given beside its world: nest mates' links, the texts, the JDK's statics ===== -/
def NWw : List Cond := [.fieldLinkNest "FloeToFloe$Walk" 103 "FloeToFloe$River" "lanes" "I" "FloeToFloe", .fieldLinkNest "FloeToFloe" 164 "FloeToFloe$River" "lanes" "I" "FloeToFloe", .fieldLinkNest "FloeToFloe" 100 "FloeToFloe$River" "floes" "I" "FloeToFloe", .fieldLinkNest "FloeToFloe$Walk" 45 "FloeToFloe$River" "minute" "I" "FloeToFloe", .fieldLinkNest "FloeToFloe" 86 "FloeToFloe$River" "minute" "I" "FloeToFloe", .fieldLinkNest "FloeToFloe" 50 "FloeToFloe$Telling" "size" "I" "FloeToFloe", .fieldLinkNest "FloeToFloe" 148 "FloeToFloe$Walk" "done" "I" "FloeToFloe", .methodLinkNest "FloeToFloe" 25 yX0_init "FloeToFloe", .methodLinkNest "FloeToFloe" 34 yX1_init "FloeToFloe", .methodLinkNest "FloeToFloe$River" 41 yX3_isCell "FloeToFloe", .methodLinkNest "FloeToFloe$Walk" 59 yX3_southCell "FloeToFloe", .fieldLinkNest "FloeToFloe" 16 "FloeToFloe$Walk" "river" "LFloeToFloe$River;" "FloeToFloe", .methodLinkNest "FloeToFloe$Walk" 11 yX0_init "FloeToFloe", .methodLinkNest "FloeToFloe" 11 yX2_init "FloeToFloe"]
def NWs (U : State) : Prop := ∀ (k : Nat) (w : Cond), NWw[k]? = some w → va_Nw w U
theorem NWs.warm {s U : State} (hW : s.WarmedH U.vm) (h : NWs s) : NWs U := by
  intro k w hk
  have h1 := h k w hk
  match k, hk with
  | 0, hk => cases hk; exact va_Nw.warmF hW h1
  | 1, hk => cases hk; exact va_Nw.warmF hW h1
  | 2, hk => cases hk; exact va_Nw.warmF hW h1
  | 3, hk => cases hk; exact va_Nw.warmF hW h1
  | 4, hk => cases hk; exact va_Nw.warmF hW h1
  | 5, hk => cases hk; exact va_Nw.warmF hW h1
  | 6, hk => cases hk; exact va_Nw.warmF hW h1
  | 7, hk => cases hk; exact va_Nw.warmM hW h1
  | 8, hk => cases hk; exact va_Nw.warmM hW h1
  | 9, hk => cases hk; exact va_Nw.warmM hW h1
  | 10, hk => cases hk; exact va_Nw.warmM hW h1
  | 11, hk => cases hk; exact va_Nw.warmF hW h1
  | 12, hk => cases hk; exact va_Nw.warmM hW h1
  | 13, hk => cases hk; exact va_Nw.warmM hW h1
  | n + 14, hk => cases hk
theorem NWs.same {u U : State} (hv : u.vm = U.vm) (h : NWs u) : NWs U := by
  intro k w hk
  have h1 := h k w hk
  match k, hk with
  | 0, hk => cases hk; exact va_Nw.same rfl hv h1
  | 1, hk => cases hk; exact va_Nw.same rfl hv h1
  | 2, hk => cases hk; exact va_Nw.same rfl hv h1
  | 3, hk => cases hk; exact va_Nw.same rfl hv h1
  | 4, hk => cases hk; exact va_Nw.same rfl hv h1
  | 5, hk => cases hk; exact va_Nw.same rfl hv h1
  | 6, hk => cases hk; exact va_Nw.same rfl hv h1
  | 7, hk => cases hk; exact va_Nw.same rfl hv h1
  | 8, hk => cases hk; exact va_Nw.same rfl hv h1
  | 9, hk => cases hk; exact va_Nw.same rfl hv h1
  | 10, hk => cases hk; exact va_Nw.same rfl hv h1
  | 11, hk => cases hk; exact va_Nw.same rfl hv h1
  | 12, hk => cases hk; exact va_Nw.same rfl hv h1
  | 13, hk => cases hk; exact va_Nw.same rfl hv h1
  | n + 14, hk => cases hk
/-- the six texts: 0 rd; 1 fkddsdd; 2 mdd; 3 md; 4 ? 5 fmgths -/
def lenS : List Nat := [3, 8, 4, 3, 1, 6]
def bytS : List (List Int32) := [[114, 100, 59], [102, 107, 100, 100, 115, 100, 100, 59], [109, 100, 100, 59], [109, 100, 59], [63], [102, 109, 103, 116, 104, 115]]
def idxS : List (Nat × String) := [(70, "rd;"), (72, "fkddsdd;"), (74, "mdd;"), (76, "md;"), (78, "?"), (80, "fmgths")]
def vkRs (sk : (Nat → Nat) × (Nat → Nat)) (U : State) : Prop := ∀ (k : Nat) (q : Nat × String), idxS[k]? = some q → vk_R "FloeToFloe$Telling" q.1 q.2 (sk.1 k) U
def SW (sk : (Nat → Nat) × (Nat → Nat)) (A : Nat → Prop) (U : State) (H : Heap) : Prop := vk_S 6 lenS bytS sk.1 sk.2 A U H ∧ vkRs sk U ∧ va_Z "java/lang/String" "COMPACT_STRINGS" "Z" (.int 1) A U H ∧ va_Zq "jdk/internal/util/Preconditions" "SIOOBE_FORMATTER" "Ljava/util/function/BiFunction;" A U H
def EX (sk : (Nat → Nat) × (Nat → Nat)) (A : Nat → Prop) (U : State) (H : Heap) : Prop := NWs U ∧ SW sk A U H
theorem EX.moved {sk : (Nat → Nat) × (Nat → Nat)} {A : Nat → Prop} {u U : State} {H : Heap} (hvm : u.vm.Alike U.vm) (hn : NWs u → NWs U) (hr : vkRs sk u → vkRs sk U) (h : EX sk A u H) : EX sk A U H :=
  ⟨hn h.1, h.2.1.moved hvm, hr h.2.2.1, h.2.2.2.1.moved hvm, h.2.2.2.2.moved hvm⟩
theorem EX.warm {sk : (Nat → Nat) × (Nat → Nat)} {A : Nat → Prop} {s U : State} {H : Heap} (hW : s.WarmedH U.vm) (h : EX sk A s H) : EX sk A U H := h.moved hW.alike (NWs.warm hW) (fun h k q hk => (h k q hk).warm hW)
theorem EX.same {sk : (Nat → Nat) × (Nat → Nat)} {A : Nat → Prop} {u U : State} {H : Heap} (hv : u.vm = U.vm) (h : EX sk A u H) : EX sk A U H := h.moved (hv ▸ Vm.Alike.refl u.vm) (NWs.same hv) (fun h k q hk => (h k q hk).same hv.symm)
theorem EX.kept {sk : (Nat → Nat) × (Nat → Nat)} {A : Nat → Prop} {U : State} {H H1 : Heap} (h : EX sk A U H) (hq : ∀ a : Nat, a < H.size → ¬ A a → H1[a]? = H[a]?) : EX sk A U H1 := ⟨h.1, h.2.1.kept hq, h.2.2.1, h.2.2.2.1.kept hq, h.2.2.2.2.kept hq⟩
theorem EX.narrow {sk : (Nat → Nat) × (Nat → Nat)} {A B : Nat → Prop} {U : State} {H : Heap} (h : EX sk A U H) (hAB : ∀ q, B q → A q) : EX sk B U H := ⟨h.1, h.2.1.narrow hAB, h.2.2.1, h.2.2.2.1.narrow hAB, h.2.2.2.2.narrow hAB⟩
/-! ===== contracts ===== -/
abbrev RMk (fr lo : Nat) : Room := { frames := fr, cells := 0, slots := 0, locals := lo }
abbrev tyz (cI cC : ClassId) : List (ClassId × FieldType) := [(cI, .int), (cC, .char)]
def noA : Nat → Prop := fun _ => False
def pRO (sk : (Nat → Nat) × (Nat → Nat)) (D : va_G) (tys : List (ClassId × FieldType)) (wc : va_W) (U : State) : Prop := va_P D vwCl wc U.heap ∧ va_K D vwCl tys U ∧ EX sk noA U U.heap
def oRO (r : Int32) : Array Value → State → Outcome → State → Prop := va_Qi (fun (r' : Int32) (_ : Unit) => r' = r) (fun _ _ => True) noA
def oRS (q : Nat) : Array Value → State → Outcome → State → Prop := va_Qr (fun (_ : Unit) => True) (fun _ a _ => a = q) noA
def pRW (sk : (Nat → Nat) × (Nat → Nat)) (D : va_G) (tys : List (ClassId × FieldType)) (sz : Nat) (wc : va_W) (U : State) : Prop := U.heap.size = sz ∧ va_P D vwCl wc U.heap ∧ va_K D vwCl tys U ∧ va_D (fun _ => True) wc ∧ EX sk (va_A wc sz) U U.heap
def oRW (D : va_G) (A : Nat → Prop) (wc' : va_W) (r : Int32) : Array Value → State → Outcome → State → Prop := va_Qi (fun (r' : Int32) (_ : Unit) => r' = r) (fun _ t => va_P D vwCl wc' t.heap) A
def oRV (D : va_G) (A : Nat → Prop) (wc' : va_W) : Array Value → State → Outcome → State → Prop := va_Qv (fun (_ : Unit) => True) (fun _ t => va_P D vwCl wc' t.heap) A
def cRO (l : Launch) (y : MethodName) (ws : List Cond) (rm : Room) (sk : (Nat → Nat) × (Nat → Nat)) (D : va_G) (tys : List (ClassId × FieldType)) (wc : va_W) (av : List Value) (r : Int32) : Prop := Met l y ws rm (va_Pc av (pRO sk D tys wc)) (oRO r) 0 0 noA
def cRS (l : Launch) (y : MethodName) (ws : List Cond) (rm : Room) (sk : (Nat → Nat) × (Nat → Nat)) (D : va_G) (tys : List (ClassId × FieldType)) (wc : va_W) (av : List Value) (q : Nat) : Prop := Met l y ws rm (va_Pc av (pRO sk D tys wc)) (oRS q) 0 0 noA
def cRW (l : Launch) (y : MethodName) (ws : List Cond) (rm : Room) (sk : (Nat → Nat) × (Nat → Nat)) (D : va_G) (tys : List (ClassId × FieldType)) (sz : Nat) (wc wc' : va_W) (av : List Value) (r : Int32) : Prop := Met l y ws rm (va_Pc av (pRW sk D tys sz wc)) (oRW D (va_A wc sz) wc' r) 0 0 (va_A wc sz)
def cRV (l : Launch) (y : MethodName) (ws : List Cond) (rm : Room) (sk : (Nat → Nat) × (Nat → Nat)) (D : va_G) (tys : List (ClassId × FieldType)) (sz : Nat) (wc wc' : va_W) (av : List Value) : Prop := Met l y ws rm (va_Pc av (pRW sk D tys sz wc)) (oRV D (va_A wc sz) wc') 0 0 (va_A wc sz)
def qRO (z : Int32) (below : List Frame) (args : Array Value) (s : State) : State → Prop := MQ below (oRO z) args s 0 0 noA
def qRS (q : Nat) (below : List Frame) (args : Array Value) (s : State) : State → Prop := MQ below (oRS q) args s 0 0 noA
def qRW (z : Int32) (wz : va_W) (D : va_G) (A : Nat → Prop) (below : List Frame) (args : Array Value) (s : State) : State → Prop := MQ below (oRW D A wz z) args s 0 0 A
def qRV (wz : va_W) (D : va_G) (A : Nat → Prop) (below : List Frame) (args : Array Value) (s : State) : State → Prop := MQ below (oRV D A wz) args s 0 0 A
theorem blindRO {sk : (Nat → Nat) × (Nat → Nat)} {D : va_G} {tys : List (ClassId × FieldType)} {wc : va_W} {av : List Value} : FrameBlind (va_Pc av (pRO sk D tys wc)) := fun a U g mk q => ⟨q.1, q.2.1, va_K.moved (u := U) (U := U.calling g mk a) (Vm.Alike.refl U.vm) q.2.2.1, EX.same (u := U) (U := U.calling g mk a) rfl q.2.2.2⟩
theorem blindRW {sk : (Nat → Nat) × (Nat → Nat)} {D : va_G} {tys : List (ClassId × FieldType)} {sz : Nat} {wc : va_W} {av : List Value} : FrameBlind (va_Pc av (pRW sk D tys sz wc)) := fun a U g mk q => ⟨q.1, q.2.1, q.2.2.1, va_K.moved (u := U) (U := U.calling g mk a) (Vm.Alike.refl U.vm) q.2.2.2.1, q.2.2.2.2.1, EX.same (u := U) (U := U.calling g mk a) rfl q.2.2.2.2.2⟩
theorem Met_ofWF {l : Launch} {y : MethodName} {ws ws' : List Cond} {rm : Room} {Pc : Array Value → State → Prop} {Qc : Array Value → State → Outcome → State → Prop} {mc ms : Nat} {free : Addr → Prop} {cc : ByteArray} {maxL : Nat} {ret : Option FieldType}
    (hy : plainFor y = true) (hw : ws = Cond.code y cc maxL ret :: ws')
    (body : ∀ p e s m args below meth c s₁, BodyLoose p l y (headSpec ws rm) cc maxL ret e s m args below meth c s₁ → c.maxLocals = maxL → Pc args s →
      W p l e (headSpec ws rm).room s m args below meth c s.heap [] 0 0 (MQ below Qc args s mc ms free) (entryFrame m args maxL)) : Met l y ws rm Pc Qc mc ms free := by
  refine MetFree.of_bodySF (code := cc) (maxLocals := maxL) (ret := ret) hy ?_ ?_
  · intro args s m h hn
    obtain ⟨meth, c, h1, h2, h3, h4, h5, h6, -, -⟩ := Cond.code_spec hn (atoms_spec (ws := ws) h _ (by rw [hw]; exact List.mem_cons_self))
    exact ⟨meth, c, h1, h2, h3, h4, h5, h6⟩
  · intro p e s m args below meth c s₁ B hml hP _
    have hh0 : s₁.heap = s.heap := by rw [B.state]; rfl
    obtain ⟨t, a1, o, b1, b2, b3⟩ := body p e s m args below meth c s₁ B hml hP s₁ hh0 (Stand.of_body B)
    exact ⟨t, o, a1, b1, b2, ⟨b3.1, b3.2⟩⟩
section ENTRY
variable {l : Launch} {y : MethodName} {ws ws' : List Cond} {rm : Room} {sk : (Nat → Nat) × (Nat → Nat)} {D : va_G} {tys : List (ClassId × FieldType)} {wc wc' : va_W} {av : List Value} {cc : ByteArray} {maxL : Nat} {ret : Option FieldType} {own : String}
theorem ofRO {z : Int32} (hy : plainFor y = true) (hw : ws = Cond.code y cc maxL ret :: ws') (ho : y.cls = own) (hlen : (lg_sl av).length ≤ maxL)
    (body : ∀ (p : Program) (e : Env) (s : State) (m : MethodId) (args : Array Value) (below : List Frame) (meth : Method) (c : Code), p.tables.exec = Jvm.exec → c.code = cc → c.maxLocals = maxL → meth.sig.returnType = ret → (∀ w ∈ ws, w.before args s = true) → s.vm.findClass own = some m.cls → meth.locks = false → EX sk noA s s.heap → va_K D vwCl tys s → va_P D vwCl wc s.heap → va_S noA s.heap s.heap [] → ∀ ls : Array Slot, lv_has ls maxL (lv_args 0 av) →
      W p l e rm s m args below meth c s.heap [] 0 0 (qRO z below args s) (F0 m 0 ls [])) : cRO l y ws rm sk D tys wc av z := by
  refine Met_ofWF (cc := cc) (maxL := maxL) (ret := ret) hy hw ?_
  intro p e s m args below meth c s₁ B hml hv
  obtain ⟨rfl, hP, hK, hE⟩ := hv
  have hl := lv_entry av (n := maxL) hlen
  rw [lg_entry_eq]
  generalize (lg_sl av ++ List.replicate (maxL - (lg_sl av).length) Slot.unset).toArray = ls at hl ⊢
  exact body p e s m _ below meth c B.exec B.bytes hml B.returns (atoms_spec (ws := ws) B.pre) (by rw [← ho]; exact findClass_of_methodNamed B.named) B.notSynchronized hE hK hP va_S.rf ls hl
theorem ofRS {z : Nat} (hy : plainFor y = true) (hw : ws = Cond.code y cc maxL ret :: ws') (ho : y.cls = own) (hlen : (lg_sl av).length ≤ maxL)
    (body : ∀ (p : Program) (e : Env) (s : State) (m : MethodId) (args : Array Value) (below : List Frame) (meth : Method) (c : Code), p.tables.exec = Jvm.exec → c.code = cc → c.maxLocals = maxL → meth.sig.returnType = ret → (∀ w ∈ ws, w.before args s = true) → s.vm.findClass own = some m.cls → meth.locks = false → EX sk noA s s.heap → va_K D vwCl tys s → va_P D vwCl wc s.heap → va_S noA s.heap s.heap [] → ∀ ls : Array Slot, lv_has ls maxL (lv_args 0 av) →
      W p l e rm s m args below meth c s.heap [] 0 0 (qRS z below args s) (F0 m 0 ls [])) : cRS l y ws rm sk D tys wc av z := by
  refine Met_ofWF (cc := cc) (maxL := maxL) (ret := ret) hy hw ?_
  intro p e s m args below meth c s₁ B hml hv
  obtain ⟨rfl, hP, hK, hE⟩ := hv
  have hl := lv_entry av (n := maxL) hlen
  rw [lg_entry_eq]
  generalize (lg_sl av ++ List.replicate (maxL - (lg_sl av).length) Slot.unset).toArray = ls at hl ⊢
  exact body p e s m _ below meth c B.exec B.bytes hml B.returns (atoms_spec (ws := ws) B.pre) (by rw [← ho]; exact findClass_of_methodNamed B.named) B.notSynchronized hE hK hP va_S.rf ls hl
theorem ofRW {z : Int32} {sz : Nat} (hy : plainFor y = true) (hw : ws = Cond.code y cc maxL ret :: ws') (ho : y.cls = own) (hlen : (lg_sl av).length ≤ maxL)
    (body : ∀ (p : Program) (e : Env) (s : State) (m : MethodId) (args : Array Value) (below : List Frame) (meth : Method) (c : Code) (A : Nat → Prop), (∀ q : Nat, s.heap.size ≤ q → A q) → p.tables.exec = Jvm.exec → c.code = cc → c.maxLocals = maxL → meth.sig.returnType = ret → (∀ w ∈ ws, w.before args s = true) → s.vm.findClass own = some m.cls → meth.locks = false → EX sk A s s.heap → va_K D vwCl tys s → va_P D vwCl wc s.heap → va_D A wc → va_S A s.heap s.heap [] → ∀ ls : Array Slot, lv_has ls maxL (lv_args 0 av) →
      W p l e rm s m args below meth c s.heap [] 0 0 (qRW z wc' D A below args s) (F0 m 0 ls [])) : cRW l y ws rm sk D tys sz wc wc' av z := by
  refine Met_ofWF (cc := cc) (maxL := maxL) (ret := ret) hy hw ?_
  intro p e s m args below meth c s₁ B hml hv
  obtain ⟨rfl, hsz, hP, hK, hD0, hE⟩ := hv
  subst hsz
  have hl := lv_entry av (n := maxL) hlen
  rw [lg_entry_eq]
  generalize (lg_sl av ++ List.replicate (maxL - (lg_sl av).length) Slot.unset).toArray = ls at hl ⊢
  exact body p e s m _ below meth c _ (fun q h => Or.inr h) B.exec B.bytes hml B.returns (atoms_spec (ws := ws) B.pre) (by rw [← ho]; exact findClass_of_methodNamed B.named) B.notSynchronized hE hK hP (hD0.self (sz := s.heap.size)) va_S.rf ls hl
theorem ofRV {sz : Nat} (hy : plainFor y = true) (hw : ws = Cond.code y cc maxL ret :: ws') (ho : y.cls = own) (hlen : (lg_sl av).length ≤ maxL)
    (body : ∀ (p : Program) (e : Env) (s : State) (m : MethodId) (args : Array Value) (below : List Frame) (meth : Method) (c : Code) (A : Nat → Prop), (∀ q : Nat, s.heap.size ≤ q → A q) → p.tables.exec = Jvm.exec → c.code = cc → c.maxLocals = maxL → meth.sig.returnType = ret → (∀ w ∈ ws, w.before args s = true) → s.vm.findClass own = some m.cls → meth.locks = false → EX sk A s s.heap → va_K D vwCl tys s → va_P D vwCl wc s.heap → va_D A wc → va_S A s.heap s.heap [] → ∀ ls : Array Slot, lv_has ls maxL (lv_args 0 av) →
      W p l e rm s m args below meth c s.heap [] 0 0 (qRV wc' D A below args s) (F0 m 0 ls [])) : cRV l y ws rm sk D tys sz wc wc' av := by
  refine Met_ofWF (cc := cc) (maxL := maxL) (ret := ret) hy hw ?_
  intro p e s m args below meth c s₁ B hml hv
  obtain ⟨rfl, hsz, hP, hK, hD0, hE⟩ := hv
  subst hsz
  have hl := lv_entry av (n := maxL) hlen
  rw [lg_entry_eq]
  generalize (lg_sl av ++ List.replicate (maxL - (lg_sl av).length) Slot.unset).toArray = ls at hl ⊢
  exact body p e s m _ below meth c _ (fun q h => Or.inr h) B.exec B.bytes hml B.returns (atoms_spec (ws := ws) B.pre) (by rw [← ho]; exact findClass_of_methodNamed B.named) B.notSynchronized hE hK hP (hD0.self (sz := s.heap.size)) va_S.rf ls hl
end ENTRY
section CALLS
variable {p : Program} {l : Launch} {e : Env} {R : Room} {s : State} {m : MethodId} {args : Array Value} {below : List Frame} {meth : Method} {c : Code} {H : Heap} {locs : List Loc} {cells slots : Nat} {Q : State → Prop}
variable {y : MethodName} {bytes cc : ByteArray} {maxL nL n index : Nat} {ret : Option FieldType} {wsy Ts : List Cond} {rm : Room} {own C host : String} {b : Addr} {As rest st : List Value} {sk : (Nat → Nat) × (Nat → Nat)} {D : va_G} {tys : List (ClassId × FieldType)} {ws wc wc' : va_W} {A : Nat → Prop} {pc : Nat} {ls : Array Slot} {r : Int32}
theorem retRO {z v : Int32} {ty : FieldType} (hx : p.tables.exec = Jvm.exec) (hb : c.code = cc) (hr : meth.sig.returnType = some ty) (hlocks : meth.locks = false) (hn : narrow ty (.int v) = .int v) (hS : va_S noA s.heap H locs) (h : some v = some z) (hdg : decode cc pc = .ok (.ireturn, 1)) : W p l e R s m args below meth c H locs 0 0 (qRO z below args s) (F0 m pc ls [.int v]) := by
  exact W.zret (v := v) hx hb hr hn (fun t ht hW => ⟨⟨v, (), rfl, Option.some.inj h, trivial⟩, hS.F ht⟩) hS.2.2 hdg hlocks
theorem retRS {z zz v : Nat} {ty : FieldType} (fz : Nat → Nat) (hty : (∃ n, ty = FieldType.object n) ∨ ∃ t, ty = FieldType.array t) (hx : p.tables.exec = Jvm.exec) (hb : c.code = cc) (hr : meth.sig.returnType = some ty) (hlocks : meth.locks = false) (hS : va_S noA s.heap H locs) (h : some zz = some z) (hv : fz zz = v) (hdg : decode cc pc = .ok (.areturn, 1)) : W p l e R s m args below meth c H locs 0 0 (qRS (fz z) below args s) (F0 m pc ls [.ref v]) := by
  have e := Option.some.inj h
  exact W.aret (v := .ref v) hx hb hr hty (Or.inr ⟨v, rfl⟩) (fun t ht hW => ⟨⟨(), v, rfl, trivial, by rw [← e]; exact hv.symm⟩, hS.F ht⟩) hS.2.2 hdg hlocks
theorem retRW {ρ : Type} {z zz : ρ} {v : Int32} {ty : FieldType} (rz : ρ → Int32) (wz : ρ → va_W) (hx : p.tables.exec = Jvm.exec) (hb : c.code = cc) (hr : meth.sig.returnType = some ty) (hlocks : meth.locks = false) (hn : narrow ty (.int v) = .int v) (hS : va_S A s.heap H locs) (h : some zz = some z) (hv : rz zz = v) (hP : va_P D vwCl (wz zz) H) (hdg : decode cc pc = .ok (.ireturn, 1)) : W p l e R s m args below meth c H locs 0 0 (qRW (rz z) (wz z) D A below args s) (F0 m pc ls [.int v]) := by
  have e := Option.some.inj h
  exact W.zret (v := v) hx hb hr hn (fun t ht hW => ⟨⟨v, (), rfl, by rw [← e]; exact hv.symm, by show va_P D vwCl (wz z) t.heap; rw [ht, ← e]; exact hP⟩, hS.F ht⟩) hS.2.2 hdg hlocks
theorem retRV {ρ : Type} {z zz : ρ} (wz : ρ → va_W) (hx : p.tables.exec = Jvm.exec) (hb : c.code = cc) (hr : meth.sig.returnType = none) (hlocks : meth.locks = false) (hS : va_S A s.heap H locs) (h : some zz = some z) (hP : va_P D vwCl (wz zz) H) (hdg : decode cc pc = .ok (.return_, 1)) : W p l e R s m args below meth c H locs 0 0 (qRV (wz z) D A below args s) (F0 m pc ls []) := by
  have e := Option.some.inj h
  exact W.vret hx hb hr (fun t ht hW => ⟨⟨(), rfl, trivial, by show va_P D vwCl (wz z) t.heap; rw [ht, ← e]; exact hP⟩, hS.F ht⟩) hS.2.2 hdg hlocks
theorem preRO (hE : EX sk A s s.heap) (hK : va_K D vwCl tys s) (hP : va_P D vwCl wc H) (hS : va_S A s.heap H locs) {av : List Value} : ∀ U : State, U.heap = H → s.WarmedH U.vm → va_Pc av (pRO sk D tys wc) av.toArray U := fun U hU hW => ⟨rfl, by rw [hU]; exact hP, va_K.moved hW.alike hK, by rw [hU]; exact ((hE.kept hS.2.1).narrow (fun q h => h.elim)).warm hW⟩
theorem preRW (hE : EX sk A s s.heap) (hK : va_K D vwCl tys s) (hP : va_P D vwCl wc H) (hD : va_D (fun _ => True) wc) (hF : ∀ q, va_A wc H.size q → A q) (hS : va_S A s.heap H locs) {av : List Value} : ∀ U : State, U.heap = H → s.WarmedH U.vm → va_Pc av (pRW sk D tys H.size wc) av.toArray U := fun U hU hW => ⟨rfl, by rw [hU], by rw [hU]; exact hP, va_K.moved hW.alike hK, hD, by rw [hU]; exact ((hE.kept hS.2.1).narrow hF).warm hW⟩
theorem runRO {g : List Value} {st0 : List Value} {a : Array Value} (hr : va_Run p l e R s m args below meth c H locs cells slots 0 0 (F0 m pc ls st0) g (oRO r a) noA) (hP : va_P D vwCl ws H) (hS : va_S A s.heap H locs)
    (kk : ∀ (H1 : Heap) (locs1 : List Loc), va_P D vwCl ws H1 → va_S A s.heap H1 locs1 → W p l e R s m args below meth c H1 locs1 cells slots Q (F0 m (pc + 3) ls (.int r :: g))) : W p l e R s m args below meth c H locs cells slots Q (F0 m pc ls st0) := by
  refine va_calli (A1 := noA) hr hS (fun _ _ h => h.elim) (fun _ h => h.elim) (fun r1 u t H1 locs1 ht hvm hw hB hz hk hS1 => ?_)
  cases hw
  exact kk H1 locs1 (hP.kept fun k q hq => hk q.1 (hP k q hq).lt (fun h => h)) hS1
theorem g_roS (S : CallFix p m c cc nL s args Ts own) (hE : EX sk A s s.heap) (hK : va_K D vwCl tys s) (hP : va_P D vwCl ws H) (hS : va_S A s.heap H locs) (iC : List Nat) (hC : iC.map (fun i => ws[i]?) = wc.map some)
    (hM : cRO l y wsy rm sk D tys wc As r) (cw : CallB R s args own index y bytes maxL ret wsy rm 0 0 n ∧ (Cond.static y).before args s = true) (hn : As.length = n) (hsz : ls.size = nL) (hst : st = As.reverse ++ rest) (hW : (rest.map fun v => v.category).sum ≤ 8) (hdg : decode cc pc = .ok (.invokestatic index, 3)) (hf : cells ≤ R.cells ∧ slots ≤ R.slots)
    (kk : ∀ (H1 : Heap) (locs1 : List Loc), va_P D vwCl ws H1 → va_S A s.heap H1 locs1 → W p l e R s m args below meth c H1 locs1 cells slots Q (F0 m (pc + 3) ls (.int r :: rest))) : W p l e R s m args below meth c H locs cells slots Q (F0 m pc ls st) :=
  runRO (va_runS (As := As) (rest := rest) (g := F0 m pc ls st) S hM cw ⟨blindRO, preRO hE hK (subP hP iC hC) hS⟩ rfl hn hsz hst (lv_room hW) hdg hf) hP hS kk
theorem g_roN (S : CallFix p m c cc nL s args Ts own) (hE : EX sk A s s.heap) (hK : va_K D vwCl tys s) (hP : va_P D vwCl ws H) (hS : va_S A s.heap H locs) (iC : List Nat) (hC : iC.map (fun i => ws[i]?) = wc.map some)
    (hM : cRO l y wsy rm sk D tys wc As r) (cw : va_CN R s args own index y host bytes maxL ret wsy rm 0 0 n ∧ (Cond.static y).before args s = true ∧ True) (hn : As.length = n) (hsz : ls.size = nL) (hst : st = As.reverse ++ rest) (hW : (rest.map fun v => v.category).sum ≤ 8) (hdg : decode cc pc = .ok (.invokestatic index, 3)) (hf : cells ≤ R.cells ∧ slots ≤ R.slots)
    (kk : ∀ (H1 : Heap) (locs1 : List Loc), va_P D vwCl ws H1 → va_S A s.heap H1 locs1 → W p l e R s m args below meth c H1 locs1 cells slots Q (F0 m (pc + 3) ls (.int r :: rest))) : W p l e R s m args below meth c H locs cells slots Q (F0 m pc ls st) :=
  runRO (va_runSN (As := As) (rest := rest) (g := F0 m pc ls st) S hM cw ⟨blindRO, preRO hE hK (subP hP iC hC) hS⟩ rfl hn hsz hst (lv_room hW) hdg hf) hP hS kk
theorem g_roV (S : CallFix p m c cc nL s args Ts own) (hE : EX sk A s s.heap) (hK : va_K D vwCl tys s) (hP : va_P D vwCl ws H) (hS : va_S A s.heap H locs) (iC : List Nat) (hC : iC.map (fun i => ws[i]?) = wc.map some)
    (hM : cRO l y wsy rm sk D tys wc (.ref b :: As) r) (cw : CallW R s args own C index y bytes maxL ret wsy rm 0 0 n) (rc : ∃ cell : Cell, H[b]? = some cell ∧ cell.vm.isStatics = false ∧ s.vm.findClass C = some cell.cls) (hn : As.length = n) (hsz : ls.size = nL) (hst : st = As.reverse ++ .ref b :: rest) (hW : (rest.map fun v => v.category).sum ≤ 8) (hdg : decode cc pc = .ok (.invokevirtual index, 3)) (hf : cells ≤ R.cells ∧ slots ≤ R.slots)
    (kk : ∀ (H1 : Heap) (locs1 : List Loc), va_P D vwCl ws H1 → va_S A s.heap H1 locs1 → W p l e R s m args below meth c H1 locs1 cells slots Q (F0 m (pc + 3) ls (.int r :: rest))) : W p l e R s m args below meth c H locs cells slots Q (F0 m pc ls st) :=
  runRO (va_runV (As := As) (rest := rest) (g := F0 m pc ls st) S hM cw ⟨blindRO, rc, preRO hE hK (subP hP iC hC) hS⟩ rfl hn hsz hst (lv_room hW) hdg hf) hP hS kk
theorem g_rsV {q : Nat} (S : CallFix p m c cc nL s args Ts own) (hE : EX sk A s s.heap) (hK : va_K D vwCl tys s) (hP : va_P D vwCl ws H) (hS : va_S A s.heap H locs) (iC : List Nat) (hC : iC.map (fun i => ws[i]?) = wc.map some)
    (hM : cRS l y wsy rm sk D tys wc (.ref b :: As) q) (cw : CallW R s args own C index y bytes maxL ret wsy rm 0 0 n) (rc : ∃ cell : Cell, H[b]? = some cell ∧ cell.vm.isStatics = false ∧ s.vm.findClass C = some cell.cls) (hn : As.length = n) (hsz : ls.size = nL) (hst : st = As.reverse ++ .ref b :: rest) (hW : (rest.map fun v => v.category).sum ≤ 8) (hdg : decode cc pc = .ok (.invokevirtual index, 3)) (hf : cells ≤ R.cells ∧ slots ≤ R.slots)
    (kk : ∀ (H1 : Heap) (locs1 : List Loc), va_P D vwCl ws H1 → va_S A s.heap H1 locs1 → W p l e R s m args below meth c H1 locs1 cells slots Q (F0 m (pc + 3) ls (.ref q :: rest))) : W p l e R s m args below meth c H locs cells slots Q (F0 m pc ls st) := by
  refine va_callr (A1 := noA) (va_runV (As := As) (rest := rest) (g := F0 m pc ls st) S hM cw ⟨blindRO, rc, preRO hE hK (subP hP iC hC) hS⟩ rfl hn hsz hst (lv_room hW) hdg hf) hS (fun _ _ h => h.elim) (fun _ h => h.elim) (fun u q1 t H1 locs1 ht hvm hw hB hz hk hS1 => ?_)
  cases hB
  exact kk H1 locs1 (hP.kept fun k q hq => hk q.1 (hP k q hq).lt (fun h => h)) hS1
theorem g_rwV (S : CallFix p m c cc nL s args Ts own) (hE : EX sk A s s.heap) (hK : va_K D vwCl tys s) (hA : ∀ q, s.heap.size ≤ q → A q) (hP : va_P D vwCl ws H) (hD : va_D A ws) (hS : va_S A s.heap H locs) {ws' wr : va_W} {nw : Nat} (iC iR : List Nat) (hC : iC.map (fun i => ws[i]?) = wc.map some) (hnd : va_nd iC = true) (hC' : iC.map (fun i => ws'[i]?) = wc'.map some) (hR1 : iR.map (fun i => ws[i]?) = wr.map some) (hR2 : iR.map (fun i => ws'[i]?) = wr.map some) (hlen : ws'.length = nw) (hcov : (List.range nw).all (fun i => iC.contains i || (iR.contains i && !iC.contains i)) = true) (hfs : ws'.map Prod.fst = ws.map Prod.fst)
    (hM : cRW l y wsy rm sk D tys H.size wc wc' (.ref b :: As) r) (cw : CallW R s args own C index y bytes maxL ret wsy rm 0 0 n) (rc : ∃ cell : Cell, H[b]? = some cell ∧ cell.vm.isStatics = false ∧ s.vm.findClass C = some cell.cls) (hn : As.length = n) (hsz : ls.size = nL) (hst : st = As.reverse ++ .ref b :: rest) (hW : (rest.map fun v => v.category).sum ≤ 8) (hdg : decode cc pc = .ok (.invokevirtual index, 3)) (hf : cells ≤ R.cells ∧ slots ≤ R.slots)
    (kk : ∀ (H1 : Heap) (locs1 : List Loc), va_P D vwCl ws' H1 → va_D A ws' → va_S A s.heap H1 locs1 → W p l e R s m args below meth c H1 locs1 cells slots Q (F0 m (pc + 3) ls (.int r :: rest))) : W p l e R s m args below meth c H locs cells slots Q (F0 m pc ls st) := by
  have hF := va_free (wc := wc) hD hS hA iC hC
  refine va_calli (A1 := va_A wc H.size) (va_runV (As := As) (rest := rest) (g := F0 m pc ls st) S hM cw ⟨blindRW, rc, preRW hE hK (subP hP iC hC) (subD hD iC hC hnd) hF hS⟩ rfl hn hsz hst (lv_room hW) hdg hf) hS (fun q _ h => hF q h) hF (fun r1 u t H1 locs1 ht hvm hw hB hz hk hS1 => ?_)
  cases hw
  have hB : va_P D vwCl wc' t.heap := hB
  rw [ht] at hB
  obtain ⟨h1, h2⟩ := back2 hP hD iC iR hC hC' hR1 hR2 hlen hcov hfs hk hB
  exact kk H1 locs1 h1 h2 hS1
theorem g_rvV (S : CallFix p m c cc nL s args Ts own) (hE : EX sk A s s.heap) (hK : va_K D vwCl tys s) (hA : ∀ q, s.heap.size ≤ q → A q) (hP : va_P D vwCl ws H) (hD : va_D A ws) (hS : va_S A s.heap H locs) {ws' wr : va_W} {nw : Nat} (iC iR : List Nat) (hC : iC.map (fun i => ws[i]?) = wc.map some) (hnd : va_nd iC = true) (hC' : iC.map (fun i => ws'[i]?) = wc'.map some) (hR1 : iR.map (fun i => ws[i]?) = wr.map some) (hR2 : iR.map (fun i => ws'[i]?) = wr.map some) (hlen : ws'.length = nw) (hcov : (List.range nw).all (fun i => iC.contains i || (iR.contains i && !iC.contains i)) = true) (hfs : ws'.map Prod.fst = ws.map Prod.fst)
    (hM : cRV l y wsy rm sk D tys H.size wc wc' (.ref b :: As)) (cw : CallW R s args own C index y bytes maxL ret wsy rm 0 0 n) (rc : ∃ cell : Cell, H[b]? = some cell ∧ cell.vm.isStatics = false ∧ s.vm.findClass C = some cell.cls) (hn : As.length = n) (hsz : ls.size = nL) (hst : st = As.reverse ++ .ref b :: rest) (hW : (rest.map fun v => v.category).sum ≤ 8) (hdg : decode cc pc = .ok (.invokevirtual index, 3)) (hf : cells ≤ R.cells ∧ slots ≤ R.slots)
    (kk : ∀ (H1 : Heap) (locs1 : List Loc), va_P D vwCl ws' H1 → va_D A ws' → va_S A s.heap H1 locs1 → W p l e R s m args below meth c H1 locs1 cells slots Q (F0 m (pc + 3) ls rest)) : W p l e R s m args below meth c H locs cells slots Q (F0 m pc ls st) := by
  have hF := va_free (wc := wc) hD hS hA iC hC
  refine va_callv (A1 := va_A wc H.size) (va_runV (As := As) (rest := rest) (g := F0 m pc ls st) S hM cw ⟨blindRW, rc, preRW hE hK (subP hP iC hC) (subD hD iC hC hnd) hF hS⟩ rfl hn hsz hst (lv_room hW) hdg hf) hS (fun q _ h => hF q h) hF (fun u t H1 locs1 ht hvm hw hB hz hk hS1 => ?_)
  have hB : va_P D vwCl wc' t.heap := hB
  rw [ht] at hB
  obtain ⟨h1, h2⟩ := back2 hP hD iC iR hC hC' hR1 hR2 hlen hcov hfs hk hB
  exact kk H1 locs1 h1 h2 hS1
theorem g_rwA (S : CallFix p m c cc nL s args Ts own) (hE : EX sk A s s.heap) (hK : va_K D vwCl tys s) (hA : ∀ q, s.heap.size ≤ q → A q) (hP : va_P D vwCl wc H) (hD : va_D A wc) (hS : va_S A s.heap H locs) (hfs : wc'.map Prod.fst = wc.map Prod.fst)
    (hM : cRW l y wsy rm sk D tys H.size wc wc' (.ref b :: As) r) (cw : CallW R s args own C index y bytes maxL ret wsy rm 0 0 n) (rc : ∃ cell : Cell, H[b]? = some cell ∧ cell.vm.isStatics = false ∧ s.vm.findClass C = some cell.cls) (hn : As.length = n) (hsz : ls.size = nL) (hst : st = As.reverse ++ .ref b :: rest) (hW : (rest.map fun v => v.category).sum ≤ 8) (hdg : decode cc pc = .ok (.invokevirtual index, 3)) (hf : cells ≤ R.cells ∧ slots ≤ R.slots)
    (kk : ∀ (H1 : Heap) (locs1 : List Loc), va_P D vwCl wc' H1 → va_D A wc' → va_S A s.heap H1 locs1 → W p l e R s m args below meth c H1 locs1 cells slots Q (F0 m (pc + 3) ls (.int r :: rest))) : W p l e R s m args below meth c H locs cells slots Q (F0 m pc ls st) := by
  have hF : ∀ q, va_A wc H.size q → A q := fun q h => h.elim (fun ⟨k, e, h⟩ => hD.2 k (q, e) h) (fun h => hA q (Nat.le_trans hS.1 h))
  refine va_calli (A1 := va_A wc H.size) (va_runV (As := As) (rest := rest) (g := F0 m pc ls st) S hM cw ⟨blindRW, rc, preRW hE hK hP (hD.weaken (fun _ _ _ _ => trivial)) hF hS⟩ rfl hn hsz hst (lv_room hW) hdg hf) hS (fun q _ h => hF q h) hF (fun r1 u t H1 locs1 ht hvm hw hB hz hk hS1 => ?_)
  cases hw
  have hB : va_P D vwCl wc' t.heap := hB
  rw [ht] at hB
  exact kk H1 locs1 hB (dOf hD hfs) hS1
theorem g_rvA (S : CallFix p m c cc nL s args Ts own) (hE : EX sk A s s.heap) (hK : va_K D vwCl tys s) (hA : ∀ q, s.heap.size ≤ q → A q) (hP : va_P D vwCl wc H) (hD : va_D A wc) (hS : va_S A s.heap H locs) (hfs : wc'.map Prod.fst = wc.map Prod.fst)
    (hM : cRV l y wsy rm sk D tys H.size wc wc' (.ref b :: As)) (cw : CallW R s args own C index y bytes maxL ret wsy rm 0 0 n) (rc : ∃ cell : Cell, H[b]? = some cell ∧ cell.vm.isStatics = false ∧ s.vm.findClass C = some cell.cls) (hn : As.length = n) (hsz : ls.size = nL) (hst : st = As.reverse ++ .ref b :: rest) (hW : (rest.map fun v => v.category).sum ≤ 8) (hdg : decode cc pc = .ok (.invokevirtual index, 3)) (hf : cells ≤ R.cells ∧ slots ≤ R.slots)
    (kk : ∀ (H1 : Heap) (locs1 : List Loc), va_P D vwCl wc' H1 → va_D A wc' → va_S A s.heap H1 locs1 → W p l e R s m args below meth c H1 locs1 cells slots Q (F0 m (pc + 3) ls rest)) : W p l e R s m args below meth c H locs cells slots Q (F0 m pc ls st) := by
  have hF : ∀ q, va_A wc H.size q → A q := fun q h => h.elim (fun ⟨k, e, h⟩ => hD.2 k (q, e) h) (fun h => hA q (Nat.le_trans hS.1 h))
  refine va_callv (A1 := va_A wc H.size) (va_runV (As := As) (rest := rest) (g := F0 m pc ls st) S hM cw ⟨blindRW, rc, preRW hE hK hP (hD.weaken (fun _ _ _ _ => trivial)) hF hS⟩ rfl hn hsz hst (lv_room hW) hdg hf) hS (fun q _ h => hF q h) hF (fun u t H1 locs1 ht hvm hw hB hz hk hS1 => ?_)
  have hB : va_P D vwCl wc' t.heap := hB
  rw [ht] at hB
  exact kk H1 locs1 hB (dOf hD hfs) hS1
end CALLS
