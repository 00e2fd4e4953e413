/-! THE LAYER: contracts of methods that return or throw, all of them over one start s0 of the law. A contract speaks of one word of the tables alone, the method's code; every other word is read off s0 by kEnv. -/
section KL
/-- the words that stay as the tables grow warmer, and that the tables alone decide -/
def kGood (w : Cond) : Bool := (w.onTables && w.keepsCast) || (match w with | .arrayClass _ => true | .not (.castable ..) => true | _ => false)
theorem kGood_at {a a' : Array Value} {s0 U : State} {w : Cond} (hg : kGood w = true) (hW : s0.WarmedH U.vm) (h : w.before a s0 = true) : w.before a' U = true := by
  have hS : s0.Shifted U.vm := State.Shifted.of_warmed hW
  have key : w.keepsCast = true ∨ ∃ ty, w = .arrayClass ty := by
    simp only [kGood, Bool.or_eq_true, Bool.and_eq_true] at hg
    rcases hg with hg | hg
    · exact Or.inl hg.2
    · revert hg
      split
      · intro _; exact Or.inr ⟨_, rfl⟩
      · intro _; exact Or.inl (by simp [Cond.keepsCast, Cond.castAtom])
      · intro h9; cases h9
  have h1 : w.before a (s0.setVm U.vm) = true := by
    rcases key with hk | ⟨ty, rfl⟩
    · exact Cond.before_shiftedCast hS w hk h
    · exact Cond.before_shiftedFace hS _ rfl h
  have h2 : w.before a' (U.setVm U.vm) = w.before a (s0.setVm U.vm) := by
    simp only [kGood, Bool.or_eq_true, Bool.and_eq_true] at hg
    rcases hg with hg | hg
    · exact Cond.onTables_vm _ w hg.1
    · revert hg
      split
      · intro _; rfl
      · intro _; rfl
      · intro h9; cases h9
  rw [State.setVm_self] at h2
  rw [h2]; exact h1
/-- U stands in a run that began at s0: the tables are warmer, the old cells are as they were -/
def kEnv (s0 U : State) : Prop := s0.WarmedH U.vm ∧ s0.heap.size ≤ U.heap.size ∧ ∀ a : Nat, a < s0.heap.size → U.heap[a]? = s0.heap[a]?
/-- the part of the heap that the run may change -/
def kA (s0 : State) : Nat → Prop := fun q => s0.heap.size ≤ q
theorem kEnv.refl (s0 : State) : kEnv s0 s0 := ⟨State.WarmedH.refl s0, Nat.le_refl _, fun _ _ => rfl⟩
theorem kEnv.go {s0 s U : State} {H : Heap} {locs : List Loc} (h : kEnv s0 s) (hW : s.WarmedH U.vm) (hU : U.heap = H) (hS : va_S (kA s0) s.heap H locs) : kEnv s0 U :=
  ⟨State.WarmedH.trans h.1 hW, by rw [hU]; exact Nat.le_trans h.2.1 hS.1, fun a ha => by
    rw [hU, hS.2.1 a (Nat.lt_of_lt_of_le ha h.2.1) (Nat.not_le.mpr ha)]
    exact h.2.2 a ha⟩
theorem kEnv.same {s0 s U : State} (h : kEnv s0 s) (hW : s.WarmedH U.vm) (hU : U.heap = s.heap) : kEnv s0 U := h.go hW hU va_S.rf
theorem kEnv.calling {s0 U : State} (h : kEnv s0 U) (g : JFrame) (mk : MethodId) (a : Array Value) : kEnv s0 (U.calling g mk a) := h
/-- what has moved between st and t -/
def kFr (st t : State) (mc ms : Nat) (free : Addr → Prop) : Prop :=
  ∃ L : List Loc, st.WarmedH t.vm ∧ st.sameButNew ({ t with vm := st.vm } : State) L mc ms ∧ ∀ q ∈ L, free q.base
/-- q has been thrown: a new object of the class E; nothing that was there has changed -/
def kThr (E : String) (st : State) (q : Addr) (t : State) : Prop :=
  ∃ ce : Cell, t.heap[q]? = some ce ∧ ce.vm = .none ∧ st.vm.findClass E = some ce.cls ∧ st.heap.size ≤ t.heap.size ∧ (∀ a : Nat, a < st.heap.size → t.heap[a]? = st.heap[a]?) ∧ kFr st t 1 6 (fun _ => False)
/-- the end of a method whose answer is res: B u st t of what it leaves behind -/
def kQ {S : Type} (res : Except String (Option Value × S)) (B : S → State → State → Prop) (st : State) (o : Outcome) (t : State) : Prop :=
  match res with
  | .ok (v, u) => o = .returned v ∧ B u st t
  | .error E => ∃ q, o = .threw q ∧ kThr E st q t
def kMet {S : Type} (l : Launch) (y : MethodName) (w : Cond) (rm : Room) (as : List Value) (Pre : State → Prop) (res : Except String (Option Value × S)) (B : S → State → State → Prop) : Prop :=
  MetFree l y (headSpec [w] rm) (va_Pc as Pre) (fun _ _ _ _ _ => True) (fun _ st o t => kQ res B st o t)
/-- what a body owes -/
def kE {S : Type} (below : List Frame) (res : Except String (Option Value × S)) (B : S → State → State → Prop) (s : State) : State → Prop := fun t =>
  ∃ o, t.status = .running ∧ Ended t below o ∧ kQ res B s o t
/-- a reader's end: the heap is as it was -/
def kBr (_ : Unit) (st t : State) : Prop := t.heap = st.heap ∧ kFr st t 0 0 (fun _ => False)
/-- a writer's end: the world of u -/
def kBw {S : Type} (D : va_G) (cl : List vw_C) (s0 : State) (wf : S → va_W) (u : S) (st t : State) : Prop :=
  va_P D cl (wf u) t.heap ∧ va_D (kA s0) (wf u) ∧ va_F (kA s0) st t ∧ kFr st t 0 0 (kA s0)
/-- the start of every method -/
def kPre {S : Type} (D : va_G) (cl : List vw_C) (s0 : State) (wf : S → va_W) (x : S) (U : State) : Prop := kEnv s0 U ∧ va_P D cl (wf x) U.heap ∧ va_D (kA s0) (wf x)
theorem kPre.blind {S : Type} {D : va_G} {cl : List vw_C} {s0 : State} {wf : S → va_W} {x : S} {U : State} (h : kPre D cl s0 wf x U) (g : JFrame) (mk : MethodId) (a : Array Value) : kPre D cl s0 wf x (U.calling g mk a) := h
end KL
section KB
variable {l : Launch}
/-- a body without handlers -/
theorem k_of {S : Type} {y : MethodName} {cc : ByteArray} {maxL : Nat} {ret : Option FieldType} {rm : Room} {as : List Value} {Pre : State → Prop} {res : Except String (Option Value × S)} {B : S → State → State → Prop}
    (hy : plainName y.cls = true) (hle : (lg_sl as).length ≤ maxL)
    (body : ∀ (p : Program) (e : Env) (s : State) (m : MethodId) (below : List Frame) (meth : Method) (c : Code), p.tables.exec = Jvm.exec → c.code = cc → meth.sig.returnType = ret → meth.locks = false → s.vm.findClass y.cls = some m.cls → c.maxLocals = maxL → (∀ x ∈ c.exceptionTable.toList, False) → Pre s →
      ∀ ls : Array Slot, lv_has ls maxL (lv_args 0 as) → W p l e rm s m as.toArray below meth c s.heap [] 0 0 (kE below res B s) (F0 m 0 ls [])) :
    kMet l y (Cond.code y cc maxL ret) rm as Pre res B := by
  refine MetFree.of_bodyS (code := cc) (maxLocals := maxL) (ret := ret) hy ?_ ?_
  · intro args s m h hn
    obtain ⟨meth, c, h1, h2, h3, h4, h5, h6, -, -⟩ := Cond.code_spec hn (atoms_spec (ws := [Cond.code y cc maxL ret]) h _ List.mem_cons_self)
    exact ⟨meth, c, h1, h2, h3, h4, h5, h6⟩
  · intro p e s m args below meth c s₁ B0 hml hP _
    obtain ⟨rfl, hP⟩ := hP
    have hh0 : s₁.heap = s.heap := by rw [B0.state]; rfl
    have ht : ∀ x ∈ c.exceptionTable.toList, False := by
      obtain ⟨meth9, c9, h1, h2, -, -, -, -, h7, -⟩ := Cond.code_spec B0.named (atoms_spec (ws := [Cond.code y cc maxL ret]) B0.pre _ List.mem_cons_self)
      cases Option.some.inj (h1.symm.trans B0.method)
      cases Option.some.inj (h2.symm.trans (Stand.of_body B0).code)
      intro x hx
      rw [Array.isEmpty_iff.mp h7] at hx
      cases hx
    have hl := lv_entry as (n := maxL) hle
    have K := body p e s m below meth c B0.exec B0.bytes B0.returns B0.notSynchronized (findClass_of_methodNamed B0.named) hml ht hP _ hl
    rw [← lg_entry_eq] at K
    obtain ⟨t, a1, o, b1, b2, b3⟩ := K s₁ hh0 (Stand.of_body B0)
    exact ⟨t, o, a1, b1, b2, b3⟩
/-- a body with handlers -/
theorem k_ofH {S : Type} {y : MethodName} {cc : ByteArray} {maxL : Nat} {ret : Option FieldType} {hh : List (Nat × Nat × Nat × Nat)} {rm : Room} {as : List Value} {Pre : State → Prop} {res : Except String (Option Value × S)} {B : S → State → State → Prop}
    (hy : plainName y.cls = true) (hle : (lg_sl as).length ≤ maxL)
    (body : ∀ (p : Program) (e : Env) (s : State) (m : MethodId) (below : List Frame) (meth : Method) (c : Code), p.tables.exec = Jvm.exec → c.code = cc → meth.sig.returnType = ret → meth.locks = false → s.vm.findClass y.cls = some m.cls → c.maxLocals = maxL → c.exceptionTable.toList = tableOf hh → Pre s →
      ∀ ls : Array Slot, lv_has ls maxL (lv_args 0 as) → W p l e rm s m as.toArray below meth c s.heap [] 0 0 (kE below res B s) (F0 m 0 ls [])) :
    kMet l y (Cond.codeWith y cc maxL ret hh) rm as Pre res B := by
  refine MetFree.of_bodyS (code := cc) (maxLocals := maxL) (ret := ret) hy ?_ ?_
  · intro args s m h hn
    obtain ⟨m9, meth, c, hn9, h1, h2, h3, h4, -, h5, h6, -⟩ := Cond.codeWith_spec (atoms_spec (ws := [Cond.codeWith y cc maxL ret hh]) h _ List.mem_cons_self)
    cases hn.symm.trans hn9
    exact ⟨meth, c, h1, h2, h3, h4, h5, h6⟩
  · intro p e s m args below meth c s₁ B0 hml hP _
    obtain ⟨rfl, hP⟩ := hP
    have hh0 : s₁.heap = s.heap := by rw [B0.state]; rfl
    have ht : c.exceptionTable.toList = tableOf hh := by
      obtain ⟨m9, meth9, c9, hn9, h1, h2, -, -, h6, -⟩ := Cond.codeWith_spec (atoms_spec (ws := [Cond.codeWith y cc maxL ret hh]) B0.pre _ List.mem_cons_self)
      cases Option.some.inj (hn9.symm.trans B0.named)
      cases Option.some.inj (h1.symm.trans B0.method)
      cases Option.some.inj (h2.symm.trans (Stand.of_body B0).code)
      rw [← h6, table_eq]
    have hl := lv_entry as (n := maxL) hle
    have K := body p e s m below meth c B0.exec B0.bytes B0.returns B0.notSynchronized (findClass_of_methodNamed B0.named) hml ht hP _ hl
    rw [← lg_entry_eq] at K
    obtain ⟨t, a1, o, b1, b2, b3⟩ := K s₁ hh0 (Stand.of_body B0)
    exact ⟨t, o, a1, b1, b2, b3⟩
end KB
section KC
variable {p : Program} {l : Launch} {e : Env} {R : Room} {s : State} {m : MethodId} {args : Array Value} {below : List Frame} {meth : Method} {c : Code} {T : State} {H : Heap} {locs : List Loc} {cells slots : Nat} {Q : State → Prop}
/-- the walk's frame g, with q thrown over it -/
def kW (p : Program) (l : Launch) (e : Env) (R : Room) (s : State) (m : MethodId) (args : Array Value) (below : List Frame) (meth : Method) (c : Code) (H : Heap) (locs : List Loc) (cells slots : Nat) (Q : State → Prop) (g : JFrame) (q : Addr) : Prop :=
  ∀ T : State, T.heap = H → Stand p l e R s m args below meth c T locs cells slots → ∃ t, Steps p.tables e below ((T.setTop g).pushFrame (.throwing q)) t ∧ Q t
/-- AT THE INVOCATION of a method with a contract: it comes back, or what it throws lies over the frame -/
theorem k_in {S : Type} {y : MethodName} {w : Cond} {rm : Room} {as : List Value} {Pre : State → Prop} {res : Except String (Option Value × S)} {B : S → State → State → Prop} {maxL : Nat}
    (X : Stand p l e R s m args below meth c T locs cells slots) (hM : kMet l y w rm as Pre res B) {g : JFrame} (hg : g.method = m) (hsize : g.locals.size = c.maxLocals) {ig : Instr} {len : Nat} (hdg : decode c.code g.pc = .ok (ig, len))
    (hW : 2 * g.monitorRoom + (g.stack.map fun v => v.category).sum ≤ 8) {mk : MethodId} {methY : Method} {cY : Code} (hn : T.methodNamed? y = some mk) (hmY : T.vm.method? mk = some methY) (hcY : methY.code = some cY) (hlY : cY.maxLocals = maxL)
    (hw : w.before as.toArray T = true) (hini : (Cond.initialized y.cls).before as.toArray T = true)
    (hfr : rm.frames + 1 ≤ R.frames) (hlo : 8 + (maxL + 11) + rm.locals ≤ R.locals) (hce : cells + rm.cells ≤ R.cells) (hsl : slots + rm.slots ≤ R.slots) (hP : ∀ U : State, U.heap = T.heap → U.vm = T.vm → Pre U) :
    ∃ (st : State) (o : Outcome) (t : State), st.heap = T.heap ∧ st.vm = T.vm ∧ kQ res B st o t ∧
      (∀ (L : List Loc) (mc ms : Nat), st.WarmedH t.vm → st.sameButNew ({ t with vm := st.vm } : State) L mc ms → ∃ T' : State, Stand p l e R s m args below meth c T' (locs ++ L) (cells + mc) (slots + ms) ∧ T'.heap = t.heap ∧ T'.vm = t.vm ∧
        match o with
        | .returned v => Steps p.tables e below (doInvoke e (T.setTop g) [] mk as.toArray).1 (T'.setTop { g with pc := g.pc + len, stack := v.toList ++ g.stack })
        | .threw q => Steps p.tables e below (doInvoke e (T.setTop g) [] mk as.toArray).1 ((T'.setTop g).pushFrame (.throwing q))) := by
  obtain ⟨kY, hkY, -⟩ := className_of_methodNamed hn
  have hinitY : kY.init = .initialized := Cond.initialized_spec (findClass_of_methodNamed hn) hkY hini
  have h : At T g.method c below := by rw [hg]; exact X.here
  have happ : (headSpec [w] rm).appliesLoose y e.platform (T.calling g mk as.toArray) = true :=
    Spec.appliesLoose_calling (g := g) h hdg hn hkY hinitY
      (X.room_calling (g := g) (R' := rm) hsize hmY hcY hfr (by rw [hlY]; omega) hce hsl) (atoms_intro fun w' hw' => by
        cases List.mem_singleton.mp hw'
        exact hw)
  obtain ⟨mid, hmid⟩ := h.above
  have hfr9 : (T.setTop g).frames = (.java g :: mid) ++ below := by rw [State.frames_setTop' g h.top, hmid]; rfl
  obtain ⟨o, t, hsteps, -, hend, hq⟩ := Steps.callFree hM p X.admits X.cas X.clock (acts := []) hfr9 happ ⟨rfl, hP _ rfl rfl⟩ trivial
  rw [State.frames_setTop' g h.top, X.tail] at hend
  refine ⟨T.calling g mk as.toArray, o, t, rfl, rfl, hq, ?_⟩
  intro L mc ms hW2 hsm
  cases o with
  | returned v =>
    obtain ⟨T', X', -, -, ht⟩ := X.outOf hg hdg (mk := mk) (a := as.toArray) hend hW2 hsm
    refine ⟨T', X', ?_, ?_, ?_⟩
    · rw [ht]; first | rfl | simp [State.setTop, State.modifyTopJava]
    · rw [ht]; first | rfl | simp [State.setTop, State.modifyTopJava]
    · show Steps p.tables e below _ _
      rw [← ht]; exact hsteps
  | threw q =>
    obtain ⟨T', X', -, -, ht⟩ := X.outOfThrown hg (mk := mk) (a := as.toArray) hend hW2 hsm
    refine ⟨T', X', ?_, ?_, ?_⟩
    · rw [ht]; exact (Stand.throwing_heap T' g q).symm
    · rw [ht]; exact (Stand.throwing_vm T' g q).symm
    · show Steps p.tables e below _ _
      rw [← ht]; exact hsteps
/-- what a call site has brought the machine to -/
def kAt (p : Program) (l : Launch) (e : Env) (R : Room) (s : State) (m : MethodId) (args : Array Value) (below : List Frame) (meth : Method) (c : Code) (H : Heap) (locs : List Loc) (cells slots : Nat) (y : MethodName) (w : Cond) (as : List Value) (maxL : Nat) (g : JFrame) (rest : List Value) : Prop :=
  ∀ T : State, T.heap = H → Stand p l e R s m args below meth c T locs cells slots → ∃ (vm₁ : Vm) (mk : MethodId) (methY : Method) (cY : Code) (ig : Instr), Stand p l e R s m args below meth c (T.setVm vm₁) locs cells slots ∧ decode c.code g.pc = .ok (ig, 3) ∧
    (T.setVm vm₁).methodNamed? y = some mk ∧ (T.setVm vm₁).vm.method? mk = some methY ∧ methY.code = some cY ∧ cY.maxLocals = maxL ∧ w.before as.toArray (T.setVm vm₁) = true ∧ (Cond.initialized y.cls).before as.toArray (T.setVm vm₁) = true ∧
    ∀ target, Steps p.tables e below (doInvoke e ((T.setVm vm₁).setTop { g with stack := rest }) [] mk as.toArray).1 target → Steps p.tables e below (T.setTop g) target
/-- a call: kx: it throws; kk: it comes back -/
theorem k_call {S : Type} {y : MethodName} {w : Cond} {rm : Room} {as : List Value} {Pre : State → Prop} {res : Except String (Option Value × S)} {B : S → State → State → Prop} {maxL : Nat} {pc : Nat} {ls : Array Slot} {st0 rest : List Value}
    (hA : kAt p l e R s m args below meth c H locs cells slots y w as maxL (F0 m pc ls st0) rest) (hM : kMet l y w rm as Pre res B) (hsize : ls.size = c.maxLocals) (hW : (rest.map fun v => v.category).sum ≤ 8)
    (hfr : rm.frames + 1 ≤ R.frames) (hlo : 8 + (maxL + 11) + rm.locals ≤ R.locals) (hce : cells + rm.cells ≤ R.cells) (hsl : slots + rm.slots ≤ R.slots) (hP : ∀ U : State, U.heap = H → s.WarmedH U.vm → Pre U)
    (kx : ∀ (E : String), res = .error E → ∀ (st : State) (q : Addr) (t : State), st.heap = H → s.WarmedH st.vm → kThr E st q t → kW p l e R s m args below meth c t.heap locs (cells + 1) (slots + 6) Q (F0 m pc ls rest) q)
    (kk : ∀ (v : Option Value) (u : S), res = .ok (v, u) → ∀ (st t : State), st.heap = H → s.WarmedH st.vm → B u st t → ∃ (mc ms : Nat) (L : List Loc), st.WarmedH t.vm ∧ st.sameButNew ({ t with vm := st.vm } : State) L mc ms ∧ W p l e R s m args below meth c t.heap (locs ++ L) (cells + mc) (slots + ms) Q (F0 m (pc + 3) ls (v.toList ++ rest))) :
    W p l e R s m args below meth c H locs cells slots Q (F0 m pc ls st0) := by
  intro T hT X
  obtain ⟨vm₁, mk, methY, cY, ig, X1, hdg, hn, hmY, hcY, hlY, hw, hini, hgo⟩ := hA T hT X
  obtain ⟨st, o, t, e1, e2, hq, hout⟩ := k_in X1 hM (g := { F0 m pc ls st0 with stack := rest }) rfl hsize hdg (lv_room (m := m) (pc := pc) (ls := ls) (rest := rest) hW) hn hmY hcY hlY hw hini hfr hlo hce hsl
    (fun U h1 h2 => hP U (h1.trans hT) (by rw [h2]; exact X1.warmed))
  have e3 : st.heap = H := e1.trans hT
  have hWs : s.WarmedH st.vm := by rw [e2]; exact X1.warmed
  revert hq
  unfold kQ
  cases hres : res with
  | error E =>
    rintro ⟨q, rfl, hthr⟩
    obtain ⟨ce, h1, h2, h3, h4, h5, L, hW2, hsm, hL⟩ := id hthr
    obtain ⟨T', X', q1, q2, hst⟩ := hout L 1 6 hW2 hsm
    have X2 := Stand.forget (extra := L) X' (fun z hz => (hL z hz).elim)
    obtain ⟨t2, a1, b1⟩ := kx E hres st q t e3 hWs hthr T' q1 X2
    exact ⟨t2, (hgo _ hst).trans a1, b1⟩
  | ok r =>
    obtain ⟨v, u⟩ := r
    rintro ⟨rfl, hB⟩
    obtain ⟨mc, ms, L, hW2, hsm, hk⟩ := kk v u hres st t e3 hWs hB
    obtain ⟨T', X', q1, q2, hst⟩ := hout L mc ms hW2 hsm
    obtain ⟨t2, a1, b1⟩ := hk T' q1 X'
    exact ⟨t2, (hgo _ hst).trans a1, b1⟩
end KC
section KD
variable {p : Program} {l : Launch} {e : Env} {R : Room} {s : State} {m : MethodId} {args : Array Value} {below : List Frame} {meth : Method} {c : Code} {T : State} {H : Heap} {locs : List Loc} {cells slots : Nat} {Q : State → Prop}
/-- invokevirtual on an object whose class is the method's own -/
theorem k_atV {own : String} {index maxL : Nat} {y : MethodName} {bytes : ByteArray} {ret : Option FieldType} {cc : ByteArray} {b : Nat} {As rest st0 : List Value} {pc : Nat} {ls : Array Slot} {a0 : Array Value} {s0 : State}
    (hx : p.tables.exec = Jvm.exec) (hb : c.code = cc) (hown : s.vm.findClass own = some m.cls) (hE : s0.WarmedH s.vm)
    (hcode : (Cond.code y bytes maxL ret).before a0 s0 = true) (hlink : (Cond.methodLink own index y).before args s = true) (hinst : (Cond.instanceMethod y).before args s = true) (hsel : (Cond.selects y.cls y y).before args s = true) (hini : (Cond.initialized y.cls).before args s = true)
    (hy : y.cls ≠ "java/lang/invoke/MethodHandle" ∧ y.cls ≠ "java/lang/invoke/VarHandle") (hlen : (parseMethodDescriptor y.desc).map (fun d => d.parameters.length) = some As.length)
    (hrec : ∃ cellB : Cell, H[b]? = some cellB ∧ cellB.vm.isStatics = false ∧ s.vm.findClass y.cls = some cellB.cls) (hst : st0 = As.reverse ++ .ref b :: rest) (hdg : decode cc pc = .ok (.invokevirtual index, 3)) :
    kAt p l e R s m args below meth c H locs cells slots y (Cond.code y bytes maxL ret) (.ref b :: As) maxL (F0 m pc ls st0) rest := by
  intro T hT X
  have hcode1 : (Cond.code y bytes maxL ret).before args s = true := kGood_at (by rfl) hE hcode
  obtain ⟨mk, methM, hnamed, hmethM, hstM, habM⟩ := Cond.instanceMethod_spec hinst
  obtain ⟨methM', cM, hmethM', hcM, -, hlM, -, -, -, hsigM⟩ := Cond.code_spec hnamed hcode1
  cases hmethM.symm.trans hmethM'
  obtain ⟨cellB, hcB, hoB, hclB⟩ := hrec
  obtain ⟨c2, r2, m2, q1, q2, q3, q4, kP, hkP, hkPi⟩ := Cond.selects_spec hsel
  cases hclB.symm.trans q1
  cases (State.methodFound?_of_named hnamed hy).symm.trans q2
  cases hnamed.symm.trans q3
  have hselP : selectMethod e.platform s.vm cellB.cls mk = .method mk := by rw [Launch.admits_selectMethod X.admits]; exact q4
  have hl9 : As.length = methM.sig.parameters.length := by
    rw [hsigM] at hlen
    exact (Option.some.inj hlen).symm
  have hdg' : decode c.code pc = .ok (.invokevirtual index, 3) := by rw [hb]; exact hdg
  obtain ⟨vm₁, X₁, hstep⟩ := X.invokevirtual hx hown hlink hnamed hmethM hstM hkP hkPi hy (a := b) (cell := cellB) (by rw [hT]; exact hcB)
    (fun z h => by rw [h] at hoB; cases hoB) hselP hmethM habM hkP hkPi (g := F0 m pc ls st0) rfl (argsL := As) (rest := rest) hl9 hst hdg'
  refine ⟨vm₁, mk, methM, cM, _, X₁, hdg', X₁.named hnamed, ?_, hcM, hlM, ?_, ?_, fun target h => hstep target fun acts => ?_⟩
  · rw [X₁.warmed.alike.method?]; exact hmethM
  · exact kGood_at (by rfl) X₁.warmed hcode1
  · exact kGood_at (by rfl) X₁.warmed hini
  · rw [doInvoke_state]; exact h
/-- invokestatic, of a method without handlers (w a code word) or with (codeWith) -/
theorem k_atS {own : String} {index maxL : Nat} {y : MethodName} {w : Cond} {cc : ByteArray} {As rest st0 : List Value} {pc : Nat} {ls : Array Slot} {a0 : Array Value} {s0 : State}
    (hx : p.tables.exec = Jvm.exec) (hb : c.code = cc) (hown : s.vm.findClass own = some m.cls) (hE : s0.WarmedH s.vm)
    (hcode : w.before a0 s0 = true) (hg9 : kGood w = true) (hw9 : ∀ (args : Array Value) (s : State), w.before args s = true → ∃ (mk : MethodId) (methM : Method) (cM : Code), s.methodNamed? y = some mk ∧ s.vm.method? mk = some methM ∧ methM.code = some cM ∧ cM.maxLocals = maxL ∧ parseMethodDescriptor y.desc = some methM.sig)
    (hlink : (Cond.methodLink own index y).before args s = true) (hsta : (Cond.static y).before args s = true) (hini : (Cond.initialized y.cls).before args s = true)
    (hy : y.cls ≠ "java/lang/invoke/MethodHandle" ∧ y.cls ≠ "java/lang/invoke/VarHandle") (hlen : (parseMethodDescriptor y.desc).map (fun d => d.parameters.length) = some As.length)
    (hst : st0 = As.reverse ++ rest) (hdg : decode cc pc = .ok (.invokestatic index, 3)) :
    kAt p l e R s m args below meth c H locs cells slots y w As maxL (F0 m pc ls st0) rest := by
  intro T hT X
  have hcode1 : w.before args s = true := kGood_at hg9 hE hcode
  obtain ⟨mk, methM, cM, hnamed, hmethM, hcM, hlM, hsigM⟩ := hw9 _ _ hcode1
  have hstM : methM.isStatic = true := Cond.static_spec hnamed hmethM hsta
  obtain ⟨kM, hkM, -⟩ := className_of_methodNamed hnamed
  have hinitM : kM.init = .initialized := Cond.initialized_spec (findClass_of_methodNamed hnamed) hkM hini
  have hl9 : As.length = methM.sig.parameters.length := by
    rw [hsigM] at hlen
    exact (Option.some.inj hlen).symm
  have hdg' : decode c.code pc = .ok (.invokestatic index, 3) := by rw [hb]; exact hdg
  obtain ⟨vm₁, X₁, hstep⟩ := X.invokestatic hx hown hlink hnamed hmethM hstM hkM hinitM hy (g := F0 m pc ls st0) rfl (argsL := As) (rest := rest) hl9 hst hdg'
  refine ⟨vm₁, mk, methM, cM, _, X₁, hdg', X₁.named hnamed, ?_, hcM, hlM, ?_, ?_, fun target h => hstep target fun acts => ?_⟩
  · rw [X₁.warmed.alike.method?]; exact hmethM
  · exact kGood_at hg9 X₁.warmed hcode1
  · exact kGood_at (by rfl) X₁.warmed hini
  · rw [doInvoke_state]; exact h
theorem k_w9 {y : MethodName} {bytes : ByteArray} {maxL : Nat} {ret : Option FieldType} (args : Array Value) (s : State) (h : (Cond.code y bytes maxL ret).before args s = true) : ∃ (mk : MethodId) (methM : Method) (cM : Code), s.methodNamed? y = some mk ∧ s.vm.method? mk = some methM ∧ methM.code = some cM ∧ cM.maxLocals = maxL ∧ parseMethodDescriptor y.desc = some methM.sig := by
  obtain ⟨mk, hn⟩ := Cond.named_of_code h
  obtain ⟨methM, cM, h1, h2, -, h4, -, -, -, h8⟩ := Cond.code_spec hn h
  exact ⟨mk, methM, cM, hn, h1, h2, h4, h8⟩
/-- what is thrown over a frame without handlers leaves the method: nothing was written or made before -/
theorem k_out {S : Type} {res : Except String (Option Value × S)} {B : S → State → State → Prop} {E : String} {pc : Nat} {ls : Array Slot} {rest : List Value} (hout : ∀ x ∈ c.exceptionTable.toList, False) (hlocks : meth.locks = false) (hres : res = .error E)
    {st : State} {q : Addr} {t : State} (h0 : st.heap = s.heap) (hW : s.WarmedH st.vm) (hT : kThr E st q t) :
    kW p l e R s m args below meth c t.heap [] (0 + 1) (0 + 6) (kE below res B s) (F0 m pc ls rest) q := by
  intro T hTh X
  obtain ⟨ce, h1, h2, h3, h4, h5, -⟩ := hT
  obtain ⟨st1, hrun, hend, hW1, hsm⟩ := X.leaveThrown q (g := F0 m pc ls rest) rfl rfl rfl (fun x hx => (hout x hx).elim) hlocks
  refine ⟨_, st1, .threw q, hrun, hend, ?_⟩
  unfold kQ
  rw [hres]
  refine ⟨q, rfl, ce, ?_, h2, ?_, ?_, ?_, [], hW1, hsm, fun z hz => nomatch hz⟩
  · show T.heap[q]? = some ce
    rw [hTh]; exact h1
  · rw [← hW.alike.findClass]; exact h3
  · show s.heap.size ≤ T.heap.size
    rw [hTh, ← h0]; exact h4
  · intro a ha
    show T.heap[a]? = s.heap[a]?
    rw [hTh, h5 a (by rw [h0]; exact ha), h0]
/-- the rows of a table, for what is thrown: which handler takes it -/
def kHand (pl : Platform) (s : State) (d : ClassId) (pc : Nat) (thrown : ClassId) : List ExceptionTableEntry → Nat → Prop
  | [], _ => False
  | x :: t, h => (covers x pc = false ∧ kHand pl s d pc thrown t h) ∨ (covers x pc = true ∧ x.catchType ≠ 0 ∧ ∃ k : ClassId, s.vm.ClassLinks pl d x.catchType k ∧ ((s.vm.assignable thrown k = true ∧ x.handlerPc = h) ∨ (s.vm.assignable thrown k = false ∧ kHand pl s d pc thrown t h)))
theorem k_search {e : Env} {s : State} {f : JFrame} {a : Addr} {cell : Cell} (hobj : ∀ k, cell.vm ≠ .statics k) (hk0 : ∃ k, s.vm.classes[cell.cls]? = some k) {h : Nat} :
    ∀ (es : List ExceptionTableEntry) (U : State), s.WarmedH U.vm → U.heap[a]? = some cell → kHand e.platform s f.method.cls f.pc cell.cls es h →
      ∃ vm', s.WarmedH vm' ∧ ∀ (Q : Handler → Pre) (E : CtlPost) (d : Bool) (acts : List Action), wp (findHandler.go f a es) Q E e d acts U ↔ Q (.found h) d acts (U.setVm vm') := by
  obtain ⟨k0, hk0⟩ := hk0
  intro es
  induction es with
  | nil => intro U _ _ hh; exact hh.elim
  | cons x t ih =>
    intro U hW hcell hh
    rcases hh with ⟨hno, hh⟩ | ⟨hx, h0, k, hl, hh⟩
    · obtain ⟨vm', hW', hq⟩ := ih U hW hcell hh
      exact ⟨vm', hW', fun Q E d acts => by rw [W.findHandler_go_skip hno]; exact hq Q E d acts⟩
    · obtain ⟨dk, _, _, kt, hd, _, _, _, _, hkt, _, hopen⟩ := hl.here
      have hW1 : s.WarmedH (U.vm.noted f.method.cls x.catchType (.cls k)) := hW.noted hd hopen (State.rightAt_cls hl)
      obtain ⟨k1', hk1', -⟩ := hW1.alike.2.2 _ _ hk0
      obtain ⟨k2', hk2', -⟩ := hW1.alike.2.2 _ _ hkt
      have hx' := hx
      simp only [covers] at hx'
      obtain ⟨ha, ht⟩ := (resolveClass_links e.toSetting (hW.classLinks hl)).op (op := VmOp.resolveClass f.method.cls x.catchType) rfl
      rcases hh with ⟨hfit, rfl⟩ | ⟨hfit, hh⟩
      · have hfit' : (U.vm.noted f.method.cls x.catchType (.cls k)).assignable cell.cls k = true := by rw [hW1.alike.assignable]; exact hfit
        refine ⟨_, hW1, fun Q E d acts => ?_⟩
        simp [findHandler.go, hx', h0, ha, ht, hcell, hobj, hk1', hk2', hfit', VmOp.dirties, VmOp.acts]
      · have hfit' : (U.vm.noted f.method.cls x.catchType (.cls k)).assignable cell.cls k = false := by rw [hW1.alike.assignable]; exact hfit
        obtain ⟨vm', hW', hq⟩ := ih (U.setVm (U.vm.noted f.method.cls x.catchType (.cls k))) hW1 hcell hh
        refine ⟨vm', hW', fun Q E d acts => ?_⟩
        rw [← show (U.setVm (U.vm.noted f.method.cls x.catchType (.cls k))).setVm vm' = U.setVm vm' from rfl, ← hq Q E d acts]
        simp [findHandler.go, hx', h0, ha, ht, hcell, hobj, hk1', hk2', hfit', VmOp.dirties, VmOp.acts]
/-- what is thrown over a frame with handlers goes on at the handler that takes it -/
theorem k_catch {E : String} {h pc : Nat} {ls : Array Slot} {rest : List Value} {st : State} {q : Addr} {t : State} (hW : s.WarmedH st.vm) (hT : kThr E st q t)
    (hh : ∀ k : ClassId, s.vm.findClass E = some k → ∀ pl : Platform, pl.magicAccessors = ({} : Platform).magicAccessors → kHand pl s m.cls pc k c.exceptionTable.toList h)
    (kk : W p l e R s m args below meth c t.heap locs cells slots Q (F0 m h ls [.ref q])) : kW p l e R s m args below meth c t.heap locs cells slots Q (F0 m pc ls rest) q := by
  intro T hTh X
  obtain ⟨ce, h1, h2, h3, -⟩ := hT
  have h3' : s.vm.findClass E = some ce.cls := by rw [← hW.alike.findClass]; exact h3
  have hpl : e.platform.magicAccessors = ({} : Platform).magicAccessors := by rw [X.admits.platform]
  have hk0 : ∃ k, s.vm.classes[ce.cls]? = some k := Vm.classAt_of_findClass h3'
  have hobj : ∀ k, ce.vm ≠ .statics k := fun k hk => by rw [h2] at hk; cases hk
  obtain ⟨vm', hW', hq⟩ := k_search (e := e) (f := F0 m pc ls rest) (a := q) hobj hk0 c.exceptionTable.toList ((T.setTop (F0 m pc ls rest)).pushFrame (.throwing q)) (by rw [Stand.throwing_vm]; exact X.warmed) (by rw [Stand.throwing_heap, hTh]; exact h1) (hh _ h3' _ hpl)
  obtain ⟨t2, a1, b1⟩ := kk (T.setVm vm') hTh (X.noted hW')
  refine ⟨t2, ?_, b1⟩
  have hAt : At T (F0 m pc ls rest).method c below := X.here
  obtain ⟨hgo, hw⟩ := hAt.throwing q
  refine Steps.head hgo hw ?_
  have hm9 : ((T.setTop (F0 m pc ls rest)).pushFrame (.throwing q)).vm.method? m = some meth := by rw [Stand.throwing_vm]; exact X.method'
  have hstep : (stepThrowing e ((T.setTop (F0 m pc ls rest)).pushFrame (.throwing q)) q (.java (F0 m pc ls rest) :: T.frames.tail)).Is ((((T.setTop (F0 m pc ls rest)).pushFrame (.throwing q)).setVm vm').setFrames (.java { F0 m pc ls rest with pc := h, stack := [.ref q] } :: T.frames.tail)) [] := by
    simp only [stepThrowing, searchFrame, vmDo]
    generalize hr : Sem.go _ e false [] ((T.setTop (F0 m pc ls rest)).pushFrame (.throwing q)) = r9
    obtain ⟨as, rfl, ha⟩ := Sem.eq_ok_of hr (a := Handler.found h) (s' := ((T.setTop (F0 m pc ls rest)).pushFrame (.throwing q)).setVm vm') (acts' := []) (by
      have hf : ∀ (Q : Handler → Pre) (E : CtlPost) (d : Bool) (acts : List Action), wp (findHandler (F0 m pc ls rest) q) Q E e d acts ((T.setTop (F0 m pc ls rest)).pushFrame (.throwing q)) ↔ wp (findHandler.go (F0 m pc ls rest) q c.exceptionTable.toList) Q E e d acts ((T.setTop (F0 m pc ls rest)).pushFrame (.throwing q)) := fun _ _ _ _ => W.findHandler_eq hm9 X.code
      simp [hf, hq])
    exact ⟨rfl, ha⟩
  rw [stepThread_throwing (frames_entered hAt.top _), hstep.1]
  obtain ⟨g₀, hr⟩ := X.frames_eq
  have e9 : (((T.setTop (F0 m pc ls rest)).pushFrame (.throwing q)).setVm vm').setFrames (.java { F0 m pc ls rest with pc := h, stack := [.ref q] } :: T.frames.tail) = (T.setVm vm').setTop (F0 m h ls [.ref q]) := by
    have hr' : (T.setVm vm').frames = .java g₀ :: below := hr
    rw [State.setTop_of_frames _ hr', X.tail, State.pushFrame, State.setTop_of_frames _ hr]
    have h1 : ∀ (F : List Frame) (u : State), (u.setFrames F).setVm vm' = (u.setVm vm').setFrames F := fun _ _ => rfl
    rw [h1, State.setFrames_setFrames, h1, State.setFrames_setFrames]
  rw [e9]
  exact a1
end KD
theorem k_same {s U : State} {k n : Nat} (h : s.sameButNew ({ U with vm := s.vm } : State) [] k n) : s.heap.size ≤ U.heap.size ∧ ∀ a : Nat, a < s.heap.size → U.heap[a]? = s.heap[a]? := by
  obtain ⟨-, h2, -, -, -, h6⟩ := h
  refine ⟨h2, fun a ha => ?_⟩
  obtain ⟨c', e1, e2, -, e4⟩ := h6 a _ (Array.getElem?_eq_getElem ha)
  have hs : c'.slots = (s.heap[a]).slots := Array.ext_getElem? fun i => e4 i (fun hz => nomatch hz)
  have h9 : c' = s.heap[a] := by rw [e2, hs]
  have e5 : U.heap[a]? = some c' := e1
  rw [e5, h9, Array.getElem?_eq_getElem ha]
section KR
variable {p : Program} {l : Launch} {e : Env} {R : Room} {s : State} {m : MethodId} {args : Array Value} {below : List Frame} {meth : Method} {c : Code} {T : State} {H : Heap} {locs : List Loc} {cells slots : Nat} {Q : State → Prop}
theorem k_end {S : Type} {res : Except String (Option Value × S)} {B : S → State → State → Prop} {v : Option Value} {u : S} {free : Addr → Prop} {g : JFrame} (hres : res = .ok (v, u))
    (hW : W p l e R s m args below meth c H locs cells slots (MQ below (fun _ _ o t => o = .returned v ∧ t.heap = H) args s cells slots free) g)
    (hB : ∀ t : State, t.heap = H → kFr s t cells slots free → B u s t) : W p l e R s m args below meth c H locs cells slots (kE below res B s) g := by
  intro T hT X
  obtain ⟨t, a1, o, b1, b2, ⟨b3, b4⟩, L, ⟨-, b5, b6⟩, b7⟩ := hW T hT X
  refine ⟨t, a1, o, b1, b2, ?_⟩
  unfold kQ
  rw [hres]
  exact ⟨b3, hB t b4 ⟨L, b5, b6, b7⟩⟩
/-- a reader answers an int -/
theorem k_retI {res : Except String (Option Value × Unit)} {v : Int32} {cc : ByteArray} {pc : Nat} {ls : Array Slot} (hx : p.tables.exec = Jvm.exec) (hb : c.code = cc) (hr : meth.sig.returnType = some .int) (hlocks : meth.locks = false) (hdg : decode cc pc = .ok (.ireturn, 1)) (hres : res = .ok (some (.int v), ())) :
    W p l e R s m args below meth c s.heap [] 0 0 (kE below res kBr s) (F0 m pc ls [.int v]) :=
  k_end hres (W.iret hx hb hr (free := fun _ => False) (fun t ht _ => ⟨rfl, ht⟩) (fun q h => absurd h List.not_mem_nil) hdg hlocks) (fun t ht hf => ⟨ht, hf⟩)
theorem k_retZ {res : Except String (Option Value × Unit)} {v : Int32} {cc : ByteArray} {pc : Nat} {ls : Array Slot} (hx : p.tables.exec = Jvm.exec) (hb : c.code = cc) (hr : meth.sig.returnType = some .boolean) (hlocks : meth.locks = false) (hn : narrow .boolean (.int v) = .int v) (hdg : decode cc pc = .ok (.ireturn, 1)) (hres : res = .ok (some (.int v), ())) :
    W p l e R s m args below meth c s.heap [] 0 0 (kE below res kBr s) (F0 m pc ls [.int v]) :=
  k_end hres (W.zret hx hb hr hn (free := fun _ => False) (fun t ht _ => ⟨rfl, ht⟩) (fun q h => absurd h List.not_mem_nil) hdg hlocks) (fun t ht hf => ⟨ht, hf⟩)
theorem k_retV {res : Except String (Option Value × Unit)} {cc : ByteArray} {pc : Nat} {ls : Array Slot} (hx : p.tables.exec = Jvm.exec) (hb : c.code = cc) (hr : meth.sig.returnType = none) (hlocks : meth.locks = false) (hdg : decode cc pc = .ok (.return_, 1)) (hres : res = .ok (none, ())) :
    W p l e R s m args below meth c s.heap [] 0 0 (kE below res kBr s) (F0 m pc ls []) :=
  k_end hres (W.vret hx hb hr (free := fun _ => False) (fun t ht _ => ⟨rfl, ht⟩) (fun q h => absurd h List.not_mem_nil) hdg hlocks) (fun t ht hf => ⟨ht, hf⟩)
/-- a writer's ends -/
theorem k_retWI {S : Type} {D : va_G} {cl : List vw_C} {s0 : State} {wf : S → va_W} {u : S} {res : Except String (Option Value × S)} {v : Int32} {cc : ByteArray} {pc : Nat} {ls : Array Slot} (hx : p.tables.exec = Jvm.exec) (hb : c.code = cc) (hr : meth.sig.returnType = some .int) (hlocks : meth.locks = false) (hdg : decode cc pc = .ok (.ireturn, 1))
    (hP : va_P D cl (wf u) H) (hD : va_D (kA s0) (wf u)) (hS : va_S (kA s0) s.heap H locs) (hres : res = .ok (some (.int v), u)) :
    W p l e R s m args below meth c H locs 0 0 (kE below res (kBw D cl s0 wf) s) (F0 m pc ls [.int v]) :=
  k_end hres (W.iret hx hb hr (free := kA s0) (fun t ht _ => ⟨rfl, ht⟩) hS.2.2 hdg hlocks) (fun t ht hf => ⟨by rw [ht]; exact hP, hD, hS.F ht, hf⟩)
theorem k_retWV {S : Type} {D : va_G} {cl : List vw_C} {s0 : State} {wf : S → va_W} {u : S} {res : Except String (Option Value × S)} {cc : ByteArray} {pc : Nat} {ls : Array Slot} (hx : p.tables.exec = Jvm.exec) (hb : c.code = cc) (hr : meth.sig.returnType = none) (hlocks : meth.locks = false) (hdg : decode cc pc = .ok (.return_, 1))
    (hP : va_P D cl (wf u) H) (hD : va_D (kA s0) (wf u)) (hS : va_S (kA s0) s.heap H locs) (hres : res = .ok (none, u)) :
    W p l e R s m args below meth c H locs 0 0 (kE below res (kBw D cl s0 wf) s) (F0 m pc ls []) :=
  k_end hres (W.vret hx hb hr (free := kA s0) (fun t ht _ => ⟨rfl, ht⟩) hS.2.2 hdg hlocks) (fun t ht hf => ⟨by rw [ht]; exact hP, hD, hS.F ht, hf⟩)
/-- a call of a reader that can't throw: nothing moves -/
theorem k_callR {y : MethodName} {w : Cond} {rm : Room} {as : List Value} {Pre : State → Prop} {v : Option Value} {maxL : Nat} {pc : Nat} {ls : Array Slot} {st0 rest : List Value}
    (hA : kAt p l e R s m args below meth c H locs cells slots y w as maxL (F0 m pc ls st0) rest) (hM : kMet l y w rm as Pre (.ok (v, ())) kBr) (hsize : ls.size = c.maxLocals) (hW : (rest.map fun v => v.category).sum ≤ 8)
    (hR : rm.frames + 1 ≤ R.frames ∧ 8 + (maxL + 11) + rm.locals ≤ R.locals ∧ cells + rm.cells ≤ R.cells ∧ slots + rm.slots ≤ R.slots) (hP : ∀ U : State, U.heap = H → s.WarmedH U.vm → Pre U)
    (kk : W p l e R s m args below meth c H locs cells slots Q (F0 m (pc + 3) ls (v.toList ++ rest))) : W p l e R s m args below meth c H locs cells slots Q (F0 m pc ls st0) := by
  refine k_call hA hM hsize hW hR.1 hR.2.1 hR.2.2.1 hR.2.2.2 hP (fun E h => by cases h) ?_
  rintro v' u h st t e1 hWs ⟨e2, L, hW2, hsm, hL⟩
  cases h
  refine ⟨0, 0, L, hW2, hsm, ?_⟩
  rw [e2, e1]
  intro T hT X
  exact kk T hT (Stand.forget (extra := L) X (fun z hz => (hL z hz).elim))
/-- a call of a writer that can't throw -/
theorem k_callW {S : Type} {D : va_G} {cl : List vw_C} {s0 : State} {wf : S → va_W} {u : S} {y : MethodName} {w : Cond} {rm : Room} {as : List Value} {Pre : State → Prop} {v : Option Value} {maxL : Nat} {pc : Nat} {ls : Array Slot} {st0 rest : List Value}
    (hA : kAt p l e R s m args below meth c H locs cells slots y w as maxL (F0 m pc ls st0) rest) (hM : kMet l y w rm as Pre (.ok (v, u)) (kBw D cl s0 wf)) (hsize : ls.size = c.maxLocals) (hW : (rest.map fun v => v.category).sum ≤ 8)
    (hR : rm.frames + 1 ≤ R.frames ∧ 8 + (maxL + 11) + rm.locals ≤ R.locals ∧ cells + rm.cells ≤ R.cells ∧ slots + rm.slots ≤ R.slots) (hP : ∀ U : State, U.heap = H → s.WarmedH U.vm → Pre U) {H0 : Heap} (hS : va_S (kA s0) H0 H locs)
    (kk : ∀ (H1 : Heap) (locs1 : List Loc), va_P D cl (wf u) H1 → va_D (kA s0) (wf u) → va_S (kA s0) H0 H1 locs1 → W p l e R s m args below meth c H1 locs1 cells slots Q (F0 m (pc + 3) ls (v.toList ++ rest))) : W p l e R s m args below meth c H locs cells slots Q (F0 m pc ls st0) := by
  refine k_call hA hM hsize hW hR.1 hR.2.1 hR.2.2.1 hR.2.2.2 hP (fun E h => by cases h) ?_
  rintro v' u' h st t e1 hWs ⟨b1, b2, b3, L, hW2, hsm, hL⟩
  cases h
  refine ⟨0, 0, L, hW2, hsm, kk t.heap (locs ++ L) b1 b2 ⟨?_, ?_, ?_⟩⟩
  · exact Nat.le_trans hS.1 (by rw [← e1]; exact b3.1)
  · intro q h1 h2
    rw [b3.2 q (by rw [e1]; exact Nat.lt_of_lt_of_le h1 hS.1) h2, e1]
    exact hS.2.1 q h1 h2
  · intro z hz
    rcases List.mem_append.mp hz with h9 | h9
    · exact hS.2.2 z h9
    · exact hL z h9
/-- a call that throws, from a method without handlers that has moved nothing -/
theorem k_callE {S0 : Type} {res0 : Except String (Option Value × S0)} {B0 : S0 → State → State → Prop} {S : Type} {B : S → State → State → Prop} {y : MethodName} {w : Cond} {rm : Room} {as : List Value} {Pre : State → Prop} {E : String} {maxL : Nat} {pc : Nat} {ls : Array Slot} {st0 rest : List Value}
    (hA : kAt p l e R s m args below meth c s.heap [] 0 0 y w as maxL (F0 m pc ls st0) rest) (hM : kMet l y w rm as Pre (.error E) B) (hsize : ls.size = c.maxLocals) (hW : (rest.map fun v => v.category).sum ≤ 8)
    (hR : rm.frames + 1 ≤ R.frames ∧ 8 + (maxL + 11) + rm.locals ≤ R.locals ∧ 0 + rm.cells ≤ R.cells ∧ 0 + rm.slots ≤ R.slots) (hP : ∀ U : State, U.heap = s.heap → s.WarmedH U.vm → Pre U)
    (hout : ∀ x ∈ c.exceptionTable.toList, False) (hlocks : meth.locks = false) (hE : res0 = .error E) : W p l e R s m args below meth c s.heap [] 0 0 (kE below res0 B0 s) (F0 m pc ls st0) := by
  refine k_call hA hM hsize hW hR.1 hR.2.1 hR.2.2.1 hR.2.2.2 hP (fun E' h st q t e1 hWs hthr => ?_) (fun v u h => by cases h)
  cases h
  exact k_out hout hlocks hE e1 hWs hthr
/-- 'throw new E("text")' from a method without handlers that has moved nothing; n: the length of the instruction that loads the text -/
theorem k_thr {S : Type} {res : Except String (Option Value × S)} {B : S → State → State → Prop} {cc : ByteArray} {pc : Nat} {ls : Array Slot} {rest : List Value} {own cls : String} {names : List String} {ik ic sa n : Nat}
    (hexec : p.tables.exec = Jvm.exec) (hb : c.code = cc) (hl : l.stackTraces = false) (hown : s.vm.findClass own = some m.cls) (hcls : Bundle.fit cls = true) (hnames : ∀ n ∈ names, Bundle.fit n = true)
    (hk : (Cond.classLink own ik cls).before args s = true) (hini : (Cond.initialized cls).before args s = true) (hat : ∀ w ∈ Bundle.ownAtoms own ic cls names, w.before args s = true)
    (hsize : ls.size = c.maxLocals) (d0 : decode cc pc = .ok (.new ik, 3)) (d3 : decode cc (pc + 3) = .ok (.dup, 1)) (d6 : decode cc (pc + 4 + n) = .ok (.invokespecial ic, 3)) (d9 : decode cc (pc + 4 + n + 3) = .ok (.athrow, 1))
    (hld : ∀ (H1 : Heap) (Q : State → Prop) (st : List Value), W p l e R s m args below meth c H1 [] (0 + 1) (0 + 6) Q (F0 m (pc + 4 + n) ls (.ref sa :: st)) → W p l e R s m args below meth c H1 [] (0 + 1) (0 + 6) Q (F0 m (pc + 4) ls st))
    (hout : ∀ x ∈ c.exceptionTable.toList, False) (hlocks : meth.locks = false)
    (hR : names.length + 3 < R.frames ∧ (rest.map fun v => v.category).sum + (13 * (names.length + 1) + 43) ≤ R.locals ∧ 0 + 1 ≤ R.cells ∧ 0 + 6 ≤ R.slots) (hres : res = .error cls) :
    W p l e R s m args below meth c s.heap [] 0 0 (kE below res B s) (F0 m pc ls rest) := by
  intro T hT X
  have htr : e.platform.stackTraces = false := (show e.platform.stackTraces = l.stackTraces by rw [X.admits.platform]).trans hl
  have hins : (Cond.instantiable cls 6).before args s = true := hat _ (by simp [Bundle.ownAtoms])
  obtain ⟨vm₁, cX, kX, hfX, hkX, -, -, X1, st1⟩ := X.newCold hexec (own := own) (C := cls) (index := ik) (n := 6) hown hk hins hini (g := F0 m pc ls rest) rfl (by rw [hb]; exact d0) hR.2.2.1 hR.2.2.2
  generalize hT1 : (T.setVm vm₁).pushCell { cls := cX, slots := kX.instanceTypes.map defaultValue, vm := .none } = T1 at X1 st1
  have hcell : T1.heap[T.heap.size]? = some (freshCell cX kX) := by rw [← hT1]; exact State.heap_pushCell_size _ _
  have hcat : (Value.ref T.heap.size).category = 1 := rfl
  have key : W p l e R s m args below meth c T1.heap [] (0 + 1) (0 + 6) (kE below res B s) (F0 m (pc + 3) ls (.ref T.heap.size :: rest)) := by
    refine lv_dup hexec hb d3 rfl ?_
    refine hld _ _ _ ?_
    intro T2 hT2 X2
    obtain ⟨U, hsteps, hrun, hend, hW, hsame, ce, hce, hO⟩ := X2.ctorThrowS hexec htr (own := own) (cls := cls) (names := names) (ic := ic) hown hcls hnames hat (fun x hx => nomatch hx) hfX hkX (by rw [hT2]; exact hcell) (by rw [hT]; exact Nat.le_refl _) (msg := .ref sa) rfl
      (g := F0 m (pc + 4 + n) ls (.ref sa :: .ref T.heap.size :: .ref T.heap.size :: rest)) rfl hsize rfl rfl (rest := rest) rfl
      (by rw [hb]; exact d6) (by rw [hb]; exact d9) (fun x hx => (hout x hx).elim) hR.1 (by have h9 := hR.2.1; simp only [List.map_cons, List.sum_cons, hcat]; show 2 * 0 + _ + _ ≤ _; omega) hlocks
    refine ⟨U, hsteps, .threw T.heap.size, hrun, hend, ?_⟩
    unfold kQ
    rw [hres]
    exact ⟨_, rfl, ce, hce, hO.vm, hO.cls, (k_same hsame).1, (k_same hsame).2, [], hW, hsame, fun z hz => nomatch hz⟩
  obtain ⟨t, a1, b1⟩ := key T1 rfl X1
  exact ⟨t, st1 _ a1, b1⟩
theorem k_throw {S : Type} {res : Except String (Option Value × S)} {B : S → State → State → Prop} {cc : ByteArray} {pc : Nat} {ls : Array Slot} {rest : List Value} {own cls text : String} {names : List String} {ik is ic : Nat}
    (hexec : p.tables.exec = Jvm.exec) (hb : c.code = cc) (hl : l.stackTraces = false) (hown : s.vm.findClass own = some m.cls) (hcls : Bundle.fit cls = true) (hnames : ∀ n ∈ names, Bundle.fit n = true)
    (hk : (Cond.classLink own ik cls).before args s = true) (hini : (Cond.initialized cls).before args s = true) (hstr : ∃ sa, vk_R own is text sa s) (hat : ∀ w ∈ Bundle.ownAtoms own ic cls names, w.before args s = true)
    (hsize : ls.size = c.maxLocals) (d0 : decode cc pc = .ok (.new ik, 3)) (d3 : decode cc (pc + 3) = .ok (.dup, 1)) (d4 : decode cc (pc + 4) = .ok (.ldc is, 2)) (d6 : decode cc (pc + 6) = .ok (.invokespecial ic, 3)) (d9 : decode cc (pc + 9) = .ok (.athrow, 1))
    (hout : ∀ x ∈ c.exceptionTable.toList, False) (hlocks : meth.locks = false)
    (hR : names.length + 3 < R.frames ∧ (rest.map fun v => v.category).sum + (13 * (names.length + 1) + 43) ≤ R.locals ∧ 0 + 1 ≤ R.cells ∧ 0 + 6 ≤ R.slots) (hres : res = .error cls) :
    W p l e R s m args below meth c s.heap [] 0 0 (kE below res B s) (F0 m pc ls rest) := by
  obtain ⟨sa, hstr⟩ := hstr
  exact k_thr (n := 2) (sa := sa) hexec hb hl hown hcls hnames hk hini hat hsize d0 d3 d6 d9 (fun H1 Q st k => va_ldcS hexec hb hown hstr d4 k) hout hlocks hR hres
theorem k_throwW {S : Type} {res : Except String (Option Value × S)} {B : S → State → State → Prop} {cc : ByteArray} {pc : Nat} {ls : Array Slot} {rest : List Value} {own cls text : String} {names : List String} {ik is ic : Nat}
    (hexec : p.tables.exec = Jvm.exec) (hb : c.code = cc) (hl : l.stackTraces = false) (hown : s.vm.findClass own = some m.cls) (hcls : Bundle.fit cls = true) (hnames : ∀ n ∈ names, Bundle.fit n = true)
    (hk : (Cond.classLink own ik cls).before args s = true) (hini : (Cond.initialized cls).before args s = true) (hstr : ∃ sa, vk_R own is text sa s) (hat : ∀ w ∈ Bundle.ownAtoms own ic cls names, w.before args s = true)
    (hsize : ls.size = c.maxLocals) (d0 : decode cc pc = .ok (.new ik, 3)) (d3 : decode cc (pc + 3) = .ok (.dup, 1)) (d4 : decode cc (pc + 4) = .ok (.ldc_w is, 3)) (d6 : decode cc (pc + 7) = .ok (.invokespecial ic, 3)) (d9 : decode cc (pc + 10) = .ok (.athrow, 1))
    (hout : ∀ x ∈ c.exceptionTable.toList, False) (hlocks : meth.locks = false)
    (hR : names.length + 3 < R.frames ∧ (rest.map fun v => v.category).sum + (13 * (names.length + 1) + 43) ≤ R.locals ∧ 0 + 1 ≤ R.cells ∧ 0 + 6 ≤ R.slots) (hres : res = .error cls) :
    W p l e R s m args below meth c s.heap [] 0 0 (kE below res B s) (F0 m pc ls rest) := by
  obtain ⟨sa, hstr⟩ := hstr
  refine k_thr (n := 3) (sa := sa) hexec hb hl hown hcls hnames hk hini hat hsize d0 d3 d6 d9 (fun H1 Q st k => ?_) hout hlocks hR hres
  intro T hT X
  obtain ⟨t, a1, b1⟩ := k T hT X
  exact ⟨t, X.ldcStringW hexec (own := own) (text := text) (index := is) (a := sa) hown hstr.1 hstr.2 (g := F0 m (pc + 4) ls st) rfl (by rw [hb]; exact d4) t a1, b1⟩
end KR
