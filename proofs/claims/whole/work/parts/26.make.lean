/-! MAKING: constructors. The world: what is being made first, then any rest r. -/
def wMr (ad : Nat → Nat) (cI : ClassId) (r : va_W) (σ : kS) : va_W :=
  (ad 1, .inr (nMem, [.ref (ad 4), .ref (ad 5), .ref (ad 6), .ref (ad 7), .ref (ad 8)])) :: (ad 4, aN cI 20 (σ.1 0)) :: (ad 5, aN cI 20 (σ.1 1)) :: (ad 6, aP cI 80 (σ.1 2)) :: (ad 7, aN cI 80 (σ.1 3)) :: (ad 8, aI cI 80 (σ.2 0)) :: r
def wPr (ad : Nat → Nat) (cI : ClassId) (r : va_W) (σ : kS) : va_W :=
  (ad 2, .inr (nPro, [.ref (ad 9), .ref (ad 10), .ref (ad 11), .ref (ad 12), .ref (ad 13), .ref (ad 14)])) :: (ad 9, aN cI 6 (σ.1 4)) :: (ad 10, aN cI 6 (σ.1 5)) :: (ad 11, aP cI 6 (σ.1 6)) :: (ad 12, aP cI 24 (σ.1 7)) :: (ad 13, aN cI 6 (σ.1 8)) :: (ad 14, aN cI 6 (σ.1 9)) :: r
def wIr (ad : Nat → Nat) (cI : ClassId) (r : va_W) (σ : kS) : va_W :=
  (ad 3, .inr (nPip, [.ref (ad 15), .ref (ad 16)])) :: (ad 15, aN cI 3 (σ.1 10)) :: (ad 16, aI cI 12 (σ.2 1)) :: r
/-- the order of a world's cells doesn't matter -/
theorem k_pP {D : va_G} {cl : List vw_C} {ws ws' : va_W} {H : Heap} (hp : ws.Perm ws') (h : va_P D cl ws H) : va_P D cl ws' H := by
  intro k q hq
  obtain ⟨i, hi⟩ := List.getElem?_of_mem (hp.mem_iff.mpr (List.mem_of_getElem? hq))
  exact h i q hi
theorem k_nd {ws : va_W} : (∀ (i j : Nat) (p q : Nat × va_E), ws[i]? = some p → ws[j]? = some q → p.1 = q.1 → i = j) ↔ (ws.map (fun x => x.1)).Nodup := by
  constructor
  · intro h
    show List.Pairwise _ _
    rw [List.pairwise_iff_getElem]
    intro i j hi hj hij he
    rw [List.length_map] at hi hj
    rw [List.getElem_map, List.getElem_map] at he
    have h1 := h i j _ _ (List.getElem?_eq_getElem hi) (List.getElem?_eq_getElem hj) he
    omega
  · intro h i j p q hp hq he
    have h' : List.Pairwise (fun a b => a ≠ b) (ws.map (fun x => x.1)) := h
    rw [List.pairwise_iff_getElem] at h'
    obtain ⟨hi, ei⟩ := List.getElem?_eq_some_iff.mp hp
    obtain ⟨hj, ej⟩ := List.getElem?_eq_some_iff.mp hq
    rcases Nat.lt_trichotomy i j with h1 | h1 | h1
    · exact absurd (by rw [List.getElem_map, List.getElem_map, ei, ej]; exact he) (h' i j (by rw [List.length_map]; exact hi) (by rw [List.length_map]; exact hj) h1)
    · exact h1
    · exact absurd (by rw [List.getElem_map, List.getElem_map, ei, ej]; exact he.symm) (h' j i (by rw [List.length_map]; exact hj) (by rw [List.length_map]; exact hi) h1)
theorem k_pD {A : Nat → Prop} {ws ws' : va_W} (hp : ws.Perm ws') (h : va_D A ws) : va_D A ws' := by
  refine ⟨k_nd.mpr ((hp.map _).nodup_iff.mp (k_nd.mp h.1)), fun k q hq => ?_⟩
  obtain ⟨i, hi⟩ := List.getElem?_of_mem (hp.mem_iff.mpr (List.mem_of_getElem? hq))
  exact h.2 i q hi
theorem k_arr {cI : ClassId} {N : Nat} {f g : Nat → Value} (h : ∀ i, i < N → f i = g i) : arrV cI N f = arrV cI N g := by
  unfold arrV
  rw [show (fun j : Fin N => f j.val) = (fun j => g j.val) from funext fun j => h j.val j.isLt]
/-- an array's contents matter below its length alone -/
theorem k_ext {D : va_G} {cl : List vw_C} {ws : va_W} {H : Heap} {q0 a n : Nat} {cA : ClassId} {f g : Nat → Int32} (h : va_P D cl ws H) (ha : ws[q0]? = some (a, .inl (cA, n, .inl f))) (hfg : ∀ i, i < n → f i = g i) : va_P D cl (ws.set q0 (a, .inl (cA, n, .inl g))) H := by
  intro k q hq
  by_cases hk : q0 = k
  · subst hk
    have hlt : q0 < ws.length := (List.getElem?_eq_some_iff.mp ha).1
    rw [List.getElem?_set_self hlt] at hq
    cases hq
    have h1 : H[a]? = some (vp_cell cA (n, .inl f)) := h q0 _ ha
    show H[a]? = some (vp_cell cA (n, .inl g))
    rw [h1]
    have e1 : vp_cell cA (n, .inl f) = arrV cA n (fun i => .int (f i)) := rfl
    have e2 : vp_cell cA (n, .inl g) = arrV cA n (fun i => .int (g i)) := rfl
    rw [e1, e2]
    congr 1
    exact k_arr fun i hi => by rw [hfg i hi]
  · rw [List.getElem?_set_ne hk] at hq
    exact h k q hq
theorem k_extD {A : Nat → Prop} {ws : va_W} {q0 a : Nat} {e e' : va_E} (h : va_D A ws) (ha : ws[q0]? = some (a, e)) : va_D A (ws.set q0 (a, e')) := h.set ha
/-- the end of a maker: addresses ad, the world of them; mc cells of ms slots are new -/
def kBm (D : va_G) (cl : List vw_C) (s0 : State) (Φ : (Nat → Nat) → Prop) (wf : (Nat → Nat) → va_W) (mc ms : Nat) (_ : Unit) (st t : State) : Prop :=
  ∃ ad : Nat → Nat, Φ ad ∧ va_P D cl (wf ad) t.heap ∧ va_D (kA s0) (wf ad) ∧ va_F (kA s0) st t ∧ kFr st t mc ms (kA s0)
section KM
variable {l : Launch}
/-- a constructor's body -/
theorem k_ofI {S : Type} {y : MethodName} {cc : ByteArray} {maxL : Nat} {ret : Option FieldType} {rm : Room} {as : List Value} {Pre : State → Prop} {res : Except String (Option Value × S)} {B : S → State → State → Prop}
    (hy : plainName y.cls = true) (hle : (lg_sl as).length ≤ maxL)
    (body : ∀ (p : Program) (e : Env) (s : State) (m : MethodId) (below : List Frame) (meth : Method) (c : Code), p.tables.exec = Jvm.exec → c.code = cc → meth.sig.returnType = ret → meth.locks = false → s.vm.findClass y.cls = some m.cls → c.maxLocals = maxL → meth.name = y.name → Pre s →
      ∀ ls : Array Slot, lv_has ls maxL (lv_args 0 as) → W p l e rm s m as.toArray below meth c s.heap [] 0 0 (kE below res B s) (F0 m 0 ls [])) :
    kMet l y (Cond.code y cc maxL ret) rm as Pre res B := by
  refine MetFree.of_bodyS (code := cc) (maxLocals := maxL) (ret := ret) hy ?_ ?_
  · intro args s m h hn
    obtain ⟨meth, c, h1, h2, h3, h4, h5, h6, -, -⟩ := Cond.code_spec hn (atoms_spec (ws := [Cond.code y cc maxL ret]) h _ List.mem_cons_self)
    exact ⟨meth, c, h1, h2, h3, h4, h5, h6⟩
  · intro p e s m args below meth c s₁ B0 hml hP _
    obtain ⟨rfl, hP⟩ := hP
    have hh0 : s₁.heap = s.heap := by rw [B0.state]; rfl
    have hl := lv_entry as (n := maxL) hle
    have K := body p e s m below meth c B0.exec B0.bytes B0.returns B0.notSynchronized (findClass_of_methodNamed B0.named) hml (name_of_methodNamed B0.named B0.method).1 hP _ hl
    rw [← lg_entry_eq] at K
    obtain ⟨t, a1, o, b1, b2, b3⟩ := K s₁ hh0 (Stand.of_body B0)
    exact ⟨t, o, a1, b1, b2, b3⟩
end KM
section KN
variable {p : Program} {l : Launch} {e : Env} {R : Room} {s : State} {m : MethodId} {args : Array Value} {below : List Frame} {meth : Method} {c : Code} {T : State} {H : Heap} {locs : List Loc} {cells slots : Nat} {Q : State → Prop}
/-- invokespecial of a constructor -/
theorem k_atI {own : String} {index maxL : Nat} {y : MethodName} {bytes : ByteArray} {cc : ByteArray} {b : Nat} {As rest st0 : List Value} {pc : Nat} {ls : Array Slot} {a0 : Array Value} {s0 : State}
    (hx : p.tables.exec = Jvm.exec) (hb : c.code = cc) (hown : s.vm.findClass own = some m.cls) (hE : s0.WarmedH s.vm)
    (hcode : (Cond.code y bytes maxL none).before a0 s0 = true) (hlink : (Cond.methodLink own index y).before args s = true) (hinst : (Cond.instanceMethod y).before args s = true) (hini : (Cond.initialized y.cls).before args s = true)
    (hy1 : y.name = "<init>") (hy : y.cls ≠ "java/lang/invoke/MethodHandle" ∧ y.cls ≠ "java/lang/invoke/VarHandle") (hlen : (parseMethodDescriptor y.desc).map (fun d => d.parameters.length) = some As.length)
    (hst : st0 = As.reverse ++ .ref b :: rest) (hdg : decode cc pc = .ok (.invokespecial index, 3)) :
    kAt p l e R s m args below meth c H locs cells slots y (Cond.code y bytes maxL none) (.ref b :: As) maxL (F0 m pc ls st0) rest := by
  intro T hT X
  have hcode1 : (Cond.code y bytes maxL none).before args s = true := kGood_at (by rfl) hE hcode
  have hpl : e.platform.magicAccessors = ({} : Platform).magicAccessors := by rw [X.admits.platform]
  have hdg' : decode c.code pc = .ok (.invokespecial index, 3) := by rw [hb]; exact hdg
  obtain ⟨mk, methM, cM, kP, vm₁, hnamed, hmethM, hcM, -, hlM, -, hkP, -, hW₁, hstep⟩ := Steps.initColdArgs (e := e) X.here hx X.warmed hpl hown hy1 hy hlink hinst hcode1 (f := F0 m pc ls st0) rfl (a := b) (argsL := As) (rest := rest) (fun sig hs => by rw [hs] at hlen; exact (Option.some.inj hlen).symm) hst hdg'
  have X₁ := X.noted hW₁
  refine ⟨vm₁, mk, methM, cM, _, X₁, hdg', X₁.named hnamed, ?_, hcM, hlM, ?_, ?_, fun target h => hstep target fun acts => ?_⟩
  · rw [X₁.warmed.alike.method?]; exact hmethM
  · exact kGood_at (by rfl) X₁.warmed hcode1
  · exact kGood_at (by rfl) X₁.warmed hini
  · rw [doInvoke_state]; exact h
theorem k_atIN {own host : String} {index maxL : Nat} {y : MethodName} {bytes : ByteArray} {cc : ByteArray} {b : Nat} {As rest st0 : List Value} {pc : Nat} {ls : Array Slot} {a0 : Array Value} {s0 : State}
    (hx : p.tables.exec = Jvm.exec) (hb : c.code = cc) (hown : s.vm.findClass own = some m.cls) (hE : s0.WarmedH s.vm)
    (hcode : (Cond.code y bytes maxL none).before a0 s0 = true) (hlink : (Cond.methodLinkNest own index y host).before args s = true) (hinst : (Cond.instanceMethod y).before args s = true) (hini : (Cond.initialized y.cls).before args s = true)
    (hy1 : y.name = "<init>") (hy : y.cls ≠ "java/lang/invoke/MethodHandle" ∧ y.cls ≠ "java/lang/invoke/VarHandle") (hlen : (parseMethodDescriptor y.desc).map (fun d => d.parameters.length) = some As.length)
    (hst : st0 = As.reverse ++ .ref b :: rest) (hdg : decode cc pc = .ok (.invokespecial index, 3)) :
    kAt p l e R s m args below meth c H locs cells slots y (Cond.code y bytes maxL none) (.ref b :: As) maxL (F0 m pc ls st0) rest := by
  intro T hT X
  have hcode1 : (Cond.code y bytes maxL none).before args s = true := kGood_at (by rfl) hE hcode
  have hpl : e.platform.magicAccessors = ({} : Platform).magicAccessors := by rw [X.admits.platform]
  have hdg' : decode c.code pc = .ok (.invokespecial index, 3) := by rw [hb]; exact hdg
  obtain ⟨mk, methM, cM, kP, vm₁, hnamed, hmethM, hcM, -, hlM, -, hkP, -, hW₁, hstep⟩ := Steps.initColdArgsNest (e := e) X.here hx X.warmed hpl hown hy1 hy hlink hinst hcode1 (f := F0 m pc ls st0) rfl (a := b) (argsL := As) (rest := rest) (fun sig hs => by rw [hs] at hlen; exact (Option.some.inj hlen).symm) hst hdg'
  have X₁ := X.noted hW₁
  refine ⟨vm₁, mk, methM, cM, _, X₁, hdg', X₁.named hnamed, ?_, hcM, hlM, ?_, ?_, fun target h => hstep target fun acts => ?_⟩
  · rw [X₁.warmed.alike.method?]; exact hmethM
  · exact kGood_at (by rfl) X₁.warmed hcode1
  · exact kGood_at (by rfl) X₁.warmed hini
  · rw [doInvoke_state]; exact h
/-- a call of a maker -/
theorem k_callM {D : va_G} {cl : List vw_C} {s0 : State} {Φ : (Nat → Nat) → Prop} {wf : (Nat → Nat) → va_W} {mc ms : Nat} {y : MethodName} {w : Cond} {rm : Room} {as : List Value} {Pre : State → Prop} {v : Option Value} {maxL : Nat} {pc : Nat} {ls : Array Slot} {st0 rest : List Value}
    (hA : kAt p l e R s m args below meth c H locs cells slots y w as maxL (F0 m pc ls st0) rest) (hM : kMet l y w rm as Pre (.ok (v, ())) (kBm D cl s0 Φ wf mc ms)) (hsize : ls.size = c.maxLocals) (hW : (rest.map fun v => v.category).sum ≤ 8)
    (hR : rm.frames + 1 ≤ R.frames ∧ 8 + (maxL + 11) + rm.locals ≤ R.locals ∧ cells + rm.cells ≤ R.cells ∧ slots + rm.slots ≤ R.slots) (hP : ∀ U : State, U.heap = H → s.WarmedH U.vm → Pre U) {H0 : Heap} (hS : va_S (kA s0) H0 H locs)
    (kk : ∀ (ad : Nat → Nat) (H1 : Heap) (locs1 : List Loc), Φ ad → va_P D cl (wf ad) H1 → va_D (kA s0) (wf ad) → va_S (kA s0) H0 H1 locs1 → W p l e R s m args below meth c H1 locs1 (cells + mc) (slots + ms) Q (F0 m (pc + 3) ls (v.toList ++ rest))) : W p l e R s m args below meth c H locs cells slots Q (F0 m pc ls st0) := by
  refine k_call hA hM hsize hW hR.1 hR.2.1 hR.2.2.1 hR.2.2.2 hP (fun E h => by cases h) ?_
  rintro v' u' h st t e1 hWs ⟨ad, b0, b1, b2, b3, L, hW2, hsm, hL⟩
  cases h
  refine ⟨mc, ms, L, hW2, hsm, kk ad t.heap (locs ++ L) b0 b1 b2 ⟨?_, ?_, ?_⟩⟩
  · exact Nat.le_trans hS.1 (by rw [← e1]; exact b3.1)
  · intro q h1 h2
    rw [b3.2 q (by rw [e1]; exact Nat.lt_of_lt_of_le h1 hS.1) h2, e1]
    exact hS.2.1 q h1 h2
  · intro z hz
    rcases List.mem_append.mp hz with h9 | h9
    · exact hS.2.2 z h9
    · exact hL z h9
/-- a maker's end -/
theorem k_retM {D : va_G} {cl : List vw_C} {s0 : State} {Φ : (Nat → Nat) → Prop} {wf : (Nat → Nat) → va_W} {ad : Nat → Nat} {cc : ByteArray} {pc : Nat} {ls : Array Slot} (hx : p.tables.exec = Jvm.exec) (hb : c.code = cc) (hr : meth.sig.returnType = none) (hlocks : meth.locks = false) (hdg : decode cc pc = .ok (.return_, 1))
    (hΦ : Φ ad) (hP : va_P D cl (wf ad) H) (hD : va_D (kA s0) (wf ad)) (hS : va_S (kA s0) s.heap H locs) :
    W p l e R s m args below meth c H locs cells slots (kE below (.ok (none, ())) (kBm D cl s0 Φ wf cells slots) s) (F0 m pc ls []) :=
  k_end (v := none) (u := ()) rfl (W.vret hx hb hr (free := kA s0) (fun t ht _ => ⟨rfl, ht⟩) hS.2.2 hdg hlocks) (fun t ht hf => ⟨ad, hΦ, by rw [ht]; exact hP, hD, hS.F ht, hf⟩)
/-- a new array of ints -/
theorem k_newI {D : va_G} {cl : List vw_C} {A : Nat → Prop} {ws : va_W} {H0 : Heap} {cc : ByteArray} {pc : Nat} {ls : Array Slot} {rest : List Value} {cI : ClassId} {N' : Nat} (hexec : p.tables.exec = Jvm.exec) (hb : c.code = cc) (harr : (Cond.arrayClass .int).before args s = true) (hcI : s.vm.findClass ("[" ++ (FieldType.int).toString) = some cI)
    (hP : va_P D cl ws H) (hD : va_D A ws) (hS : va_S A H0 H locs) (hA : ∀ q, H0.size ≤ q → A q) (hN : N' < 2 ^ 20) (hcells : cells + 1 ≤ R.cells) (hslots : slots + N' ≤ R.slots) (hdg : decode cc pc = .ok (.newarray .int, 2))
    (kk : ∀ (q : Nat) (H1 : Heap), va_P D cl (ws ++ [(q, .inl (cI, N', .inl (fun _ => 0)))]) H1 → va_D A (ws ++ [(q, .inl (cI, N', .inl (fun _ => 0)))]) → va_S A H0 H1 locs →
      W p l e R s m args below meth c H1 locs (cells + 1) (slots + N') Q (F0 m (pc + 2) ls (.ref q :: rest))) : W p l e R s m args below meth c H locs cells slots Q (F0 m pc ls (.int (nI N') :: rest)) := by
  have h31 : N' < 2 ^ 31 := Nat.lt_of_lt_of_le hN (by decide)
  refine va_newaK (atype := .int) (n := nI N') (N := N') hexec hb harr rfl hdg rfl (by rw [Int32.lt_iff_toInt_lt, nI_toInt h31]; show ¬ ((N' : Int) < 0); omega) (nI_clamp h31) (by show N' * 4 ≤ _; omega) hcells hslots rfl fun H1 cA e1 z1 o1 hAr hNm => ?_
  cases hcI.symm.trans hNm
  have hk : ∀ (k : Nat) (x : Nat × va_E), ws[k]? = some x → H1[x.1]? = H[x.1]? := fun k x hx => o1 x.1 ((hP k x hx).lt)
  refine kk H.size H1 ((hP.kept hk).app (fun k x hx => ?_)) (hD.push hP rfl (hA _ hS.1)) ⟨Nat.le_trans hS.1 (by omega), fun x h1 h2 => (o1 x (Nat.lt_of_lt_of_le h1 hS.1)).trans (hS.2.1 x h1 h2), hS.2.2⟩
  have hz : k < 1 := (List.getElem?_eq_some_iff.mp hx).1
  rw [show k = 0 by omega] at hx
  cases hx
  show H1[H.size]? = some (vp_cell _ _)
  exact e1
end KN
