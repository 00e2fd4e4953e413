/-! THE LAW'S WRAPPERS: catching, and their ends. -/
abbrev kEx : List String := [eIA, eIS, eUO, eNS]
/-- none of the four exceptions is one of the others -/
def kNC (s0 : State) : Prop := ∀ E ∈ kEx, ∀ F ∈ kEx, E ≠ F → va_Nc E F s0
theorem kNC.at {s0 s : State} (h : kNC s0) (hW : s0.WarmedH s.vm) {E F : String} (hE : E ∈ kEx) (hF : F ∈ kEx) (hne : E ≠ F) : va_Nc E F s := (h E hE F hF hne).moved hW.alike
theorem kH_hit {own E : String} {args : Array Value} {s : State} {d : ClassId} {pc a b h i : Nat} {t : List ExceptionTableEntry} (hown : s.vm.findClass own = some d) (hlink : (Cond.classLink own i E).before args s = true) (hc : (Cond.castable E E).before args s = true) (hcov : covers ⟨a, b, h, i⟩ pc = true) (h0 : i ≠ 0) :
    ∀ k : ClassId, s.vm.findClass E = some k → ∀ pl : Platform, pl.magicAccessors = ({} : Platform).magicAccessors → kHand pl s d pc k (⟨a, b, h, i⟩ :: t) h := by
  intro k hk pl hpl
  obtain ⟨c3, c4, hc3, hc4, hasg⟩ := Cond.castable_spec hc
  cases Option.some.inj (hc3.symm.trans hk)
  cases Option.some.inj (hc4.symm.trans hk)
  obtain ⟨c5, hc5, hcl5⟩ := Cond.classLink_spec hown hlink pl hpl
  cases Option.some.inj (hc5.symm.trans hk)
  exact Or.inr ⟨hcov, h0, _, hcl5, Or.inl ⟨hasg, rfl⟩⟩
theorem kH_miss {own E F : String} {args : Array Value} {s : State} {d : ClassId} {pc a b h i h' : Nat} {t : List ExceptionTableEntry} (hown : s.vm.findClass own = some d) (hlink : (Cond.classLink own i F).before args s = true) (hn : va_Nc E F s) (hcov : covers ⟨a, b, h, i⟩ pc = true) (h0 : i ≠ 0)
    (rest : ∀ k : ClassId, s.vm.findClass E = some k → ∀ pl : Platform, pl.magicAccessors = ({} : Platform).magicAccessors → kHand pl s d pc k t h') :
    ∀ k : ClassId, s.vm.findClass E = some k → ∀ pl : Platform, pl.magicAccessors = ({} : Platform).magicAccessors → kHand pl s d pc k (⟨a, b, h, i⟩ :: t) h' := by
  intro k hk pl hpl
  obtain ⟨c3, c4, hc3, hc4, hasg⟩ := hn
  cases Option.some.inj (hc3.symm.trans hk)
  obtain ⟨c5, hc5, hcl5⟩ := Cond.classLink_spec hown hlink pl hpl
  cases Option.some.inj (hc4.symm.trans hc5)
  exact Or.inr ⟨hcov, h0, _, hcl5, Or.inr ⟨hasg, rest _ hk pl hpl⟩⟩
theorem kCo_mem {E : String} : ∀ (cs : List String) (n : Nat), kCo E cs n ≠ 0 → E ∈ cs
  | [], _, h => absurd rfl h
  | F :: r, n, h => by
    unfold kCo at h
    by_cases hE : E = F
    · rw [hE]; exact List.mem_cons_self
    · rw [if_neg hE] at h
      exact List.mem_cons_of_mem _ (kCo_mem r (n + 1) h)
theorem k_extL {D : va_G} {cl : List vw_C} {ws : va_W} {H : Heap} {q0 a n : Nat} {cA : ClassId} {f g : Nat → Int64} (h : va_P D cl ws H) (ha : ws[q0]? = some (a, .inl (cA, n, .inr (.inl f)))) (hfg : ∀ i, i < n → f i = g i) : va_P D cl (ws.set q0 (a, .inl (cA, n, .inr (.inl g)))) H := by
  intro k q hq
  by_cases hk : q0 = k
  · subst hk
    have hlt : q0 < ws.length := (List.getElem?_eq_some_iff.mp ha).1
    rw [List.getElem?_set_self hlt] at hq
    cases hq
    have h1 : H[a]? = some (vp_cell cA (n, .inr (.inl f))) := h q0 _ ha
    show H[a]? = some (vp_cell cA (n, .inr (.inl g)))
    rw [h1]
    have e1 : vp_cell cA (n, .inr (.inl f)) = arrV cA n (fun i => .long (f i)) := rfl
    have e2 : vp_cell cA (n, .inr (.inl g)) = arrV cA n (fun i => .long (g i)) := rfl
    rw [e1, e2]
    congr 1
    exact k_arr fun i hi => by rw [hfg i hi]
  · rw [List.getElem?_set_ne hk] at hq
    exact h k q hq
theorem wL_out {D : va_G} {A : Nat → Prop} {ad : Nat → Nat} {cI cL : ClassId} {τ u : kS} {oo v : Int64} {H : Heap} (hP : va_P D vwCl ((wL ad cI cL τ (u, oo)).set 30 (ad 30, .inl (cL, 1, .inr (.inl (vp_updL (fun _ => oo) (nI 0).toNatClampNeg v))))) H) (hD : va_D A ((wL ad cI cL τ (u, oo)).set 30 (ad 30, .inl (cL, 1, .inr (.inl (vp_updL (fun _ => oo) (nI 0).toNatClampNeg v)))))) :
    va_P D vwCl (wL ad cI cL τ (u, v)) H ∧ va_D A (wL ad cI cL τ (u, v)) := by
  refine ⟨?_, ?_⟩
  · have h1 := k_extL (q0 := 30) (g := fun _ => v) hP rfl (fun i hi => by
      obtain rfl : i = 0 := by omega
      rfl)
    exact h1
  · have h1 := k_extD (q0 := 30) (e' := .inl (cL, 1, .inr (.inl (fun _ => v)))) hD rfl
    exact h1
theorem k_w9H {y : MethodName} {bytes : ByteArray} {maxL : Nat} {ret : Option FieldType} {hh : List (Nat × Nat × Nat × Nat)} (args : Array Value) (s : State) (h : (Cond.codeWith y bytes maxL ret hh).before args s = true) : ∃ (mk : MethodId) (methM : Method) (cM : Code), s.methodNamed? y = some mk ∧ s.vm.method? mk = some methM ∧ methM.code = some cM ∧ cM.maxLocals = maxL ∧ parseMethodDescriptor y.desc = some methM.sig := by
  obtain ⟨m9, meth, c, hn9, h1, h2, -, h4, -, -, -, h8⟩ := Cond.codeWith_spec h
  exact ⟨m9, meth, c, hn9, h1, h2, h4, h8⟩
section KZ
variable {p : Program} {l : Launch} {e : Env} {R : Room} {s : State} {m : MethodId} {args : Array Value} {below : List Frame} {meth : Method} {c : Code} {T : State} {H : Heap} {locs : List Loc} {cells slots : Nat} {Q : State → Prop}
theorem k_retL {S : Type} {D : va_G} {cl : List vw_C} {s0 : State} {wf : S → va_W} {u : S} {res : Except String (Option Value × S)} {v : Int32} {cc : ByteArray} {pc : Nat} {ls : Array Slot} (hx : p.tables.exec = Jvm.exec) (hb : c.code = cc) (hr : meth.sig.returnType = some .int) (hlocks : meth.locks = false) (hdg : decode cc pc = .ok (.ireturn, 1))
    (hP : va_P D cl (wf u) H) (hD : va_D (kA s0) (wf u)) (hS : va_S (kA s0) s.heap H locs) (hce : cells ≤ 1) (hsl : slots ≤ 6) (hres : res = .ok (some (.int v), u)) :
    W p l e R s m args below meth c H locs cells slots (kE below res (kBl D cl s0 wf) s) (F0 m pc ls [.int v]) :=
  k_end hres (W.iret hx hb hr (free := kA s0) (fun t ht _ => ⟨rfl, ht⟩) hS.2.2 hdg hlocks) (fun t ht hf => ⟨by rw [ht]; exact hP, hD, hS.F ht, by
    obtain ⟨L, h1, h2, h3⟩ := hf
    exact ⟨L, h1, h2.mono hce hsl, h3⟩⟩)
/-- what is thrown leaves the world as it was -/
theorem kThr_P {D : va_G} {cl : List vw_C} {ws : va_W} {E : String} {st t : State} {q : Addr} (h : kThr E st q t) (hH : st.heap = H) (hP : va_P D cl ws H) : va_P D cl ws t.heap := by
  obtain ⟨ce, h1, h2, h3, h4, h5, -⟩ := h
  refine hP.kept fun k x hx => ?_
  have hlt := (hP k x hx).lt
  rw [h5 x.1 (by rw [hH]; exact hlt), hH]
theorem kThr_S {s0 : State} {E : String} {st t : State} {q : Addr} (h : kThr E st q t) (hH : st.heap = s.heap) : va_S (kA s0) s.heap t.heap [] := by
  obtain ⟨ce, h1, h2, h3, h4, h5, -⟩ := h
  exact ⟨by rw [← hH]; exact h4, fun a ha _ => by rw [h5 a (by rw [hH]; exact ha), hH], fun z hz => absurd hz List.not_mem_nil⟩
/-- a call of a wrapper -/
theorem k_callL {S : Type} {D : va_G} {cl : List vw_C} {s0 : State} {wf : S → va_W} {u : S} {y : MethodName} {w : Cond} {rm : Room} {as : List Value} {Pre : State → Prop} {v : Option Value} {maxL : Nat} {pc : Nat} {ls : Array Slot} {st0 rest : List Value}
    (hA : kAt p l e R s m args below meth c H locs cells slots y w as maxL (F0 m pc ls st0) rest) (hM : kMet l y w rm as Pre (.ok (v, u)) (kBl D cl s0 wf)) (hsize : ls.size = c.maxLocals) (hW : (rest.map fun v => v.category).sum ≤ 8)
    (hR : rm.frames + 1 ≤ R.frames ∧ 8 + (maxL + 11) + rm.locals ≤ R.locals ∧ cells + rm.cells ≤ R.cells ∧ slots + rm.slots ≤ R.slots) (hP : ∀ U : State, U.heap = H → s.WarmedH U.vm → Pre U) {H0 : Heap} (hS : va_S (kA s0) H0 H locs)
    (kk : ∀ (H1 : Heap) (locs1 : List Loc), va_P D cl (wf u) H1 → va_D (kA s0) (wf u) → va_S (kA s0) H0 H1 locs1 → W p l e R s m args below meth c H1 locs1 (cells + 1) (slots + 6) Q (F0 m (pc + 3) ls (v.toList ++ rest))) : W p l e R s m args below meth c H locs cells slots Q (F0 m pc ls st0) := by
  refine k_call hA hM hsize hW hR.1 hR.2.1 hR.2.2.1 hR.2.2.2 hP (fun E h => by cases h) ?_
  rintro v' u' h st t e1 hWs ⟨b1, b2, b3, L, hW2, hsm, hL⟩
  cases h
  refine ⟨1, 6, L, hW2, hsm, kk t.heap (locs ++ L) b1 b2 ⟨?_, ?_, ?_⟩⟩
  · exact Nat.le_trans hS.1 (by rw [← e1]; exact b3.1)
  · intro q h1 h2
    rw [b3.2 q (by rw [e1]; exact Nat.lt_of_lt_of_le h1 hS.1) h2, e1]
    exact hS.2.1 q h1 h2
  · intro z hz
    rcases List.mem_append.mp hz with h9 | h9
    · exact hS.2.2 z h9
    · exact hL z h9
end KZ
/-- what is answered by a call that the law may make -/
theorem kAg_v {cs : List String} {σ : kS} {r : kX} {z : Option Value × kS} (h : kAg cs σ r z) {v : Option Value} {u : kS} (hr : r = .ok (v, u)) : ∃ v', v = some (.int v') := by
  subst hr
  unfold kAg at h
  split at h
  · next e => cases e; exact ⟨_, rfl⟩
  · exact h.elim
  · next e => cases e
theorem kAg_c {cs : List String} {σ : kS} {r : kX} {z : Option Value × kS} (h : kAg cs σ r z) {E : String} (hr : r = .error E) : E ∈ cs := by
  subst hr
  exact kCo_mem cs 1 h.2.2.1
def wO (ad : Nat → Nat) (cL : ClassId) (oo : Int64) : va_W := [(ad 30, .inl (cL, 1, .inr (.inl (fun _ => oo))))]
