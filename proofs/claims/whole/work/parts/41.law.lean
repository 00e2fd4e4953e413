/-! THE LAW'S LOOP: what holds at its head, and how it goes on. -/
/-- what stays as it is through the law's run -/
def lK (p : Program) (l : Launch) (s : State) (m : MethodId) (meth : Method) (c : Code) (b L : Nat) (xs : Nat → Int32) (D : va_G) (cI cL : ClassId) : Prop :=
  k0 l s #[Value.ref b] D cI cL ∧ kNC s ∧ p.tables.exec = Jvm.exec ∧ c.code = b_Law_law ∧ meth.sig.returnType = ret ∧ c.maxLocals = 7 ∧ s.vm.findClass R_Law = some m.cls ∧ va_X b L xs s s.heap ∧ b < s.heap.size ∧ meth.locks = false ∧ L ≤ 2560
/-- at a place of the loop, with i ints of the script read: class σ, reference τ, oo in the row of one place -/
def lI (s : State) (b : Nat) (D : va_G) (cI cL : ClassId) (ad : Nat → Nat) (i : Nat) (σ τ : kS) (oo : Int64) (H : Heap) (locs : List Loc) (ls : Array Slot) : Prop :=
  kRel σ τ ∧ va_P D vwCl (wL ad cI cL τ (σ, oo)) H ∧ va_D (kA s) (wL ad cI cL τ (σ, oo)) ∧ va_S (kA s) s.heap H locs ∧ lv_has ls 7 [(0, .ref b), (1, .ref (ad 0)), (2, .ref (ad 17)), (3, .ref (ad 30)), (4, .int (nI i))]
/-- from there the law comes to Q -/
def lGo (p : Program) (l : Launch) (e : Env) (s : State) (m : MethodId) (below : List Frame) (meth : Method) (c : Code) (b : Nat) (D : va_G) (cI cL : ClassId) (Q : State → Prop) (ad : Nat → Nat) (i pc cells slots : Nat) : Prop :=
  ∀ (σ τ : kS) (oo : Int64) (H : Heap) (locs : List Loc) (ls : Array Slot), lI s b D cI cL ad i σ τ oo H locs ls → W p l e room_1 s m #[Value.ref b] below meth c H locs cells slots Q (F0 m pc ls [])
section LZ
variable {p : Program} {l : Launch} {e : Env} {R : Room} {s : State} {m : MethodId} {args : Array Value} {below : List Frame} {meth : Method} {c : Code} {H : Heap} {locs : List Loc} {cells slots : Nat} {Q : State → Prop}
/-- a place of the script -/
theorem k_scr {A : Nat → Prop} {H0 : Heap} {cc : ByteArray} {pc : Nat} {ls : Array Slot} {rest : List Value} {b L j : Nat} {xs : Nat → Int32} (hx : p.tables.exec = Jvm.exec) (hb : c.code = cc) (hX : va_X b L xs s H0) (hbl : b < H0.size) (hbA : ¬ A b) (hS : va_S A H0 H locs) (hj : j < L) (hL : L ≤ 2560) (hd : decode cc pc = .ok (.iaload, 1))
    (k : W p l e R s m args below meth c H locs cells slots Q (F0 m (pc + 1) ls (.int (xs j) :: rest))) : W p l e R s m args below meth c H locs cells slots Q (F0 m pc ls (.int (nI j) :: .ref b :: rest)) :=
  va_sld hx hb hX hbl hbA hS (vp_in_nI hj (by omega)) hd (by rw [nI_clamp (by omega)]; exact k)
/-- the row of one place -/
theorem k_newL {D : va_G} {cl : List vw_C} {A : Nat → Prop} {ws : va_W} {H0 : Heap} {cc : ByteArray} {pc : Nat} {ls : Array Slot} {rest : List Value} {cL : ClassId} {N' : Nat} (hexec : p.tables.exec = Jvm.exec) (hb : c.code = cc) (harr : (Cond.arrayClass .long).before args s = true) (hcL : s.vm.findClass ("[" ++ (FieldType.long).toString) = some cL)
    (hP : va_P D cl ws H) (hD : va_D A ws) (hS : va_S A H0 H locs) (hA : ∀ q, H0.size ≤ q → A q) (hN : N' < 2 ^ 20) (hcells : cells + 1 ≤ R.cells) (hslots : slots + N' ≤ R.slots) (hdg : decode cc pc = .ok (.newarray .long, 2))
    (kk : ∀ (q : Nat) (H1 : Heap), va_P D cl (ws ++ [(q, .inl (cL, N', .inr (.inl (fun _ => 0))))]) H1 → va_D A (ws ++ [(q, .inl (cL, N', .inr (.inl (fun _ => 0))))]) → va_S A H0 H1 locs →
      W p l e R s m args below meth c H1 locs (cells + 1) (slots + N') Q (F0 m (pc + 2) ls (.ref q :: rest))) : W p l e R s m args below meth c H locs cells slots Q (F0 m pc ls (.int (nI N') :: rest)) := by
  have h31 : N' < 2 ^ 31 := Nat.lt_of_lt_of_le hN (by decide)
  refine va_newaK (atype := .long) (n := nI N') (N := N') hexec hb harr rfl hdg rfl (by rw [Int32.lt_iff_toInt_lt, nI_toInt h31]; show ¬ ((N' : Int) < 0); omega) (nI_clamp h31) (by show N' * 8 ≤ _; omega) hcells hslots rfl fun H1 cA e1 z1 o1 hAr hNm => ?_
  cases hcL.symm.trans hNm
  have hk : ∀ (k : Nat) (x : Nat × va_E), ws[k]? = some x → H1[x.1]? = H[x.1]? := fun k x hx => o1 x.1 ((hP k x hx).lt)
  refine kk H.size H1 ((hP.kept hk).app (fun k x hx => ?_)) (hD.push hP rfl (hA _ hS.1)) ⟨Nat.le_trans hS.1 (by omega), fun x h1 h2 => (o1 x (Nat.lt_of_lt_of_le h1 hS.1)).trans (hS.2.1 x h1 h2), hS.2.2⟩
  have hz : k < 1 := (List.getElem?_eq_some_iff.mp hx).1
  rw [show k = 0 by omega] at hx
  cases hx
  show H1[H.size]? = some (vp_cell _ _)
  exact e1
end LZ
theorem k_cmp0 (x : Int64) : lg_cmp x x = 0 := by simp [lg_cmp]
