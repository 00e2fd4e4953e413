/-! THE LAW'S WRAPPERS: the class's call in a try; its answer as a long in a row of one place; a code for what is thrown -/
def wL (ad : Nat → Nat) (cI cL : ClassId) (τ : kS) (z : kS × Int64) : va_W := wC ad cI (wR ad cI τ ++ [(ad 30, .inl (cL, 1, .inr (.inl (fun _ => z.2))))]) z.1
/-- a wrapper's end: an exception may have been made -/
def kBl {S : Type} (D : va_G) (cl : List vw_C) (s0 : State) (wf : S → va_W) (u : S) (st t : State) : Prop :=
  va_P D cl (wf u) t.heap ∧ va_D (kA s0) (wf u) ∧ va_F (kA s0) st t ∧ kFr st t 1 6 (kA s0)
/-- the code of what is thrown, by the order of the catches -/
def kCo (E : String) : List String → Nat → Nat
  | [], _ => 0
  | F :: r, n => if E = F then n else kCo E r (n + 1)
def lwr (cs : List String) (r : kX) (σ : kS) (oo : Int64) : Option Value × (kS × Int64) := match r with
  | .ok (some (.int v), u) => (some (.int (nI 0)), (u, v.toInt64))
  | .ok (_, u) => (some (.int (nI 0)), (u, oo))
  | .error E => (some (.int (nI (kCo E cs 1))), (σ, oo))
theorem inr_er {α : Type} {x : Int32} {lo hi : Nat} {k : Nat → Except String α} {E : String} (h : inr x lo hi k = .error E) : E = eIA ∨ ∃ p, rg x lo hi = some p ∧ k p = .error E := by
  unfold inr at h
  split at h
  · next p hp => exact Or.inr ⟨p, hp, h⟩
  · cases h; exact Or.inl rfl
theorem req_er {α : Type} {c : Bool} {E0 E : String} {k : Except String α} (h : req c E0 k = .error E) : E = E0 ∨ (c = true ∧ k = .error E) := by
  cases c
  · cases h; exact Or.inl rfl
  · exact Or.inr ⟨rfl, h⟩
