theorem kf_o {S : Type} {B : S → State → State → Prop} {l : Launch} {y : MethodName} {w : Cond} {rm : Room} {as : List Value} {Pre : State → Prop} {r0 : Option Value × S} {v : Option Value} {u : S} (h : r0 = (v, u)) (hM : kMet l y w rm as Pre (.ok r0) B) : kMet l y w rm as Pre (.ok (v, u)) B := by subst h; exact hM
theorem inn_or {x : Int32} {lo hi : Nat} {k : Nat → kF} {P : kF → Prop} (h0 : ∀ c, P (.error c)) (h : ∀ p, P (k p)) : P (inn x lo hi k) := by
  unfold inn
  split
  · exact h _
  · exact h0 _
theorem rqn_or {c : Bool} {E : Nat} {k : kF} {P : kF → Prop} (h0 : ∀ c, P (.error c)) (h : P k) : P (rqn c E k) := by
  cases c
  · exact h0 _
  · exact h
theorem fin_hang (σ0 : kS) (hk : Nat) (σ : kS) (x y z w : Int32) : ∃ v u, fin σ0 (rs_hang hk σ x y z w) = (some (.int v), u) := by
  have h0 : ∀ c, ∃ v u, fin σ0 (.error c) = (some (.int v), u) := fun c => ⟨_, _, rfl⟩
  unfold rs_hang
  refine inn_or (P := fun r => ∃ v u, fin σ0 r = (some (.int v), u)) h0 fun p => ?_
  refine inn_or (P := fun r => ∃ v u, fin σ0 r = (some (.int v), u)) h0 fun p => ?_
  refine inn_or (P := fun r => ∃ v u, fin σ0 r = (some (.int v), u)) h0 fun p => ?_
  refine inn_or (P := fun r => ∃ v u, fin σ0 r = (some (.int v), u)) h0 fun p => ?_
  refine rqn_or (P := fun r => ∃ v u, fin σ0 r = (some (.int v), u)) h0 ?_
  refine rqn_or (P := fun r => ∃ v u, fin σ0 r = (some (.int v), u)) h0 ?_
  exact ⟨_, _, rfl⟩
theorem rwk_1 (σ : kS) (a q : Nat) : (rwk σ a q).2.1 = σ.1 := by
  unfold rwk
  repeat' split
  all_goals rfl
theorem rwk_lt {σ : kS} (ok : kOr σ) (a q : Nat) (ha : a < 64) : (rwk σ a q).1 < 81 := by
  have h1 := rfe_lt (a := a) ok.2.1 (ok.2.2.2.2.2.1 _ ok.2.2.2.2.2.2.2.2.2.2.1.2) ha
  unfold rwk
  split
  · exact Nat.lt_of_lt_of_le Nat.zero_lt_one (by decide)
  split
  · exact Nat.lt_of_lt_of_le Nat.zero_lt_one (by decide)
  split
  · exact Nat.lt_of_lt_of_le Nat.zero_lt_one (by decide)
  · have h2 := ok.2.1 (rfe σ (σ.1 11 0) a - 1) (by omega)
    show (σ.1 2 (rfe σ (σ.1 11 0) a - 1) - 1) * 4 + a % 4 + 1 < 81
    omega
