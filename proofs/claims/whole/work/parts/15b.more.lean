theorem mine_eq (σ : kS) (p : Nat) : mine σ p = (p == σ.1 11 0 || mchild σ p 1 || mchild σ p 5) := rfl
theorem st_b {σ : kS} {a n j v : Nat} (h : ∀ i, i < n → σ.1 a i < 2 ^ 30) (hv : v < 2 ^ 30) : ∀ i, i < n → (st σ a j v).1 a i < 2 ^ 30 := by
  intro i hi
  have e : (st σ a j v).1 a i = if i = j then v else σ.1 a i := by simp [st, va_up]
  rw [e]
  split
  · exact hv
  · exact h i hi
