theorem mine_eq (σ : kS) (p : Nat) : mine σ p = (p == σ.1 11 0 || mchild σ p 1 || mchild σ p 5) := rfl
theorem st_b {σ : kS} {a n j v : Nat} (h : ∀ i, i < n → σ.1 a i < 2 ^ 30) (hv : v < 2 ^ 30) : ∀ i, i < n → (st σ a j v).1 a i < 2 ^ 30 := by
  intro i hi
  have e : (st σ a j v).1 a i = if i = j then v else σ.1 a i := by simp [st, va_up]
  rw [e]
  split
  · exact hv
  · exact h i hi
theorem st_get (σ : kS) (a j v : Nat) : (st σ a j v).1 a j = v := by simp [st, va_up]
theorem mchild_st {σ : kS} {p s : Nat} (h : mchild σ p s = true) : σ.1 4 p = s := by
  simp only [mchild, Bool.and_eq_true, beq_iff_eq] at h
  exact h.2
