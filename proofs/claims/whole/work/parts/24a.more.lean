theorem rv_t {σ : kS} {p n : Nat} (h0 : n ≠ 0) (h1 : (rv σ p n).1 4 n ≠ 0) (h2 : (rv σ p n).1 5 n = p) : rv σ p (n + 1) = st (rv σ p n) 5 n 1 ∧ rvn σ p (n + 1) = rvn σ p n + 1 := by
  constructor
  · simp [rv, h0, h1, h2]
  · simp [rvn, h0, h1, h2]
theorem rv_f1 {σ : kS} {p n : Nat} (h1 : (rv σ p n).1 4 n = 0) : rv σ p (n + 1) = rv σ p n ∧ rvn σ p (n + 1) = rvn σ p n := by
  constructor
  · simp [rv, h1]
  · simp [rvn, h1]
theorem rv_f2 {σ : kS} {p n : Nat} (h2 : (rv σ p n).1 5 n ≠ p) : rv σ p (n + 1) = rv σ p n ∧ rvn σ p (n + 1) = rvn σ p n := by
  constructor
  · simp [rv, h2]
  · simp [rvn, h2]
theorem rv_k (σ : kS) (p : Nat) {k : Nat} (hk : k ≠ 5) : ∀ n, (rv σ p n).1 k = σ.1 k
  | 0 => rfl
  | n + 1 => by
    have ih := rv_k σ p hk n
    unfold rv
    split
    · show (va_up (rv σ p n).1 5 _) k = _
      unfold va_up
      rw [if_neg hk]; exact ih
    · exact ih
theorem rv_6 (σ : kS) (p n : Nat) : (rv σ p n).1 6 = σ.1 6 := rv_k σ p (by decide) n
theorem rv_b4 {σ : kS} (p : Nat) (hb : ∀ i, i < 6 → σ.1 4 i < 2 ^ 30) (n : Nat) : ∀ i, i < 6 → (rv σ p n).1 4 i < 2 ^ 30 := by
  rw [rv_k σ p (by decide) n]; exact hb
theorem rv_b5 {σ : kS} (p : Nat) (hb : ∀ i, i < 6 → σ.1 5 i < 2 ^ 30) : ∀ n i, i < 6 → (rv σ p n).1 5 i < 2 ^ 30
  | 0, i, hi => hb i hi
  | n + 1, i, hi => by
    have h1 := rv_b5 p hb n i hi
    unfold rv
    split
    · show va_up ((rv σ p n).1 5) n 1 i < _
      unfold va_up
      split
      · decide
      · exact h1
    · exact h1
