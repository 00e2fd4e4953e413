/-! THE STATE. Of the class: σ.1 0 kinds, 1 owners, 2 pages in entries (0: none; else the page and one), 3 rights, 4 states, 5 parents, 6 roots (as 2), 7 descriptors (as 2), 8 awaited tables, 9 awaited entries, 10 sizes of pipes, 11 the caller (at 0); σ.2 0 words, 1 ints in pipes. Of the reference the same, but 8: the awaited address; σ.2 2: thrown (0), wrong (1). -/
abbrev kS : Type := (Nat → Nat → Nat) × (Nat → Nat → Int32)
def st (σ : kS) (a j v : Nat) : kS := (va_up σ.1 a (va_up (σ.1 a) j v), σ.2)
def sw (σ : kS) (a j : Nat) (v : Int32) : kS := (σ.1, va_up σ.2 a (va_up (σ.2 a) j v))
abbrev aN (cI : ClassId) (n : Nat) (g : Nat → Nat) : va_E := .inl (cI, n, .inl (cN g))
abbrev aP (cI : ClassId) (n : Nat) (g : Nat → Nat) : va_E := .inl (cI, n, .inl (cP g))
abbrev aI (cI : ClassId) (n : Nat) (g : Nat → Int32) : va_E := .inl (cI, n, .inl g)
/-- the cells of the class: kernel, memory, processes, pipes, then their rows -/
def wC (ad : Nat → Nat) (cI : ClassId) (r : va_W) (σ : kS) : va_W :=
  (ad 0, .inr (nFK, [.ref (ad 1), .ref (ad 2), .ref (ad 3), .int (nI (σ.1 11 0))])) ::
  (ad 1, .inr (nMem, [.ref (ad 4), .ref (ad 5), .ref (ad 6), .ref (ad 7), .ref (ad 8)])) ::
  (ad 2, .inr (nPro, [.ref (ad 9), .ref (ad 10), .ref (ad 11), .ref (ad 12), .ref (ad 13), .ref (ad 14)])) ::
  (ad 3, .inr (nPip, [.ref (ad 15), .ref (ad 16)])) ::
  (ad 4, aN cI 20 (σ.1 0)) :: (ad 5, aN cI 20 (σ.1 1)) :: (ad 6, aP cI 80 (σ.1 2)) :: (ad 7, aN cI 80 (σ.1 3)) :: (ad 8, aI cI 80 (σ.2 0)) ::
  (ad 9, aN cI 6 (σ.1 4)) :: (ad 10, aN cI 6 (σ.1 5)) :: (ad 11, aP cI 6 (σ.1 6)) :: (ad 12, aP cI 24 (σ.1 7)) :: (ad 13, aN cI 6 (σ.1 8)) :: (ad 14, aN cI 6 (σ.1 9)) ::
  (ad 15, aN cI 3 (σ.1 10)) :: (ad 16, aI cI 12 (σ.2 1)) :: r
/-- the cells of the reference -/
def wR (ad : Nat → Nat) (cI : ClassId) (τ : kS) : va_W :=
  [(ad 17, .inr (nMod, [.int (τ.2 2 0), .ref (ad 18), .ref (ad 19), .ref (ad 20), .ref (ad 21), .ref (ad 22), .ref (ad 23), .ref (ad 24), .ref (ad 25), .ref (ad 26), .ref (ad 27), .ref (ad 28), .ref (ad 29), .int (nI (τ.1 11 0)), .int (τ.2 2 1)])),
   (ad 18, aN cI 6 (τ.1 4)), (ad 19, aN cI 6 (τ.1 5)), (ad 20, aP cI 6 (τ.1 6)), (ad 21, aP cI 24 (τ.1 7)), (ad 22, aN cI 6 (τ.1 8)),
   (ad 23, aN cI 20 (τ.1 0)), (ad 24, aN cI 20 (τ.1 1)), (ad 25, aP cI 80 (τ.1 2)), (ad 26, aN cI 80 (τ.1 3)), (ad 27, aI cI 80 (τ.2 0)), (ad 28, aI cI 12 (τ.2 1)), (ad 29, aN cI 3 (τ.1 10))]
/-- memory alone; processes alone: while they are being made -/
def wM (ad : Nat → Nat) (cI : ClassId) (σ : kS) : va_W :=
  [(ad 1, .inr (nMem, [.ref (ad 4), .ref (ad 5), .ref (ad 6), .ref (ad 7), .ref (ad 8)])), (ad 4, aN cI 20 (σ.1 0)), (ad 5, aN cI 20 (σ.1 1)), (ad 6, aP cI 80 (σ.1 2)), (ad 7, aN cI 80 (σ.1 3)), (ad 8, aI cI 80 (σ.2 0))]
def wP (ad : Nat → Nat) (cI : ClassId) (σ : kS) : va_W :=
  [(ad 2, .inr (nPro, [.ref (ad 9), .ref (ad 10), .ref (ad 11), .ref (ad 12), .ref (ad 13), .ref (ad 14)])), (ad 9, aN cI 6 (σ.1 4)), (ad 10, aN cI 6 (σ.1 5)), (ad 11, aP cI 6 (σ.1 6)), (ad 12, aP cI 24 (σ.1 7)), (ad 13, aN cI 6 (σ.1 8)), (ad 14, aN cI 6 (σ.1 9))]
/-! What the class's methods do, as functions of the state -/
def cnt (P : Nat → Bool) : Nat → Nat
  | 0 => 0
  | n + 1 => cnt P n + (if P n = true then 1 else 0)
theorem cnt_le (P : Nat → Bool) : ∀ n, cnt P n ≤ n
  | 0 => Nat.le_refl 0
  | n + 1 => by
    have h := cnt_le P n
    unfold cnt
    split <;> omega
theorem cnt_t {P : Nat → Bool} {n : Nat} (h : P n = true) : cnt P (n + 1) = cnt P n + 1 := by simp [cnt, h]
theorem cnt_f {P : Nat → Bool} {n : Nat} (h : P n = false) : cnt P (n + 1) = cnt P n := by simp [cnt, h]
def m_setEntry (σ : kS) (g e v r : Nat) : kS := st (st σ 2 (g * 4 + e) v) 3 (g * 4 + e) r
def m_clearEntry (σ : kS) (g e : Nat) : kS := m_setEntry σ g e 0 0
def m_cell (σ : kS) (g c : Nat) : kS := sw (m_clearEntry σ g c) 0 (g * 4 + c) (nI 0)
def m_become (σ : kS) (g k o : Nat) : kS := m_cell (m_cell (m_cell (m_cell (st (st σ 0 g k) 1 g o) g 0) g 1) g 2) g 3
def m_begin (σ : kS) (p s q r : Nat) : kS := st (st (st (st (st (st (st σ 4 p s) 5 p q) 6 p r) 7 (p * 4 + 0) 0) 7 (p * 4 + 1) 0) 7 (p * 4 + 2) 0) 7 (p * 4 + 3) 0
def filled (σ : kS) (g : Nat) : Nat := cnt (fun e => σ.1 2 (g * 4 + e) != 0) 4
def owned (σ : kS) (o : Nat) : Nat := cnt (fun g => σ.1 1 g == o) 20
def inuse (σ : kS) (p : Nat) : Nat := cnt (fun d => σ.1 7 (p * 4 + d) != 0) 4
def cof (σ : kS) (i : Nat) : Nat := cnt (fun k => σ.1 7 k == i + 1) 24
def live (σ : kS) : Nat := cnt (fun i => i != 0 && σ.1 4 i != 0) 6
def mine (σ : kS) (p : Nat) : Bool := p == σ.1 11 0 || (σ.1 5 p == σ.1 11 0 && σ.1 4 p == 1) || (σ.1 5 p == σ.1 11 0 && σ.1 4 p == 5)
def mchild (σ : kS) (p s : Nat) : Bool := σ.1 5 p == σ.1 11 0 && σ.1 4 p == s
def mlive (σ : kS) (p : Nat) : Bool := σ.1 5 p == σ.1 11 0 && σ.1 4 p != 0 && σ.1 4 p != 5
def mpage (σ : kS) (g k : Nat) : Bool := σ.1 0 g == k && mine σ (σ.1 1 g)
/-- what is always so of the numbers that are places -/
def kOk (σ : kS) : Prop := (∀ g, g < 20 → σ.1 1 g < 6) ∧ (∀ i, i < 80 → σ.1 2 i < 21) ∧ (∀ i, i < 80 → σ.1 3 i < 4) ∧ (∀ p, p < 6 → σ.1 4 p < 6) ∧ (∀ p, p < 6 → σ.1 5 p < 6) ∧ (∀ p, p < 6 → σ.1 6 p < 21) ∧ (∀ i, i < 24 → σ.1 7 i < 4) ∧ (∀ p, p < 6 → σ.1 8 p < 20) ∧ (∀ p, p < 6 → σ.1 9 p < 4) ∧ (∀ i, i < 3 → σ.1 10 i < 5) ∧ (∀ g, g < 20 → σ.1 0 g < 4) ∧ (1 ≤ σ.1 11 0 ∧ σ.1 11 0 < 6) ∧ σ.1 4 (σ.1 11 0) = 3 ∧ (∀ p, p < 6 → σ.1 4 p ≠ 0 → σ.1 6 p ≠ 0)
theorem kOk.b1 {σ : kS} (ok : kOk σ) : ∀ i, i < 20 → σ.1 1 i < 2 ^ 30 := fun i hi => Nat.lt_of_lt_of_le (ok.1 i hi) (by decide)
theorem kOk.b2 {σ : kS} (ok : kOk σ) : ∀ i, i < 80 → σ.1 2 i < 2 ^ 30 := fun i hi => Nat.lt_of_lt_of_le (ok.2.1 i hi) (by decide)
theorem kOk.b4 {σ : kS} (ok : kOk σ) : ∀ i, i < 6 → σ.1 4 i < 2 ^ 30 := fun i hi => Nat.lt_of_lt_of_le (ok.2.2.2.1 i hi) (by decide)
theorem kOk.b5 {σ : kS} (ok : kOk σ) : ∀ i, i < 6 → σ.1 5 i < 2 ^ 30 := fun i hi => Nat.lt_of_lt_of_le (ok.2.2.2.2.1 i hi) (by decide)
theorem kOk.b7 {σ : kS} (ok : kOk σ) : ∀ i, i < 24 → σ.1 7 i < 2 ^ 30 := fun i hi => Nat.lt_of_lt_of_le (ok.2.2.2.2.2.2.1 i hi) (by decide)
theorem kOk.b10 {σ : kS} (ok : kOk σ) : ∀ i, i < 3 → σ.1 10 i < 2 ^ 30 := fun i hi => Nat.lt_of_lt_of_le (ok.2.2.2.2.2.2.2.2.2.1 i hi) (by decide)
theorem kOk.b0 {σ : kS} (ok : kOk σ) : ∀ i, i < 20 → σ.1 0 i < 2 ^ 30 := fun i hi => Nat.lt_of_lt_of_le (ok.2.2.2.2.2.2.2.2.2.2.1 i hi) (by decide)
