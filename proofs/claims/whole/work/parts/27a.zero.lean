/-! States while memory and processes are being made -/
def zS : kS := (fun _ _ => 0, fun _ _ => 0)
def entS (n : Nat) : kS := (fun k i => if k = 2 then (if i < 4 * n then 0 else 1) else 0, fun _ _ => 0)
def begS (n : Nat) : kS := (fun k i => if k = 6 then (if i < n then 0 else 1) else if k = 7 then (if i < 4 * n then 0 else 1) else 0, fun _ _ => 0)
theorem entS_2 {i : Nat} (h : i < 80) : (entS 20).1 2 i = 0 := by simp [entS]; omega
theorem begS_6 {i : Nat} (h : i < 6) : (begS 6).1 6 i = 0 := by simp [begS]; omega
theorem begS_7 {i : Nat} (h : i < 24) : (begS 6).1 7 i = 0 := by simp [begS]; omega
theorem entS_step (n : Nat) : m_become (entS n) n 0 0 = entS (n + 1) := by
  apply Prod.ext
  · funext k i
    by_cases h0 : k = 0
    · subst h0; simp [m_become, m_cell, m_clearEntry, m_setEntry, st, sw, va_up, entS]
    by_cases h1 : k = 1
    · subst h1; simp [m_become, m_cell, m_clearEntry, m_setEntry, st, sw, va_up, entS]
    by_cases h2 : k = 2
    · subst h2
      simp [m_become, m_cell, m_clearEntry, m_setEntry, st, sw, va_up, entS]
      (repeat' split) <;> omega
    by_cases h3 : k = 3
    · subst h3; simp [m_become, m_cell, m_clearEntry, m_setEntry, st, sw, va_up, entS]
    · simp [m_become, m_cell, m_clearEntry, m_setEntry, st, sw, va_up, entS, h0, h1, h2, h3]
  · funext k i
    by_cases h0 : k = 0
    · subst h0
      simp [m_become, m_cell, m_clearEntry, m_setEntry, st, sw, va_up, entS]
      (repeat' split) <;> rfl
    · simp [m_become, m_cell, m_clearEntry, m_setEntry, st, sw, va_up, entS, h0]
theorem begS_step (n : Nat) : m_begin (begS n) n 0 0 0 = begS (n + 1) := by
  apply Prod.ext
  · funext k i
    by_cases h4 : k = 4
    · subst h4; simp [m_begin, st, va_up, begS]
    by_cases h5 : k = 5
    · subst h5; simp [m_begin, st, va_up, begS]
    by_cases h6 : k = 6
    · subst h6
      simp [m_begin, st, va_up, begS]
      (repeat' split) <;> omega
    by_cases h7 : k = 7
    · subst h7
      simp [m_begin, st, va_up, begS]
      (repeat' split) <;> omega
    · simp [m_begin, st, va_up, begS, h4, h5, h6, h7]
  · rfl
