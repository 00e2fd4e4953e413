/-! WHERE BOTH BEGIN; what the law needs of an answer -/
theorem ini_0 : iniS.1 0 = fun i => if i = 0 then 1 else 0 := by
  funext i
  simp [iniS, zS, m_begin, m_become, m_cell, m_clearEntry, m_setEntry, st, sw, va_up]
theorem ini_1 : iniS.1 1 = fun i => if i = 0 then 1 else 0 := by
  funext i
  simp [iniS, zS, m_begin, m_become, m_cell, m_clearEntry, m_setEntry, st, sw, va_up]
theorem ini_2 : iniS.1 2 = fun _ => 0 := by
  funext i
  simp [iniS, zS, m_begin, m_become, m_cell, m_clearEntry, m_setEntry, st, sw, va_up]
theorem ini_3 : iniS.1 3 = fun _ => 0 := by
  funext i
  simp [iniS, zS, m_begin, m_become, m_cell, m_clearEntry, m_setEntry, st, sw, va_up]
theorem ini_4 : iniS.1 4 = fun i => if i = 1 then 3 else 0 := by
  funext i
  simp [iniS, zS, m_begin, m_become, m_cell, m_clearEntry, m_setEntry, st, sw, va_up]
theorem ini_5 : iniS.1 5 = fun _ => 0 := by
  funext i
  simp [iniS, zS, m_begin, m_become, m_cell, m_clearEntry, m_setEntry, st, sw, va_up]
theorem ini_6 : iniS.1 6 = fun i => if i = 1 then 1 else 0 := by
  funext i
  simp [iniS, zS, m_begin, m_become, m_cell, m_clearEntry, m_setEntry, st, sw, va_up]
theorem ini_7 : iniS.1 7 = fun _ => 0 := by
  funext i
  simp [iniS, zS, m_begin, m_become, m_cell, m_clearEntry, m_setEntry, st, sw, va_up]
theorem ini_8 : iniS.1 8 = fun _ => 0 := by
  funext i
  simp [iniS, zS, m_begin, m_become, m_cell, m_clearEntry, m_setEntry, st, sw, va_up]
theorem ini_9 : iniS.1 9 = fun _ => 0 := by
  funext i
  simp [iniS, zS, m_begin, m_become, m_cell, m_clearEntry, m_setEntry, st, sw, va_up]
theorem ini_10 : iniS.1 10 = fun _ => 0 := by
  funext i
  simp [iniS, zS, m_begin, m_become, m_cell, m_clearEntry, m_setEntry, st, sw, va_up]
theorem ini_11 : iniS.1 11 = fun i => if i = 0 then 1 else 0 := by
  funext i
  simp [iniS, zS, m_begin, m_become, m_cell, m_clearEntry, m_setEntry, st, sw, va_up]
theorem ini_rel : kRel iniS iniS := by
  refine ⟨?_, ⟨fun _ _ _ _ _ => rfl, rfl, rfl, fun _ _ _ => rfl, ?_, ?_⟩, ?_, ?_, ?_, ?_, ?_, ?_, ?_⟩
  · unfold kOk
    rw [ini_0, ini_1, ini_2, ini_3, ini_4, ini_5, ini_6, ini_7, ini_8, ini_9, ini_10, ini_11]
    refine ⟨?_, ?_, ?_, ?_, ?_, ?_, ?_, ?_, ?_, ?_, ?_, ?_, ?_, ?_⟩
    · intro g _; dsimp only; split <;> decide
    · intro g _; show (0 : Nat) < 21; decide
    · intro g _; show (0 : Nat) < 4; decide
    · intro g _; dsimp only; split <;> decide
    · intro g _; show (0 : Nat) < 6; decide
    · intro g _; dsimp only; split <;> decide
    · intro g _; show (0 : Nat) < 4; decide
    · intro g _; show (0 : Nat) < 20; decide
    · intro g _; show (0 : Nat) < 4; decide
    · intro g _; show (0 : Nat) < 5; decide
    · intro g _; dsimp only; split <;> decide
    · decide
    · decide
    · intro p _
      dsimp only
      by_cases h1 : p = 1
      · simp [h1]
      · simp [h1]
  · rw [ini_3]; intro i _; show (0 : Nat) < 4; decide
  · rw [ini_8]; intro i _; show (0 : Nat) < 64; decide
  · intro g _; rw [ini_0, ini_1]
  · intro h e _ _ h9
    rw [ini_2] at h9
    exact absurd rfl h9
  · intro i j _ _ h9
    rw [ini_2] at h9
    exact absurd rfl h9
  · intro p _ _ h9
    rw [ini_4] at h9
    have h1 : p = 1 := by
      apply Classical.byContradiction
      intro h8
      exact h9 (by simp [h8])
    subst h1
    rw [ini_0, ini_1, ini_6]
    decide
  · intro p _ h9
    rw [ini_4] at h9
    have h1 : p ≠ 1 := by
      intro h8
      subst h8
      exact absurd h9 (by decide)
    rw [ini_5, ini_6, ini_7]
    exact ⟨rfl, by simp [h1], fun _ _ => rfl⟩
  · exact congrFun ini_4 0
  · intro p _ _ h9
    rw [ini_4] at h9
    by_cases h1 : p = 1
    · subst h1; exact absurd h9 (by decide)
    · simp [h1] at h9
/-- whom a page is handed to: the awaited address has a table -/
theorem kRel_to {σ τ : kS} (h : kRel σ τ) : ∀ q, q < 6 → τ.1 4 q = 4 → rfe τ q (τ.1 8 q) ≠ 0 := by
  intro q hq h4
  rw [h.e 4] at h4
  have h0 := h.2.2.2.2.2.2.2.1
  have h7 := h.2.2.2.2.2.2.2.2
  have h1 : 1 ≤ q := by
    rcases Nat.eq_zero_or_pos q with h9 | h9
    · rw [h9, h0] at h4; exact absurd h4 (by decide)
    · exact h9
  have e := (h7 q h1 hq h4).1
  unfold rfe
  rw [h.e 2, h.e 6, e, if_neg (show ¬ σ.1 8 q + 1 = 0 by omega)]
  omega
theorem kCo_le (E : String) : ∀ (cs : List String) (n : Nat), kCo E cs n ≤ n + cs.length
  | [], n => Nat.zero_le _
  | F :: r, n => by
    unfold kCo
    split
    · exact Nat.le_add_right _ _
    · have h := kCo_le E r (n + 1)
      rw [List.length_cons]
      omega
/-- an answer and the reference's, in one form -/
theorem kAg_all {cs : List String} {σ : kS} {r : kX} {z1 : Option Value} {τ' : kS} (oo : Int64) (hcs : cs.length < 9) (h : kAg cs σ r (z1, τ')) :
    ∃ (kd : Nat) (v : Int32) (u : kS) (o2 : Int64), lwr cs r σ oo = (some (.int (nI kd)), (u, o2)) ∧ z1 = some (.int v) ∧ τ'.2 2 0 = nI kd ∧ kRel u τ' ∧ (nI kd = 0 → o2 = v.toInt64) := by
  rcases r with E | ⟨v0, u⟩
  · obtain ⟨⟨b, h1⟩, h2, h3, h4⟩ := h
    have h9 := kCo_le E cs 1
    exact ⟨kCo E cs 1, b, σ, oo, rfl, h1, h2, h4, fun h8 => absurd h8 (nI_ne0 (Nat.pos_of_ne_zero h3) (by omega))⟩
  · cases v0 with
    | none => exact False.elim h
    | some v0 =>
      cases v0 with
      | int v => exact ⟨0, v, u, v.toInt64, rfl, h.1, h.2.1, h.2.2, fun _ => rfl⟩
      | _ => exact False.elim h
