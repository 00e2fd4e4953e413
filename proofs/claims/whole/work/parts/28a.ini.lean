/-- what both begin with -/
def iniS : kS := m_begin (m_become (st zS 11 0 1) 0 1 1) 1 3 0 (0 + 1)
/-- the reference, then any rest -/
def wRr (ad : Nat → Nat) (cI : ClassId) (r : va_W) (τ : kS) : va_W :=
  (ad 17, .inr (nMod, [.int (τ.2 2 0), .ref (ad 18), .ref (ad 19), .ref (ad 20), .ref (ad 21), .ref (ad 22), .ref (ad 23), .ref (ad 24), .ref (ad 25), .ref (ad 26), .ref (ad 27), .ref (ad 28), .ref (ad 29), .int (nI (τ.1 11 0)), .int (τ.2 2 1)])) ::
   (ad 18, aN cI 6 (τ.1 4)) :: (ad 19, aN cI 6 (τ.1 5)) :: (ad 20, aP cI 6 (τ.1 6)) :: (ad 21, aP cI 24 (τ.1 7)) :: (ad 22, aN cI 6 (τ.1 8)) ::
   (ad 23, aN cI 20 (τ.1 0)) :: (ad 24, aN cI 20 (τ.1 1)) :: (ad 25, aP cI 80 (τ.1 2)) :: (ad 26, aN cI 80 (τ.1 3)) :: (ad 27, aI cI 80 (τ.2 0)) :: (ad 28, aI cI 12 (τ.2 1)) :: (ad 29, aN cI 3 (τ.1 10)) :: r
def modS : kS := (fun k _ => if k = 2 ∨ k = 6 ∨ k = 7 then 1 else 0, fun _ _ => 0)
/-- array k is emptied up to n -/
def fl (σ : kS) (k : Nat) : Nat → kS
  | 0 => σ
  | n + 1 => st (fl σ k n) k n 0
theorem fl_at (σ : kS) (k : Nat) : ∀ n, (fl σ k n).1 k = fun i => if i < n then 0 else σ.1 k i
  | 0 => by funext i; simp [fl]
  | n + 1 => by
    have ih := fl_at σ k n
    funext i
    have e : (fl σ k (n + 1)).1 k i = if i = n then 0 else (fl σ k n).1 k i := by simp [fl, st, va_up]
    rw [e, ih]
    by_cases h : i = n
    · subst h; simp
    · by_cases h2 : i < n
      · simp [h, h2]; omega
      · simp [h, h2]; omega
theorem fl_ne (σ : kS) {k j : Nat} (h : j ≠ k) : ∀ n, (fl σ k n).1 j = σ.1 j
  | 0 => rfl
  | n + 1 => by
    have ih := fl_ne σ h n
    have e : (fl σ k (n + 1)).1 j = (fl σ k n).1 j := by simp [fl, st, va_up, h]
    rw [e, ih]
theorem fl_2 (σ : kS) (k : Nat) : ∀ n, (fl σ k n).2 = σ.2
  | 0 => rfl
  | n + 1 => fl_2 σ k n
def lenK : Nat → Nat
  | 0 => 20
  | 1 => 20
  | 2 => 80
  | 3 => 80
  | 4 => 6
  | 5 => 6
  | 6 => 6
  | 7 => 24
  | 8 => 6
  | 10 => 3
  | 11 => 1
  | _ => 0
/-- the same as far as it is seen -/
def sameS (σ τ : kS) : Prop := σ.2 = τ.2 ∧ ∀ k i, i < lenK k → σ.1 k i = τ.1 k i
theorem wRr_ext {A : Nat → Prop} {D : va_G} {cl : List vw_C} {H : Heap} {ad : Nat → Nat} {cI : ClassId} {r : va_W} {σ τ : kS} (h : sameS σ τ) (hP : va_P D cl (wRr ad cI r σ) H) (hD : va_D A (wRr ad cI r σ)) : va_P D cl (wRr ad cI r τ) H ∧ va_D A (wRr ad cI r τ) := by
  obtain ⟨h2, h1⟩ := h
  have hN : ∀ k i, i < lenK k → cN (σ.1 k) i = cN (τ.1 k) i := fun k i hi => by show nI _ = nI _; rw [h1 k i hi]
  have hQ : ∀ k i, i < lenK k → cP (σ.1 k) i = cP (τ.1 k) i := fun k i hi => by show pI _ = pI _; rw [h1 k i hi]
  have h11 := h1 11 0 (by decide)
  unfold wRr at hP hD
  rw [h2, h11] at hP hD
  refine ⟨?_, ?_⟩
  · have hP := k_ext (q0 := 1) (g := cN (τ.1 4)) hP rfl (hN 4)
    have hP := k_ext (q0 := 2) (g := cN (τ.1 5)) hP rfl (hN 5)
    have hP := k_ext (q0 := 3) (g := cP (τ.1 6)) hP rfl (hQ 6)
    have hP := k_ext (q0 := 4) (g := cP (τ.1 7)) hP rfl (hQ 7)
    have hP := k_ext (q0 := 5) (g := cN (τ.1 8)) hP rfl (hN 8)
    have hP := k_ext (q0 := 6) (g := cN (τ.1 0)) hP rfl (hN 0)
    have hP := k_ext (q0 := 7) (g := cN (τ.1 1)) hP rfl (hN 1)
    have hP := k_ext (q0 := 8) (g := cP (τ.1 2)) hP rfl (hQ 2)
    have hP := k_ext (q0 := 9) (g := cN (τ.1 3)) hP rfl (hN 3)
    have hP := k_ext (q0 := 12) (g := cN (τ.1 10)) hP rfl (hN 10)
    exact hP
  · have hD := k_extD (q0 := 1) (e' := aN cI 6 (τ.1 4)) hD rfl
    have hD := k_extD (q0 := 2) (e' := aN cI 6 (τ.1 5)) hD rfl
    have hD := k_extD (q0 := 3) (e' := aP cI 6 (τ.1 6)) hD rfl
    have hD := k_extD (q0 := 4) (e' := aP cI 24 (τ.1 7)) hD rfl
    have hD := k_extD (q0 := 5) (e' := aN cI 6 (τ.1 8)) hD rfl
    have hD := k_extD (q0 := 6) (e' := aN cI 20 (τ.1 0)) hD rfl
    have hD := k_extD (q0 := 7) (e' := aN cI 20 (τ.1 1)) hD rfl
    have hD := k_extD (q0 := 8) (e' := aP cI 80 (τ.1 2)) hD rfl
    have hD := k_extD (q0 := 9) (e' := aN cI 80 (τ.1 3)) hD rfl
    have hD := k_extD (q0 := 12) (e' := aN cI 3 (τ.1 10)) hD rfl
    exact hD
theorem flX : ∃ X, X = fl (fl (fl (st modS 11 0 1) 2 80) 7 24) 6 6 ∧ X.2 = (fun _ _ => 0) ∧ ∀ k i, i < lenK k → X.1 k i = if k = 11 then 1 else 0 := by
  obtain ⟨B, eB⟩ : ∃ B, B = st modS 11 0 1 := ⟨_, rfl⟩
  rw [← eB]
  refine ⟨_, rfl, ?_, ?_⟩
  · rw [fl_2, fl_2, fl_2, eB]; rfl
  · intro k i hi
    by_cases h6 : k = 6
    · subst h6
      have hi : i < 6 := hi
      rw [fl_at]; simp [hi]
    by_cases h7 : k = 7
    · subst h7
      have hi : i < 24 := hi
      rw [fl_ne _ (by decide), fl_at]; simp [hi]
    by_cases h2 : k = 2
    · subst h2
      have hi : i < 80 := hi
      rw [fl_ne _ (by decide), fl_ne _ (by decide), fl_at]; simp [hi]
    rw [fl_ne _ h6, fl_ne _ h7, fl_ne _ h2, eB]
    by_cases h11 : k = 11
    · subst h11
      have hi : i < 1 := hi
      obtain rfl : i = 0 := by omega
      rfl
    · simp [st, va_up, h11, modS, h2, h6, h7]
theorem modS_fin : sameS (st (st (st (st (fl (fl (fl (st modS 11 0 1) 2 80) 7 24) 6 6) 4 1 3) 6 1 (0 + 1)) 0 0 1) 1 0 1) iniS := by
  obtain ⟨X, eX, hX2, hX⟩ := flX
  rw [← eX]
  clear eX
  constructor
  · show X.2 = _
    rw [hX2]
    funext k i
    by_cases h0 : k = 0
    · subst h0
      simp [iniS, zS, m_begin, m_become, m_cell, m_clearEntry, m_setEntry, st, sw, va_up]
      (repeat' split) <;> rfl
    · simp [iniS, zS, m_begin, m_become, m_cell, m_clearEntry, m_setEntry, st, sw, va_up, h0]
  · intro k i hi
    have e := hX k i hi
    by_cases h0 : k = 0
    · subst h0; simp [iniS, zS, m_begin, m_become, m_cell, m_clearEntry, m_setEntry, st, sw, va_up, e]
    by_cases h1 : k = 1
    · subst h1; simp [iniS, zS, m_begin, m_become, m_cell, m_clearEntry, m_setEntry, st, sw, va_up, e]
    by_cases h2 : k = 2
    · subst h2; simp [iniS, zS, m_begin, m_become, m_cell, m_clearEntry, m_setEntry, st, sw, va_up, e]
    by_cases h3 : k = 3
    · subst h3; simp [iniS, zS, m_begin, m_become, m_cell, m_clearEntry, m_setEntry, st, sw, va_up, e]
    by_cases h4 : k = 4
    · subst h4; simp [iniS, zS, m_begin, m_become, m_cell, m_clearEntry, m_setEntry, st, sw, va_up, e]
    by_cases h5 : k = 5
    · subst h5; simp [iniS, zS, m_begin, m_become, m_cell, m_clearEntry, m_setEntry, st, sw, va_up, e]
    by_cases h6 : k = 6
    · subst h6; simp [iniS, zS, m_begin, m_become, m_cell, m_clearEntry, m_setEntry, st, sw, va_up, e]
    by_cases h7 : k = 7
    · subst h7; simp [iniS, zS, m_begin, m_become, m_cell, m_clearEntry, m_setEntry, st, sw, va_up, e]
    by_cases h11 : k = 11
    · subst h11
      have hi : i < 1 := hi
      obtain rfl : i = 0 := by omega
      simp [iniS, zS, m_begin, m_become, m_cell, m_clearEntry, m_setEntry, st, sw, va_up, e]
    · simp [iniS, zS, m_begin, m_become, m_cell, m_clearEntry, m_setEntry, st, sw, va_up, e, h0, h1, h2, h3, h4, h5, h6, h7, h11]
theorem k_nest {own host : String} {i : Nat} {y : MethodName} {a0 args : Array Value} {s0 s : State} (hW : s0.WarmedH s.vm) (h : (Cond.methodLinkNest own i y host).before a0 s0 = true) : (Cond.methodLinkNest own i y host).before args s = true := by
  have h1 : (Cond.methodLinkNest own i y host).before a0 (s0.setVm s.vm) = true := Cond.methodLinkNest_warmed hW h
  have h2 : (Cond.methodLinkNest own i y host).before args (s.setVm s.vm) = (Cond.methodLinkNest own i y host).before a0 (s0.setVm s.vm) := Cond.onTables_vm _ _ rfl
  rw [State.setVm_self] at h2
  rw [h2]; exact h1
