/-! THE CLASS AND THE REFERENCE, as functions: what holds between their states, and that each call keeps it and is answered alike. -/
theorem st_at (σ : kS) (a j v : Nat) : (st σ a j v).1 a = va_up (σ.1 a) j v := by simp [st, va_up]
theorem st_ne (σ : kS) {a b : Nat} (j v : Nat) (h : b ≠ a) : (st σ a j v).1 b = σ.1 b := by simp [st, va_up, h]
theorem st_ai (σ : kS) (a j v i : Nat) : (st σ a j v).1 a i = if i = j then v else σ.1 a i := by simp [st, va_up]
theorem up_at {α : Type} (f : Nat → α) (j : Nat) (v : α) : va_up f j v j = v := by simp [va_up]
theorem up_ne {α : Type} (f : Nat → α) {i j : Nat} (v : α) (h : i ≠ j) : va_up f j v i = f i := by simp [va_up, h]
theorem up_i {α : Type} (f : Nat → α) (i j : Nat) (v : α) : va_up f j v i = if i = j then v else f i := rfl
theorem up_id {α : Type} (f : Nat → α) (j : Nat) : va_up f j (f j) = f := by
  funext i
  unfold va_up
  split
  · next h => rw [h]
  · rfl
theorem st_id (σ : kS) (a j : Nat) : st σ a j (σ.1 a j) = σ := by
  have h : va_up σ.1 a (va_up (σ.1 a) j (σ.1 a j)) = σ.1 := by rw [up_id, up_id]
  unfold st
  rw [h]
theorem sw_g (σ : kS) (a j : Nat) (v : Int32) : (sw σ a j v).2 a j = v := by simp [sw, va_up]
/-! ranges -/
def bndK : Nat → Nat
  | 0 => 4
  | 1 => 6
  | 2 => 21
  | 3 => 4
  | 4 => 6
  | 5 => 6
  | 6 => 21
  | 7 => 4
  | 8 => 20
  | 9 => 4
  | 10 => 5
  | _ => 6
def lenR : Nat → Nat
  | 0 => 20
  | 1 => 20
  | 2 => 80
  | 3 => 80
  | 4 => 6
  | 5 => 6
  | 6 => 6
  | 7 => 24
  | 8 => 6
  | 9 => 6
  | 10 => 3
  | 11 => 1
  | _ => 0
def kRng (σ : kS) : Prop := ∀ k i, i < lenR k → σ.1 k i < bndK k
theorem kRng_st {σ : kS} (h : kRng σ) (a j : Nat) {v : Nat} (hv : v < bndK a) : kRng (st σ a j v) := by
  intro k i hi
  by_cases hk : k = a
  · subst hk
    rw [st_ai]
    split
    · exact hv
    · exact h k i hi
  · rw [st_ne σ j v hk]; exact h k i hi
theorem kRng_sw {σ : kS} (h : kRng σ) (a j : Nat) (v : Int32) : kRng (sw σ a j v) := h
theorem kRng_set {σ : kS} (h : kRng σ) (g e : Nat) {v r : Nat} (hv : v < 21) (hr : r < 4) : kRng (m_setEntry σ g e v r) := kRng_st (kRng_st h 2 _ hv) 3 _ hr
theorem kRng_cell {σ : kS} (h : kRng σ) (g c : Nat) : kRng (m_cell σ g c) := kRng_set h g c (by decide) (by decide)
theorem kRng_become {σ : kS} (h : kRng σ) (g : Nat) {k o : Nat} (hk : k < 4) (ho : o < 6) : kRng (m_become σ g k o) := kRng_cell (kRng_cell (kRng_cell (kRng_cell (kRng_st (kRng_st h 0 g hk) 1 g ho) g 0) g 1) g 2) g 3
theorem kRng_begin {σ : kS} (h : kRng σ) (p : Nat) {s q r : Nat} (hs : s < 6) (hq : q < 6) (hr : r < 21) : kRng (m_begin σ p s q r) :=
  kRng_st (kRng_st (kRng_st (kRng_st (kRng_st (kRng_st (kRng_st h 4 p hs) 5 p hq) 6 p hr) 7 _ (by decide)) 7 _ (by decide)) 7 _ (by decide)) 7 _ (by decide)
theorem kRng_of {σ : kS} (ok : kOk σ) : kRng σ := by
  obtain ⟨o1, o2, o3, o4, o5, o6, o7, o8, o9, o10, o0, ⟨oc1, oc2⟩, oc3, or6⟩ := ok
  intro k i hi
  unfold lenR at hi
  unfold bndK
  split at hi
  · exact o0 i hi
  · exact o1 i hi
  · exact o2 i hi
  · exact o3 i hi
  · exact o4 i hi
  · exact o5 i hi
  · exact o6 i hi
  · exact o7 i hi
  · exact o8 i hi
  · exact o9 i hi
  · exact o10 i hi
  · obtain rfl : i = 0 := by omega
    exact oc2
  · omega
theorem kOk_of {σ : kS} (h : kRng σ) (h1 : 1 ≤ σ.1 11 0) (h3 : σ.1 4 (σ.1 11 0) = 3) (hr : ∀ p, p < 6 → σ.1 4 p ≠ 0 → σ.1 6 p ≠ 0) : kOk σ :=
  ⟨h 1, h 2, h 3, h 4, h 5, h 6, h 7, h 8, h 9, h 10, h 0, ⟨h1, h 11 0 (by decide)⟩, h3, hr⟩
/-! the invariant; w: the addresses that the waiting expect at -/
def kI1 (σ : kS) : Prop := ∀ g, g < 20 → (σ.1 0 g = 0 ↔ σ.1 1 g = 0)
def kI2 (σ : kS) : Prop := ∀ h e, h < 20 → e < 4 → σ.1 2 (h * 4 + e) ≠ 0 → (σ.1 0 h = 1 ∨ σ.1 0 h = 2) ∧ σ.1 0 (σ.1 2 (h * 4 + e) - 1) = σ.1 0 h + 1 ∧ σ.1 1 (σ.1 2 (h * 4 + e) - 1) = σ.1 1 h
def kI3 (σ : kS) : Prop := ∀ i j, i < 80 → j < 80 → σ.1 2 i ≠ 0 → σ.1 2 i = σ.1 2 j → i = j
def kI4 (σ : kS) : Prop := ∀ p, 1 ≤ p → p < 6 → σ.1 4 p ≠ 0 → σ.1 0 (σ.1 6 p - 1) = 1 ∧ σ.1 1 (σ.1 6 p - 1) = p
def kI5 (σ : kS) : Prop := ∀ p, p < 6 → σ.1 4 p = 0 → σ.1 5 p = 0 ∧ σ.1 6 p = 0 ∧ ∀ d, d < 4 → σ.1 7 (p * 4 + d) = 0
def kI7 (σ : kS) (w : Nat → Nat) : Prop := ∀ p, 1 ≤ p → p < 6 → σ.1 4 p = 4 → σ.1 2 ((σ.1 6 p - 1) * 4 + w p / 16) = σ.1 8 p + 1 ∧ σ.1 9 p = w p / 4 % 4 ∧ σ.1 2 (σ.1 8 p * 4 + σ.1 9 p) = 0
def kInv (σ : kS) (w : Nat → Nat) : Prop := kI1 σ ∧ kI2 σ ∧ kI3 σ ∧ kI4 σ ∧ kI5 σ ∧ σ.1 4 0 = 0 ∧ kI7 σ w
def kEq (σ τ : kS) : Prop := (∀ k, k < 12 → k ≠ 3 → k ≠ 8 → k ≠ 9 → τ.1 k = σ.1 k) ∧ τ.2 0 = σ.2 0 ∧ τ.2 1 = σ.2 1 ∧ (∀ i, i < 80 → σ.1 2 i ≠ 0 → τ.1 3 i = σ.1 3 i) ∧ (∀ i, i < 80 → τ.1 3 i < 4) ∧ (∀ p, p < 6 → τ.1 8 p < 64)
def kRel (σ τ : kS) : Prop := kOk σ ∧ kEq σ τ ∧ kInv σ (τ.1 8)
/-- thrown and wrong don't matter -/
theorem kRel_t {σ τ : kS} (h : kRel σ τ) (j : Nat) (v : Int32) : kRel σ (sw τ 2 j v) := h
/-- the reference's own rooms -/
theorem kOr_of {σ τ : kS} (h : kRel σ τ) : kOr τ := by
  obtain ⟨ok, ⟨e1, -, -, -, e4, e5⟩, -⟩ := h
  obtain ⟨o1, o2, o3, o4, o5, o6, o7, o8, o9, o10, o0, oc, oc3, or6⟩ := ok
  have k0 := e1 0 (by decide) (by decide) (by decide) (by decide)
  have k1 := e1 1 (by decide) (by decide) (by decide) (by decide)
  have k2 := e1 2 (by decide) (by decide) (by decide) (by decide)
  have k4 := e1 4 (by decide) (by decide) (by decide) (by decide)
  have k5 := e1 5 (by decide) (by decide) (by decide) (by decide)
  have k6 := e1 6 (by decide) (by decide) (by decide) (by decide)
  have k7 := e1 7 (by decide) (by decide) (by decide) (by decide)
  have k10 := e1 10 (by decide) (by decide) (by decide) (by decide)
  have k11 := e1 11 (by decide) (by decide) (by decide) (by decide)
  unfold kOr
  rw [k0, k1, k2, k4, k5, k6, k7, k10, k11]
  exact ⟨o1, o2, e4, o4, o5, o6, o7, e5, o10, o0, oc, oc3, or6⟩
/-- what a call leaves: cs: the exceptions in the order of their codes -/
def kAg (cs : List String) (σ : kS) (r : kX) (z : Option Value × kS) : Prop := match r with
  | .ok (some (.int v), u) => z.1 = some (.int v) ∧ z.2.2 2 0 = nI 0 ∧ kRel u z.2
  | .ok _ => False
  | .error E => (∃ b, z.1 = some (.int b)) ∧ z.2.2 2 0 = nI (kCo E cs 1) ∧ kCo E cs 1 ≠ 0 ∧ kRel σ z.2
theorem kAg_e {cs : List String} {σ τ : kS} {E : String} {c : Nat} (h : kRel σ τ) (hc : kCo E cs 1 = c) (h0 : c ≠ 0) : kAg cs σ (.error E) (fin τ (.error c)) := by
  subst hc
  exact ⟨⟨_, rfl⟩, sw_g _ _ _ _, h0, kRel_t h _ _⟩
theorem kAg_in {cs : List String} {σ τ : kS} {x : Int32} {lo hi : Nat} {k : Nat → kX} {k' : Nat → kF} (h : kRel σ τ) (hc : kCo eIA cs 1 = 1) (hk : ∀ p, rg x lo hi = some p → lo ≤ p → p ≤ hi → kAg cs σ (k p) (fin τ (k' p))) : kAg cs σ (inr x lo hi k) (fin τ (inn x lo hi k')) := by
  unfold inr inn
  cases hq : rg x lo hi with
  | none => exact kAg_e h hc (by decide)
  | some p => exact hk p hq (rg_some hq).2.1 (rg_some hq).2.2.1
theorem kAg_rq {cs : List String} {σ τ : kS} {b b' : Bool} {E : String} {c : Nat} {k : kX} {k' : kF} (h : kRel σ τ) (hb : b' = b) (hc : kCo E cs 1 = c) (h0 : c ≠ 0) (hk : b = true → kAg cs σ k (fin τ k')) : kAg cs σ (req b E k) (fin τ (rqn b' c k')) := by
  subst hb
  cases b'
  · exact kAg_e h hc h0
  · exact hk rfl
theorem kAg_ok {cs : List String} {σ τ u τ' : kS} {v : Int32} (h0 : τ'.2 2 0 = nI 0) (h : kRel u τ') : kAg cs σ (.ok (some (.int v), u)) (fin τ (.ok (some (.int v), τ'))) := ⟨rfl, h0, h⟩
theorem kRel.e {σ τ : kS} (h : kRel σ τ) (k : Nat) (h3 : k ≠ 3 := by decide) (h8 : k ≠ 8 := by decide) (h9 : k ≠ 9 := by decide) (hk : k < 12 := by decide) : τ.1 k = σ.1 k := h.2.1.1 k hk h3 h8 h9
theorem kEq_st {σ τ : kS} {a : Nat} (h : kEq σ τ) (j v : Nat) (ha : a ≠ 2 ∧ a ≠ 3 ∧ a ≠ 8 ∧ a ≠ 9) : kEq (st σ a j v) (st τ a j v) := by
  obtain ⟨h1, h2, h3, h4, h5, h6⟩ := h
  refine ⟨fun k a0 a1 a2 a3 => ?_, h2, h3, ?_, ?_, ?_⟩
  · by_cases hk : k = a
    · subst hk
      rw [st_at, st_at, h1 k a0 a1 a2 a3]
    · rw [st_ne _ _ _ hk, st_ne _ _ _ hk, h1 k a0 a1 a2 a3]
  · rw [st_ne _ _ _ (Ne.symm ha.1), st_ne _ _ _ (Ne.symm ha.2.1), st_ne _ _ _ (Ne.symm ha.2.1)]; exact h4
  · rw [st_ne _ _ _ (Ne.symm ha.2.1)]; exact h5
  · rw [st_ne _ _ _ (Ne.symm ha.2.2.1)]; exact h6
theorem kInv_q {σ σ' : kS} {w w' : Nat → Nat} (h : kInv σ w) (e0 : σ'.1 0 = σ.1 0) (e1 : σ'.1 1 = σ.1 1) (e2 : σ'.1 2 = σ.1 2) (e5 : σ'.1 5 = σ.1 5) (e6 : σ'.1 6 = σ.1 6) (e7 : σ'.1 7 = σ.1 7) (hz : ∀ q, q < 6 → (σ'.1 4 q = 0 ↔ σ.1 4 q = 0)) (h7 : kI7 σ' w') : kInv σ' w' := by
  obtain ⟨i1, i2, i3, i4, i5, i6, -⟩ := h
  refine ⟨?_, ?_, ?_, ?_, ?_, (hz 0 (by decide)).mpr i6, h7⟩
  · unfold kI1; rw [e0, e1]; exact i1
  · unfold kI2; rw [e0, e1, e2]; exact i2
  · unfold kI3; rw [e2]; exact i3
  · intro p h1 h2 h3
    rw [e0, e1, e6]
    exact i4 p h1 h2 (fun h9 => h3 ((hz p h2).mpr h9))
  · intro p h1 h2
    rw [e5, e6, e7]
    exact i5 p h1 ((hz p h1).mp h2)
/-- a process that isn't the caller changes its state: not from FREE, not to FREE or WAITING -/
theorem kRel_s {σ τ : kS} (h : kRel σ τ) {p v : Nat} (h1 : 1 ≤ p) (h2 : p < 6) (hp : σ.1 4 p ≠ 0) (hv : v ≠ 0) (hv4 : v ≠ 4) (hv6 : v < 6) (hc : p ≠ σ.1 11 0) : kRel (st σ 4 p v) (st τ 4 p v) := by
  obtain ⟨ok, he, hi⟩ := h
  have ok' := ok
  obtain ⟨o1, o2, o3, o4, o5, o6, o7, o8, o9, o10, o0, ⟨oc1, oc2⟩, oc3, or6⟩ := ok'
  refine ⟨kOk_of (kRng_st (kRng_of ok) 4 p hv6) oc1 ?_ ?_, kEq_st he p v (by decide), ?_⟩
  · show (st σ 4 p v).1 4 (σ.1 11 0) = 3
    rw [st_ai, if_neg (Ne.symm hc)]; exact oc3
  · intro q hq
    rw [st_ai]
    intro h9
    by_cases hqp : q = p
    · subst hqp; exact or6 q hq hp
    · rw [if_neg hqp] at h9; exact or6 q hq h9
  · refine kInv_q hi rfl rfl rfl rfl rfl rfl (fun q hq => ?_) (fun q a1 a2 a3 => ?_)
    · rw [st_ai]
      by_cases hqp : q = p
      · subst hqp; simp [hv, hp]
      · rw [if_neg hqp]
    · rw [st_ai] at a3
      by_cases hqp : q = p
      · rw [if_pos hqp] at a3; exact absurd a3 hv4
      · rw [if_neg hqp] at a3; exact hi.2.2.2.2.2.2 q a1 a2 a3
/-- the caller hands over to a ready process: its own state becomes l -/
theorem kRel_h {σ τ : kS} (h : kRel σ τ) {p l : Nat} (h1 : 1 ≤ p) (h2 : p < 6) (hp : σ.1 4 p = 2) (hv : l ≠ 0) (hv4 : l ≠ 4) (hv6 : l < 6) : kRel (st (st (st σ 4 (σ.1 11 0) l) 4 p 3) 11 0 p) (st (st (st τ 4 (σ.1 11 0) l) 4 p 3) 11 0 p) := by
  obtain ⟨ok, he, hi⟩ := h
  have ok' := ok
  obtain ⟨o1, o2, o3, o4, o5, o6, o7, o8, o9, o10, o0, ⟨oc1, oc2⟩, oc3, or6⟩ := ok'
  have hc : p ≠ σ.1 11 0 := fun h9 => by rw [← h9] at oc3; omega
  have e4 : ∀ q, (st (st (st σ 4 (σ.1 11 0) l) 4 p 3) 11 0 p).1 4 q = if q = p then 3 else if q = σ.1 11 0 then l else σ.1 4 q := by
    intro q
    rw [st_ne _ _ _ (by decide), st_ai, st_ai]
  have e11 : (st (st (st σ 4 (σ.1 11 0) l) 4 p 3) 11 0 p).1 11 0 = p := by rw [st_ai, if_pos rfl]
  have ez : ∀ q, q < 6 → ((st (st (st σ 4 (σ.1 11 0) l) 4 p 3) 11 0 p).1 4 q = 0 ↔ σ.1 4 q = 0) := by
    intro q hq
    rw [e4]
    by_cases hqp : q = p
    · subst hqp; simp [hp]
    · rw [if_neg hqp]
      by_cases hqc : q = σ.1 11 0
      · rw [if_pos hqc, hqc, oc3]; simp [hv]
      · rw [if_neg hqc]
  refine ⟨kOk_of (kRng_st (kRng_st (kRng_st (kRng_of ok) 4 _ hv6) 4 p (by decide)) 11 0 h2) (by rw [e11]; exact h1) (by rw [e11, e4, if_pos rfl]) (fun q hq h9 => or6 q hq (fun h8 => h9 ((ez q hq).mpr h8))), kEq_st (kEq_st (kEq_st he _ l (by decide)) p 3 (by decide)) 0 p (by decide), ?_⟩
  refine kInv_q hi rfl rfl rfl rfl rfl rfl ez (fun q a1 a2 a3 => ?_)
  rw [e4] at a3
  by_cases hqp : q = p
  · rw [if_pos hqp] at a3; omega
  · rw [if_neg hqp] at a3
    by_cases hqc : q = σ.1 11 0
    · rw [if_pos hqc] at a3; exact absurd a3 hv4
    · rw [if_neg hqc] at a3; exact hi.2.2.2.2.2.2 q a1 a2 a3
theorem ag_start {σ τ : kS} (h : kRel σ τ) (h0 : τ.2 2 0 = nI 0) (x : Int32) : kAg [eIA, eIS] σ (sp_start σ x) (fin τ (rs_start τ x)) := by
  unfold sp_start rs_start
  rw [h.e 4, h.e 5, h.e 11]
  refine kAg_in h (by decide) fun p hp h1 h2 => ?_
  refine kAg_rq h (by simp [mchild, Bool.and_comm]) (by decide) (by decide) fun hb => ?_
  simp only [mchild, Bool.and_eq_true, beq_iff_eq] at hb
  refine kAg_ok h0 (kRel_s h h1 (by omega) (by omega) (by decide) (by decide) (by decide) ?_)
  intro h9
  have oc3 := h.1.2.2.2.2.2.2.2.2.2.2.2.2.1
  rw [← h9] at oc3
  omega
theorem ag_give {σ τ : kS} (h : kRel σ τ) (h0 : τ.2 2 0 = nI 0) (x : Int32) : kAg [eIA, eIS] σ (sp_give σ x) (fin τ (rs_give τ x)) := by
  unfold sp_give rs_give r_hand
  rw [h.e 4, h.e 11]
  refine kAg_in h (by decide) fun p hp h1 h2 => ?_
  refine kAg_rq h rfl (by decide) (by decide) fun hb => ?_
  simp only [beq_iff_eq] at hb
  exact kAg_ok h0 (kRel_h h h1 (by omega) hb (by decide) (by decide) (by decide))
theorem nxr_rnx (σ : kS) {p : Nat} (h : 1 ≤ p) : rnx σ p = nxr σ p := by
  unfold rnx nxr
  rw [show p - 1 + 1 = p + 0 by omega, show p - 1 + 2 = p + 1 by omega, show p - 1 + 3 = p + 2 by omega, show p - 1 + 4 = p + 3 by omega, show p - 1 + 5 = p + 4 by omega]
theorem nxr_st (σ : kS) (p : Nat) (h : nxr σ p ≠ 0) : 1 ≤ nxr σ p ∧ σ.1 4 (nxr σ p) = 2 := by
  revert h
  unfold nxr
  repeat' split
  all_goals first | (intro _; exact ⟨by omega, by assumption⟩) | (intro h; exact absurd rfl h)
