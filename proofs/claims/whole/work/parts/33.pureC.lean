/-! Calls that change pages. -/
theorem bec_0 (σ : kS) (g k o x : Nat) : (m_become σ g k o).1 0 x = if x = g then k else σ.1 0 x := rfl
theorem bec_1 (σ : kS) (g k o x : Nat) : (m_become σ g k o).1 1 x = if x = g then o else σ.1 1 x := rfl
theorem up4 {α : Type} (f : Nat → α) (g : Nat) (v : α) (i : Nat) : va_up (va_up (va_up (va_up f (g * 4 + 0) v) (g * 4 + 1) v) (g * 4 + 2) v) (g * 4 + 3) v i = if i / 4 = g then v else f i := by
  simp only [va_up]
  by_cases h : i / 4 = g
  · rw [if_pos h]
    by_cases h3 : i = g * 4 + 3
    · rw [if_pos h3]
    · rw [if_neg h3]
      by_cases h2 : i = g * 4 + 2
      · rw [if_pos h2]
      · rw [if_neg h2]
        by_cases h1 : i = g * 4 + 1
        · rw [if_pos h1]
        · rw [if_neg h1, if_pos (by omega)]
  · rw [if_neg h, if_neg (by omega), if_neg (by omega), if_neg (by omega), if_neg (by omega)]
theorem bec_2 (σ : kS) (g k o i : Nat) : (m_become σ g k o).1 2 i = if i / 4 = g then 0 else σ.1 2 i := up4 (σ.1 2) g 0 i
theorem bec_3 (σ : kS) (g k o i : Nat) : (m_become σ g k o).1 3 i = if i / 4 = g then 0 else σ.1 3 i := up4 (σ.1 3) g 0 i
theorem beg_4 (σ : kS) (p s q r x : Nat) : (m_begin σ p s q r).1 4 x = if x = p then s else σ.1 4 x := rfl
theorem beg_5 (σ : kS) (p s q r x : Nat) : (m_begin σ p s q r).1 5 x = if x = p then q else σ.1 5 x := rfl
theorem beg_6 (σ : kS) (p s q r x : Nat) : (m_begin σ p s q r).1 6 x = if x = p then r else σ.1 6 x := rfl
theorem beg_7 (σ : kS) (p s q r i : Nat) : (m_begin σ p s q r).1 7 i = if i / 4 = p then 0 else σ.1 7 i := up4 (σ.1 7) p 0 i
theorem kEq_become {σ τ : kS} (h : kEq σ τ) (g k o : Nat) : kEq (m_become σ g k o) (m_become τ g k o) := by
  obtain ⟨q1, q2, q3, q4, q5, q6⟩ := h
  have e : ∀ k, k < 12 → k ≠ 3 → k ≠ 8 → k ≠ 9 → τ.1 k = σ.1 k := q1
  refine kEq_mk (congrArg (fun f => va_up f g k) (e 0 (by decide) (by decide) (by decide) (by decide))) (congrArg (fun f => va_up f g o) (e 1 (by decide) (by decide) (by decide) (by decide))) (congrArg (fun f => va_up (va_up (va_up (va_up f (g * 4 + 0) 0) (g * 4 + 1) 0) (g * 4 + 2) 0) (g * 4 + 3) 0) (e 2 (by decide) (by decide) (by decide) (by decide))) (e 4 (by decide) (by decide) (by decide) (by decide)) (e 5 (by decide) (by decide) (by decide) (by decide)) (e 6 (by decide) (by decide) (by decide) (by decide)) (e 7 (by decide) (by decide) (by decide) (by decide)) (e 10 (by decide) (by decide) (by decide) (by decide)) (e 11 (by decide) (by decide) (by decide) (by decide))
    (congrArg (fun f => va_up (va_up (va_up (va_up f (g * 4 + 0) (nI 0)) (g * 4 + 1) (nI 0)) (g * 4 + 2) (nI 0)) (g * 4 + 3) (nI 0)) q2) q3 ?_ ?_ q6
  · intro i hi hne
    rw [bec_2] at hne
    rw [bec_3, bec_3]
    by_cases h9 : i / 4 = g
    · rw [if_pos h9] at hne; exact absurd rfl hne
    · rw [if_neg h9] at hne; rw [if_neg h9, if_neg h9]; exact q4 i hi hne
  · intro i hi
    rw [bec_3]
    split
    · decide
    · exact q5 i hi
theorem kEq_set {σ τ : kS} (h : kEq σ τ) (i v : Nat) {r : Nat} (hr : r < 4) : kEq (st (st σ 2 i v) 3 i r) (st (st τ 2 i v) 3 i r) := by
  obtain ⟨q1, q2, q3, q4, q5, q6⟩ := h
  refine ⟨fun k a0 a1 a2 a3 => ?_, q2, q3, fun j hj hne => ?_, fun j hj => ?_, q6⟩
  · rw [st_ne _ _ _ a1, st_ne _ _ _ a1]
    by_cases hk : k = 2
    · subst hk; rw [st_at, st_at, q1 2 a0 a1 a2 a3]
    · rw [st_ne _ _ _ hk, st_ne _ _ _ hk]; exact q1 k a0 a1 a2 a3
  · rw [st_ne _ _ _ (by decide), st_ai] at hne
    rw [st_ai, st_ai, st_ne _ _ _ (by decide), st_ne _ _ _ (by decide)]
    by_cases h9 : j = i
    · rw [if_pos h9, if_pos h9]
    · rw [if_neg h9] at hne; rw [if_neg h9, if_neg h9]; exact q4 j hj hne
  · rw [st_ai, st_ne _ _ _ (by decide)]
    split
    · exact hr
    · exact q5 j hj
theorem ag_spawn {σ τ : kS} (h : kRel σ τ) (h0 : τ.2 2 0 = nI 0) (x y : Int32) : kAg [eIA, eIS] σ (sp_spawn σ x y) (fin τ (rs_spawn τ x y)) := by
  unfold sp_spawn rs_spawn
  rw [h.e 4, h.e 0, h.e 11]
  refine kAg_in h (by decide) fun p hp h1 h2 => kAg_in h (by decide) fun g hg h3 h4 => ?_
  cases hs : (σ.1 4 p == 0) with
  | false => exact kAg_e h (by decide) (by decide)
  | true =>
    show kAg _ σ (req (σ.1 0 g == 0) eIS _) (fin τ (rqn (true && (σ.1 0 g == 0)) 2 _))
    refine kAg_rq h (by simp) (by decide) (by decide) fun hk => ?_
    have hs : σ.1 4 p = 0 := by simpa using hs
    have hk : σ.1 0 g = 0 := by simpa using hk
    obtain ⟨ok, he, hi⟩ := h
    obtain ⟨o1, o2, o3, o4, o5, o6, o7, o8, o9, o10, o0, ⟨oc1, oc2⟩, oc3, or6⟩ := id ok
    obtain ⟨i1, i2, i3, i4, i5, i6, i7⟩ := hi
    have hb := kEq_become he g 1 p
    have hne : σ.1 11 0 ≠ p := fun h9 => by rw [h9] at oc3; omega
    have p5 := i5 p (by omega) hs
    have hroot : ∀ q, 1 ≤ q → q < 6 → σ.1 4 q ≠ 0 → σ.1 6 q - 1 ≠ g := fun q a1 a2 a3 h9 => by
      have := (i4 q a1 a2 a3).1
      rw [h9] at this; omega
    have hpage : ∀ a e, a < 20 → e < 4 → σ.1 2 (a * 4 + e) ≠ 0 → σ.1 2 (a * 4 + e) - 1 ≠ g := fun a e a1 a2 a3 h9 => by
      have := (i2 a e a1 a2 a3).2.1
      rw [h9] at this; omega
    refine kAg_ok h0 ⟨kOk_of (kRng_begin (kRng_become (kRng_of ok) g (by decide) (by omega)) p (by decide) oc2 (by omega)) oc1 ?_ ?_, ?_, ?_, ?_, ?_, ?_, ?_, ?_, ?_⟩
    · show (m_begin (m_become σ g 1 p) p 1 (σ.1 11 0) (g + 1)).1 4 (σ.1 11 0) = 3
      rw [beg_4, if_neg hne]; exact oc3
    · intro q hq
      rw [beg_4, beg_6]
      intro h9
      by_cases hqp : q = p
      · rw [if_pos hqp]; omega
      · rw [if_neg hqp] at h9; rw [if_neg hqp]; exact or6 q hq h9
    · refine kEq_mk (hb.1 0 (by decide) (by decide) (by decide) (by decide)) (hb.1 1 (by decide) (by decide) (by decide) (by decide)) (hb.1 2 (by decide) (by decide) (by decide) (by decide)) (congrArg (fun f => va_up f p 1) (he.1 4 (by decide) (by decide) (by decide) (by decide))) (congrArg (fun f => va_up f p (σ.1 11 0)) (he.1 5 (by decide) (by decide) (by decide) (by decide))) (congrArg (fun f => va_up f p (g + 1)) (he.1 6 (by decide) (by decide) (by decide) (by decide))) ?_ (he.1 10 (by decide) (by decide) (by decide) (by decide)) (he.1 11 (by decide) (by decide) (by decide) (by decide)) hb.2.1 hb.2.2.1 hb.2.2.2.1 hb.2.2.2.2.1 hb.2.2.2.2.2
      funext i
      rw [beg_7]
      show τ.1 7 i = if i / 4 = p then 0 else σ.1 7 i
      rw [he.1 7 (by decide) (by decide) (by decide) (by decide)]
      by_cases h9 : i / 4 = p
      · rw [if_pos h9]
        have := p5.2.2 (i % 4) (by omega)
        rw [show i = p * 4 + i % 4 by omega]; exact this
      · rw [if_neg h9]
    · intro a ha
      show (m_become σ g 1 p).1 0 a = 0 ↔ (m_become σ g 1 p).1 1 a = 0
      rw [bec_0, bec_1]
      by_cases h9 : a = g
      · rw [if_pos h9, if_pos h9]; omega
      · rw [if_neg h9, if_neg h9]; exact i1 a ha
    · intro a e ha hae
      show (m_become σ g 1 p).1 2 (a * 4 + e) ≠ 0 → ((m_become σ g 1 p).1 0 a = 1 ∨ (m_become σ g 1 p).1 0 a = 2) ∧ (m_become σ g 1 p).1 0 ((m_become σ g 1 p).1 2 (a * 4 + e) - 1) = (m_become σ g 1 p).1 0 a + 1 ∧ (m_become σ g 1 p).1 1 ((m_become σ g 1 p).1 2 (a * 4 + e) - 1) = (m_become σ g 1 p).1 1 a
      rw [bec_2]
      intro hne2
      by_cases h9 : (a * 4 + e) / 4 = g
      · rw [if_pos h9] at hne2; exact absurd rfl hne2
      · rw [if_neg h9] at hne2
        have hag : a ≠ g := by omega
        rw [if_neg h9, bec_0, bec_0, bec_1, bec_1, if_neg hag, if_neg hag, if_neg (hpage a e ha hae hne2), if_neg (hpage a e ha hae hne2)]
        exact i2 a e ha hae hne2
    · intro i j hi' hj'
      show (m_become σ g 1 p).1 2 i ≠ 0 → (m_become σ g 1 p).1 2 i = (m_become σ g 1 p).1 2 j → i = j
      rw [bec_2, bec_2]
      intro a1 a2
      by_cases h9 : i / 4 = g
      · rw [if_pos h9] at a1; exact absurd rfl a1
      · rw [if_neg h9] at a1 a2
        by_cases h8 : j / 4 = g
        · rw [if_pos h8] at a2; exact absurd a2 a1
        · rw [if_neg h8] at a2; exact i3 i j hi' hj' a1 a2
    · intro q a1 a2 a3
      rw [beg_4] at a3
      rw [beg_6]
      show (m_become σ g 1 p).1 0 _ = 1 ∧ (m_become σ g 1 p).1 1 _ = q
      rw [bec_0, bec_1]
      by_cases hqp : q = p
      · rw [if_pos hqp, if_pos (by omega), if_pos (by omega)]; exact ⟨rfl, hqp.symm⟩
      · rw [if_neg hqp] at a3
        have a3 : σ.1 4 q ≠ 0 := a3
        rw [if_neg hqp]
        show (if σ.1 6 q - 1 = g then 1 else σ.1 0 (σ.1 6 q - 1)) = 1 ∧ (if σ.1 6 q - 1 = g then p else σ.1 1 (σ.1 6 q - 1)) = q
        rw [if_neg (hroot q a1 a2 a3), if_neg (hroot q a1 a2 a3)]; exact i4 q a1 a2 a3
    · intro q a1 a2
      rw [beg_4] at a2
      by_cases hqp : q = p
      · rw [if_pos hqp] at a2; omega
      · rw [if_neg hqp] at a2
        obtain ⟨b1, b2, b3⟩ := i5 q a1 a2
        rw [beg_5, beg_6, if_neg hqp, if_neg hqp]
        refine ⟨b1, b2, fun d hd => ?_⟩
        rw [beg_7, if_neg (by omega)]; exact b3 d hd
    · rw [beg_4, if_neg (by omega)]; exact i6
    · intro q a1 a2 a3
      rw [beg_4] at a3
      by_cases hqp : q = p
      · rw [if_pos hqp] at a3; omega
      · rw [if_neg hqp] at a3
        have a3 : σ.1 4 q = 4 := a3
        obtain ⟨b1, b2, b3⟩ := i7 q a1 a2 a3
        have hw := he.2.2.2.2.2 q a2
        have hrq := hroot q a1 a2 (by omega)
        rw [beg_6, if_neg hqp]
        show (m_become σ g 1 p).1 2 ((σ.1 6 q - 1) * 4 + τ.1 8 q / 16) = σ.1 8 q + 1 ∧ σ.1 9 q = τ.1 8 q / 4 % 4 ∧ (m_become σ g 1 p).1 2 (σ.1 8 q * 4 + σ.1 9 q) = 0
        rw [bec_2, bec_2, if_neg (by omega)]
        refine ⟨b1, b2, ?_⟩
        split
        · rfl
        · exact b3
theorem ag_fill {σ τ : kS} (h : kRel σ τ) (h0 : τ.2 2 0 = nI 0) {hk : Nat} (hhk : hk = 1 ∨ hk = 2) (x y z w : Int32) : kAg [eIA, eUO, eIS] σ (sp_fill hk σ x y z w) (fin τ (rs_hang (hk + 1) τ x y z w)) := by
  unfold sp_fill rs_hang
  rw [h.e 0, h.e 1, h.e 2]
  refine kAg_in h (by decide) fun a ha h1 h2 => kAg_in h (by decide) fun en he h3 h4 => kAg_in h (by decide) fun g hg h5 h6 => kAg_in h (by decide) fun rr hr h7 h8 => ?_
  refine kAg_rq h (by rw [rpage_c h]; rfl) (by decide) (by decide) fun hm => ?_
  cases hs : (σ.1 0 g == 0) with
  | false => exact kAg_e h (by decide) (by decide)
  | true =>
    show kAg _ σ (req (σ.1 2 (a * 4 + en) == 0) eIS _) (fin τ (rqn (true && (σ.1 2 (a * 4 + en) == 0)) 3 _))
    refine kAg_rq h (by simp) (by decide) (by decide) fun hz => ?_
    have hs : σ.1 0 g = 0 := by simpa using hs
    have hz : σ.1 2 (a * 4 + en) = 0 := by simpa using hz
    simp only [mpage, Bool.and_eq_true, beq_iff_eq] at hm
    obtain ⟨hka, hmi⟩ := hm
    have hmn := (mine_ne h hmi).2
    obtain ⟨ok, heq, hi⟩ := h
    obtain ⟨o1, o2, o3, o4, o5, o6, o7, o8, o9, o10, o0, ⟨oc1, oc2⟩, oc3, or6⟩ := id ok
    obtain ⟨i1, i2, i3, i4, i5, i6, i7⟩ := hi
    have hag : a ≠ g := fun h9 => by rw [h9] at hka; omega
    have hoa : σ.1 1 a ≠ 0 := fun h9 => by have := (i1 a (by omega)).mpr h9; omega
    have hroot : ∀ q, 1 ≤ q → q < 6 → σ.1 4 q ≠ 0 → σ.1 6 q - 1 ≠ g := fun q a1 a2 a3 h9 => by
      have := (i4 q a1 a2 a3).1
      rw [h9] at this; omega
    have hpage : ∀ b e, b < 20 → e < 4 → σ.1 2 (b * 4 + e) ≠ 0 → σ.1 2 (b * 4 + e) - 1 ≠ g := fun b e a1 a2 a3 h9 => by
      have := (i2 b e a1 a2 a3).2.1
      rw [h9] at this; omega
    have E2 : ∀ i, (m_setEntry (m_become σ g (hk + 1) (σ.1 1 a)) a en (g + 1) rr).1 2 i = if i = a * 4 + en then g + 1 else if i / 4 = g then 0 else σ.1 2 i := fun i => by
      unfold m_setEntry
      rw [st_ne _ _ _ (by decide), st_ai, bec_2]
    have hb := kEq_set (kEq_become heq g (hk + 1) (σ.1 1 a)) (a * 4 + en) (g + 1) (r := rr) (by omega)
    refine kAg_ok h0 ⟨kOk_of (kRng_set (kRng_become (kRng_of ok) g (by omega) (o1 a (by omega))) a en (by omega) (by omega)) oc1 oc3 or6, hb, ?_, ?_, ?_, ?_, i5, i6, ?_⟩
    · intro b hb'
      show (m_become σ g (hk + 1) (σ.1 1 a)).1 0 b = 0 ↔ (m_become σ g (hk + 1) (σ.1 1 a)).1 1 b = 0
      rw [bec_0, bec_1]
      by_cases h9 : b = g
      · rw [if_pos h9, if_pos h9]; omega
      · rw [if_neg h9, if_neg h9]; exact i1 b hb'
    · intro b e hb' hbe
      show (m_setEntry (m_become σ g (hk + 1) (σ.1 1 a)) a en (g + 1) rr).1 2 (b * 4 + e) ≠ 0 → ((m_become σ g (hk + 1) (σ.1 1 a)).1 0 b = 1 ∨ (m_become σ g (hk + 1) (σ.1 1 a)).1 0 b = 2) ∧ (m_become σ g (hk + 1) (σ.1 1 a)).1 0 ((m_setEntry (m_become σ g (hk + 1) (σ.1 1 a)) a en (g + 1) rr).1 2 (b * 4 + e) - 1) = (m_become σ g (hk + 1) (σ.1 1 a)).1 0 b + 1 ∧ (m_become σ g (hk + 1) (σ.1 1 a)).1 1 ((m_setEntry (m_become σ g (hk + 1) (σ.1 1 a)) a en (g + 1) rr).1 2 (b * 4 + e) - 1) = (m_become σ g (hk + 1) (σ.1 1 a)).1 1 b
      rw [E2]
      by_cases h10 : b * 4 + e = a * 4 + en
      · have hba : b = a := by omega
        rw [if_pos h10, hba]
        intro _
        rw [show g + 1 - 1 = g by omega, bec_0, bec_0, bec_1, bec_1, if_neg hag, if_neg hag, if_pos rfl, if_pos rfl]
        omega
      · rw [if_neg h10]
        intro hne2
        by_cases h9 : (b * 4 + e) / 4 = g
        · rw [if_pos h9] at hne2; exact absurd rfl hne2
        · rw [if_neg h9] at hne2
          have hbg : b ≠ g := by omega
          rw [if_neg h9, bec_0, bec_0, bec_1, bec_1, if_neg hbg, if_neg hbg, if_neg (hpage b e hb' hbe hne2), if_neg (hpage b e hb' hbe hne2)]
          exact i2 b e hb' hbe hne2
    · intro i j hi' hj'
      rw [E2, E2]
      have hnog : ∀ i, i < 80 → σ.1 2 i ≠ g + 1 := fun i hi9 h9 => by
        have := hpage (i / 4) (i % 4) (by omega) (by omega) (by rw [show i / 4 * 4 + i % 4 = i by omega]; omega)
        rw [show i / 4 * 4 + i % 4 = i by omega] at this
        omega
      intro a1 a2
      by_cases h10 : i = a * 4 + en
      · rw [if_pos h10] at a2
        by_cases h11 : j = a * 4 + en
        · omega
        · rw [if_neg h11] at a2
          by_cases h8 : j / 4 = g
          · rw [if_pos h8] at a2; omega
          · rw [if_neg h8] at a2; exact absurd a2.symm (hnog j hj')
      · rw [if_neg h10] at a1 a2
        by_cases h9 : i / 4 = g
        · rw [if_pos h9] at a1; exact absurd rfl a1
        · rw [if_neg h9] at a1 a2
          by_cases h11 : j = a * 4 + en
          · rw [if_pos h11] at a2; exact absurd a2 (hnog i hi')
          · rw [if_neg h11] at a2
            by_cases h8 : j / 4 = g
            · rw [if_pos h8] at a2; exact absurd a2 a1
            · rw [if_neg h8] at a2; exact i3 i j hi' hj' a1 a2
    · intro q a1 a2 a3
      show (m_become σ g (hk + 1) (σ.1 1 a)).1 0 (σ.1 6 q - 1) = 1 ∧ (m_become σ g (hk + 1) (σ.1 1 a)).1 1 (σ.1 6 q - 1) = q
      rw [bec_0, bec_1, if_neg (hroot q a1 a2 a3), if_neg (hroot q a1 a2 a3)]; exact i4 q a1 a2 a3
    · intro q a1 a2 a3
      have a3 : σ.1 4 q = 4 := a3
      obtain ⟨b1, b2, b3⟩ := i7 q a1 a2 a3
      have hw := heq.2.2.2.2.2 q a2
      have hrq := hroot q a1 a2 (by omega)
      obtain ⟨c1, c2⟩ := i4 q a1 a2 (by omega)
      have hr21 := o6 q a2
      have hnq : σ.1 1 a ≠ q := fun h9 => hmn (by rw [h9]; exact a3)
      have hra : σ.1 6 q - 1 ≠ a := fun h9 => by rw [h9] at c2; exact hnq c2
      have haw := (i2 (σ.1 6 q - 1) (τ.1 8 q / 16) (by omega) (by omega) (by rw [b1]; omega)).2.2
      rw [b1, show σ.1 8 q + 1 - 1 = σ.1 8 q by omega, c2] at haw
      have hta : σ.1 8 q ≠ a := fun h9 => by rw [h9] at haw; exact hnq haw
      have o9q := o9 q a2
      show (m_setEntry (m_become σ g (hk + 1) (σ.1 1 a)) a en (g + 1) rr).1 2 ((σ.1 6 q - 1) * 4 + τ.1 8 q / 16) = σ.1 8 q + 1 ∧ σ.1 9 q = τ.1 8 q / 4 % 4 ∧ (m_setEntry (m_become σ g (hk + 1) (σ.1 1 a)) a en (g + 1) rr).1 2 (σ.1 8 q * 4 + σ.1 9 q) = 0
      rw [E2, E2, if_neg (by omega), if_neg (by omega), if_neg (by omega)]
      refine ⟨b1, b2, ?_⟩
      split
      · rfl
      · exact b3
