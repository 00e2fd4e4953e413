/-! Calls that give back pages, and sending. -/
theorem cnt_0 {P : Nat → Bool} : ∀ {n : Nat}, (∀ i, i < n → P i = false) → cnt P n = 0
  | 0, _ => rfl
  | n + 1, h => by
    unfold cnt
    rw [cnt_0 (fun i hi => h i (by omega)), h n (by omega)]
    simp
theorem cnt_z {P : Nat → Bool} : ∀ {n : Nat}, cnt P n = 0 → ∀ i, i < n → P i = false
  | 0, _, i, hi => by omega
  | n + 1, h, i, hi => by
    unfold cnt at h
    by_cases hin : i = n
    · subst hin
      cases hP : P i
      · rfl
      · rw [hP] at h; simp at h
    · exact cnt_z (n := n) (by omega) i (by omega)
theorem filled_0 {σ : kS} (i2 : kI2 σ) {x : Nat} (hx : x < 20) (h1 : σ.1 0 x ≠ 1) (h2 : σ.1 0 x ≠ 2) : filled σ x = 0 := by
  refine cnt_0 fun e he => ?_
  by_cases h9 : σ.1 2 (x * 4 + e) = 0
  · simp [h9]
  · have := (i2 x e hx he h9).1
    omega
theorem mhold_s {σ : kS} {g : Nat} (h : mhold σ g = true) : (σ.1 0 g = 1 ∨ σ.1 0 g = 2) ∧ mine σ (σ.1 1 g) = true := by
  simp only [mhold, mpage, Bool.or_eq_true, Bool.and_eq_true, beq_iff_eq] at h
  rcases h with h | h
  · exact ⟨Or.inl h.1, h.2⟩
  · exact ⟨Or.inr h.1, h.2⟩
theorem ag_release {σ τ : kS} (h : kRel σ τ) (h0 : τ.2 2 0 = nI 0) (x y : Int32) : kAg [eIA, eUO, eNS, eIS] σ (sp_release σ x y) (fin τ (rs_release τ x y)) := by
  unfold sp_release rs_release
  rw [h.e 2, h.e 0]
  refine kAg_in h (by decide) fun g hg h1 h2 => kAg_in h (by decide) fun en he h3 h4 => ?_
  refine kAg_rq h (rhold_c h g) (by decide) (by decide) fun hm => ?_
  refine kAg_rq h rfl (by decide) (by decide) fun hn => ?_
  have hn : σ.1 2 (g * 4 + en) ≠ 0 := by simpa using hn
  obtain ⟨hkg, hmi⟩ := mhold_s hm
  have hmn := (mine_ne h hmi).2
  have e1 : filled τ (σ.1 2 (g * 4 + en) - 1) = filled σ (σ.1 2 (g * 4 + en) - 1) := by unfold filled; rw [h.e 2]
  have ok := h.1
  have heq := h.2.1
  obtain ⟨o1, o2, o3, o4, o5, o6, o7, o8, o9, o10, o0, ⟨oc1, oc2⟩, oc3, or6⟩ := id ok
  obtain ⟨i1, i2, i3, i4, i5, i6, i7⟩ := h.2.2
  have hE := o2 (g * 4 + en) (by omega)
  obtain ⟨k1, k2, k3⟩ := i2 g en (by omega) (by omega) hn
  obtain ⟨v, hv⟩ : ∃ v, v = σ.1 2 (g * 4 + en) - 1 := ⟨_, rfl⟩
  have hEv : σ.1 2 (g * 4 + en) = v + 1 := by omega
  rw [← hv] at k2 k3 e1 ⊢
  rw [e1]
  refine kAg_rq h ?_ (by decide) (by decide) fun hfl => ?_
  · by_cases h9 : σ.1 0 v = 2
    · rw [h9]
      by_cases hz : filled σ v = 0
      · rw [hz]; rfl
      · rw [bne_iff_ne.mpr hz, beq_false_of_ne hz]; rfl
    · rw [filled_0 i2 (by omega) (by omega) h9]; simp
  have hgv : g ≠ v := fun h9 => by rw [← h9] at k2; omega
  have E2 : ∀ i, (m_become (m_clearEntry σ g en) v 0 0).1 2 i = if i / 4 = v then 0 else if i = g * 4 + en then 0 else σ.1 2 i := fun i => by
    rw [bec_2]
    unfold m_clearEntry m_setEntry
    rw [st_ne _ _ _ (by decide), st_ai]
  have hroot : ∀ q, 1 ≤ q → q < 6 → σ.1 4 q ≠ 0 → σ.1 6 q - 1 ≠ v := fun q a1 a2 a3 h9 => by
    have := (i4 q a1 a2 a3).1
    rw [h9] at this; omega
  refine kAg_ok h0 ⟨kOk_of (kRng_become (kRng_set (kRng_of ok) g en (by decide) (by decide)) v (by decide) (by decide)) oc1 oc3 or6, ?_, ?_, ?_, ?_, ?_, i5, i6, ?_⟩
  · have hb := kEq_become heq v 0 0
    refine kEq_mk (hb.1 0 (by decide) (by decide) (by decide) (by decide)) (hb.1 1 (by decide) (by decide) (by decide) (by decide)) ?_ (heq.1 4 (by decide) (by decide) (by decide) (by decide)) (heq.1 5 (by decide) (by decide) (by decide) (by decide)) (heq.1 6 (by decide) (by decide) (by decide) (by decide)) (heq.1 7 (by decide) (by decide) (by decide) (by decide)) (heq.1 10 (by decide) (by decide) (by decide) (by decide)) (heq.1 11 (by decide) (by decide) (by decide) (by decide)) hb.2.1 hb.2.2.1 ?_ hb.2.2.2.2.1 hb.2.2.2.2.2
    · funext i
      rw [E2, st_ai, bec_2, h.e 2]
      by_cases h9 : i / 4 = v
      · rw [if_pos h9, if_pos h9]; split <;> rfl
      · rw [if_neg h9, if_neg h9]
    · intro i hi hne
      rw [E2] at hne
      by_cases h9 : i / 4 = v
      · rw [if_pos h9] at hne; exact absurd rfl hne
      · rw [if_neg h9] at hne
        by_cases h8 : i = g * 4 + en
        · rw [if_pos h8] at hne; exact absurd rfl hne
        · rw [if_neg h8] at hne
          rw [st_ne _ _ _ (by decide), bec_3, bec_3, if_neg h9, if_neg h9]
          unfold m_clearEntry m_setEntry
          rw [st_ai, if_neg h8, st_ne _ _ _ (by decide)]
          exact heq.2.2.2.1 i hi hne
  · intro b hb'
    show (if b = v then 0 else σ.1 0 b) = 0 ↔ (if b = v then 0 else σ.1 1 b) = 0
    by_cases h9 : b = v
    · rw [if_pos h9, if_pos h9]
    · rw [if_neg h9, if_neg h9]; exact i1 b hb'
  · intro b e hb' hbe hne
    rw [E2] at hne
    rw [E2]
    by_cases h9 : (b * 4 + e) / 4 = v
    · rw [if_pos h9] at hne; exact absurd rfl hne
    · rw [if_neg h9] at hne
      by_cases h8 : b * 4 + e = g * 4 + en
      · rw [if_pos h8] at hne; exact absurd rfl hne
      · rw [if_neg h8] at hne
        rw [if_neg h9, if_neg h8]
        have hbv : b ≠ v := by omega
        have hpv : σ.1 2 (b * 4 + e) - 1 ≠ v := fun h7 => h8 (i3 _ _ (by omega) (by omega) hne (by omega))
        show ((if b = v then 0 else σ.1 0 b) = 1 ∨ (if b = v then 0 else σ.1 0 b) = 2) ∧ (if σ.1 2 (b * 4 + e) - 1 = v then 0 else σ.1 0 (σ.1 2 (b * 4 + e) - 1)) = (if b = v then 0 else σ.1 0 b) + 1 ∧ (if σ.1 2 (b * 4 + e) - 1 = v then 0 else σ.1 1 (σ.1 2 (b * 4 + e) - 1)) = (if b = v then 0 else σ.1 1 b)
        rw [if_neg hbv, if_neg hbv, if_neg hpv, if_neg hpv]
        exact i2 b e hb' hbe hne
  · intro i j hi' hj' a1 a2
    rw [E2] at a1
    rw [E2, E2] at a2
    by_cases h9 : i / 4 = v
    · rw [if_pos h9] at a1; exact absurd rfl a1
    · rw [if_neg h9] at a1 a2
      by_cases h8 : i = g * 4 + en
      · rw [if_pos h8] at a1; exact absurd rfl a1
      · rw [if_neg h8] at a1 a2
        by_cases h7 : j / 4 = v
        · rw [if_pos h7] at a2; exact absurd a2 a1
        · rw [if_neg h7] at a2
          by_cases h6 : j = g * 4 + en
          · rw [if_pos h6] at a2; exact absurd a2 a1
          · rw [if_neg h6] at a2; exact i3 i j hi' hj' a1 a2
  · intro q a1 a2 a3
    have a3 : σ.1 4 q ≠ 0 := a3
    show (if σ.1 6 q - 1 = v then 0 else σ.1 0 (σ.1 6 q - 1)) = 1 ∧ (if σ.1 6 q - 1 = v then 0 else σ.1 1 (σ.1 6 q - 1)) = q
    rw [if_neg (hroot q a1 a2 a3), if_neg (hroot q a1 a2 a3)]; exact i4 q a1 a2 a3
  · intro q a1 a2 a3
    have a3 : σ.1 4 q = 4 := a3
    obtain ⟨b1, b2, b3⟩ := i7 q a1 a2 a3
    have hw := heq.2.2.2.2.2 q a2
    have hrq := hroot q a1 a2 (by omega)
    obtain ⟨c1, c2⟩ := i4 q a1 a2 (by omega)
    have hr21 := o6 q a2
    have hnq : σ.1 1 g ≠ q := fun h9 => hmn (by rw [h9]; exact a3)
    have hra : σ.1 6 q - 1 ≠ g := fun h9 => by rw [h9] at c2; exact hnq c2
    show (m_become (m_clearEntry σ g en) v 0 0).1 2 ((σ.1 6 q - 1) * 4 + τ.1 8 q / 16) = σ.1 8 q + 1 ∧ σ.1 9 q = τ.1 8 q / 4 % 4 ∧ (m_become (m_clearEntry σ g en) v 0 0).1 2 (σ.1 8 q * 4 + σ.1 9 q) = 0
    rw [E2, E2, if_neg (by omega), if_neg (by omega)]
    refine ⟨b1, b2, ?_⟩
    split
    · rfl
    · split
      · rfl
      · exact b3
theorem ag_send {σ τ : kS} (h : kRel σ τ) (h0 : τ.2 2 0 = nI 0) (x y : Int32) : kAg [eIA, eIS, eNS] σ (sp_send σ x y) (fin τ (rs_send τ x y)) := by
  unfold sp_send rs_send
  have h11 := h.e 11
  rw [h.e 4, h11, h.e 2]
  refine kAg_in h (by decide) fun p hp h1 h2 => kAg_in h (by decide) fun a ha h3 h4 => ?_
  refine kAg_rq h rfl (by decide) (by decide) fun hs => ?_
  have hs : σ.1 4 p = 4 := by simpa using hs
  rw [rfe_c h]
  by_cases ht : tb σ a = 0
  · rw [if_pos ht, req_f (by simp [ht])]
    exact kAg_e h (by decide) (by decide)
  rw [req_t (by simp [ht]), if_neg ht, show fe σ a + 1 - 1 = fe σ a by omega]
  refine kAg_rq h (by show ((fe σ a + 1 != 0) && (fr σ a != 0)) = (fr σ a != 0); simp) (by decide) (by decide) fun hf => ?_
  have hf : fr σ a ≠ 0 := by simpa using hf
  have ok := h.1
  have heq := h.2.1
  obtain ⟨o1, o2, o3, o4, o5, o6, o7, o8, o9, o10, o0, ⟨oc1, oc2⟩, oc3, or6⟩ := id ok
  obtain ⟨i1, i2, i3, i4, i5, i6, i7⟩ := h.2.2
  have hpc : σ.1 11 0 ≠ p := fun h9 => by rw [h9] at oc3; omega
  obtain ⟨w1, w2, w3⟩ := i7 p h1 (by omega) hs
  have hw := heq.2.2.2.2.2 p (by omega)
  have hfl := fe_lt ok a (by omega)
  have htl := ok.tbl a (by omega)
  have hfr := ok.frl a (by omega) ht
  -- where it goes
  have eto : rfe τ p (τ.1 8 p) - 1 = σ.1 8 p * 4 + σ.1 9 p := by
    unfold rfe
    rw [h.e 2, h.e 6, w1, if_neg (by omega), w2]
    omega
  rw [eto]
  have hR : τ.1 3 (fe σ a) = σ.1 3 (fe σ a) := heq.2.2.2.1 _ hfl hf
  rw [hR]
  -- the caller's root and table, the receiver's
  have hc4 : σ.1 4 (σ.1 11 0) ≠ 0 := by omega
  obtain ⟨c1, c2⟩ := i4 _ oc1 oc2 hc4
  obtain ⟨d1, d2⟩ := i4 p h1 (by omega) (by omega)
  have hcr := o6 _ oc2
  have hpr := o6 p (by omega)
  have htb := i2 (σ.1 6 (σ.1 11 0) - 1) (a / 16) (by omega) (by omega) (show σ.1 2 _ ≠ 0 from ht)
  have htb2 : σ.1 0 (tb σ a - 1) = 2 ∧ σ.1 1 (tb σ a - 1) = σ.1 11 0 := by
    refine ⟨?_, ?_⟩
    · have := htb.2.1; rw [c1] at this; exact this
    · have := htb.2.2; rw [c2] at this; exact this
  have hfr2 := i2 (tb σ a - 1) (a / 4 % 4) (by omega) (by omega) (show σ.1 2 _ ≠ 0 from hf)
  have hfr3 : σ.1 0 (fr σ a - 1) = 3 ∧ σ.1 1 (fr σ a - 1) = σ.1 11 0 := by
    refine ⟨?_, ?_⟩
    · have := hfr2.2.1; rw [htb2.1] at this; exact this
    · have := hfr2.2.2; rw [htb2.2] at this; exact this
  have haw := i2 (σ.1 6 p - 1) (τ.1 8 p / 16) (by omega) (by omega) (by rw [w1]; omega)
  rw [w1, show σ.1 8 p + 1 - 1 = σ.1 8 p by omega, d1, d2] at haw
  have o8p := o8 p (by omega)
  have o9p := o9 p (by omega)
  obtain ⟨f, hf0⟩ : ∃ f, f = fr σ a := ⟨_, rfl⟩
  obtain ⟨ei, hei⟩ : ∃ ei, ei = fe σ a := ⟨_, rfl⟩
  obtain ⟨ti, hti⟩ : ∃ ti, ti = σ.1 8 p * 4 + σ.1 9 p := ⟨_, rfl⟩
  have hEe : σ.1 2 ei = f := by rw [hei, hf0]; rfl
  have hEt : σ.1 2 ti = 0 := by rw [hti]; exact w3
  have hne : ei ≠ ti := fun h9 => by rw [h9, hEt] at hEe; rw [← hEe] at hf0; exact hf hf0.symm
  have hei4 : ei / 4 = tb σ a - 1 := by rw [hei]; unfold fe; omega
  have hti4 : ti / 4 = σ.1 8 p := by omega
  have hfe' : (tb σ a - 1) * 4 + a / 4 % 4 = ei := by rw [hei]; rfl
  rw [show σ.1 2 (fe σ a) = f from hf0.symm, ← hf0, ← hti, ← hei]
  rw [← hf0] at hf hfr hfr3
  rw [← hei] at hfl hR
  have htil : ti < 80 := by omega
  -- the class's state
  have S2 : ∀ i, (st (st (m_setEntry (m_clearEntry σ (tb σ a - 1) (a / 4 % 4)) (σ.1 8 p) (σ.1 9 p) f (σ.1 3 ei)) 1 (f - 1) p) 4 p 2).1 2 i = if i = ti then f else if i = ei then 0 else σ.1 2 i := fun i => by
    unfold m_clearEntry m_setEntry
    rw [st_ne _ _ _ (by decide), st_ne _ _ _ (by decide), st_ne _ _ _ (by decide), st_ai, st_ne _ _ _ (by decide), st_ai, hfe', ← hti]
  have S3 : ∀ i, (st (st (m_setEntry (m_clearEntry σ (tb σ a - 1) (a / 4 % 4)) (σ.1 8 p) (σ.1 9 p) f (σ.1 3 ei)) 1 (f - 1) p) 4 p 2).1 3 i = if i = ti then σ.1 3 ei else if i = ei then 0 else σ.1 3 i := fun i => by
    unfold m_clearEntry m_setEntry
    rw [st_ne _ _ _ (by decide), st_ne _ _ _ (by decide), st_ai, st_ne _ _ _ (by decide), st_ai, st_ne _ _ _ (by decide), hfe', ← hti]
  have S1 : ∀ g, (st (st (m_setEntry (m_clearEntry σ (tb σ a - 1) (a / 4 % 4)) (σ.1 8 p) (σ.1 9 p) f (σ.1 3 ei)) 1 (f - 1) p) 4 p 2).1 1 g = if g = f - 1 then p else σ.1 1 g := fun g => by
    unfold m_clearEntry m_setEntry
    rw [st_ne _ _ _ (by decide), st_ai]
    rfl
  have S4 : ∀ q, (st (st (m_setEntry (m_clearEntry σ (tb σ a - 1) (a / 4 % 4)) (σ.1 8 p) (σ.1 9 p) f (σ.1 3 ei)) 1 (f - 1) p) 4 p 2).1 4 q = if q = p then 2 else σ.1 4 q := fun q => by
    rw [st_ai]
    rfl
  generalize hSS : st (st (m_setEntry (m_clearEntry σ (tb σ a - 1) (a / 4 % 4)) (σ.1 8 p) (σ.1 9 p) f (σ.1 3 ei)) 1 (f - 1) p) 4 p 2 = S at S1 S2 S3 S4
  have Sk : ∀ k, k ≠ 1 → k ≠ 2 → k ≠ 3 → k ≠ 4 → S.1 k = σ.1 k := fun k a1 a2 a3 a4 => by
    rw [← hSS]
    unfold m_clearEntry m_setEntry
    rw [st_ne _ _ _ a4, st_ne _ _ _ a1, st_ne _ _ _ a3, st_ne _ _ _ a2, st_ne _ _ _ a3, st_ne _ _ _ a2]
  have hS2 : S.2 = σ.2 := by rw [← hSS]; rfl
  have hRS : kRng S := by
    rw [← hSS]
    exact kRng_st (kRng_st (kRng_set (kRng_set (kRng_of ok) _ _ (by decide) (by decide)) _ _ hfr (o3 _ hfl)) 1 _ (by show _ < 6; omega)) 4 p (by decide)
  have hz : ∀ q, q < 6 → (S.1 4 q = 0 ↔ σ.1 4 q = 0) := fun q hq => by
    rw [S4]
    by_cases h9 : q = p
    · rw [if_pos h9, h9, hs]; decide
    · rw [if_neg h9]
  have s0 := Sk 0 (by decide) (by decide) (by decide) (by decide)
  have s5 := Sk 5 (by decide) (by decide) (by decide) (by decide)
  have s6 := Sk 6 (by decide) (by decide) (by decide) (by decide)
  have s7 := Sk 7 (by decide) (by decide) (by decide) (by decide)
  have s8 := Sk 8 (by decide) (by decide) (by decide) (by decide)
  have s9 := Sk 9 (by decide) (by decide) (by decide) (by decide)
  have s11 := Sk 11 (by decide) (by decide) (by decide) (by decide)
  -- no page of kind 1 or 2 is the frame
  have hnf : ∀ g, σ.1 0 g ≠ 3 → g ≠ f - 1 := fun g h9 h8 => by rw [h8] at h9; exact h9 hfr3.1
  refine kAg_ok h0 ⟨kOk_of hRS (by rw [s11]; exact oc1) (by rw [s11, S4, if_neg hpc]; exact oc3) (fun q hq h9 => by rw [s6]; exact or6 q hq (fun h8 => h9 ((hz q hq).mpr h8))), ?_, ?_, ?_, ?_, ?_, ?_, (hz 0 (by decide)).mpr i6, ?_⟩
  · refine kEq_mk (by rw [s0]; exact h.e 0) ?_ ?_ ?_ (by rw [s5]; exact h.e 5) (by rw [s6]; exact h.e 6) (by rw [s7]; exact h.e 7) (by rw [Sk 10 (by decide) (by decide) (by decide) (by decide)]; exact h.e 10) (by rw [s11]; exact h11) (by rw [hS2]; exact heq.2.1) (by rw [hS2]; exact heq.2.2.1) ?_ ?_ heq.2.2.2.2.2
    · funext g
      rw [S1, st_ne _ _ _ (by decide), st_ai]
      by_cases h9 : g = f - 1
      · rw [if_pos h9, if_pos h9]
      · rw [if_neg h9, if_neg h9]
        show τ.1 1 g = _
        rw [h.e 1]
    · funext i
      rw [S2, st_ne _ _ _ (by decide), st_ne _ _ _ (by decide), st_ai, st_ne _ _ _ (by decide), st_ai, h.e 2]
      by_cases h9 : i = ei
      · rw [if_pos h9, if_neg (by omega), if_pos h9]
      · rw [if_neg h9]
        by_cases h8 : i = ti
        · rw [if_pos h8, if_pos h8]
        · rw [if_neg h8, if_neg h8, if_neg h9]
    · funext q
      rw [S4, st_ai]
      by_cases h9 : q = p
      · rw [if_pos h9, if_pos h9]
      · rw [if_neg h9, if_neg h9]
        show τ.1 4 q = _
        rw [h.e 4]
    · intro i hi hne2
      rw [S2] at hne2
      rw [S3, st_ne _ _ _ (by decide), st_ne _ _ _ (by decide), st_ne _ _ _ (by decide), st_ai, st_ne _ _ _ (by decide)]
      by_cases h8 : i = ti
      · rw [if_pos h8, if_pos h8]
      · rw [if_neg h8] at hne2
        by_cases h9 : i = ei
        · rw [if_pos h9] at hne2; exact absurd rfl hne2
        · rw [if_neg h9] at hne2
          rw [if_neg h8, if_neg h8, if_neg h9]
          exact heq.2.2.2.1 i hi hne2
    · intro i hi
      rw [st_ne _ _ _ (by decide), st_ne _ _ _ (by decide), st_ne _ _ _ (by decide), st_ai, st_ne _ _ _ (by decide)]
      split
      · exact o3 _ hfl
      · exact heq.2.2.2.2.1 i hi
  · intro g hg
    rw [s0, S1]
    by_cases h9 : g = f - 1
    · rw [if_pos h9, h9, hfr3.1]; omega
    · rw [if_neg h9]; exact i1 g hg
  · intro b e hb hbe hne2
    rw [S2] at hne2
    rw [s0, S1, S1, S2]
    by_cases h8 : b * 4 + e = ti
    · have hb8 : b = σ.1 8 p := by omega
      rw [if_pos h8, hb8]
      have hk2 : σ.1 0 (σ.1 8 p) = 2 := haw.2.1
      rw [if_pos rfl, if_neg (hnf _ (by omega)), hk2, hfr3.1, haw.2.2]
      exact ⟨Or.inr rfl, rfl, rfl⟩
    · rw [if_neg h8] at hne2
      by_cases h9 : b * 4 + e = ei
      · rw [if_pos h9] at hne2; exact absurd rfl hne2
      · rw [if_neg h9] at hne2
        rw [if_neg h8, if_neg h9]
        obtain ⟨k1, k2, k3⟩ := i2 b e hb hbe hne2
        have hpf : σ.1 2 (b * 4 + e) - 1 ≠ f - 1 := fun h7 => h9 (i3 _ _ (by omega) hfl hne2 (by omega))
        rw [if_neg hpf, if_neg (hnf b (by omega))]
        exact ⟨k1, k2, k3⟩
  · intro i j hi hj a1 a2
    rw [S2] at a1
    rw [S2, S2] at a2
    by_cases h8 : i = ti
    · rw [if_pos h8] at a2
      by_cases h6 : j = ti
      · omega
      · rw [if_neg h6] at a2
        by_cases h5 : j = ei
        · rw [if_pos h5] at a2; exact absurd a2 hf
        · rw [if_neg h5] at a2
          exact absurd (i3 ei j hfl hj (by omega) (by omega)) (Ne.symm h5)
    · rw [if_neg h8] at a1 a2
      by_cases h9 : i = ei
      · rw [if_pos h9] at a1; exact absurd rfl a1
      · rw [if_neg h9] at a1 a2
        by_cases h6 : j = ti
        · rw [if_pos h6] at a2
          exact absurd (i3 i ei hi hfl a1 (by omega)) h9
        · rw [if_neg h6] at a2
          by_cases h5 : j = ei
          · rw [if_pos h5] at a2; exact absurd a2 a1
          · rw [if_neg h5] at a2; exact i3 i j hi hj a1 a2
  · intro q a1 a2 a3
    have a3 : σ.1 4 q ≠ 0 := fun h9 => a3 ((hz q a2).mpr h9)
    obtain ⟨b1, b2⟩ := i4 q a1 a2 a3
    rw [s0, s6, S1, if_neg (hnf _ (by omega))]
    exact ⟨b1, b2⟩
  · intro q a1 a2
    rw [s5, s6, s7]
    exact i5 q a1 ((hz q a1).mp a2)
  · intro q a1 a2 a3
    rw [S4] at a3
    by_cases hqp : q = p
    · rw [if_pos hqp] at a3; omega
    · rw [if_neg hqp] at a3
      obtain ⟨b1, b2, b3⟩ := i7 q a1 a2 a3
      have hwq := heq.2.2.2.2.2 q a2
      obtain ⟨e1, e2⟩ := i4 q a1 a2 (by omega)
      have hr21 := o6 q a2
      have haq := (i2 (σ.1 6 q - 1) (τ.1 8 q / 16) (by omega) (by omega) (by rw [b1]; omega)).2.2
      rw [b1, show σ.1 8 q + 1 - 1 = σ.1 8 q by omega, e2] at haq
      have o8q := o8 q a2
      have o9q := o9 q a2
      have g1 : σ.1 6 q - 1 ≠ σ.1 8 p := fun h9 => by rw [h9, haw.2.1] at e1; omega
      have g2 : σ.1 6 q - 1 ≠ tb σ a - 1 := fun h9 => by rw [h9, htb2.1] at e1; omega
      have g3 : σ.1 8 q ≠ σ.1 8 p := fun h9 => by rw [h9, haw.2.2] at haq; exact hqp haq.symm
      rw [s6, s8, s9, S2, S2]
      show (if (σ.1 6 q - 1) * 4 + τ.1 8 q / 16 = ti then f else if (σ.1 6 q - 1) * 4 + τ.1 8 q / 16 = ei then 0 else σ.1 2 ((σ.1 6 q - 1) * 4 + τ.1 8 q / 16)) = σ.1 8 q + 1 ∧ σ.1 9 q = τ.1 8 q / 4 % 4 ∧ (if σ.1 8 q * 4 + σ.1 9 q = ti then f else if σ.1 8 q * 4 + σ.1 9 q = ei then 0 else σ.1 2 (σ.1 8 q * 4 + σ.1 9 q)) = 0
      rw [if_neg (by omega), if_neg (by omega), if_neg (show ¬ σ.1 8 q * 4 + σ.1 9 q = ti by omega)]
      refine ⟨b1, b2, ?_⟩
      split
      · rfl
      · exact b3
