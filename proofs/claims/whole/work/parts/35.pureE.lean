/-! Reaping; and how both begin. -/
theorem req_req {α : Type} {a b : Bool} {E : String} {k : Except String α} : req a E (req b E k) = req (a && b) E k := by
  cases a <;> cases b <;> rfl
theorem mv_k (σ : kS) (p : Nat) {k : Nat} (hk : k ≠ 5) : ∀ n, (mv σ p n).1 k = σ.1 k
  | 0 => rfl
  | n + 1 => by
    have ih := mv_k σ p hk n
    unfold mv
    split
    · rw [st_ne _ _ _ hk]; exact ih
    · exact ih
theorem mv_2 (σ : kS) (p : Nat) : ∀ n, (mv σ p n).2 = σ.2
  | 0 => rfl
  | n + 1 => by
    have ih := mv_2 σ p n
    unfold mv
    split
    · exact ih
    · exact ih
theorem rv_2 (σ : kS) (p : Nat) : ∀ n, (rv σ p n).2 = σ.2
  | 0 => rfl
  | n + 1 => by
    have ih := rv_2 σ p n
    unfold rv
    split
    · exact ih
    · exact ih
theorem mv_5 (σ : kS) (p : Nat) : ∀ n i, (mv σ p n).1 5 i = if i ≠ 0 ∧ i < n ∧ σ.1 5 i = p then 1 else σ.1 5 i
  | 0, i => by simp [mv]
  | n + 1, i => by
    have ih := mv_5 σ p n
    have ihn : (mv σ p n).1 5 n = σ.1 5 n := by rw [ih, if_neg (by omega)]
    by_cases hc : n ≠ 0 ∧ σ.1 5 n = p
    · have e : mv σ p (n + 1) = st (mv σ p n) 5 n 1 := (mv_t hc.1 (by rw [ihn]; exact hc.2)).1
      rw [e, st_ai, ih]
      by_cases hin : i = n
      · subst hin; rw [if_pos rfl, if_pos ⟨hc.1, by omega, hc.2⟩]
      · rw [if_neg hin]
        by_cases h9 : i ≠ 0 ∧ i < n ∧ σ.1 5 i = p
        · rw [if_pos h9, if_pos ⟨h9.1, by omega, h9.2.2⟩]
        · rw [if_neg h9, if_neg (by omega)]
    · have e : mv σ p (n + 1) = mv σ p n := by
        show (if n ≠ 0 ∧ (mv σ p n).1 5 n = p then st (mv σ p n) 5 n 1 else mv σ p n) = _
        rw [ihn, if_neg hc]
      rw [e, ih]
      by_cases h9 : i ≠ 0 ∧ i < n ∧ σ.1 5 i = p
      · rw [if_pos h9, if_pos ⟨h9.1, by omega, h9.2.2⟩]
      · rw [if_neg h9]
        by_cases h8 : i ≠ 0 ∧ i < n + 1 ∧ σ.1 5 i = p
        · have : i = n := by omega
          subst this
          exact absurd ⟨h8.1, h8.2.2⟩ hc
        · rw [if_neg h8]
theorem mvn_c (σ : kS) (p : Nat) : ∀ n, mvn σ p n = cnt (fun i => i != 0 && σ.1 5 i == p) n
  | 0 => rfl
  | n + 1 => by
    have ih := mvn_c σ p n
    have ihn : (mv σ p n).1 5 n = σ.1 5 n := by rw [mv_5, if_neg (by omega)]
    unfold mvn cnt
    rw [ih, ihn]
    congr 1
    by_cases hc : n ≠ 0 ∧ σ.1 5 n = p
    · rw [if_pos hc, if_pos (by simp [hc.1, hc.2])]
    · rw [if_neg hc, if_neg (by simpa using hc)]
theorem rv_5 (σ : kS) (p : Nat) : ∀ n i, (rv σ p n).1 5 i = if i ≠ 0 ∧ i < n ∧ σ.1 4 i ≠ 0 ∧ σ.1 5 i = p then 1 else σ.1 5 i
  | 0, i => by simp [rv]
  | n + 1, i => by
    have ih := rv_5 σ p n
    have i4 : (rv σ p n).1 4 = σ.1 4 := rv_k σ p (by decide) n
    have ihn : (rv σ p n).1 5 n = σ.1 5 n := by rw [ih, if_neg (by omega)]
    by_cases hc : n ≠ 0 ∧ σ.1 4 n ≠ 0 ∧ σ.1 5 n = p
    · have e : rv σ p (n + 1) = st (rv σ p n) 5 n 1 := (rv_t hc.1 (by rw [i4]; exact hc.2.1) (by rw [ihn]; exact hc.2.2)).1
      rw [e, st_ai, ih]
      by_cases hin : i = n
      · subst hin; rw [if_pos rfl, if_pos ⟨hc.1, by omega, hc.2⟩]
      · rw [if_neg hin]
        by_cases h9 : i ≠ 0 ∧ i < n ∧ σ.1 4 i ≠ 0 ∧ σ.1 5 i = p
        · rw [if_pos h9, if_pos ⟨h9.1, by omega, h9.2.2⟩]
        · rw [if_neg h9, if_neg (by omega)]
    · have e : rv σ p (n + 1) = rv σ p n := by
        show (if n ≠ 0 ∧ (rv σ p n).1 4 n ≠ 0 ∧ (rv σ p n).1 5 n = p then st (rv σ p n) 5 n 1 else rv σ p n) = _
        rw [ihn, i4, if_neg hc]
      rw [e, ih]
      by_cases h9 : i ≠ 0 ∧ i < n ∧ σ.1 4 i ≠ 0 ∧ σ.1 5 i = p
      · rw [if_pos h9, if_pos ⟨h9.1, by omega, h9.2.2⟩]
      · rw [if_neg h9]
        by_cases h8 : i ≠ 0 ∧ i < n + 1 ∧ σ.1 4 i ≠ 0 ∧ σ.1 5 i = p
        · have : i = n := by omega
          subst this
          exact absurd ⟨h8.1, h8.2.2⟩ hc
        · rw [if_neg h8]
theorem rvn_c (σ : kS) (p : Nat) : ∀ n, rvn σ p n = cnt (fun i => i != 0 && (σ.1 4 i != 0 && σ.1 5 i == p)) n
  | 0 => rfl
  | n + 1 => by
    have ih := rvn_c σ p n
    have i4 : (rv σ p n).1 4 = σ.1 4 := rv_k σ p (by decide) n
    have ihn : (rv σ p n).1 5 n = σ.1 5 n := by rw [rv_5, if_neg (by omega)]
    unfold rvn cnt
    rw [ih, ihn, i4]
    congr 1
    by_cases hc : n ≠ 0 ∧ σ.1 4 n ≠ 0 ∧ σ.1 5 n = p
    · rw [if_pos hc, if_pos (by simp [hc.1, hc.2.1, hc.2.2])]
    · rw [if_neg hc, if_neg (by simpa using hc)]
theorem ag_reap {σ τ : kS} (h : kRel σ τ) (h0 : τ.2 2 0 = nI 0) (x : Int32) : kAg [eIA, eIS] σ (sp_reap σ x) (fin τ (rs_reap τ x)) := by
  unfold sp_reap rs_reap
  rw [h.e 4, h.e 5, h.e 6, h.e 11]
  refine kAg_in h (by decide) fun p hp h1 h2 => ?_
  rw [req_req, rown_c h h1, inuse_c (h.e 7), show filled τ (σ.1 6 p - 1) = filled σ (σ.1 6 p - 1) by unfold filled; rw [h.e 2]]
  refine kAg_rq h ?_ (by decide) (by decide) fun hb => ?_
  · unfold mchild mhas
    have hd : decide (owned σ p ≤ 1) = !decide (1 < owned σ p) := by
      by_cases a3 : owned σ p ≤ 1
      · rw [decide_eq_true a3, decide_eq_false (Nat.not_lt.mpr a3)]; rfl
      · rw [decide_eq_false a3, decide_eq_true (Nat.lt_of_not_le a3)]; rfl
    rw [hd]
    simp only [bne]
    cases (σ.1 4 p == 5) <;> cases (σ.1 5 p == σ.1 11 0) <;> cases (decide (1 < owned σ p)) <;> cases (filled σ (σ.1 6 p - 1) == 0) <;> cases (inuse σ p == 0) <;> rfl
  simp only [mchild, mhas, Bool.and_eq_true, beq_iff_eq, Bool.not_eq_true', Bool.or_eq_false_iff] at hb
  obtain ⟨⟨hpar, hst⟩, ⟨hown, hfil⟩, hinu⟩ := hb
  have hinu : inuse σ p = 0 := by simpa using hinu
  have ok := h.1
  have heq := h.2.1
  obtain ⟨o1, o2, o3, o4, o5, o6, o7, o8, o9, o10, o0, ⟨oc1, oc2⟩, oc3, or6⟩ := id ok
  obtain ⟨i1, i2, i3, i4, i5, i6, i7⟩ := h.2.2
  have hpc : σ.1 11 0 ≠ p := fun h9 => by rw [h9] at oc3; omega
  obtain ⟨r1, r2⟩ := i4 p h1 (by omega) (by omega)
  have hroot := o6 p (by omega)
  have hrn := or6 p (by omega) (by omega)
  have hd0 : ∀ d, d < 4 → σ.1 7 (p * 4 + d) = 0 := fun d hd => by
    have := cnt_z hinu d hd
    simpa using this
  obtain ⟨v, hv⟩ : ∃ v, v = σ.1 6 p - 1 := ⟨_, rfl⟩
  rw [← hv] at r1 r2 ⊢
  -- the reference's state
  obtain ⟨V, hV⟩ : ∃ V, V = rv τ p 6 := ⟨_, rfl⟩
  have Vk : ∀ k, k ≠ 5 → V.1 k = τ.1 k := fun k hk => by rw [hV]; exact rv_k τ p hk 6
  have V2 : V.2 = τ.2 := by rw [hV]; exact rv_2 τ p 6
  have V5 : ∀ i, V.1 5 i = if i ≠ 0 ∧ i < 6 ∧ σ.1 4 i ≠ 0 ∧ σ.1 5 i = p then 1 else σ.1 5 i := fun i => by
    rw [hV, rv_5, h.e 4, h.e 5]
  rw [← hV]
  have eV6 : V.1 6 p - 1 = v := by rw [Vk 6 (by decide), h.e 6, hv]
  rw [eV6]
  -- the class's state
  obtain ⟨B, hB⟩ : ∃ B, B = m_begin (m_become σ v 0 0) p 0 0 0 := ⟨_, rfl⟩
  have B5 : ∀ i, B.1 5 i = if i = p then 0 else σ.1 5 i := fun i => by rw [hB, beg_5]; rfl
  rw [← hB]
  have hcount : rvn τ p 6 = mvn B p 6 := by
    rw [rvn_c, mvn_c, h.e 4, h.e 5]
    refine cnt_congr fun i hi => ?_
    rw [B5]
    by_cases hip : i = p
    · subst hip
      rw [if_pos rfl, hpar]
      have e1 : (σ.1 11 0 == i) = false := beq_false_of_ne hpc
      have e2 : (0 == i) = false := beq_false_of_ne (by omega)
      rw [e1, e2]; simp
    · rw [if_neg hip]
      by_cases hs : σ.1 4 i = 0
      · have e1 : (σ.1 5 i == p) = false := beq_false_of_ne (by rw [(i5 i hi hs).1]; omega)
        rw [e1]; simp
      · rw [bne_iff_ne.mpr hs]; simp
  rw [hcount]
  obtain ⟨S, hS⟩ : ∃ S, S = mv B p 6 := ⟨_, rfl⟩
  have Sk : ∀ k, k ≠ 5 → S.1 k = B.1 k := fun k hk => by rw [hS]; exact mv_k B p hk 6
  have S2' : S.2 = B.2 := by rw [hS]; exact mv_2 B p 6
  have S5 : ∀ i, i < 6 → S.1 5 i = if i = p then 0 else if i ≠ 0 ∧ σ.1 5 i = p then 1 else σ.1 5 i := fun i hi => by
    rw [hS, mv_5, B5]
    by_cases hip : i = p
    · rw [if_pos hip, if_pos hip, if_neg (by omega)]
    · rw [if_neg hip, if_neg hip]
      by_cases h9 : i ≠ 0 ∧ σ.1 5 i = p
      · rw [if_pos h9, if_pos ⟨h9.1, hi, h9.2⟩]
      · rw [if_neg h9, if_neg (by omega)]
  have S5' : ∀ i, ¬ i < 6 → S.1 5 i = σ.1 5 i := fun i hi => by
    rw [hS, mv_5, B5, if_neg (show ¬ i = p by omega), if_neg (by omega)]
  rw [← hS]
  have s0 : ∀ g, S.1 0 g = if g = v then 0 else σ.1 0 g := fun g => by rw [Sk 0 (by decide), hB]; rfl
  have s1 : ∀ g, S.1 1 g = if g = v then 0 else σ.1 1 g := fun g => by rw [Sk 1 (by decide), hB]; rfl
  have s2 : ∀ i, S.1 2 i = if i / 4 = v then 0 else σ.1 2 i := fun i => by rw [Sk 2 (by decide), hB]; exact bec_2 σ v 0 0 i
  have s3 : ∀ i, S.1 3 i = if i / 4 = v then 0 else σ.1 3 i := fun i => by rw [Sk 3 (by decide), hB]; exact bec_3 σ v 0 0 i
  have s4 : ∀ q, S.1 4 q = if q = p then 0 else σ.1 4 q := fun q => by rw [Sk 4 (by decide), hB]; rfl
  have s6 : ∀ q, S.1 6 q = if q = p then 0 else σ.1 6 q := fun q => by rw [Sk 6 (by decide), hB]; rfl
  have s7 : ∀ i, S.1 7 i = if i / 4 = p then 0 else σ.1 7 i := fun i => by rw [Sk 7 (by decide), hB, beg_7]; rfl
  have s11 : S.1 11 = σ.1 11 := by rw [Sk 11 (by decide), hB]; rfl
  have s8 : S.1 8 = σ.1 8 := by rw [Sk 8 (by decide), hB]; rfl
  have s9 : S.1 9 = σ.1 9 := by rw [Sk 9 (by decide), hB]; rfl
  have s10 : S.1 10 = σ.1 10 := by rw [Sk 10 (by decide), hB]; rfl
  have hRB : kRng B := by rw [hB]; exact kRng_begin (kRng_become (kRng_of ok) v (by decide) (by decide)) p (by decide) (by decide) (by decide)
  have hRS : kRng S := fun k i hi => by
    by_cases h5 : k = 5
    · subst h5
      rw [hS, mv_5]
      split
      · decide
      · exact hRB 5 i hi
    · rw [Sk k h5]; exact hRB k i hi
  have hrt : ∀ q, 1 ≤ q → q < 6 → q ≠ p → σ.1 4 q ≠ 0 → σ.1 6 q - 1 ≠ v := fun q a1 a2 a3 a4 h9 => by
    have := (i4 q a1 a2 a4).2
    rw [h9, r2] at this; exact a3 this.symm
  have e0 := h.e 0
  refine kAg_ok ?_ ⟨kOk_of hRS (by rw [s11]; exact oc1) (by rw [s11, s4, if_neg hpc]; exact oc3) ?_, ?_, ?_, ?_, ?_, ?_, ?_, ?_, ?_⟩
  · show (m_become V v 0 0).2 2 0 = nI 0
    have : (m_become V v 0 0).2 2 = V.2 2 := rfl
    rw [this, V2]; exact h0
  · intro q hq
    rw [s4, s6]
    intro h9
    by_cases hqp : q = p
    · rw [if_pos hqp] at h9; exact absurd rfl h9
    · rw [if_neg hqp] at h9; rw [if_neg hqp]; exact or6 q hq h9
  · refine kEq_mk ?_ ?_ ?_ ?_ ?_ ?_ ?_ ?_ ?_ ?_ ?_ ?_ ?_ ?_
    · funext g
      rw [s0]
      show (if g = v then 0 else V.1 0 g) = _
      rw [Vk 0 (by decide), h.e 0]
    · funext g
      rw [s1]
      show (if g = v then 0 else V.1 1 g) = _
      rw [Vk 1 (by decide), h.e 1]
    · funext i
      rw [s2]
      show (m_become V v 0 0).1 2 i = _
      rw [bec_2, Vk 2 (by decide), h.e 2]
    · funext q
      rw [s4]
      show (if q = p then 0 else V.1 4 q) = _
      rw [Vk 4 (by decide), h.e 4]
    · funext i
      show (if i = p then 0 else V.1 5 i) = _
      rw [V5]
      by_cases hi6 : i < 6
      · rw [S5 i hi6]
        by_cases hip : i = p
        · rw [if_pos hip, if_pos hip]
        · rw [if_neg hip, if_neg hip]
          by_cases h9 : i ≠ 0 ∧ σ.1 5 i = p
          · have : σ.1 4 i ≠ 0 := fun h8 => by have := (i5 i hi6 h8).1; omega
            rw [if_pos h9, if_pos ⟨h9.1, hi6, this, h9.2⟩]
          · rw [if_neg h9, if_neg (by omega)]
      · rw [S5' i hi6, if_neg (show ¬ i = p by omega), if_neg (by omega)]
    · funext q
      rw [s6]
      show (if q = p then 0 else V.1 6 q) = _
      rw [Vk 6 (by decide), h.e 6]
    · funext i
      rw [s7]
      show V.1 7 i = _
      rw [Vk 7 (by decide), h.e 7]
      by_cases h9 : i / 4 = p
      · rw [if_pos h9]
        have := hd0 (i % 4) (by omega)
        rw [show i = p * 4 + i % 4 by omega]; exact this
      · rw [if_neg h9]
    · rw [s10]
      show V.1 10 = _
      rw [Vk 10 (by decide), h.e 10]
    · rw [s11]
      show V.1 11 = _
      rw [Vk 11 (by decide), h.e 11]
    · rw [S2', hB]
      show (m_become V v 0 0).2 0 = (m_become σ v 0 0).2 0
      have e : V.2 0 = σ.2 0 := by rw [V2]; exact heq.2.1
      exact congrArg (fun f => va_up (va_up (va_up (va_up f (v * 4 + 0) (nI 0)) (v * 4 + 1) (nI 0)) (v * 4 + 2) (nI 0)) (v * 4 + 3) (nI 0)) e
    · rw [S2', hB]
      show V.2 1 = σ.2 1
      rw [V2]; exact heq.2.2.1
    · intro i hi hne
      rw [s2] at hne
      rw [s3]
      show (m_become V v 0 0).1 3 i = _
      rw [bec_3, Vk 3 (by decide)]
      by_cases h9 : i / 4 = v
      · rw [if_pos h9, if_pos h9]
      · rw [if_neg h9] at hne; rw [if_neg h9, if_neg h9]; exact heq.2.2.2.1 i hi hne
    · intro i hi
      show (m_become V v 0 0).1 3 i < 4
      rw [bec_3, Vk 3 (by decide)]
      split
      · decide
      · exact heq.2.2.2.2.1 i hi
    · intro q hq
      show V.1 8 q < 64
      rw [Vk 8 (by decide)]; exact heq.2.2.2.2.2 q hq
  · intro g hg
    rw [s0, s1]
    by_cases h9 : g = v
    · rw [if_pos h9, if_pos h9]
    · rw [if_neg h9, if_neg h9]; exact i1 g hg
  · intro b e hb hbe hne
    rw [s2] at hne
    rw [s0, s0, s1, s1, s2]
    by_cases h9 : (b * 4 + e) / 4 = v
    · rw [if_pos h9] at hne; exact absurd rfl hne
    · rw [if_neg h9] at hne
      have hbv : b ≠ v := by omega
      obtain ⟨k1, k2, k3⟩ := i2 b e hb hbe hne
      have hpv : σ.1 2 (b * 4 + e) - 1 ≠ v := fun h7 => by rw [h7, r1] at k2; omega
      rw [if_neg h9, if_neg hbv, if_neg hbv, if_neg hpv, if_neg hpv]
      exact ⟨k1, k2, k3⟩
  · intro i j hi hj a1 a2
    rw [s2] at a1
    rw [s2, s2] at a2
    by_cases h9 : i / 4 = v
    · rw [if_pos h9] at a1; exact absurd rfl a1
    · rw [if_neg h9] at a1 a2
      by_cases h7 : j / 4 = v
      · rw [if_pos h7] at a2; exact absurd a2 a1
      · rw [if_neg h7] at a2; exact i3 i j hi hj a1 a2
  · intro q a1 a2 a3
    rw [s4] at a3
    by_cases hqp : q = p
    · rw [if_pos hqp] at a3; exact absurd rfl a3
    · rw [if_neg hqp] at a3
      rw [s6, s0, s1, if_neg hqp, if_neg (hrt q a1 a2 hqp a3), if_neg (hrt q a1 a2 hqp a3)]
      exact i4 q a1 a2 a3
  · intro q a1 a2
    rw [s4] at a2
    rw [S5 q a1, s6]
    by_cases hqp : q = p
    · rw [if_pos hqp, if_pos hqp]
      refine ⟨rfl, rfl, fun d hd => ?_⟩
      rw [s7, if_pos (by omega)]
    · rw [if_neg hqp] at a2
      obtain ⟨b1, b2, b3⟩ := i5 q a1 a2
      rw [if_neg hqp, if_neg hqp, if_neg (by omega)]
      refine ⟨b1, b2, fun d hd => ?_⟩
      rw [s7, if_neg (by omega)]; exact b3 d hd
  · rw [s4, if_neg (by omega)]; exact i6
  · intro q a1 a2 a3
    rw [s4] at a3
    by_cases hqp : q = p
    · rw [if_pos hqp] at a3; omega
    · rw [if_neg hqp] at a3
      obtain ⟨b1, b2, b3⟩ := i7 q a1 a2 a3
      have hw := heq.2.2.2.2.2 q a2
      have hrq := hrt q a1 a2 hqp (by omega)
      rw [s6, s8, s9, s2, s2, if_neg hqp]
      show (if ((σ.1 6 q - 1) * 4 + V.1 8 q / 16) / 4 = v then 0 else σ.1 2 ((σ.1 6 q - 1) * 4 + V.1 8 q / 16)) = σ.1 8 q + 1 ∧ σ.1 9 q = V.1 8 q / 4 % 4 ∧ (if (σ.1 8 q * 4 + σ.1 9 q) / 4 = v then 0 else σ.1 2 (σ.1 8 q * 4 + σ.1 9 q)) = 0
      rw [Vk 8 (by decide), if_neg (by omega)]
      refine ⟨b1, b2, ?_⟩
      split
      · rfl
      · exact b3
