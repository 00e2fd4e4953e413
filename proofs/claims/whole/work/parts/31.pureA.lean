/-! Calls: states and callers; descriptors; words; questions. -/
theorem kEq_mk {σ τ : kS} (h0 : τ.1 0 = σ.1 0) (h1 : τ.1 1 = σ.1 1) (h2 : τ.1 2 = σ.1 2) (h4 : τ.1 4 = σ.1 4) (h5 : τ.1 5 = σ.1 5) (h6 : τ.1 6 = σ.1 6) (h7 : τ.1 7 = σ.1 7) (h10 : τ.1 10 = σ.1 10) (h11 : τ.1 11 = σ.1 11) (w0 : τ.2 0 = σ.2 0) (w1 : τ.2 1 = σ.2 1)
    (r3 : ∀ i, i < 80 → σ.1 2 i ≠ 0 → τ.1 3 i = σ.1 3 i) (r4 : ∀ i, i < 80 → τ.1 3 i < 4) (r5 : ∀ p, p < 6 → τ.1 8 p < 64) : kEq σ τ := by
  refine ⟨fun k a0 a1 a2 a3 => ?_, w0, w1, r3, r4, r5⟩
  rcases (show k = 0 ∨ k = 1 ∨ k = 2 ∨ k = 4 ∨ k = 5 ∨ k = 6 ∨ k = 7 ∨ k = 10 ∨ k = 11 by omega) with rfl | rfl | rfl | rfl | rfl | rfl | rfl | rfl | rfl <;> assumption
theorem st_g (σ : kS) (a j v k x : Nat) : (st σ a j v).1 k x = if k = a ∧ x = j then v else σ.1 k x := by
  by_cases hk : k = a
  · subst hk; rw [st_ai]; simp
  · rw [st_ne _ _ _ hk]; simp [hk]
theorem st_ext {σ τ : kS} (h2 : σ.2 = τ.2) (h : ∀ k x, σ.1 k x = τ.1 k x) : σ = τ := Prod.ext (funext fun k => funext fun x => h k x) h2
theorem st_swap (σ : kS) {a b i j : Nat} (u v : Nat) (h : a ≠ b ∨ i ≠ j) : st (st σ a i u) b j v = st (st σ b j v) a i u := by
  refine st_ext rfl fun k x => ?_
  rw [st_g, st_g, st_g, st_g]
  by_cases h1 : k = a ∧ x = i
  · by_cases h2 : k = b ∧ x = j
    · exfalso; omega
    · rw [if_neg h2, if_pos h1]; simp [h1]
  · by_cases h2 : k = b ∧ x = j
    · rw [if_pos h2, if_neg h1, if_pos h2]
    · rw [if_neg h2, if_neg h1, if_neg h1, if_neg h2]
theorem st_same (σ : kS) (a i u v : Nat) : st (st σ a i u) a i v = st σ a i v := by
  refine st_ext rfl fun k x => ?_
  rw [st_g, st_g, st_g]
  by_cases h1 : k = a ∧ x = i
  · rw [if_pos h1, if_pos h1]
  · rw [if_neg h1, if_neg h1, if_neg h1]
theorem inuse_c {σ τ : kS} (h : τ.1 7 = σ.1 7) (p : Nat) : inuse τ p = inuse σ p := by unfold inuse; rw [h]
theorem kill_1 (σ : kS) {c n : Nat} (h : n ≠ c) : st (m_run σ n) 4 c 5 = st (st (st σ 4 c 5) 4 n 3) 11 0 n := by
  unfold m_run
  rw [st_swap (a := 11) (b := 4) _ _ _ (Or.inl (by decide)), st_swap (a := 4) (b := 4) (i := n) (j := c) _ _ _ (Or.inr h)]
theorem kill_2 (τ : kS) {c n : Nat} (h : n ≠ c) : st (st (st (st τ 4 c 5) 4 n 3) 11 0 n) 4 c 5 = st (st (st τ 4 c 5) 4 n 3) 11 0 n := by
  rw [st_swap (a := 11) (b := 4) _ _ _ (Or.inl (by decide)), st_swap (a := 4) (b := 4) (i := n) (j := c) _ _ _ (Or.inr h), st_same]
theorem ag_kill {σ τ : kS} (h : kRel σ τ) (h0 : τ.2 2 0 = nI 0) (x : Int32) : kAg [eIA, eUO, eIS] σ (sp_kill σ x) (fin τ (rs_kill τ x)) := by
  unfold sp_kill rs_kill
  obtain ⟨o1, o2, o3, o4, o5, o6, o7, o8, o9, o10, o0, ⟨oc1, oc2⟩, oc3, or6⟩ := id h.1
  rw [h.e 4, h.e 5, h.e 11]
  refine kAg_in h (by decide) fun p hp h1 h2 => ?_
  refine kAg_rq h rfl (by decide) (by decide) fun hb => ?_
  by_cases hc : p = σ.1 11 0
  · have e1 : (p == σ.1 11 0) = true := by simp [hc]
    have e2 : ((p == σ.1 11 0 || σ.1 5 p == σ.1 11 0) && σ.1 4 p != 0 && σ.1 4 p != 5) = true := by
      rw [e1, hc, oc3]; simp
    rw [e2, e1]
    show kAg _ _ (req _ _ _) (fin τ (rqn (rnx τ p != 0) 3 _))
    have e3 : rnx τ p = nxr σ (σ.1 11 0) := by
      rw [nxr_rnx τ h1, hc]; unfold nxr; rw [h.e 4]
    rw [e3]
    refine kAg_rq h rfl (by decide) (by decide) fun hn => ?_
    have hn : nxr σ (σ.1 11 0) ≠ 0 := by simpa using hn
    obtain ⟨n1, n2⟩ := nxr_st σ _ hn
    have n3 := nxr_lt σ (σ.1 11 0)
    generalize nxr σ (σ.1 11 0) = n at n1 n2 n3 hn
    have hne : n ≠ σ.1 11 0 := fun h9 => by rw [← h9] at oc3; omega
    rw [hc]
    unfold r_hand
    rw [h.e 11, kill_1 σ hne, kill_2 τ hne]
    rw [show inuse (st (st (st τ 4 (σ.1 11 0) 5) 4 n 3) 11 0 n) (σ.1 11 0) = inuse (st (st (st σ 4 (σ.1 11 0) 5) 4 n 3) 11 0 n) (σ.1 11 0) from inuse_c (h.e 7) _]
    exact kAg_ok h0 (kRel_h h n1 n3 n2 (by decide) (by decide) (by decide))
  · have e1 : (p == σ.1 11 0) = false := by simp [hc]
    rw [e1]
    refine kAg_rq h (by simp [mlive]) (by decide) (by decide) fun hn => ?_
    simp only [mlive, Bool.and_eq_true, beq_iff_eq, bne_iff_ne] at hn
    rw [show inuse (st τ 4 p 5) p = inuse (st σ 4 p 5) p from inuse_c (h.e 7) _]
    exact kAg_ok h0 (kRel_s h h1 (by omega) hn.1.2 (by decide) (by decide) (by decide) hc)
/-! descriptors -/
theorem cnt_congr {P Q : Nat → Bool} : ∀ {n : Nat}, (∀ i, i < n → P i = Q i) → cnt P n = cnt Q n
  | 0, _ => rfl
  | n + 1, h => by
    unfold cnt
    rw [cnt_congr (fun i hi => h i (by omega)), h n (by omega)]
theorem cnt_up {P Q : Nat → Bool} {j : Nat} (hP : P j = false) (hQ : Q j = true) (h : ∀ i, i ≠ j → Q i = P i) : ∀ {n : Nat}, j < n → cnt Q n = cnt P n + 1
  | 0, hj => by omega
  | n + 1, hj => by
    unfold cnt
    by_cases hn : n = j
    · subst hn
      rw [hP, hQ, cnt_congr (fun i hi => h i (by omega))]
      simp
    · rw [h n hn, cnt_up hP hQ h (by omega)]
      omega
theorem row0 {σ τ : kS} (h : kRel σ τ) {k : Nat} (hk : k < 4) : σ.1 7 k = 0 := by
  have h1 := (h.2.2.2.2.2.2.1 0 (by decide) h.2.2.2.2.2.2.2.1).2.2 k hk
  simpa using h1
theorem rcof_c {σ τ : kS} (e : τ.1 7 = σ.1 7) (h0 : ∀ k, k < 4 → σ.1 7 k = 0) (i : Nat) : rcof τ i = cof σ i := by
  unfold rcof cof
  rw [e]
  refine cnt_congr fun k _ => ?_
  by_cases h4 : 4 ≤ k
  · simp [h4]
  · simp [h4, h0 k (by omega)]
/-- arrays that no rule of pages or states speaks of -/
theorem kRel_o {σ τ : kS} (h : kRel σ τ) {a : Nat} (j : Nat) {v : Nat} (ha : a = 10) (hv : v < bndK a) : kRel (st σ a j v) (st τ a j v) := by
  subst ha
  obtain ⟨ok, he, hi⟩ := h
  obtain ⟨o1, o2, o3, o4, o5, o6, o7, o8, o9, o10, o0, ⟨oc1, oc2⟩, oc3, or6⟩ := id ok
  exact ⟨kOk_of (kRng_st (kRng_of ok) 10 j hv) oc1 oc3 or6, kEq_st he j v (by decide), hi⟩
theorem kRel_w {σ τ : kS} (h : kRel σ τ) {a : Nat} (j : Nat) (v : Int32) (ha : a = 0 ∨ a = 1) : kRel (sw σ a j v) (sw τ a j v) := by
  obtain ⟨ok, ⟨h1, h2, h3, h4⟩, hi⟩ := h
  refine ⟨ok, ⟨h1, ?_, ?_, h4⟩, hi⟩
  · show va_up τ.2 a (va_up (τ.2 a) j v) 0 = va_up σ.2 a (va_up (σ.2 a) j v) 0
    rcases ha with rfl | rfl
    · simp only [va_up]; rw [h2]
    · simp only [va_up]; exact h2
  · show va_up τ.2 a (va_up (τ.2 a) j v) 1 = va_up σ.2 a (va_up (σ.2 a) j v) 1
    rcases ha with rfl | rfl
    · simp only [va_up]; exact h3
    · simp only [va_up]; rw [h3]
/-- a descriptor of a process that isn't FREE -/
theorem kRel_7 {σ τ : kS} (h : kRel σ τ) {p d v : Nat} (hp : p < 6) (hd : d < 4) (hs : σ.1 4 p ≠ 0) (hv : v < 4) : kRel (st σ 7 (p * 4 + d) v) (st τ 7 (p * 4 + d) v) := by
  obtain ⟨ok, he, hi⟩ := h
  obtain ⟨o1, o2, o3, o4, o5, o6, o7, o8, o9, o10, o0, ⟨oc1, oc2⟩, oc3, or6⟩ := id ok
  refine ⟨kOk_of (kRng_st (kRng_of ok) 7 _ hv) oc1 oc3 or6, kEq_st he _ v (by decide), hi.1, hi.2.1, hi.2.2.1, hi.2.2.2.1, ?_, hi.2.2.2.2.2.1, hi.2.2.2.2.2.2⟩
  intro q hq hz
  obtain ⟨a1, a2, a3⟩ := hi.2.2.2.2.1 q hq hz
  refine ⟨a1, a2, fun d' hd' => ?_⟩
  have hz : σ.1 4 q = 0 := hz
  rw [st_ai, if_neg ?_]
  · exact a3 d' hd'
  · intro h9
    have : q = p := by omega
    subst this
    exact hs hz
theorem mine_ne {σ τ : kS} (h : kRel σ τ) {p : Nat} (hm : mine σ p = true) : σ.1 4 p ≠ 0 ∧ σ.1 4 p ≠ 4 := by
  have oc3 := h.1.2.2.2.2.2.2.2.2.2.2.2.2.1
  simp only [mine, Bool.or_eq_true, Bool.and_eq_true, beq_iff_eq] at hm
  rcases hm with (hm | hm) | hm
  · rw [hm, oc3]; decide
  · rw [hm.2]; decide
  · rw [hm.2]; decide
theorem rmine_c {σ τ : kS} (h : kRel σ τ) (p : Nat) : rmine τ p = mine σ p := by
  unfold rmine mine
  rw [h.e 4, h.e 5, h.e 11]
  cases (p == σ.1 11 0) <;> cases (σ.1 4 p == 1) <;> cases (σ.1 4 p == 5) <;> cases (σ.1 5 p == σ.1 11 0) <;> rfl
theorem rpage_c {σ τ : kS} (h : kRel σ τ) (g k : Nat) : rpage τ g k = mpage σ g k := by
  unfold rpage mpage
  rw [h.e 0, h.e 1, rmine_c h]
theorem rhold_c {σ τ : kS} (h : kRel σ τ) (g : Nat) : rhold τ g = mhold σ g := by
  unfold rhold mhold
  rw [rpage_c h, rpage_c h]
theorem ag_open {σ τ : kS} (h : kRel σ τ) (h0 : τ.2 2 0 = nI 0) (x y z : Int32) : kAg [eIA, eUO, eIS] σ (sp_open σ x y z) (fin τ (rs_open τ x y z)) := by
  unfold sp_open rs_open
  refine kAg_in h (by decide) fun p hp h1 h2 => kAg_in h (by decide) fun d hd h3 h4 => kAg_in h (by decide) fun i hi h5 h6 => ?_
  refine kAg_rq h (rmine_c h p) (by decide) (by decide) fun hm => ?_
  rw [h.e 7, rcof_c (h.e 7) (fun k hk => row0 h hk)]
  cases hu : (σ.1 7 (p * 4 + d) == 0) with
  | false => exact kAg_e h (by decide) (by decide)
  | true =>
    show kAg _ σ (req (cof σ i == 0) eIS _) (fin τ (rqn (true && (cof σ i == 0)) 3 _))
    refine kAg_rq h (by simp) (by decide) (by decide) fun hc => ?_
    have hu : σ.1 7 (p * 4 + d) = 0 := by simpa using hu
    have hc : cof σ i = 0 := by simpa using hc
    have e1 : cof (st (st σ 10 i 0) 7 (p * 4 + d) (i + 1)) i = 1 := by
      have hup : cof (st (st σ 10 i 0) 7 (p * 4 + d) (i + 1)) i = cof σ i + 1 := by
        unfold cof
        refine cnt_up (j := p * 4 + d) (by simp [hu]) (by simp [st_ai]) (fun k hk => ?_) (by omega)
        rw [st_ai, if_neg hk, st_ne _ _ _ (by decide)]
      rw [hup, hc]
    rw [e1, st_swap (a := 7) (b := 10) _ _ _ (Or.inl (by decide))]
    refine kAg_ok h0 (kRel_7 (kRel_o h i rfl (by decide)) (by omega) (by omega) ?_ (by omega))
    exact (mine_ne h hm).1
theorem ag_share {σ τ : kS} (h : kRel σ τ) (h0 : τ.2 2 0 = nI 0) (x y z : Int32) : kAg [eIA, eUO, eNS, eIS] σ (sp_share σ x y z) (fin τ (rs_share τ x y z)) := by
  unfold sp_share rs_share
  have o7 := h.1.2.2.2.2.2.2.1
  obtain ⟨oc1, oc2⟩ := h.1.2.2.2.2.2.2.2.2.2.2.2.1
  rw [h.e 11]
  refine kAg_in h (by decide) fun o ho h1 h2 => kAg_in h (by decide) fun p hp h3 h4 => kAg_in h (by decide) fun d hd h5 h6 => ?_
  refine kAg_rq h (rmine_c h p) (by decide) (by decide) fun hm => ?_
  rw [h.e 7]
  refine kAg_rq h rfl (by decide) (by decide) fun hn => ?_
  refine kAg_rq h rfl (by decide) (by decide) fun hu => ?_
  have hn : σ.1 7 (σ.1 11 0 * 4 + o) ≠ 0 := by simpa using hn
  have hb := o7 (σ.1 11 0 * 4 + o) (by omega)
  rw [show σ.1 7 (σ.1 11 0 * 4 + o) - 1 + 1 = σ.1 7 (σ.1 11 0 * 4 + o) by omega]
  have hr := kRel_7 h (p := p) (d := d) (v := σ.1 7 (σ.1 11 0 * 4 + o)) (by omega) (by omega) (mine_ne h hm).1 hb
  rw [rcof_c (hr.e 7) (fun k hk => row0 hr hk)]
  exact kAg_ok h0 hr
theorem ag_close {σ τ : kS} (h : kRel σ τ) (h0 : τ.2 2 0 = nI 0) (x y : Int32) : kAg [eIA, eUO, eNS] σ (sp_close σ x y) (fin τ (rs_close τ x y)) := by
  unfold sp_close rs_close
  refine kAg_in h (by decide) fun p hp h3 h4 => kAg_in h (by decide) fun d hd h5 h6 => ?_
  refine kAg_rq h (rmine_c h p) (by decide) (by decide) fun hm => ?_
  rw [h.e 7]
  refine kAg_rq h rfl (by decide) (by decide) fun hn => ?_
  have hr := kRel_7 h (p := p) (d := d) (v := 0) (by omega) (by omega) (mine_ne h hm).1 (by decide)
  rw [rcof_c (hr.e 7) (fun k hk => row0 hr hk)]
  exact kAg_ok h0 hr
/-! questions -/
theorem rown_c {σ τ : kS} (h : kRel σ τ) {p : Nat} (hp : 1 ≤ p) : rown τ p = owned σ p := by
  unfold rown owned
  rw [h.e 0, h.e 1]
  refine cnt_congr fun g hg => ?_
  have h1 := h.2.2.1 g hg
  by_cases ho : σ.1 1 g = p
  · have : σ.1 0 g ≠ 0 := fun h9 => by have := h1.mp h9; omega
    simp [ho, this]
  · simp [ho]
theorem ag_process {σ τ : kS} (h : kRel σ τ) (h0 : τ.2 2 0 = nI 0) (x y : Int32) : kAg [eIA] σ (sp_process σ x y) (fin τ (rs_process τ x y)) := by
  unfold sp_process rs_process
  refine kAg_in h (by decide) fun p hp h1 h2 => kAg_in h (by decide) fun k hk h3 h4 => ?_
  rw [h.e 4, h.e 5, h.e 6, rown_c h h1, inuse_c (h.e 7)]
  rcases (show k = 0 ∨ k = 1 ∨ k = 2 ∨ k = 3 ∨ k = 4 by omega) with rfl | rfl | rfl | rfl | rfl <;> exact kAg_ok h0 h
theorem ag_page {σ τ : kS} (h : kRel σ τ) (h0 : τ.2 2 0 = nI 0) (x y : Int32) : kAg [eIA] σ (sp_page σ x y) (fin τ (rs_page τ x y)) := by
  unfold sp_page rs_page
  refine kAg_in h (by decide) fun g hg h1 h2 => kAg_in h (by decide) fun k hk h3 h4 => ?_
  have e : filled τ g = filled σ g := by unfold filled; rw [h.e 2]
  rw [h.e 0, h.e 1, e]
  rcases (show k = 0 ∨ k = 1 ∨ k = 2 by omega) with rfl | rfl | rfl <;> exact kAg_ok h0 h
theorem ag_count {σ τ : kS} (h : kRel σ τ) (h0 : τ.2 2 0 = nI 0) (y : Int32) : kAg [eIA] σ (sp_count σ y) (fin τ (rs_count τ y)) := by
  unfold sp_count rs_count
  refine kAg_in h (by decide) fun k hk h3 h4 => ?_
  have e1 : rfree τ = owned σ 0 := by
    unfold rfree owned
    rw [h.e 0]
    refine cnt_congr fun g hg => ?_
    have h1 := h.2.2.1 g hg
    by_cases ho : σ.1 0 g = 0
    · simp [ho, h1.mp ho]
    · have h8 : σ.1 1 g ≠ 0 := fun h9 => ho (h1.mpr h9)
      rw [beq_false_of_ne ho, beq_false_of_ne h8]
  have e2 : rlive τ = live σ := by unfold rlive live; rw [h.e 4]
  have e3 : ∀ n, rpin τ n = pin σ n := by
    intro n
    induction n with
    | zero => rfl
    | succ n ih =>
      unfold rpin pin
      rw [ih, rcof_c (h.e 7) (fun k hk => row0 h hk), h.e 10]
  rw [h.e 11, e1, e2, e3]
  rcases (show k = 0 ∨ k = 1 ∨ k = 2 ∨ k = 3 by omega) with rfl | rfl | rfl | rfl <;> exact kAg_ok h0 h
