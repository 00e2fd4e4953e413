/-! Calls: words, pipes, rights, expecting. -/
theorem rfe_c {σ τ : kS} (h : kRel σ τ) (a : Nat) : rfe τ (σ.1 11 0) a = if tb σ a = 0 then 0 else fe σ a + 1 := by
  unfold rfe
  rw [h.e 2, h.e 6]
  rfl
theorem rwk_c {σ τ : kS} (h : kRel σ τ) {a : Nat} (ha : a < 64) (q : Nat) : rwk τ a q = if tb σ a = 0 then (0, wr τ 2) else if fr σ a = 0 then (0, wr τ 2) else if rgt σ a q = 0 then (0, wr (wr τ 2) 3) else (wd σ a + 1, wr (wr (wr τ 2) 3) 0) := by
  have r3 := h.2.1.2.2.2.1
  unfold rwk rrg
  rw [h.e 11, rfe_c h, h.e 2, h.e 6]
  by_cases ht : tb σ a = 0
  · rw [if_pos ht, if_pos rfl, if_pos ht]
  · rw [if_neg ht, if_neg (by omega), if_neg ht, show fe σ a + 1 - 1 = fe σ a by omega]
    by_cases hf : fr σ a = 0
    · rw [if_pos hf, if_pos (show σ.1 2 (fe σ a) = 0 from hf)]
    · rw [if_neg hf, if_neg (show ¬ σ.1 2 (fe σ a) = 0 from hf)]
      have e1 : τ.1 3 (fe σ a) = σ.1 3 (fe σ a) := r3 _ (fe_lt h.1 a ha) hf
      have e2 : τ.1 3 ((σ.1 6 (σ.1 11 0) - 1) * 4 + a / 16) = σ.1 3 (te σ a) := r3 _ (te_lt h.1 a ha) ht
      rw [e1, e2, Nat.and_comm (σ.1 3 (fe σ a))]
      rfl
theorem st_2s (σ : kS) (a j v : Nat) : (st σ a j v).2 = σ.2 := rfl
theorem sw_n (σ : kS) {a b : Nat} (j : Nat) (v : Int32) (h : b ≠ a) : (sw σ a j v).2 b = σ.2 b := by simp [sw, va_up, h]
theorem wr_1 (τ : kS) (n : Nat) : (wr τ n).2 2 1 = nI n := sw_g _ _ _ _
theorem wr_0 (τ : kS) (n : Nat) : (wr τ n).2 2 0 = τ.2 2 0 := by simp [wr, sw, va_up]
theorem kAg_wit {cs : List String} {σ τ : kS} {a q : Nat} {K : kX} {F G : Nat × kS → kF} (h : kRel σ τ) (ha : a < 64) (hF : ∀ z, F z = if z.1 = 0 then .ok (some (.int (nI 0)), sw z.2 2 0 (z.2.2 2 1)) else G z) (hc2 : kCo eNS cs 1 = 2) (hc3 : kCo eUO cs 1 = 3)
    (hk : tb σ a ≠ 0 → fr σ a ≠ 0 → kRel σ (wr (wr (wr τ 2) 3) 0) → kAg cs σ K (fin τ (G (wd σ a + 1, wr (wr (wr τ 2) 3) 0)))) : kAg cs σ (wit σ a q K) (fin τ (F (rwk τ a q))) := by
  rw [rwk_c h ha]
  unfold wit
  by_cases ht : tb σ a = 0
  · rw [if_pos ht, hF, req_f (by simp [ht])]
    exact ⟨⟨_, rfl⟩, by rw [hc2]; show (sw (wr τ 2) 2 0 ((wr τ 2).2 2 1)).2 2 0 = nI 2; rw [sw_g, wr_1], by rw [hc2]; decide, kRel_t (kRel_t h _ _) _ _⟩
  · rw [if_neg ht, req_t (by simp [ht])]
    by_cases hf : fr σ a = 0
    · rw [if_pos hf, hF, req_f (by simp [hf])]
      exact ⟨⟨_, rfl⟩, by rw [hc2]; show (sw (wr τ 2) 2 0 ((wr τ 2).2 2 1)).2 2 0 = nI 2; rw [sw_g, wr_1], by rw [hc2]; decide, kRel_t (kRel_t h _ _) _ _⟩
    · rw [if_neg hf, req_t (by simp [hf])]
      by_cases hr : rgt σ a q = 0
      · rw [if_pos hr, hF, req_f (by simp [hr])]
        exact ⟨⟨_, rfl⟩, by rw [hc3]; show (sw (wr (wr τ 2) 3) 2 0 ((wr (wr τ 2) 3).2 2 1)).2 2 0 = nI 3; rw [sw_g, wr_1], by rw [hc3]; decide, kRel_t (kRel_t (kRel_t h _ _) _ _) _ _⟩
      · rw [if_neg hr, hF, if_neg (show ¬ (wd σ a + 1 = 0) by omega), req_t (by simp [hr])]
        exact hk ht hf (kRel_t (kRel_t (kRel_t h _ _) _ _) _ _)
theorem ag_read {σ τ : kS} (h : kRel σ τ) (h0 : τ.2 2 0 = nI 0) (y : Int32) : kAg [eIA, eNS, eUO] σ (sp_read σ y) (fin τ (rs_read τ y)) := by
  unfold sp_read rs_read
  refine kAg_in h (by decide) fun a hp h1 h2 => ?_
  refine kAg_wit (G := fun z => .ok (some (.int (z.2.2 0 (z.1 - 1))), z.2)) h (by omega) (fun z => rfl) (by decide) (by decide) fun ht hf hr => ?_
  have e : σ.2 0 (wd σ a) = (wr (wr (wr τ 2) 3) 0).2 0 (wd σ a + 1 - 1) := by rw [show wd σ a + 1 - 1 = wd σ a by omega, hr.2.1.2.1]
  rw [e]
  exact kAg_ok (by rw [wr_0, wr_0, wr_0]; exact h0) hr
theorem ag_write {σ τ : kS} (h : kRel σ τ) (h0 : τ.2 2 0 = nI 0) (y v : Int32) : kAg [eIA, eNS, eUO] σ (sp_write σ y v) (fin τ (rs_write τ y v)) := by
  unfold sp_write rs_write
  refine kAg_in h (by decide) fun a hp h1 h2 => ?_
  refine kAg_wit (F := fun z => rz_write z v) (G := fun z => .ok (some (.int (z.2.2 0 (z.1 - 1))), sw z.2 0 (z.1 - 1) v)) h (by omega) (fun z => rfl) (by decide) (by decide) fun ht hf hr => ?_
  have e : σ.2 0 (wd σ a) = (wr (wr (wr τ 2) 3) 0).2 0 (wd σ a + 1 - 1) := by rw [show wd σ a + 1 - 1 = wd σ a by omega, hr.2.1.2.1]
  rw [e]
  refine kAg_ok ?_ (kRel_w hr _ v (Or.inl rfl))
  rw [sw_n _ _ _ (show 2 ≠ 0 by decide), wr_0, wr_0, wr_0]; exact h0
theorem cp_r {σ τ : kS} (h : kRel σ τ) (g k : Nat) : ∀ n, kRel (cp σ g k n) (cp τ g k n)
  | 0 => h
  | n + 1 => by
    have ih := cp_r h g k n
    unfold cp
    rw [ih.2.1.2.1]
    exact kRel_w ih _ _ (Or.inl rfl)
theorem cp_2 (τ : kS) (g k : Nat) : ∀ n, (cp τ g k n).2 2 = τ.2 2
  | 0 => rfl
  | n + 1 => by
    have ih := cp_2 τ g k n
    unfold cp
    rw [sw_n _ _ _ (show 2 ≠ 0 by decide)]; exact ih
theorem ag_copy {σ τ : kS} (h : kRel σ τ) (h0 : τ.2 2 0 = nI 0) (x y : Int32) : kAg [eIA, eUO] σ (sp_copy σ x y) (fin τ (rs_copy τ x y)) := by
  unfold sp_copy rs_copy
  refine kAg_in h (by decide) fun g hg h1 h2 => kAg_in h (by decide) fun k hk h3 h4 => ?_
  refine kAg_rq h (by rw [rpage_c h, rpage_c h]) (by decide) (by decide) fun hm => ?_
  exact kAg_ok (by unfold m_copy; rw [cp_2]; exact h0) (cp_r h g k 4)
theorem ag_put {σ τ : kS} (h : kRel σ τ) (h0 : τ.2 2 0 = nI 0) (x y : Int32) : kAg [eIA, eNS, eUO, eIS] σ (sp_put σ x y) (fin τ (rs_put τ x y)) := by
  unfold sp_put rs_put
  rw [h.e 7, h.e 11]
  refine kAg_in h (by decide) fun d hd h1 h2 => kAg_in h (by decide) fun a hp h3 h4 => ?_
  refine kAg_rq h rfl (by decide) (by decide) fun hn => ?_
  have hn : σ.1 7 (σ.1 11 0 * 4 + d) ≠ 0 := by simpa using hn
  have oc2 := h.1.2.2.2.2.2.2.2.2.2.2.2.1.2
  have hb := h.1.2.2.2.2.2.2.1 (σ.1 11 0 * 4 + d) (by omega)
  generalize hi : σ.1 7 (σ.1 11 0 * 4 + d) - 1 = i
  have hz := h.1.2.2.2.2.2.2.2.2.2.1 i (by omega)
  refine kAg_wit (F := fun z => rz_put z i) (G := fun z => if z.2.1 10 i = 4 then .ok (some (.int (nI 0)), sw z.2 2 0 (nI 4)) else rOkV (z.2.1 10 i + 1) (st (sw z.2 1 (i * 4 + z.2.1 10 i) (z.2.2 0 (z.1 - 1))) 10 i (z.2.1 10 i + 1))) h (by omega) (fun z => rfl) (by decide) (by decide) fun ht hf hr => ?_
  show kAg _ _ _ (fin τ (if (wr (wr (wr τ 2) 3) 0).1 10 i = 4 then _ else _))
  generalize hT : wr (wr (wr τ 2) 3) 0 = T at hr
  have hT0 : T.2 2 0 = nI 0 := by rw [← hT, wr_0, wr_0, wr_0]; exact h0
  show kAg _ _ _ (fin τ (if T.1 10 i = 4 then .ok (some (.int (nI 0)), sw T 2 0 (nI 4)) else rOkV (T.1 10 i + 1) (st (sw T 1 (i * 4 + T.1 10 i) (T.2 0 (wd σ a + 1 - 1))) 10 i (T.1 10 i + 1))))
  rw [hr.e 10, hr.2.1.2.1, show wd σ a + 1 - 1 = wd σ a by omega]
  by_cases h9 : σ.1 10 i = 4
  · rw [if_pos h9, req_f (by simp [h9])]
    exact ⟨⟨_, rfl⟩, sw_g _ _ _ _, by decide, kRel_t hr _ _⟩
  · rw [if_neg h9, req_t (by simp [h9])]
    refine kAg_ok ?_ (kRel_o (kRel_w hr _ _ (Or.inr rfl)) i rfl (by show _ < 5; omega))
    rw [st_2s, sw_n _ _ _ (show 2 ≠ 1 by decide)]; exact hT0
theorem sh_r {σ τ : kS} (h : kRel σ τ) (i : Nat) : ∀ n, kRel (sh σ i n) (sh τ i n)
  | 0 => h
  | n + 1 => by
    have ih := sh_r h i n
    unfold sh
    rw [ih.2.1.2.2.1]
    exact kRel_w ih _ _ (Or.inr rfl)
theorem sh_k (τ : kS) (i : Nat) {k : Nat} (hk : k ≠ 1) : ∀ n, (sh τ i n).2 k = τ.2 k
  | 0 => rfl
  | n + 1 => by
    have ih := sh_k τ i hk n
    unfold sh
    rw [sw_n _ _ _ hk]; exact ih
theorem sw_swap (σ : kS) (i j : Nat) (u v : Int32) : sw (sw σ 0 i u) 1 j v = sw (sw σ 1 j v) 0 i u := by
  refine Prod.ext rfl ?_
  funext k x
  simp only [sw, va_up]
  by_cases h0 : k = 0
  · subst h0; simp
  · by_cases h1 : k = 1
    · subst h1; simp
    · simp [h0, h1]
theorem sh_sw (σ : kS) (i w : Nat) (v : Int32) : ∀ n, sh (sw σ 0 w v) i n = sw (sh σ i n) 0 w v
  | 0 => rfl
  | n + 1 => by
    have ih := sh_sw σ i w v n
    unfold sh
    rw [ih, sw_swap]
    congr 2
theorem ag_take {σ τ : kS} (h : kRel σ τ) (h0 : τ.2 2 0 = nI 0) (x y : Int32) : kAg [eIA, eNS, eUO, eIS] σ (sp_take σ x y) (fin τ (rs_take τ x y)) := by
  unfold sp_take rs_take
  rw [h.e 7, h.e 11]
  refine kAg_in h (by decide) fun d hd h1 h2 => kAg_in h (by decide) fun a hp h3 h4 => ?_
  refine kAg_rq h rfl (by decide) (by decide) fun hn => ?_
  have hn : σ.1 7 (σ.1 11 0 * 4 + d) ≠ 0 := by simpa using hn
  have oc2 := h.1.2.2.2.2.2.2.2.2.2.2.2.1.2
  have hb := h.1.2.2.2.2.2.2.1 (σ.1 11 0 * 4 + d) (by omega)
  generalize hi : σ.1 7 (σ.1 11 0 * 4 + d) - 1 = i
  have hz := h.1.2.2.2.2.2.2.2.2.2.1 i (by omega)
  refine kAg_wit (F := fun z => rz_take z i) (G := fun z => if z.2.1 10 i = 0 then .ok (some (.int (nI 0)), sw z.2 2 0 (nI 4)) else .ok (some (.int ((rz_takeS z i).2 0 (z.1 - 1))), rz_takeS z i)) h (by omega) (fun z => rfl) (by decide) (by decide) fun ht hf hr => ?_
  generalize hT : wr (wr (wr τ 2) 3) 0 = T at hr
  have hT0 : T.2 2 0 = nI 0 := by rw [← hT, wr_0, wr_0, wr_0]; exact h0
  show kAg _ _ _ (fin τ (if T.1 10 i = 0 then .ok (some (.int (nI 0)), sw T 2 0 (nI 4)) else .ok (some (.int ((rz_takeS (wd σ a + 1, T) i).2 0 (wd σ a + 1 - 1))), rz_takeS (wd σ a + 1, T) i)))
  rw [hr.e 10, show wd σ a + 1 - 1 = wd σ a by omega]
  by_cases h9 : σ.1 10 i = 0
  · rw [if_pos h9, req_f (by simp [h9])]
    exact ⟨⟨_, rfl⟩, sw_g _ _ _ _, by decide, kRel_t hr _ _⟩
  · rw [if_neg h9, req_t (by simp [h9])]
    have e1 : rz_takeS (wd σ a + 1, T) i = sw (sh (st T 10 i (σ.1 10 i - 1)) i (σ.1 10 i - 1)) 0 (wd σ a) (σ.2 1 (i * 4)) := by
      unfold rz_takeS
      show sh (st (sw T 0 (wd σ a + 1 - 1) (T.2 1 (i * 4))) 10 i (T.1 10 i - 1)) i (T.1 10 i - 1) = _
      rw [show wd σ a + 1 - 1 = wd σ a by omega, hr.2.1.2.2.1, hr.e 10]
      exact sh_sw (st T 10 i (σ.1 10 i - 1)) i (wd σ a) (σ.2 1 (i * 4)) (σ.1 10 i - 1)
    rw [e1, sw_g]
    refine kAg_ok ?_ (kRel_w (sh_r (kRel_o hr i rfl (by show _ < 5; omega)) i _) _ _ (Or.inl rfl))
    rw [sw_n _ _ _ (show 2 ≠ 0 by decide), sh_k _ _ (by decide)]; exact hT0
theorem ag_protect {σ τ : kS} (h : kRel σ τ) (h0 : τ.2 2 0 = nI 0) (x y z : Int32) : kAg [eIA, eUO, eNS] σ (sp_protect σ x y z) (fin τ (rs_protect τ x y z)) := by
  unfold sp_protect rs_protect
  rw [h.e 2]
  refine kAg_in h (by decide) fun g hg h1 h2 => kAg_in h (by decide) fun en he h3 h4 => kAg_in h (by decide) fun rr hr h5 h6 => ?_
  refine kAg_rq h (rhold_c h g) (by decide) (by decide) fun hm => ?_
  refine kAg_rq h rfl (by decide) (by decide) fun hn => ?_
  have hn : σ.1 2 (g * 4 + en) ≠ 0 := by simpa using hn
  obtain ⟨ok, ⟨q1, q2, q3, q4, q5, q6⟩, hi⟩ := h
  rw [q4 _ (by omega) hn]
  unfold m_setEntry
  rw [st_id]
  refine kAg_ok h0 ⟨?_, ?_, hi⟩
  · obtain ⟨o1, o2, o3, o4, o5, o6, o7, o8, o9, o10, o0, ⟨oc1, oc2⟩, oc3, or6⟩ := id ok
    exact kOk_of (kRng_st (kRng_of ok) 3 _ (by show _ < 4; omega)) oc1 oc3 or6
  · refine ⟨fun k a0 a1 a2 a3 => ?_, q2, q3, fun i hi' hne => ?_, fun i hi' => ?_, q6⟩
    · rw [st_ne _ _ _ a1, st_ne _ _ _ a1]; exact q1 k a0 a1 a2 a3
    · rw [st_ai, st_ai]
      by_cases h9 : i = g * 4 + en
      · rw [if_pos h9, if_pos h9]
      · rw [if_neg h9, if_neg h9]; exact q4 i hi' hne
    · rw [st_ai]
      by_cases h9 : i = g * 4 + en
      · rw [if_pos h9]; omega
      · rw [if_neg h9]; exact q5 i hi'
theorem kEq_l {σ τ : kS} {a : Nat} (h : kEq σ τ) (j v : Nat) (ha : a = 8 ∨ a = 9) : kEq (st σ a j v) τ := by
  obtain ⟨q1, q2, q3, q4, q5, q6⟩ := h
  have a2 : 2 ≠ a := by rcases ha with rfl | rfl <;> decide
  have a3 : 3 ≠ a := by rcases ha with rfl | rfl <;> decide
  refine ⟨fun k b0 b1 b2 b3 => ?_, q2, q3, ?_, q5, q6⟩
  · rw [st_ne _ _ _ (by rcases ha with rfl | rfl <;> assumption)]; exact q1 k b0 b1 b2 b3
  · rw [st_ne _ _ _ a2, st_ne _ _ _ a3]; exact q4
theorem kEq_r {σ τ : kS} (h : kEq σ τ) (j : Nat) {v : Nat} (hv : v < 64) : kEq σ (st τ 8 j v) := by
  obtain ⟨q1, q2, q3, q4, q5, q6⟩ := h
  refine ⟨fun k b0 b1 b2 b3 => ?_, q2, q3, q4, q5, fun p hp => ?_⟩
  · rw [st_ne _ _ _ b2]; exact q1 k b0 b1 b2 b3
  · rw [st_ai]
    split
    · exact hv
    · exact q6 p hp
theorem ag_expect {σ τ : kS} (h : kRel σ τ) (h0 : τ.2 2 0 = nI 0) (x y : Int32) : kAg [eIA, eIS, eNS, eUO] σ (sp_expect σ x y) (fin τ (rs_expect τ x y)) := by
  unfold sp_expect rs_expect r_hand
  have h11 := h.e 11
  rw [h.e 4, h11]
  refine kAg_in h (by decide) fun p hp h1 h2 => kAg_in h (by decide) fun a ha h3 h4 => ?_
  refine kAg_rq h rfl (by decide) (by decide) fun hs => ?_
  have hs : σ.1 4 p = 2 := by simpa using hs
  rw [rfe_c h, h.e 2]
  refine kAg_rq h (by by_cases ht : tb σ a = 0 <;> simp [ht]) (by decide) (by decide) fun ht => ?_
  have ht : tb σ a ≠ 0 := by simpa using ht
  rw [if_neg ht, show fe σ a + 1 - 1 = fe σ a by omega]
  refine kAg_rq h rfl (by decide) (by decide) fun hf => ?_
  have hf : fr σ a = 0 := by simpa using hf
  obtain ⟨ok, he, hi⟩ := h
  obtain ⟨o1, o2, o3, o4, o5, o6, o7, o8, o9, o10, o0, ⟨oc1, oc2⟩, oc3, or6⟩ := id ok
  have hne : p ≠ σ.1 11 0 := fun h9 => by rw [← h9] at oc3; omega
  have e11' : (st τ 8 (σ.1 11 0) a).1 11 0 = σ.1 11 0 := by rw [st_ne _ _ _ (by decide), h11]
  rw [e11']
  have htb := ok.tbl a (by omega)
  have e4 : ∀ q, (m_run (st (st (st σ 4 (σ.1 11 0) 4) 8 (σ.1 11 0) (tb σ a - 1)) 9 (σ.1 11 0) (a / 4 % 4)) p).1 4 q = if q = p then 3 else if q = σ.1 11 0 then 4 else σ.1 4 q := by
    intro q
    unfold m_run
    rw [st_ne _ _ _ (by decide), st_ai, st_ne _ _ _ (by decide), st_ne _ _ _ (by decide), st_ai]
  have ez : ∀ q, q < 6 → ((m_run (st (st (st σ 4 (σ.1 11 0) 4) 8 (σ.1 11 0) (tb σ a - 1)) 9 (σ.1 11 0) (a / 4 % 4)) p).1 4 q = 0 ↔ σ.1 4 q = 0) := by
    intro q hq
    rw [e4]
    by_cases hqp : q = p
    · subst hqp; simp [hs]
    · rw [if_neg hqp]
      by_cases hqc : q = σ.1 11 0
      · rw [if_pos hqc, hqc, oc3]; simp
      · rw [if_neg hqc]
  have e11 : (m_run (st (st (st σ 4 (σ.1 11 0) 4) 8 (σ.1 11 0) (tb σ a - 1)) 9 (σ.1 11 0) (a / 4 % 4)) p).1 11 0 = p := by unfold m_run; rw [st_ai, if_pos rfl]
  refine kAg_ok h0 ⟨kOk_of ?_ (by rw [e11]; exact h1) (by rw [e11, e4, if_pos rfl]) (fun q hq h9 => or6 q hq (fun h8 => h9 ((ez q hq).mpr h8))), ?_, ?_⟩
  · unfold m_run
    exact kRng_st (kRng_st (kRng_st (kRng_st (kRng_st (kRng_of ok) 4 _ (by decide)) 8 _ (by show _ < 20; omega)) 9 _ (by show _ < 4; omega)) 4 p (by decide)) 11 0 (by show _ < 6; omega)
  · unfold m_run
    exact kEq_st (kEq_st (kEq_l (kEq_l (kEq_st (kEq_r he _ (by omega)) _ 4 (by decide)) _ _ (Or.inl rfl)) _ _ (Or.inr rfl)) p 3 (by decide)) 0 p (by decide)
  · refine kInv_q hi rfl rfl rfl rfl rfl rfl ez (fun q a1 a2 a3 => ?_)
    rw [e4] at a3
    by_cases hqp : q = p
    · rw [if_pos hqp] at a3; omega
    · rw [if_neg hqp] at a3
      have e8 : (m_run (st (st (st σ 4 (σ.1 11 0) 4) 8 (σ.1 11 0) (tb σ a - 1)) 9 (σ.1 11 0) (a / 4 % 4)) p).1 8 q = if q = σ.1 11 0 then tb σ a - 1 else σ.1 8 q := by
        unfold m_run
        rw [st_ne _ _ _ (by decide), st_ne _ _ _ (by decide), st_ne _ _ _ (by decide), st_ai, st_ne _ _ _ (by decide)]
      have e9 : (m_run (st (st (st σ 4 (σ.1 11 0) 4) 8 (σ.1 11 0) (tb σ a - 1)) 9 (σ.1 11 0) (a / 4 % 4)) p).1 9 q = if q = σ.1 11 0 then a / 4 % 4 else σ.1 9 q := by
        unfold m_run
        rw [st_ne _ _ _ (by decide), st_ne _ _ _ (by decide), st_ai, st_ne _ _ _ (by decide), st_ne _ _ _ (by decide)]
      have ew : (st (st (st (st τ 8 (σ.1 11 0) a) 4 (σ.1 11 0) 4) 4 p 3) 11 0 p).1 8 q = if q = σ.1 11 0 then a else τ.1 8 q := by
        rw [st_ne _ _ _ (by decide), st_ne _ _ _ (by decide), st_ne _ _ _ (by decide), st_ai]
      rw [e8, e9, ew]
      show σ.1 2 ((σ.1 6 q - 1) * 4 + _) = _ ∧ _ ∧ σ.1 2 _ = 0
      by_cases hqc : q = σ.1 11 0
      · rw [if_pos hqc, if_pos hqc, if_pos hqc, hqc]
        exact ⟨by show tb σ a = _; omega, rfl, hf⟩
      · rw [if_neg hqc] at a3
        rw [if_neg hqc, if_neg hqc, if_neg hqc]
        exact hi.2.2.2.2.2.2 q a1 a2 a3
