/-! The reference's own methods. Laid by a program of mine (wip/gen). -/
set_option maxHeartbeats 4000000 in
set_option maxRecDepth 100000 in
theorem c_Mod_raise {l : Launch} {s0 : State} {a0 : Array Value} {D : va_G} {cI cL : ClassId} (K0 : k0 l s0 a0 D cI cL) (ad : Nat → Nat) (κ : kS) (o : va_W) (σ : kS) (cd : Int32)  : kMet l y_Mod_raise (Cond.code y_Mod_raise b_Mod_raise 2 (some .int)) (rmL 0) [.ref (ad 17), .int cd] (kPre D vwCl s0 (wX ad cI κ o) σ) (.ok (some (.int (nI 0)), sw σ 2 0 cd)) (kBw D vwCl s0 (wX ad cI κ o)) := by
  refine k_of (by decide) (Nat.le_of_ble_eq_true rfl) ?_
  intro p e9 s m below meth c hx hb hr hlocks hown hml hex hpre ls hl
  obtain ⟨hE, hP, hD⟩ := hpre
  obtain ⟨hts, hK⟩ := K0.at (args := ([.ref (ad 17), .int cd] : List Value).toArray) hE
  have hl : lv_has ls 2 [(0, .ref (ad 17)), (1, .int cd)] := hl
  have hS : va_S (kA s0) s.heap s.heap [] := va_S.rf
  refine lv_aload_n hx hb d_Mod_raise_0 rfl (lv_at hl 0 rfl) ?_
  refine lv_iload_n hx hb d_Mod_raise_1 rfl (lv_at hl 1 rfl) ?_
  refine va_put (D := D) (ci := nMod) (v := .int cd) (ty := .int) (C := R_Mod) (T := T_Mod) (N := 15) hx hb hts i_Mod ty_Mod ty_Mod_ok nm_Mod hown hK hP hD hS 17 rfl rfl 0 (by decide) (hts _ tw_655) (fun _ h9 => h9) rfl (by decide +kernel) rfl rfl (Nat.le_of_ble_eq_true rfl) d_Mod_raise_2 (fun H locs hP hD hS => ?_)
  obtain ⟨σ1, eσ1⟩ : ∃ z : kS, z = (sw σ 2 0 cd) := ⟨_, rfl⟩
  have hP : va_P D vwCl (wX ad cI κ o σ1) H := by rw [eσ1]; exact hP
  have hD : va_D (kA s0) (wX ad cI κ o σ1) := by rw [eσ1]; exact hD
  refine lv_iconst (v := (nI 0)) hx hb d_Mod_raise_5 (by decide) ?_
  exact k_retWI hx hb hr hlocks d_Mod_raise_6 hP hD hS (by subst eσ1; rfl)
set_option maxHeartbeats 4000000 in
set_option maxRecDepth 100000 in
theorem c_Mod_thrown {l : Launch} {s0 : State} {a0 : Array Value} {D : va_G} {cI cL : ClassId} (K0 : k0 l s0 a0 D cI cL) (ad : Nat → Nat) (κ : kS) (o : va_W) (σ : kS)   : kMet l y_Mod_thrown (Cond.code y_Mod_thrown b_Mod_thrown 1 (some .int)) (rmL 0) [.ref (ad 17)] (kPre D vwCl s0 (wX ad cI κ o) σ) (.ok (some (.int (σ.2 2 0)), ())) kBr := by
  refine k_of (by decide) (Nat.le_of_ble_eq_true rfl) ?_
  intro p e9 s m below meth c hx hb hr hlocks hown hml hex hpre ls hl
  obtain ⟨hE, hP, hD⟩ := hpre
  obtain ⟨hts, hK⟩ := K0.at (args := ([.ref (ad 17)] : List Value).toArray) hE
  have hl : lv_has ls 1 [(0, .ref (ad 17))] := hl
  have hS : va_S (kA s0) s.heap s.heap [] := va_S.rf
  refine lv_aload_n hx hb d_Mod_thrown_0 rfl (lv_at hl 0 rfl) ?_
  refine va_get (D := D) (ci := nMod) (v := .int (σ.2 2 0)) (C := R_Mod) (T := T_Mod) (N := 15) hx hb hts i_Mod hown hK hP 17 rfl rfl 0 (by decide) (hts _ tw_655) (fun _ h9 => h9) rfl d_Mod_thrown_1 ?_
  exact k_retI hx hb hr hlocks d_Mod_thrown_4 (rfl)
set_option maxHeartbeats 4000000 in
set_option maxRecDepth 100000 in
theorem c_Mod_mine {l : Launch} {s0 : State} {a0 : Array Value} {D : va_G} {cI cL : ClassId} (K0 : k0 l s0 a0 D cI cL) (ad : Nat → Nat) (κ : kS) (o : va_W) (σ : kS) (q : Nat) (hq : q < 6) (hb4 : ∀ i, i < 6 → σ.1 4 i < 2 ^ 30) (hb5 : ∀ i, i < 6 → σ.1 5 i < 2 ^ 30) (hc : σ.1 11 0 < 6) : kMet l y_Mod_mine (Cond.code y_Mod_mine b_Mod_mine 2 (some .boolean)) (rmL 0) [.ref (ad 17), .int (nI q)] (kPre D vwCl s0 (wX ad cI κ o) σ) (.ok (some (.int (nI (b2n (rmine σ q)))), ())) kBr := by
  refine k_of (by decide) (Nat.le_of_ble_eq_true rfl) ?_
  intro p e9 s m below meth c hx hb hr hlocks hown hml hex hpre ls hl
  obtain ⟨hE, hP, hD⟩ := hpre
  obtain ⟨hts, hK⟩ := K0.at (args := ([.ref (ad 17), .int (nI q)] : List Value).toArray) hE
  have hl : lv_has ls 2 [(0, .ref (ad 17)), (1, .int (nI q))] := hl
  have hS : va_S (kA s0) s.heap s.heap [] := va_S.rf
  refine lv_iload_n hx hb d_Mod_mine_0 rfl (lv_at hl 1 rfl) ?_
  refine lv_aload_n hx hb d_Mod_mine_1 rfl (lv_at hl 0 rfl) ?_
  refine va_get (D := D) (ci := nMod) (v := .int (nI (σ.1 11 0))) (C := R_Mod) (T := T_Mod) (N := 15) hx hb hts i_Mod hown hK hP 17 rfl rfl 13 (by decide) (hts _ tw_668) (fun _ h9 => h9) rfl d_Mod_mine_2 ?_
  refine k_eqN (tgt := 41) (by omega) (by omega) hx hb d_Mod_mine_5 (by decide) (fun h1 => ?_) (fun h1 => ?_)
  · refine lv_iconst (v := (nI 1)) hx hb d_Mod_mine_41 (by decide) ?_
    refine lv_goto (tgt := 46) hx hb d_Mod_mine_42 (by decide) ?_
    exact k_retZ hx hb hr hlocks (by decide) d_Mod_mine_46 (by first | rfl | (simp [rmine, b2n, eIA, eIS, eUO, eNS, h1]; done) | (simp [rmine, b2n, eIA, eIS, eUO, eNS, h1]; rfl) | (simp [rmine, b2n, eIA, eIS, eUO, eNS, beq_iff_eq.mpr h1]; done) | (simp [rmine, b2n, eIA, eIS, eUO, eNS, beq_iff_eq.mpr h1]; rfl) | (simp only [rmine, b2n, eIA, eIS, eUO, eNS, h1]; rfl))
  · refine lv_aload_n hx hb d_Mod_mine_8 rfl (lv_at hl 0 rfl) ?_
    refine va_get (D := D) (ci := nMod) (v := .ref (ad 18)) (C := R_Mod) (T := T_Mod) (N := 15) hx hb hts i_Mod hown hK hP 17 rfl rfl 1 (by decide) (hts _ tw_656) (fun _ h9 => h9) rfl d_Mod_mine_9 ?_
    refine lv_iload_n hx hb d_Mod_mine_12 rfl (lv_at hl 1 rfl) ?_
    refine k_aldN (q0 := 18) (t0 := 0) hx hb hK hP rfl rfl (by omega) (by decide) d_Mod_mine_13 ?_
    refine lv_iconst (v := (nI 1)) hx hb d_Mod_mine_14 (by decide) ?_
    refine k_eqN (tgt := 28) (Nat.lt_of_lt_of_le (hb4 _ (by omega)) (by decide)) (by omega) hx hb d_Mod_mine_15 (by decide) (fun h2 => ?_) (fun h2 => ?_)
    · refine lv_aload_n hx hb d_Mod_mine_28 rfl (lv_at hl 0 rfl) ?_
      refine va_get (D := D) (ci := nMod) (v := .ref (ad 19)) (C := R_Mod) (T := T_Mod) (N := 15) hx hb hts i_Mod hown hK hP 17 rfl rfl 2 (by decide) (hts _ tw_657) (fun _ h9 => h9) rfl d_Mod_mine_29 ?_
      refine lv_iload_n hx hb d_Mod_mine_32 rfl (lv_at hl 1 rfl) ?_
      refine k_aldN (q0 := 19) (t0 := 0) hx hb hK hP rfl rfl (by omega) (by decide) d_Mod_mine_33 ?_
      refine lv_aload_n hx hb d_Mod_mine_34 rfl (lv_at hl 0 rfl) ?_
      refine va_get (D := D) (ci := nMod) (v := .int (nI (σ.1 11 0))) (C := R_Mod) (T := T_Mod) (N := 15) hx hb hts i_Mod hown hK hP 17 rfl rfl 13 (by decide) (hts _ tw_668) (fun _ h9 => h9) rfl d_Mod_mine_35 ?_
      refine k_neN (tgt := 45) (Nat.lt_of_lt_of_le (hb5 _ (by omega)) (by decide)) (by omega) hx hb d_Mod_mine_38 (by decide) (fun h3 => ?_) (fun h3 => ?_)
      · refine lv_iconst (v := (nI 0)) hx hb d_Mod_mine_45 (by decide) ?_
        exact k_retZ hx hb hr hlocks (by decide) d_Mod_mine_46 (by first | rfl | (simp [rmine, b2n, eIA, eIS, eUO, eNS, h1, h2, h3, beq_false_of_ne h1, beq_false_of_ne h3, bne_iff_ne.mpr h1, bne_iff_ne.mpr h3]; done) | (simp [rmine, b2n, eIA, eIS, eUO, eNS, h1, h2, h3, beq_false_of_ne h1, beq_false_of_ne h3, bne_iff_ne.mpr h1, bne_iff_ne.mpr h3]; rfl) | (simp [rmine, b2n, eIA, eIS, eUO, eNS, h1, h3, beq_iff_eq.mpr h2, beq_false_of_ne h1, beq_false_of_ne h3, bne_iff_ne.mpr h1, bne_iff_ne.mpr h3]; done) | (simp [rmine, b2n, eIA, eIS, eUO, eNS, h1, h3, beq_iff_eq.mpr h2, beq_false_of_ne h1, beq_false_of_ne h3, bne_iff_ne.mpr h1, bne_iff_ne.mpr h3]; rfl) | (simp only [rmine, b2n, eIA, eIS, eUO, eNS, h1, h2, h3, beq_false_of_ne h1, beq_false_of_ne h3, bne_iff_ne.mpr h1, bne_iff_ne.mpr h3]; rfl))
      · refine lv_iconst (v := (nI 1)) hx hb d_Mod_mine_41 (by decide) ?_
        refine lv_goto (tgt := 46) hx hb d_Mod_mine_42 (by decide) ?_
        exact k_retZ hx hb hr hlocks (by decide) d_Mod_mine_46 (by first | rfl | (simp [rmine, b2n, eIA, eIS, eUO, eNS, h1, h2, h3, beq_false_of_ne h1, bne_iff_ne.mpr h1]; done) | (simp [rmine, b2n, eIA, eIS, eUO, eNS, h1, h2, h3, beq_false_of_ne h1, bne_iff_ne.mpr h1]; rfl) | (simp [rmine, b2n, eIA, eIS, eUO, eNS, h1, beq_iff_eq.mpr h2, beq_iff_eq.mpr h3, beq_false_of_ne h1, bne_iff_ne.mpr h1]; done) | (simp [rmine, b2n, eIA, eIS, eUO, eNS, h1, beq_iff_eq.mpr h2, beq_iff_eq.mpr h3, beq_false_of_ne h1, bne_iff_ne.mpr h1]; rfl) | (simp only [rmine, b2n, eIA, eIS, eUO, eNS, h1, h2, h3, beq_false_of_ne h1, bne_iff_ne.mpr h1]; rfl))
    · refine lv_aload_n hx hb d_Mod_mine_18 rfl (lv_at hl 0 rfl) ?_
      refine va_get (D := D) (ci := nMod) (v := .ref (ad 18)) (C := R_Mod) (T := T_Mod) (N := 15) hx hb hts i_Mod hown hK hP 17 rfl rfl 1 (by decide) (hts _ tw_656) (fun _ h9 => h9) rfl d_Mod_mine_19 ?_
      refine lv_iload_n hx hb d_Mod_mine_22 rfl (lv_at hl 1 rfl) ?_
      refine k_aldN (q0 := 18) (t0 := 0) hx hb hK hP rfl rfl (by omega) (by decide) d_Mod_mine_23 ?_
      refine lv_iconst (v := (nI 5)) hx hb d_Mod_mine_24 (by decide) ?_
      refine k_neN (tgt := 45) (Nat.lt_of_lt_of_le (hb4 _ (by omega)) (by decide)) (by omega) hx hb d_Mod_mine_25 (by decide) (fun h4 => ?_) (fun h4 => ?_)
      · refine lv_iconst (v := (nI 0)) hx hb d_Mod_mine_45 (by decide) ?_
        exact k_retZ hx hb hr hlocks (by decide) d_Mod_mine_46 (by first | rfl | (simp [rmine, b2n, eIA, eIS, eUO, eNS, h1, h2, h4, beq_false_of_ne h1, beq_false_of_ne h2, beq_false_of_ne h4, bne_iff_ne.mpr h1, bne_iff_ne.mpr h2, bne_iff_ne.mpr h4]; done) | (simp [rmine, b2n, eIA, eIS, eUO, eNS, h1, h2, h4, beq_false_of_ne h1, beq_false_of_ne h2, beq_false_of_ne h4, bne_iff_ne.mpr h1, bne_iff_ne.mpr h2, bne_iff_ne.mpr h4]; rfl) | (simp [rmine, b2n, eIA, eIS, eUO, eNS, h1, h2, h4, beq_false_of_ne h1, beq_false_of_ne h2, beq_false_of_ne h4, bne_iff_ne.mpr h1, bne_iff_ne.mpr h2, bne_iff_ne.mpr h4]; done) | (simp [rmine, b2n, eIA, eIS, eUO, eNS, h1, h2, h4, beq_false_of_ne h1, beq_false_of_ne h2, beq_false_of_ne h4, bne_iff_ne.mpr h1, bne_iff_ne.mpr h2, bne_iff_ne.mpr h4]; rfl) | (simp only [rmine, b2n, eIA, eIS, eUO, eNS, h1, h2, h4, beq_false_of_ne h1, beq_false_of_ne h2, beq_false_of_ne h4, bne_iff_ne.mpr h1, bne_iff_ne.mpr h2, bne_iff_ne.mpr h4]; rfl))
      · refine lv_aload_n hx hb d_Mod_mine_28 rfl (lv_at hl 0 rfl) ?_
        refine va_get (D := D) (ci := nMod) (v := .ref (ad 19)) (C := R_Mod) (T := T_Mod) (N := 15) hx hb hts i_Mod hown hK hP 17 rfl rfl 2 (by decide) (hts _ tw_657) (fun _ h9 => h9) rfl d_Mod_mine_29 ?_
        refine lv_iload_n hx hb d_Mod_mine_32 rfl (lv_at hl 1 rfl) ?_
        refine k_aldN (q0 := 19) (t0 := 0) hx hb hK hP rfl rfl (by omega) (by decide) d_Mod_mine_33 ?_
        refine lv_aload_n hx hb d_Mod_mine_34 rfl (lv_at hl 0 rfl) ?_
        refine va_get (D := D) (ci := nMod) (v := .int (nI (σ.1 11 0))) (C := R_Mod) (T := T_Mod) (N := 15) hx hb hts i_Mod hown hK hP 17 rfl rfl 13 (by decide) (hts _ tw_668) (fun _ h9 => h9) rfl d_Mod_mine_35 ?_
        refine k_neN (tgt := 45) (Nat.lt_of_lt_of_le (hb5 _ (by omega)) (by decide)) (by omega) hx hb d_Mod_mine_38 (by decide) (fun h5 => ?_) (fun h5 => ?_)
        · refine lv_iconst (v := (nI 0)) hx hb d_Mod_mine_45 (by decide) ?_
          exact k_retZ hx hb hr hlocks (by decide) d_Mod_mine_46 (by first | rfl | (simp [rmine, b2n, eIA, eIS, eUO, eNS, h1, h2, h4, h5, beq_false_of_ne h1, beq_false_of_ne h2, beq_false_of_ne h5, bne_iff_ne.mpr h1, bne_iff_ne.mpr h2, bne_iff_ne.mpr h5]; done) | (simp [rmine, b2n, eIA, eIS, eUO, eNS, h1, h2, h4, h5, beq_false_of_ne h1, beq_false_of_ne h2, beq_false_of_ne h5, bne_iff_ne.mpr h1, bne_iff_ne.mpr h2, bne_iff_ne.mpr h5]; rfl) | (simp [rmine, b2n, eIA, eIS, eUO, eNS, h1, h2, h5, beq_iff_eq.mpr h4, beq_false_of_ne h1, beq_false_of_ne h2, beq_false_of_ne h5, bne_iff_ne.mpr h1, bne_iff_ne.mpr h2, bne_iff_ne.mpr h5]; done) | (simp [rmine, b2n, eIA, eIS, eUO, eNS, h1, h2, h5, beq_iff_eq.mpr h4, beq_false_of_ne h1, beq_false_of_ne h2, beq_false_of_ne h5, bne_iff_ne.mpr h1, bne_iff_ne.mpr h2, bne_iff_ne.mpr h5]; rfl) | (simp only [rmine, b2n, eIA, eIS, eUO, eNS, h1, h2, h4, h5, beq_false_of_ne h1, beq_false_of_ne h2, beq_false_of_ne h5, bne_iff_ne.mpr h1, bne_iff_ne.mpr h2, bne_iff_ne.mpr h5]; rfl))
        · refine lv_iconst (v := (nI 1)) hx hb d_Mod_mine_41 (by decide) ?_
          refine lv_goto (tgt := 46) hx hb d_Mod_mine_42 (by decide) ?_
          exact k_retZ hx hb hr hlocks (by decide) d_Mod_mine_46 (by first | rfl | (simp [rmine, b2n, eIA, eIS, eUO, eNS, h1, h2, h4, h5, beq_false_of_ne h1, beq_false_of_ne h2, bne_iff_ne.mpr h1, bne_iff_ne.mpr h2]; done) | (simp [rmine, b2n, eIA, eIS, eUO, eNS, h1, h2, h4, h5, beq_false_of_ne h1, beq_false_of_ne h2, bne_iff_ne.mpr h1, bne_iff_ne.mpr h2]; rfl) | (simp [rmine, b2n, eIA, eIS, eUO, eNS, h1, h2, beq_iff_eq.mpr h4, beq_iff_eq.mpr h5, beq_false_of_ne h1, beq_false_of_ne h2, bne_iff_ne.mpr h1, bne_iff_ne.mpr h2]; done) | (simp [rmine, b2n, eIA, eIS, eUO, eNS, h1, h2, beq_iff_eq.mpr h4, beq_iff_eq.mpr h5, beq_false_of_ne h1, beq_false_of_ne h2, bne_iff_ne.mpr h1, bne_iff_ne.mpr h2]; rfl) | (simp only [rmine, b2n, eIA, eIS, eUO, eNS, h1, h2, h4, h5, beq_false_of_ne h1, beq_false_of_ne h2, bne_iff_ne.mpr h1, bne_iff_ne.mpr h2]; rfl))
set_option maxHeartbeats 4000000 in
set_option maxRecDepth 100000 in
theorem c_Mod_minePage {l : Launch} {s0 : State} {a0 : Array Value} {D : va_G} {cI cL : ClassId} (K0 : k0 l s0 a0 D cI cL) (ad : Nat → Nat) (κ : kS) (o : va_W) (σ : kS) (g : Nat) (kk : Nat) (hg : g < 20) (hk : kk < 6) (hb0 : ∀ i, i < 20 → σ.1 0 i < 2 ^ 30) (ho : σ.1 1 g < 6) (hb4 : ∀ i, i < 6 → σ.1 4 i < 2 ^ 30) (hb5 : ∀ i, i < 6 → σ.1 5 i < 2 ^ 30) (hc : σ.1 11 0 < 6) : kMet l y_Mod_minePage (Cond.code y_Mod_minePage b_Mod_minePage 3 (some .boolean)) (rmL 1) [.ref (ad 17), .int (nI g), .int (nI kk)] (kPre D vwCl s0 (wX ad cI κ o) σ) (.ok (some (.int (nI (b2n (rpage σ g kk)))), ())) kBr := by
  refine k_of (by decide) (Nat.le_of_ble_eq_true rfl) ?_
  intro p e9 s m below meth c hx hb hr hlocks hown hml hex hpre ls hl
  obtain ⟨hE, hP, hD⟩ := hpre
  obtain ⟨hts, hK⟩ := K0.at (args := ([.ref (ad 17), .int (nI g), .int (nI kk)] : List Value).toArray) hE
  have hl : lv_has ls 3 [(0, .ref (ad 17)), (1, .int (nI g)), (2, .int (nI kk))] := hl
  have hS : va_S (kA s0) s.heap s.heap [] := va_S.rf
  refine lv_aload_n hx hb d_Mod_minePage_0 rfl (lv_at hl 0 rfl) ?_
  refine va_get (D := D) (ci := nMod) (v := .ref (ad 23)) (C := R_Mod) (T := T_Mod) (N := 15) hx hb hts i_Mod hown hK hP 17 rfl rfl 6 (by decide) (hts _ tw_661) (fun _ h9 => h9) rfl d_Mod_minePage_1 ?_
  refine lv_iload_n hx hb d_Mod_minePage_4 rfl (lv_at hl 1 rfl) ?_
  refine k_aldN (q0 := 23) (t0 := 0) hx hb hK hP rfl rfl (by omega) (by decide) d_Mod_minePage_5 ?_
  refine lv_iload_n hx hb d_Mod_minePage_6 rfl (lv_at hl 2 rfl) ?_
  refine k_neN (tgt := 27) (Nat.lt_of_lt_of_le (hb0 _ (by omega)) (by decide)) (by omega) hx hb d_Mod_minePage_7 (by decide) (fun h1 => ?_) (fun h1 => ?_)
  · refine lv_iconst (v := (nI 0)) hx hb d_Mod_minePage_27 (by decide) ?_
    exact k_retZ hx hb hr hlocks (by decide) d_Mod_minePage_28 (by first | rfl | (simp [rpage, b2n, eIA, eIS, eUO, eNS, h1, beq_false_of_ne h1, bne_iff_ne.mpr h1]; done) | (simp [rpage, b2n, eIA, eIS, eUO, eNS, h1, beq_false_of_ne h1, bne_iff_ne.mpr h1]; rfl) | (simp [rpage, b2n, eIA, eIS, eUO, eNS, h1, beq_false_of_ne h1, bne_iff_ne.mpr h1]; done) | (simp [rpage, b2n, eIA, eIS, eUO, eNS, h1, beq_false_of_ne h1, bne_iff_ne.mpr h1]; rfl) | (simp only [rpage, b2n, eIA, eIS, eUO, eNS, h1, beq_false_of_ne h1, bne_iff_ne.mpr h1]; rfl))
  · refine lv_aload_n hx hb d_Mod_minePage_10 rfl (lv_at hl 0 rfl) ?_
    refine lv_aload_n hx hb d_Mod_minePage_11 rfl (lv_at hl 0 rfl) ?_
    refine va_get (D := D) (ci := nMod) (v := .ref (ad 24)) (C := R_Mod) (T := T_Mod) (N := 15) hx hb hts i_Mod hown hK hP 17 rfl rfl 7 (by decide) (hts _ tw_662) (fun _ h9 => h9) rfl d_Mod_minePage_12 ?_
    refine lv_iload_n hx hb d_Mod_minePage_15 rfl (lv_at hl 1 rfl) ?_
    refine k_aldN (q0 := 24) (t0 := 0) hx hb hK hP rfl rfl (by omega) (by decide) d_Mod_minePage_16 ?_
    rcases hq2 : rmine σ (σ.1 1 g) with _ | _
    · refine k_callR (k_atV (As := [.int (nI (σ.1 1 g))]) hx hb hown hE.1 (K0.w tw_741) (hts _ tw_738) (hts _ tw_740) (hts _ tw_9024) (hts _ tw_5) (by decide) np_Mod_mine (va_recv hK hP (ci := nMod) (q0 := 17) rfl rfl) rfl d_Mod_minePage_17) (kb_f hq2 (c_Mod_mine K0 ad κ o σ (σ.1 1 g) (by omega) hb4 hb5 (by omega))) (hl.1.trans hml.symm) (Nat.le_of_ble_eq_true rfl) ⟨Nat.le_of_ble_eq_true rfl, Nat.le_of_ble_eq_true rfl, Nat.le_of_ble_eq_true rfl, Nat.le_of_ble_eq_true rfl⟩ (fun U hU hW => ⟨hE.go hW hU hS, by rw [hU]; exact hP, hD⟩) ?_
      refine k_if0 (tgt := 27) (by decide) hx hb d_Mod_minePage_20 (by decide) (fun _ => ?_) (fun h9 => absurd h9 (by decide))
      refine lv_iconst (v := (nI 0)) hx hb d_Mod_minePage_27 (by decide) ?_
      exact k_retZ hx hb hr hlocks (by decide) d_Mod_minePage_28 (by first | rfl | (simp [rpage, b2n, eIA, eIS, eUO, eNS, h1, hq2]; done) | (simp [rpage, b2n, eIA, eIS, eUO, eNS, h1, hq2]; rfl) | (simp [rpage, b2n, eIA, eIS, eUO, eNS, hq2, beq_iff_eq.mpr h1]; done) | (simp [rpage, b2n, eIA, eIS, eUO, eNS, hq2, beq_iff_eq.mpr h1]; rfl) | (simp only [rpage, b2n, eIA, eIS, eUO, eNS, h1, hq2]; rfl))
    · refine k_callR (k_atV (As := [.int (nI (σ.1 1 g))]) hx hb hown hE.1 (K0.w tw_741) (hts _ tw_738) (hts _ tw_740) (hts _ tw_9024) (hts _ tw_5) (by decide) np_Mod_mine (va_recv hK hP (ci := nMod) (q0 := 17) rfl rfl) rfl d_Mod_minePage_17) (kb_t hq2 (c_Mod_mine K0 ad κ o σ (σ.1 1 g) (by omega) hb4 hb5 (by omega))) (hl.1.trans hml.symm) (Nat.le_of_ble_eq_true rfl) ⟨Nat.le_of_ble_eq_true rfl, Nat.le_of_ble_eq_true rfl, Nat.le_of_ble_eq_true rfl, Nat.le_of_ble_eq_true rfl⟩ (fun U hU hW => ⟨hE.go hW hU hS, by rw [hU]; exact hP, hD⟩) ?_
      refine k_if0 (tgt := 27) (by decide) hx hb d_Mod_minePage_20 (by decide) (fun h9 => absurd h9 (by decide)) (fun _ => ?_)
      refine lv_iconst (v := (nI 1)) hx hb d_Mod_minePage_23 (by decide) ?_
      refine lv_goto (tgt := 28) hx hb d_Mod_minePage_24 (by decide) ?_
      exact k_retZ hx hb hr hlocks (by decide) d_Mod_minePage_28 (by first | rfl | (simp [rpage, b2n, eIA, eIS, eUO, eNS, h1, hq2]; done) | (simp [rpage, b2n, eIA, eIS, eUO, eNS, h1, hq2]; rfl) | (simp [rpage, b2n, eIA, eIS, eUO, eNS, hq2, beq_iff_eq.mpr h1]; done) | (simp [rpage, b2n, eIA, eIS, eUO, eNS, hq2, beq_iff_eq.mpr h1]; rfl) | (simp only [rpage, b2n, eIA, eIS, eUO, eNS, h1, hq2]; rfl))
set_option maxHeartbeats 4000000 in
set_option maxRecDepth 100000 in
theorem c_Mod_holder {l : Launch} {s0 : State} {a0 : Array Value} {D : va_G} {cI cL : ClassId} (K0 : k0 l s0 a0 D cI cL) (ad : Nat → Nat) (κ : kS) (o : va_W) (σ : kS) (g : Nat) (hg : g < 20) (hb0 : ∀ i, i < 20 → σ.1 0 i < 2 ^ 30) (ho : σ.1 1 g < 6) (hb4 : ∀ i, i < 6 → σ.1 4 i < 2 ^ 30) (hb5 : ∀ i, i < 6 → σ.1 5 i < 2 ^ 30) (hc : σ.1 11 0 < 6) : kMet l y_Mod_holder (Cond.code y_Mod_holder b_Mod_holder 2 (some .boolean)) (rmL 2) [.ref (ad 17), .int (nI g)] (kPre D vwCl s0 (wX ad cI κ o) σ) (.ok (some (.int (nI (b2n (rhold σ g)))), ())) kBr := by
  refine k_of (by decide) (Nat.le_of_ble_eq_true rfl) ?_
  intro p e9 s m below meth c hx hb hr hlocks hown hml hex hpre ls hl
  obtain ⟨hE, hP, hD⟩ := hpre
  obtain ⟨hts, hK⟩ := K0.at (args := ([.ref (ad 17), .int (nI g)] : List Value).toArray) hE
  have hl : lv_has ls 2 [(0, .ref (ad 17)), (1, .int (nI g))] := hl
  have hS : va_S (kA s0) s.heap s.heap [] := va_S.rf
  refine lv_aload_n hx hb d_Mod_holder_0 rfl (lv_at hl 0 rfl) ?_
  refine lv_iload_n hx hb d_Mod_holder_1 rfl (lv_at hl 1 rfl) ?_
  refine lv_iconst (v := (nI 1)) hx hb d_Mod_holder_2 (by decide) ?_
  rcases hq1 : rpage σ g 1 with _ | _
  · refine k_callR (k_atV (As := [.int (nI g), .int (nI 1)]) hx hb hown hE.1 (K0.w tw_737) (hts _ tw_734) (hts _ tw_736) (hts _ tw_9023) (hts _ tw_5) (by decide) np_Mod_minePage (va_recv hK hP (ci := nMod) (q0 := 17) rfl rfl) rfl d_Mod_holder_3) (kb_f hq1 (c_Mod_minePage K0 ad κ o σ g 1 (by omega) (by omega) hb0 ho hb4 hb5 (by omega))) (hl.1.trans hml.symm) (Nat.le_of_ble_eq_true rfl) ⟨Nat.le_of_ble_eq_true rfl, Nat.le_of_ble_eq_true rfl, Nat.le_of_ble_eq_true rfl, Nat.le_of_ble_eq_true rfl⟩ (fun U hU hW => ⟨hE.go hW hU hS, by rw [hU]; exact hP, hD⟩) ?_
    refine k_ifN0 (tgt := 18) (by decide) hx hb d_Mod_holder_6 (by decide) (fun h9 => absurd h9 (by decide)) (fun _ => ?_)
    refine lv_aload_n hx hb d_Mod_holder_9 rfl (lv_at hl 0 rfl) ?_
    refine lv_iload_n hx hb d_Mod_holder_10 rfl (lv_at hl 1 rfl) ?_
    refine lv_iconst (v := (nI 2)) hx hb d_Mod_holder_11 (by decide) ?_
    rcases hq2 : rpage σ g 2 with _ | _
    · refine k_callR (k_atV (As := [.int (nI g), .int (nI 2)]) hx hb hown hE.1 (K0.w tw_737) (hts _ tw_734) (hts _ tw_736) (hts _ tw_9023) (hts _ tw_5) (by decide) np_Mod_minePage (va_recv hK hP (ci := nMod) (q0 := 17) rfl rfl) rfl d_Mod_holder_12) (kb_f hq2 (c_Mod_minePage K0 ad κ o σ g 2 (by omega) (by omega) hb0 ho hb4 hb5 (by omega))) (hl.1.trans hml.symm) (Nat.le_of_ble_eq_true rfl) ⟨Nat.le_of_ble_eq_true rfl, Nat.le_of_ble_eq_true rfl, Nat.le_of_ble_eq_true rfl, Nat.le_of_ble_eq_true rfl⟩ (fun U hU hW => ⟨hE.go hW hU hS, by rw [hU]; exact hP, hD⟩) ?_
      refine k_if0 (tgt := 22) (by decide) hx hb d_Mod_holder_15 (by decide) (fun _ => ?_) (fun h9 => absurd h9 (by decide))
      refine lv_iconst (v := (nI 0)) hx hb d_Mod_holder_22 (by decide) ?_
      exact k_retZ hx hb hr hlocks (by decide) d_Mod_holder_23 (by first | rfl | (simp [rhold, b2n, eIA, eIS, eUO, eNS, hq1, hq2]; done) | (simp [rhold, b2n, eIA, eIS, eUO, eNS, hq1, hq2]; rfl) | (simp [rhold, b2n, eIA, eIS, eUO, eNS, hq1, hq2]; done) | (simp [rhold, b2n, eIA, eIS, eUO, eNS, hq1, hq2]; rfl) | (simp only [rhold, b2n, eIA, eIS, eUO, eNS, hq1, hq2]; rfl))
    · refine k_callR (k_atV (As := [.int (nI g), .int (nI 2)]) hx hb hown hE.1 (K0.w tw_737) (hts _ tw_734) (hts _ tw_736) (hts _ tw_9023) (hts _ tw_5) (by decide) np_Mod_minePage (va_recv hK hP (ci := nMod) (q0 := 17) rfl rfl) rfl d_Mod_holder_12) (kb_t hq2 (c_Mod_minePage K0 ad κ o σ g 2 (by omega) (by omega) hb0 ho hb4 hb5 (by omega))) (hl.1.trans hml.symm) (Nat.le_of_ble_eq_true rfl) ⟨Nat.le_of_ble_eq_true rfl, Nat.le_of_ble_eq_true rfl, Nat.le_of_ble_eq_true rfl, Nat.le_of_ble_eq_true rfl⟩ (fun U hU hW => ⟨hE.go hW hU hS, by rw [hU]; exact hP, hD⟩) ?_
      refine k_if0 (tgt := 22) (by decide) hx hb d_Mod_holder_15 (by decide) (fun h9 => absurd h9 (by decide)) (fun _ => ?_)
      refine lv_iconst (v := (nI 1)) hx hb d_Mod_holder_18 (by decide) ?_
      refine lv_goto (tgt := 23) hx hb d_Mod_holder_19 (by decide) ?_
      exact k_retZ hx hb hr hlocks (by decide) d_Mod_holder_23 (by first | rfl | (simp [rhold, b2n, eIA, eIS, eUO, eNS, hq1, hq2]; done) | (simp [rhold, b2n, eIA, eIS, eUO, eNS, hq1, hq2]; rfl) | (simp [rhold, b2n, eIA, eIS, eUO, eNS, hq1, hq2]; done) | (simp [rhold, b2n, eIA, eIS, eUO, eNS, hq1, hq2]; rfl) | (simp only [rhold, b2n, eIA, eIS, eUO, eNS, hq1, hq2]; rfl))
  · refine k_callR (k_atV (As := [.int (nI g), .int (nI 1)]) hx hb hown hE.1 (K0.w tw_737) (hts _ tw_734) (hts _ tw_736) (hts _ tw_9023) (hts _ tw_5) (by decide) np_Mod_minePage (va_recv hK hP (ci := nMod) (q0 := 17) rfl rfl) rfl d_Mod_holder_3) (kb_t hq1 (c_Mod_minePage K0 ad κ o σ g 1 (by omega) (by omega) hb0 ho hb4 hb5 (by omega))) (hl.1.trans hml.symm) (Nat.le_of_ble_eq_true rfl) ⟨Nat.le_of_ble_eq_true rfl, Nat.le_of_ble_eq_true rfl, Nat.le_of_ble_eq_true rfl, Nat.le_of_ble_eq_true rfl⟩ (fun U hU hW => ⟨hE.go hW hU hS, by rw [hU]; exact hP, hD⟩) ?_
    refine k_ifN0 (tgt := 18) (by decide) hx hb d_Mod_holder_6 (by decide) (fun _ => ?_) (fun h9 => absurd h9 (by decide))
    refine lv_iconst (v := (nI 1)) hx hb d_Mod_holder_18 (by decide) ?_
    refine lv_goto (tgt := 23) hx hb d_Mod_holder_19 (by decide) ?_
    exact k_retZ hx hb hr hlocks (by decide) d_Mod_holder_23 (by first | rfl | (simp [rhold, b2n, eIA, eIS, eUO, eNS, hq1]; done) | (simp [rhold, b2n, eIA, eIS, eUO, eNS, hq1]; rfl) | (simp [rhold, b2n, eIA, eIS, eUO, eNS, hq1]; done) | (simp [rhold, b2n, eIA, eIS, eUO, eNS, hq1]; rfl) | (simp only [rhold, b2n, eIA, eIS, eUO, eNS, hq1]; rfl))
set_option maxHeartbeats 4000000 in
set_option maxRecDepth 100000 in
theorem c_Mod_become {l : Launch} {s0 : State} {a0 : Array Value} {D : va_G} {cI cL : ClassId} (K0 : k0 l s0 a0 D cI cL) (ad : Nat → Nat) (κ : kS) (o : va_W) (σ : kS) (g : Nat) (kk : Nat) (o9 : Nat) (hg : g < 20) : kMet l y_Mod_become (Cond.code y_Mod_become b_Mod_become 5 none) (rmL 0) [.ref (ad 17), .int (nI g), .int (nI kk), .int (nI o9)] (kPre D vwCl s0 (wX ad cI κ o) σ) (.ok (none, m_become σ g kk o9)) (kBw D vwCl s0 (wX ad cI κ o)) := by
  refine k_of (by decide) (Nat.le_of_ble_eq_true rfl) ?_
  intro p e9 s m below meth c hx hb hr hlocks hown hml hex hpre ls hl
  obtain ⟨hE, hP, hD⟩ := hpre
  obtain ⟨hts, hK⟩ := K0.at (args := ([.ref (ad 17), .int (nI g), .int (nI kk), .int (nI o9)] : List Value).toArray) hE
  have hl : lv_has ls 5 [(0, .ref (ad 17)), (1, .int (nI g)), (2, .int (nI kk)), (3, .int (nI o9))] := hl
  have hS : va_S (kA s0) s.heap s.heap [] := va_S.rf
  refine lv_aload_n hx hb d_Mod_become_0 rfl (lv_at hl 0 rfl) ?_
  refine va_get (D := D) (ci := nMod) (v := .ref (ad 23)) (C := R_Mod) (T := T_Mod) (N := 15) hx hb hts i_Mod hown hK hP 17 rfl rfl 6 (by decide) (hts _ tw_661) (fun _ h9 => h9) rfl d_Mod_become_1 ?_
  refine lv_iload_n hx hb d_Mod_become_4 rfl (lv_at hl 1 rfl) ?_
  refine lv_iload_n hx hb d_Mod_become_5 rfl (lv_at hl 2 rfl) ?_
  refine k_astN (q0 := 23) (t0 := 0) hx hb hK hP hD hS rfl rfl (by omega) (by decide) d_Mod_become_6 (fun H locs hP hD hS => ?_)
  obtain ⟨σ1, eσ1⟩ : ∃ z : kS, z = (st σ 0 g kk) := ⟨_, rfl⟩
  have hP : va_P D vwCl (wX ad cI κ o σ1) H := by rw [eσ1]; exact hP
  have hD : va_D (kA s0) (wX ad cI κ o σ1) := by rw [eσ1]; exact hD
  refine lv_aload_n hx hb d_Mod_become_7 rfl (lv_at hl 0 rfl) ?_
  refine va_get (D := D) (ci := nMod) (v := .ref (ad 24)) (C := R_Mod) (T := T_Mod) (N := 15) hx hb hts i_Mod hown hK hP 17 rfl rfl 7 (by decide) (hts _ tw_662) (fun _ h9 => h9) rfl d_Mod_become_8 ?_
  refine lv_iload_n hx hb d_Mod_become_11 rfl (lv_at hl 1 rfl) ?_
  refine lv_iload_n hx hb d_Mod_become_12 rfl (lv_at hl 3 rfl) ?_
  refine k_astN (q0 := 24) (t0 := 0) hx hb hK hP hD hS rfl rfl (by omega) (by decide) d_Mod_become_13 (fun H locs hP hD hS => ?_)
  obtain ⟨σ2, eσ2⟩ : ∃ z : kS, z = (st σ1 1 g o9) := ⟨_, rfl⟩
  have hP : va_P D vwCl (wX ad cI κ o σ2) H := by rw [eσ2]; exact hP
  have hD : va_D (kA s0) (wX ad cI κ o σ2) := by rw [eσ2]; exact hD
  refine lv_iconst (v := (nI 4)) hx hb d_Mod_become_14 (by decide) ?_
  refine lv_iload_n hx hb d_Mod_become_15 rfl (lv_at hl 1 rfl) ?_
  refine k_mulC hx hb d_Mod_become_16 ?_
  refine lv_istore (lv' := [(4, .int (nI (g * 4))), (0, .ref (ad 17)), (1, .int (nI g)), (2, .int (nI kk)), (3, .int (nI o9))]) hx hb d_Mod_become_17 hl (by decide) rfl (fun ls hl => ?_)
  refine lv_iload hx hb d_Mod_become_19 (lv_at hl 0 rfl) ?_
  refine lv_iconst (v := (nI 4)) hx hb d_Mod_become_21 (by decide) ?_
  refine lv_iload_n hx hb d_Mod_become_22 rfl (lv_at hl 2 rfl) ?_
  refine k_mulC hx hb d_Mod_become_23 ?_
  refine lv_iconst (v := (nI 4)) hx hb d_Mod_become_24 (by decide) ?_
  refine k_addN hx hb d_Mod_become_25 ?_
  refine k_geN (tgt := 59) (by omega) (by omega) hx hb d_Mod_become_26 (by decide) (fun h9 => absurd h9 (by omega)) (fun _ => ?_)
  refine lv_aload_n hx hb d_Mod_become_29 rfl (lv_at hl 1 rfl) ?_
  refine va_get (D := D) (ci := nMod) (v := .ref (ad 25)) (C := R_Mod) (T := T_Mod) (N := 15) hx hb hts i_Mod hown hK hP 17 rfl rfl 8 (by decide) (hts _ tw_663) (fun _ h9 => h9) rfl d_Mod_become_30 ?_
  refine lv_iload hx hb d_Mod_become_33 (lv_at hl 0 rfl) ?_
  refine lv_iconst (v := (pI 0)) hx hb d_Mod_become_35 (by decide) ?_
  refine k_astP (q0 := 25) (t0 := 0) hx hb hK hP hD hS rfl rfl (by omega) (by decide) d_Mod_become_36 (fun H locs hP hD hS => ?_)
  obtain ⟨σ3, eσ3⟩ : ∃ z : kS, z = (st σ2 2 (g * 4) 0) := ⟨_, rfl⟩
  have hP : va_P D vwCl (wX ad cI κ o σ3) H := by rw [eσ3]; exact hP
  have hD : va_D (kA s0) (wX ad cI κ o σ3) := by rw [eσ3]; exact hD
  refine lv_aload_n hx hb d_Mod_become_37 rfl (lv_at hl 1 rfl) ?_
  refine va_get (D := D) (ci := nMod) (v := .ref (ad 26)) (C := R_Mod) (T := T_Mod) (N := 15) hx hb hts i_Mod hown hK hP 17 rfl rfl 9 (by decide) (hts _ tw_664) (fun _ h9 => h9) rfl d_Mod_become_38 ?_
  refine lv_iload hx hb d_Mod_become_41 (lv_at hl 0 rfl) ?_
  refine lv_iconst (v := (nI 0)) hx hb d_Mod_become_43 (by decide) ?_
  refine k_astN (q0 := 26) (t0 := 0) hx hb hK hP hD hS rfl rfl (by omega) (by decide) d_Mod_become_44 (fun H locs hP hD hS => ?_)
  obtain ⟨σ4, eσ4⟩ : ∃ z : kS, z = (st σ3 3 (g * 4) 0) := ⟨_, rfl⟩
  have hP : va_P D vwCl (wX ad cI κ o σ4) H := by rw [eσ4]; exact hP
  have hD : va_D (kA s0) (wX ad cI κ o σ4) := by rw [eσ4]; exact hD
  refine lv_aload_n hx hb d_Mod_become_45 rfl (lv_at hl 1 rfl) ?_
  refine va_get (D := D) (ci := nMod) (v := .ref (ad 27)) (C := R_Mod) (T := T_Mod) (N := 15) hx hb hts i_Mod hown hK hP 17 rfl rfl 10 (by decide) (hts _ tw_665) (fun _ h9 => h9) rfl d_Mod_become_46 ?_
  refine lv_iload hx hb d_Mod_become_49 (lv_at hl 0 rfl) ?_
  refine lv_iconst (v := (nI 0)) hx hb d_Mod_become_51 (by decide) ?_
  refine k_astI (q0 := 27) (t0 := 0) hx hb hK hP hD hS rfl rfl (by omega) (by decide) d_Mod_become_52 (fun H locs hP hD hS => ?_)
  obtain ⟨σ5, eσ5⟩ : ∃ z : kS, z = (sw σ4 0 (g * 4) (nI 0)) := ⟨_, rfl⟩
  have hP : va_P D vwCl (wX ad cI κ o σ5) H := by rw [eσ5]; exact hP
  have hD : va_D (kA s0) (wX ad cI κ o σ5) := by rw [eσ5]; exact hD
  refine lv_iinc (v := (nI ((g * 4) + 1))) (lv' := [(4, .int (nI ((g * 4) + 1))), (0, .ref (ad 17)), (1, .int (nI g)), (2, .int (nI kk)), (3, .int (nI o9))]) hx hb d_Mod_become_53 hl (k := 0) rfl (nI_1 _) (by decide) rfl (fun ls hl => ?_)
  refine lv_goto (tgt := 19) hx hb d_Mod_become_56 (by decide) ?_
  refine lv_iload hx hb d_Mod_become_19 (lv_at hl 0 rfl) ?_
  refine lv_iconst (v := (nI 4)) hx hb d_Mod_become_21 (by decide) ?_
  refine lv_iload_n hx hb d_Mod_become_22 rfl (lv_at hl 2 rfl) ?_
  refine k_mulC hx hb d_Mod_become_23 ?_
  refine lv_iconst (v := (nI 4)) hx hb d_Mod_become_24 (by decide) ?_
  refine k_addN hx hb d_Mod_become_25 ?_
  refine k_geN (tgt := 59) (by omega) (by omega) hx hb d_Mod_become_26 (by decide) (fun h9 => absurd h9 (by omega)) (fun _ => ?_)
  refine lv_aload_n hx hb d_Mod_become_29 rfl (lv_at hl 1 rfl) ?_
  refine va_get (D := D) (ci := nMod) (v := .ref (ad 25)) (C := R_Mod) (T := T_Mod) (N := 15) hx hb hts i_Mod hown hK hP 17 rfl rfl 8 (by decide) (hts _ tw_663) (fun _ h9 => h9) rfl d_Mod_become_30 ?_
  refine lv_iload hx hb d_Mod_become_33 (lv_at hl 0 rfl) ?_
  refine lv_iconst (v := (pI 0)) hx hb d_Mod_become_35 (by decide) ?_
  refine k_astP (q0 := 25) (t0 := 0) hx hb hK hP hD hS rfl rfl (by omega) (by decide) d_Mod_become_36 (fun H locs hP hD hS => ?_)
  obtain ⟨σ6, eσ6⟩ : ∃ z : kS, z = (st σ5 2 ((g * 4) + 1) 0) := ⟨_, rfl⟩
  have hP : va_P D vwCl (wX ad cI κ o σ6) H := by rw [eσ6]; exact hP
  have hD : va_D (kA s0) (wX ad cI κ o σ6) := by rw [eσ6]; exact hD
  refine lv_aload_n hx hb d_Mod_become_37 rfl (lv_at hl 1 rfl) ?_
  refine va_get (D := D) (ci := nMod) (v := .ref (ad 26)) (C := R_Mod) (T := T_Mod) (N := 15) hx hb hts i_Mod hown hK hP 17 rfl rfl 9 (by decide) (hts _ tw_664) (fun _ h9 => h9) rfl d_Mod_become_38 ?_
  refine lv_iload hx hb d_Mod_become_41 (lv_at hl 0 rfl) ?_
  refine lv_iconst (v := (nI 0)) hx hb d_Mod_become_43 (by decide) ?_
  refine k_astN (q0 := 26) (t0 := 0) hx hb hK hP hD hS rfl rfl (by omega) (by decide) d_Mod_become_44 (fun H locs hP hD hS => ?_)
  obtain ⟨σ7, eσ7⟩ : ∃ z : kS, z = (st σ6 3 ((g * 4) + 1) 0) := ⟨_, rfl⟩
  have hP : va_P D vwCl (wX ad cI κ o σ7) H := by rw [eσ7]; exact hP
  have hD : va_D (kA s0) (wX ad cI κ o σ7) := by rw [eσ7]; exact hD
  refine lv_aload_n hx hb d_Mod_become_45 rfl (lv_at hl 1 rfl) ?_
  refine va_get (D := D) (ci := nMod) (v := .ref (ad 27)) (C := R_Mod) (T := T_Mod) (N := 15) hx hb hts i_Mod hown hK hP 17 rfl rfl 10 (by decide) (hts _ tw_665) (fun _ h9 => h9) rfl d_Mod_become_46 ?_
  refine lv_iload hx hb d_Mod_become_49 (lv_at hl 0 rfl) ?_
  refine lv_iconst (v := (nI 0)) hx hb d_Mod_become_51 (by decide) ?_
  refine k_astI (q0 := 27) (t0 := 0) hx hb hK hP hD hS rfl rfl (by omega) (by decide) d_Mod_become_52 (fun H locs hP hD hS => ?_)
  obtain ⟨σ8, eσ8⟩ : ∃ z : kS, z = (sw σ7 0 ((g * 4) + 1) (nI 0)) := ⟨_, rfl⟩
  have hP : va_P D vwCl (wX ad cI κ o σ8) H := by rw [eσ8]; exact hP
  have hD : va_D (kA s0) (wX ad cI κ o σ8) := by rw [eσ8]; exact hD
  refine lv_iinc (v := (nI ((g * 4) + 2))) (lv' := [(4, .int (nI ((g * 4) + 2))), (0, .ref (ad 17)), (1, .int (nI g)), (2, .int (nI kk)), (3, .int (nI o9))]) hx hb d_Mod_become_53 hl (k := 0) rfl (nI_1 _) (by decide) rfl (fun ls hl => ?_)
  refine lv_goto (tgt := 19) hx hb d_Mod_become_56 (by decide) ?_
  refine lv_iload hx hb d_Mod_become_19 (lv_at hl 0 rfl) ?_
  refine lv_iconst (v := (nI 4)) hx hb d_Mod_become_21 (by decide) ?_
  refine lv_iload_n hx hb d_Mod_become_22 rfl (lv_at hl 2 rfl) ?_
  refine k_mulC hx hb d_Mod_become_23 ?_
  refine lv_iconst (v := (nI 4)) hx hb d_Mod_become_24 (by decide) ?_
  refine k_addN hx hb d_Mod_become_25 ?_
  refine k_geN (tgt := 59) (by omega) (by omega) hx hb d_Mod_become_26 (by decide) (fun h9 => absurd h9 (by omega)) (fun _ => ?_)
  refine lv_aload_n hx hb d_Mod_become_29 rfl (lv_at hl 1 rfl) ?_
  refine va_get (D := D) (ci := nMod) (v := .ref (ad 25)) (C := R_Mod) (T := T_Mod) (N := 15) hx hb hts i_Mod hown hK hP 17 rfl rfl 8 (by decide) (hts _ tw_663) (fun _ h9 => h9) rfl d_Mod_become_30 ?_
  refine lv_iload hx hb d_Mod_become_33 (lv_at hl 0 rfl) ?_
  refine lv_iconst (v := (pI 0)) hx hb d_Mod_become_35 (by decide) ?_
  refine k_astP (q0 := 25) (t0 := 0) hx hb hK hP hD hS rfl rfl (by omega) (by decide) d_Mod_become_36 (fun H locs hP hD hS => ?_)
  obtain ⟨σ9, eσ9⟩ : ∃ z : kS, z = (st σ8 2 ((g * 4) + 2) 0) := ⟨_, rfl⟩
  have hP : va_P D vwCl (wX ad cI κ o σ9) H := by rw [eσ9]; exact hP
  have hD : va_D (kA s0) (wX ad cI κ o σ9) := by rw [eσ9]; exact hD
  refine lv_aload_n hx hb d_Mod_become_37 rfl (lv_at hl 1 rfl) ?_
  refine va_get (D := D) (ci := nMod) (v := .ref (ad 26)) (C := R_Mod) (T := T_Mod) (N := 15) hx hb hts i_Mod hown hK hP 17 rfl rfl 9 (by decide) (hts _ tw_664) (fun _ h9 => h9) rfl d_Mod_become_38 ?_
  refine lv_iload hx hb d_Mod_become_41 (lv_at hl 0 rfl) ?_
  refine lv_iconst (v := (nI 0)) hx hb d_Mod_become_43 (by decide) ?_
  refine k_astN (q0 := 26) (t0 := 0) hx hb hK hP hD hS rfl rfl (by omega) (by decide) d_Mod_become_44 (fun H locs hP hD hS => ?_)
  obtain ⟨σ10, eσ10⟩ : ∃ z : kS, z = (st σ9 3 ((g * 4) + 2) 0) := ⟨_, rfl⟩
  have hP : va_P D vwCl (wX ad cI κ o σ10) H := by rw [eσ10]; exact hP
  have hD : va_D (kA s0) (wX ad cI κ o σ10) := by rw [eσ10]; exact hD
  refine lv_aload_n hx hb d_Mod_become_45 rfl (lv_at hl 1 rfl) ?_
  refine va_get (D := D) (ci := nMod) (v := .ref (ad 27)) (C := R_Mod) (T := T_Mod) (N := 15) hx hb hts i_Mod hown hK hP 17 rfl rfl 10 (by decide) (hts _ tw_665) (fun _ h9 => h9) rfl d_Mod_become_46 ?_
  refine lv_iload hx hb d_Mod_become_49 (lv_at hl 0 rfl) ?_
  refine lv_iconst (v := (nI 0)) hx hb d_Mod_become_51 (by decide) ?_
  refine k_astI (q0 := 27) (t0 := 0) hx hb hK hP hD hS rfl rfl (by omega) (by decide) d_Mod_become_52 (fun H locs hP hD hS => ?_)
  obtain ⟨σ11, eσ11⟩ : ∃ z : kS, z = (sw σ10 0 ((g * 4) + 2) (nI 0)) := ⟨_, rfl⟩
  have hP : va_P D vwCl (wX ad cI κ o σ11) H := by rw [eσ11]; exact hP
  have hD : va_D (kA s0) (wX ad cI κ o σ11) := by rw [eσ11]; exact hD
  refine lv_iinc (v := (nI ((g * 4) + 3))) (lv' := [(4, .int (nI ((g * 4) + 3))), (0, .ref (ad 17)), (1, .int (nI g)), (2, .int (nI kk)), (3, .int (nI o9))]) hx hb d_Mod_become_53 hl (k := 0) rfl (nI_1 _) (by decide) rfl (fun ls hl => ?_)
  refine lv_goto (tgt := 19) hx hb d_Mod_become_56 (by decide) ?_
  refine lv_iload hx hb d_Mod_become_19 (lv_at hl 0 rfl) ?_
  refine lv_iconst (v := (nI 4)) hx hb d_Mod_become_21 (by decide) ?_
  refine lv_iload_n hx hb d_Mod_become_22 rfl (lv_at hl 2 rfl) ?_
  refine k_mulC hx hb d_Mod_become_23 ?_
  refine lv_iconst (v := (nI 4)) hx hb d_Mod_become_24 (by decide) ?_
  refine k_addN hx hb d_Mod_become_25 ?_
  refine k_geN (tgt := 59) (by omega) (by omega) hx hb d_Mod_become_26 (by decide) (fun h9 => absurd h9 (by omega)) (fun _ => ?_)
  refine lv_aload_n hx hb d_Mod_become_29 rfl (lv_at hl 1 rfl) ?_
  refine va_get (D := D) (ci := nMod) (v := .ref (ad 25)) (C := R_Mod) (T := T_Mod) (N := 15) hx hb hts i_Mod hown hK hP 17 rfl rfl 8 (by decide) (hts _ tw_663) (fun _ h9 => h9) rfl d_Mod_become_30 ?_
  refine lv_iload hx hb d_Mod_become_33 (lv_at hl 0 rfl) ?_
  refine lv_iconst (v := (pI 0)) hx hb d_Mod_become_35 (by decide) ?_
  refine k_astP (q0 := 25) (t0 := 0) hx hb hK hP hD hS rfl rfl (by omega) (by decide) d_Mod_become_36 (fun H locs hP hD hS => ?_)
  obtain ⟨σ12, eσ12⟩ : ∃ z : kS, z = (st σ11 2 ((g * 4) + 3) 0) := ⟨_, rfl⟩
  have hP : va_P D vwCl (wX ad cI κ o σ12) H := by rw [eσ12]; exact hP
  have hD : va_D (kA s0) (wX ad cI κ o σ12) := by rw [eσ12]; exact hD
  refine lv_aload_n hx hb d_Mod_become_37 rfl (lv_at hl 1 rfl) ?_
  refine va_get (D := D) (ci := nMod) (v := .ref (ad 26)) (C := R_Mod) (T := T_Mod) (N := 15) hx hb hts i_Mod hown hK hP 17 rfl rfl 9 (by decide) (hts _ tw_664) (fun _ h9 => h9) rfl d_Mod_become_38 ?_
  refine lv_iload hx hb d_Mod_become_41 (lv_at hl 0 rfl) ?_
  refine lv_iconst (v := (nI 0)) hx hb d_Mod_become_43 (by decide) ?_
  refine k_astN (q0 := 26) (t0 := 0) hx hb hK hP hD hS rfl rfl (by omega) (by decide) d_Mod_become_44 (fun H locs hP hD hS => ?_)
  obtain ⟨σ13, eσ13⟩ : ∃ z : kS, z = (st σ12 3 ((g * 4) + 3) 0) := ⟨_, rfl⟩
  have hP : va_P D vwCl (wX ad cI κ o σ13) H := by rw [eσ13]; exact hP
  have hD : va_D (kA s0) (wX ad cI κ o σ13) := by rw [eσ13]; exact hD
  refine lv_aload_n hx hb d_Mod_become_45 rfl (lv_at hl 1 rfl) ?_
  refine va_get (D := D) (ci := nMod) (v := .ref (ad 27)) (C := R_Mod) (T := T_Mod) (N := 15) hx hb hts i_Mod hown hK hP 17 rfl rfl 10 (by decide) (hts _ tw_665) (fun _ h9 => h9) rfl d_Mod_become_46 ?_
  refine lv_iload hx hb d_Mod_become_49 (lv_at hl 0 rfl) ?_
  refine lv_iconst (v := (nI 0)) hx hb d_Mod_become_51 (by decide) ?_
  refine k_astI (q0 := 27) (t0 := 0) hx hb hK hP hD hS rfl rfl (by omega) (by decide) d_Mod_become_52 (fun H locs hP hD hS => ?_)
  obtain ⟨σ14, eσ14⟩ : ∃ z : kS, z = (sw σ13 0 ((g * 4) + 3) (nI 0)) := ⟨_, rfl⟩
  have hP : va_P D vwCl (wX ad cI κ o σ14) H := by rw [eσ14]; exact hP
  have hD : va_D (kA s0) (wX ad cI κ o σ14) := by rw [eσ14]; exact hD
  refine lv_iinc (v := (nI ((g * 4) + 4))) (lv' := [(4, .int (nI ((g * 4) + 4))), (0, .ref (ad 17)), (1, .int (nI g)), (2, .int (nI kk)), (3, .int (nI o9))]) hx hb d_Mod_become_53 hl (k := 0) rfl (nI_1 _) (by decide) rfl (fun ls hl => ?_)
  refine lv_goto (tgt := 19) hx hb d_Mod_become_56 (by decide) ?_
  refine lv_iload hx hb d_Mod_become_19 (lv_at hl 0 rfl) ?_
  refine lv_iconst (v := (nI 4)) hx hb d_Mod_become_21 (by decide) ?_
  refine lv_iload_n hx hb d_Mod_become_22 rfl (lv_at hl 2 rfl) ?_
  refine k_mulC hx hb d_Mod_become_23 ?_
  refine lv_iconst (v := (nI 4)) hx hb d_Mod_become_24 (by decide) ?_
  refine k_addN hx hb d_Mod_become_25 ?_
  refine k_geN (tgt := 59) (by omega) (by omega) hx hb d_Mod_become_26 (by decide) (fun _ => ?_) (fun h9 => absurd h9 (by omega))
  exact k_retWV hx hb hr hlocks d_Mod_become_59 hP hD hS (by subst eσ14 eσ13 eσ12 eσ11 eσ10 eσ9 eσ8 eσ7 eσ6 eσ5 eσ4 eσ3 eσ2 eσ1; rfl)
set_option maxHeartbeats 4000000 in
set_option maxRecDepth 100000 in
theorem c_Mod_filled {l : Launch} {s0 : State} {a0 : Array Value} {D : va_G} {cI cL : ClassId} (K0 : k0 l s0 a0 D cI cL) (ad : Nat → Nat) (κ : kS) (o : va_W) (σ : kS) (g : Nat) (hg : g < 20) (hb2 : ∀ i, i < 80 → σ.1 2 i < 2 ^ 30) : kMet l y_Mod_filled (Cond.code y_Mod_filled b_Mod_filled 4 (some .int)) (rmL 0) [.ref (ad 17), .int (nI g)] (kPre D vwCl s0 (wX ad cI κ o) σ) (.ok (some (.int (nI (filled σ g))), ())) kBr := by
  refine k_of (by decide) (Nat.le_of_ble_eq_true rfl) ?_
  intro p e9 s m below meth c hx hb hr hlocks hown hml hex hpre ls hl
  obtain ⟨hE, hP, hD⟩ := hpre
  obtain ⟨hts, hK⟩ := K0.at (args := ([.ref (ad 17), .int (nI g)] : List Value).toArray) hE
  have hl : lv_has ls 4 [(0, .ref (ad 17)), (1, .int (nI g))] := hl
  have hS : va_S (kA s0) s.heap s.heap [] := va_S.rf
  refine lv_iconst (v := (nI 0)) hx hb d_Mod_filled_0 (by decide) ?_
  refine lv_istore_n (lv' := [(2, .int (nI 0)), (0, .ref (ad 17)), (1, .int (nI g))]) hx hb d_Mod_filled_1 rfl hl (by decide) rfl (fun ls hl => ?_)
  refine lv_iconst (v := (nI 4)) hx hb d_Mod_filled_2 (by decide) ?_
  refine lv_iload_n hx hb d_Mod_filled_3 rfl (lv_at hl 2 rfl) ?_
  refine k_mulC hx hb d_Mod_filled_4 ?_
  refine lv_istore_n (lv' := [(3, .int (nI (g * 4))), (2, .int (nI 0)), (0, .ref (ad 17)), (1, .int (nI g))]) hx hb d_Mod_filled_5 rfl hl (by decide) rfl (fun ls hl => ?_)
  have L : ∀ (n i : Nat), 0 ≤ i → i + n = 4 → ∀ ls : Array Slot, lv_has ls 4 [(3, .int (nI ((g * 4) + i))), (2, .int (nI (cnt (fun e => σ.1 2 (g * 4 + e) != 0) i))), (0, .ref (ad 17)), (1, .int (nI g))] → W p l e9 (rmL 0) s m ([.ref (ad 17), .int (nI g)] : List Value).toArray below meth c s.heap [] 0 0 (kE below (.ok (some (.int (nI (filled σ g))), ())) kBr s) (F0 m 6 ls []) := by
    intro n
    induction n with
    | zero =>
      intro i hi0 hi ls hl
      obtain rfl : i = 4 := by omega
      refine lv_iload_n hx hb d_Mod_filled_6 rfl (lv_at hl 0 rfl) ?_
      refine lv_iconst (v := (nI 4)) hx hb d_Mod_filled_7 (by decide) ?_
      refine lv_iload_n hx hb d_Mod_filled_8 rfl (lv_at hl 3 rfl) ?_
      refine k_mulC hx hb d_Mod_filled_9 ?_
      refine lv_iconst (v := (nI 4)) hx hb d_Mod_filled_10 (by decide) ?_
      refine k_addN hx hb d_Mod_filled_11 ?_
      refine k_geN (tgt := 33) (by omega) (by omega) hx hb d_Mod_filled_12 (by decide) (fun _ => ?_) (fun h9 => absurd h9 (by omega))
      refine lv_iload_n hx hb d_Mod_filled_33 rfl (lv_at hl 1 rfl) ?_
      exact k_retI hx hb hr hlocks d_Mod_filled_34 (rfl)
    | succ n ih =>
      intro i hi0 hi ls hl
      have hlt : i < 4 := by omega
      refine lv_iload_n hx hb d_Mod_filled_6 rfl (lv_at hl 0 rfl) ?_
      refine lv_iconst (v := (nI 4)) hx hb d_Mod_filled_7 (by decide) ?_
      refine lv_iload_n hx hb d_Mod_filled_8 rfl (lv_at hl 3 rfl) ?_
      refine k_mulC hx hb d_Mod_filled_9 ?_
      refine lv_iconst (v := (nI 4)) hx hb d_Mod_filled_10 (by decide) ?_
      refine k_addN hx hb d_Mod_filled_11 ?_
      refine k_geN (tgt := 33) (by omega) (by omega) hx hb d_Mod_filled_12 (by decide) (fun h9 => absurd h9 (by omega)) (fun _ => ?_)
      refine lv_aload_n hx hb d_Mod_filled_15 rfl (lv_at hl 2 rfl) ?_
      refine va_get (D := D) (ci := nMod) (v := .ref (ad 25)) (C := R_Mod) (T := T_Mod) (N := 15) hx hb hts i_Mod hown hK hP 17 rfl rfl 8 (by decide) (hts _ tw_663) (fun _ h9 => h9) rfl d_Mod_filled_16 ?_
      refine lv_iload_n hx hb d_Mod_filled_19 rfl (lv_at hl 0 rfl) ?_
      refine k_aldP (q0 := 25) (t0 := 0) hx hb hK hP rfl rfl (by omega) (by decide) d_Mod_filled_20 ?_
      refine k_ltP0 (tgt := 27) (hb2 _ (by omega)) hx hb d_Mod_filled_21 (by decide) (fun h1 => ?_) (fun h1 => ?_)
      · refine lv_iinc (v := (nI (((g * 4) + i) + 1))) (lv' := [(3, .int (nI (((g * 4) + i) + 1))), (2, .int (nI (cnt (fun e => σ.1 2 (g * 4 + e) != 0) i))), (0, .ref (ad 17)), (1, .int (nI g))]) hx hb d_Mod_filled_27 hl (k := 0) rfl (nI_1 _) (by decide) rfl (fun ls hl => ?_)
        refine lv_goto (tgt := 6) hx hb d_Mod_filled_30 (by decide) ?_
        exact ih (i + 1) (by omega) (by omega) ls (by rw [cnt_f (by first | (simp [h1]; done) | (simp [h1]; omega))]; exact lv_sub hl [0, 1, 2, 3] rfl)
      · refine lv_iinc (v := (nI ((cnt (fun e => σ.1 2 (g * 4 + e) != 0) i) + 1))) (lv' := [(2, .int (nI ((cnt (fun e => σ.1 2 (g * 4 + e) != 0) i) + 1))), (3, .int (nI ((g * 4) + i))), (0, .ref (ad 17)), (1, .int (nI g))]) hx hb d_Mod_filled_24 hl (k := 1) rfl (nI_1 _) (by decide) rfl (fun ls hl => ?_)
        refine lv_iinc (v := (nI (((g * 4) + i) + 1))) (lv' := [(3, .int (nI (((g * 4) + i) + 1))), (2, .int (nI ((cnt (fun e => σ.1 2 (g * 4 + e) != 0) i) + 1))), (0, .ref (ad 17)), (1, .int (nI g))]) hx hb d_Mod_filled_27 hl (k := 1) rfl (nI_1 _) (by decide) rfl (fun ls hl => ?_)
        refine lv_goto (tgt := 6) hx hb d_Mod_filled_30 (by decide) ?_
        exact ih (i + 1) (by omega) (by omega) ls (by rw [cnt_t (by first | (simp [h1]; done) | (simp [h1]; omega))]; exact lv_sub hl [0, 1, 2, 3] rfl)
  exact L 4 0 (by omega) (by omega) ls (lv_sub hl [0, 1, 2, 3] rfl)
set_option maxHeartbeats 4000000 in
set_option maxRecDepth 100000 in
theorem c_Mod_isProcess {l : Launch} {s0 : State} {a0 : Array Value} {D : va_G} {cI cL : ClassId} (K0 : k0 l s0 a0 D cI cL) (ad : Nat → Nat) (κ : kS) (o : va_W) (σ : kS) (x : Int32)  : kMet l y_Mod_isProcess (Cond.code y_Mod_isProcess b_Mod_isProcess 1 (some .boolean)) (rmL 1) [.int x] (kPre D vwCl s0 (wX ad cI κ o) σ) (.ok (some (.int (nI (b2n (rg x 1 5).isSome))), ())) kBr := by
  refine k_of (by decide) (Nat.le_of_ble_eq_true rfl) ?_
  intro p e9 s m below meth c hx hb hr hlocks hown hml hex hpre ls hl
  obtain ⟨hE, hP, hD⟩ := hpre
  obtain ⟨hts, hK⟩ := K0.at (args := ([.int x] : List Value).toArray) hE
  have hl : lv_has ls 1 [(0, .int x)] := hl
  have hS : va_S (kA s0) s.heap s.heap [] := va_S.rf
  refine lv_iload_n hx hb d_Mod_isProcess_0 rfl (lv_at hl 0 rfl) ?_
  refine lv_iconst (v := (nI 1)) hx hb d_Mod_isProcess_1 (by decide) ?_
  refine lv_iconst (v := (nI 5)) hx hb d_Mod_isProcess_2 (by decide) ?_
  rcases hq6 : rg x 1 5 with _ | j7
  · refine k_callR (k_atS (As := [.int x, .int (nI 1), .int (nI 5)]) hx hb hown hE.1 (K0.w tw_714) rfl k_w9 (hts _ tw_712) (hts _ tw_713) (hts _ tw_5) (by decide) np_Mod_in rfl d_Mod_isProcess_3) (kz_n hq6 (c_Mod_in K0 ad κ o σ x 1 5 (by decide) (by decide))) (hl.1.trans hml.symm) (Nat.le_of_ble_eq_true rfl) ⟨Nat.le_of_ble_eq_true rfl, Nat.le_of_ble_eq_true rfl, Nat.le_of_ble_eq_true rfl, Nat.le_of_ble_eq_true rfl⟩ (fun U hU hW => ⟨hE.go hW hU hS, by rw [hU]; exact hP, hD⟩) ?_
    exact k_retZ hx hb hr hlocks (by decide) d_Mod_isProcess_6 (by first | rfl | (simp [b2n, eIA, eIS, eUO, eNS, hq6]; done) | (simp [b2n, eIA, eIS, eUO, eNS, hq6]; rfl) | (simp [b2n, eIA, eIS, eUO, eNS, hq6]; done) | (simp [b2n, eIA, eIS, eUO, eNS, hq6]; rfl) | (simp only [b2n, eIA, eIS, eUO, eNS, hq6]; rfl))
  · refine k_callR (k_atS (As := [.int x, .int (nI 1), .int (nI 5)]) hx hb hown hE.1 (K0.w tw_714) rfl k_w9 (hts _ tw_712) (hts _ tw_713) (hts _ tw_5) (by decide) np_Mod_in rfl d_Mod_isProcess_3) (kz_s hq6 (c_Mod_in K0 ad κ o σ x 1 5 (by decide) (by decide))) (hl.1.trans hml.symm) (Nat.le_of_ble_eq_true rfl) ⟨Nat.le_of_ble_eq_true rfl, Nat.le_of_ble_eq_true rfl, Nat.le_of_ble_eq_true rfl, Nat.le_of_ble_eq_true rfl⟩ (fun U hU hW => ⟨hE.go hW hU hS, by rw [hU]; exact hP, hD⟩) ?_
    obtain ⟨rfl, ha8, hb_9, hc_10⟩ := rg_some hq6
    exact k_retZ hx hb hr hlocks (by decide) d_Mod_isProcess_6 (by first | rfl | (simp [b2n, eIA, eIS, eUO, eNS, hq6]; done) | (simp [b2n, eIA, eIS, eUO, eNS, hq6]; rfl) | (simp [b2n, eIA, eIS, eUO, eNS, hq6]; done) | (simp [b2n, eIA, eIS, eUO, eNS, hq6]; rfl) | (simp only [b2n, eIA, eIS, eUO, eNS, hq6]; rfl))
set_option maxHeartbeats 4000000 in
set_option maxRecDepth 100000 in
theorem c_Mod_isPage {l : Launch} {s0 : State} {a0 : Array Value} {D : va_G} {cI cL : ClassId} (K0 : k0 l s0 a0 D cI cL) (ad : Nat → Nat) (κ : kS) (o : va_W) (σ : kS) (x : Int32)  : kMet l y_Mod_isPage (Cond.code y_Mod_isPage b_Mod_isPage 1 (some .boolean)) (rmL 1) [.int x] (kPre D vwCl s0 (wX ad cI κ o) σ) (.ok (some (.int (nI (b2n (rg x 0 19).isSome))), ())) kBr := by
  refine k_of (by decide) (Nat.le_of_ble_eq_true rfl) ?_
  intro p e9 s m below meth c hx hb hr hlocks hown hml hex hpre ls hl
  obtain ⟨hE, hP, hD⟩ := hpre
  obtain ⟨hts, hK⟩ := K0.at (args := ([.int x] : List Value).toArray) hE
  have hl : lv_has ls 1 [(0, .int x)] := hl
  have hS : va_S (kA s0) s.heap s.heap [] := va_S.rf
  refine lv_iload_n hx hb d_Mod_isPage_0 rfl (lv_at hl 0 rfl) ?_
  refine lv_iconst (v := (nI 0)) hx hb d_Mod_isPage_1 (by decide) ?_
  refine lv_bipush (v := (nI 19)) hx hb d_Mod_isPage_2 (by decide) ?_
  rcases hq6 : rg x 0 19 with _ | j7
  · refine k_callR (k_atS (As := [.int x, .int (nI 0), .int (nI 19)]) hx hb hown hE.1 (K0.w tw_714) rfl k_w9 (hts _ tw_712) (hts _ tw_713) (hts _ tw_5) (by decide) np_Mod_in rfl d_Mod_isPage_4) (kz_n hq6 (c_Mod_in K0 ad κ o σ x 0 19 (by decide) (by decide))) (hl.1.trans hml.symm) (Nat.le_of_ble_eq_true rfl) ⟨Nat.le_of_ble_eq_true rfl, Nat.le_of_ble_eq_true rfl, Nat.le_of_ble_eq_true rfl, Nat.le_of_ble_eq_true rfl⟩ (fun U hU hW => ⟨hE.go hW hU hS, by rw [hU]; exact hP, hD⟩) ?_
    exact k_retZ hx hb hr hlocks (by decide) d_Mod_isPage_7 (by first | rfl | (simp [b2n, eIA, eIS, eUO, eNS, hq6]; done) | (simp [b2n, eIA, eIS, eUO, eNS, hq6]; rfl) | (simp [b2n, eIA, eIS, eUO, eNS, hq6]; done) | (simp [b2n, eIA, eIS, eUO, eNS, hq6]; rfl) | (simp only [b2n, eIA, eIS, eUO, eNS, hq6]; rfl))
  · refine k_callR (k_atS (As := [.int x, .int (nI 0), .int (nI 19)]) hx hb hown hE.1 (K0.w tw_714) rfl k_w9 (hts _ tw_712) (hts _ tw_713) (hts _ tw_5) (by decide) np_Mod_in rfl d_Mod_isPage_4) (kz_s hq6 (c_Mod_in K0 ad κ o σ x 0 19 (by decide) (by decide))) (hl.1.trans hml.symm) (Nat.le_of_ble_eq_true rfl) ⟨Nat.le_of_ble_eq_true rfl, Nat.le_of_ble_eq_true rfl, Nat.le_of_ble_eq_true rfl, Nat.le_of_ble_eq_true rfl⟩ (fun U hU hW => ⟨hE.go hW hU hS, by rw [hU]; exact hP, hD⟩) ?_
    obtain ⟨rfl, ha8, hb_9, hc_10⟩ := rg_some hq6
    exact k_retZ hx hb hr hlocks (by decide) d_Mod_isPage_7 (by first | rfl | (simp [b2n, eIA, eIS, eUO, eNS, hq6]; done) | (simp [b2n, eIA, eIS, eUO, eNS, hq6]; rfl) | (simp [b2n, eIA, eIS, eUO, eNS, hq6]; done) | (simp [b2n, eIA, eIS, eUO, eNS, hq6]; rfl) | (simp only [b2n, eIA, eIS, eUO, eNS, hq6]; rfl))
set_option maxHeartbeats 4000000 in
set_option maxRecDepth 100000 in
theorem c_Mod_descriptors {l : Launch} {s0 : State} {a0 : Array Value} {D : va_G} {cI cL : ClassId} (K0 : k0 l s0 a0 D cI cL) (ad : Nat → Nat) (κ : kS) (o : va_W) (σ : kS) (q : Nat) (hq : q < 6) (hb7 : ∀ i, i < 24 → σ.1 7 i < 2 ^ 30) : kMet l y_Mod_descriptors (Cond.code y_Mod_descriptors b_Mod_descriptors 4 (some .int)) (rmL 0) [.ref (ad 17), .int (nI q)] (kPre D vwCl s0 (wX ad cI κ o) σ) (.ok (some (.int (nI (inuse σ q))), ())) kBr := by
  refine k_of (by decide) (Nat.le_of_ble_eq_true rfl) ?_
  intro p e9 s m below meth c hx hb hr hlocks hown hml hex hpre ls hl
  obtain ⟨hE, hP, hD⟩ := hpre
  obtain ⟨hts, hK⟩ := K0.at (args := ([.ref (ad 17), .int (nI q)] : List Value).toArray) hE
  have hl : lv_has ls 4 [(0, .ref (ad 17)), (1, .int (nI q))] := hl
  have hS : va_S (kA s0) s.heap s.heap [] := va_S.rf
  refine lv_iconst (v := (nI 0)) hx hb d_Mod_descriptors_0 (by decide) ?_
  refine lv_istore_n (lv' := [(2, .int (nI 0)), (0, .ref (ad 17)), (1, .int (nI q))]) hx hb d_Mod_descriptors_1 rfl hl (by decide) rfl (fun ls hl => ?_)
  refine lv_iconst (v := (nI 4)) hx hb d_Mod_descriptors_2 (by decide) ?_
  refine lv_iload_n hx hb d_Mod_descriptors_3 rfl (lv_at hl 2 rfl) ?_
  refine k_mulC hx hb d_Mod_descriptors_4 ?_
  refine lv_istore_n (lv' := [(3, .int (nI (q * 4))), (2, .int (nI 0)), (0, .ref (ad 17)), (1, .int (nI q))]) hx hb d_Mod_descriptors_5 rfl hl (by decide) rfl (fun ls hl => ?_)
  have L : ∀ (n i : Nat), 0 ≤ i → i + n = 4 → ∀ ls : Array Slot, lv_has ls 4 [(3, .int (nI ((q * 4) + i))), (2, .int (nI (cnt (fun d => σ.1 7 (q * 4 + d) != 0) i))), (0, .ref (ad 17)), (1, .int (nI q))] → W p l e9 (rmL 0) s m ([.ref (ad 17), .int (nI q)] : List Value).toArray below meth c s.heap [] 0 0 (kE below (.ok (some (.int (nI (inuse σ q))), ())) kBr s) (F0 m 6 ls []) := by
    intro n
    induction n with
    | zero =>
      intro i hi0 hi ls hl
      obtain rfl : i = 4 := by omega
      refine lv_iload_n hx hb d_Mod_descriptors_6 rfl (lv_at hl 0 rfl) ?_
      refine lv_iconst (v := (nI 4)) hx hb d_Mod_descriptors_7 (by decide) ?_
      refine lv_iload_n hx hb d_Mod_descriptors_8 rfl (lv_at hl 3 rfl) ?_
      refine k_mulC hx hb d_Mod_descriptors_9 ?_
      refine lv_iconst (v := (nI 4)) hx hb d_Mod_descriptors_10 (by decide) ?_
      refine k_addN hx hb d_Mod_descriptors_11 ?_
      refine k_geN (tgt := 33) (by omega) (by omega) hx hb d_Mod_descriptors_12 (by decide) (fun _ => ?_) (fun h9 => absurd h9 (by omega))
      refine lv_iload_n hx hb d_Mod_descriptors_33 rfl (lv_at hl 1 rfl) ?_
      exact k_retI hx hb hr hlocks d_Mod_descriptors_34 (rfl)
    | succ n ih =>
      intro i hi0 hi ls hl
      have hlt : i < 4 := by omega
      refine lv_iload_n hx hb d_Mod_descriptors_6 rfl (lv_at hl 0 rfl) ?_
      refine lv_iconst (v := (nI 4)) hx hb d_Mod_descriptors_7 (by decide) ?_
      refine lv_iload_n hx hb d_Mod_descriptors_8 rfl (lv_at hl 3 rfl) ?_
      refine k_mulC hx hb d_Mod_descriptors_9 ?_
      refine lv_iconst (v := (nI 4)) hx hb d_Mod_descriptors_10 (by decide) ?_
      refine k_addN hx hb d_Mod_descriptors_11 ?_
      refine k_geN (tgt := 33) (by omega) (by omega) hx hb d_Mod_descriptors_12 (by decide) (fun h9 => absurd h9 (by omega)) (fun _ => ?_)
      refine lv_aload_n hx hb d_Mod_descriptors_15 rfl (lv_at hl 2 rfl) ?_
      refine va_get (D := D) (ci := nMod) (v := .ref (ad 21)) (C := R_Mod) (T := T_Mod) (N := 15) hx hb hts i_Mod hown hK hP 17 rfl rfl 4 (by decide) (hts _ tw_659) (fun _ h9 => h9) rfl d_Mod_descriptors_16 ?_
      refine lv_iload_n hx hb d_Mod_descriptors_19 rfl (lv_at hl 0 rfl) ?_
      refine k_aldP (q0 := 21) (t0 := 0) hx hb hK hP rfl rfl (by omega) (by decide) d_Mod_descriptors_20 ?_
      refine k_ltP0 (tgt := 27) (hb7 _ (by omega)) hx hb d_Mod_descriptors_21 (by decide) (fun h1 => ?_) (fun h1 => ?_)
      · refine lv_iinc (v := (nI (((q * 4) + i) + 1))) (lv' := [(3, .int (nI (((q * 4) + i) + 1))), (2, .int (nI (cnt (fun d => σ.1 7 (q * 4 + d) != 0) i))), (0, .ref (ad 17)), (1, .int (nI q))]) hx hb d_Mod_descriptors_27 hl (k := 0) rfl (nI_1 _) (by decide) rfl (fun ls hl => ?_)
        refine lv_goto (tgt := 6) hx hb d_Mod_descriptors_30 (by decide) ?_
        exact ih (i + 1) (by omega) (by omega) ls (by rw [cnt_f (by first | (simp [h1]; done) | (simp [h1]; omega))]; exact lv_sub hl [0, 1, 2, 3] rfl)
      · refine lv_iinc (v := (nI ((cnt (fun d => σ.1 7 (q * 4 + d) != 0) i) + 1))) (lv' := [(2, .int (nI ((cnt (fun d => σ.1 7 (q * 4 + d) != 0) i) + 1))), (3, .int (nI ((q * 4) + i))), (0, .ref (ad 17)), (1, .int (nI q))]) hx hb d_Mod_descriptors_24 hl (k := 1) rfl (nI_1 _) (by decide) rfl (fun ls hl => ?_)
        refine lv_iinc (v := (nI (((q * 4) + i) + 1))) (lv' := [(3, .int (nI (((q * 4) + i) + 1))), (2, .int (nI ((cnt (fun d => σ.1 7 (q * 4 + d) != 0) i) + 1))), (0, .ref (ad 17)), (1, .int (nI q))]) hx hb d_Mod_descriptors_27 hl (k := 1) rfl (nI_1 _) (by decide) rfl (fun ls hl => ?_)
        refine lv_goto (tgt := 6) hx hb d_Mod_descriptors_30 (by decide) ?_
        exact ih (i + 1) (by omega) (by omega) ls (by rw [cnt_t (by first | (simp [h1]; done) | (simp [h1]; omega))]; exact lv_sub hl [0, 1, 2, 3] rfl)
  exact L 4 0 (by omega) (by omega) ls (lv_sub hl [0, 1, 2, 3] rfl)
set_option maxHeartbeats 4000000 in
set_option maxRecDepth 100000 in
theorem c_Mod_owned {l : Launch} {s0 : State} {a0 : Array Value} {D : va_G} {cI cL : ClassId} (K0 : k0 l s0 a0 D cI cL) (ad : Nat → Nat) (κ : kS) (o : va_W) (σ : kS) (q : Nat) (hq : q < 6) (hb0 : ∀ i, i < 20 → σ.1 0 i < 2 ^ 30) (hb1 : ∀ i, i < 20 → σ.1 1 i < 2 ^ 30) : kMet l y_Mod_owned (Cond.code y_Mod_owned b_Mod_owned 4 (some .int)) (rmL 0) [.ref (ad 17), .int (nI q)] (kPre D vwCl s0 (wX ad cI κ o) σ) (.ok (some (.int (nI (rown σ q))), ())) kBr := by
  refine k_of (by decide) (Nat.le_of_ble_eq_true rfl) ?_
  intro p e9 s m below meth c hx hb hr hlocks hown hml hex hpre ls hl
  obtain ⟨hE, hP, hD⟩ := hpre
  obtain ⟨hts, hK⟩ := K0.at (args := ([.ref (ad 17), .int (nI q)] : List Value).toArray) hE
  have hl : lv_has ls 4 [(0, .ref (ad 17)), (1, .int (nI q))] := hl
  have hS : va_S (kA s0) s.heap s.heap [] := va_S.rf
  refine lv_iconst (v := (nI 0)) hx hb d_Mod_owned_0 (by decide) ?_
  refine lv_istore_n (lv' := [(2, .int (nI 0)), (0, .ref (ad 17)), (1, .int (nI q))]) hx hb d_Mod_owned_1 rfl hl (by decide) rfl (fun ls hl => ?_)
  refine lv_iconst (v := (nI 0)) hx hb d_Mod_owned_2 (by decide) ?_
  refine lv_istore_n (lv' := [(3, .int (nI 0)), (2, .int (nI 0)), (0, .ref (ad 17)), (1, .int (nI q))]) hx hb d_Mod_owned_3 rfl hl (by decide) rfl (fun ls hl => ?_)
  have L : ∀ (n i : Nat), 0 ≤ i → i + n = 20 → ∀ ls : Array Slot, lv_has ls 4 [(3, .int (nI i)), (2, .int (nI (cnt (fun g => σ.1 0 g != 0 && σ.1 1 g == q) i))), (0, .ref (ad 17)), (1, .int (nI q))] → W p l e9 (rmL 0) s m ([.ref (ad 17), .int (nI q)] : List Value).toArray below meth c s.heap [] 0 0 (kE below (.ok (some (.int (nI (rown σ q))), ())) kBr s) (F0 m 4 ls []) := by
    intro n
    induction n with
    | zero =>
      intro i hi0 hi ls hl
      obtain rfl : i = 20 := by omega
      refine lv_iload_n hx hb d_Mod_owned_4 rfl (lv_at hl 0 rfl) ?_
      refine lv_bipush (v := (nI 20)) hx hb d_Mod_owned_5 (by decide) ?_
      refine k_geN (tgt := 38) (by decide) (by decide) hx hb d_Mod_owned_7 (by decide) (fun _ => ?_) (fun h9 => absurd h9 (by decide))
      refine lv_iload_n hx hb d_Mod_owned_38 rfl (lv_at hl 1 rfl) ?_
      exact k_retI hx hb hr hlocks d_Mod_owned_39 (rfl)
    | succ n ih =>
      intro i hi0 hi ls hl
      have hlt : i < 20 := by omega
      refine lv_iload_n hx hb d_Mod_owned_4 rfl (lv_at hl 0 rfl) ?_
      refine lv_bipush (v := (nI 20)) hx hb d_Mod_owned_5 (by decide) ?_
      refine k_geN (tgt := 38) (by omega) (by omega) hx hb d_Mod_owned_7 (by decide) (fun h9 => absurd h9 (by omega)) (fun _ => ?_)
      refine lv_aload_n hx hb d_Mod_owned_10 rfl (lv_at hl 2 rfl) ?_
      refine va_get (D := D) (ci := nMod) (v := .ref (ad 23)) (C := R_Mod) (T := T_Mod) (N := 15) hx hb hts i_Mod hown hK hP 17 rfl rfl 6 (by decide) (hts _ tw_661) (fun _ h9 => h9) rfl d_Mod_owned_11 ?_
      refine lv_iload_n hx hb d_Mod_owned_14 rfl (lv_at hl 0 rfl) ?_
      refine k_aldN (q0 := 23) (t0 := 0) hx hb hK hP rfl rfl (by omega) (by decide) d_Mod_owned_15 ?_
      refine k_leN0 (tgt := 32) (Nat.lt_of_lt_of_le (hb0 _ (by omega)) (by decide)) hx hb d_Mod_owned_16 (by decide) (fun h1 => ?_) (fun h1 => ?_)
      · refine lv_iinc (v := (nI (i + 1))) (lv' := [(3, .int (nI (i + 1))), (2, .int (nI (cnt (fun g => σ.1 0 g != 0 && σ.1 1 g == q) i))), (0, .ref (ad 17)), (1, .int (nI q))]) hx hb d_Mod_owned_32 hl (k := 0) rfl (nI_1 _) (by decide) rfl (fun ls hl => ?_)
        refine lv_goto (tgt := 4) hx hb d_Mod_owned_35 (by decide) ?_
        exact ih (i + 1) (by omega) (by omega) ls (by rw [cnt_f (by first | (simp [h1]; done) | (simp [h1]; omega))]; exact lv_sub hl [0, 1, 2, 3] rfl)
      · refine lv_aload_n hx hb d_Mod_owned_19 rfl (lv_at hl 2 rfl) ?_
        refine va_get (D := D) (ci := nMod) (v := .ref (ad 24)) (C := R_Mod) (T := T_Mod) (N := 15) hx hb hts i_Mod hown hK hP 17 rfl rfl 7 (by decide) (hts _ tw_662) (fun _ h9 => h9) rfl d_Mod_owned_20 ?_
        refine lv_iload_n hx hb d_Mod_owned_23 rfl (lv_at hl 0 rfl) ?_
        refine k_aldN (q0 := 24) (t0 := 0) hx hb hK hP rfl rfl (by omega) (by decide) d_Mod_owned_24 ?_
        refine lv_iload_n hx hb d_Mod_owned_25 rfl (lv_at hl 3 rfl) ?_
        refine k_neN (tgt := 32) (Nat.lt_of_lt_of_le (hb1 _ (by omega)) (by decide)) (by omega) hx hb d_Mod_owned_26 (by decide) (fun h2 => ?_) (fun h2 => ?_)
        · refine lv_iinc (v := (nI (i + 1))) (lv' := [(3, .int (nI (i + 1))), (2, .int (nI (cnt (fun g => σ.1 0 g != 0 && σ.1 1 g == q) i))), (0, .ref (ad 17)), (1, .int (nI q))]) hx hb d_Mod_owned_32 hl (k := 0) rfl (nI_1 _) (by decide) rfl (fun ls hl => ?_)
          refine lv_goto (tgt := 4) hx hb d_Mod_owned_35 (by decide) ?_
          exact ih (i + 1) (by omega) (by omega) ls (by rw [cnt_f (by first | (simp [h1, h2]; done) | (simp [h1, h2]; omega))]; exact lv_sub hl [0, 1, 2, 3] rfl)
        · refine lv_iinc (v := (nI ((cnt (fun g => σ.1 0 g != 0 && σ.1 1 g == q) i) + 1))) (lv' := [(2, .int (nI ((cnt (fun g => σ.1 0 g != 0 && σ.1 1 g == q) i) + 1))), (3, .int (nI i)), (0, .ref (ad 17)), (1, .int (nI q))]) hx hb d_Mod_owned_29 hl (k := 1) rfl (nI_1 _) (by decide) rfl (fun ls hl => ?_)
          refine lv_iinc (v := (nI (i + 1))) (lv' := [(3, .int (nI (i + 1))), (2, .int (nI ((cnt (fun g => σ.1 0 g != 0 && σ.1 1 g == q) i) + 1))), (0, .ref (ad 17)), (1, .int (nI q))]) hx hb d_Mod_owned_32 hl (k := 1) rfl (nI_1 _) (by decide) rfl (fun ls hl => ?_)
          refine lv_goto (tgt := 4) hx hb d_Mod_owned_35 (by decide) ?_
          exact ih (i + 1) (by omega) (by omega) ls (by rw [cnt_t (by first | (simp [h1, h2]; done) | (simp [h1, h2]; omega))]; exact lv_sub hl [0, 1, 2, 3] rfl)
  exact L 20 0 (by omega) (by omega) ls (lv_sub hl [0, 1, 2, 3] rfl)
set_option maxHeartbeats 4000000 in
set_option maxRecDepth 100000 in
theorem c_Mod_countOf {l : Launch} {s0 : State} {a0 : Array Value} {D : va_G} {cI cL : ClassId} (K0 : k0 l s0 a0 D cI cL) (ad : Nat → Nat) (κ : kS) (o : va_W) (σ : kS) (u : Nat) (hu : u < 4) (hb7 : ∀ i, i < 24 → σ.1 7 i < 2 ^ 30) : kMet l y_Mod_countOf (Cond.code y_Mod_countOf b_Mod_countOf 4 (some .int)) (rmL 0) [.ref (ad 17), .int (nI u)] (kPre D vwCl s0 (wX ad cI κ o) σ) (.ok (some (.int (nI (rcof σ u))), ())) kBr := by
  refine k_of (by decide) (Nat.le_of_ble_eq_true rfl) ?_
  intro p e9 s m below meth c hx hb hr hlocks hown hml hex hpre ls hl
  obtain ⟨hE, hP, hD⟩ := hpre
  obtain ⟨hts, hK⟩ := K0.at (args := ([.ref (ad 17), .int (nI u)] : List Value).toArray) hE
  have hl : lv_has ls 4 [(0, .ref (ad 17)), (1, .int (nI u))] := hl
  have hS : va_S (kA s0) s.heap s.heap [] := va_S.rf
  refine lv_iconst (v := (nI 0)) hx hb d_Mod_countOf_0 (by decide) ?_
  refine lv_istore_n (lv' := [(2, .int (nI 0)), (0, .ref (ad 17)), (1, .int (nI u))]) hx hb d_Mod_countOf_1 rfl hl (by decide) rfl (fun ls hl => ?_)
  refine lv_iconst (v := (nI 4)) hx hb d_Mod_countOf_2 (by decide) ?_
  refine lv_istore_n (lv' := [(3, .int (nI 4)), (2, .int (nI 0)), (0, .ref (ad 17)), (1, .int (nI u))]) hx hb d_Mod_countOf_3 rfl hl (by decide) rfl (fun ls hl => ?_)
  have L : ∀ (n i : Nat), 4 ≤ i → i + n = 24 → ∀ ls : Array Slot, lv_has ls 4 [(3, .int (nI i)), (2, .int (nI (cnt (fun k => decide (4 ≤ k) && σ.1 7 k == u + 1) i))), (0, .ref (ad 17)), (1, .int (nI u))] → W p l e9 (rmL 0) s m ([.ref (ad 17), .int (nI u)] : List Value).toArray below meth c s.heap [] 0 0 (kE below (.ok (some (.int (nI (rcof σ u))), ())) kBr s) (F0 m 4 ls []) := by
    intro n
    induction n with
    | zero =>
      intro i hi0 hi ls hl
      obtain rfl : i = 24 := by omega
      refine lv_iload_n hx hb d_Mod_countOf_4 rfl (lv_at hl 0 rfl) ?_
      refine lv_bipush (v := (nI 24)) hx hb d_Mod_countOf_5 (by decide) ?_
      refine k_geN (tgt := 29) (by decide) (by decide) hx hb d_Mod_countOf_7 (by decide) (fun _ => ?_) (fun h9 => absurd h9 (by decide))
      refine lv_iload_n hx hb d_Mod_countOf_29 rfl (lv_at hl 1 rfl) ?_
      exact k_retI hx hb hr hlocks d_Mod_countOf_30 (rfl)
    | succ n ih =>
      intro i hi0 hi ls hl
      have hlt : i < 24 := by omega
      refine lv_iload_n hx hb d_Mod_countOf_4 rfl (lv_at hl 0 rfl) ?_
      refine lv_bipush (v := (nI 24)) hx hb d_Mod_countOf_5 (by decide) ?_
      refine k_geN (tgt := 29) (by omega) (by omega) hx hb d_Mod_countOf_7 (by decide) (fun h9 => absurd h9 (by omega)) (fun _ => ?_)
      refine lv_aload_n hx hb d_Mod_countOf_10 rfl (lv_at hl 2 rfl) ?_
      refine va_get (D := D) (ci := nMod) (v := .ref (ad 21)) (C := R_Mod) (T := T_Mod) (N := 15) hx hb hts i_Mod hown hK hP 17 rfl rfl 4 (by decide) (hts _ tw_659) (fun _ h9 => h9) rfl d_Mod_countOf_11 ?_
      refine lv_iload_n hx hb d_Mod_countOf_14 rfl (lv_at hl 0 rfl) ?_
      refine k_aldP (q0 := 21) (t0 := 0) hx hb hK hP rfl rfl (by omega) (by decide) d_Mod_countOf_15 ?_
      refine lv_iload_n hx hb d_Mod_countOf_16 rfl (lv_at hl 3 rfl) ?_
      refine k_st (st' := [.int (pI (u + 1)), .int (pI (σ.1 7 i))]) (by show ([.int (nI u), .int (pI (σ.1 7 i))] : List Value) = _; rw [pI_succ]) ?_
      refine k_neP (tgt := 23) (hb7 _ (by omega)) (by omega) hx hb d_Mod_countOf_17 (by decide) (fun h1 => ?_) (fun h1 => ?_)
      · refine lv_iinc (v := (nI (i + 1))) (lv' := [(3, .int (nI (i + 1))), (2, .int (nI (cnt (fun k => decide (4 ≤ k) && σ.1 7 k == u + 1) i))), (0, .ref (ad 17)), (1, .int (nI u))]) hx hb d_Mod_countOf_23 hl (k := 0) rfl (nI_1 _) (by decide) rfl (fun ls hl => ?_)
        refine lv_goto (tgt := 4) hx hb d_Mod_countOf_26 (by decide) ?_
        exact ih (i + 1) (by omega) (by omega) ls (by rw [cnt_f (by first | (simp [h1]; done) | (simp [h1]; omega))]; exact lv_sub hl [0, 1, 2, 3] rfl)
      · refine lv_iinc (v := (nI ((cnt (fun k => decide (4 ≤ k) && σ.1 7 k == u + 1) i) + 1))) (lv' := [(2, .int (nI ((cnt (fun k => decide (4 ≤ k) && σ.1 7 k == u + 1) i) + 1))), (3, .int (nI i)), (0, .ref (ad 17)), (1, .int (nI u))]) hx hb d_Mod_countOf_20 hl (k := 1) rfl (nI_1 _) (by decide) rfl (fun ls hl => ?_)
        refine lv_iinc (v := (nI (i + 1))) (lv' := [(3, .int (nI (i + 1))), (2, .int (nI ((cnt (fun k => decide (4 ≤ k) && σ.1 7 k == u + 1) i) + 1))), (0, .ref (ad 17)), (1, .int (nI u))]) hx hb d_Mod_countOf_23 hl (k := 1) rfl (nI_1 _) (by decide) rfl (fun ls hl => ?_)
        refine lv_goto (tgt := 4) hx hb d_Mod_countOf_26 (by decide) ?_
        exact ih (i + 1) (by omega) (by omega) ls (by rw [cnt_t (by first | (simp [h1]; done) | (simp [h1]; omega))]; exact lv_sub hl [0, 1, 2, 3] rfl)
  exact L 20 4 (by omega) (by omega) ls (lv_sub hl [0, 1, 2, 3] rfl)
set_option maxHeartbeats 4000000 in
set_option maxRecDepth 100000 in
theorem c_Mod_nextReady {l : Launch} {s0 : State} {a0 : Array Value} {D : va_G} {cI cL : ClassId} (K0 : k0 l s0 a0 D cI cL) (ad : Nat → Nat) (κ : kS) (o : va_W) (σ : kS) (q : Nat) (hq : q < 6) (hq1 : 1 ≤ q) (hb4 : ∀ i, i < 6 → σ.1 4 i < 2 ^ 30) : kMet l y_Mod_nextReady (Cond.code y_Mod_nextReady b_Mod_nextReady 4 (some .int)) (rmL 0) [.ref (ad 17), .int (nI q)] (kPre D vwCl s0 (wX ad cI κ o) σ) (.ok (some (.int (nI (rnx σ q))), ())) kBr := by
  refine k_of (by decide) (Nat.le_of_ble_eq_true rfl) ?_
  intro p e9 s m below meth c hx hb hr hlocks hown hml hex hpre ls hl
  obtain ⟨hE, hP, hD⟩ := hpre
  obtain ⟨hts, hK⟩ := K0.at (args := ([.ref (ad 17), .int (nI q)] : List Value).toArray) hE
  have hl : lv_has ls 4 [(0, .ref (ad 17)), (1, .int (nI q))] := hl
  have hS : va_S (kA s0) s.heap s.heap [] := va_S.rf
  refine lv_iconst (v := (nI 1)) hx hb d_Mod_nextReady_0 (by decide) ?_
  refine lv_istore_n (lv' := [(2, .int (nI 1)), (0, .ref (ad 17)), (1, .int (nI q))]) hx hb d_Mod_nextReady_1 rfl hl (by decide) rfl (fun ls hl => ?_)
  refine lv_iload_n hx hb d_Mod_nextReady_2 rfl (lv_at hl 0 rfl) ?_
  refine lv_iconst (v := (nI 5)) hx hb d_Mod_nextReady_3 (by decide) ?_
  refine k_gtN (tgt := 35) (by decide) (by decide) hx hb d_Mod_nextReady_4 (by decide) (fun h9 => absurd h9 (by decide)) (fun _ => ?_)
  refine lv_iload_n hx hb d_Mod_nextReady_7 rfl (lv_at hl 2 rfl) ?_
  refine lv_iconst (v := (nI 1)) hx hb d_Mod_nextReady_8 (by decide) ?_
  refine k_subN (by omega) hx hb d_Mod_nextReady_9 ?_
  refine lv_iload_n hx hb d_Mod_nextReady_10 rfl (lv_at hl 0 rfl) ?_
  refine k_addN hx hb d_Mod_nextReady_11 ?_
  refine lv_iconst (v := (nI 5)) hx hb d_Mod_nextReady_12 (by decide) ?_
  refine k_remN (by omega) (by omega) (by omega) hx hb d_Mod_nextReady_13 ?_
  refine lv_iconst (v := (nI 1)) hx hb d_Mod_nextReady_14 (by decide) ?_
  refine k_addN hx hb d_Mod_nextReady_15 ?_
  refine lv_istore_n (lv' := [(3, .int (nI ((((q - 1) + 1) % 5) + 1))), (2, .int (nI 1)), (0, .ref (ad 17)), (1, .int (nI q))]) hx hb d_Mod_nextReady_16 rfl hl (by decide) rfl (fun ls hl => ?_)
  refine lv_aload_n hx hb d_Mod_nextReady_17 rfl (lv_at hl 2 rfl) ?_
  refine va_get (D := D) (ci := nMod) (v := .ref (ad 18)) (C := R_Mod) (T := T_Mod) (N := 15) hx hb hts i_Mod hown hK hP 17 rfl rfl 1 (by decide) (hts _ tw_656) (fun _ h9 => h9) rfl d_Mod_nextReady_18 ?_
  refine lv_iload_n hx hb d_Mod_nextReady_21 rfl (lv_at hl 0 rfl) ?_
  refine k_aldN (q0 := 18) (t0 := 0) hx hb hK hP rfl rfl (by omega) (by decide) d_Mod_nextReady_22 ?_
  refine lv_iconst (v := (nI 2)) hx hb d_Mod_nextReady_23 (by decide) ?_
  refine k_neN (tgt := 29) (Nat.lt_of_lt_of_le (hb4 _ (by omega)) (by decide)) (by omega) hx hb d_Mod_nextReady_24 (by decide) (fun h1 => ?_) (fun h1 => ?_)
  · refine lv_iinc (v := (nI 2)) (lv' := [(2, .int (nI 2)), (3, .int (nI ((((q - 1) + 1) % 5) + 1))), (0, .ref (ad 17)), (1, .int (nI q))]) hx hb d_Mod_nextReady_29 hl (k := 1) rfl (nI_1 _) (by decide) rfl (fun ls hl => ?_)
    refine lv_goto (tgt := 2) hx hb d_Mod_nextReady_32 (by decide) ?_
    refine lv_iload_n hx hb d_Mod_nextReady_2 rfl (lv_at hl 0 rfl) ?_
    refine lv_iconst (v := (nI 5)) hx hb d_Mod_nextReady_3 (by decide) ?_
    refine k_gtN (tgt := 35) (by decide) (by decide) hx hb d_Mod_nextReady_4 (by decide) (fun h9 => absurd h9 (by decide)) (fun _ => ?_)
    refine lv_iload_n hx hb d_Mod_nextReady_7 rfl (lv_at hl 3 rfl) ?_
    refine lv_iconst (v := (nI 1)) hx hb d_Mod_nextReady_8 (by decide) ?_
    refine k_subN (by omega) hx hb d_Mod_nextReady_9 ?_
    refine lv_iload_n hx hb d_Mod_nextReady_10 rfl (lv_at hl 0 rfl) ?_
    refine k_addN hx hb d_Mod_nextReady_11 ?_
    refine lv_iconst (v := (nI 5)) hx hb d_Mod_nextReady_12 (by decide) ?_
    refine k_remN (by omega) (by omega) (by omega) hx hb d_Mod_nextReady_13 ?_
    refine lv_iconst (v := (nI 1)) hx hb d_Mod_nextReady_14 (by decide) ?_
    refine k_addN hx hb d_Mod_nextReady_15 ?_
    refine lv_istore_n (lv' := [(3, .int (nI ((((q - 1) + 2) % 5) + 1))), (2, .int (nI 2)), (0, .ref (ad 17)), (1, .int (nI q))]) hx hb d_Mod_nextReady_16 rfl hl (by decide) rfl (fun ls hl => ?_)
    refine lv_aload_n hx hb d_Mod_nextReady_17 rfl (lv_at hl 2 rfl) ?_
    refine va_get (D := D) (ci := nMod) (v := .ref (ad 18)) (C := R_Mod) (T := T_Mod) (N := 15) hx hb hts i_Mod hown hK hP 17 rfl rfl 1 (by decide) (hts _ tw_656) (fun _ h9 => h9) rfl d_Mod_nextReady_18 ?_
    refine lv_iload_n hx hb d_Mod_nextReady_21 rfl (lv_at hl 0 rfl) ?_
    refine k_aldN (q0 := 18) (t0 := 0) hx hb hK hP rfl rfl (by omega) (by decide) d_Mod_nextReady_22 ?_
    refine lv_iconst (v := (nI 2)) hx hb d_Mod_nextReady_23 (by decide) ?_
    refine k_neN (tgt := 29) (Nat.lt_of_lt_of_le (hb4 _ (by omega)) (by decide)) (by omega) hx hb d_Mod_nextReady_24 (by decide) (fun h2 => ?_) (fun h2 => ?_)
    · refine lv_iinc (v := (nI 3)) (lv' := [(2, .int (nI 3)), (3, .int (nI ((((q - 1) + 2) % 5) + 1))), (0, .ref (ad 17)), (1, .int (nI q))]) hx hb d_Mod_nextReady_29 hl (k := 1) rfl (nI_1 _) (by decide) rfl (fun ls hl => ?_)
      refine lv_goto (tgt := 2) hx hb d_Mod_nextReady_32 (by decide) ?_
      refine lv_iload_n hx hb d_Mod_nextReady_2 rfl (lv_at hl 0 rfl) ?_
      refine lv_iconst (v := (nI 5)) hx hb d_Mod_nextReady_3 (by decide) ?_
      refine k_gtN (tgt := 35) (by decide) (by decide) hx hb d_Mod_nextReady_4 (by decide) (fun h9 => absurd h9 (by decide)) (fun _ => ?_)
      refine lv_iload_n hx hb d_Mod_nextReady_7 rfl (lv_at hl 3 rfl) ?_
      refine lv_iconst (v := (nI 1)) hx hb d_Mod_nextReady_8 (by decide) ?_
      refine k_subN (by omega) hx hb d_Mod_nextReady_9 ?_
      refine lv_iload_n hx hb d_Mod_nextReady_10 rfl (lv_at hl 0 rfl) ?_
      refine k_addN hx hb d_Mod_nextReady_11 ?_
      refine lv_iconst (v := (nI 5)) hx hb d_Mod_nextReady_12 (by decide) ?_
      refine k_remN (by omega) (by omega) (by omega) hx hb d_Mod_nextReady_13 ?_
      refine lv_iconst (v := (nI 1)) hx hb d_Mod_nextReady_14 (by decide) ?_
      refine k_addN hx hb d_Mod_nextReady_15 ?_
      refine lv_istore_n (lv' := [(3, .int (nI ((((q - 1) + 3) % 5) + 1))), (2, .int (nI 3)), (0, .ref (ad 17)), (1, .int (nI q))]) hx hb d_Mod_nextReady_16 rfl hl (by decide) rfl (fun ls hl => ?_)
      refine lv_aload_n hx hb d_Mod_nextReady_17 rfl (lv_at hl 2 rfl) ?_
      refine va_get (D := D) (ci := nMod) (v := .ref (ad 18)) (C := R_Mod) (T := T_Mod) (N := 15) hx hb hts i_Mod hown hK hP 17 rfl rfl 1 (by decide) (hts _ tw_656) (fun _ h9 => h9) rfl d_Mod_nextReady_18 ?_
      refine lv_iload_n hx hb d_Mod_nextReady_21 rfl (lv_at hl 0 rfl) ?_
      refine k_aldN (q0 := 18) (t0 := 0) hx hb hK hP rfl rfl (by omega) (by decide) d_Mod_nextReady_22 ?_
      refine lv_iconst (v := (nI 2)) hx hb d_Mod_nextReady_23 (by decide) ?_
      refine k_neN (tgt := 29) (Nat.lt_of_lt_of_le (hb4 _ (by omega)) (by decide)) (by omega) hx hb d_Mod_nextReady_24 (by decide) (fun h3 => ?_) (fun h3 => ?_)
      · refine lv_iinc (v := (nI 4)) (lv' := [(2, .int (nI 4)), (3, .int (nI ((((q - 1) + 3) % 5) + 1))), (0, .ref (ad 17)), (1, .int (nI q))]) hx hb d_Mod_nextReady_29 hl (k := 1) rfl (nI_1 _) (by decide) rfl (fun ls hl => ?_)
        refine lv_goto (tgt := 2) hx hb d_Mod_nextReady_32 (by decide) ?_
        refine lv_iload_n hx hb d_Mod_nextReady_2 rfl (lv_at hl 0 rfl) ?_
        refine lv_iconst (v := (nI 5)) hx hb d_Mod_nextReady_3 (by decide) ?_
        refine k_gtN (tgt := 35) (by decide) (by decide) hx hb d_Mod_nextReady_4 (by decide) (fun h9 => absurd h9 (by decide)) (fun _ => ?_)
        refine lv_iload_n hx hb d_Mod_nextReady_7 rfl (lv_at hl 3 rfl) ?_
        refine lv_iconst (v := (nI 1)) hx hb d_Mod_nextReady_8 (by decide) ?_
        refine k_subN (by omega) hx hb d_Mod_nextReady_9 ?_
        refine lv_iload_n hx hb d_Mod_nextReady_10 rfl (lv_at hl 0 rfl) ?_
        refine k_addN hx hb d_Mod_nextReady_11 ?_
        refine lv_iconst (v := (nI 5)) hx hb d_Mod_nextReady_12 (by decide) ?_
        refine k_remN (by omega) (by omega) (by omega) hx hb d_Mod_nextReady_13 ?_
        refine lv_iconst (v := (nI 1)) hx hb d_Mod_nextReady_14 (by decide) ?_
        refine k_addN hx hb d_Mod_nextReady_15 ?_
        refine lv_istore_n (lv' := [(3, .int (nI ((((q - 1) + 4) % 5) + 1))), (2, .int (nI 4)), (0, .ref (ad 17)), (1, .int (nI q))]) hx hb d_Mod_nextReady_16 rfl hl (by decide) rfl (fun ls hl => ?_)
        refine lv_aload_n hx hb d_Mod_nextReady_17 rfl (lv_at hl 2 rfl) ?_
        refine va_get (D := D) (ci := nMod) (v := .ref (ad 18)) (C := R_Mod) (T := T_Mod) (N := 15) hx hb hts i_Mod hown hK hP 17 rfl rfl 1 (by decide) (hts _ tw_656) (fun _ h9 => h9) rfl d_Mod_nextReady_18 ?_
        refine lv_iload_n hx hb d_Mod_nextReady_21 rfl (lv_at hl 0 rfl) ?_
        refine k_aldN (q0 := 18) (t0 := 0) hx hb hK hP rfl rfl (by omega) (by decide) d_Mod_nextReady_22 ?_
        refine lv_iconst (v := (nI 2)) hx hb d_Mod_nextReady_23 (by decide) ?_
        refine k_neN (tgt := 29) (Nat.lt_of_lt_of_le (hb4 _ (by omega)) (by decide)) (by omega) hx hb d_Mod_nextReady_24 (by decide) (fun h4 => ?_) (fun h4 => ?_)
        · refine lv_iinc (v := (nI 5)) (lv' := [(2, .int (nI 5)), (3, .int (nI ((((q - 1) + 4) % 5) + 1))), (0, .ref (ad 17)), (1, .int (nI q))]) hx hb d_Mod_nextReady_29 hl (k := 1) rfl (nI_1 _) (by decide) rfl (fun ls hl => ?_)
          refine lv_goto (tgt := 2) hx hb d_Mod_nextReady_32 (by decide) ?_
          refine lv_iload_n hx hb d_Mod_nextReady_2 rfl (lv_at hl 0 rfl) ?_
          refine lv_iconst (v := (nI 5)) hx hb d_Mod_nextReady_3 (by decide) ?_
          refine k_gtN (tgt := 35) (by decide) (by decide) hx hb d_Mod_nextReady_4 (by decide) (fun h9 => absurd h9 (by decide)) (fun _ => ?_)
          refine lv_iload_n hx hb d_Mod_nextReady_7 rfl (lv_at hl 3 rfl) ?_
          refine lv_iconst (v := (nI 1)) hx hb d_Mod_nextReady_8 (by decide) ?_
          refine k_subN (by omega) hx hb d_Mod_nextReady_9 ?_
          refine lv_iload_n hx hb d_Mod_nextReady_10 rfl (lv_at hl 0 rfl) ?_
          refine k_addN hx hb d_Mod_nextReady_11 ?_
          refine lv_iconst (v := (nI 5)) hx hb d_Mod_nextReady_12 (by decide) ?_
          refine k_remN (by omega) (by omega) (by omega) hx hb d_Mod_nextReady_13 ?_
          refine lv_iconst (v := (nI 1)) hx hb d_Mod_nextReady_14 (by decide) ?_
          refine k_addN hx hb d_Mod_nextReady_15 ?_
          refine lv_istore_n (lv' := [(3, .int (nI ((((q - 1) + 5) % 5) + 1))), (2, .int (nI 5)), (0, .ref (ad 17)), (1, .int (nI q))]) hx hb d_Mod_nextReady_16 rfl hl (by decide) rfl (fun ls hl => ?_)
          refine lv_aload_n hx hb d_Mod_nextReady_17 rfl (lv_at hl 2 rfl) ?_
          refine va_get (D := D) (ci := nMod) (v := .ref (ad 18)) (C := R_Mod) (T := T_Mod) (N := 15) hx hb hts i_Mod hown hK hP 17 rfl rfl 1 (by decide) (hts _ tw_656) (fun _ h9 => h9) rfl d_Mod_nextReady_18 ?_
          refine lv_iload_n hx hb d_Mod_nextReady_21 rfl (lv_at hl 0 rfl) ?_
          refine k_aldN (q0 := 18) (t0 := 0) hx hb hK hP rfl rfl (by omega) (by decide) d_Mod_nextReady_22 ?_
          refine lv_iconst (v := (nI 2)) hx hb d_Mod_nextReady_23 (by decide) ?_
          refine k_neN (tgt := 29) (Nat.lt_of_lt_of_le (hb4 _ (by omega)) (by decide)) (by omega) hx hb d_Mod_nextReady_24 (by decide) (fun h5 => ?_) (fun h5 => ?_)
          · refine lv_iinc (v := (nI 6)) (lv' := [(2, .int (nI 6)), (3, .int (nI ((((q - 1) + 5) % 5) + 1))), (0, .ref (ad 17)), (1, .int (nI q))]) hx hb d_Mod_nextReady_29 hl (k := 1) rfl (nI_1 _) (by decide) rfl (fun ls hl => ?_)
            refine lv_goto (tgt := 2) hx hb d_Mod_nextReady_32 (by decide) ?_
            refine lv_iload_n hx hb d_Mod_nextReady_2 rfl (lv_at hl 0 rfl) ?_
            refine lv_iconst (v := (nI 5)) hx hb d_Mod_nextReady_3 (by decide) ?_
            refine k_gtN (tgt := 35) (by decide) (by decide) hx hb d_Mod_nextReady_4 (by decide) (fun _ => ?_) (fun h9 => absurd h9 (by decide))
            refine lv_iconst (v := (nI 0)) hx hb d_Mod_nextReady_35 (by decide) ?_
            exact k_retI hx hb hr hlocks d_Mod_nextReady_36 (by unfold rnx; first | rw [if_neg h1, if_neg h2, if_neg h3, if_neg h4, if_pos h5] | rw [if_neg h1, if_neg h2, if_neg h3, if_neg h4, if_neg h5])
          · refine lv_iload_n hx hb d_Mod_nextReady_27 rfl (lv_at hl 0 rfl) ?_
            exact k_retI hx hb hr hlocks d_Mod_nextReady_28 (by unfold rnx; first | rw [if_neg h1, if_neg h2, if_neg h3, if_neg h4, if_pos h5] | rw [if_neg h1, if_neg h2, if_neg h3, if_neg h4, if_neg h5])
        · refine lv_iload_n hx hb d_Mod_nextReady_27 rfl (lv_at hl 0 rfl) ?_
          exact k_retI hx hb hr hlocks d_Mod_nextReady_28 (by unfold rnx; first | rw [if_neg h1, if_neg h2, if_neg h3, if_pos h4] | rw [if_neg h1, if_neg h2, if_neg h3, if_neg h4])
      · refine lv_iload_n hx hb d_Mod_nextReady_27 rfl (lv_at hl 0 rfl) ?_
        exact k_retI hx hb hr hlocks d_Mod_nextReady_28 (by unfold rnx; first | rw [if_neg h1, if_neg h2, if_pos h3] | rw [if_neg h1, if_neg h2, if_neg h3])
    · refine lv_iload_n hx hb d_Mod_nextReady_27 rfl (lv_at hl 0 rfl) ?_
      exact k_retI hx hb hr hlocks d_Mod_nextReady_28 (by unfold rnx; first | rw [if_neg h1, if_pos h2] | rw [if_neg h1, if_neg h2])
  · refine lv_iload_n hx hb d_Mod_nextReady_27 rfl (lv_at hl 0 rfl) ?_
    exact k_retI hx hb hr hlocks d_Mod_nextReady_28 (by unfold rnx; first | rw [if_pos h1] | rw [if_neg h1])
set_option maxHeartbeats 4000000 in
set_option maxRecDepth 100000 in
theorem c_Mod_hand {l : Launch} {s0 : State} {a0 : Array Value} {D : va_G} {cI cL : ClassId} (K0 : k0 l s0 a0 D cI cL) (ad : Nat → Nat) (κ : kS) (o : va_W) (σ : kS) (q : Nat) (lv : Nat) (hq : q < 6) (hc : σ.1 11 0 < 6) : kMet l y_Mod_hand (Cond.code y_Mod_hand b_Mod_hand 4 (some .int)) (rmL 0) [.ref (ad 17), .int (nI q), .int (nI lv)] (kPre D vwCl s0 (wX ad cI κ o) σ) (.ok (some (.int (nI (σ.1 11 0))), r_hand σ q lv)) (kBw D vwCl s0 (wX ad cI κ o)) := by
  refine k_of (by decide) (Nat.le_of_ble_eq_true rfl) ?_
  intro p e9 s m below meth c hx hb hr hlocks hown hml hex hpre ls hl
  obtain ⟨hE, hP, hD⟩ := hpre
  obtain ⟨hts, hK⟩ := K0.at (args := ([.ref (ad 17), .int (nI q), .int (nI lv)] : List Value).toArray) hE
  have hl : lv_has ls 4 [(0, .ref (ad 17)), (1, .int (nI q)), (2, .int (nI lv))] := hl
  have hS : va_S (kA s0) s.heap s.heap [] := va_S.rf
  refine lv_aload_n hx hb d_Mod_hand_0 rfl (lv_at hl 0 rfl) ?_
  refine va_get (D := D) (ci := nMod) (v := .int (nI (σ.1 11 0))) (C := R_Mod) (T := T_Mod) (N := 15) hx hb hts i_Mod hown hK hP 17 rfl rfl 13 (by decide) (hts _ tw_668) (fun _ h9 => h9) rfl d_Mod_hand_1 ?_
  refine lv_istore_n (lv' := [(3, .int (nI (σ.1 11 0))), (0, .ref (ad 17)), (1, .int (nI q)), (2, .int (nI lv))]) hx hb d_Mod_hand_4 rfl hl (by decide) rfl (fun ls hl => ?_)
  refine lv_aload_n hx hb d_Mod_hand_5 rfl (lv_at hl 1 rfl) ?_
  refine va_get (D := D) (ci := nMod) (v := .ref (ad 18)) (C := R_Mod) (T := T_Mod) (N := 15) hx hb hts i_Mod hown hK hP 17 rfl rfl 1 (by decide) (hts _ tw_656) (fun _ h9 => h9) rfl d_Mod_hand_6 ?_
  refine lv_aload_n hx hb d_Mod_hand_9 rfl (lv_at hl 1 rfl) ?_
  refine va_get (D := D) (ci := nMod) (v := .int (nI (σ.1 11 0))) (C := R_Mod) (T := T_Mod) (N := 15) hx hb hts i_Mod hown hK hP 17 rfl rfl 13 (by decide) (hts _ tw_668) (fun _ h9 => h9) rfl d_Mod_hand_10 ?_
  refine lv_iload_n hx hb d_Mod_hand_13 rfl (lv_at hl 3 rfl) ?_
  refine k_astN (q0 := 18) (t0 := 0) hx hb hK hP hD hS rfl rfl (by omega) (by decide) d_Mod_hand_14 (fun H locs hP hD hS => ?_)
  obtain ⟨σ1, eσ1⟩ : ∃ z : kS, z = (st σ 4 (σ.1 11 0) lv) := ⟨_, rfl⟩
  have hP : va_P D vwCl (wX ad cI κ o σ1) H := by rw [eσ1]; exact hP
  have hD : va_D (kA s0) (wX ad cI κ o σ1) := by rw [eσ1]; exact hD
  refine lv_aload_n hx hb d_Mod_hand_15 rfl (lv_at hl 1 rfl) ?_
  refine va_get (D := D) (ci := nMod) (v := .ref (ad 18)) (C := R_Mod) (T := T_Mod) (N := 15) hx hb hts i_Mod hown hK hP 17 rfl rfl 1 (by decide) (hts _ tw_656) (fun _ h9 => h9) rfl d_Mod_hand_16 ?_
  refine lv_iload_n hx hb d_Mod_hand_19 rfl (lv_at hl 2 rfl) ?_
  refine lv_iconst (v := (nI 3)) hx hb d_Mod_hand_20 (by decide) ?_
  refine k_astN (q0 := 18) (t0 := 0) hx hb hK hP hD hS rfl rfl (by omega) (by decide) d_Mod_hand_21 (fun H locs hP hD hS => ?_)
  obtain ⟨σ2, eσ2⟩ : ∃ z : kS, z = (st σ1 4 q 3) := ⟨_, rfl⟩
  have hP : va_P D vwCl (wX ad cI κ o σ2) H := by rw [eσ2]; exact hP
  have hD : va_D (kA s0) (wX ad cI κ o σ2) := by rw [eσ2]; exact hD
  refine lv_aload_n hx hb d_Mod_hand_22 rfl (lv_at hl 1 rfl) ?_
  refine lv_iload_n hx hb d_Mod_hand_23 rfl (lv_at hl 2 rfl) ?_
  refine va_put (D := D) (ci := nMod) (v := .int (nI q)) (ty := .int) (C := R_Mod) (T := T_Mod) (N := 15) hx hb hts i_Mod ty_Mod ty_Mod_ok nm_Mod hown hK hP hD hS 17 rfl rfl 13 (by decide) (hts _ tw_668) (fun _ h9 => h9) rfl (by decide +kernel) rfl rfl (Nat.le_of_ble_eq_true rfl) d_Mod_hand_24 (fun H locs hP hD hS => ?_)
  obtain ⟨σ3, eσ3⟩ : ∃ z : kS, z = (st σ2 11 0 q) := ⟨_, rfl⟩
  have hP : va_P D vwCl (wX ad cI κ o σ3) H := by rw [eσ3]; exact hP
  have hD : va_D (kA s0) (wX ad cI κ o σ3) := by rw [eσ3]; exact hD
  refine lv_iload_n hx hb d_Mod_hand_27 rfl (lv_at hl 0 rfl) ?_
  exact k_retWI hx hb hr hlocks d_Mod_hand_28 hP hD hS (by subst eσ3 eσ2 eσ1; rfl)
set_option maxHeartbeats 4000000 in
set_option maxRecDepth 100000 in
theorem c_Mod_frameEntry {l : Launch} {s0 : State} {a0 : Array Value} {D : va_G} {cI cL : ClassId} (K0 : k0 l s0 a0 D cI cL) (ad : Nat → Nat) (κ : kS) (o : va_W) (σ : kS) (q : Nat) (a : Nat) (hq : q < 6) (ha : a < 64) (hr9 : σ.1 6 q < 21) (hr0 : σ.1 6 q ≠ 0) (hb2 : ∀ i, i < 80 → σ.1 2 i < 2 ^ 30) : kMet l y_Mod_frameEntry (Cond.code y_Mod_frameEntry b_Mod_frameEntry 4 (some .int)) (rmL 0) [.ref (ad 17), .int (nI q), .int (nI a)] (kPre D vwCl s0 (wX ad cI κ o) σ) (.ok (some (.int (pI (rfe σ q a))), ())) kBr := by
  refine k_of (by decide) (Nat.le_of_ble_eq_true rfl) ?_
  intro p e9 s m below meth c hx hb hr hlocks hown hml hex hpre ls hl
  obtain ⟨hE, hP, hD⟩ := hpre
  obtain ⟨hts, hK⟩ := K0.at (args := ([.ref (ad 17), .int (nI q), .int (nI a)] : List Value).toArray) hE
  have hl : lv_has ls 4 [(0, .ref (ad 17)), (1, .int (nI q)), (2, .int (nI a))] := hl
  have hS : va_S (kA s0) s.heap s.heap [] := va_S.rf
  refine lv_aload_n hx hb d_Mod_frameEntry_0 rfl (lv_at hl 0 rfl) ?_
  refine va_get (D := D) (ci := nMod) (v := .ref (ad 25)) (C := R_Mod) (T := T_Mod) (N := 15) hx hb hts i_Mod hown hK hP 17 rfl rfl 8 (by decide) (hts _ tw_663) (fun _ h9 => h9) rfl d_Mod_frameEntry_1 ?_
  refine lv_iconst (v := (nI 4)) hx hb d_Mod_frameEntry_4 (by decide) ?_
  refine lv_aload_n hx hb d_Mod_frameEntry_5 rfl (lv_at hl 0 rfl) ?_
  refine va_get (D := D) (ci := nMod) (v := .ref (ad 20)) (C := R_Mod) (T := T_Mod) (N := 15) hx hb hts i_Mod hown hK hP 17 rfl rfl 3 (by decide) (hts _ tw_658) (fun _ h9 => h9) rfl d_Mod_frameEntry_6 ?_
  refine lv_iload_n hx hb d_Mod_frameEntry_9 rfl (lv_at hl 1 rfl) ?_
  refine k_aldP (q0 := 20) (t0 := 0) hx hb hK hP rfl rfl (by omega) (by decide) d_Mod_frameEntry_10 ?_
  refine k_st (st' := [.int (nI ((σ.1 6 q) - 1)), .int (nI 4), .ref (ad 25)]) (by show ([.int (pI (σ.1 6 q)), .int (nI 4), .ref (ad 25)] : List Value) = _; rw [pI_pred (t := (σ.1 6 q)) (by omega)]) ?_
  refine k_mulC hx hb d_Mod_frameEntry_11 ?_
  refine lv_iload_n hx hb d_Mod_frameEntry_12 rfl (lv_at hl 2 rfl) ?_
  refine lv_bipush (v := (nI 16)) hx hb d_Mod_frameEntry_13 (by decide) ?_
  refine k_divN (by omega) (by omega) (by omega) hx hb d_Mod_frameEntry_15 ?_
  refine k_addN hx hb d_Mod_frameEntry_16 ?_
  refine k_aldP (q0 := 25) (t0 := 0) hx hb hK hP rfl rfl (by omega) (by decide) d_Mod_frameEntry_17 ?_
  refine lv_istore_n (lv' := [(3, .int (pI (σ.1 2 ((((σ.1 6 q) - 1) * 4) + (a / 16))))), (0, .ref (ad 17)), (1, .int (nI q)), (2, .int (nI a))]) hx hb d_Mod_frameEntry_18 rfl hl (by decide) rfl (fun ls hl => ?_)
  refine lv_iload_n hx hb d_Mod_frameEntry_19 rfl (lv_at hl 0 rfl) ?_
  refine k_geP0 (tgt := 27) (hb2 _ (by omega)) hx hb d_Mod_frameEntry_20 (by decide) (fun h1 => ?_) (fun h1 => ?_)
  · refine lv_iconst (v := (nI 4)) hx hb d_Mod_frameEntry_27 (by decide) ?_
    refine lv_iload_n hx hb d_Mod_frameEntry_28 rfl (lv_at hl 0 rfl) ?_
    refine k_st (st' := [.int (nI ((σ.1 2 ((((σ.1 6 q) - 1) * 4) + (a / 16))) - 1)), .int (nI 4)]) (by show ([.int (pI (σ.1 2 ((((σ.1 6 q) - 1) * 4) + (a / 16)))), .int (nI 4)] : List Value) = _; rw [pI_pred (t := (σ.1 2 ((((σ.1 6 q) - 1) * 4) + (a / 16)))) (by omega)]) ?_
    refine k_mulC hx hb d_Mod_frameEntry_29 ?_
    refine lv_iload_n hx hb d_Mod_frameEntry_30 rfl (lv_at hl 3 rfl) ?_
    refine lv_iconst (v := (nI 4)) hx hb d_Mod_frameEntry_31 (by decide) ?_
    refine k_divN (by omega) (by omega) (by omega) hx hb d_Mod_frameEntry_32 ?_
    refine lv_iconst (v := (nI 4)) hx hb d_Mod_frameEntry_33 (by decide) ?_
    refine k_remN (by omega) (by omega) (by omega) hx hb d_Mod_frameEntry_34 ?_
    refine k_addN hx hb d_Mod_frameEntry_35 ?_
    exact k_retI hx hb hr hlocks d_Mod_frameEntry_36 (by first | rfl | (simp [rfe, pI_succ, eIA, eIS, eUO, eNS, h1, beq_false_of_ne h1, bne_iff_ne.mpr h1]; done) | (simp [rfe, pI_succ, eIA, eIS, eUO, eNS, h1, beq_false_of_ne h1, bne_iff_ne.mpr h1]; rfl) | (simp [rfe, pI_succ, eIA, eIS, eUO, eNS, h1, beq_false_of_ne h1, bne_iff_ne.mpr h1]; done) | (simp [rfe, pI_succ, eIA, eIS, eUO, eNS, h1, beq_false_of_ne h1, bne_iff_ne.mpr h1]; rfl) | (simp only [rfe, pI_succ, eIA, eIS, eUO, eNS, h1, beq_false_of_ne h1, bne_iff_ne.mpr h1]; rfl))
  · refine lv_iconst (v := (pI 0)) hx hb d_Mod_frameEntry_23 (by decide) ?_
    refine lv_goto (tgt := 36) hx hb d_Mod_frameEntry_24 (by decide) ?_
    exact k_retI hx hb hr hlocks d_Mod_frameEntry_36 (by first | rfl | (simp [rfe, pI_succ, eIA, eIS, eUO, eNS, h1]; done) | (simp [rfe, pI_succ, eIA, eIS, eUO, eNS, h1]; rfl) | (simp [rfe, pI_succ, eIA, eIS, eUO, eNS, beq_iff_eq.mpr h1]; done) | (simp [rfe, pI_succ, eIA, eIS, eUO, eNS, beq_iff_eq.mpr h1]; rfl) | (simp only [rfe, pI_succ, eIA, eIS, eUO, eNS, h1]; rfl))
