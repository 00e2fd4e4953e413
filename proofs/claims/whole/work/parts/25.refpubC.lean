/-! The reference's calls, third part. Laid by a program of mine (wip/gen). -/
set_option maxHeartbeats 4000000 in
set_option maxRecDepth 100000 in
theorem c_Mod_reap {l : Launch} {s0 : State} {a0 : Array Value} {D : va_G} {cI cL : ClassId} (K0 : k0 l s0 a0 D cI cL) (ad : Nat → Nat) (κ : kS) (o : va_W) (σ : kS) (x : Int32) (ok : kOr σ) : kMet l y_Mod_reap (Cond.code y_Mod_reap b_Mod_reap 4 (some .int)) (rmL 2) [.ref (ad 17), .int x] (kPre D vwCl s0 (wX ad cI κ o) σ) (.ok (fin (t0 σ) (rs_reap (t0 σ) x))) (kBw D vwCl s0 (wX ad cI κ o)) := by
  refine k_of (by decide) (Nat.le_of_ble_eq_true rfl) ?_
  intro p e9 s m below meth c hx hb hr hlocks hown hml hex hpre ls hl
  obtain ⟨hE, hP, hD⟩ := hpre
  obtain ⟨hts, hK⟩ := K0.at (args := ([.ref (ad 17), .int x] : List Value).toArray) hE
  have hl : lv_has ls 4 [(0, .ref (ad 17)), (1, .int x)] := hl
  have hS : va_S (kA s0) s.heap s.heap [] := va_S.rf
  refine lv_aload_n hx hb d_Mod_reap_0 rfl (lv_at hl 0 rfl) ?_
  refine lv_iconst (v := (nI 0)) hx hb d_Mod_reap_1 (by decide) ?_
  refine va_put (D := D) (ci := nMod) (v := .int (nI 0)) (ty := .int) (C := R_Mod) (T := T_Mod) (N := 15) hx hb hts i_Mod ty_Mod ty_Mod_ok nm_Mod hown hK hP hD hS 17 rfl rfl 0 (by decide) (hts _ tw_655) (fun _ h9 => h9) rfl (by decide +kernel) rfl rfl (Nat.le_of_ble_eq_true rfl) d_Mod_reap_2 (fun H locs hP hD hS => ?_)
  obtain ⟨σ1, eσ1⟩ : ∃ z : kS, z = (sw σ 2 0 (nI 0)) := ⟨_, rfl⟩
  have hP : va_P D vwCl (wX ad cI κ o σ1) H := by rw [eσ1]; exact hP
  have hD : va_D (kA s0) (wX ad cI κ o σ1) := by rw [eσ1]; exact hD
  have e0 : t0 σ = σ1 := eσ1.symm
  have ok1 : kOr σ1 := by rw [eσ1]; exact ok
  obtain ⟨o1, o2, o3, o4, o5, o6, o7, o8, o10, o0, ⟨oc1, oc2⟩, oc3, or6⟩ := id ok1
  have hr0 : σ1.1 6 (σ1.1 11 0) ≠ 0 := or6 _ oc2 (by omega)
  have hr1 : σ1.1 6 (σ1.1 11 0) < 21 := o6 _ oc2
  refine lv_iload_n hx hb d_Mod_reap_5 rfl (lv_at hl 1 rfl) ?_
  rcases hq2 : rg x 1 5 with _ | j3
  · refine k_callR (k_atS (As := [.int x]) hx hb hown hE.1 (K0.w tw_711) rfl k_w9 (hts _ tw_709) (hts _ tw_710) (hts _ tw_5) (by decide) np_Mod_isProcess rfl d_Mod_reap_6) (kz_n hq2 (c_Mod_isProcess K0 ad κ o σ1 x)) (hl.1.trans hml.symm) (Nat.le_of_ble_eq_true rfl) ⟨Nat.le_of_ble_eq_true rfl, Nat.le_of_ble_eq_true rfl, Nat.le_of_ble_eq_true rfl, Nat.le_of_ble_eq_true rfl⟩ (fun U hU hW => ⟨hE.go hW hU hS, by rw [hU]; exact hP, hD⟩) ?_
    refine k_ifN0 (tgt := 18) (by decide) hx hb d_Mod_reap_9 (by decide) (fun h9 => absurd h9 (by decide)) (fun _ => ?_)
    refine lv_aload_n hx hb d_Mod_reap_12 rfl (lv_at hl 0 rfl) ?_
    refine lv_iconst (v := (nI 1)) hx hb d_Mod_reap_13 (by decide) ?_
    refine k_callW (k_atV (As := [.int (nI 1)]) hx hb hown hE.1 (K0.w tw_721) (hts _ tw_718) (hts _ tw_720) (hts _ tw_9020) (hts _ tw_5) (by decide) np_Mod_raise (va_recv hK hP (ci := nMod) (q0 := 17) rfl rfl) rfl d_Mod_reap_14) (c_Mod_raise K0 ad κ o σ1 (nI 1)) (hl.1.trans hml.symm) (Nat.le_of_ble_eq_true rfl) ⟨Nat.le_of_ble_eq_true rfl, Nat.le_of_ble_eq_true rfl, Nat.le_of_ble_eq_true rfl, Nat.le_of_ble_eq_true rfl⟩ (fun U hU hW => ⟨hE.go hW hU hS, by rw [hU]; exact hP, hD⟩) hS (fun H locs hP hD hS => ?_)
    obtain ⟨σ7, eσ7⟩ : ∃ z : kS, z = (sw σ1 2 0 (nI 1)) := ⟨_, rfl⟩
    have hP : va_P D vwCl (wX ad cI κ o σ7) H := by rw [eσ7]; exact hP
    have hD : va_D (kA s0) (wX ad cI κ o σ7) := by rw [eσ7]; exact hD
    have hwσ7 : σ7.1 = σ1.1 := by rw [eσ7]; exact rfl
    exact k_retWI hx hb hr hlocks d_Mod_reap_17 hP hD hS (by rw [e0]; subst eσ7; first | rfl | (simp [rs_reap, inn, rqn, fin, rOkV, hq2]; done) | (simp [rs_reap, inn, rqn, fin, rOkV, hq2]; rfl) | (simp [rs_reap, inn, rqn, fin, rOkV, hq2]; done) | (simp [rs_reap, inn, rqn, fin, rOkV, hq2]; rfl) | (simp only [rs_reap, inn, rqn, fin, rOkV, hq2]; rfl))
  · refine k_callR (k_atS (As := [.int x]) hx hb hown hE.1 (K0.w tw_711) rfl k_w9 (hts _ tw_709) (hts _ tw_710) (hts _ tw_5) (by decide) np_Mod_isProcess rfl d_Mod_reap_6) (kz_s hq2 (c_Mod_isProcess K0 ad κ o σ1 x)) (hl.1.trans hml.symm) (Nat.le_of_ble_eq_true rfl) ⟨Nat.le_of_ble_eq_true rfl, Nat.le_of_ble_eq_true rfl, Nat.le_of_ble_eq_true rfl, Nat.le_of_ble_eq_true rfl⟩ (fun U hU hW => ⟨hE.go hW hU hS, by rw [hU]; exact hP, hD⟩) ?_
    obtain ⟨rfl, ha4, hb_5, hc_6⟩ := rg_some hq2
    refine k_ifN0 (tgt := 18) (by decide) hx hb d_Mod_reap_9 (by decide) (fun _ => ?_) (fun h9 => absurd h9 (by decide))
    refine lv_aload_n hx hb d_Mod_reap_18 rfl (lv_at hl 0 rfl) ?_
    refine va_get (D := D) (ci := nMod) (v := .ref (ad 18)) (C := R_Mod) (T := T_Mod) (N := 15) hx hb hts i_Mod hown hK hP 17 rfl rfl 1 (by decide) (hts _ tw_656) (fun _ h9 => h9) rfl d_Mod_reap_19 ?_
    refine lv_iload_n hx hb d_Mod_reap_22 rfl (lv_at hl 1 rfl) ?_
    refine k_aldN (q0 := 18) (t0 := 0) hx hb hK hP rfl rfl (by omega) (by decide) d_Mod_reap_23 ?_
    have ho8 := o4 j3 (by omega)
    refine lv_iconst (v := (nI 5)) hx hb d_Mod_reap_24 (by decide) ?_
    refine k_neN (tgt := 71) (Nat.lt_of_lt_of_le (ok1.b4 _ (by omega)) (by decide)) (by omega) hx hb d_Mod_reap_25 (by decide) (fun h9 => ?_) (fun h9 => ?_)
    · refine lv_aload_n hx hb d_Mod_reap_71 rfl (lv_at hl 0 rfl) ?_
      refine lv_iconst (v := (nI 2)) hx hb d_Mod_reap_72 (by decide) ?_
      refine k_callW (k_atV (As := [.int (nI 2)]) hx hb hown hE.1 (K0.w tw_721) (hts _ tw_718) (hts _ tw_720) (hts _ tw_9020) (hts _ tw_5) (by decide) np_Mod_raise (va_recv hK hP (ci := nMod) (q0 := 17) rfl rfl) rfl d_Mod_reap_73) (c_Mod_raise K0 ad κ o σ1 (nI 2)) (hl.1.trans hml.symm) (Nat.le_of_ble_eq_true rfl) ⟨Nat.le_of_ble_eq_true rfl, Nat.le_of_ble_eq_true rfl, Nat.le_of_ble_eq_true rfl, Nat.le_of_ble_eq_true rfl⟩ (fun U hU hW => ⟨hE.go hW hU hS, by rw [hU]; exact hP, hD⟩) hS (fun H locs hP hD hS => ?_)
      obtain ⟨σ10, eσ10⟩ : ∃ z : kS, z = (sw σ1 2 0 (nI 2)) := ⟨_, rfl⟩
      have hP : va_P D vwCl (wX ad cI κ o σ10) H := by rw [eσ10]; exact hP
      have hD : va_D (kA s0) (wX ad cI κ o σ10) := by rw [eσ10]; exact hD
      have hwσ10 : σ10.1 = σ1.1 := by rw [eσ10]; exact rfl
      exact k_retWI hx hb hr hlocks d_Mod_reap_76 hP hD hS (by rw [e0]; subst eσ10; first | rfl | (simp [rs_reap, inn, rqn, fin, rOkV, hq2, h9, beq_false_of_ne h9, bne_iff_ne.mpr h9]; done) | (simp [rs_reap, inn, rqn, fin, rOkV, hq2, h9, beq_false_of_ne h9, bne_iff_ne.mpr h9]; rfl) | (simp [rs_reap, inn, rqn, fin, rOkV, hq2, h9, beq_false_of_ne h9, bne_iff_ne.mpr h9]; done) | (simp [rs_reap, inn, rqn, fin, rOkV, hq2, h9, beq_false_of_ne h9, bne_iff_ne.mpr h9]; rfl) | (simp only [rs_reap, inn, rqn, fin, rOkV, hq2, h9, beq_false_of_ne h9, bne_iff_ne.mpr h9]; rfl))
    · refine lv_aload_n hx hb d_Mod_reap_28 rfl (lv_at hl 0 rfl) ?_
      refine va_get (D := D) (ci := nMod) (v := .ref (ad 19)) (C := R_Mod) (T := T_Mod) (N := 15) hx hb hts i_Mod hown hK hP 17 rfl rfl 2 (by decide) (hts _ tw_657) (fun _ h9 => h9) rfl d_Mod_reap_29 ?_
      refine lv_iload_n hx hb d_Mod_reap_32 rfl (lv_at hl 1 rfl) ?_
      refine k_aldN (q0 := 19) (t0 := 0) hx hb hK hP rfl rfl (by omega) (by decide) d_Mod_reap_33 ?_
      have ho11 := o5 j3 (by omega)
      refine lv_aload_n hx hb d_Mod_reap_34 rfl (lv_at hl 0 rfl) ?_
      refine va_get (D := D) (ci := nMod) (v := .int (nI (σ1.1 11 0))) (C := R_Mod) (T := T_Mod) (N := 15) hx hb hts i_Mod hown hK hP 17 rfl rfl 13 (by decide) (hts _ tw_668) (fun _ h9 => h9) rfl d_Mod_reap_35 ?_
      refine k_neN (tgt := 71) (Nat.lt_of_lt_of_le (ok1.b5 _ (by omega)) (by decide)) (by omega) hx hb d_Mod_reap_38 (by decide) (fun h12 => ?_) (fun h12 => ?_)
      · refine lv_aload_n hx hb d_Mod_reap_71 rfl (lv_at hl 0 rfl) ?_
        refine lv_iconst (v := (nI 2)) hx hb d_Mod_reap_72 (by decide) ?_
        refine k_callW (k_atV (As := [.int (nI 2)]) hx hb hown hE.1 (K0.w tw_721) (hts _ tw_718) (hts _ tw_720) (hts _ tw_9020) (hts _ tw_5) (by decide) np_Mod_raise (va_recv hK hP (ci := nMod) (q0 := 17) rfl rfl) rfl d_Mod_reap_73) (c_Mod_raise K0 ad κ o σ1 (nI 2)) (hl.1.trans hml.symm) (Nat.le_of_ble_eq_true rfl) ⟨Nat.le_of_ble_eq_true rfl, Nat.le_of_ble_eq_true rfl, Nat.le_of_ble_eq_true rfl, Nat.le_of_ble_eq_true rfl⟩ (fun U hU hW => ⟨hE.go hW hU hS, by rw [hU]; exact hP, hD⟩) hS (fun H locs hP hD hS => ?_)
        obtain ⟨σ13, eσ13⟩ : ∃ z : kS, z = (sw σ1 2 0 (nI 2)) := ⟨_, rfl⟩
        have hP : va_P D vwCl (wX ad cI κ o σ13) H := by rw [eσ13]; exact hP
        have hD : va_D (kA s0) (wX ad cI κ o σ13) := by rw [eσ13]; exact hD
        have hwσ13 : σ13.1 = σ1.1 := by rw [eσ13]; exact rfl
        exact k_retWI hx hb hr hlocks d_Mod_reap_76 hP hD hS (by rw [e0]; subst eσ13; first | rfl | (simp [rs_reap, inn, rqn, fin, rOkV, hq2, h9, h12, beq_false_of_ne h12, bne_iff_ne.mpr h12]; done) | (simp [rs_reap, inn, rqn, fin, rOkV, hq2, h9, h12, beq_false_of_ne h12, bne_iff_ne.mpr h12]; rfl) | (simp [rs_reap, inn, rqn, fin, rOkV, hq2, h12, beq_iff_eq.mpr h9, kbne h9, beq_false_of_ne h12, bne_iff_ne.mpr h12]; done) | (simp [rs_reap, inn, rqn, fin, rOkV, hq2, h12, beq_iff_eq.mpr h9, kbne h9, beq_false_of_ne h12, bne_iff_ne.mpr h12]; rfl) | (simp only [rs_reap, inn, rqn, fin, rOkV, hq2, h9, h12, beq_false_of_ne h12, bne_iff_ne.mpr h12]; rfl))
      · refine lv_aload_n hx hb d_Mod_reap_41 rfl (lv_at hl 0 rfl) ?_
        refine lv_iload_n hx hb d_Mod_reap_42 rfl (lv_at hl 1 rfl) ?_
        refine k_callR (k_atV (As := [.int (nI j3)]) hx hb hown hE.1 (K0.w tw_797) (hts _ tw_794) (hts _ tw_796) (hts _ tw_9030) (hts _ tw_5) (by decide) np_Mod_owned (va_recv hK hP (ci := nMod) (q0 := 17) rfl rfl) rfl d_Mod_reap_43) (c_Mod_owned K0 ad κ o σ1 j3 (by omega) ok1.b0 ok1.b1) (hl.1.trans hml.symm) (Nat.le_of_ble_eq_true rfl) ⟨Nat.le_of_ble_eq_true rfl, Nat.le_of_ble_eq_true rfl, Nat.le_of_ble_eq_true rfl, Nat.le_of_ble_eq_true rfl⟩ (fun U hU hW => ⟨hE.go hW hU hS, by rw [hU]; exact hP, hD⟩) ?_
        have hc14 : (rown σ1 j3) ≤ 20 := cnt_le _ _
        refine lv_iconst (v := (nI 1)) hx hb d_Mod_reap_46 (by decide) ?_
        refine k_gtN (tgt := 71) (by omega) (by omega) hx hb d_Mod_reap_47 (by decide) (fun h15 => ?_) (fun h15 => ?_)
        · refine lv_aload_n hx hb d_Mod_reap_71 rfl (lv_at hl 0 rfl) ?_
          refine lv_iconst (v := (nI 2)) hx hb d_Mod_reap_72 (by decide) ?_
          refine k_callW (k_atV (As := [.int (nI 2)]) hx hb hown hE.1 (K0.w tw_721) (hts _ tw_718) (hts _ tw_720) (hts _ tw_9020) (hts _ tw_5) (by decide) np_Mod_raise (va_recv hK hP (ci := nMod) (q0 := 17) rfl rfl) rfl d_Mod_reap_73) (c_Mod_raise K0 ad κ o σ1 (nI 2)) (hl.1.trans hml.symm) (Nat.le_of_ble_eq_true rfl) ⟨Nat.le_of_ble_eq_true rfl, Nat.le_of_ble_eq_true rfl, Nat.le_of_ble_eq_true rfl, Nat.le_of_ble_eq_true rfl⟩ (fun U hU hW => ⟨hE.go hW hU hS, by rw [hU]; exact hP, hD⟩) hS (fun H locs hP hD hS => ?_)
          obtain ⟨σ16, eσ16⟩ : ∃ z : kS, z = (sw σ1 2 0 (nI 2)) := ⟨_, rfl⟩
          have hP : va_P D vwCl (wX ad cI κ o σ16) H := by rw [eσ16]; exact hP
          have hD : va_D (kA s0) (wX ad cI κ o σ16) := by rw [eσ16]; exact hD
          have hwσ16 : σ16.1 = σ1.1 := by rw [eσ16]; exact rfl
          exact k_retWI hx hb hr hlocks d_Mod_reap_76 hP hD hS (by rw [e0]; subst eσ16; first | rfl | (simp [rs_reap, inn, rqn, fin, rOkV, hq2, h9, h12, h15, Nat.not_le.mpr h15]; done) | (simp [rs_reap, inn, rqn, fin, rOkV, hq2, h9, h12, h15, Nat.not_le.mpr h15]; rfl) | (simp [rs_reap, inn, rqn, fin, rOkV, hq2, h15, beq_iff_eq.mpr h9, beq_iff_eq.mpr h12, kbne h9, kbne h12, Nat.not_le.mpr h15]; done) | (simp [rs_reap, inn, rqn, fin, rOkV, hq2, h15, beq_iff_eq.mpr h9, beq_iff_eq.mpr h12, kbne h9, kbne h12, Nat.not_le.mpr h15]; rfl) | (simp only [rs_reap, inn, rqn, fin, rOkV, hq2, h9, h12, h15, Nat.not_le.mpr h15]; rfl))
        · have hz6 := o6 j3 (by omega)
          have hz7 := or6 j3 (by omega) (by omega)
          refine lv_aload_n hx hb d_Mod_reap_50 rfl (lv_at hl 0 rfl) ?_
          refine lv_aload_n hx hb d_Mod_reap_51 rfl (lv_at hl 0 rfl) ?_
          refine va_get (D := D) (ci := nMod) (v := .ref (ad 20)) (C := R_Mod) (T := T_Mod) (N := 15) hx hb hts i_Mod hown hK hP 17 rfl rfl 3 (by decide) (hts _ tw_658) (fun _ h9 => h9) rfl d_Mod_reap_52 ?_
          refine lv_iload_n hx hb d_Mod_reap_55 rfl (lv_at hl 1 rfl) ?_
          refine k_aldP (q0 := 20) (t0 := 0) hx hb hK hP rfl rfl (by omega) (by decide) d_Mod_reap_56 ?_
          have ho17 := o6 j3 (by omega)
          refine k_st (st' := [.int (nI ((σ1.1 6 j3) - 1)), .ref (ad 17)]) (by show ([.int (pI (σ1.1 6 j3)), .ref (ad 17)] : List Value) = _; rw [pI_pred (t := (σ1.1 6 j3)) (by omega)]) ?_
          refine k_callR (k_atV (As := [.int (nI ((σ1.1 6 j3) - 1))]) hx hb hown hE.1 (K0.w tw_765) (hts _ tw_762) (hts _ tw_764) (hts _ tw_9026) (hts _ tw_5) (by decide) np_Mod_filled (va_recv hK hP (ci := nMod) (q0 := 17) rfl rfl) rfl d_Mod_reap_57) (c_Mod_filled K0 ad κ o σ1 ((σ1.1 6 j3) - 1) (by omega) ok1.b2) (hl.1.trans hml.symm) (Nat.le_of_ble_eq_true rfl) ⟨Nat.le_of_ble_eq_true rfl, Nat.le_of_ble_eq_true rfl, Nat.le_of_ble_eq_true rfl, Nat.le_of_ble_eq_true rfl⟩ (fun U hU hW => ⟨hE.go hW hU hS, by rw [hU]; exact hP, hD⟩) ?_
          have hc18 : (filled σ1 ((σ1.1 6 j3) - 1)) ≤ 4 := cnt_le _ _
          refine k_gtN0 (tgt := 71) (by omega) hx hb d_Mod_reap_60 (by decide) (fun h19 => ?_) (fun h19 => ?_)
          · refine lv_aload_n hx hb d_Mod_reap_71 rfl (lv_at hl 0 rfl) ?_
            refine lv_iconst (v := (nI 2)) hx hb d_Mod_reap_72 (by decide) ?_
            refine k_callW (k_atV (As := [.int (nI 2)]) hx hb hown hE.1 (K0.w tw_721) (hts _ tw_718) (hts _ tw_720) (hts _ tw_9020) (hts _ tw_5) (by decide) np_Mod_raise (va_recv hK hP (ci := nMod) (q0 := 17) rfl rfl) rfl d_Mod_reap_73) (c_Mod_raise K0 ad κ o σ1 (nI 2)) (hl.1.trans hml.symm) (Nat.le_of_ble_eq_true rfl) ⟨Nat.le_of_ble_eq_true rfl, Nat.le_of_ble_eq_true rfl, Nat.le_of_ble_eq_true rfl, Nat.le_of_ble_eq_true rfl⟩ (fun U hU hW => ⟨hE.go hW hU hS, by rw [hU]; exact hP, hD⟩) hS (fun H locs hP hD hS => ?_)
            obtain ⟨σ20, eσ20⟩ : ∃ z : kS, z = (sw σ1 2 0 (nI 2)) := ⟨_, rfl⟩
            have hP : va_P D vwCl (wX ad cI κ o σ20) H := by rw [eσ20]; exact hP
            have hD : va_D (kA s0) (wX ad cI κ o σ20) := by rw [eσ20]; exact hD
            have hwσ20 : σ20.1 = σ1.1 := by rw [eσ20]; exact rfl
            exact k_retWI hx hb hr hlocks d_Mod_reap_76 hP hD hS (by rw [e0]; subst eσ20; first | rfl | (simp [rs_reap, inn, rqn, fin, rOkV, hq2, h9, h12, h15, h19, beq_false_of_ne h19, bne_iff_ne.mpr h19, Nat.not_lt.mpr h15]; done) | (simp [rs_reap, inn, rqn, fin, rOkV, hq2, h9, h12, h15, h19, beq_false_of_ne h19, bne_iff_ne.mpr h19, Nat.not_lt.mpr h15]; rfl) | (simp [rs_reap, inn, rqn, fin, rOkV, hq2, h15, h19, beq_iff_eq.mpr h9, beq_iff_eq.mpr h12, kbne h9, kbne h12, beq_false_of_ne h19, bne_iff_ne.mpr h19, Nat.not_lt.mpr h15]; done) | (simp [rs_reap, inn, rqn, fin, rOkV, hq2, h15, h19, beq_iff_eq.mpr h9, beq_iff_eq.mpr h12, kbne h9, kbne h12, beq_false_of_ne h19, bne_iff_ne.mpr h19, Nat.not_lt.mpr h15]; rfl) | (simp only [rs_reap, inn, rqn, fin, rOkV, hq2, h9, h12, h15, h19, beq_false_of_ne h19, bne_iff_ne.mpr h19, Nat.not_lt.mpr h15]; rfl))
          · refine lv_aload_n hx hb d_Mod_reap_63 rfl (lv_at hl 0 rfl) ?_
            refine lv_iload_n hx hb d_Mod_reap_64 rfl (lv_at hl 1 rfl) ?_
            refine k_callR (k_atV (As := [.int (nI j3)]) hx hb hown hE.1 (K0.w tw_789) (hts _ tw_786) (hts _ tw_788) (hts _ tw_9029) (hts _ tw_5) (by decide) np_Mod_descriptors (va_recv hK hP (ci := nMod) (q0 := 17) rfl rfl) rfl d_Mod_reap_65) (c_Mod_descriptors K0 ad κ o σ1 j3 (by omega) ok1.b7) (hl.1.trans hml.symm) (Nat.le_of_ble_eq_true rfl) ⟨Nat.le_of_ble_eq_true rfl, Nat.le_of_ble_eq_true rfl, Nat.le_of_ble_eq_true rfl, Nat.le_of_ble_eq_true rfl⟩ (fun U hU hW => ⟨hE.go hW hU hS, by rw [hU]; exact hP, hD⟩) ?_
            have hc21 : (inuse σ1 j3) ≤ 4 := cnt_le _ _
            refine k_leN0 (tgt := 77) (by omega) hx hb d_Mod_reap_68 (by decide) (fun h22 => ?_) (fun h22 => ?_)
            · refine lv_iconst (v := (nI 0)) hx hb d_Mod_reap_77 (by decide) ?_
              refine lv_istore_n (lv' := [(2, .int (nI 0)), (0, .ref (ad 17)), (1, .int (nI j3))]) hx hb d_Mod_reap_78 rfl hl (by decide) rfl (fun ls hl => ?_)
              refine lv_iconst (v := (nI 1)) hx hb d_Mod_reap_79 (by decide) ?_
              refine lv_istore_n (lv' := [(3, .int (nI 1)), (2, .int (nI 0)), (0, .ref (ad 17)), (1, .int (nI j3))]) hx hb d_Mod_reap_80 rfl hl (by decide) rfl (fun ls hl => ?_)
              have L : ∀ (n i : Nat), 1 ≤ i → i + n = 6 → ∀ (H : Heap) (locs : List Loc) (ls : Array Slot), va_P D vwCl (wX ad cI κ o (rv σ1 j3 i)) H → va_D (kA s0) (wX ad cI κ o (rv σ1 j3 i)) → va_S (kA s0) s.heap H locs → lv_has ls 4 [(3, .int (nI i)), (2, .int (nI (rvn σ1 j3 i))), (0, .ref (ad 17)), (1, .int (nI j3))] → W p l e9 (rmL 2) s m ([.ref (ad 17), .int (nI j3)] : List Value).toArray below meth c H locs 0 0 (kE below (.ok (fin (t0 σ) (rs_reap (t0 σ) (nI j3)))) (kBw D vwCl s0 (wX ad cI κ o)) s) (F0 m 81 ls []) := by
                intro n
                induction n with
                | zero =>
                  intro i hi0 hi H locs ls hP hD hS hl
                  obtain rfl : i = 6 := by omega
                  obtain ⟨σ23, eσ23⟩ : ∃ z : kS, z = (rv σ1 j3 6) := ⟨_, rfl⟩
                  rw [← eσ23] at hP hD
                  have hv4 : ∀ k, k < 6 → σ23.1 4 k < 2 ^ 30 := by rw [eσ23]; exact rv_b4 _ ok1.b4 _
                  have hv5 : ∀ k, k < 6 → σ23.1 5 k < 2 ^ 30 := by rw [eσ23]; exact rv_b5 _ ok1.b5 _
                  have hv6 : σ23.1 6 = σ1.1 6 := by rw [eσ23]; exact rv_6 _ _ _
                  have hv6j : σ23.1 6 j3 = σ1.1 6 j3 := by rw [hv6]
                  refine lv_iload_n hx hb d_Mod_reap_81 rfl (lv_at hl 0 rfl) ?_
                  refine lv_bipush (v := (nI 6)) hx hb d_Mod_reap_82 (by decide) ?_
                  refine k_geN (tgt := 125) (by decide) (by decide) hx hb d_Mod_reap_84 (by decide) (fun _ => ?_) (fun h9 => absurd h9 (by decide))
                  refine lv_aload_n hx hb d_Mod_reap_125 rfl (lv_at hl 2 rfl) ?_
                  refine lv_aload_n hx hb d_Mod_reap_126 rfl (lv_at hl 2 rfl) ?_
                  refine va_get (D := D) (ci := nMod) (v := .ref (ad 20)) (C := R_Mod) (T := T_Mod) (N := 15) hx hb hts i_Mod hown hK hP 17 rfl rfl 3 (by decide) (hts _ tw_658) (fun _ h9 => h9) rfl d_Mod_reap_127 ?_
                  refine lv_iload_n hx hb d_Mod_reap_130 rfl (lv_at hl 3 rfl) ?_
                  refine k_aldP (q0 := 20) (t0 := 0) hx hb hK hP rfl rfl (by omega) (by decide) d_Mod_reap_131 ?_
                  refine lv_iconst (v := (nI 0)) hx hb d_Mod_reap_132 (by decide) ?_
                  refine lv_iconst (v := (nI 0)) hx hb d_Mod_reap_133 (by decide) ?_
                  refine k_st (st' := [.int (nI 0), .int (nI 0), .int (nI ((σ23.1 6 j3) - 1)), .ref (ad 17)]) (by show ([.int (nI 0), .int (nI 0), .int (pI (σ23.1 6 j3)), .ref (ad 17)] : List Value) = _; rw [pI_pred (t := (σ23.1 6 j3)) (by omega)]) ?_
                  refine k_callW (k_atV (As := [.int (nI ((σ23.1 6 j3) - 1)), .int (nI 0), .int (nI 0)]) hx hb hown hE.1 (K0.w tw_725) (hts _ tw_722) (hts _ tw_724) (hts _ tw_9021) (hts _ tw_5) (by decide) np_Mod_become (va_recv hK hP (ci := nMod) (q0 := 17) rfl rfl) rfl d_Mod_reap_134) (c_Mod_become K0 ad κ o σ23 ((σ23.1 6 j3) - 1) 0 0 (by omega)) (hl.1.trans hml.symm) (Nat.le_of_ble_eq_true rfl) ⟨Nat.le_of_ble_eq_true rfl, Nat.le_of_ble_eq_true rfl, Nat.le_of_ble_eq_true rfl, Nat.le_of_ble_eq_true rfl⟩ (fun U hU hW => ⟨hE.go hW hU hS, by rw [hU]; exact hP, hD⟩) hS (fun H locs hP hD hS => ?_)
                  obtain ⟨σ24, eσ24⟩ : ∃ z : kS, z = (m_become σ23 ((σ23.1 6 j3) - 1) 0 0) := ⟨_, rfl⟩
                  have hP : va_P D vwCl (wX ad cI κ o σ24) H := by rw [eσ24]; exact hP
                  have hD : va_D (kA s0) (wX ad cI κ o σ24) := by rw [eσ24]; exact hD
                  refine lv_aload_n hx hb d_Mod_reap_137 rfl (lv_at hl 2 rfl) ?_
                  refine va_get (D := D) (ci := nMod) (v := .ref (ad 18)) (C := R_Mod) (T := T_Mod) (N := 15) hx hb hts i_Mod hown hK hP 17 rfl rfl 1 (by decide) (hts _ tw_656) (fun _ h9 => h9) rfl d_Mod_reap_138 ?_
                  refine lv_iload_n hx hb d_Mod_reap_141 rfl (lv_at hl 3 rfl) ?_
                  refine lv_iconst (v := (nI 0)) hx hb d_Mod_reap_142 (by decide) ?_
                  refine k_astN (q0 := 18) (t0 := 0) hx hb hK hP hD hS rfl rfl (by omega) (by decide) d_Mod_reap_143 (fun H locs hP hD hS => ?_)
                  obtain ⟨σ25, eσ25⟩ : ∃ z : kS, z = (st σ24 4 j3 0) := ⟨_, rfl⟩
                  have hP : va_P D vwCl (wX ad cI κ o σ25) H := by rw [eσ25]; exact hP
                  have hD : va_D (kA s0) (wX ad cI κ o σ25) := by rw [eσ25]; exact hD
                  refine lv_aload_n hx hb d_Mod_reap_144 rfl (lv_at hl 2 rfl) ?_
                  refine va_get (D := D) (ci := nMod) (v := .ref (ad 19)) (C := R_Mod) (T := T_Mod) (N := 15) hx hb hts i_Mod hown hK hP 17 rfl rfl 2 (by decide) (hts _ tw_657) (fun _ h9 => h9) rfl d_Mod_reap_145 ?_
                  refine lv_iload_n hx hb d_Mod_reap_148 rfl (lv_at hl 3 rfl) ?_
                  refine lv_iconst (v := (nI 0)) hx hb d_Mod_reap_149 (by decide) ?_
                  refine k_astN (q0 := 19) (t0 := 0) hx hb hK hP hD hS rfl rfl (by omega) (by decide) d_Mod_reap_150 (fun H locs hP hD hS => ?_)
                  obtain ⟨σ26, eσ26⟩ : ∃ z : kS, z = (st σ25 5 j3 0) := ⟨_, rfl⟩
                  have hP : va_P D vwCl (wX ad cI κ o σ26) H := by rw [eσ26]; exact hP
                  have hD : va_D (kA s0) (wX ad cI κ o σ26) := by rw [eσ26]; exact hD
                  refine lv_aload_n hx hb d_Mod_reap_151 rfl (lv_at hl 2 rfl) ?_
                  refine va_get (D := D) (ci := nMod) (v := .ref (ad 20)) (C := R_Mod) (T := T_Mod) (N := 15) hx hb hts i_Mod hown hK hP 17 rfl rfl 3 (by decide) (hts _ tw_658) (fun _ h9 => h9) rfl d_Mod_reap_152 ?_
                  refine lv_iload_n hx hb d_Mod_reap_155 rfl (lv_at hl 3 rfl) ?_
                  refine lv_iconst (v := (pI 0)) hx hb d_Mod_reap_156 (by decide) ?_
                  refine k_astP (q0 := 20) (t0 := 0) hx hb hK hP hD hS rfl rfl (by omega) (by decide) d_Mod_reap_157 (fun H locs hP hD hS => ?_)
                  obtain ⟨σ27, eσ27⟩ : ∃ z : kS, z = (st σ26 6 j3 0) := ⟨_, rfl⟩
                  have hP : va_P D vwCl (wX ad cI κ o σ27) H := by rw [eσ27]; exact hP
                  have hD : va_D (kA s0) (wX ad cI κ o σ27) := by rw [eσ27]; exact hD
                  refine lv_iload_n hx hb d_Mod_reap_158 rfl (lv_at hl 1 rfl) ?_
                  exact k_retWI hx hb hr hlocks d_Mod_reap_159 hP hD hS (by rw [e0]; subst eσ27 eσ26 eσ25 eσ24 eσ23; first | rfl | (simp [rs_reap, inn, rqn, fin, rOkV, hq2, h9, h12, h15, h19, h22, Nat.not_lt.mpr h15]; done) | (simp [rs_reap, inn, rqn, fin, rOkV, hq2, h9, h12, h15, h19, h22, Nat.not_lt.mpr h15]; rfl) | (simp [rs_reap, inn, rqn, fin, rOkV, hq2, h15, beq_iff_eq.mpr h9, beq_iff_eq.mpr h12, beq_iff_eq.mpr h19, beq_iff_eq.mpr h22, kbne h9, kbne h12, kbne h19, kbne h22, Nat.not_lt.mpr h15]; done) | (simp [rs_reap, inn, rqn, fin, rOkV, hq2, h15, beq_iff_eq.mpr h9, beq_iff_eq.mpr h12, beq_iff_eq.mpr h19, beq_iff_eq.mpr h22, kbne h9, kbne h12, kbne h19, kbne h22, Nat.not_lt.mpr h15]; rfl) | (simp only [rs_reap, inn, rqn, fin, rOkV, hq2, h9, h12, h15, h19, h22, Nat.not_lt.mpr h15]; rfl))
                | succ n ih =>
                  intro i hi0 hi H locs ls hP hD hS hl
                  have hlt : i < 6 := by omega
                  obtain ⟨σ28, eσ28⟩ : ∃ z : kS, z = (rv σ1 j3 i) := ⟨_, rfl⟩
                  rw [← eσ28] at hP hD
                  have hv4 : ∀ k, k < 6 → σ28.1 4 k < 2 ^ 30 := by rw [eσ28]; exact rv_b4 _ ok1.b4 _
                  have hv5 : ∀ k, k < 6 → σ28.1 5 k < 2 ^ 30 := by rw [eσ28]; exact rv_b5 _ ok1.b5 _
                  have hv6 : σ28.1 6 = σ1.1 6 := by rw [eσ28]; exact rv_6 _ _ _
                  have hv6j : σ28.1 6 j3 = σ1.1 6 j3 := by rw [hv6]
                  refine lv_iload_n hx hb d_Mod_reap_81 rfl (lv_at hl 0 rfl) ?_
                  refine lv_bipush (v := (nI 6)) hx hb d_Mod_reap_82 (by decide) ?_
                  refine k_geN (tgt := 125) (by omega) (by omega) hx hb d_Mod_reap_84 (by decide) (fun h9 => absurd h9 (by omega)) (fun _ => ?_)
                  refine lv_aload_n hx hb d_Mod_reap_87 rfl (lv_at hl 2 rfl) ?_
                  refine va_get (D := D) (ci := nMod) (v := .ref (ad 18)) (C := R_Mod) (T := T_Mod) (N := 15) hx hb hts i_Mod hown hK hP 17 rfl rfl 1 (by decide) (hts _ tw_656) (fun _ h9 => h9) rfl d_Mod_reap_88 ?_
                  refine lv_iload_n hx hb d_Mod_reap_91 rfl (lv_at hl 0 rfl) ?_
                  refine k_aldN (q0 := 18) (t0 := 0) hx hb hK hP rfl rfl (by omega) (by decide) d_Mod_reap_92 ?_
                  refine k_if0 (tgt := 119) (Nat.lt_of_lt_of_le (hv4 _ (by omega)) (by decide)) hx hb d_Mod_reap_93 (by decide) (fun h29 => ?_) (fun h29 => ?_)
                  · refine lv_iinc (v := (nI (i + 1))) (lv' := [(3, .int (nI (i + 1))), (2, .int (nI (rvn σ1 j3 i))), (0, .ref (ad 17)), (1, .int (nI j3))]) hx hb d_Mod_reap_119 hl (k := 0) rfl (nI_1 _) (by decide) rfl (fun ls hl => ?_)
                    refine lv_goto (tgt := 81) hx hb d_Mod_reap_122 (by decide) ?_
                    exact ih (i + 1) (by omega) (by omega) H locs ls (by rw [(rv_f1 (by rw [← eσ28]; exact h29)).1, ← eσ28]; exact hP) (by rw [(rv_f1 (by rw [← eσ28]; exact h29)).1, ← eσ28]; exact hD) hS (by rw [(rv_f1 (by rw [← eσ28]; exact h29)).2]; exact lv_sub hl [0, 1, 2, 3] rfl)
                  · refine lv_aload_n hx hb d_Mod_reap_96 rfl (lv_at hl 2 rfl) ?_
                    refine va_get (D := D) (ci := nMod) (v := .ref (ad 19)) (C := R_Mod) (T := T_Mod) (N := 15) hx hb hts i_Mod hown hK hP 17 rfl rfl 2 (by decide) (hts _ tw_657) (fun _ h9 => h9) rfl d_Mod_reap_97 ?_
                    refine lv_iload_n hx hb d_Mod_reap_100 rfl (lv_at hl 0 rfl) ?_
                    refine k_aldN (q0 := 19) (t0 := 0) hx hb hK hP rfl rfl (by omega) (by decide) d_Mod_reap_101 ?_
                    refine lv_iload_n hx hb d_Mod_reap_102 rfl (lv_at hl 3 rfl) ?_
                    refine k_eqN (tgt := 109) (Nat.lt_of_lt_of_le (hv5 _ (by omega)) (by decide)) (by omega) hx hb d_Mod_reap_103 (by decide) (fun h30 => ?_) (fun h30 => ?_)
                    · refine lv_aload_n hx hb d_Mod_reap_109 rfl (lv_at hl 2 rfl) ?_
                      refine va_get (D := D) (ci := nMod) (v := .ref (ad 19)) (C := R_Mod) (T := T_Mod) (N := 15) hx hb hts i_Mod hown hK hP 17 rfl rfl 2 (by decide) (hts _ tw_657) (fun _ h9 => h9) rfl d_Mod_reap_110 ?_
                      refine lv_iload_n hx hb d_Mod_reap_113 rfl (lv_at hl 0 rfl) ?_
                      refine lv_iconst (v := (nI 1)) hx hb d_Mod_reap_114 (by decide) ?_
                      refine k_astN (q0 := 19) (t0 := 0) hx hb hK hP hD hS rfl rfl (by omega) (by decide) d_Mod_reap_115 (fun H locs hP hD hS => ?_)
                      obtain ⟨σ31, eσ31⟩ : ∃ z : kS, z = (st σ28 5 i 1) := ⟨_, rfl⟩
                      have hP : va_P D vwCl (wX ad cI κ o σ31) H := by rw [eσ31]; exact hP
                      have hD : va_D (kA s0) (wX ad cI κ o σ31) := by rw [eσ31]; exact hD
                      refine lv_iinc (v := (nI ((rvn σ1 j3 i) + 1))) (lv' := [(2, .int (nI ((rvn σ1 j3 i) + 1))), (3, .int (nI i)), (0, .ref (ad 17)), (1, .int (nI j3))]) hx hb d_Mod_reap_116 hl (k := 1) rfl (nI_1 _) (by decide) rfl (fun ls hl => ?_)
                      refine lv_iinc (v := (nI (i + 1))) (lv' := [(3, .int (nI (i + 1))), (2, .int (nI ((rvn σ1 j3 i) + 1))), (0, .ref (ad 17)), (1, .int (nI j3))]) hx hb d_Mod_reap_119 hl (k := 1) rfl (nI_1 _) (by decide) rfl (fun ls hl => ?_)
                      refine lv_goto (tgt := 81) hx hb d_Mod_reap_122 (by decide) ?_
                      exact ih (i + 1) (by omega) (by omega) H locs ls (by rw [(rv_t (by omega) (by rw [← eσ28]; exact h29) (by rw [← eσ28]; exact h30)).1, ← eσ28, ← eσ31]; exact hP) (by rw [(rv_t (by omega) (by rw [← eσ28]; exact h29) (by rw [← eσ28]; exact h30)).1, ← eσ28, ← eσ31]; exact hD) hS (by rw [(rv_t (by omega) (by rw [← eσ28]; exact h29) (by rw [← eσ28]; exact h30)).2]; exact lv_sub hl [0, 1, 2, 3] rfl)
                    · refine lv_goto (tgt := 119) hx hb d_Mod_reap_106 (by decide) ?_
                      refine lv_iinc (v := (nI (i + 1))) (lv' := [(3, .int (nI (i + 1))), (2, .int (nI (rvn σ1 j3 i))), (0, .ref (ad 17)), (1, .int (nI j3))]) hx hb d_Mod_reap_119 hl (k := 0) rfl (nI_1 _) (by decide) rfl (fun ls hl => ?_)
                      refine lv_goto (tgt := 81) hx hb d_Mod_reap_122 (by decide) ?_
                      exact ih (i + 1) (by omega) (by omega) H locs ls (by rw [(rv_f2 (by rw [← eσ28]; exact h30)).1, ← eσ28]; exact hP) (by rw [(rv_f2 (by rw [← eσ28]; exact h30)).1, ← eσ28]; exact hD) hS (by rw [(rv_f2 (by rw [← eσ28]; exact h30)).2]; exact lv_sub hl [0, 1, 2, 3] rfl)
              exact L (6 - 1) 1 (by omega) (by omega) H _ ls hP hD hS (lv_sub hl [0, 1, 2, 3] rfl)
            · refine lv_aload_n hx hb d_Mod_reap_71 rfl (lv_at hl 0 rfl) ?_
              refine lv_iconst (v := (nI 2)) hx hb d_Mod_reap_72 (by decide) ?_
              refine k_callW (k_atV (As := [.int (nI 2)]) hx hb hown hE.1 (K0.w tw_721) (hts _ tw_718) (hts _ tw_720) (hts _ tw_9020) (hts _ tw_5) (by decide) np_Mod_raise (va_recv hK hP (ci := nMod) (q0 := 17) rfl rfl) rfl d_Mod_reap_73) (c_Mod_raise K0 ad κ o σ1 (nI 2)) (hl.1.trans hml.symm) (Nat.le_of_ble_eq_true rfl) ⟨Nat.le_of_ble_eq_true rfl, Nat.le_of_ble_eq_true rfl, Nat.le_of_ble_eq_true rfl, Nat.le_of_ble_eq_true rfl⟩ (fun U hU hW => ⟨hE.go hW hU hS, by rw [hU]; exact hP, hD⟩) hS (fun H locs hP hD hS => ?_)
              obtain ⟨σ32, eσ32⟩ : ∃ z : kS, z = (sw σ1 2 0 (nI 2)) := ⟨_, rfl⟩
              have hP : va_P D vwCl (wX ad cI κ o σ32) H := by rw [eσ32]; exact hP
              have hD : va_D (kA s0) (wX ad cI κ o σ32) := by rw [eσ32]; exact hD
              have hwσ32 : σ32.1 = σ1.1 := by rw [eσ32]; exact rfl
              exact k_retWI hx hb hr hlocks d_Mod_reap_76 hP hD hS (by rw [e0]; subst eσ32; first | rfl | (simp [rs_reap, inn, rqn, fin, rOkV, hq2, h9, h12, h15, h19, h22, beq_false_of_ne h22, bne_iff_ne.mpr h22, Nat.not_lt.mpr h15]; done) | (simp [rs_reap, inn, rqn, fin, rOkV, hq2, h9, h12, h15, h19, h22, beq_false_of_ne h22, bne_iff_ne.mpr h22, Nat.not_lt.mpr h15]; rfl) | (simp [rs_reap, inn, rqn, fin, rOkV, hq2, h15, h22, beq_iff_eq.mpr h9, beq_iff_eq.mpr h12, beq_iff_eq.mpr h19, kbne h9, kbne h12, kbne h19, beq_false_of_ne h22, bne_iff_ne.mpr h22, Nat.not_lt.mpr h15]; done) | (simp [rs_reap, inn, rqn, fin, rOkV, hq2, h15, h22, beq_iff_eq.mpr h9, beq_iff_eq.mpr h12, beq_iff_eq.mpr h19, kbne h9, kbne h12, kbne h19, beq_false_of_ne h22, bne_iff_ne.mpr h22, Nat.not_lt.mpr h15]; rfl) | (simp only [rs_reap, inn, rqn, fin, rOkV, hq2, h9, h12, h15, h19, h22, beq_false_of_ne h22, bne_iff_ne.mpr h22, Nat.not_lt.mpr h15]; rfl))
set_option maxHeartbeats 4000000 in
set_option maxRecDepth 100000 in
theorem c_Mod_take {l : Launch} {s0 : State} {a0 : Array Value} {D : va_G} {cI cL : ClassId} (K0 : k0 l s0 a0 D cI cL) (ad : Nat → Nat) (κ : kS) (o : va_W) (σ : kS) (x : Int32) (y : Int32) (ok : kOr σ) : kMet l y_Mod_take (Cond.code y_Mod_take b_Mod_take 6 (some .int)) (rmL 2) [.ref (ad 17), .int x, .int y] (kPre D vwCl s0 (wX ad cI κ o) σ) (.ok (fin (t0 σ) (rs_take (t0 σ) x y))) (kBw D vwCl s0 (wX ad cI κ o)) := by
  refine k_of (by decide) (Nat.le_of_ble_eq_true rfl) ?_
  intro p e9 s m below meth c hx hb hr hlocks hown hml hex hpre ls hl
  obtain ⟨hE, hP, hD⟩ := hpre
  obtain ⟨hts, hK⟩ := K0.at (args := ([.ref (ad 17), .int x, .int y] : List Value).toArray) hE
  have hl : lv_has ls 6 [(0, .ref (ad 17)), (1, .int x), (2, .int y)] := hl
  have hS : va_S (kA s0) s.heap s.heap [] := va_S.rf
  refine lv_aload_n hx hb d_Mod_take_0 rfl (lv_at hl 0 rfl) ?_
  refine lv_iconst (v := (nI 0)) hx hb d_Mod_take_1 (by decide) ?_
  refine va_put (D := D) (ci := nMod) (v := .int (nI 0)) (ty := .int) (C := R_Mod) (T := T_Mod) (N := 15) hx hb hts i_Mod ty_Mod ty_Mod_ok nm_Mod hown hK hP hD hS 17 rfl rfl 0 (by decide) (hts _ tw_655) (fun _ h9 => h9) rfl (by decide +kernel) rfl rfl (Nat.le_of_ble_eq_true rfl) d_Mod_take_2 (fun H locs hP hD hS => ?_)
  obtain ⟨σ1, eσ1⟩ : ∃ z : kS, z = (sw σ 2 0 (nI 0)) := ⟨_, rfl⟩
  have hP : va_P D vwCl (wX ad cI κ o σ1) H := by rw [eσ1]; exact hP
  have hD : va_D (kA s0) (wX ad cI κ o σ1) := by rw [eσ1]; exact hD
  have e0 : t0 σ = σ1 := eσ1.symm
  have ok1 : kOr σ1 := by rw [eσ1]; exact ok
  obtain ⟨o1, o2, o3, o4, o5, o6, o7, o8, o10, o0, ⟨oc1, oc2⟩, oc3, or6⟩ := id ok1
  have hr0 : σ1.1 6 (σ1.1 11 0) ≠ 0 := or6 _ oc2 (by omega)
  have hr1 : σ1.1 6 (σ1.1 11 0) < 21 := o6 _ oc2
  refine lv_iload_n hx hb d_Mod_take_5 rfl (lv_at hl 1 rfl) ?_
  refine lv_iconst (v := (nI 0)) hx hb d_Mod_take_6 (by decide) ?_
  refine lv_iconst (v := (nI 3)) hx hb d_Mod_take_7 (by decide) ?_
  rcases hq7 : rg x 0 3 with _ | j8
  · refine k_callR (k_atS (As := [.int x, .int (nI 0), .int (nI 3)]) hx hb hown hE.1 (K0.w tw_714) rfl k_w9 (hts _ tw_712) (hts _ tw_713) (hts _ tw_5) (by decide) np_Mod_in rfl d_Mod_take_8) (kz_n hq7 (c_Mod_in K0 ad κ o σ1 x 0 3 (by decide) (by decide))) (hl.1.trans hml.symm) (Nat.le_of_ble_eq_true rfl) ⟨Nat.le_of_ble_eq_true rfl, Nat.le_of_ble_eq_true rfl, Nat.le_of_ble_eq_true rfl, Nat.le_of_ble_eq_true rfl⟩ (fun U hU hW => ⟨hE.go hW hU hS, by rw [hU]; exact hP, hD⟩) ?_
    refine k_if0 (tgt := 24) (by decide) hx hb d_Mod_take_11 (by decide) (fun _ => ?_) (fun h9 => absurd h9 (by decide))
    refine lv_aload_n hx hb d_Mod_take_24 rfl (lv_at hl 0 rfl) ?_
    refine lv_iconst (v := (nI 1)) hx hb d_Mod_take_25 (by decide) ?_
    refine k_callW (k_atV (As := [.int (nI 1)]) hx hb hown hE.1 (K0.w tw_721) (hts _ tw_718) (hts _ tw_720) (hts _ tw_9020) (hts _ tw_5) (by decide) np_Mod_raise (va_recv hK hP (ci := nMod) (q0 := 17) rfl rfl) rfl d_Mod_take_26) (c_Mod_raise K0 ad κ o σ1 (nI 1)) (hl.1.trans hml.symm) (Nat.le_of_ble_eq_true rfl) ⟨Nat.le_of_ble_eq_true rfl, Nat.le_of_ble_eq_true rfl, Nat.le_of_ble_eq_true rfl, Nat.le_of_ble_eq_true rfl⟩ (fun U hU hW => ⟨hE.go hW hU hS, by rw [hU]; exact hP, hD⟩) hS (fun H locs hP hD hS => ?_)
    obtain ⟨σ12, eσ12⟩ : ∃ z : kS, z = (sw σ1 2 0 (nI 1)) := ⟨_, rfl⟩
    have hP : va_P D vwCl (wX ad cI κ o σ12) H := by rw [eσ12]; exact hP
    have hD : va_D (kA s0) (wX ad cI κ o σ12) := by rw [eσ12]; exact hD
    have hwσ12 : σ12.1 = σ1.1 := by rw [eσ12]; exact rfl
    exact k_retWI hx hb hr hlocks d_Mod_take_29 hP hD hS (by rw [e0]; subst eσ12; first | rfl | (simp [rs_take, inn, rqn, fin, rOkV, rz_take, hq7]; done) | (simp [rs_take, inn, rqn, fin, rOkV, rz_take, hq7]; rfl) | (simp [rs_take, inn, rqn, fin, rOkV, rz_take, hq7]; done) | (simp [rs_take, inn, rqn, fin, rOkV, rz_take, hq7]; rfl) | (simp only [rs_take, inn, rqn, fin, rOkV, rz_take, hq7]; rfl))
  · refine k_callR (k_atS (As := [.int x, .int (nI 0), .int (nI 3)]) hx hb hown hE.1 (K0.w tw_714) rfl k_w9 (hts _ tw_712) (hts _ tw_713) (hts _ tw_5) (by decide) np_Mod_in rfl d_Mod_take_8) (kz_s hq7 (c_Mod_in K0 ad κ o σ1 x 0 3 (by decide) (by decide))) (hl.1.trans hml.symm) (Nat.le_of_ble_eq_true rfl) ⟨Nat.le_of_ble_eq_true rfl, Nat.le_of_ble_eq_true rfl, Nat.le_of_ble_eq_true rfl, Nat.le_of_ble_eq_true rfl⟩ (fun U hU hW => ⟨hE.go hW hU hS, by rw [hU]; exact hP, hD⟩) ?_
    obtain ⟨rfl, ha9, hb_10, hc_11⟩ := rg_some hq7
    refine k_if0 (tgt := 24) (by decide) hx hb d_Mod_take_11 (by decide) (fun h9 => absurd h9 (by decide)) (fun _ => ?_)
    refine lv_iload_n hx hb d_Mod_take_14 rfl (lv_at hl 2 rfl) ?_
    refine lv_iconst (v := (nI 0)) hx hb d_Mod_take_15 (by decide) ?_
    refine lv_bipush (v := (nI 63)) hx hb d_Mod_take_16 (by decide) ?_
    rcases hq18 : rg y 0 63 with _ | j19
    · refine k_callR (k_atS (As := [.int y, .int (nI 0), .int (nI 63)]) hx hb hown hE.1 (K0.w tw_714) rfl k_w9 (hts _ tw_712) (hts _ tw_713) (hts _ tw_5) (by decide) np_Mod_in rfl d_Mod_take_18) (kz_n hq18 (c_Mod_in K0 ad κ o σ1 y 0 63 (by decide) (by decide))) (hl.1.trans hml.symm) (Nat.le_of_ble_eq_true rfl) ⟨Nat.le_of_ble_eq_true rfl, Nat.le_of_ble_eq_true rfl, Nat.le_of_ble_eq_true rfl, Nat.le_of_ble_eq_true rfl⟩ (fun U hU hW => ⟨hE.go hW hU hS, by rw [hU]; exact hP, hD⟩) ?_
      refine k_ifN0 (tgt := 30) (by decide) hx hb d_Mod_take_21 (by decide) (fun h9 => absurd h9 (by decide)) (fun _ => ?_)
      refine lv_aload_n hx hb d_Mod_take_24 rfl (lv_at hl 0 rfl) ?_
      refine lv_iconst (v := (nI 1)) hx hb d_Mod_take_25 (by decide) ?_
      refine k_callW (k_atV (As := [.int (nI 1)]) hx hb hown hE.1 (K0.w tw_721) (hts _ tw_718) (hts _ tw_720) (hts _ tw_9020) (hts _ tw_5) (by decide) np_Mod_raise (va_recv hK hP (ci := nMod) (q0 := 17) rfl rfl) rfl d_Mod_take_26) (c_Mod_raise K0 ad κ o σ1 (nI 1)) (hl.1.trans hml.symm) (Nat.le_of_ble_eq_true rfl) ⟨Nat.le_of_ble_eq_true rfl, Nat.le_of_ble_eq_true rfl, Nat.le_of_ble_eq_true rfl, Nat.le_of_ble_eq_true rfl⟩ (fun U hU hW => ⟨hE.go hW hU hS, by rw [hU]; exact hP, hD⟩) hS (fun H locs hP hD hS => ?_)
      obtain ⟨σ23, eσ23⟩ : ∃ z : kS, z = (sw σ1 2 0 (nI 1)) := ⟨_, rfl⟩
      have hP : va_P D vwCl (wX ad cI κ o σ23) H := by rw [eσ23]; exact hP
      have hD : va_D (kA s0) (wX ad cI κ o σ23) := by rw [eσ23]; exact hD
      have hwσ23 : σ23.1 = σ1.1 := by rw [eσ23]; exact rfl
      exact k_retWI hx hb hr hlocks d_Mod_take_29 hP hD hS (by rw [e0]; subst eσ23; first | rfl | (simp [rs_take, inn, rqn, fin, rOkV, rz_take, hq7, hq18]; done) | (simp [rs_take, inn, rqn, fin, rOkV, rz_take, hq7, hq18]; rfl) | (simp [rs_take, inn, rqn, fin, rOkV, rz_take, hq7, hq18]; done) | (simp [rs_take, inn, rqn, fin, rOkV, rz_take, hq7, hq18]; rfl) | (simp only [rs_take, inn, rqn, fin, rOkV, rz_take, hq7, hq18]; rfl))
    · refine k_callR (k_atS (As := [.int y, .int (nI 0), .int (nI 63)]) hx hb hown hE.1 (K0.w tw_714) rfl k_w9 (hts _ tw_712) (hts _ tw_713) (hts _ tw_5) (by decide) np_Mod_in rfl d_Mod_take_18) (kz_s hq18 (c_Mod_in K0 ad κ o σ1 y 0 63 (by decide) (by decide))) (hl.1.trans hml.symm) (Nat.le_of_ble_eq_true rfl) ⟨Nat.le_of_ble_eq_true rfl, Nat.le_of_ble_eq_true rfl, Nat.le_of_ble_eq_true rfl, Nat.le_of_ble_eq_true rfl⟩ (fun U hU hW => ⟨hE.go hW hU hS, by rw [hU]; exact hP, hD⟩) ?_
      obtain ⟨rfl, ha20, hb_21, hc_22⟩ := rg_some hq18
      refine k_ifN0 (tgt := 30) (by decide) hx hb d_Mod_take_21 (by decide) (fun _ => ?_) (fun h9 => absurd h9 (by decide))
      refine lv_aload_n hx hb d_Mod_take_30 rfl (lv_at hl 0 rfl) ?_
      refine va_get (D := D) (ci := nMod) (v := .ref (ad 21)) (C := R_Mod) (T := T_Mod) (N := 15) hx hb hts i_Mod hown hK hP 17 rfl rfl 4 (by decide) (hts _ tw_659) (fun _ h9 => h9) rfl d_Mod_take_31 ?_
      refine lv_iconst (v := (nI 4)) hx hb d_Mod_take_34 (by decide) ?_
      refine lv_aload_n hx hb d_Mod_take_35 rfl (lv_at hl 0 rfl) ?_
      refine va_get (D := D) (ci := nMod) (v := .int (nI (σ1.1 11 0))) (C := R_Mod) (T := T_Mod) (N := 15) hx hb hts i_Mod hown hK hP 17 rfl rfl 13 (by decide) (hts _ tw_668) (fun _ h9 => h9) rfl d_Mod_take_36 ?_
      refine k_mulC hx hb d_Mod_take_39 ?_
      refine lv_iload_n hx hb d_Mod_take_40 rfl (lv_at hl 1 rfl) ?_
      refine k_addN hx hb d_Mod_take_41 ?_
      refine k_aldP (q0 := 21) (t0 := 0) hx hb hK hP rfl rfl (by omega) (by decide) d_Mod_take_42 ?_
      have ho24 := o7 (((σ1.1 11 0) * 4) + j8) (by omega)
      refine lv_istore_n (lv' := [(3, .int (pI (σ1.1 7 (((σ1.1 11 0) * 4) + j8)))), (0, .ref (ad 17)), (1, .int (nI j8)), (2, .int (nI j19))]) hx hb d_Mod_take_43 rfl hl (by decide) rfl (fun ls hl => ?_)
      refine lv_iload_n hx hb d_Mod_take_44 rfl (lv_at hl 0 rfl) ?_
      refine k_geP0 (tgt := 54) (ok1.b7 _ (by omega)) hx hb d_Mod_take_45 (by decide) (fun h25 => ?_) (fun h25 => ?_)
      · refine lv_aload_n hx hb d_Mod_take_54 rfl (lv_at hl 1 rfl) ?_
        refine lv_iload_n hx hb d_Mod_take_55 rfl (lv_at hl 3 rfl) ?_
        refine lv_iconst (v := (nI 2)) hx hb d_Mod_take_56 (by decide) ?_
        refine k_callW (k_atV (As := [.int (nI j19), .int (nI 2)]) hx hb hown hE.1 (K0.w tw_821) (hts _ tw_818) (hts _ tw_820) (hts _ tw_9032) (hts _ tw_5) (by decide) np_Mod_walk (va_recv hK hP (ci := nMod) (q0 := 17) rfl rfl) rfl d_Mod_take_57) (c_Mod_walk K0 ad κ o σ1 j19 2 ok1 (by omega)) (hl.1.trans hml.symm) (Nat.le_of_ble_eq_true rfl) ⟨Nat.le_of_ble_eq_true rfl, Nat.le_of_ble_eq_true rfl, Nat.le_of_ble_eq_true rfl, Nat.le_of_ble_eq_true rfl⟩ (fun U hU hW => ⟨hE.go hW hU hS, by rw [hU]; exact hP, hD⟩) hS (fun H locs hP hD hS => ?_)
        obtain ⟨σ26, eσ26⟩ : ∃ z : kS, z = (rwk σ1 j19 2).2 := ⟨_, rfl⟩
        have hP : va_P D vwCl (wX ad cI κ o σ26) H := by rw [eσ26]; exact hP
        have hD : va_D (kA s0) (wX ad cI κ o σ26) := by rw [eσ26]; exact hD
        have hw1 : σ26.1 = σ1.1 := by rw [eσ26]; exact rwk_1 _ _ _
        have hwl : (rwk σ1 j19 2).1 < 81 := rwk_lt ok1 _ _ (by omega)
        refine lv_istore (lv' := [(4, .int (pI ((rwk σ1 j19 2).1))), (3, .int (pI (σ1.1 7 (((σ1.1 11 0) * 4) + j8)))), (0, .ref (ad 17)), (1, .int (nI j8)), (2, .int (nI j19))]) hx hb d_Mod_take_60 hl (by decide) rfl (fun ls hl => ?_)
        refine lv_iload hx hb d_Mod_take_62 (lv_at hl 0 rfl) ?_
        refine k_geP0 (tgt := 76) (by omega) hx hb d_Mod_take_64 (by decide) (fun h27 => ?_) (fun h27 => ?_)
        · refine lv_aload_n hx hb d_Mod_take_76 rfl (lv_at hl 2 rfl) ?_
          refine va_get (D := D) (ci := nMod) (v := .ref (ad 29)) (C := R_Mod) (T := T_Mod) (N := 15) hx hb hts i_Mod hown hK hP 17 rfl rfl 12 (by decide) (hts _ tw_667) (fun _ h9 => h9) rfl d_Mod_take_77 ?_
          refine lv_iload_n hx hb d_Mod_take_80 rfl (lv_at hl 1 rfl) ?_
          refine k_st (st' := [.int (nI ((σ1.1 7 (((σ1.1 11 0) * 4) + j8)) - 1)), .ref (ad 29)]) (by show ([.int (pI (σ1.1 7 (((σ1.1 11 0) * 4) + j8))), .ref (ad 29)] : List Value) = _; rw [pI_pred (t := (σ1.1 7 (((σ1.1 11 0) * 4) + j8))) (by omega)]) ?_
          refine k_aldN (q0 := 29) (t0 := 0) hx hb hK hP rfl rfl (by omega) (by decide) d_Mod_take_81 ?_
          have ho28 : (σ26.1 10 ((σ1.1 7 (((σ1.1 11 0) * 4) + j8)) - 1)) = (σ1.1 10 ((σ1.1 7 (((σ1.1 11 0) * 4) + j8)) - 1)) ∧ (σ26.1 10 ((σ1.1 7 (((σ1.1 11 0) * 4) + j8)) - 1)) < 5 := by rw [hw1]; exact ⟨rfl, o10 _ (by omega)⟩
          refine k_ifN0 (tgt := 91) (by omega) hx hb d_Mod_take_82 (by decide) (fun h29 => ?_) (fun h29 => ?_)
          · refine lv_aload_n hx hb d_Mod_take_91 rfl (lv_at hl 2 rfl) ?_
            refine va_get (D := D) (ci := nMod) (v := .ref (ad 27)) (C := R_Mod) (T := T_Mod) (N := 15) hx hb hts i_Mod hown hK hP 17 rfl rfl 10 (by decide) (hts _ tw_665) (fun _ h9 => h9) rfl d_Mod_take_92 ?_
            refine lv_iload hx hb d_Mod_take_95 (lv_at hl 0 rfl) ?_
            refine lv_aload_n hx hb d_Mod_take_97 rfl (lv_at hl 2 rfl) ?_
            refine va_get (D := D) (ci := nMod) (v := .ref (ad 28)) (C := R_Mod) (T := T_Mod) (N := 15) hx hb hts i_Mod hown hK hP 17 rfl rfl 11 (by decide) (hts _ tw_666) (fun _ h9 => h9) rfl d_Mod_take_98 ?_
            refine lv_iconst (v := (nI 4)) hx hb d_Mod_take_101 (by decide) ?_
            refine lv_iload_n hx hb d_Mod_take_102 rfl (lv_at hl 1 rfl) ?_
            refine k_st (st' := [.int (nI ((σ1.1 7 (((σ1.1 11 0) * 4) + j8)) - 1)), .int (nI 4), .ref (ad 28), .int (pI ((rwk σ1 j19 2).1)), .ref (ad 27)]) (by show ([.int (pI (σ1.1 7 (((σ1.1 11 0) * 4) + j8))), .int (nI 4), .ref (ad 28), .int (pI ((rwk σ1 j19 2).1)), .ref (ad 27)] : List Value) = _; rw [pI_pred (t := (σ1.1 7 (((σ1.1 11 0) * 4) + j8))) (by omega)]) ?_
            refine k_mulC hx hb d_Mod_take_103 ?_
            refine k_aldI (q0 := 28) (t0 := 0) hx hb hK hP rfl rfl (by omega) (by decide) d_Mod_take_104 ?_
            refine k_st (st' := [.int (σ26.2 1 (((σ1.1 7 (((σ1.1 11 0) * 4) + j8)) - 1) * 4)), .int (nI (((rwk σ1 j19 2).1) - 1)), .ref (ad 27)]) (by show ([.int (σ26.2 1 (((σ1.1 7 (((σ1.1 11 0) * 4) + j8)) - 1) * 4)), .int (pI ((rwk σ1 j19 2).1)), .ref (ad 27)] : List Value) = _; rw [pI_pred (t := ((rwk σ1 j19 2).1)) (by omega)]) ?_
            refine k_astI (q0 := 27) (t0 := 0) hx hb hK hP hD hS rfl rfl (by omega) (by decide) d_Mod_take_105 (fun H locs hP hD hS => ?_)
            obtain ⟨σ30, eσ30⟩ : ∃ z : kS, z = (sw σ26 0 (((rwk σ1 j19 2).1) - 1) (σ26.2 1 (((σ1.1 7 (((σ1.1 11 0) * 4) + j8)) - 1) * 4))) := ⟨_, rfl⟩
            have hP : va_P D vwCl (wX ad cI κ o σ30) H := by rw [eσ30]; exact hP
            have hD : va_D (kA s0) (wX ad cI κ o σ30) := by rw [eσ30]; exact hD
            have hwσ30 : σ30.1 = σ1.1 := by rw [eσ30]; exact hw1
            refine lv_aload_n hx hb d_Mod_take_106 rfl (lv_at hl 2 rfl) ?_
            refine va_get (D := D) (ci := nMod) (v := .ref (ad 29)) (C := R_Mod) (T := T_Mod) (N := 15) hx hb hts i_Mod hown hK hP 17 rfl rfl 12 (by decide) (hts _ tw_667) (fun _ h9 => h9) rfl d_Mod_take_107 ?_
            refine lv_iload_n hx hb d_Mod_take_110 rfl (lv_at hl 1 rfl) ?_
            refine lv_dup2_11 hx hb d_Mod_take_111 rfl rfl ?_
            refine k_st (st' := [.int (nI ((σ1.1 7 (((σ1.1 11 0) * 4) + j8)) - 1)), .ref (ad 29), .int (pI (σ1.1 7 (((σ1.1 11 0) * 4) + j8))), .ref (ad 29)]) (by show ([.int (pI (σ1.1 7 (((σ1.1 11 0) * 4) + j8))), .ref (ad 29), .int (pI (σ1.1 7 (((σ1.1 11 0) * 4) + j8))), .ref (ad 29)] : List Value) = _; rw [pI_pred (t := (σ1.1 7 (((σ1.1 11 0) * 4) + j8))) (by omega)]) ?_
            refine k_aldN (q0 := 29) (t0 := 0) hx hb hK hP rfl rfl (by omega) (by decide) d_Mod_take_112 ?_
            have ho31 : (σ30.1 10 ((σ1.1 7 (((σ1.1 11 0) * 4) + j8)) - 1)) = (σ1.1 10 ((σ1.1 7 (((σ1.1 11 0) * 4) + j8)) - 1)) ∧ (σ30.1 10 ((σ1.1 7 (((σ1.1 11 0) * 4) + j8)) - 1)) < 5 := by rw [hwσ30]; exact ⟨rfl, o10 _ (by omega)⟩
            refine lv_iconst (v := (nI 1)) hx hb d_Mod_take_113 (by decide) ?_
            refine k_subN (by omega) hx hb d_Mod_take_114 ?_
            refine k_st (st' := [.int (nI ((σ30.1 10 ((σ1.1 7 (((σ1.1 11 0) * 4) + j8)) - 1)) - 1)), .int (nI ((σ1.1 7 (((σ1.1 11 0) * 4) + j8)) - 1)), .ref (ad 29)]) (by show ([.int (nI ((σ30.1 10 ((σ1.1 7 (((σ1.1 11 0) * 4) + j8)) - 1)) - 1)), .int (pI (σ1.1 7 (((σ1.1 11 0) * 4) + j8))), .ref (ad 29)] : List Value) = _; rw [pI_pred (t := (σ1.1 7 (((σ1.1 11 0) * 4) + j8))) (by omega)]) ?_
            refine k_astN (q0 := 29) (t0 := 0) hx hb hK hP hD hS rfl rfl (by omega) (by decide) d_Mod_take_115 (fun H locs hP hD hS => ?_)
            obtain ⟨σ32, eσ32⟩ : ∃ z : kS, z = (st σ30 10 ((σ1.1 7 (((σ1.1 11 0) * 4) + j8)) - 1) ((σ30.1 10 ((σ1.1 7 (((σ1.1 11 0) * 4) + j8)) - 1)) - 1)) := ⟨_, rfl⟩
            have hP : va_P D vwCl (wX ad cI κ o σ32) H := by rw [eσ32]; exact hP
            have hD : va_D (kA s0) (wX ad cI κ o σ32) := by rw [eσ32]; exact hD
            refine lv_iconst (v := (nI 4)) hx hb d_Mod_take_116 (by decide) ?_
            refine lv_iload_n hx hb d_Mod_take_117 rfl (lv_at hl 1 rfl) ?_
            refine k_st (st' := [.int (nI ((σ1.1 7 (((σ1.1 11 0) * 4) + j8)) - 1)), .int (nI 4)]) (by show ([.int (pI (σ1.1 7 (((σ1.1 11 0) * 4) + j8))), .int (nI 4)] : List Value) = _; rw [pI_pred (t := (σ1.1 7 (((σ1.1 11 0) * 4) + j8))) (by omega)]) ?_
            refine k_mulC hx hb d_Mod_take_118 ?_
            refine lv_istore (lv' := [(5, .int (nI (((σ1.1 7 (((σ1.1 11 0) * 4) + j8)) - 1) * 4))), (4, .int (pI ((rwk σ1 j19 2).1))), (3, .int (pI (σ1.1 7 (((σ1.1 11 0) * 4) + j8)))), (0, .ref (ad 17)), (1, .int (nI j8)), (2, .int (nI j19))]) hx hb d_Mod_take_119 hl (by decide) rfl (fun ls hl => ?_)
            have L : ∀ (n i : Nat), 0 ≤ i → i + n = (σ30.1 10 ((σ1.1 7 (((σ1.1 11 0) * 4) + j8)) - 1) - 1) → ∀ (H : Heap) (locs : List Loc) (ls : Array Slot), va_P D vwCl (wX ad cI κ o (sh σ32 ((σ1.1 7 (((σ1.1 11 0) * 4) + j8)) - 1) i)) H → va_D (kA s0) (wX ad cI κ o (sh σ32 ((σ1.1 7 (((σ1.1 11 0) * 4) + j8)) - 1) i)) → va_S (kA s0) s.heap H locs → lv_has ls 6 [(5, .int (nI ((((σ1.1 7 (((σ1.1 11 0) * 4) + j8)) - 1) * 4) + i))), (4, .int (pI ((rwk σ1 j19 2).1))), (3, .int (pI (σ1.1 7 (((σ1.1 11 0) * 4) + j8)))), (0, .ref (ad 17)), (1, .int (nI j8)), (2, .int (nI j19))] → W p l e9 (rmL 2) s m ([.ref (ad 17), .int (nI j8), .int (nI j19)] : List Value).toArray below meth c H locs 0 0 (kE below (.ok (fin (t0 σ) (rs_take (t0 σ) (nI j8) (nI j19)))) (kBw D vwCl s0 (wX ad cI κ o)) s) (F0 m 121 ls []) := by
              intro n
              induction n with
              | zero =>
                intro i hi0 hi H locs ls hP hD hS hl
                obtain rfl : i = (σ30.1 10 ((σ1.1 7 (((σ1.1 11 0) * 4) + j8)) - 1) - 1) := by omega
                obtain ⟨σ33, eσ33⟩ : ∃ z : kS, z = (sh σ32 ((σ1.1 7 (((σ1.1 11 0) * 4) + j8)) - 1) (σ30.1 10 ((σ1.1 7 (((σ1.1 11 0) * 4) + j8)) - 1) - 1)) := ⟨_, rfl⟩
                rw [← eσ33] at hP hD
                have hv : σ33.1 10 ((σ1.1 7 (((σ1.1 11 0) * 4) + j8)) - 1) = σ30.1 10 ((σ1.1 7 (((σ1.1 11 0) * 4) + j8)) - 1) - 1 := by rw [eσ33, sh_1, eσ32, st_get]
                refine lv_iload hx hb d_Mod_take_121 (lv_at hl 0 rfl) ?_
                refine lv_iconst (v := (nI 4)) hx hb d_Mod_take_123 (by decide) ?_
                refine lv_iload_n hx hb d_Mod_take_124 rfl (lv_at hl 2 rfl) ?_
                refine k_st (st' := [.int (nI ((σ1.1 7 (((σ1.1 11 0) * 4) + j8)) - 1)), .int (nI 4), .int (nI ((((σ1.1 7 (((σ1.1 11 0) * 4) + j8)) - 1) * 4) + (σ30.1 10 ((σ1.1 7 (((σ1.1 11 0) * 4) + j8)) - 1) - 1)))]) (by show ([.int (pI (σ1.1 7 (((σ1.1 11 0) * 4) + j8))), .int (nI 4), .int (nI ((((σ1.1 7 (((σ1.1 11 0) * 4) + j8)) - 1) * 4) + (σ30.1 10 ((σ1.1 7 (((σ1.1 11 0) * 4) + j8)) - 1) - 1)))] : List Value) = _; rw [pI_pred (t := (σ1.1 7 (((σ1.1 11 0) * 4) + j8))) (by omega)]) ?_
                refine k_mulC hx hb d_Mod_take_125 ?_
                refine lv_aload_n hx hb d_Mod_take_126 rfl (lv_at hl 3 rfl) ?_
                refine va_get (D := D) (ci := nMod) (v := .ref (ad 29)) (C := R_Mod) (T := T_Mod) (N := 15) hx hb hts i_Mod hown hK hP 17 rfl rfl 12 (by decide) (hts _ tw_667) (fun _ h9 => h9) rfl d_Mod_take_127 ?_
                refine lv_iload_n hx hb d_Mod_take_130 rfl (lv_at hl 2 rfl) ?_
                refine k_st (st' := [.int (nI ((σ1.1 7 (((σ1.1 11 0) * 4) + j8)) - 1)), .ref (ad 29), .int (nI (((σ1.1 7 (((σ1.1 11 0) * 4) + j8)) - 1) * 4)), .int (nI ((((σ1.1 7 (((σ1.1 11 0) * 4) + j8)) - 1) * 4) + (σ30.1 10 ((σ1.1 7 (((σ1.1 11 0) * 4) + j8)) - 1) - 1)))]) (by show ([.int (pI (σ1.1 7 (((σ1.1 11 0) * 4) + j8))), .ref (ad 29), .int (nI (((σ1.1 7 (((σ1.1 11 0) * 4) + j8)) - 1) * 4)), .int (nI ((((σ1.1 7 (((σ1.1 11 0) * 4) + j8)) - 1) * 4) + (σ30.1 10 ((σ1.1 7 (((σ1.1 11 0) * 4) + j8)) - 1) - 1)))] : List Value) = _; rw [pI_pred (t := (σ1.1 7 (((σ1.1 11 0) * 4) + j8))) (by omega)]) ?_
                refine k_aldN (q0 := 29) (t0 := 0) hx hb hK hP rfl rfl (by omega) (by decide) d_Mod_take_131 ?_
                refine k_addN hx hb d_Mod_take_132 ?_
                refine k_geN (tgt := 158) (by omega) (by omega) hx hb d_Mod_take_133 (by decide) (fun _ => ?_) (fun h9 => absurd h9 (by omega))
                refine lv_aload_n hx hb d_Mod_take_158 rfl (lv_at hl 3 rfl) ?_
                refine va_get (D := D) (ci := nMod) (v := .ref (ad 27)) (C := R_Mod) (T := T_Mod) (N := 15) hx hb hts i_Mod hown hK hP 17 rfl rfl 10 (by decide) (hts _ tw_665) (fun _ h9 => h9) rfl d_Mod_take_159 ?_
                refine lv_iload hx hb d_Mod_take_162 (lv_at hl 1 rfl) ?_
                refine k_st (st' := [.int (nI (((rwk σ1 j19 2).1) - 1)), .ref (ad 27)]) (by show ([.int (pI ((rwk σ1 j19 2).1)), .ref (ad 27)] : List Value) = _; rw [pI_pred (t := ((rwk σ1 j19 2).1)) (by omega)]) ?_
                refine k_aldI (q0 := 27) (t0 := 0) hx hb hK hP rfl rfl (by omega) (by decide) d_Mod_take_164 ?_
                exact k_retWI hx hb hr hlocks d_Mod_take_165 hP hD hS (by rw [e0]; subst eσ33 eσ32 eσ30 eσ26; first | rfl | (simp [rs_take, inn, rqn, fin, rOkV, rz_take, hq7, hq18, h25, h27, h29, beq_false_of_ne h25, beq_false_of_ne h27, beq_false_of_ne h29, bne_iff_ne.mpr h25, bne_iff_ne.mpr h27, bne_iff_ne.mpr h29]; done) | (simp [rs_take, inn, rqn, fin, rOkV, rz_take, hq7, hq18, h25, h27, h29, beq_false_of_ne h25, beq_false_of_ne h27, beq_false_of_ne h29, bne_iff_ne.mpr h25, bne_iff_ne.mpr h27, bne_iff_ne.mpr h29]; rfl) | (simp [rs_take, inn, rqn, fin, rOkV, rz_take, hq7, hq18, h25, h27, h29, beq_false_of_ne h25, beq_false_of_ne h27, beq_false_of_ne h29, bne_iff_ne.mpr h25, bne_iff_ne.mpr h27, bne_iff_ne.mpr h29]; done) | (simp [rs_take, inn, rqn, fin, rOkV, rz_take, hq7, hq18, h25, h27, h29, beq_false_of_ne h25, beq_false_of_ne h27, beq_false_of_ne h29, bne_iff_ne.mpr h25, bne_iff_ne.mpr h27, bne_iff_ne.mpr h29]; rfl) | (simp only [rs_take, inn, rqn, fin, rOkV, rz_take, hq7, hq18, h25, h27, h29, beq_false_of_ne h25, beq_false_of_ne h27, beq_false_of_ne h29, bne_iff_ne.mpr h25, bne_iff_ne.mpr h27, bne_iff_ne.mpr h29]; rfl))
              | succ n ih =>
                intro i hi0 hi H locs ls hP hD hS hl
                have hlt : i < (σ30.1 10 ((σ1.1 7 (((σ1.1 11 0) * 4) + j8)) - 1) - 1) := by omega
                obtain ⟨σ34, eσ34⟩ : ∃ z : kS, z = (sh σ32 ((σ1.1 7 (((σ1.1 11 0) * 4) + j8)) - 1) i) := ⟨_, rfl⟩
                rw [← eσ34] at hP hD
                have hv : σ34.1 10 ((σ1.1 7 (((σ1.1 11 0) * 4) + j8)) - 1) = σ30.1 10 ((σ1.1 7 (((σ1.1 11 0) * 4) + j8)) - 1) - 1 := by rw [eσ34, sh_1, eσ32, st_get]
                refine lv_iload hx hb d_Mod_take_121 (lv_at hl 0 rfl) ?_
                refine lv_iconst (v := (nI 4)) hx hb d_Mod_take_123 (by decide) ?_
                refine lv_iload_n hx hb d_Mod_take_124 rfl (lv_at hl 2 rfl) ?_
                refine k_st (st' := [.int (nI ((σ1.1 7 (((σ1.1 11 0) * 4) + j8)) - 1)), .int (nI 4), .int (nI ((((σ1.1 7 (((σ1.1 11 0) * 4) + j8)) - 1) * 4) + i))]) (by show ([.int (pI (σ1.1 7 (((σ1.1 11 0) * 4) + j8))), .int (nI 4), .int (nI ((((σ1.1 7 (((σ1.1 11 0) * 4) + j8)) - 1) * 4) + i))] : List Value) = _; rw [pI_pred (t := (σ1.1 7 (((σ1.1 11 0) * 4) + j8))) (by omega)]) ?_
                refine k_mulC hx hb d_Mod_take_125 ?_
                refine lv_aload_n hx hb d_Mod_take_126 rfl (lv_at hl 3 rfl) ?_
                refine va_get (D := D) (ci := nMod) (v := .ref (ad 29)) (C := R_Mod) (T := T_Mod) (N := 15) hx hb hts i_Mod hown hK hP 17 rfl rfl 12 (by decide) (hts _ tw_667) (fun _ h9 => h9) rfl d_Mod_take_127 ?_
                refine lv_iload_n hx hb d_Mod_take_130 rfl (lv_at hl 2 rfl) ?_
                refine k_st (st' := [.int (nI ((σ1.1 7 (((σ1.1 11 0) * 4) + j8)) - 1)), .ref (ad 29), .int (nI (((σ1.1 7 (((σ1.1 11 0) * 4) + j8)) - 1) * 4)), .int (nI ((((σ1.1 7 (((σ1.1 11 0) * 4) + j8)) - 1) * 4) + i))]) (by show ([.int (pI (σ1.1 7 (((σ1.1 11 0) * 4) + j8))), .ref (ad 29), .int (nI (((σ1.1 7 (((σ1.1 11 0) * 4) + j8)) - 1) * 4)), .int (nI ((((σ1.1 7 (((σ1.1 11 0) * 4) + j8)) - 1) * 4) + i))] : List Value) = _; rw [pI_pred (t := (σ1.1 7 (((σ1.1 11 0) * 4) + j8))) (by omega)]) ?_
                refine k_aldN (q0 := 29) (t0 := 0) hx hb hK hP rfl rfl (by omega) (by decide) d_Mod_take_131 ?_
                refine k_addN hx hb d_Mod_take_132 ?_
                refine k_geN (tgt := 158) (by omega) (by omega) hx hb d_Mod_take_133 (by decide) (fun h9 => absurd h9 (by omega)) (fun _ => ?_)
                refine lv_aload_n hx hb d_Mod_take_136 rfl (lv_at hl 3 rfl) ?_
                refine va_get (D := D) (ci := nMod) (v := .ref (ad 28)) (C := R_Mod) (T := T_Mod) (N := 15) hx hb hts i_Mod hown hK hP 17 rfl rfl 11 (by decide) (hts _ tw_666) (fun _ h9 => h9) rfl d_Mod_take_137 ?_
                refine lv_iload hx hb d_Mod_take_140 (lv_at hl 0 rfl) ?_
                refine lv_aload_n hx hb d_Mod_take_142 rfl (lv_at hl 3 rfl) ?_
                refine va_get (D := D) (ci := nMod) (v := .ref (ad 28)) (C := R_Mod) (T := T_Mod) (N := 15) hx hb hts i_Mod hown hK hP 17 rfl rfl 11 (by decide) (hts _ tw_666) (fun _ h9 => h9) rfl d_Mod_take_143 ?_
                refine lv_iload hx hb d_Mod_take_146 (lv_at hl 0 rfl) ?_
                refine lv_iconst (v := (nI 1)) hx hb d_Mod_take_148 (by decide) ?_
                refine k_addN hx hb d_Mod_take_149 ?_
                refine k_aldI (q0 := 28) (t0 := 0) hx hb hK hP rfl rfl (by omega) (by decide) d_Mod_take_150 ?_
                refine k_astI (q0 := 28) (t0 := 0) hx hb hK hP hD hS rfl rfl (by omega) (by decide) d_Mod_take_151 (fun H locs hP hD hS => ?_)
                obtain ⟨σ35, eσ35⟩ : ∃ z : kS, z = (sw σ34 1 ((((σ1.1 7 (((σ1.1 11 0) * 4) + j8)) - 1) * 4) + i) (σ34.2 1 (((((σ1.1 7 (((σ1.1 11 0) * 4) + j8)) - 1) * 4) + i) + 1))) := ⟨_, rfl⟩
                have hP : va_P D vwCl (wX ad cI κ o σ35) H := by rw [eσ35]; exact hP
                have hD : va_D (kA s0) (wX ad cI κ o σ35) := by rw [eσ35]; exact hD
                refine lv_iinc (v := (nI (((((σ1.1 7 (((σ1.1 11 0) * 4) + j8)) - 1) * 4) + i) + 1))) (lv' := [(5, .int (nI (((((σ1.1 7 (((σ1.1 11 0) * 4) + j8)) - 1) * 4) + i) + 1))), (4, .int (pI ((rwk σ1 j19 2).1))), (3, .int (pI (σ1.1 7 (((σ1.1 11 0) * 4) + j8)))), (0, .ref (ad 17)), (1, .int (nI j8)), (2, .int (nI j19))]) hx hb d_Mod_take_152 hl (k := 0) rfl (nI_1 _) (by decide) rfl (fun ls hl => ?_)
                refine lv_goto (tgt := 121) hx hb d_Mod_take_155 (by decide) ?_
                exact ih (i + 1) (by omega) (by omega) H locs ls (by unfold sh; rw [← eσ34, ← eσ35]; exact hP) (by unfold sh; rw [← eσ34, ← eσ35]; exact hD) hS (by exact lv_sub hl [0, 1, 2, 3, 4, 5] rfl)
            exact L ((σ30.1 10 ((σ1.1 7 (((σ1.1 11 0) * 4) + j8)) - 1) - 1) - 0) 0 (by omega) (by omega) H _ ls hP hD hS (lv_sub hl [0, 1, 2, 3, 4, 5] rfl)
          · refine lv_aload_n hx hb d_Mod_take_85 rfl (lv_at hl 2 rfl) ?_
            refine lv_iconst (v := (nI 4)) hx hb d_Mod_take_86 (by decide) ?_
            refine k_callW (k_atV (As := [.int (nI 4)]) hx hb hown hE.1 (K0.w tw_721) (hts _ tw_718) (hts _ tw_720) (hts _ tw_9020) (hts _ tw_5) (by decide) np_Mod_raise (va_recv hK hP (ci := nMod) (q0 := 17) rfl rfl) rfl d_Mod_take_87) (c_Mod_raise K0 ad κ o σ26 (nI 4)) (hl.1.trans hml.symm) (Nat.le_of_ble_eq_true rfl) ⟨Nat.le_of_ble_eq_true rfl, Nat.le_of_ble_eq_true rfl, Nat.le_of_ble_eq_true rfl, Nat.le_of_ble_eq_true rfl⟩ (fun U hU hW => ⟨hE.go hW hU hS, by rw [hU]; exact hP, hD⟩) hS (fun H locs hP hD hS => ?_)
            obtain ⟨σ36, eσ36⟩ : ∃ z : kS, z = (sw σ26 2 0 (nI 4)) := ⟨_, rfl⟩
            have hP : va_P D vwCl (wX ad cI κ o σ36) H := by rw [eσ36]; exact hP
            have hD : va_D (kA s0) (wX ad cI κ o σ36) := by rw [eσ36]; exact hD
            have hwσ36 : σ36.1 = σ1.1 := by rw [eσ36]; exact hw1
            exact k_retWI hx hb hr hlocks d_Mod_take_90 hP hD hS (by rw [e0]; subst eσ36 eσ26; first | rfl | (simp [rs_take, inn, rqn, fin, rOkV, rz_take, hq7, hq18, h25, h27, h29, beq_false_of_ne h25, beq_false_of_ne h27, bne_iff_ne.mpr h25, bne_iff_ne.mpr h27]; done) | (simp [rs_take, inn, rqn, fin, rOkV, rz_take, hq7, hq18, h25, h27, h29, beq_false_of_ne h25, beq_false_of_ne h27, bne_iff_ne.mpr h25, bne_iff_ne.mpr h27]; rfl) | (simp [rs_take, inn, rqn, fin, rOkV, rz_take, hq7, hq18, h25, h27, beq_iff_eq.mpr h29, kbne h29, beq_false_of_ne h25, beq_false_of_ne h27, bne_iff_ne.mpr h25, bne_iff_ne.mpr h27]; done) | (simp [rs_take, inn, rqn, fin, rOkV, rz_take, hq7, hq18, h25, h27, beq_iff_eq.mpr h29, kbne h29, beq_false_of_ne h25, beq_false_of_ne h27, bne_iff_ne.mpr h25, bne_iff_ne.mpr h27]; rfl) | (simp only [rs_take, inn, rqn, fin, rOkV, rz_take, hq7, hq18, h25, h27, h29, beq_false_of_ne h25, beq_false_of_ne h27, bne_iff_ne.mpr h25, bne_iff_ne.mpr h27]; rfl))
        · refine lv_aload_n hx hb d_Mod_take_67 rfl (lv_at hl 2 rfl) ?_
          refine lv_aload_n hx hb d_Mod_take_68 rfl (lv_at hl 2 rfl) ?_
          refine va_get (D := D) (ci := nMod) (v := .int (σ26.2 2 1)) (C := R_Mod) (T := T_Mod) (N := 15) hx hb hts i_Mod hown hK hP 17 rfl rfl 14 (by decide) (hts _ tw_669) (fun _ h9 => h9) rfl d_Mod_take_69 ?_
          refine k_callW (k_atV (As := [.int (σ26.2 2 1)]) hx hb hown hE.1 (K0.w tw_721) (hts _ tw_718) (hts _ tw_720) (hts _ tw_9020) (hts _ tw_5) (by decide) np_Mod_raise (va_recv hK hP (ci := nMod) (q0 := 17) rfl rfl) rfl d_Mod_take_72) (c_Mod_raise K0 ad κ o σ26 (σ26.2 2 1)) (hl.1.trans hml.symm) (Nat.le_of_ble_eq_true rfl) ⟨Nat.le_of_ble_eq_true rfl, Nat.le_of_ble_eq_true rfl, Nat.le_of_ble_eq_true rfl, Nat.le_of_ble_eq_true rfl⟩ (fun U hU hW => ⟨hE.go hW hU hS, by rw [hU]; exact hP, hD⟩) hS (fun H locs hP hD hS => ?_)
          obtain ⟨σ37, eσ37⟩ : ∃ z : kS, z = (sw σ26 2 0 (σ26.2 2 1)) := ⟨_, rfl⟩
          have hP : va_P D vwCl (wX ad cI κ o σ37) H := by rw [eσ37]; exact hP
          have hD : va_D (kA s0) (wX ad cI κ o σ37) := by rw [eσ37]; exact hD
          have hwσ37 : σ37.1 = σ1.1 := by rw [eσ37]; exact hw1
          exact k_retWI hx hb hr hlocks d_Mod_take_75 hP hD hS (by rw [e0]; subst eσ37 eσ26; first | rfl | (simp [rs_take, inn, rqn, fin, rOkV, rz_take, hq7, hq18, h25, h27, beq_false_of_ne h25, bne_iff_ne.mpr h25]; done) | (simp [rs_take, inn, rqn, fin, rOkV, rz_take, hq7, hq18, h25, h27, beq_false_of_ne h25, bne_iff_ne.mpr h25]; rfl) | (simp [rs_take, inn, rqn, fin, rOkV, rz_take, hq7, hq18, h25, beq_iff_eq.mpr h27, kbne h27, beq_false_of_ne h25, bne_iff_ne.mpr h25]; done) | (simp [rs_take, inn, rqn, fin, rOkV, rz_take, hq7, hq18, h25, beq_iff_eq.mpr h27, kbne h27, beq_false_of_ne h25, bne_iff_ne.mpr h25]; rfl) | (simp only [rs_take, inn, rqn, fin, rOkV, rz_take, hq7, hq18, h25, h27, beq_false_of_ne h25, bne_iff_ne.mpr h25]; rfl))
      · refine lv_aload_n hx hb d_Mod_take_48 rfl (lv_at hl 1 rfl) ?_
        refine lv_iconst (v := (nI 2)) hx hb d_Mod_take_49 (by decide) ?_
        refine k_callW (k_atV (As := [.int (nI 2)]) hx hb hown hE.1 (K0.w tw_721) (hts _ tw_718) (hts _ tw_720) (hts _ tw_9020) (hts _ tw_5) (by decide) np_Mod_raise (va_recv hK hP (ci := nMod) (q0 := 17) rfl rfl) rfl d_Mod_take_50) (c_Mod_raise K0 ad κ o σ1 (nI 2)) (hl.1.trans hml.symm) (Nat.le_of_ble_eq_true rfl) ⟨Nat.le_of_ble_eq_true rfl, Nat.le_of_ble_eq_true rfl, Nat.le_of_ble_eq_true rfl, Nat.le_of_ble_eq_true rfl⟩ (fun U hU hW => ⟨hE.go hW hU hS, by rw [hU]; exact hP, hD⟩) hS (fun H locs hP hD hS => ?_)
        obtain ⟨σ38, eσ38⟩ : ∃ z : kS, z = (sw σ1 2 0 (nI 2)) := ⟨_, rfl⟩
        have hP : va_P D vwCl (wX ad cI κ o σ38) H := by rw [eσ38]; exact hP
        have hD : va_D (kA s0) (wX ad cI κ o σ38) := by rw [eσ38]; exact hD
        have hwσ38 : σ38.1 = σ1.1 := by rw [eσ38]; exact rfl
        exact k_retWI hx hb hr hlocks d_Mod_take_53 hP hD hS (by rw [e0]; subst eσ38; first | rfl | (simp [rs_take, inn, rqn, fin, rOkV, rz_take, hq7, hq18, h25]; done) | (simp [rs_take, inn, rqn, fin, rOkV, rz_take, hq7, hq18, h25]; rfl) | (simp [rs_take, inn, rqn, fin, rOkV, rz_take, hq7, hq18, beq_iff_eq.mpr h25, kbne h25]; done) | (simp [rs_take, inn, rqn, fin, rOkV, rz_take, hq7, hq18, beq_iff_eq.mpr h25, kbne h25]; rfl) | (simp only [rs_take, inn, rqn, fin, rOkV, rz_take, hq7, hq18, h25]; rfl))
set_option maxHeartbeats 4000000 in
set_option maxRecDepth 100000 in
theorem c_Mod_send {l : Launch} {s0 : State} {a0 : Array Value} {D : va_G} {cI cL : ClassId} (K0 : k0 l s0 a0 D cI cL) (ad : Nat → Nat) (κ : kS) (o : va_W) (σ : kS) (x : Int32) (y : Int32) (ok : kOr σ) (hto : ∀ q, q < 6 → σ.1 4 q = 4 → rfe σ q (σ.1 8 q) ≠ 0) : kMet l y_Mod_send (Cond.code y_Mod_send b_Mod_send 6 (some .int)) (rmL 2) [.ref (ad 17), .int x, .int y] (kPre D vwCl s0 (wX ad cI κ o) σ) (.ok (fin (t0 σ) (rs_send (t0 σ) x y))) (kBw D vwCl s0 (wX ad cI κ o)) := by
  refine k_of (by decide) (Nat.le_of_ble_eq_true rfl) ?_
  intro p e9 s m below meth c hx hb hr hlocks hown hml hex hpre ls hl
  obtain ⟨hE, hP, hD⟩ := hpre
  obtain ⟨hts, hK⟩ := K0.at (args := ([.ref (ad 17), .int x, .int y] : List Value).toArray) hE
  have hl : lv_has ls 6 [(0, .ref (ad 17)), (1, .int x), (2, .int y)] := hl
  have hS : va_S (kA s0) s.heap s.heap [] := va_S.rf
  refine lv_aload_n hx hb d_Mod_send_0 rfl (lv_at hl 0 rfl) ?_
  refine lv_iconst (v := (nI 0)) hx hb d_Mod_send_1 (by decide) ?_
  refine va_put (D := D) (ci := nMod) (v := .int (nI 0)) (ty := .int) (C := R_Mod) (T := T_Mod) (N := 15) hx hb hts i_Mod ty_Mod ty_Mod_ok nm_Mod hown hK hP hD hS 17 rfl rfl 0 (by decide) (hts _ tw_655) (fun _ h9 => h9) rfl (by decide +kernel) rfl rfl (Nat.le_of_ble_eq_true rfl) d_Mod_send_2 (fun H locs hP hD hS => ?_)
  obtain ⟨σ1, eσ1⟩ : ∃ z : kS, z = (sw σ 2 0 (nI 0)) := ⟨_, rfl⟩
  have hP : va_P D vwCl (wX ad cI κ o σ1) H := by rw [eσ1]; exact hP
  have hD : va_D (kA s0) (wX ad cI κ o σ1) := by rw [eσ1]; exact hD
  have e0 : t0 σ = σ1 := eσ1.symm
  have ok1 : kOr σ1 := by rw [eσ1]; exact ok
  obtain ⟨o1, o2, o3, o4, o5, o6, o7, o8, o10, o0, ⟨oc1, oc2⟩, oc3, or6⟩ := id ok1
  have hr0 : σ1.1 6 (σ1.1 11 0) ≠ 0 := or6 _ oc2 (by omega)
  have hr1 : σ1.1 6 (σ1.1 11 0) < 21 := o6 _ oc2
  have hto1 : ∀ q, q < 6 → σ1.1 4 q = 4 → rfe σ1 q (σ1.1 8 q) ≠ 0 := by rw [eσ1]; exact hto
  refine lv_iload_n hx hb d_Mod_send_5 rfl (lv_at hl 1 rfl) ?_
  rcases hq2 : rg x 1 5 with _ | j3
  · refine k_callR (k_atS (As := [.int x]) hx hb hown hE.1 (K0.w tw_711) rfl k_w9 (hts _ tw_709) (hts _ tw_710) (hts _ tw_5) (by decide) np_Mod_isProcess rfl d_Mod_send_6) (kz_n hq2 (c_Mod_isProcess K0 ad κ o σ1 x)) (hl.1.trans hml.symm) (Nat.le_of_ble_eq_true rfl) ⟨Nat.le_of_ble_eq_true rfl, Nat.le_of_ble_eq_true rfl, Nat.le_of_ble_eq_true rfl, Nat.le_of_ble_eq_true rfl⟩ (fun U hU hW => ⟨hE.go hW hU hS, by rw [hU]; exact hP, hD⟩) ?_
    refine k_if0 (tgt := 22) (by decide) hx hb d_Mod_send_9 (by decide) (fun _ => ?_) (fun h9 => absurd h9 (by decide))
    refine lv_aload_n hx hb d_Mod_send_22 rfl (lv_at hl 0 rfl) ?_
    refine lv_iconst (v := (nI 1)) hx hb d_Mod_send_23 (by decide) ?_
    refine k_callW (k_atV (As := [.int (nI 1)]) hx hb hown hE.1 (K0.w tw_721) (hts _ tw_718) (hts _ tw_720) (hts _ tw_9020) (hts _ tw_5) (by decide) np_Mod_raise (va_recv hK hP (ci := nMod) (q0 := 17) rfl rfl) rfl d_Mod_send_24) (c_Mod_raise K0 ad κ o σ1 (nI 1)) (hl.1.trans hml.symm) (Nat.le_of_ble_eq_true rfl) ⟨Nat.le_of_ble_eq_true rfl, Nat.le_of_ble_eq_true rfl, Nat.le_of_ble_eq_true rfl, Nat.le_of_ble_eq_true rfl⟩ (fun U hU hW => ⟨hE.go hW hU hS, by rw [hU]; exact hP, hD⟩) hS (fun H locs hP hD hS => ?_)
    obtain ⟨σ7, eσ7⟩ : ∃ z : kS, z = (sw σ1 2 0 (nI 1)) := ⟨_, rfl⟩
    have hP : va_P D vwCl (wX ad cI κ o σ7) H := by rw [eσ7]; exact hP
    have hD : va_D (kA s0) (wX ad cI κ o σ7) := by rw [eσ7]; exact hD
    have hwσ7 : σ7.1 = σ1.1 := by rw [eσ7]; exact rfl
    exact k_retWI hx hb hr hlocks d_Mod_send_27 hP hD hS (by rw [e0]; (try rw [pI_pred (by omega)]); subst eσ7; first | rfl | (simp [rs_send, inn, rqn, fin, rOkV, hq2]; done) | (simp [rs_send, inn, rqn, fin, rOkV, hq2]; rfl) | (simp [rs_send, inn, rqn, fin, rOkV, hq2]; done) | (simp [rs_send, inn, rqn, fin, rOkV, hq2]; rfl) | (simp only [rs_send, inn, rqn, fin, rOkV, hq2]; rfl))
  · refine k_callR (k_atS (As := [.int x]) hx hb hown hE.1 (K0.w tw_711) rfl k_w9 (hts _ tw_709) (hts _ tw_710) (hts _ tw_5) (by decide) np_Mod_isProcess rfl d_Mod_send_6) (kz_s hq2 (c_Mod_isProcess K0 ad κ o σ1 x)) (hl.1.trans hml.symm) (Nat.le_of_ble_eq_true rfl) ⟨Nat.le_of_ble_eq_true rfl, Nat.le_of_ble_eq_true rfl, Nat.le_of_ble_eq_true rfl, Nat.le_of_ble_eq_true rfl⟩ (fun U hU hW => ⟨hE.go hW hU hS, by rw [hU]; exact hP, hD⟩) ?_
    obtain ⟨rfl, ha4, hb_5, hc_6⟩ := rg_some hq2
    refine k_if0 (tgt := 22) (by decide) hx hb d_Mod_send_9 (by decide) (fun h9 => absurd h9 (by decide)) (fun _ => ?_)
    refine lv_iload_n hx hb d_Mod_send_12 rfl (lv_at hl 2 rfl) ?_
    refine lv_iconst (v := (nI 0)) hx hb d_Mod_send_13 (by decide) ?_
    refine lv_bipush (v := (nI 63)) hx hb d_Mod_send_14 (by decide) ?_
    rcases hq13 : rg y 0 63 with _ | j14
    · refine k_callR (k_atS (As := [.int y, .int (nI 0), .int (nI 63)]) hx hb hown hE.1 (K0.w tw_714) rfl k_w9 (hts _ tw_712) (hts _ tw_713) (hts _ tw_5) (by decide) np_Mod_in rfl d_Mod_send_16) (kz_n hq13 (c_Mod_in K0 ad κ o σ1 y 0 63 (by decide) (by decide))) (hl.1.trans hml.symm) (Nat.le_of_ble_eq_true rfl) ⟨Nat.le_of_ble_eq_true rfl, Nat.le_of_ble_eq_true rfl, Nat.le_of_ble_eq_true rfl, Nat.le_of_ble_eq_true rfl⟩ (fun U hU hW => ⟨hE.go hW hU hS, by rw [hU]; exact hP, hD⟩) ?_
      refine k_ifN0 (tgt := 28) (by decide) hx hb d_Mod_send_19 (by decide) (fun h9 => absurd h9 (by decide)) (fun _ => ?_)
      refine lv_aload_n hx hb d_Mod_send_22 rfl (lv_at hl 0 rfl) ?_
      refine lv_iconst (v := (nI 1)) hx hb d_Mod_send_23 (by decide) ?_
      refine k_callW (k_atV (As := [.int (nI 1)]) hx hb hown hE.1 (K0.w tw_721) (hts _ tw_718) (hts _ tw_720) (hts _ tw_9020) (hts _ tw_5) (by decide) np_Mod_raise (va_recv hK hP (ci := nMod) (q0 := 17) rfl rfl) rfl d_Mod_send_24) (c_Mod_raise K0 ad κ o σ1 (nI 1)) (hl.1.trans hml.symm) (Nat.le_of_ble_eq_true rfl) ⟨Nat.le_of_ble_eq_true rfl, Nat.le_of_ble_eq_true rfl, Nat.le_of_ble_eq_true rfl, Nat.le_of_ble_eq_true rfl⟩ (fun U hU hW => ⟨hE.go hW hU hS, by rw [hU]; exact hP, hD⟩) hS (fun H locs hP hD hS => ?_)
      obtain ⟨σ18, eσ18⟩ : ∃ z : kS, z = (sw σ1 2 0 (nI 1)) := ⟨_, rfl⟩
      have hP : va_P D vwCl (wX ad cI κ o σ18) H := by rw [eσ18]; exact hP
      have hD : va_D (kA s0) (wX ad cI κ o σ18) := by rw [eσ18]; exact hD
      have hwσ18 : σ18.1 = σ1.1 := by rw [eσ18]; exact rfl
      exact k_retWI hx hb hr hlocks d_Mod_send_27 hP hD hS (by rw [e0]; (try rw [pI_pred (by omega)]); subst eσ18; first | rfl | (simp [rs_send, inn, rqn, fin, rOkV, hq2, hq13]; done) | (simp [rs_send, inn, rqn, fin, rOkV, hq2, hq13]; rfl) | (simp [rs_send, inn, rqn, fin, rOkV, hq2, hq13]; done) | (simp [rs_send, inn, rqn, fin, rOkV, hq2, hq13]; rfl) | (simp only [rs_send, inn, rqn, fin, rOkV, hq2, hq13]; rfl))
    · refine k_callR (k_atS (As := [.int y, .int (nI 0), .int (nI 63)]) hx hb hown hE.1 (K0.w tw_714) rfl k_w9 (hts _ tw_712) (hts _ tw_713) (hts _ tw_5) (by decide) np_Mod_in rfl d_Mod_send_16) (kz_s hq13 (c_Mod_in K0 ad κ o σ1 y 0 63 (by decide) (by decide))) (hl.1.trans hml.symm) (Nat.le_of_ble_eq_true rfl) ⟨Nat.le_of_ble_eq_true rfl, Nat.le_of_ble_eq_true rfl, Nat.le_of_ble_eq_true rfl, Nat.le_of_ble_eq_true rfl⟩ (fun U hU hW => ⟨hE.go hW hU hS, by rw [hU]; exact hP, hD⟩) ?_
      obtain ⟨rfl, ha15, hb_16, hc_17⟩ := rg_some hq13
      refine k_ifN0 (tgt := 28) (by decide) hx hb d_Mod_send_19 (by decide) (fun _ => ?_) (fun h9 => absurd h9 (by decide))
      refine lv_aload_n hx hb d_Mod_send_28 rfl (lv_at hl 0 rfl) ?_
      refine va_get (D := D) (ci := nMod) (v := .ref (ad 18)) (C := R_Mod) (T := T_Mod) (N := 15) hx hb hts i_Mod hown hK hP 17 rfl rfl 1 (by decide) (hts _ tw_656) (fun _ h9 => h9) rfl d_Mod_send_29 ?_
      refine lv_iload_n hx hb d_Mod_send_32 rfl (lv_at hl 1 rfl) ?_
      refine k_aldN (q0 := 18) (t0 := 0) hx hb hK hP rfl rfl (by omega) (by decide) d_Mod_send_33 ?_
      have ho19 := o4 j3 (by omega)
      refine lv_iconst (v := (nI 4)) hx hb d_Mod_send_34 (by decide) ?_
      refine k_eqN (tgt := 44) (Nat.lt_of_lt_of_le (ok1.b4 _ (by omega)) (by decide)) (by omega) hx hb d_Mod_send_35 (by decide) (fun h20 => ?_) (fun h20 => ?_)
      · refine lv_aload_n hx hb d_Mod_send_44 rfl (lv_at hl 0 rfl) ?_
        refine lv_aload_n hx hb d_Mod_send_45 rfl (lv_at hl 0 rfl) ?_
        refine va_get (D := D) (ci := nMod) (v := .int (nI (σ1.1 11 0))) (C := R_Mod) (T := T_Mod) (N := 15) hx hb hts i_Mod hown hK hP 17 rfl rfl 13 (by decide) (hts _ tw_668) (fun _ h9 => h9) rfl d_Mod_send_46 ?_
        refine lv_iload_n hx hb d_Mod_send_49 rfl (lv_at hl 2 rfl) ?_
        refine k_callR (k_atV (As := [.int (nI (σ1.1 11 0)), .int (nI j14)]) hx hb hown hE.1 (K0.w tw_825) (hts _ tw_822) (hts _ tw_824) (hts _ tw_9033) (hts _ tw_5) (by decide) np_Mod_frameEntry (va_recv hK hP (ci := nMod) (q0 := 17) rfl rfl) rfl d_Mod_send_50) (c_Mod_frameEntry K0 ad κ o σ1 (σ1.1 11 0) j14 (by omega) (by omega) (by omega) (by omega) ok1.b2) (hl.1.trans hml.symm) (Nat.le_of_ble_eq_true rfl) ⟨Nat.le_of_ble_eq_true rfl, Nat.le_of_ble_eq_true rfl, Nat.le_of_ble_eq_true rfl, Nat.le_of_ble_eq_true rfl⟩ (fun U hU hW => ⟨hE.go hW hU hS, by rw [hU]; exact hP, hD⟩) ?_
        have hfe21 : rfe σ1 (σ1.1 11 0) j14 < 81 := rfe_lt o2 (by omega) (by omega)
        refine lv_istore_n (lv' := [(3, .int (pI (rfe σ1 (σ1.1 11 0) j14))), (0, .ref (ad 17)), (1, .int (nI j3)), (2, .int (nI j14))]) hx hb d_Mod_send_53 rfl hl (by decide) rfl (fun ls hl => ?_)
        refine lv_iload_n hx hb d_Mod_send_54 rfl (lv_at hl 0 rfl) ?_
        refine k_ltP0 (tgt := 67) (by omega) hx hb d_Mod_send_55 (by decide) (fun h22 => ?_) (fun h22 => ?_)
        · refine lv_aload_n hx hb d_Mod_send_67 rfl (lv_at hl 1 rfl) ?_
          refine lv_iconst (v := (nI 3)) hx hb d_Mod_send_68 (by decide) ?_
          refine k_callW (k_atV (As := [.int (nI 3)]) hx hb hown hE.1 (K0.w tw_721) (hts _ tw_718) (hts _ tw_720) (hts _ tw_9020) (hts _ tw_5) (by decide) np_Mod_raise (va_recv hK hP (ci := nMod) (q0 := 17) rfl rfl) rfl d_Mod_send_69) (c_Mod_raise K0 ad κ o σ1 (nI 3)) (hl.1.trans hml.symm) (Nat.le_of_ble_eq_true rfl) ⟨Nat.le_of_ble_eq_true rfl, Nat.le_of_ble_eq_true rfl, Nat.le_of_ble_eq_true rfl, Nat.le_of_ble_eq_true rfl⟩ (fun U hU hW => ⟨hE.go hW hU hS, by rw [hU]; exact hP, hD⟩) hS (fun H locs hP hD hS => ?_)
          obtain ⟨σ23, eσ23⟩ : ∃ z : kS, z = (sw σ1 2 0 (nI 3)) := ⟨_, rfl⟩
          have hP : va_P D vwCl (wX ad cI κ o σ23) H := by rw [eσ23]; exact hP
          have hD : va_D (kA s0) (wX ad cI κ o σ23) := by rw [eσ23]; exact hD
          have hwσ23 : σ23.1 = σ1.1 := by rw [eσ23]; exact rfl
          exact k_retWI hx hb hr hlocks d_Mod_send_72 hP hD hS (by rw [e0]; (try rw [pI_pred (by omega)]); subst eσ23; first | rfl | (simp [rs_send, inn, rqn, fin, rOkV, hq2, hq13, h20, h22]; done) | (simp [rs_send, inn, rqn, fin, rOkV, hq2, hq13, h20, h22]; rfl) | (simp [rs_send, inn, rqn, fin, rOkV, hq2, hq13, beq_iff_eq.mpr h20, beq_iff_eq.mpr h22, kbne h20, kbne h22]; done) | (simp [rs_send, inn, rqn, fin, rOkV, hq2, hq13, beq_iff_eq.mpr h20, beq_iff_eq.mpr h22, kbne h20, kbne h22]; rfl) | (simp only [rs_send, inn, rqn, fin, rOkV, hq2, hq13, h20, h22]; rfl))
        · refine lv_aload_n hx hb d_Mod_send_58 rfl (lv_at hl 1 rfl) ?_
          refine va_get (D := D) (ci := nMod) (v := .ref (ad 25)) (C := R_Mod) (T := T_Mod) (N := 15) hx hb hts i_Mod hown hK hP 17 rfl rfl 8 (by decide) (hts _ tw_663) (fun _ h9 => h9) rfl d_Mod_send_59 ?_
          refine lv_iload_n hx hb d_Mod_send_62 rfl (lv_at hl 0 rfl) ?_
          refine k_st (st' := [.int (nI ((rfe σ1 (σ1.1 11 0) j14) - 1)), .ref (ad 25)]) (by show ([.int (pI (rfe σ1 (σ1.1 11 0) j14)), .ref (ad 25)] : List Value) = _; rw [pI_pred (t := (rfe σ1 (σ1.1 11 0) j14)) (by omega)]) ?_
          refine k_aldP (q0 := 25) (t0 := 0) hx hb hK hP rfl rfl (by omega) (by decide) d_Mod_send_63 ?_
          have ho24 := o2 ((rfe σ1 (σ1.1 11 0) j14) - 1) (by omega)
          refine k_geP0 (tgt := 73) (ok1.b2 _ (by omega)) hx hb d_Mod_send_64 (by decide) (fun h25 => ?_) (fun h25 => ?_)
          · have hs6 := o6 j3 (by omega)
            have hs7 := or6 j3 (by omega) (by omega)
            refine lv_aload_n hx hb d_Mod_send_73 rfl (lv_at hl 1 rfl) ?_
            refine lv_iload_n hx hb d_Mod_send_74 rfl (lv_at hl 2 rfl) ?_
            refine lv_aload_n hx hb d_Mod_send_75 rfl (lv_at hl 1 rfl) ?_
            refine va_get (D := D) (ci := nMod) (v := .ref (ad 22)) (C := R_Mod) (T := T_Mod) (N := 15) hx hb hts i_Mod hown hK hP 17 rfl rfl 5 (by decide) (hts _ tw_660) (fun _ h9 => h9) rfl d_Mod_send_76 ?_
            refine lv_iload_n hx hb d_Mod_send_79 rfl (lv_at hl 2 rfl) ?_
            refine k_aldN (q0 := 22) (t0 := 0) hx hb hK hP rfl rfl (by omega) (by decide) d_Mod_send_80 ?_
            have ho26 := o8 j3 (by omega)
            refine k_callR (k_atV (As := [.int (nI j3), .int (nI (σ1.1 8 j3))]) hx hb hown hE.1 (K0.w tw_825) (hts _ tw_822) (hts _ tw_824) (hts _ tw_9033) (hts _ tw_5) (by decide) np_Mod_frameEntry (va_recv hK hP (ci := nMod) (q0 := 17) rfl rfl) rfl d_Mod_send_81) (c_Mod_frameEntry K0 ad κ o σ1 j3 (σ1.1 8 j3) (by omega) (by omega) (by omega) (by omega) ok1.b2) (hl.1.trans hml.symm) (Nat.le_of_ble_eq_true rfl) ⟨Nat.le_of_ble_eq_true rfl, Nat.le_of_ble_eq_true rfl, Nat.le_of_ble_eq_true rfl, Nat.le_of_ble_eq_true rfl⟩ (fun U hU hW => ⟨hE.go hW hU hS, by rw [hU]; exact hP, hD⟩) ?_
            have hfe27 : rfe σ1 j3 (σ1.1 8 j3) < 81 := rfe_lt o2 (by omega) (by omega)
            have hs8 := hto1 j3 (by omega) (by omega)
            refine lv_istore (lv' := [(4, .int (pI (rfe σ1 j3 (σ1.1 8 j3)))), (3, .int (pI (rfe σ1 (σ1.1 11 0) j14))), (0, .ref (ad 17)), (1, .int (nI j3)), (2, .int (nI j14))]) hx hb d_Mod_send_84 hl (by decide) rfl (fun ls hl => ?_)
            refine lv_aload_n hx hb d_Mod_send_86 rfl (lv_at hl 2 rfl) ?_
            refine va_get (D := D) (ci := nMod) (v := .ref (ad 25)) (C := R_Mod) (T := T_Mod) (N := 15) hx hb hts i_Mod hown hK hP 17 rfl rfl 8 (by decide) (hts _ tw_663) (fun _ h9 => h9) rfl d_Mod_send_87 ?_
            refine lv_iload_n hx hb d_Mod_send_90 rfl (lv_at hl 1 rfl) ?_
            refine k_st (st' := [.int (nI ((rfe σ1 (σ1.1 11 0) j14) - 1)), .ref (ad 25)]) (by show ([.int (pI (rfe σ1 (σ1.1 11 0) j14)), .ref (ad 25)] : List Value) = _; rw [pI_pred (t := (rfe σ1 (σ1.1 11 0) j14)) (by omega)]) ?_
            refine k_aldP (q0 := 25) (t0 := 0) hx hb hK hP rfl rfl (by omega) (by decide) d_Mod_send_91 ?_
            have ho28 := o2 ((rfe σ1 (σ1.1 11 0) j14) - 1) (by omega)
            refine lv_istore (lv' := [(5, .int (pI (σ1.1 2 ((rfe σ1 (σ1.1 11 0) j14) - 1)))), (4, .int (pI (rfe σ1 j3 (σ1.1 8 j3)))), (3, .int (pI (rfe σ1 (σ1.1 11 0) j14))), (0, .ref (ad 17)), (1, .int (nI j3)), (2, .int (nI j14))]) hx hb d_Mod_send_92 hl (by decide) rfl (fun ls hl => ?_)
            refine lv_aload_n hx hb d_Mod_send_94 rfl (lv_at hl 3 rfl) ?_
            refine va_get (D := D) (ci := nMod) (v := .ref (ad 25)) (C := R_Mod) (T := T_Mod) (N := 15) hx hb hts i_Mod hown hK hP 17 rfl rfl 8 (by decide) (hts _ tw_663) (fun _ h9 => h9) rfl d_Mod_send_95 ?_
            refine lv_iload hx hb d_Mod_send_98 (lv_at hl 1 rfl) ?_
            refine lv_iload hx hb d_Mod_send_100 (lv_at hl 0 rfl) ?_
            refine k_st (st' := [.int (pI (σ1.1 2 ((rfe σ1 (σ1.1 11 0) j14) - 1))), .int (nI ((rfe σ1 j3 (σ1.1 8 j3)) - 1)), .ref (ad 25)]) (by show ([.int (pI (σ1.1 2 ((rfe σ1 (σ1.1 11 0) j14) - 1))), .int (pI (rfe σ1 j3 (σ1.1 8 j3))), .ref (ad 25)] : List Value) = _; rw [pI_pred (t := (rfe σ1 j3 (σ1.1 8 j3))) (by omega)]) ?_
            refine k_astP (q0 := 25) (t0 := 0) hx hb hK hP hD hS rfl rfl (by omega) (by decide) d_Mod_send_102 (fun H locs hP hD hS => ?_)
            obtain ⟨σ29, eσ29⟩ : ∃ z : kS, z = (st σ1 2 ((rfe σ1 j3 (σ1.1 8 j3)) - 1) (σ1.1 2 ((rfe σ1 (σ1.1 11 0) j14) - 1))) := ⟨_, rfl⟩
            have hP : va_P D vwCl (wX ad cI κ o σ29) H := by rw [eσ29]; exact hP
            have hD : va_D (kA s0) (wX ad cI κ o σ29) := by rw [eσ29]; exact hD
            refine lv_aload_n hx hb d_Mod_send_103 rfl (lv_at hl 3 rfl) ?_
            refine va_get (D := D) (ci := nMod) (v := .ref (ad 26)) (C := R_Mod) (T := T_Mod) (N := 15) hx hb hts i_Mod hown hK hP 17 rfl rfl 9 (by decide) (hts _ tw_664) (fun _ h9 => h9) rfl d_Mod_send_104 ?_
            refine lv_iload hx hb d_Mod_send_107 (lv_at hl 1 rfl) ?_
            refine lv_aload_n hx hb d_Mod_send_109 rfl (lv_at hl 3 rfl) ?_
            refine va_get (D := D) (ci := nMod) (v := .ref (ad 26)) (C := R_Mod) (T := T_Mod) (N := 15) hx hb hts i_Mod hown hK hP 17 rfl rfl 9 (by decide) (hts _ tw_664) (fun _ h9 => h9) rfl d_Mod_send_110 ?_
            refine lv_iload_n hx hb d_Mod_send_113 rfl (lv_at hl 2 rfl) ?_
            refine k_st (st' := [.int (nI ((rfe σ1 (σ1.1 11 0) j14) - 1)), .ref (ad 26), .int (pI (rfe σ1 j3 (σ1.1 8 j3))), .ref (ad 26)]) (by show ([.int (pI (rfe σ1 (σ1.1 11 0) j14)), .ref (ad 26), .int (pI (rfe σ1 j3 (σ1.1 8 j3))), .ref (ad 26)] : List Value) = _; rw [pI_pred (t := (rfe σ1 (σ1.1 11 0) j14)) (by omega)]) ?_
            refine k_aldN (q0 := 26) (t0 := 0) hx hb hK hP rfl rfl (by omega) (by decide) d_Mod_send_114 ?_
            refine k_st (st' := [.int (nI (σ29.1 3 ((rfe σ1 (σ1.1 11 0) j14) - 1))), .int (nI ((rfe σ1 j3 (σ1.1 8 j3)) - 1)), .ref (ad 26)]) (by show ([.int (nI (σ29.1 3 ((rfe σ1 (σ1.1 11 0) j14) - 1))), .int (pI (rfe σ1 j3 (σ1.1 8 j3))), .ref (ad 26)] : List Value) = _; rw [pI_pred (t := (rfe σ1 j3 (σ1.1 8 j3))) (by omega)]) ?_
            refine k_astN (q0 := 26) (t0 := 0) hx hb hK hP hD hS rfl rfl (by omega) (by decide) d_Mod_send_115 (fun H locs hP hD hS => ?_)
            obtain ⟨σ30, eσ30⟩ : ∃ z : kS, z = (st σ29 3 ((rfe σ1 j3 (σ1.1 8 j3)) - 1) (σ29.1 3 ((rfe σ1 (σ1.1 11 0) j14) - 1))) := ⟨_, rfl⟩
            have hP : va_P D vwCl (wX ad cI κ o σ30) H := by rw [eσ30]; exact hP
            have hD : va_D (kA s0) (wX ad cI κ o σ30) := by rw [eσ30]; exact hD
            refine lv_aload_n hx hb d_Mod_send_116 rfl (lv_at hl 3 rfl) ?_
            refine va_get (D := D) (ci := nMod) (v := .ref (ad 25)) (C := R_Mod) (T := T_Mod) (N := 15) hx hb hts i_Mod hown hK hP 17 rfl rfl 8 (by decide) (hts _ tw_663) (fun _ h9 => h9) rfl d_Mod_send_117 ?_
            refine lv_iload_n hx hb d_Mod_send_120 rfl (lv_at hl 2 rfl) ?_
            refine lv_iconst (v := (pI 0)) hx hb d_Mod_send_121 (by decide) ?_
            refine k_st (st' := [.int (pI 0), .int (nI ((rfe σ1 (σ1.1 11 0) j14) - 1)), .ref (ad 25)]) (by show ([.int (pI 0), .int (pI (rfe σ1 (σ1.1 11 0) j14)), .ref (ad 25)] : List Value) = _; rw [pI_pred (t := (rfe σ1 (σ1.1 11 0) j14)) (by omega)]) ?_
            refine k_astP (q0 := 25) (t0 := 0) hx hb hK hP hD hS rfl rfl (by omega) (by decide) d_Mod_send_122 (fun H locs hP hD hS => ?_)
            obtain ⟨σ31, eσ31⟩ : ∃ z : kS, z = (st σ30 2 ((rfe σ1 (σ1.1 11 0) j14) - 1) 0) := ⟨_, rfl⟩
            have hP : va_P D vwCl (wX ad cI κ o σ31) H := by rw [eσ31]; exact hP
            have hD : va_D (kA s0) (wX ad cI κ o σ31) := by rw [eσ31]; exact hD
            refine lv_aload_n hx hb d_Mod_send_123 rfl (lv_at hl 3 rfl) ?_
            refine va_get (D := D) (ci := nMod) (v := .ref (ad 24)) (C := R_Mod) (T := T_Mod) (N := 15) hx hb hts i_Mod hown hK hP 17 rfl rfl 7 (by decide) (hts _ tw_662) (fun _ h9 => h9) rfl d_Mod_send_124 ?_
            refine lv_iload hx hb d_Mod_send_127 (lv_at hl 0 rfl) ?_
            refine lv_iload_n hx hb d_Mod_send_129 rfl (lv_at hl 4 rfl) ?_
            refine k_st (st' := [.int (nI j3), .int (nI ((σ1.1 2 ((rfe σ1 (σ1.1 11 0) j14) - 1)) - 1)), .ref (ad 24)]) (by show ([.int (nI j3), .int (pI (σ1.1 2 ((rfe σ1 (σ1.1 11 0) j14) - 1))), .ref (ad 24)] : List Value) = _; rw [pI_pred (t := (σ1.1 2 ((rfe σ1 (σ1.1 11 0) j14) - 1))) (by omega)]) ?_
            refine k_astN (q0 := 24) (t0 := 0) hx hb hK hP hD hS rfl rfl (by omega) (by decide) d_Mod_send_130 (fun H locs hP hD hS => ?_)
            obtain ⟨σ32, eσ32⟩ : ∃ z : kS, z = (st σ31 1 ((σ1.1 2 ((rfe σ1 (σ1.1 11 0) j14) - 1)) - 1) j3) := ⟨_, rfl⟩
            have hP : va_P D vwCl (wX ad cI κ o σ32) H := by rw [eσ32]; exact hP
            have hD : va_D (kA s0) (wX ad cI κ o σ32) := by rw [eσ32]; exact hD
            refine lv_aload_n hx hb d_Mod_send_131 rfl (lv_at hl 3 rfl) ?_
            refine va_get (D := D) (ci := nMod) (v := .ref (ad 18)) (C := R_Mod) (T := T_Mod) (N := 15) hx hb hts i_Mod hown hK hP 17 rfl rfl 1 (by decide) (hts _ tw_656) (fun _ h9 => h9) rfl d_Mod_send_132 ?_
            refine lv_iload_n hx hb d_Mod_send_135 rfl (lv_at hl 4 rfl) ?_
            refine lv_iconst (v := (nI 2)) hx hb d_Mod_send_136 (by decide) ?_
            refine k_astN (q0 := 18) (t0 := 0) hx hb hK hP hD hS rfl rfl (by omega) (by decide) d_Mod_send_137 (fun H locs hP hD hS => ?_)
            obtain ⟨σ33, eσ33⟩ : ∃ z : kS, z = (st σ32 4 j3 2) := ⟨_, rfl⟩
            have hP : va_P D vwCl (wX ad cI κ o σ33) H := by rw [eσ33]; exact hP
            have hD : va_D (kA s0) (wX ad cI κ o σ33) := by rw [eσ33]; exact hD
            refine lv_iload hx hb d_Mod_send_138 (lv_at hl 0 rfl) ?_
            exact k_retWI hx hb hr hlocks d_Mod_send_140 hP hD hS (by rw [e0]; (try rw [pI_pred (by omega)]); subst eσ33 eσ32 eσ31 eσ30 eσ29; first | rfl | (simp [rs_send, inn, rqn, fin, rOkV, hq2, hq13, h20, h22, h25, beq_false_of_ne h22, beq_false_of_ne h25, bne_iff_ne.mpr h22, bne_iff_ne.mpr h25]; done) | (simp [rs_send, inn, rqn, fin, rOkV, hq2, hq13, h20, h22, h25, beq_false_of_ne h22, beq_false_of_ne h25, bne_iff_ne.mpr h22, bne_iff_ne.mpr h25]; rfl) | (simp [rs_send, inn, rqn, fin, rOkV, hq2, hq13, h22, h25, beq_iff_eq.mpr h20, kbne h20, beq_false_of_ne h22, beq_false_of_ne h25, bne_iff_ne.mpr h22, bne_iff_ne.mpr h25]; done) | (simp [rs_send, inn, rqn, fin, rOkV, hq2, hq13, h22, h25, beq_iff_eq.mpr h20, kbne h20, beq_false_of_ne h22, beq_false_of_ne h25, bne_iff_ne.mpr h22, bne_iff_ne.mpr h25]; rfl) | (simp only [rs_send, inn, rqn, fin, rOkV, hq2, hq13, h20, h22, h25, beq_false_of_ne h22, beq_false_of_ne h25, bne_iff_ne.mpr h22, bne_iff_ne.mpr h25]; rfl))
          · refine lv_aload_n hx hb d_Mod_send_67 rfl (lv_at hl 1 rfl) ?_
            refine lv_iconst (v := (nI 3)) hx hb d_Mod_send_68 (by decide) ?_
            refine k_callW (k_atV (As := [.int (nI 3)]) hx hb hown hE.1 (K0.w tw_721) (hts _ tw_718) (hts _ tw_720) (hts _ tw_9020) (hts _ tw_5) (by decide) np_Mod_raise (va_recv hK hP (ci := nMod) (q0 := 17) rfl rfl) rfl d_Mod_send_69) (c_Mod_raise K0 ad κ o σ1 (nI 3)) (hl.1.trans hml.symm) (Nat.le_of_ble_eq_true rfl) ⟨Nat.le_of_ble_eq_true rfl, Nat.le_of_ble_eq_true rfl, Nat.le_of_ble_eq_true rfl, Nat.le_of_ble_eq_true rfl⟩ (fun U hU hW => ⟨hE.go hW hU hS, by rw [hU]; exact hP, hD⟩) hS (fun H locs hP hD hS => ?_)
            obtain ⟨σ34, eσ34⟩ : ∃ z : kS, z = (sw σ1 2 0 (nI 3)) := ⟨_, rfl⟩
            have hP : va_P D vwCl (wX ad cI κ o σ34) H := by rw [eσ34]; exact hP
            have hD : va_D (kA s0) (wX ad cI κ o σ34) := by rw [eσ34]; exact hD
            have hwσ34 : σ34.1 = σ1.1 := by rw [eσ34]; exact rfl
            exact k_retWI hx hb hr hlocks d_Mod_send_72 hP hD hS (by rw [e0]; (try rw [pI_pred (by omega)]); subst eσ34; first | rfl | (simp [rs_send, inn, rqn, fin, rOkV, hq2, hq13, h20, h22, h25, beq_false_of_ne h22, bne_iff_ne.mpr h22]; done) | (simp [rs_send, inn, rqn, fin, rOkV, hq2, hq13, h20, h22, h25, beq_false_of_ne h22, bne_iff_ne.mpr h22]; rfl) | (simp [rs_send, inn, rqn, fin, rOkV, hq2, hq13, h22, beq_iff_eq.mpr h20, beq_iff_eq.mpr h25, kbne h20, kbne h25, beq_false_of_ne h22, bne_iff_ne.mpr h22]; done) | (simp [rs_send, inn, rqn, fin, rOkV, hq2, hq13, h22, beq_iff_eq.mpr h20, beq_iff_eq.mpr h25, kbne h20, kbne h25, beq_false_of_ne h22, bne_iff_ne.mpr h22]; rfl) | (simp only [rs_send, inn, rqn, fin, rOkV, hq2, hq13, h20, h22, h25, beq_false_of_ne h22, bne_iff_ne.mpr h22]; rfl))
      · refine lv_aload_n hx hb d_Mod_send_38 rfl (lv_at hl 0 rfl) ?_
        refine lv_iconst (v := (nI 2)) hx hb d_Mod_send_39 (by decide) ?_
        refine k_callW (k_atV (As := [.int (nI 2)]) hx hb hown hE.1 (K0.w tw_721) (hts _ tw_718) (hts _ tw_720) (hts _ tw_9020) (hts _ tw_5) (by decide) np_Mod_raise (va_recv hK hP (ci := nMod) (q0 := 17) rfl rfl) rfl d_Mod_send_40) (c_Mod_raise K0 ad κ o σ1 (nI 2)) (hl.1.trans hml.symm) (Nat.le_of_ble_eq_true rfl) ⟨Nat.le_of_ble_eq_true rfl, Nat.le_of_ble_eq_true rfl, Nat.le_of_ble_eq_true rfl, Nat.le_of_ble_eq_true rfl⟩ (fun U hU hW => ⟨hE.go hW hU hS, by rw [hU]; exact hP, hD⟩) hS (fun H locs hP hD hS => ?_)
        obtain ⟨σ35, eσ35⟩ : ∃ z : kS, z = (sw σ1 2 0 (nI 2)) := ⟨_, rfl⟩
        have hP : va_P D vwCl (wX ad cI κ o σ35) H := by rw [eσ35]; exact hP
        have hD : va_D (kA s0) (wX ad cI κ o σ35) := by rw [eσ35]; exact hD
        have hwσ35 : σ35.1 = σ1.1 := by rw [eσ35]; exact rfl
        exact k_retWI hx hb hr hlocks d_Mod_send_43 hP hD hS (by rw [e0]; (try rw [pI_pred (by omega)]); subst eσ35; first | rfl | (simp [rs_send, inn, rqn, fin, rOkV, hq2, hq13, h20, beq_false_of_ne h20, bne_iff_ne.mpr h20]; done) | (simp [rs_send, inn, rqn, fin, rOkV, hq2, hq13, h20, beq_false_of_ne h20, bne_iff_ne.mpr h20]; rfl) | (simp [rs_send, inn, rqn, fin, rOkV, hq2, hq13, h20, beq_false_of_ne h20, bne_iff_ne.mpr h20]; done) | (simp [rs_send, inn, rqn, fin, rOkV, hq2, hq13, h20, beq_false_of_ne h20, bne_iff_ne.mpr h20]; rfl) | (simp only [rs_send, inn, rqn, fin, rOkV, hq2, hq13, h20, beq_false_of_ne h20, bne_iff_ne.mpr h20]; rfl))
set_option maxHeartbeats 4000000 in
set_option maxRecDepth 100000 in
theorem c_Mod_process {l : Launch} {s0 : State} {a0 : Array Value} {D : va_G} {cI cL : ClassId} (K0 : k0 l s0 a0 D cI cL) (ad : Nat → Nat) (κ : kS) (o : va_W) (σ : kS) (x : Int32) (y : Int32) (ok : kOr σ) : kMet l y_Mod_process (Cond.code y_Mod_process b_Mod_process 3 (some .int)) (rmL 2) [.ref (ad 17), .int x, .int y] (kPre D vwCl s0 (wX ad cI κ o) σ) (.ok (fin (t0 σ) (rs_process (t0 σ) x y))) (kBw D vwCl s0 (wX ad cI κ o)) := by
  refine k_of (by decide) (Nat.le_of_ble_eq_true rfl) ?_
  intro p e9 s m below meth c hx hb hr hlocks hown hml hex hpre ls hl
  obtain ⟨hE, hP, hD⟩ := hpre
  obtain ⟨hts, hK⟩ := K0.at (args := ([.ref (ad 17), .int x, .int y] : List Value).toArray) hE
  have hl : lv_has ls 3 [(0, .ref (ad 17)), (1, .int x), (2, .int y)] := hl
  have hS : va_S (kA s0) s.heap s.heap [] := va_S.rf
  refine lv_aload_n hx hb d_Mod_process_0 rfl (lv_at hl 0 rfl) ?_
  refine lv_iconst (v := (nI 0)) hx hb d_Mod_process_1 (by decide) ?_
  refine va_put (D := D) (ci := nMod) (v := .int (nI 0)) (ty := .int) (C := R_Mod) (T := T_Mod) (N := 15) hx hb hts i_Mod ty_Mod ty_Mod_ok nm_Mod hown hK hP hD hS 17 rfl rfl 0 (by decide) (hts _ tw_655) (fun _ h9 => h9) rfl (by decide +kernel) rfl rfl (Nat.le_of_ble_eq_true rfl) d_Mod_process_2 (fun H locs hP hD hS => ?_)
  obtain ⟨σ1, eσ1⟩ : ∃ z : kS, z = (sw σ 2 0 (nI 0)) := ⟨_, rfl⟩
  have hP : va_P D vwCl (wX ad cI κ o σ1) H := by rw [eσ1]; exact hP
  have hD : va_D (kA s0) (wX ad cI κ o σ1) := by rw [eσ1]; exact hD
  have e0 : t0 σ = σ1 := eσ1.symm
  have ok1 : kOr σ1 := by rw [eσ1]; exact ok
  obtain ⟨o1, o2, o3, o4, o5, o6, o7, o8, o10, o0, ⟨oc1, oc2⟩, oc3, or6⟩ := id ok1
  have hr0 : σ1.1 6 (σ1.1 11 0) ≠ 0 := or6 _ oc2 (by omega)
  have hr1 : σ1.1 6 (σ1.1 11 0) < 21 := o6 _ oc2
  refine lv_iload_n hx hb d_Mod_process_5 rfl (lv_at hl 1 rfl) ?_
  rcases hq2 : rg x 1 5 with _ | j3
  · refine k_callR (k_atS (As := [.int x]) hx hb hown hE.1 (K0.w tw_711) rfl k_w9 (hts _ tw_709) (hts _ tw_710) (hts _ tw_5) (by decide) np_Mod_isProcess rfl d_Mod_process_6) (kz_n hq2 (c_Mod_isProcess K0 ad κ o σ1 x)) (hl.1.trans hml.symm) (Nat.le_of_ble_eq_true rfl) ⟨Nat.le_of_ble_eq_true rfl, Nat.le_of_ble_eq_true rfl, Nat.le_of_ble_eq_true rfl, Nat.le_of_ble_eq_true rfl⟩ (fun U hU hW => ⟨hE.go hW hU hS, by rw [hU]; exact hP, hD⟩) ?_
    refine k_ifN0 (tgt := 18) (by decide) hx hb d_Mod_process_9 (by decide) (fun h9 => absurd h9 (by decide)) (fun _ => ?_)
    refine lv_aload_n hx hb d_Mod_process_12 rfl (lv_at hl 0 rfl) ?_
    refine lv_iconst (v := (nI 1)) hx hb d_Mod_process_13 (by decide) ?_
    refine k_callW (k_atV (As := [.int (nI 1)]) hx hb hown hE.1 (K0.w tw_721) (hts _ tw_718) (hts _ tw_720) (hts _ tw_9020) (hts _ tw_5) (by decide) np_Mod_raise (va_recv hK hP (ci := nMod) (q0 := 17) rfl rfl) rfl d_Mod_process_14) (c_Mod_raise K0 ad κ o σ1 (nI 1)) (hl.1.trans hml.symm) (Nat.le_of_ble_eq_true rfl) ⟨Nat.le_of_ble_eq_true rfl, Nat.le_of_ble_eq_true rfl, Nat.le_of_ble_eq_true rfl, Nat.le_of_ble_eq_true rfl⟩ (fun U hU hW => ⟨hE.go hW hU hS, by rw [hU]; exact hP, hD⟩) hS (fun H locs hP hD hS => ?_)
    obtain ⟨σ7, eσ7⟩ : ∃ z : kS, z = (sw σ1 2 0 (nI 1)) := ⟨_, rfl⟩
    have hP : va_P D vwCl (wX ad cI κ o σ7) H := by rw [eσ7]; exact hP
    have hD : va_D (kA s0) (wX ad cI κ o σ7) := by rw [eσ7]; exact hD
    have hwσ7 : σ7.1 = σ1.1 := by rw [eσ7]; exact rfl
    exact k_retWI hx hb hr hlocks d_Mod_process_17 hP hD hS (by rw [e0]; subst eσ7; first | rfl | (simp [rs_process, inn, rqn, fin, rOkV, hq2]; done) | (simp [rs_process, inn, rqn, fin, rOkV, hq2]; rfl) | (simp [rs_process, inn, rqn, fin, rOkV, hq2]; done) | (simp [rs_process, inn, rqn, fin, rOkV, hq2]; rfl) | (simp only [rs_process, inn, rqn, fin, rOkV, hq2]; rfl))
  · refine k_callR (k_atS (As := [.int x]) hx hb hown hE.1 (K0.w tw_711) rfl k_w9 (hts _ tw_709) (hts _ tw_710) (hts _ tw_5) (by decide) np_Mod_isProcess rfl d_Mod_process_6) (kz_s hq2 (c_Mod_isProcess K0 ad κ o σ1 x)) (hl.1.trans hml.symm) (Nat.le_of_ble_eq_true rfl) ⟨Nat.le_of_ble_eq_true rfl, Nat.le_of_ble_eq_true rfl, Nat.le_of_ble_eq_true rfl, Nat.le_of_ble_eq_true rfl⟩ (fun U hU hW => ⟨hE.go hW hU hS, by rw [hU]; exact hP, hD⟩) ?_
    obtain ⟨rfl, ha4, hb_5, hc_6⟩ := rg_some hq2
    refine k_ifN0 (tgt := 18) (by decide) hx hb d_Mod_process_9 (by decide) (fun _ => ?_) (fun h9 => absurd h9 (by decide))
    refine lv_iload_n hx hb d_Mod_process_18 rfl (lv_at hl 2 rfl) ?_
    rcases hq8 : rg y 0 4 with _ | k9
    · have h9 := rg_none hq8
      refine lv_tableOut (tgt := 85) hx hb d_Mod_process_19 (by omega) (by decide) ?_
      refine lv_aload_n hx hb d_Mod_process_85 rfl (lv_at hl 0 rfl) ?_
      refine lv_iconst (v := (nI 1)) hx hb d_Mod_process_86 (by decide) ?_
      refine k_callW (k_atV (As := [.int (nI 1)]) hx hb hown hE.1 (K0.w tw_721) (hts _ tw_718) (hts _ tw_720) (hts _ tw_9020) (hts _ tw_5) (by decide) np_Mod_raise (va_recv hK hP (ci := nMod) (q0 := 17) rfl rfl) rfl d_Mod_process_87) (c_Mod_raise K0 ad κ o σ1 (nI 1)) (hl.1.trans hml.symm) (Nat.le_of_ble_eq_true rfl) ⟨Nat.le_of_ble_eq_true rfl, Nat.le_of_ble_eq_true rfl, Nat.le_of_ble_eq_true rfl, Nat.le_of_ble_eq_true rfl⟩ (fun U hU hW => ⟨hE.go hW hU hS, by rw [hU]; exact hP, hD⟩) hS (fun H locs hP hD hS => ?_)
      obtain ⟨σ10, eσ10⟩ : ∃ z : kS, z = (sw σ1 2 0 (nI 1)) := ⟨_, rfl⟩
      have hP : va_P D vwCl (wX ad cI κ o σ10) H := by rw [eσ10]; exact hP
      have hD : va_D (kA s0) (wX ad cI κ o σ10) := by rw [eσ10]; exact hD
      have hwσ10 : σ10.1 = σ1.1 := by rw [eσ10]; exact rfl
      exact k_retWI hx hb hr hlocks d_Mod_process_90 hP hD hS (by rw [e0]; subst eσ10; first | rfl | (simp [rs_process, inn, rqn, fin, rOkV, hq2, hq8]; done) | (simp [rs_process, inn, rqn, fin, rOkV, hq2, hq8]; rfl) | (simp [rs_process, inn, rqn, fin, rOkV, hq2, hq8]; done) | (simp [rs_process, inn, rqn, fin, rOkV, hq2, hq8]; rfl) | (simp only [rs_process, inn, rqn, fin, rOkV, hq2, hq8]; rfl))
    · obtain ⟨ex9, hk1, hk2, -⟩ := rg_some hq8
      refine k_st (st' := [.int (nI k9)]) (by show ([.int y] : List Value) = _; rw [← ex9]) ?_
      clear ex9
      rcases (show k9 = 0 ∨ k9 = 1 ∨ k9 = 2 ∨ k9 = 3 ∨ k9 = 4 by omega) with rfl | rfl | rfl | rfl | rfl
      · refine lv_tableIn (off := 33) (tgt := 52) hx hb d_Mod_process_19 (by decide +kernel) (by decide +kernel) (by decide +kernel) (by decide) ?_
        refine lv_aload_n hx hb d_Mod_process_52 rfl (lv_at hl 0 rfl) ?_
        refine va_get (D := D) (ci := nMod) (v := .ref (ad 18)) (C := R_Mod) (T := T_Mod) (N := 15) hx hb hts i_Mod hown hK hP 17 rfl rfl 1 (by decide) (hts _ tw_656) (fun _ h9 => h9) rfl d_Mod_process_53 ?_
        refine lv_iload_n hx hb d_Mod_process_56 rfl (lv_at hl 1 rfl) ?_
        refine k_aldN (q0 := 18) (t0 := 0) hx hb hK hP rfl rfl (by omega) (by decide) d_Mod_process_57 ?_
        have ho11 := o4 j3 (by omega)
        exact k_retWI hx hb hr hlocks d_Mod_process_58 hP hD hS (by rw [e0]; first | rfl | (simp [rs_process, inn, rqn, fin, rOkV, hq2, hq8]; done) | (simp [rs_process, inn, rqn, fin, rOkV, hq2, hq8]; rfl) | (simp [rs_process, inn, rqn, fin, rOkV, hq2, hq8]; done) | (simp [rs_process, inn, rqn, fin, rOkV, hq2, hq8]; rfl) | (simp only [rs_process, inn, rqn, fin, rOkV, hq2, hq8]; rfl))
      · refine lv_tableIn (off := 40) (tgt := 59) hx hb d_Mod_process_19 (by decide +kernel) (by decide +kernel) (by decide +kernel) (by decide) ?_
        refine lv_aload_n hx hb d_Mod_process_59 rfl (lv_at hl 0 rfl) ?_
        refine va_get (D := D) (ci := nMod) (v := .ref (ad 19)) (C := R_Mod) (T := T_Mod) (N := 15) hx hb hts i_Mod hown hK hP 17 rfl rfl 2 (by decide) (hts _ tw_657) (fun _ h9 => h9) rfl d_Mod_process_60 ?_
        refine lv_iload_n hx hb d_Mod_process_63 rfl (lv_at hl 1 rfl) ?_
        refine k_aldN (q0 := 19) (t0 := 0) hx hb hK hP rfl rfl (by omega) (by decide) d_Mod_process_64 ?_
        have ho12 := o5 j3 (by omega)
        exact k_retWI hx hb hr hlocks d_Mod_process_65 hP hD hS (by rw [e0]; first | rfl | (simp [rs_process, inn, rqn, fin, rOkV, hq2, hq8]; done) | (simp [rs_process, inn, rqn, fin, rOkV, hq2, hq8]; rfl) | (simp [rs_process, inn, rqn, fin, rOkV, hq2, hq8]; done) | (simp [rs_process, inn, rqn, fin, rOkV, hq2, hq8]; rfl) | (simp only [rs_process, inn, rqn, fin, rOkV, hq2, hq8]; rfl))
      · refine lv_tableIn (off := 47) (tgt := 66) hx hb d_Mod_process_19 (by decide +kernel) (by decide +kernel) (by decide +kernel) (by decide) ?_
        refine lv_aload_n hx hb d_Mod_process_66 rfl (lv_at hl 0 rfl) ?_
        refine va_get (D := D) (ci := nMod) (v := .ref (ad 20)) (C := R_Mod) (T := T_Mod) (N := 15) hx hb hts i_Mod hown hK hP 17 rfl rfl 3 (by decide) (hts _ tw_658) (fun _ h9 => h9) rfl d_Mod_process_67 ?_
        refine lv_iload_n hx hb d_Mod_process_70 rfl (lv_at hl 1 rfl) ?_
        refine k_aldP (q0 := 20) (t0 := 0) hx hb hK hP rfl rfl (by omega) (by decide) d_Mod_process_71 ?_
        have ho13 := o6 j3 (by omega)
        exact k_retWI hx hb hr hlocks d_Mod_process_72 hP hD hS (by rw [e0]; first | rfl | (simp [rs_process, inn, rqn, fin, rOkV, hq2, hq8]; done) | (simp [rs_process, inn, rqn, fin, rOkV, hq2, hq8]; rfl) | (simp [rs_process, inn, rqn, fin, rOkV, hq2, hq8]; done) | (simp [rs_process, inn, rqn, fin, rOkV, hq2, hq8]; rfl) | (simp only [rs_process, inn, rqn, fin, rOkV, hq2, hq8]; rfl))
      · refine lv_tableIn (off := 54) (tgt := 73) hx hb d_Mod_process_19 (by decide +kernel) (by decide +kernel) (by decide +kernel) (by decide) ?_
        refine lv_aload_n hx hb d_Mod_process_73 rfl (lv_at hl 0 rfl) ?_
        refine lv_iload_n hx hb d_Mod_process_74 rfl (lv_at hl 1 rfl) ?_
        refine k_callR (k_atV (As := [.int (nI j3)]) hx hb hown hE.1 (K0.w tw_797) (hts _ tw_794) (hts _ tw_796) (hts _ tw_9030) (hts _ tw_5) (by decide) np_Mod_owned (va_recv hK hP (ci := nMod) (q0 := 17) rfl rfl) rfl d_Mod_process_75) (c_Mod_owned K0 ad κ o σ1 j3 (by omega) ok1.b0 ok1.b1) (hl.1.trans hml.symm) (Nat.le_of_ble_eq_true rfl) ⟨Nat.le_of_ble_eq_true rfl, Nat.le_of_ble_eq_true rfl, Nat.le_of_ble_eq_true rfl, Nat.le_of_ble_eq_true rfl⟩ (fun U hU hW => ⟨hE.go hW hU hS, by rw [hU]; exact hP, hD⟩) ?_
        have hc14 : (rown σ1 j3) ≤ 20 := cnt_le _ _
        exact k_retWI hx hb hr hlocks d_Mod_process_78 hP hD hS (by rw [e0]; first | rfl | (simp [rs_process, inn, rqn, fin, rOkV, hq2, hq8]; done) | (simp [rs_process, inn, rqn, fin, rOkV, hq2, hq8]; rfl) | (simp [rs_process, inn, rqn, fin, rOkV, hq2, hq8]; done) | (simp [rs_process, inn, rqn, fin, rOkV, hq2, hq8]; rfl) | (simp only [rs_process, inn, rqn, fin, rOkV, hq2, hq8]; rfl))
      · refine lv_tableIn (off := 60) (tgt := 79) hx hb d_Mod_process_19 (by decide +kernel) (by decide +kernel) (by decide +kernel) (by decide) ?_
        refine lv_aload_n hx hb d_Mod_process_79 rfl (lv_at hl 0 rfl) ?_
        refine lv_iload_n hx hb d_Mod_process_80 rfl (lv_at hl 1 rfl) ?_
        refine k_callR (k_atV (As := [.int (nI j3)]) hx hb hown hE.1 (K0.w tw_789) (hts _ tw_786) (hts _ tw_788) (hts _ tw_9029) (hts _ tw_5) (by decide) np_Mod_descriptors (va_recv hK hP (ci := nMod) (q0 := 17) rfl rfl) rfl d_Mod_process_81) (c_Mod_descriptors K0 ad κ o σ1 j3 (by omega) ok1.b7) (hl.1.trans hml.symm) (Nat.le_of_ble_eq_true rfl) ⟨Nat.le_of_ble_eq_true rfl, Nat.le_of_ble_eq_true rfl, Nat.le_of_ble_eq_true rfl, Nat.le_of_ble_eq_true rfl⟩ (fun U hU hW => ⟨hE.go hW hU hS, by rw [hU]; exact hP, hD⟩) ?_
        have hc15 : (inuse σ1 j3) ≤ 4 := cnt_le _ _
        exact k_retWI hx hb hr hlocks d_Mod_process_84 hP hD hS (by rw [e0]; first | rfl | (simp [rs_process, inn, rqn, fin, rOkV, hq2, hq8]; done) | (simp [rs_process, inn, rqn, fin, rOkV, hq2, hq8]; rfl) | (simp [rs_process, inn, rqn, fin, rOkV, hq2, hq8]; done) | (simp [rs_process, inn, rqn, fin, rOkV, hq2, hq8]; rfl) | (simp only [rs_process, inn, rqn, fin, rOkV, hq2, hq8]; rfl))
set_option maxHeartbeats 4000000 in
set_option maxRecDepth 100000 in
theorem c_Mod_page {l : Launch} {s0 : State} {a0 : Array Value} {D : va_G} {cI cL : ClassId} (K0 : k0 l s0 a0 D cI cL) (ad : Nat → Nat) (κ : kS) (o : va_W) (σ : kS) (x : Int32) (y : Int32) (ok : kOr σ) : kMet l y_Mod_page (Cond.code y_Mod_page b_Mod_page 3 (some .int)) (rmL 2) [.ref (ad 17), .int x, .int y] (kPre D vwCl s0 (wX ad cI κ o) σ) (.ok (fin (t0 σ) (rs_page (t0 σ) x y))) (kBw D vwCl s0 (wX ad cI κ o)) := by
  refine k_of (by decide) (Nat.le_of_ble_eq_true rfl) ?_
  intro p e9 s m below meth c hx hb hr hlocks hown hml hex hpre ls hl
  obtain ⟨hE, hP, hD⟩ := hpre
  obtain ⟨hts, hK⟩ := K0.at (args := ([.ref (ad 17), .int x, .int y] : List Value).toArray) hE
  have hl : lv_has ls 3 [(0, .ref (ad 17)), (1, .int x), (2, .int y)] := hl
  have hS : va_S (kA s0) s.heap s.heap [] := va_S.rf
  refine lv_aload_n hx hb d_Mod_page_0 rfl (lv_at hl 0 rfl) ?_
  refine lv_iconst (v := (nI 0)) hx hb d_Mod_page_1 (by decide) ?_
  refine va_put (D := D) (ci := nMod) (v := .int (nI 0)) (ty := .int) (C := R_Mod) (T := T_Mod) (N := 15) hx hb hts i_Mod ty_Mod ty_Mod_ok nm_Mod hown hK hP hD hS 17 rfl rfl 0 (by decide) (hts _ tw_655) (fun _ h9 => h9) rfl (by decide +kernel) rfl rfl (Nat.le_of_ble_eq_true rfl) d_Mod_page_2 (fun H locs hP hD hS => ?_)
  obtain ⟨σ1, eσ1⟩ : ∃ z : kS, z = (sw σ 2 0 (nI 0)) := ⟨_, rfl⟩
  have hP : va_P D vwCl (wX ad cI κ o σ1) H := by rw [eσ1]; exact hP
  have hD : va_D (kA s0) (wX ad cI κ o σ1) := by rw [eσ1]; exact hD
  have e0 : t0 σ = σ1 := eσ1.symm
  have ok1 : kOr σ1 := by rw [eσ1]; exact ok
  obtain ⟨o1, o2, o3, o4, o5, o6, o7, o8, o10, o0, ⟨oc1, oc2⟩, oc3, or6⟩ := id ok1
  have hr0 : σ1.1 6 (σ1.1 11 0) ≠ 0 := or6 _ oc2 (by omega)
  have hr1 : σ1.1 6 (σ1.1 11 0) < 21 := o6 _ oc2
  refine lv_iload_n hx hb d_Mod_page_5 rfl (lv_at hl 1 rfl) ?_
  rcases hq2 : rg x 0 19 with _ | j3
  · refine k_callR (k_atS (As := [.int x]) hx hb hown hE.1 (K0.w tw_717) rfl k_w9 (hts _ tw_715) (hts _ tw_716) (hts _ tw_5) (by decide) np_Mod_isPage rfl d_Mod_page_6) (kz_n hq2 (c_Mod_isPage K0 ad κ o σ1 x)) (hl.1.trans hml.symm) (Nat.le_of_ble_eq_true rfl) ⟨Nat.le_of_ble_eq_true rfl, Nat.le_of_ble_eq_true rfl, Nat.le_of_ble_eq_true rfl, Nat.le_of_ble_eq_true rfl⟩ (fun U hU hW => ⟨hE.go hW hU hS, by rw [hU]; exact hP, hD⟩) ?_
    refine k_if0 (tgt := 21) (by decide) hx hb d_Mod_page_9 (by decide) (fun _ => ?_) (fun h9 => absurd h9 (by decide))
    refine lv_aload_n hx hb d_Mod_page_21 rfl (lv_at hl 0 rfl) ?_
    refine lv_iconst (v := (nI 1)) hx hb d_Mod_page_22 (by decide) ?_
    refine k_callW (k_atV (As := [.int (nI 1)]) hx hb hown hE.1 (K0.w tw_721) (hts _ tw_718) (hts _ tw_720) (hts _ tw_9020) (hts _ tw_5) (by decide) np_Mod_raise (va_recv hK hP (ci := nMod) (q0 := 17) rfl rfl) rfl d_Mod_page_23) (c_Mod_raise K0 ad κ o σ1 (nI 1)) (hl.1.trans hml.symm) (Nat.le_of_ble_eq_true rfl) ⟨Nat.le_of_ble_eq_true rfl, Nat.le_of_ble_eq_true rfl, Nat.le_of_ble_eq_true rfl, Nat.le_of_ble_eq_true rfl⟩ (fun U hU hW => ⟨hE.go hW hU hS, by rw [hU]; exact hP, hD⟩) hS (fun H locs hP hD hS => ?_)
    obtain ⟨σ7, eσ7⟩ : ∃ z : kS, z = (sw σ1 2 0 (nI 1)) := ⟨_, rfl⟩
    have hP : va_P D vwCl (wX ad cI κ o σ7) H := by rw [eσ7]; exact hP
    have hD : va_D (kA s0) (wX ad cI κ o σ7) := by rw [eσ7]; exact hD
    have hwσ7 : σ7.1 = σ1.1 := by rw [eσ7]; exact rfl
    exact k_retWI hx hb hr hlocks d_Mod_page_26 hP hD hS (by rw [e0]; subst eσ7; first | rfl | (simp [rs_page, inn, rqn, fin, rOkV, hq2]; done) | (simp [rs_page, inn, rqn, fin, rOkV, hq2]; rfl) | (simp [rs_page, inn, rqn, fin, rOkV, hq2]; done) | (simp [rs_page, inn, rqn, fin, rOkV, hq2]; rfl) | (simp only [rs_page, inn, rqn, fin, rOkV, hq2]; rfl))
  · refine k_callR (k_atS (As := [.int x]) hx hb hown hE.1 (K0.w tw_717) rfl k_w9 (hts _ tw_715) (hts _ tw_716) (hts _ tw_5) (by decide) np_Mod_isPage rfl d_Mod_page_6) (kz_s hq2 (c_Mod_isPage K0 ad κ o σ1 x)) (hl.1.trans hml.symm) (Nat.le_of_ble_eq_true rfl) ⟨Nat.le_of_ble_eq_true rfl, Nat.le_of_ble_eq_true rfl, Nat.le_of_ble_eq_true rfl, Nat.le_of_ble_eq_true rfl⟩ (fun U hU hW => ⟨hE.go hW hU hS, by rw [hU]; exact hP, hD⟩) ?_
    obtain ⟨rfl, ha4, hb_5, hc_6⟩ := rg_some hq2
    refine k_if0 (tgt := 21) (by decide) hx hb d_Mod_page_9 (by decide) (fun h9 => absurd h9 (by decide)) (fun _ => ?_)
    refine lv_iload_n hx hb d_Mod_page_12 rfl (lv_at hl 2 rfl) ?_
    refine lv_iconst (v := (nI 0)) hx hb d_Mod_page_13 (by decide) ?_
    refine lv_iconst (v := (nI 2)) hx hb d_Mod_page_14 (by decide) ?_
    rcases hq13 : rg y 0 2 with _ | j14
    · refine k_callR (k_atS (As := [.int y, .int (nI 0), .int (nI 2)]) hx hb hown hE.1 (K0.w tw_714) rfl k_w9 (hts _ tw_712) (hts _ tw_713) (hts _ tw_5) (by decide) np_Mod_in rfl d_Mod_page_15) (kz_n hq13 (c_Mod_in K0 ad κ o σ1 y 0 2 (by decide) (by decide))) (hl.1.trans hml.symm) (Nat.le_of_ble_eq_true rfl) ⟨Nat.le_of_ble_eq_true rfl, Nat.le_of_ble_eq_true rfl, Nat.le_of_ble_eq_true rfl, Nat.le_of_ble_eq_true rfl⟩ (fun U hU hW => ⟨hE.go hW hU hS, by rw [hU]; exact hP, hD⟩) ?_
      refine k_ifN0 (tgt := 27) (by decide) hx hb d_Mod_page_18 (by decide) (fun h9 => absurd h9 (by decide)) (fun _ => ?_)
      refine lv_aload_n hx hb d_Mod_page_21 rfl (lv_at hl 0 rfl) ?_
      refine lv_iconst (v := (nI 1)) hx hb d_Mod_page_22 (by decide) ?_
      refine k_callW (k_atV (As := [.int (nI 1)]) hx hb hown hE.1 (K0.w tw_721) (hts _ tw_718) (hts _ tw_720) (hts _ tw_9020) (hts _ tw_5) (by decide) np_Mod_raise (va_recv hK hP (ci := nMod) (q0 := 17) rfl rfl) rfl d_Mod_page_23) (c_Mod_raise K0 ad κ o σ1 (nI 1)) (hl.1.trans hml.symm) (Nat.le_of_ble_eq_true rfl) ⟨Nat.le_of_ble_eq_true rfl, Nat.le_of_ble_eq_true rfl, Nat.le_of_ble_eq_true rfl, Nat.le_of_ble_eq_true rfl⟩ (fun U hU hW => ⟨hE.go hW hU hS, by rw [hU]; exact hP, hD⟩) hS (fun H locs hP hD hS => ?_)
      obtain ⟨σ18, eσ18⟩ : ∃ z : kS, z = (sw σ1 2 0 (nI 1)) := ⟨_, rfl⟩
      have hP : va_P D vwCl (wX ad cI κ o σ18) H := by rw [eσ18]; exact hP
      have hD : va_D (kA s0) (wX ad cI κ o σ18) := by rw [eσ18]; exact hD
      have hwσ18 : σ18.1 = σ1.1 := by rw [eσ18]; exact rfl
      exact k_retWI hx hb hr hlocks d_Mod_page_26 hP hD hS (by rw [e0]; subst eσ18; first | rfl | (simp [rs_page, inn, rqn, fin, rOkV, hq2, hq13]; done) | (simp [rs_page, inn, rqn, fin, rOkV, hq2, hq13]; rfl) | (simp [rs_page, inn, rqn, fin, rOkV, hq2, hq13]; done) | (simp [rs_page, inn, rqn, fin, rOkV, hq2, hq13]; rfl) | (simp only [rs_page, inn, rqn, fin, rOkV, hq2, hq13]; rfl))
    · refine k_callR (k_atS (As := [.int y, .int (nI 0), .int (nI 2)]) hx hb hown hE.1 (K0.w tw_714) rfl k_w9 (hts _ tw_712) (hts _ tw_713) (hts _ tw_5) (by decide) np_Mod_in rfl d_Mod_page_15) (kz_s hq13 (c_Mod_in K0 ad κ o σ1 y 0 2 (by decide) (by decide))) (hl.1.trans hml.symm) (Nat.le_of_ble_eq_true rfl) ⟨Nat.le_of_ble_eq_true rfl, Nat.le_of_ble_eq_true rfl, Nat.le_of_ble_eq_true rfl, Nat.le_of_ble_eq_true rfl⟩ (fun U hU hW => ⟨hE.go hW hU hS, by rw [hU]; exact hP, hD⟩) ?_
      obtain ⟨rfl, ha15, hb_16, hc_17⟩ := rg_some hq13
      refine k_ifN0 (tgt := 27) (by decide) hx hb d_Mod_page_18 (by decide) (fun _ => ?_) (fun h9 => absurd h9 (by decide))
      rcases (show j14 = 0 ∨ j14 = 1 ∨ j14 = 2 by omega) with rfl | rfl | rfl
      · refine lv_iload_n hx hb d_Mod_page_27 rfl (lv_at hl 2 rfl) ?_
        refine k_ifN0 (tgt := 40) (by decide) hx hb d_Mod_page_28 (by decide) (fun h9 => absurd h9 (by decide)) (fun _ => ?_)
        refine lv_aload_n hx hb d_Mod_page_31 rfl (lv_at hl 0 rfl) ?_
        refine va_get (D := D) (ci := nMod) (v := .ref (ad 23)) (C := R_Mod) (T := T_Mod) (N := 15) hx hb hts i_Mod hown hK hP 17 rfl rfl 6 (by decide) (hts _ tw_661) (fun _ h9 => h9) rfl d_Mod_page_32 ?_
        refine lv_iload_n hx hb d_Mod_page_35 rfl (lv_at hl 1 rfl) ?_
        refine k_aldN (q0 := 23) (t0 := 0) hx hb hK hP rfl rfl (by omega) (by decide) d_Mod_page_36 ?_
        have ho19 := o0 j3 (by omega)
        refine lv_goto (tgt := 59) hx hb d_Mod_page_37 (by decide) ?_
        exact k_retWI hx hb hr hlocks d_Mod_page_59 hP hD hS (by rw [e0]; first | rfl | (simp [rs_page, inn, rqn, fin, rOkV, hq2, hq13]; done) | (simp [rs_page, inn, rqn, fin, rOkV, hq2, hq13]; rfl) | (simp [rs_page, inn, rqn, fin, rOkV, hq2, hq13]; done) | (simp [rs_page, inn, rqn, fin, rOkV, hq2, hq13]; rfl) | (simp only [rs_page, inn, rqn, fin, rOkV, hq2, hq13]; rfl))
      · refine lv_iload_n hx hb d_Mod_page_27 rfl (lv_at hl 2 rfl) ?_
        refine k_ifN0 (tgt := 40) (by decide) hx hb d_Mod_page_28 (by decide) (fun _ => ?_) (fun h9 => absurd h9 (by decide))
        refine lv_iload_n hx hb d_Mod_page_40 rfl (lv_at hl 2 rfl) ?_
        refine lv_iconst (v := (nI 1)) hx hb d_Mod_page_41 (by decide) ?_
        refine k_neN (tgt := 54) (by decide) (by decide) hx hb d_Mod_page_42 (by decide) (fun h9 => absurd h9 (by decide)) (fun _ => ?_)
        refine lv_aload_n hx hb d_Mod_page_45 rfl (lv_at hl 0 rfl) ?_
        refine va_get (D := D) (ci := nMod) (v := .ref (ad 24)) (C := R_Mod) (T := T_Mod) (N := 15) hx hb hts i_Mod hown hK hP 17 rfl rfl 7 (by decide) (hts _ tw_662) (fun _ h9 => h9) rfl d_Mod_page_46 ?_
        refine lv_iload_n hx hb d_Mod_page_49 rfl (lv_at hl 1 rfl) ?_
        refine k_aldN (q0 := 24) (t0 := 0) hx hb hK hP rfl rfl (by omega) (by decide) d_Mod_page_50 ?_
        have ho20 := o1 j3 (by omega)
        refine lv_goto (tgt := 59) hx hb d_Mod_page_51 (by decide) ?_
        exact k_retWI hx hb hr hlocks d_Mod_page_59 hP hD hS (by rw [e0]; first | rfl | (simp [rs_page, inn, rqn, fin, rOkV, hq2, hq13]; done) | (simp [rs_page, inn, rqn, fin, rOkV, hq2, hq13]; rfl) | (simp [rs_page, inn, rqn, fin, rOkV, hq2, hq13]; done) | (simp [rs_page, inn, rqn, fin, rOkV, hq2, hq13]; rfl) | (simp only [rs_page, inn, rqn, fin, rOkV, hq2, hq13]; rfl))
      · refine lv_iload_n hx hb d_Mod_page_27 rfl (lv_at hl 2 rfl) ?_
        refine k_ifN0 (tgt := 40) (by decide) hx hb d_Mod_page_28 (by decide) (fun _ => ?_) (fun h9 => absurd h9 (by decide))
        refine lv_iload_n hx hb d_Mod_page_40 rfl (lv_at hl 2 rfl) ?_
        refine lv_iconst (v := (nI 1)) hx hb d_Mod_page_41 (by decide) ?_
        refine k_neN (tgt := 54) (by decide) (by decide) hx hb d_Mod_page_42 (by decide) (fun _ => ?_) (fun h9 => absurd h9 (by decide))
        refine lv_aload_n hx hb d_Mod_page_54 rfl (lv_at hl 0 rfl) ?_
        refine lv_iload_n hx hb d_Mod_page_55 rfl (lv_at hl 1 rfl) ?_
        refine k_callR (k_atV (As := [.int (nI j3)]) hx hb hown hE.1 (K0.w tw_765) (hts _ tw_762) (hts _ tw_764) (hts _ tw_9026) (hts _ tw_5) (by decide) np_Mod_filled (va_recv hK hP (ci := nMod) (q0 := 17) rfl rfl) rfl d_Mod_page_56) (c_Mod_filled K0 ad κ o σ1 j3 (by omega) ok1.b2) (hl.1.trans hml.symm) (Nat.le_of_ble_eq_true rfl) ⟨Nat.le_of_ble_eq_true rfl, Nat.le_of_ble_eq_true rfl, Nat.le_of_ble_eq_true rfl, Nat.le_of_ble_eq_true rfl⟩ (fun U hU hW => ⟨hE.go hW hU hS, by rw [hU]; exact hP, hD⟩) ?_
        have hc21 : (filled σ1 j3) ≤ 4 := cnt_le _ _
        exact k_retWI hx hb hr hlocks d_Mod_page_59 hP hD hS (by rw [e0]; first | rfl | (simp [rs_page, inn, rqn, fin, rOkV, hq2, hq13]; done) | (simp [rs_page, inn, rqn, fin, rOkV, hq2, hq13]; rfl) | (simp [rs_page, inn, rqn, fin, rOkV, hq2, hq13]; done) | (simp [rs_page, inn, rqn, fin, rOkV, hq2, hq13]; rfl) | (simp only [rs_page, inn, rqn, fin, rOkV, hq2, hq13]; rfl))
set_option maxHeartbeats 4000000 in
set_option maxRecDepth 100000 in
theorem c_Mod_count {l : Launch} {s0 : State} {a0 : Array Value} {D : va_G} {cI cL : ClassId} (K0 : k0 l s0 a0 D cI cL) (ad : Nat → Nat) (κ : kS) (o : va_W) (σ : kS) (y : Int32) (ok : kOr σ) : kMet l y_Mod_count (Cond.code y_Mod_count b_Mod_count 4 (some .int)) (rmL 1) [.ref (ad 17), .int y] (kPre D vwCl s0 (wX ad cI κ o) σ) (.ok (fin (t0 σ) (rs_count (t0 σ) y))) (kBw D vwCl s0 (wX ad cI κ o)) := by
  refine k_of (by decide) (Nat.le_of_ble_eq_true rfl) ?_
  intro p e9 s m below meth c hx hb hr hlocks hown hml hex hpre ls hl
  obtain ⟨hE, hP, hD⟩ := hpre
  obtain ⟨hts, hK⟩ := K0.at (args := ([.ref (ad 17), .int y] : List Value).toArray) hE
  have hl : lv_has ls 4 [(0, .ref (ad 17)), (1, .int y)] := hl
  have hS : va_S (kA s0) s.heap s.heap [] := va_S.rf
  refine lv_aload_n hx hb d_Mod_count_0 rfl (lv_at hl 0 rfl) ?_
  refine lv_iconst (v := (nI 0)) hx hb d_Mod_count_1 (by decide) ?_
  refine va_put (D := D) (ci := nMod) (v := .int (nI 0)) (ty := .int) (C := R_Mod) (T := T_Mod) (N := 15) hx hb hts i_Mod ty_Mod ty_Mod_ok nm_Mod hown hK hP hD hS 17 rfl rfl 0 (by decide) (hts _ tw_655) (fun _ h9 => h9) rfl (by decide +kernel) rfl rfl (Nat.le_of_ble_eq_true rfl) d_Mod_count_2 (fun H locs hP hD hS => ?_)
  obtain ⟨σ1, eσ1⟩ : ∃ z : kS, z = (sw σ 2 0 (nI 0)) := ⟨_, rfl⟩
  have hP : va_P D vwCl (wX ad cI κ o σ1) H := by rw [eσ1]; exact hP
  have hD : va_D (kA s0) (wX ad cI κ o σ1) := by rw [eσ1]; exact hD
  have e0 : t0 σ = σ1 := eσ1.symm
  have ok1 : kOr σ1 := by rw [eσ1]; exact ok
  obtain ⟨o1, o2, o3, o4, o5, o6, o7, o8, o10, o0, ⟨oc1, oc2⟩, oc3, or6⟩ := id ok1
  have hr0 : σ1.1 6 (σ1.1 11 0) ≠ 0 := or6 _ oc2 (by omega)
  have hr1 : σ1.1 6 (σ1.1 11 0) < 21 := o6 _ oc2
  refine lv_iconst (v := (nI 0)) hx hb d_Mod_count_5 (by decide) ?_
  refine lv_istore_n (lv' := [(2, .int (nI 0)), (0, .ref (ad 17)), (1, .int y)]) hx hb d_Mod_count_6 rfl hl (by decide) rfl (fun ls hl => ?_)
  refine lv_iload_n hx hb d_Mod_count_7 rfl (lv_at hl 2 rfl) ?_
  rcases hq2 : rg y 0 3 with _ | k3
  · have h9 := rg_none hq2
    refine lv_tableOut (tgt := 133) hx hb d_Mod_count_8 (by omega) (by decide) ?_
    refine lv_aload_n hx hb d_Mod_count_133 rfl (lv_at hl 1 rfl) ?_
    refine lv_iconst (v := (nI 1)) hx hb d_Mod_count_134 (by decide) ?_
    refine k_callW (k_atV (As := [.int (nI 1)]) hx hb hown hE.1 (K0.w tw_721) (hts _ tw_718) (hts _ tw_720) (hts _ tw_9020) (hts _ tw_5) (by decide) np_Mod_raise (va_recv hK hP (ci := nMod) (q0 := 17) rfl rfl) rfl d_Mod_count_135) (c_Mod_raise K0 ad κ o σ1 (nI 1)) (hl.1.trans hml.symm) (Nat.le_of_ble_eq_true rfl) ⟨Nat.le_of_ble_eq_true rfl, Nat.le_of_ble_eq_true rfl, Nat.le_of_ble_eq_true rfl, Nat.le_of_ble_eq_true rfl⟩ (fun U hU hW => ⟨hE.go hW hU hS, by rw [hU]; exact hP, hD⟩) hS (fun H locs hP hD hS => ?_)
    obtain ⟨σ4, eσ4⟩ : ∃ z : kS, z = (sw σ1 2 0 (nI 1)) := ⟨_, rfl⟩
    have hP : va_P D vwCl (wX ad cI κ o σ4) H := by rw [eσ4]; exact hP
    have hD : va_D (kA s0) (wX ad cI κ o σ4) := by rw [eσ4]; exact hD
    have hwσ4 : σ4.1 = σ1.1 := by rw [eσ4]; exact rfl
    exact k_retWI hx hb hr hlocks d_Mod_count_138 hP hD hS (by rw [e0]; subst eσ4; first | rfl | (simp [rs_count, inn, rqn, fin, rOkV, rfree, rlive, hq2]; done) | (simp [rs_count, inn, rqn, fin, rOkV, rfree, rlive, hq2]; rfl) | (simp [rs_count, inn, rqn, fin, rOkV, rfree, rlive, hq2]; done) | (simp [rs_count, inn, rqn, fin, rOkV, rfree, rlive, hq2]; rfl) | (simp only [rs_count, inn, rqn, fin, rOkV, rfree, rlive, hq2]; rfl))
  · obtain ⟨ex9, hk1, hk2, -⟩ := rg_some hq2
    refine k_st (st' := [.int (nI k3)]) (by show ([.int y] : List Value) = _; rw [← ex9]) ?_
    clear ex9
    rcases (show k3 = 0 ∨ k3 = 1 ∨ k3 = 2 ∨ k3 = 3 by omega) with rfl | rfl | rfl | rfl
    · refine lv_tableIn (off := 32) (tgt := 40) hx hb d_Mod_count_8 (by decide +kernel) (by decide +kernel) (by decide +kernel) (by decide) ?_
      refine lv_aload_n hx hb d_Mod_count_40 rfl (lv_at hl 1 rfl) ?_
      refine va_get (D := D) (ci := nMod) (v := .int (nI (σ1.1 11 0))) (C := R_Mod) (T := T_Mod) (N := 15) hx hb hts i_Mod hown hK hP 17 rfl rfl 13 (by decide) (hts _ tw_668) (fun _ h9 => h9) rfl d_Mod_count_41 ?_
      exact k_retWI hx hb hr hlocks d_Mod_count_44 hP hD hS (by rw [e0]; first | rfl | (simp [rs_count, inn, rqn, fin, rOkV, rfree, rlive, hq2]; done) | (simp [rs_count, inn, rqn, fin, rOkV, rfree, rlive, hq2]; rfl) | (simp [rs_count, inn, rqn, fin, rOkV, rfree, rlive, hq2]; done) | (simp [rs_count, inn, rqn, fin, rOkV, rfree, rlive, hq2]; rfl) | (simp only [rs_count, inn, rqn, fin, rOkV, rfree, rlive, hq2]; rfl))
    · refine lv_tableIn (off := 37) (tgt := 45) hx hb d_Mod_count_8 (by decide +kernel) (by decide +kernel) (by decide +kernel) (by decide) ?_
      refine lv_iconst (v := (nI 0)) hx hb d_Mod_count_45 (by decide) ?_
      refine lv_istore_n (lv' := [(3, .int (nI 0)), (2, .int (nI 0)), (0, .ref (ad 17)), (1, .int y)]) hx hb d_Mod_count_46 rfl hl (by decide) rfl (fun ls hl => ?_)
      have L : ∀ (n i : Nat), 0 ≤ i → i + n = 20 → ∀ ls : Array Slot, lv_has ls 4 [(3, .int (nI i)), (2, .int (nI (cnt (fun g => σ1.1 0 g == 0) i))), (0, .ref (ad 17)), (1, .int y)] → W p l e9 (rmL 1) s m ([.ref (ad 17), .int y] : List Value).toArray below meth c H locs 0 0 (kE below (.ok (fin (t0 σ) (rs_count (t0 σ) y))) (kBw D vwCl s0 (wX ad cI κ o)) s) (F0 m 47 ls []) := by
        intro n
        induction n with
        | zero =>
          intro i hi0 hi ls hl
          obtain rfl : i = 20 := by omega
          refine lv_iload_n hx hb d_Mod_count_47 rfl (lv_at hl 0 rfl) ?_
          refine lv_bipush (v := (nI 20)) hx hb d_Mod_count_48 (by decide) ?_
          refine k_geN (tgt := 71) (by decide) (by decide) hx hb d_Mod_count_50 (by decide) (fun _ => ?_) (fun h9 => absurd h9 (by decide))
          refine lv_iload_n hx hb d_Mod_count_71 rfl (lv_at hl 1 rfl) ?_
          exact k_retWI hx hb hr hlocks d_Mod_count_72 hP hD hS (by rw [e0]; first | rfl | (simp [rs_count, inn, rqn, fin, rOkV, rfree, rlive, hq2]; done) | (simp [rs_count, inn, rqn, fin, rOkV, rfree, rlive, hq2]; rfl) | (simp [rs_count, inn, rqn, fin, rOkV, rfree, rlive, hq2]; done) | (simp [rs_count, inn, rqn, fin, rOkV, rfree, rlive, hq2]; rfl) | (simp only [rs_count, inn, rqn, fin, rOkV, rfree, rlive, hq2]; rfl))
        | succ n ih =>
          intro i hi0 hi ls hl
          have hlt : i < 20 := by omega
          refine lv_iload_n hx hb d_Mod_count_47 rfl (lv_at hl 0 rfl) ?_
          refine lv_bipush (v := (nI 20)) hx hb d_Mod_count_48 (by decide) ?_
          refine k_geN (tgt := 71) (by omega) (by omega) hx hb d_Mod_count_50 (by decide) (fun h9 => absurd h9 (by omega)) (fun _ => ?_)
          refine lv_aload_n hx hb d_Mod_count_53 rfl (lv_at hl 2 rfl) ?_
          refine va_get (D := D) (ci := nMod) (v := .ref (ad 23)) (C := R_Mod) (T := T_Mod) (N := 15) hx hb hts i_Mod hown hK hP 17 rfl rfl 6 (by decide) (hts _ tw_661) (fun _ h9 => h9) rfl d_Mod_count_54 ?_
          refine lv_iload_n hx hb d_Mod_count_57 rfl (lv_at hl 0 rfl) ?_
          refine k_aldN (q0 := 23) (t0 := 0) hx hb hK hP rfl rfl (by omega) (by decide) d_Mod_count_58 ?_
          have ho5 := o0 i (by omega)
          refine k_ifN0 (tgt := 65) (Nat.lt_of_lt_of_le (ok1.b0 _ (by omega)) (by decide)) hx hb d_Mod_count_59 (by decide) (fun h6 => ?_) (fun h6 => ?_)
          · refine lv_iinc (v := (nI (i + 1))) (lv' := [(3, .int (nI (i + 1))), (2, .int (nI (cnt (fun g => σ1.1 0 g == 0) i))), (0, .ref (ad 17)), (1, .int y)]) hx hb d_Mod_count_65 hl (k := 0) rfl (nI_1 _) (by decide) rfl (fun ls hl => ?_)
            refine lv_goto (tgt := 47) hx hb d_Mod_count_68 (by decide) ?_
            exact ih (i + 1) (by omega) (by omega) ls (by rw [cnt_f (by first | (simp [hq2, h6]; done) | (simp [hq2, h6]; omega))]; exact lv_sub hl [0, 1, 2, 3] rfl)
          · refine lv_iinc (v := (nI ((cnt (fun g => σ1.1 0 g == 0) i) + 1))) (lv' := [(2, .int (nI ((cnt (fun g => σ1.1 0 g == 0) i) + 1))), (3, .int (nI i)), (0, .ref (ad 17)), (1, .int y)]) hx hb d_Mod_count_62 hl (k := 1) rfl (nI_1 _) (by decide) rfl (fun ls hl => ?_)
            refine lv_iinc (v := (nI (i + 1))) (lv' := [(3, .int (nI (i + 1))), (2, .int (nI ((cnt (fun g => σ1.1 0 g == 0) i) + 1))), (0, .ref (ad 17)), (1, .int y)]) hx hb d_Mod_count_65 hl (k := 1) rfl (nI_1 _) (by decide) rfl (fun ls hl => ?_)
            refine lv_goto (tgt := 47) hx hb d_Mod_count_68 (by decide) ?_
            exact ih (i + 1) (by omega) (by omega) ls (by rw [cnt_t (by first | (simp [hq2, h6]; done) | (simp [hq2, h6]; omega))]; exact lv_sub hl [0, 1, 2, 3] rfl)
      exact L 20 0 (by omega) (by omega) ls (lv_sub hl [0, 1, 2, 3] rfl)
    · refine lv_tableIn (off := 65) (tgt := 73) hx hb d_Mod_count_8 (by decide +kernel) (by decide +kernel) (by decide +kernel) (by decide) ?_
      refine lv_iconst (v := (nI 1)) hx hb d_Mod_count_73 (by decide) ?_
      refine lv_istore_n (lv' := [(3, .int (nI 1)), (2, .int (nI 0)), (0, .ref (ad 17)), (1, .int y)]) hx hb d_Mod_count_74 rfl hl (by decide) rfl (fun ls hl => ?_)
      have L : ∀ (n i : Nat), 1 ≤ i → i + n = 6 → ∀ ls : Array Slot, lv_has ls 4 [(3, .int (nI i)), (2, .int (nI (cnt (fun i => i != 0 && σ1.1 4 i != 0) i))), (0, .ref (ad 17)), (1, .int y)] → W p l e9 (rmL 1) s m ([.ref (ad 17), .int y] : List Value).toArray below meth c H locs 0 0 (kE below (.ok (fin (t0 σ) (rs_count (t0 σ) y))) (kBw D vwCl s0 (wX ad cI κ o)) s) (F0 m 75 ls []) := by
        intro n
        induction n with
        | zero =>
          intro i hi0 hi ls hl
          obtain rfl : i = 6 := by omega
          refine lv_iload_n hx hb d_Mod_count_75 rfl (lv_at hl 0 rfl) ?_
          refine lv_bipush (v := (nI 6)) hx hb d_Mod_count_76 (by decide) ?_
          refine k_geN (tgt := 99) (by decide) (by decide) hx hb d_Mod_count_78 (by decide) (fun _ => ?_) (fun h9 => absurd h9 (by decide))
          refine lv_iload_n hx hb d_Mod_count_99 rfl (lv_at hl 1 rfl) ?_
          exact k_retWI hx hb hr hlocks d_Mod_count_100 hP hD hS (by rw [e0]; first | rfl | (simp [rs_count, inn, rqn, fin, rOkV, rfree, rlive, hq2]; done) | (simp [rs_count, inn, rqn, fin, rOkV, rfree, rlive, hq2]; rfl) | (simp [rs_count, inn, rqn, fin, rOkV, rfree, rlive, hq2]; done) | (simp [rs_count, inn, rqn, fin, rOkV, rfree, rlive, hq2]; rfl) | (simp only [rs_count, inn, rqn, fin, rOkV, rfree, rlive, hq2]; rfl))
        | succ n ih =>
          intro i hi0 hi ls hl
          have hlt : i < 6 := by omega
          refine lv_iload_n hx hb d_Mod_count_75 rfl (lv_at hl 0 rfl) ?_
          refine lv_bipush (v := (nI 6)) hx hb d_Mod_count_76 (by decide) ?_
          refine k_geN (tgt := 99) (by omega) (by omega) hx hb d_Mod_count_78 (by decide) (fun h9 => absurd h9 (by omega)) (fun _ => ?_)
          refine lv_aload_n hx hb d_Mod_count_81 rfl (lv_at hl 2 rfl) ?_
          refine va_get (D := D) (ci := nMod) (v := .ref (ad 18)) (C := R_Mod) (T := T_Mod) (N := 15) hx hb hts i_Mod hown hK hP 17 rfl rfl 1 (by decide) (hts _ tw_656) (fun _ h9 => h9) rfl d_Mod_count_82 ?_
          refine lv_iload_n hx hb d_Mod_count_85 rfl (lv_at hl 0 rfl) ?_
          refine k_aldN (q0 := 18) (t0 := 0) hx hb hK hP rfl rfl (by omega) (by decide) d_Mod_count_86 ?_
          have ho7 := o4 i (by omega)
          refine k_leN0 (tgt := 93) (Nat.lt_of_lt_of_le (ok1.b4 _ (by omega)) (by decide)) hx hb d_Mod_count_87 (by decide) (fun h8 => ?_) (fun h8 => ?_)
          · refine lv_iinc (v := (nI (i + 1))) (lv' := [(3, .int (nI (i + 1))), (2, .int (nI (cnt (fun i => i != 0 && σ1.1 4 i != 0) i))), (0, .ref (ad 17)), (1, .int y)]) hx hb d_Mod_count_93 hl (k := 0) rfl (nI_1 _) (by decide) rfl (fun ls hl => ?_)
            refine lv_goto (tgt := 75) hx hb d_Mod_count_96 (by decide) ?_
            exact ih (i + 1) (by omega) (by omega) ls (by rw [cnt_f (by first | (simp [hq2, h8]; done) | (simp [hq2, h8]; omega))]; exact lv_sub hl [0, 1, 2, 3] rfl)
          · refine lv_iinc (v := (nI ((cnt (fun i => i != 0 && σ1.1 4 i != 0) i) + 1))) (lv' := [(2, .int (nI ((cnt (fun i => i != 0 && σ1.1 4 i != 0) i) + 1))), (3, .int (nI i)), (0, .ref (ad 17)), (1, .int y)]) hx hb d_Mod_count_90 hl (k := 1) rfl (nI_1 _) (by decide) rfl (fun ls hl => ?_)
            refine lv_iinc (v := (nI (i + 1))) (lv' := [(3, .int (nI (i + 1))), (2, .int (nI ((cnt (fun i => i != 0 && σ1.1 4 i != 0) i) + 1))), (0, .ref (ad 17)), (1, .int y)]) hx hb d_Mod_count_93 hl (k := 1) rfl (nI_1 _) (by decide) rfl (fun ls hl => ?_)
            refine lv_goto (tgt := 75) hx hb d_Mod_count_96 (by decide) ?_
            exact ih (i + 1) (by omega) (by omega) ls (by rw [cnt_t (by first | (simp [hq2, h8]; done) | (simp [hq2, h8]; omega))]; exact lv_sub hl [0, 1, 2, 3] rfl)
      exact L 5 1 (by omega) (by omega) ls (lv_sub hl [0, 1, 2, 3] rfl)
    · refine lv_tableIn (off := 93) (tgt := 101) hx hb d_Mod_count_8 (by decide +kernel) (by decide +kernel) (by decide +kernel) (by decide) ?_
      refine lv_iconst (v := (nI 0)) hx hb d_Mod_count_101 (by decide) ?_
      refine lv_istore_n (lv' := [(3, .int (nI 0)), (2, .int (nI 0)), (0, .ref (ad 17)), (1, .int y)]) hx hb d_Mod_count_102 rfl hl (by decide) rfl (fun ls hl => ?_)
      have L : ∀ (n i : Nat), i + n = 3 → ∀ ls : Array Slot, lv_has ls 4 [(3, .int (nI i)), (2, .int (nI (rpin σ1 i))), (0, .ref (ad 17)), (1, .int y)] → W p l e9 (rmL 1) s m ([.ref (ad 17), .int y] : List Value).toArray below meth c H locs 0 0 (kE below (.ok (fin (t0 σ) (rs_count (t0 σ) y))) (kBw D vwCl s0 (wX ad cI κ o)) s) (F0 m 103 ls []) := by
        intro n
        induction n with
        | zero =>
          intro i hi ls hl
          obtain rfl : i = 3 := by omega
          refine lv_iload_n hx hb d_Mod_count_103 rfl (lv_at hl 0 rfl) ?_
          refine lv_iconst (v := (nI 3)) hx hb d_Mod_count_104 (by decide) ?_
          refine k_geN (tgt := 131) (by decide) (by decide) hx hb d_Mod_count_105 (by decide) (fun _ => ?_) (fun h9 => absurd h9 (by decide))
          refine lv_iload_n hx hb d_Mod_count_131 rfl (lv_at hl 1 rfl) ?_
          exact k_retWI hx hb hr hlocks d_Mod_count_132 hP hD hS (by rw [e0]; first | rfl | (simp [rs_count, inn, rqn, fin, rOkV, rfree, rlive, hq2]; done) | (simp [rs_count, inn, rqn, fin, rOkV, rfree, rlive, hq2]; rfl) | (simp [rs_count, inn, rqn, fin, rOkV, rfree, rlive, hq2]; done) | (simp [rs_count, inn, rqn, fin, rOkV, rfree, rlive, hq2]; rfl) | (simp only [rs_count, inn, rqn, fin, rOkV, rfree, rlive, hq2]; rfl))
        | succ n ih =>
          intro i hi ls hl
          have hlt : i < 3 := by omega
          refine lv_iload_n hx hb d_Mod_count_103 rfl (lv_at hl 0 rfl) ?_
          refine lv_iconst (v := (nI 3)) hx hb d_Mod_count_104 (by decide) ?_
          refine k_geN (tgt := 131) (by omega) (by omega) hx hb d_Mod_count_105 (by decide) (fun h9 => absurd h9 (by omega)) (fun _ => ?_)
          refine lv_aload_n hx hb d_Mod_count_108 rfl (lv_at hl 2 rfl) ?_
          refine lv_iload_n hx hb d_Mod_count_109 rfl (lv_at hl 0 rfl) ?_
          refine k_callR (k_atV (As := [.int (nI i)]) hx hb hown hE.1 (K0.w tw_805) (hts _ tw_802) (hts _ tw_804) (hts _ tw_9031) (hts _ tw_5) (by decide) np_Mod_countOf (va_recv hK hP (ci := nMod) (q0 := 17) rfl rfl) rfl d_Mod_count_110) (c_Mod_countOf K0 ad κ o σ1 i (by omega) ok1.b7) (hl.1.trans hml.symm) (Nat.le_of_ble_eq_true rfl) ⟨Nat.le_of_ble_eq_true rfl, Nat.le_of_ble_eq_true rfl, Nat.le_of_ble_eq_true rfl, Nat.le_of_ble_eq_true rfl⟩ (fun U hU hW => ⟨hE.go hW hU hS, by rw [hU]; exact hP, hD⟩) ?_
          have hc9 : (rcof σ1 i) ≤ 24 := cnt_le _ _
          refine k_leN0 (tgt := 125) (by omega) hx hb d_Mod_count_113 (by decide) (fun h10 => ?_) (fun h10 => ?_)
          · refine lv_iinc (v := (nI (i + 1))) (lv' := [(3, .int (nI (i + 1))), (2, .int (nI (rpin σ1 i))), (0, .ref (ad 17)), (1, .int y)]) hx hb d_Mod_count_125 hl (k := 0) rfl (nI_1 _) (by decide) rfl (fun ls hl => ?_)
            refine lv_goto (tgt := 103) hx hb d_Mod_count_128 (by decide) ?_
            exact ih (i + 1) (by omega) ls (by rw [show rpin σ1 (i + 1) = (rpin σ1 i) from by simp [rpin, h10]]; exact lv_sub hl [0, 1, 2, 3] rfl)
          · refine lv_iload_n hx hb d_Mod_count_116 rfl (lv_at hl 1 rfl) ?_
            refine lv_aload_n hx hb d_Mod_count_117 rfl (lv_at hl 2 rfl) ?_
            refine va_get (D := D) (ci := nMod) (v := .ref (ad 29)) (C := R_Mod) (T := T_Mod) (N := 15) hx hb hts i_Mod hown hK hP 17 rfl rfl 12 (by decide) (hts _ tw_667) (fun _ h9 => h9) rfl d_Mod_count_118 ?_
            refine lv_iload_n hx hb d_Mod_count_121 rfl (lv_at hl 0 rfl) ?_
            refine k_aldN (q0 := 29) (t0 := 0) hx hb hK hP rfl rfl (by omega) (by decide) d_Mod_count_122 ?_
            have ho11 := o10 i (by omega)
            refine k_addN hx hb d_Mod_count_123 ?_
            refine lv_istore_n (lv' := [(2, .int (nI ((rpin σ1 i) + (σ1.1 10 i)))), (3, .int (nI i)), (0, .ref (ad 17)), (1, .int y)]) hx hb d_Mod_count_124 rfl hl (by decide) rfl (fun ls hl => ?_)
            refine lv_iinc (v := (nI (i + 1))) (lv' := [(3, .int (nI (i + 1))), (2, .int (nI ((rpin σ1 i) + (σ1.1 10 i)))), (0, .ref (ad 17)), (1, .int y)]) hx hb d_Mod_count_125 hl (k := 1) rfl (nI_1 _) (by decide) rfl (fun ls hl => ?_)
            refine lv_goto (tgt := 103) hx hb d_Mod_count_128 (by decide) ?_
            exact ih (i + 1) (by omega) ls (by rw [show rpin σ1 (i + 1) = ((rpin σ1 i) + (σ1.1 10 i)) from by simp [rpin, h10]]; exact lv_sub hl [0, 1, 2, 3] rfl)
      exact L 3 0 (by omega) ls (lv_sub hl [0, 1, 2, 3] rfl)
