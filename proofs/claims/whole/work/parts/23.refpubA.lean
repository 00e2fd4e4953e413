/-! The reference's calls, first part. Laid by a program of mine (wip/gen). -/
set_option maxHeartbeats 4000000 in
set_option maxRecDepth 100000 in
theorem c_Mod_spawn {l : Launch} {s0 : State} {a0 : Array Value} {D : va_G} {cI cL : ClassId} (K0 : k0 l s0 a0 D cI cL) (ad : Nat → Nat) (κ : kS) (o : va_W) (σ : kS) (x : Int32) (y : Int32) (ok : kOr σ) : kMet l y_Mod_spawn (Cond.code y_Mod_spawn b_Mod_spawn 3 (some .int)) (rmL 2) [.ref (ad 17), .int x, .int y] (kPre D vwCl s0 (wX ad cI κ o) σ) (.ok (fin (t0 σ) (rs_spawn (t0 σ) x y))) (kBw D vwCl s0 (wX ad cI κ o)) := by
  refine k_of (by decide) (Nat.le_of_ble_eq_true rfl) ?_
  intro p e9 s m below meth c hx hb hr hlocks hown hml hex hpre ls hl
  obtain ⟨hE, hP, hD⟩ := hpre
  obtain ⟨hts, hK⟩ := K0.at (args := ([.ref (ad 17), .int x, .int y] : List Value).toArray) hE
  have hl : lv_has ls 3 [(0, .ref (ad 17)), (1, .int x), (2, .int y)] := hl
  have hS : va_S (kA s0) s.heap s.heap [] := va_S.rf
  refine lv_aload_n hx hb d_Mod_spawn_0 rfl (lv_at hl 0 rfl) ?_
  refine lv_iconst (v := (nI 0)) hx hb d_Mod_spawn_1 (by decide) ?_
  refine va_put (D := D) (ci := nMod) (v := .int (nI 0)) (ty := .int) (C := R_Mod) (T := T_Mod) (N := 15) hx hb hts i_Mod ty_Mod ty_Mod_ok nm_Mod hown hK hP hD hS 17 rfl rfl 0 (by decide) (hts _ tw_655) (fun _ h9 => h9) rfl (by decide +kernel) rfl rfl (Nat.le_of_ble_eq_true rfl) d_Mod_spawn_2 (fun H locs hP hD hS => ?_)
  obtain ⟨σ1, eσ1⟩ : ∃ z : kS, z = (sw σ 2 0 (nI 0)) := ⟨_, rfl⟩
  have hP : va_P D vwCl (wX ad cI κ o σ1) H := by rw [eσ1]; exact hP
  have hD : va_D (kA s0) (wX ad cI κ o σ1) := by rw [eσ1]; exact hD
  have e0 : t0 σ = σ1 := eσ1.symm
  have ok1 : kOr σ1 := by rw [eσ1]; exact ok
  obtain ⟨o1, o2, o3, o4, o5, o6, o7, o8, o10, o0, ⟨oc1, oc2⟩, oc3, or6⟩ := id ok1
  have hr0 : σ1.1 6 (σ1.1 11 0) ≠ 0 := or6 _ oc2 (by omega)
  have hr1 : σ1.1 6 (σ1.1 11 0) < 21 := o6 _ oc2
  refine lv_iload_n hx hb d_Mod_spawn_5 rfl (lv_at hl 1 rfl) ?_
  rcases hq2 : rg x 1 5 with _ | j3
  · refine k_callR (k_atS (As := [.int x]) hx hb hown hE.1 (K0.w tw_711) rfl k_w9 (hts _ tw_709) (hts _ tw_710) (hts _ tw_5) (by decide) np_Mod_isProcess rfl d_Mod_spawn_6) (kz_n hq2 (c_Mod_isProcess K0 ad κ o σ1 x)) (hl.1.trans hml.symm) (Nat.le_of_ble_eq_true rfl) ⟨Nat.le_of_ble_eq_true rfl, Nat.le_of_ble_eq_true rfl, Nat.le_of_ble_eq_true rfl, Nat.le_of_ble_eq_true rfl⟩ (fun U hU hW => ⟨hE.go hW hU hS, by rw [hU]; exact hP, hD⟩) ?_
    refine k_if0 (tgt := 19) (by decide) hx hb d_Mod_spawn_9 (by decide) (fun _ => ?_) (fun h9 => absurd h9 (by decide))
    refine lv_aload_n hx hb d_Mod_spawn_19 rfl (lv_at hl 0 rfl) ?_
    refine lv_iconst (v := (nI 1)) hx hb d_Mod_spawn_20 (by decide) ?_
    refine k_callW (k_atV (As := [.int (nI 1)]) hx hb hown hE.1 (K0.w tw_721) (hts _ tw_718) (hts _ tw_720) (hts _ tw_9020) (hts _ tw_5) (by decide) np_Mod_raise (va_recv hK hP (ci := nMod) (q0 := 17) rfl rfl) rfl d_Mod_spawn_21) (c_Mod_raise K0 ad κ o σ1 (nI 1)) (hl.1.trans hml.symm) (Nat.le_of_ble_eq_true rfl) ⟨Nat.le_of_ble_eq_true rfl, Nat.le_of_ble_eq_true rfl, Nat.le_of_ble_eq_true rfl, Nat.le_of_ble_eq_true rfl⟩ (fun U hU hW => ⟨hE.go hW hU hS, by rw [hU]; exact hP, hD⟩) hS (fun H locs hP hD hS => ?_)
    obtain ⟨σ7, eσ7⟩ : ∃ z : kS, z = (sw σ1 2 0 (nI 1)) := ⟨_, rfl⟩
    have hP : va_P D vwCl (wX ad cI κ o σ7) H := by rw [eσ7]; exact hP
    have hD : va_D (kA s0) (wX ad cI κ o σ7) := by rw [eσ7]; exact hD
    have hwσ7 : σ7.1 = σ1.1 := by rw [eσ7]; exact rfl
    exact k_retWI hx hb hr hlocks d_Mod_spawn_24 hP hD hS (by rw [e0]; subst eσ7; first | rfl | (simp [rs_spawn, inn, rqn, fin, rOkV, hq2]; done) | (simp [rs_spawn, inn, rqn, fin, rOkV, hq2]; rfl) | (simp [rs_spawn, inn, rqn, fin, rOkV, hq2]; done) | (simp [rs_spawn, inn, rqn, fin, rOkV, hq2]; rfl) | (simp only [rs_spawn, inn, rqn, fin, rOkV, hq2]; rfl))
  · refine k_callR (k_atS (As := [.int x]) hx hb hown hE.1 (K0.w tw_711) rfl k_w9 (hts _ tw_709) (hts _ tw_710) (hts _ tw_5) (by decide) np_Mod_isProcess rfl d_Mod_spawn_6) (kz_s hq2 (c_Mod_isProcess K0 ad κ o σ1 x)) (hl.1.trans hml.symm) (Nat.le_of_ble_eq_true rfl) ⟨Nat.le_of_ble_eq_true rfl, Nat.le_of_ble_eq_true rfl, Nat.le_of_ble_eq_true rfl, Nat.le_of_ble_eq_true rfl⟩ (fun U hU hW => ⟨hE.go hW hU hS, by rw [hU]; exact hP, hD⟩) ?_
    obtain ⟨rfl, ha4, hb_5, hc_6⟩ := rg_some hq2
    refine k_if0 (tgt := 19) (by decide) hx hb d_Mod_spawn_9 (by decide) (fun h9 => absurd h9 (by decide)) (fun _ => ?_)
    refine lv_iload_n hx hb d_Mod_spawn_12 rfl (lv_at hl 2 rfl) ?_
    rcases hq8 : rg y 0 19 with _ | j9
    · refine k_callR (k_atS (As := [.int y]) hx hb hown hE.1 (K0.w tw_717) rfl k_w9 (hts _ tw_715) (hts _ tw_716) (hts _ tw_5) (by decide) np_Mod_isPage rfl d_Mod_spawn_13) (kz_n hq8 (c_Mod_isPage K0 ad κ o σ1 y)) (hl.1.trans hml.symm) (Nat.le_of_ble_eq_true rfl) ⟨Nat.le_of_ble_eq_true rfl, Nat.le_of_ble_eq_true rfl, Nat.le_of_ble_eq_true rfl, Nat.le_of_ble_eq_true rfl⟩ (fun U hU hW => ⟨hE.go hW hU hS, by rw [hU]; exact hP, hD⟩) ?_
      refine k_ifN0 (tgt := 25) (by decide) hx hb d_Mod_spawn_16 (by decide) (fun h9 => absurd h9 (by decide)) (fun _ => ?_)
      refine lv_aload_n hx hb d_Mod_spawn_19 rfl (lv_at hl 0 rfl) ?_
      refine lv_iconst (v := (nI 1)) hx hb d_Mod_spawn_20 (by decide) ?_
      refine k_callW (k_atV (As := [.int (nI 1)]) hx hb hown hE.1 (K0.w tw_721) (hts _ tw_718) (hts _ tw_720) (hts _ tw_9020) (hts _ tw_5) (by decide) np_Mod_raise (va_recv hK hP (ci := nMod) (q0 := 17) rfl rfl) rfl d_Mod_spawn_21) (c_Mod_raise K0 ad κ o σ1 (nI 1)) (hl.1.trans hml.symm) (Nat.le_of_ble_eq_true rfl) ⟨Nat.le_of_ble_eq_true rfl, Nat.le_of_ble_eq_true rfl, Nat.le_of_ble_eq_true rfl, Nat.le_of_ble_eq_true rfl⟩ (fun U hU hW => ⟨hE.go hW hU hS, by rw [hU]; exact hP, hD⟩) hS (fun H locs hP hD hS => ?_)
      obtain ⟨σ13, eσ13⟩ : ∃ z : kS, z = (sw σ1 2 0 (nI 1)) := ⟨_, rfl⟩
      have hP : va_P D vwCl (wX ad cI κ o σ13) H := by rw [eσ13]; exact hP
      have hD : va_D (kA s0) (wX ad cI κ o σ13) := by rw [eσ13]; exact hD
      have hwσ13 : σ13.1 = σ1.1 := by rw [eσ13]; exact rfl
      exact k_retWI hx hb hr hlocks d_Mod_spawn_24 hP hD hS (by rw [e0]; subst eσ13; first | rfl | (simp [rs_spawn, inn, rqn, fin, rOkV, hq2, hq8]; done) | (simp [rs_spawn, inn, rqn, fin, rOkV, hq2, hq8]; rfl) | (simp [rs_spawn, inn, rqn, fin, rOkV, hq2, hq8]; done) | (simp [rs_spawn, inn, rqn, fin, rOkV, hq2, hq8]; rfl) | (simp only [rs_spawn, inn, rqn, fin, rOkV, hq2, hq8]; rfl))
    · refine k_callR (k_atS (As := [.int y]) hx hb hown hE.1 (K0.w tw_717) rfl k_w9 (hts _ tw_715) (hts _ tw_716) (hts _ tw_5) (by decide) np_Mod_isPage rfl d_Mod_spawn_13) (kz_s hq8 (c_Mod_isPage K0 ad κ o σ1 y)) (hl.1.trans hml.symm) (Nat.le_of_ble_eq_true rfl) ⟨Nat.le_of_ble_eq_true rfl, Nat.le_of_ble_eq_true rfl, Nat.le_of_ble_eq_true rfl, Nat.le_of_ble_eq_true rfl⟩ (fun U hU hW => ⟨hE.go hW hU hS, by rw [hU]; exact hP, hD⟩) ?_
      obtain ⟨rfl, ha10, hb_11, hc_12⟩ := rg_some hq8
      refine k_ifN0 (tgt := 25) (by decide) hx hb d_Mod_spawn_16 (by decide) (fun _ => ?_) (fun h9 => absurd h9 (by decide))
      refine lv_aload_n hx hb d_Mod_spawn_25 rfl (lv_at hl 0 rfl) ?_
      refine va_get (D := D) (ci := nMod) (v := .ref (ad 18)) (C := R_Mod) (T := T_Mod) (N := 15) hx hb hts i_Mod hown hK hP 17 rfl rfl 1 (by decide) (hts _ tw_656) (fun _ h9 => h9) rfl d_Mod_spawn_26 ?_
      refine lv_iload_n hx hb d_Mod_spawn_29 rfl (lv_at hl 1 rfl) ?_
      refine k_aldN (q0 := 18) (t0 := 0) hx hb hK hP rfl rfl (by omega) (by decide) d_Mod_spawn_30 ?_
      have ho14 := o4 j3 (by omega)
      refine k_ifN0 (tgt := 43) (Nat.lt_of_lt_of_le (ok1.b4 _ (by omega)) (by decide)) hx hb d_Mod_spawn_31 (by decide) (fun h15 => ?_) (fun h15 => ?_)
      · refine lv_aload_n hx hb d_Mod_spawn_43 rfl (lv_at hl 0 rfl) ?_
        refine lv_iconst (v := (nI 2)) hx hb d_Mod_spawn_44 (by decide) ?_
        refine k_callW (k_atV (As := [.int (nI 2)]) hx hb hown hE.1 (K0.w tw_721) (hts _ tw_718) (hts _ tw_720) (hts _ tw_9020) (hts _ tw_5) (by decide) np_Mod_raise (va_recv hK hP (ci := nMod) (q0 := 17) rfl rfl) rfl d_Mod_spawn_45) (c_Mod_raise K0 ad κ o σ1 (nI 2)) (hl.1.trans hml.symm) (Nat.le_of_ble_eq_true rfl) ⟨Nat.le_of_ble_eq_true rfl, Nat.le_of_ble_eq_true rfl, Nat.le_of_ble_eq_true rfl, Nat.le_of_ble_eq_true rfl⟩ (fun U hU hW => ⟨hE.go hW hU hS, by rw [hU]; exact hP, hD⟩) hS (fun H locs hP hD hS => ?_)
        obtain ⟨σ16, eσ16⟩ : ∃ z : kS, z = (sw σ1 2 0 (nI 2)) := ⟨_, rfl⟩
        have hP : va_P D vwCl (wX ad cI κ o σ16) H := by rw [eσ16]; exact hP
        have hD : va_D (kA s0) (wX ad cI κ o σ16) := by rw [eσ16]; exact hD
        have hwσ16 : σ16.1 = σ1.1 := by rw [eσ16]; exact rfl
        exact k_retWI hx hb hr hlocks d_Mod_spawn_48 hP hD hS (by rw [e0]; subst eσ16; first | rfl | (simp [rs_spawn, inn, rqn, fin, rOkV, hq2, hq8, h15, beq_false_of_ne h15, bne_iff_ne.mpr h15]; done) | (simp [rs_spawn, inn, rqn, fin, rOkV, hq2, hq8, h15, beq_false_of_ne h15, bne_iff_ne.mpr h15]; rfl) | (simp [rs_spawn, inn, rqn, fin, rOkV, hq2, hq8, h15, beq_false_of_ne h15, bne_iff_ne.mpr h15]; done) | (simp [rs_spawn, inn, rqn, fin, rOkV, hq2, hq8, h15, beq_false_of_ne h15, bne_iff_ne.mpr h15]; rfl) | (simp only [rs_spawn, inn, rqn, fin, rOkV, hq2, hq8, h15, beq_false_of_ne h15, bne_iff_ne.mpr h15]; rfl))
      · refine lv_aload_n hx hb d_Mod_spawn_34 rfl (lv_at hl 0 rfl) ?_
        refine va_get (D := D) (ci := nMod) (v := .ref (ad 23)) (C := R_Mod) (T := T_Mod) (N := 15) hx hb hts i_Mod hown hK hP 17 rfl rfl 6 (by decide) (hts _ tw_661) (fun _ h9 => h9) rfl d_Mod_spawn_35 ?_
        refine lv_iload_n hx hb d_Mod_spawn_38 rfl (lv_at hl 2 rfl) ?_
        refine k_aldN (q0 := 23) (t0 := 0) hx hb hK hP rfl rfl (by omega) (by decide) d_Mod_spawn_39 ?_
        have ho17 := o0 j9 (by omega)
        refine k_if0 (tgt := 49) (Nat.lt_of_lt_of_le (ok1.b0 _ (by omega)) (by decide)) hx hb d_Mod_spawn_40 (by decide) (fun h18 => ?_) (fun h18 => ?_)
        · refine lv_aload_n hx hb d_Mod_spawn_49 rfl (lv_at hl 0 rfl) ?_
          refine va_get (D := D) (ci := nMod) (v := .ref (ad 18)) (C := R_Mod) (T := T_Mod) (N := 15) hx hb hts i_Mod hown hK hP 17 rfl rfl 1 (by decide) (hts _ tw_656) (fun _ h9 => h9) rfl d_Mod_spawn_50 ?_
          refine lv_iload_n hx hb d_Mod_spawn_53 rfl (lv_at hl 1 rfl) ?_
          refine lv_iconst (v := (nI 1)) hx hb d_Mod_spawn_54 (by decide) ?_
          refine k_astN (q0 := 18) (t0 := 0) hx hb hK hP hD hS rfl rfl (by omega) (by decide) d_Mod_spawn_55 (fun H locs hP hD hS => ?_)
          obtain ⟨σ19, eσ19⟩ : ∃ z : kS, z = (st σ1 4 j3 1) := ⟨_, rfl⟩
          have hP : va_P D vwCl (wX ad cI κ o σ19) H := by rw [eσ19]; exact hP
          have hD : va_D (kA s0) (wX ad cI κ o σ19) := by rw [eσ19]; exact hD
          refine lv_aload_n hx hb d_Mod_spawn_56 rfl (lv_at hl 0 rfl) ?_
          refine va_get (D := D) (ci := nMod) (v := .ref (ad 19)) (C := R_Mod) (T := T_Mod) (N := 15) hx hb hts i_Mod hown hK hP 17 rfl rfl 2 (by decide) (hts _ tw_657) (fun _ h9 => h9) rfl d_Mod_spawn_57 ?_
          refine lv_iload_n hx hb d_Mod_spawn_60 rfl (lv_at hl 1 rfl) ?_
          refine lv_aload_n hx hb d_Mod_spawn_61 rfl (lv_at hl 0 rfl) ?_
          refine va_get (D := D) (ci := nMod) (v := .int (nI (σ19.1 11 0))) (C := R_Mod) (T := T_Mod) (N := 15) hx hb hts i_Mod hown hK hP 17 rfl rfl 13 (by decide) (hts _ tw_668) (fun _ h9 => h9) rfl d_Mod_spawn_62 ?_
          refine k_astN (q0 := 19) (t0 := 0) hx hb hK hP hD hS rfl rfl (by omega) (by decide) d_Mod_spawn_65 (fun H locs hP hD hS => ?_)
          obtain ⟨σ20, eσ20⟩ : ∃ z : kS, z = (st σ19 5 j3 (σ19.1 11 0)) := ⟨_, rfl⟩
          have hP : va_P D vwCl (wX ad cI κ o σ20) H := by rw [eσ20]; exact hP
          have hD : va_D (kA s0) (wX ad cI κ o σ20) := by rw [eσ20]; exact hD
          refine lv_aload_n hx hb d_Mod_spawn_66 rfl (lv_at hl 0 rfl) ?_
          refine va_get (D := D) (ci := nMod) (v := .ref (ad 20)) (C := R_Mod) (T := T_Mod) (N := 15) hx hb hts i_Mod hown hK hP 17 rfl rfl 3 (by decide) (hts _ tw_658) (fun _ h9 => h9) rfl d_Mod_spawn_67 ?_
          refine lv_iload_n hx hb d_Mod_spawn_70 rfl (lv_at hl 1 rfl) ?_
          refine lv_iload_n hx hb d_Mod_spawn_71 rfl (lv_at hl 2 rfl) ?_
          refine k_st (st' := [.int (pI (j9 + 1)), .int (nI j3), .ref (ad 20)]) (by show ([.int (nI j9), .int (nI j3), .ref (ad 20)] : List Value) = _; rw [pI_succ]) ?_
          refine k_astP (q0 := 20) (t0 := 0) hx hb hK hP hD hS rfl rfl (by omega) (by decide) d_Mod_spawn_72 (fun H locs hP hD hS => ?_)
          obtain ⟨σ21, eσ21⟩ : ∃ z : kS, z = (st σ20 6 j3 (j9 + 1)) := ⟨_, rfl⟩
          have hP : va_P D vwCl (wX ad cI κ o σ21) H := by rw [eσ21]; exact hP
          have hD : va_D (kA s0) (wX ad cI κ o σ21) := by rw [eσ21]; exact hD
          refine lv_aload_n hx hb d_Mod_spawn_73 rfl (lv_at hl 0 rfl) ?_
          refine lv_iload_n hx hb d_Mod_spawn_74 rfl (lv_at hl 2 rfl) ?_
          refine lv_iconst (v := (nI 1)) hx hb d_Mod_spawn_75 (by decide) ?_
          refine lv_iload_n hx hb d_Mod_spawn_76 rfl (lv_at hl 1 rfl) ?_
          refine k_callW (k_atV (As := [.int (nI j9), .int (nI 1), .int (nI j3)]) hx hb hown hE.1 (K0.w tw_725) (hts _ tw_722) (hts _ tw_724) (hts _ tw_9021) (hts _ tw_5) (by decide) np_Mod_become (va_recv hK hP (ci := nMod) (q0 := 17) rfl rfl) rfl d_Mod_spawn_77) (c_Mod_become K0 ad κ o σ21 j9 1 j3 (by omega)) (hl.1.trans hml.symm) (Nat.le_of_ble_eq_true rfl) ⟨Nat.le_of_ble_eq_true rfl, Nat.le_of_ble_eq_true rfl, Nat.le_of_ble_eq_true rfl, Nat.le_of_ble_eq_true rfl⟩ (fun U hU hW => ⟨hE.go hW hU hS, by rw [hU]; exact hP, hD⟩) hS (fun H locs hP hD hS => ?_)
          obtain ⟨σ22, eσ22⟩ : ∃ z : kS, z = (m_become σ21 j9 1 j3) := ⟨_, rfl⟩
          have hP : va_P D vwCl (wX ad cI κ o σ22) H := by rw [eσ22]; exact hP
          have hD : va_D (kA s0) (wX ad cI κ o σ22) := by rw [eσ22]; exact hD
          refine lv_iconst (v := (nI 1)) hx hb d_Mod_spawn_80 (by decide) ?_
          exact k_retWI hx hb hr hlocks d_Mod_spawn_81 hP hD hS (by rw [e0]; subst eσ22 eσ21 eσ20 eσ19; first | rfl | (simp [rs_spawn, inn, rqn, fin, rOkV, hq2, hq8, h15, h18]; done) | (simp [rs_spawn, inn, rqn, fin, rOkV, hq2, hq8, h15, h18]; rfl) | (simp [rs_spawn, inn, rqn, fin, rOkV, hq2, hq8, beq_iff_eq.mpr h15, beq_iff_eq.mpr h18, kbne h15, kbne h18]; done) | (simp [rs_spawn, inn, rqn, fin, rOkV, hq2, hq8, beq_iff_eq.mpr h15, beq_iff_eq.mpr h18, kbne h15, kbne h18]; rfl) | (simp only [rs_spawn, inn, rqn, fin, rOkV, hq2, hq8, h15, h18]; rfl))
        · refine lv_aload_n hx hb d_Mod_spawn_43 rfl (lv_at hl 0 rfl) ?_
          refine lv_iconst (v := (nI 2)) hx hb d_Mod_spawn_44 (by decide) ?_
          refine k_callW (k_atV (As := [.int (nI 2)]) hx hb hown hE.1 (K0.w tw_721) (hts _ tw_718) (hts _ tw_720) (hts _ tw_9020) (hts _ tw_5) (by decide) np_Mod_raise (va_recv hK hP (ci := nMod) (q0 := 17) rfl rfl) rfl d_Mod_spawn_45) (c_Mod_raise K0 ad κ o σ1 (nI 2)) (hl.1.trans hml.symm) (Nat.le_of_ble_eq_true rfl) ⟨Nat.le_of_ble_eq_true rfl, Nat.le_of_ble_eq_true rfl, Nat.le_of_ble_eq_true rfl, Nat.le_of_ble_eq_true rfl⟩ (fun U hU hW => ⟨hE.go hW hU hS, by rw [hU]; exact hP, hD⟩) hS (fun H locs hP hD hS => ?_)
          obtain ⟨σ23, eσ23⟩ : ∃ z : kS, z = (sw σ1 2 0 (nI 2)) := ⟨_, rfl⟩
          have hP : va_P D vwCl (wX ad cI κ o σ23) H := by rw [eσ23]; exact hP
          have hD : va_D (kA s0) (wX ad cI κ o σ23) := by rw [eσ23]; exact hD
          have hwσ23 : σ23.1 = σ1.1 := by rw [eσ23]; exact rfl
          exact k_retWI hx hb hr hlocks d_Mod_spawn_48 hP hD hS (by rw [e0]; subst eσ23; first | rfl | (simp [rs_spawn, inn, rqn, fin, rOkV, hq2, hq8, h15, h18, beq_false_of_ne h18, bne_iff_ne.mpr h18]; done) | (simp [rs_spawn, inn, rqn, fin, rOkV, hq2, hq8, h15, h18, beq_false_of_ne h18, bne_iff_ne.mpr h18]; rfl) | (simp [rs_spawn, inn, rqn, fin, rOkV, hq2, hq8, h18, beq_iff_eq.mpr h15, kbne h15, beq_false_of_ne h18, bne_iff_ne.mpr h18]; done) | (simp [rs_spawn, inn, rqn, fin, rOkV, hq2, hq8, h18, beq_iff_eq.mpr h15, kbne h15, beq_false_of_ne h18, bne_iff_ne.mpr h18]; rfl) | (simp only [rs_spawn, inn, rqn, fin, rOkV, hq2, hq8, h15, h18, beq_false_of_ne h18, bne_iff_ne.mpr h18]; rfl))
set_option maxHeartbeats 4000000 in
set_option maxRecDepth 100000 in
theorem c_Mod_protect {l : Launch} {s0 : State} {a0 : Array Value} {D : va_G} {cI cL : ClassId} (K0 : k0 l s0 a0 D cI cL) (ad : Nat → Nat) (κ : kS) (o : va_W) (σ : kS) (x : Int32) (y : Int32) (z : Int32) (ok : kOr σ) : kMet l y_Mod_protect (Cond.code y_Mod_protect b_Mod_protect 5 (some .int)) (rmL 3) [.ref (ad 17), .int x, .int y, .int z] (kPre D vwCl s0 (wX ad cI κ o) σ) (.ok (fin (t0 σ) (rs_protect (t0 σ) x y z))) (kBw D vwCl s0 (wX ad cI κ o)) := by
  refine k_of (by decide) (Nat.le_of_ble_eq_true rfl) ?_
  intro p e9 s m below meth c hx hb hr hlocks hown hml hex hpre ls hl
  obtain ⟨hE, hP, hD⟩ := hpre
  obtain ⟨hts, hK⟩ := K0.at (args := ([.ref (ad 17), .int x, .int y, .int z] : List Value).toArray) hE
  have hl : lv_has ls 5 [(0, .ref (ad 17)), (1, .int x), (2, .int y), (3, .int z)] := hl
  have hS : va_S (kA s0) s.heap s.heap [] := va_S.rf
  refine lv_aload_n hx hb d_Mod_protect_0 rfl (lv_at hl 0 rfl) ?_
  refine lv_iconst (v := (nI 0)) hx hb d_Mod_protect_1 (by decide) ?_
  refine va_put (D := D) (ci := nMod) (v := .int (nI 0)) (ty := .int) (C := R_Mod) (T := T_Mod) (N := 15) hx hb hts i_Mod ty_Mod ty_Mod_ok nm_Mod hown hK hP hD hS 17 rfl rfl 0 (by decide) (hts _ tw_655) (fun _ h9 => h9) rfl (by decide +kernel) rfl rfl (Nat.le_of_ble_eq_true rfl) d_Mod_protect_2 (fun H locs hP hD hS => ?_)
  obtain ⟨σ1, eσ1⟩ : ∃ z : kS, z = (sw σ 2 0 (nI 0)) := ⟨_, rfl⟩
  have hP : va_P D vwCl (wX ad cI κ o σ1) H := by rw [eσ1]; exact hP
  have hD : va_D (kA s0) (wX ad cI κ o σ1) := by rw [eσ1]; exact hD
  have e0 : t0 σ = σ1 := eσ1.symm
  have ok1 : kOr σ1 := by rw [eσ1]; exact ok
  obtain ⟨o1, o2, o3, o4, o5, o6, o7, o8, o10, o0, ⟨oc1, oc2⟩, oc3, or6⟩ := id ok1
  have hr0 : σ1.1 6 (σ1.1 11 0) ≠ 0 := or6 _ oc2 (by omega)
  have hr1 : σ1.1 6 (σ1.1 11 0) < 21 := o6 _ oc2
  refine lv_iload_n hx hb d_Mod_protect_5 rfl (lv_at hl 1 rfl) ?_
  rcases hq2 : rg x 0 19 with _ | j3
  · refine k_callR (k_atS (As := [.int x]) hx hb hown hE.1 (K0.w tw_717) rfl k_w9 (hts _ tw_715) (hts _ tw_716) (hts _ tw_5) (by decide) np_Mod_isPage rfl d_Mod_protect_6) (kz_n hq2 (c_Mod_isPage K0 ad κ o σ1 x)) (hl.1.trans hml.symm) (Nat.le_of_ble_eq_true rfl) ⟨Nat.le_of_ble_eq_true rfl, Nat.le_of_ble_eq_true rfl, Nat.le_of_ble_eq_true rfl, Nat.le_of_ble_eq_true rfl⟩ (fun U hU hW => ⟨hE.go hW hU hS, by rw [hU]; exact hP, hD⟩) ?_
    refine k_if0 (tgt := 30) (by decide) hx hb d_Mod_protect_9 (by decide) (fun _ => ?_) (fun h9 => absurd h9 (by decide))
    refine lv_aload_n hx hb d_Mod_protect_30 rfl (lv_at hl 0 rfl) ?_
    refine lv_iconst (v := (nI 1)) hx hb d_Mod_protect_31 (by decide) ?_
    refine k_callW (k_atV (As := [.int (nI 1)]) hx hb hown hE.1 (K0.w tw_721) (hts _ tw_718) (hts _ tw_720) (hts _ tw_9020) (hts _ tw_5) (by decide) np_Mod_raise (va_recv hK hP (ci := nMod) (q0 := 17) rfl rfl) rfl d_Mod_protect_32) (c_Mod_raise K0 ad κ o σ1 (nI 1)) (hl.1.trans hml.symm) (Nat.le_of_ble_eq_true rfl) ⟨Nat.le_of_ble_eq_true rfl, Nat.le_of_ble_eq_true rfl, Nat.le_of_ble_eq_true rfl, Nat.le_of_ble_eq_true rfl⟩ (fun U hU hW => ⟨hE.go hW hU hS, by rw [hU]; exact hP, hD⟩) hS (fun H locs hP hD hS => ?_)
    obtain ⟨σ7, eσ7⟩ : ∃ z : kS, z = (sw σ1 2 0 (nI 1)) := ⟨_, rfl⟩
    have hP : va_P D vwCl (wX ad cI κ o σ7) H := by rw [eσ7]; exact hP
    have hD : va_D (kA s0) (wX ad cI κ o σ7) := by rw [eσ7]; exact hD
    have hwσ7 : σ7.1 = σ1.1 := by rw [eσ7]; exact rfl
    exact k_retWI hx hb hr hlocks d_Mod_protect_35 hP hD hS (by rw [e0]; subst eσ7; first | rfl | (simp [rs_protect, inn, rqn, fin, rOkV, hq2]; done) | (simp [rs_protect, inn, rqn, fin, rOkV, hq2]; rfl) | (simp [rs_protect, inn, rqn, fin, rOkV, hq2]; done) | (simp [rs_protect, inn, rqn, fin, rOkV, hq2]; rfl) | (simp only [rs_protect, inn, rqn, fin, rOkV, hq2]; rfl))
  · refine k_callR (k_atS (As := [.int x]) hx hb hown hE.1 (K0.w tw_717) rfl k_w9 (hts _ tw_715) (hts _ tw_716) (hts _ tw_5) (by decide) np_Mod_isPage rfl d_Mod_protect_6) (kz_s hq2 (c_Mod_isPage K0 ad κ o σ1 x)) (hl.1.trans hml.symm) (Nat.le_of_ble_eq_true rfl) ⟨Nat.le_of_ble_eq_true rfl, Nat.le_of_ble_eq_true rfl, Nat.le_of_ble_eq_true rfl, Nat.le_of_ble_eq_true rfl⟩ (fun U hU hW => ⟨hE.go hW hU hS, by rw [hU]; exact hP, hD⟩) ?_
    obtain ⟨rfl, ha4, hb_5, hc_6⟩ := rg_some hq2
    refine k_if0 (tgt := 30) (by decide) hx hb d_Mod_protect_9 (by decide) (fun h9 => absurd h9 (by decide)) (fun _ => ?_)
    refine lv_iload_n hx hb d_Mod_protect_12 rfl (lv_at hl 2 rfl) ?_
    refine lv_iconst (v := (nI 0)) hx hb d_Mod_protect_13 (by decide) ?_
    refine lv_iconst (v := (nI 3)) hx hb d_Mod_protect_14 (by decide) ?_
    rcases hq13 : rg y 0 3 with _ | j14
    · refine k_callR (k_atS (As := [.int y, .int (nI 0), .int (nI 3)]) hx hb hown hE.1 (K0.w tw_714) rfl k_w9 (hts _ tw_712) (hts _ tw_713) (hts _ tw_5) (by decide) np_Mod_in rfl d_Mod_protect_15) (kz_n hq13 (c_Mod_in K0 ad κ o σ1 y 0 3 (by decide) (by decide))) (hl.1.trans hml.symm) (Nat.le_of_ble_eq_true rfl) ⟨Nat.le_of_ble_eq_true rfl, Nat.le_of_ble_eq_true rfl, Nat.le_of_ble_eq_true rfl, Nat.le_of_ble_eq_true rfl⟩ (fun U hU hW => ⟨hE.go hW hU hS, by rw [hU]; exact hP, hD⟩) ?_
      refine k_if0 (tgt := 30) (by decide) hx hb d_Mod_protect_18 (by decide) (fun _ => ?_) (fun h9 => absurd h9 (by decide))
      refine lv_aload_n hx hb d_Mod_protect_30 rfl (lv_at hl 0 rfl) ?_
      refine lv_iconst (v := (nI 1)) hx hb d_Mod_protect_31 (by decide) ?_
      refine k_callW (k_atV (As := [.int (nI 1)]) hx hb hown hE.1 (K0.w tw_721) (hts _ tw_718) (hts _ tw_720) (hts _ tw_9020) (hts _ tw_5) (by decide) np_Mod_raise (va_recv hK hP (ci := nMod) (q0 := 17) rfl rfl) rfl d_Mod_protect_32) (c_Mod_raise K0 ad κ o σ1 (nI 1)) (hl.1.trans hml.symm) (Nat.le_of_ble_eq_true rfl) ⟨Nat.le_of_ble_eq_true rfl, Nat.le_of_ble_eq_true rfl, Nat.le_of_ble_eq_true rfl, Nat.le_of_ble_eq_true rfl⟩ (fun U hU hW => ⟨hE.go hW hU hS, by rw [hU]; exact hP, hD⟩) hS (fun H locs hP hD hS => ?_)
      obtain ⟨σ18, eσ18⟩ : ∃ z : kS, z = (sw σ1 2 0 (nI 1)) := ⟨_, rfl⟩
      have hP : va_P D vwCl (wX ad cI κ o σ18) H := by rw [eσ18]; exact hP
      have hD : va_D (kA s0) (wX ad cI κ o σ18) := by rw [eσ18]; exact hD
      have hwσ18 : σ18.1 = σ1.1 := by rw [eσ18]; exact rfl
      exact k_retWI hx hb hr hlocks d_Mod_protect_35 hP hD hS (by rw [e0]; subst eσ18; first | rfl | (simp [rs_protect, inn, rqn, fin, rOkV, hq2, hq13]; done) | (simp [rs_protect, inn, rqn, fin, rOkV, hq2, hq13]; rfl) | (simp [rs_protect, inn, rqn, fin, rOkV, hq2, hq13]; done) | (simp [rs_protect, inn, rqn, fin, rOkV, hq2, hq13]; rfl) | (simp only [rs_protect, inn, rqn, fin, rOkV, hq2, hq13]; rfl))
    · refine k_callR (k_atS (As := [.int y, .int (nI 0), .int (nI 3)]) hx hb hown hE.1 (K0.w tw_714) rfl k_w9 (hts _ tw_712) (hts _ tw_713) (hts _ tw_5) (by decide) np_Mod_in rfl d_Mod_protect_15) (kz_s hq13 (c_Mod_in K0 ad κ o σ1 y 0 3 (by decide) (by decide))) (hl.1.trans hml.symm) (Nat.le_of_ble_eq_true rfl) ⟨Nat.le_of_ble_eq_true rfl, Nat.le_of_ble_eq_true rfl, Nat.le_of_ble_eq_true rfl, Nat.le_of_ble_eq_true rfl⟩ (fun U hU hW => ⟨hE.go hW hU hS, by rw [hU]; exact hP, hD⟩) ?_
      obtain ⟨rfl, ha15, hb_16, hc_17⟩ := rg_some hq13
      refine k_if0 (tgt := 30) (by decide) hx hb d_Mod_protect_18 (by decide) (fun h9 => absurd h9 (by decide)) (fun _ => ?_)
      refine lv_iload_n hx hb d_Mod_protect_21 rfl (lv_at hl 3 rfl) ?_
      refine lv_iconst (v := (nI 1)) hx hb d_Mod_protect_22 (by decide) ?_
      refine lv_iconst (v := (nI 3)) hx hb d_Mod_protect_23 (by decide) ?_
      rcases hq24 : rg z 1 3 with _ | j25
      · refine k_callR (k_atS (As := [.int z, .int (nI 1), .int (nI 3)]) hx hb hown hE.1 (K0.w tw_714) rfl k_w9 (hts _ tw_712) (hts _ tw_713) (hts _ tw_5) (by decide) np_Mod_in rfl d_Mod_protect_24) (kz_n hq24 (c_Mod_in K0 ad κ o σ1 z 1 3 (by decide) (by decide))) (hl.1.trans hml.symm) (Nat.le_of_ble_eq_true rfl) ⟨Nat.le_of_ble_eq_true rfl, Nat.le_of_ble_eq_true rfl, Nat.le_of_ble_eq_true rfl, Nat.le_of_ble_eq_true rfl⟩ (fun U hU hW => ⟨hE.go hW hU hS, by rw [hU]; exact hP, hD⟩) ?_
        refine k_ifN0 (tgt := 36) (by decide) hx hb d_Mod_protect_27 (by decide) (fun h9 => absurd h9 (by decide)) (fun _ => ?_)
        refine lv_aload_n hx hb d_Mod_protect_30 rfl (lv_at hl 0 rfl) ?_
        refine lv_iconst (v := (nI 1)) hx hb d_Mod_protect_31 (by decide) ?_
        refine k_callW (k_atV (As := [.int (nI 1)]) hx hb hown hE.1 (K0.w tw_721) (hts _ tw_718) (hts _ tw_720) (hts _ tw_9020) (hts _ tw_5) (by decide) np_Mod_raise (va_recv hK hP (ci := nMod) (q0 := 17) rfl rfl) rfl d_Mod_protect_32) (c_Mod_raise K0 ad κ o σ1 (nI 1)) (hl.1.trans hml.symm) (Nat.le_of_ble_eq_true rfl) ⟨Nat.le_of_ble_eq_true rfl, Nat.le_of_ble_eq_true rfl, Nat.le_of_ble_eq_true rfl, Nat.le_of_ble_eq_true rfl⟩ (fun U hU hW => ⟨hE.go hW hU hS, by rw [hU]; exact hP, hD⟩) hS (fun H locs hP hD hS => ?_)
        obtain ⟨σ29, eσ29⟩ : ∃ z : kS, z = (sw σ1 2 0 (nI 1)) := ⟨_, rfl⟩
        have hP : va_P D vwCl (wX ad cI κ o σ29) H := by rw [eσ29]; exact hP
        have hD : va_D (kA s0) (wX ad cI κ o σ29) := by rw [eσ29]; exact hD
        have hwσ29 : σ29.1 = σ1.1 := by rw [eσ29]; exact rfl
        exact k_retWI hx hb hr hlocks d_Mod_protect_35 hP hD hS (by rw [e0]; subst eσ29; first | rfl | (simp [rs_protect, inn, rqn, fin, rOkV, hq2, hq13, hq24]; done) | (simp [rs_protect, inn, rqn, fin, rOkV, hq2, hq13, hq24]; rfl) | (simp [rs_protect, inn, rqn, fin, rOkV, hq2, hq13, hq24]; done) | (simp [rs_protect, inn, rqn, fin, rOkV, hq2, hq13, hq24]; rfl) | (simp only [rs_protect, inn, rqn, fin, rOkV, hq2, hq13, hq24]; rfl))
      · refine k_callR (k_atS (As := [.int z, .int (nI 1), .int (nI 3)]) hx hb hown hE.1 (K0.w tw_714) rfl k_w9 (hts _ tw_712) (hts _ tw_713) (hts _ tw_5) (by decide) np_Mod_in rfl d_Mod_protect_24) (kz_s hq24 (c_Mod_in K0 ad κ o σ1 z 1 3 (by decide) (by decide))) (hl.1.trans hml.symm) (Nat.le_of_ble_eq_true rfl) ⟨Nat.le_of_ble_eq_true rfl, Nat.le_of_ble_eq_true rfl, Nat.le_of_ble_eq_true rfl, Nat.le_of_ble_eq_true rfl⟩ (fun U hU hW => ⟨hE.go hW hU hS, by rw [hU]; exact hP, hD⟩) ?_
        obtain ⟨rfl, ha26, hb_27, hc_28⟩ := rg_some hq24
        refine k_ifN0 (tgt := 36) (by decide) hx hb d_Mod_protect_27 (by decide) (fun _ => ?_) (fun h9 => absurd h9 (by decide))
        refine lv_aload_n hx hb d_Mod_protect_36 rfl (lv_at hl 0 rfl) ?_
        refine lv_iload_n hx hb d_Mod_protect_37 rfl (lv_at hl 1 rfl) ?_
        rcases hq30 : rhold σ1 j3 with _ | _
        · refine k_callR (k_atV (As := [.int (nI j3)]) hx hb hown hE.1 (K0.w tw_753) (hts _ tw_750) (hts _ tw_752) (hts _ tw_9025) (hts _ tw_5) (by decide) np_Mod_holder (va_recv hK hP (ci := nMod) (q0 := 17) rfl rfl) rfl d_Mod_protect_38) (kb_f hq30 (c_Mod_holder K0 ad κ o σ1 j3 (by omega) ok1.b0 (ok1.1 j3 (by omega)) ok1.b4 ok1.b5 (by omega))) (hl.1.trans hml.symm) (Nat.le_of_ble_eq_true rfl) ⟨Nat.le_of_ble_eq_true rfl, Nat.le_of_ble_eq_true rfl, Nat.le_of_ble_eq_true rfl, Nat.le_of_ble_eq_true rfl⟩ (fun U hU hW => ⟨hE.go hW hU hS, by rw [hU]; exact hP, hD⟩) ?_
          refine k_ifN0 (tgt := 50) (by decide) hx hb d_Mod_protect_41 (by decide) (fun h9 => absurd h9 (by decide)) (fun _ => ?_)
          refine lv_aload_n hx hb d_Mod_protect_44 rfl (lv_at hl 0 rfl) ?_
          refine lv_iconst (v := (nI 2)) hx hb d_Mod_protect_45 (by decide) ?_
          refine k_callW (k_atV (As := [.int (nI 2)]) hx hb hown hE.1 (K0.w tw_721) (hts _ tw_718) (hts _ tw_720) (hts _ tw_9020) (hts _ tw_5) (by decide) np_Mod_raise (va_recv hK hP (ci := nMod) (q0 := 17) rfl rfl) rfl d_Mod_protect_46) (c_Mod_raise K0 ad κ o σ1 (nI 2)) (hl.1.trans hml.symm) (Nat.le_of_ble_eq_true rfl) ⟨Nat.le_of_ble_eq_true rfl, Nat.le_of_ble_eq_true rfl, Nat.le_of_ble_eq_true rfl, Nat.le_of_ble_eq_true rfl⟩ (fun U hU hW => ⟨hE.go hW hU hS, by rw [hU]; exact hP, hD⟩) hS (fun H locs hP hD hS => ?_)
          obtain ⟨σ31, eσ31⟩ : ∃ z : kS, z = (sw σ1 2 0 (nI 2)) := ⟨_, rfl⟩
          have hP : va_P D vwCl (wX ad cI κ o σ31) H := by rw [eσ31]; exact hP
          have hD : va_D (kA s0) (wX ad cI κ o σ31) := by rw [eσ31]; exact hD
          have hwσ31 : σ31.1 = σ1.1 := by rw [eσ31]; exact rfl
          exact k_retWI hx hb hr hlocks d_Mod_protect_49 hP hD hS (by rw [e0]; subst eσ31; first | rfl | (simp [rs_protect, inn, rqn, fin, rOkV, hq2, hq13, hq24, hq30]; done) | (simp [rs_protect, inn, rqn, fin, rOkV, hq2, hq13, hq24, hq30]; rfl) | (simp [rs_protect, inn, rqn, fin, rOkV, hq2, hq13, hq24, hq30]; done) | (simp [rs_protect, inn, rqn, fin, rOkV, hq2, hq13, hq24, hq30]; rfl) | (simp only [rs_protect, inn, rqn, fin, rOkV, hq2, hq13, hq24, hq30]; rfl))
        · refine k_callR (k_atV (As := [.int (nI j3)]) hx hb hown hE.1 (K0.w tw_753) (hts _ tw_750) (hts _ tw_752) (hts _ tw_9025) (hts _ tw_5) (by decide) np_Mod_holder (va_recv hK hP (ci := nMod) (q0 := 17) rfl rfl) rfl d_Mod_protect_38) (kb_t hq30 (c_Mod_holder K0 ad κ o σ1 j3 (by omega) ok1.b0 (ok1.1 j3 (by omega)) ok1.b4 ok1.b5 (by omega))) (hl.1.trans hml.symm) (Nat.le_of_ble_eq_true rfl) ⟨Nat.le_of_ble_eq_true rfl, Nat.le_of_ble_eq_true rfl, Nat.le_of_ble_eq_true rfl, Nat.le_of_ble_eq_true rfl⟩ (fun U hU hW => ⟨hE.go hW hU hS, by rw [hU]; exact hP, hD⟩) ?_
          refine k_ifN0 (tgt := 50) (by decide) hx hb d_Mod_protect_41 (by decide) (fun _ => ?_) (fun h9 => absurd h9 (by decide))
          refine lv_aload_n hx hb d_Mod_protect_50 rfl (lv_at hl 0 rfl) ?_
          refine va_get (D := D) (ci := nMod) (v := .ref (ad 25)) (C := R_Mod) (T := T_Mod) (N := 15) hx hb hts i_Mod hown hK hP 17 rfl rfl 8 (by decide) (hts _ tw_663) (fun _ h9 => h9) rfl d_Mod_protect_51 ?_
          refine lv_iconst (v := (nI 4)) hx hb d_Mod_protect_54 (by decide) ?_
          refine lv_iload_n hx hb d_Mod_protect_55 rfl (lv_at hl 1 rfl) ?_
          refine k_mulC hx hb d_Mod_protect_56 ?_
          refine lv_iload_n hx hb d_Mod_protect_57 rfl (lv_at hl 2 rfl) ?_
          refine k_addN hx hb d_Mod_protect_58 ?_
          refine k_aldP (q0 := 25) (t0 := 0) hx hb hK hP rfl rfl (by omega) (by decide) d_Mod_protect_59 ?_
          have ho32 := o2 ((j3 * 4) + j14) (by omega)
          refine k_geP0 (tgt := 69) (ok1.b2 _ (by omega)) hx hb d_Mod_protect_60 (by decide) (fun h33 => ?_) (fun h33 => ?_)
          · refine lv_aload_n hx hb d_Mod_protect_69 rfl (lv_at hl 0 rfl) ?_
            refine va_get (D := D) (ci := nMod) (v := .ref (ad 26)) (C := R_Mod) (T := T_Mod) (N := 15) hx hb hts i_Mod hown hK hP 17 rfl rfl 9 (by decide) (hts _ tw_664) (fun _ h9 => h9) rfl d_Mod_protect_70 ?_
            refine lv_iconst (v := (nI 4)) hx hb d_Mod_protect_73 (by decide) ?_
            refine lv_iload_n hx hb d_Mod_protect_74 rfl (lv_at hl 1 rfl) ?_
            refine k_mulC hx hb d_Mod_protect_75 ?_
            refine lv_iload_n hx hb d_Mod_protect_76 rfl (lv_at hl 2 rfl) ?_
            refine k_addN hx hb d_Mod_protect_77 ?_
            refine k_aldN (q0 := 26) (t0 := 0) hx hb hK hP rfl rfl (by omega) (by decide) d_Mod_protect_78 ?_
            have ho34 := o3 ((j3 * 4) + j14) (by omega)
            refine lv_istore (lv' := [(4, .int (nI (σ1.1 3 ((j3 * 4) + j14)))), (0, .ref (ad 17)), (1, .int (nI j3)), (2, .int (nI j14)), (3, .int (nI j25))]) hx hb d_Mod_protect_79 hl (by decide) rfl (fun ls hl => ?_)
            refine lv_aload_n hx hb d_Mod_protect_81 rfl (lv_at hl 1 rfl) ?_
            refine va_get (D := D) (ci := nMod) (v := .ref (ad 26)) (C := R_Mod) (T := T_Mod) (N := 15) hx hb hts i_Mod hown hK hP 17 rfl rfl 9 (by decide) (hts _ tw_664) (fun _ h9 => h9) rfl d_Mod_protect_82 ?_
            refine lv_iconst (v := (nI 4)) hx hb d_Mod_protect_85 (by decide) ?_
            refine lv_iload_n hx hb d_Mod_protect_86 rfl (lv_at hl 2 rfl) ?_
            refine k_mulC hx hb d_Mod_protect_87 ?_
            refine lv_iload_n hx hb d_Mod_protect_88 rfl (lv_at hl 3 rfl) ?_
            refine k_addN hx hb d_Mod_protect_89 ?_
            refine lv_iload_n hx hb d_Mod_protect_90 rfl (lv_at hl 4 rfl) ?_
            refine k_astN (q0 := 26) (t0 := 0) hx hb hK hP hD hS rfl rfl (by omega) (by decide) d_Mod_protect_91 (fun H locs hP hD hS => ?_)
            obtain ⟨σ35, eσ35⟩ : ∃ z : kS, z = (st σ1 3 ((j3 * 4) + j14) j25) := ⟨_, rfl⟩
            have hP : va_P D vwCl (wX ad cI κ o σ35) H := by rw [eσ35]; exact hP
            have hD : va_D (kA s0) (wX ad cI κ o σ35) := by rw [eσ35]; exact hD
            refine lv_iload hx hb d_Mod_protect_92 (lv_at hl 0 rfl) ?_
            exact k_retWI hx hb hr hlocks d_Mod_protect_94 hP hD hS (by rw [e0]; subst eσ35; first | rfl | (simp [rs_protect, inn, rqn, fin, rOkV, hq2, hq13, hq24, hq30, h33, beq_false_of_ne h33, bne_iff_ne.mpr h33]; done) | (simp [rs_protect, inn, rqn, fin, rOkV, hq2, hq13, hq24, hq30, h33, beq_false_of_ne h33, bne_iff_ne.mpr h33]; rfl) | (simp [rs_protect, inn, rqn, fin, rOkV, hq2, hq13, hq24, hq30, h33, beq_false_of_ne h33, bne_iff_ne.mpr h33]; done) | (simp [rs_protect, inn, rqn, fin, rOkV, hq2, hq13, hq24, hq30, h33, beq_false_of_ne h33, bne_iff_ne.mpr h33]; rfl) | (simp only [rs_protect, inn, rqn, fin, rOkV, hq2, hq13, hq24, hq30, h33, beq_false_of_ne h33, bne_iff_ne.mpr h33]; rfl))
          · refine lv_aload_n hx hb d_Mod_protect_63 rfl (lv_at hl 0 rfl) ?_
            refine lv_iconst (v := (nI 3)) hx hb d_Mod_protect_64 (by decide) ?_
            refine k_callW (k_atV (As := [.int (nI 3)]) hx hb hown hE.1 (K0.w tw_721) (hts _ tw_718) (hts _ tw_720) (hts _ tw_9020) (hts _ tw_5) (by decide) np_Mod_raise (va_recv hK hP (ci := nMod) (q0 := 17) rfl rfl) rfl d_Mod_protect_65) (c_Mod_raise K0 ad κ o σ1 (nI 3)) (hl.1.trans hml.symm) (Nat.le_of_ble_eq_true rfl) ⟨Nat.le_of_ble_eq_true rfl, Nat.le_of_ble_eq_true rfl, Nat.le_of_ble_eq_true rfl, Nat.le_of_ble_eq_true rfl⟩ (fun U hU hW => ⟨hE.go hW hU hS, by rw [hU]; exact hP, hD⟩) hS (fun H locs hP hD hS => ?_)
            obtain ⟨σ36, eσ36⟩ : ∃ z : kS, z = (sw σ1 2 0 (nI 3)) := ⟨_, rfl⟩
            have hP : va_P D vwCl (wX ad cI κ o σ36) H := by rw [eσ36]; exact hP
            have hD : va_D (kA s0) (wX ad cI κ o σ36) := by rw [eσ36]; exact hD
            have hwσ36 : σ36.1 = σ1.1 := by rw [eσ36]; exact rfl
            exact k_retWI hx hb hr hlocks d_Mod_protect_68 hP hD hS (by rw [e0]; subst eσ36; first | rfl | (simp [rs_protect, inn, rqn, fin, rOkV, hq2, hq13, hq24, hq30, h33]; done) | (simp [rs_protect, inn, rqn, fin, rOkV, hq2, hq13, hq24, hq30, h33]; rfl) | (simp [rs_protect, inn, rqn, fin, rOkV, hq2, hq13, hq24, hq30, beq_iff_eq.mpr h33, kbne h33]; done) | (simp [rs_protect, inn, rqn, fin, rOkV, hq2, hq13, hq24, hq30, beq_iff_eq.mpr h33, kbne h33]; rfl) | (simp only [rs_protect, inn, rqn, fin, rOkV, hq2, hq13, hq24, hq30, h33]; rfl))
set_option maxHeartbeats 4000000 in
set_option maxRecDepth 100000 in
theorem c_Mod_release {l : Launch} {s0 : State} {a0 : Array Value} {D : va_G} {cI cL : ClassId} (K0 : k0 l s0 a0 D cI cL) (ad : Nat → Nat) (κ : kS) (o : va_W) (σ : kS) (x : Int32) (y : Int32) (ok : kOr σ) : kMet l y_Mod_release (Cond.code y_Mod_release b_Mod_release 4 (some .int)) (rmL 3) [.ref (ad 17), .int x, .int y] (kPre D vwCl s0 (wX ad cI κ o) σ) (.ok (fin (t0 σ) (rs_release (t0 σ) x y))) (kBw D vwCl s0 (wX ad cI κ o)) := by
  refine k_of (by decide) (Nat.le_of_ble_eq_true rfl) ?_
  intro p e9 s m below meth c hx hb hr hlocks hown hml hex hpre ls hl
  obtain ⟨hE, hP, hD⟩ := hpre
  obtain ⟨hts, hK⟩ := K0.at (args := ([.ref (ad 17), .int x, .int y] : List Value).toArray) hE
  have hl : lv_has ls 4 [(0, .ref (ad 17)), (1, .int x), (2, .int y)] := hl
  have hS : va_S (kA s0) s.heap s.heap [] := va_S.rf
  refine lv_aload_n hx hb d_Mod_release_0 rfl (lv_at hl 0 rfl) ?_
  refine lv_iconst (v := (nI 0)) hx hb d_Mod_release_1 (by decide) ?_
  refine va_put (D := D) (ci := nMod) (v := .int (nI 0)) (ty := .int) (C := R_Mod) (T := T_Mod) (N := 15) hx hb hts i_Mod ty_Mod ty_Mod_ok nm_Mod hown hK hP hD hS 17 rfl rfl 0 (by decide) (hts _ tw_655) (fun _ h9 => h9) rfl (by decide +kernel) rfl rfl (Nat.le_of_ble_eq_true rfl) d_Mod_release_2 (fun H locs hP hD hS => ?_)
  obtain ⟨σ1, eσ1⟩ : ∃ z : kS, z = (sw σ 2 0 (nI 0)) := ⟨_, rfl⟩
  have hP : va_P D vwCl (wX ad cI κ o σ1) H := by rw [eσ1]; exact hP
  have hD : va_D (kA s0) (wX ad cI κ o σ1) := by rw [eσ1]; exact hD
  have e0 : t0 σ = σ1 := eσ1.symm
  have ok1 : kOr σ1 := by rw [eσ1]; exact ok
  obtain ⟨o1, o2, o3, o4, o5, o6, o7, o8, o10, o0, ⟨oc1, oc2⟩, oc3, or6⟩ := id ok1
  have hr0 : σ1.1 6 (σ1.1 11 0) ≠ 0 := or6 _ oc2 (by omega)
  have hr1 : σ1.1 6 (σ1.1 11 0) < 21 := o6 _ oc2
  refine lv_iload_n hx hb d_Mod_release_5 rfl (lv_at hl 1 rfl) ?_
  rcases hq2 : rg x 0 19 with _ | j3
  · refine k_callR (k_atS (As := [.int x]) hx hb hown hE.1 (K0.w tw_717) rfl k_w9 (hts _ tw_715) (hts _ tw_716) (hts _ tw_5) (by decide) np_Mod_isPage rfl d_Mod_release_6) (kz_n hq2 (c_Mod_isPage K0 ad κ o σ1 x)) (hl.1.trans hml.symm) (Nat.le_of_ble_eq_true rfl) ⟨Nat.le_of_ble_eq_true rfl, Nat.le_of_ble_eq_true rfl, Nat.le_of_ble_eq_true rfl, Nat.le_of_ble_eq_true rfl⟩ (fun U hU hW => ⟨hE.go hW hU hS, by rw [hU]; exact hP, hD⟩) ?_
    refine k_if0 (tgt := 21) (by decide) hx hb d_Mod_release_9 (by decide) (fun _ => ?_) (fun h9 => absurd h9 (by decide))
    refine lv_aload_n hx hb d_Mod_release_21 rfl (lv_at hl 0 rfl) ?_
    refine lv_iconst (v := (nI 1)) hx hb d_Mod_release_22 (by decide) ?_
    refine k_callW (k_atV (As := [.int (nI 1)]) hx hb hown hE.1 (K0.w tw_721) (hts _ tw_718) (hts _ tw_720) (hts _ tw_9020) (hts _ tw_5) (by decide) np_Mod_raise (va_recv hK hP (ci := nMod) (q0 := 17) rfl rfl) rfl d_Mod_release_23) (c_Mod_raise K0 ad κ o σ1 (nI 1)) (hl.1.trans hml.symm) (Nat.le_of_ble_eq_true rfl) ⟨Nat.le_of_ble_eq_true rfl, Nat.le_of_ble_eq_true rfl, Nat.le_of_ble_eq_true rfl, Nat.le_of_ble_eq_true rfl⟩ (fun U hU hW => ⟨hE.go hW hU hS, by rw [hU]; exact hP, hD⟩) hS (fun H locs hP hD hS => ?_)
    obtain ⟨σ7, eσ7⟩ : ∃ z : kS, z = (sw σ1 2 0 (nI 1)) := ⟨_, rfl⟩
    have hP : va_P D vwCl (wX ad cI κ o σ7) H := by rw [eσ7]; exact hP
    have hD : va_D (kA s0) (wX ad cI κ o σ7) := by rw [eσ7]; exact hD
    have hwσ7 : σ7.1 = σ1.1 := by rw [eσ7]; exact rfl
    exact k_retWI hx hb hr hlocks d_Mod_release_26 hP hD hS (by rw [e0]; (try rw [pI_pred (by omega)]); subst eσ7; first | rfl | (simp [rs_release, inn, rqn, fin, rOkV, hq2]; done) | (simp [rs_release, inn, rqn, fin, rOkV, hq2]; rfl) | (simp [rs_release, inn, rqn, fin, rOkV, hq2]; done) | (simp [rs_release, inn, rqn, fin, rOkV, hq2]; rfl) | (simp only [rs_release, inn, rqn, fin, rOkV, hq2]; rfl))
  · refine k_callR (k_atS (As := [.int x]) hx hb hown hE.1 (K0.w tw_717) rfl k_w9 (hts _ tw_715) (hts _ tw_716) (hts _ tw_5) (by decide) np_Mod_isPage rfl d_Mod_release_6) (kz_s hq2 (c_Mod_isPage K0 ad κ o σ1 x)) (hl.1.trans hml.symm) (Nat.le_of_ble_eq_true rfl) ⟨Nat.le_of_ble_eq_true rfl, Nat.le_of_ble_eq_true rfl, Nat.le_of_ble_eq_true rfl, Nat.le_of_ble_eq_true rfl⟩ (fun U hU hW => ⟨hE.go hW hU hS, by rw [hU]; exact hP, hD⟩) ?_
    obtain ⟨rfl, ha4, hb_5, hc_6⟩ := rg_some hq2
    refine k_if0 (tgt := 21) (by decide) hx hb d_Mod_release_9 (by decide) (fun h9 => absurd h9 (by decide)) (fun _ => ?_)
    refine lv_iload_n hx hb d_Mod_release_12 rfl (lv_at hl 2 rfl) ?_
    refine lv_iconst (v := (nI 0)) hx hb d_Mod_release_13 (by decide) ?_
    refine lv_iconst (v := (nI 3)) hx hb d_Mod_release_14 (by decide) ?_
    rcases hq13 : rg y 0 3 with _ | j14
    · refine k_callR (k_atS (As := [.int y, .int (nI 0), .int (nI 3)]) hx hb hown hE.1 (K0.w tw_714) rfl k_w9 (hts _ tw_712) (hts _ tw_713) (hts _ tw_5) (by decide) np_Mod_in rfl d_Mod_release_15) (kz_n hq13 (c_Mod_in K0 ad κ o σ1 y 0 3 (by decide) (by decide))) (hl.1.trans hml.symm) (Nat.le_of_ble_eq_true rfl) ⟨Nat.le_of_ble_eq_true rfl, Nat.le_of_ble_eq_true rfl, Nat.le_of_ble_eq_true rfl, Nat.le_of_ble_eq_true rfl⟩ (fun U hU hW => ⟨hE.go hW hU hS, by rw [hU]; exact hP, hD⟩) ?_
      refine k_ifN0 (tgt := 27) (by decide) hx hb d_Mod_release_18 (by decide) (fun h9 => absurd h9 (by decide)) (fun _ => ?_)
      refine lv_aload_n hx hb d_Mod_release_21 rfl (lv_at hl 0 rfl) ?_
      refine lv_iconst (v := (nI 1)) hx hb d_Mod_release_22 (by decide) ?_
      refine k_callW (k_atV (As := [.int (nI 1)]) hx hb hown hE.1 (K0.w tw_721) (hts _ tw_718) (hts _ tw_720) (hts _ tw_9020) (hts _ tw_5) (by decide) np_Mod_raise (va_recv hK hP (ci := nMod) (q0 := 17) rfl rfl) rfl d_Mod_release_23) (c_Mod_raise K0 ad κ o σ1 (nI 1)) (hl.1.trans hml.symm) (Nat.le_of_ble_eq_true rfl) ⟨Nat.le_of_ble_eq_true rfl, Nat.le_of_ble_eq_true rfl, Nat.le_of_ble_eq_true rfl, Nat.le_of_ble_eq_true rfl⟩ (fun U hU hW => ⟨hE.go hW hU hS, by rw [hU]; exact hP, hD⟩) hS (fun H locs hP hD hS => ?_)
      obtain ⟨σ18, eσ18⟩ : ∃ z : kS, z = (sw σ1 2 0 (nI 1)) := ⟨_, rfl⟩
      have hP : va_P D vwCl (wX ad cI κ o σ18) H := by rw [eσ18]; exact hP
      have hD : va_D (kA s0) (wX ad cI κ o σ18) := by rw [eσ18]; exact hD
      have hwσ18 : σ18.1 = σ1.1 := by rw [eσ18]; exact rfl
      exact k_retWI hx hb hr hlocks d_Mod_release_26 hP hD hS (by rw [e0]; (try rw [pI_pred (by omega)]); subst eσ18; first | rfl | (simp [rs_release, inn, rqn, fin, rOkV, hq2, hq13]; done) | (simp [rs_release, inn, rqn, fin, rOkV, hq2, hq13]; rfl) | (simp [rs_release, inn, rqn, fin, rOkV, hq2, hq13]; done) | (simp [rs_release, inn, rqn, fin, rOkV, hq2, hq13]; rfl) | (simp only [rs_release, inn, rqn, fin, rOkV, hq2, hq13]; rfl))
    · refine k_callR (k_atS (As := [.int y, .int (nI 0), .int (nI 3)]) hx hb hown hE.1 (K0.w tw_714) rfl k_w9 (hts _ tw_712) (hts _ tw_713) (hts _ tw_5) (by decide) np_Mod_in rfl d_Mod_release_15) (kz_s hq13 (c_Mod_in K0 ad κ o σ1 y 0 3 (by decide) (by decide))) (hl.1.trans hml.symm) (Nat.le_of_ble_eq_true rfl) ⟨Nat.le_of_ble_eq_true rfl, Nat.le_of_ble_eq_true rfl, Nat.le_of_ble_eq_true rfl, Nat.le_of_ble_eq_true rfl⟩ (fun U hU hW => ⟨hE.go hW hU hS, by rw [hU]; exact hP, hD⟩) ?_
      obtain ⟨rfl, ha15, hb_16, hc_17⟩ := rg_some hq13
      refine k_ifN0 (tgt := 27) (by decide) hx hb d_Mod_release_18 (by decide) (fun _ => ?_) (fun h9 => absurd h9 (by decide))
      refine lv_aload_n hx hb d_Mod_release_27 rfl (lv_at hl 0 rfl) ?_
      refine lv_iload_n hx hb d_Mod_release_28 rfl (lv_at hl 1 rfl) ?_
      rcases hq19 : rhold σ1 j3 with _ | _
      · refine k_callR (k_atV (As := [.int (nI j3)]) hx hb hown hE.1 (K0.w tw_753) (hts _ tw_750) (hts _ tw_752) (hts _ tw_9025) (hts _ tw_5) (by decide) np_Mod_holder (va_recv hK hP (ci := nMod) (q0 := 17) rfl rfl) rfl d_Mod_release_29) (kb_f hq19 (c_Mod_holder K0 ad κ o σ1 j3 (by omega) ok1.b0 (ok1.1 j3 (by omega)) ok1.b4 ok1.b5 (by omega))) (hl.1.trans hml.symm) (Nat.le_of_ble_eq_true rfl) ⟨Nat.le_of_ble_eq_true rfl, Nat.le_of_ble_eq_true rfl, Nat.le_of_ble_eq_true rfl, Nat.le_of_ble_eq_true rfl⟩ (fun U hU hW => ⟨hE.go hW hU hS, by rw [hU]; exact hP, hD⟩) ?_
        refine k_ifN0 (tgt := 41) (by decide) hx hb d_Mod_release_32 (by decide) (fun h9 => absurd h9 (by decide)) (fun _ => ?_)
        refine lv_aload_n hx hb d_Mod_release_35 rfl (lv_at hl 0 rfl) ?_
        refine lv_iconst (v := (nI 2)) hx hb d_Mod_release_36 (by decide) ?_
        refine k_callW (k_atV (As := [.int (nI 2)]) hx hb hown hE.1 (K0.w tw_721) (hts _ tw_718) (hts _ tw_720) (hts _ tw_9020) (hts _ tw_5) (by decide) np_Mod_raise (va_recv hK hP (ci := nMod) (q0 := 17) rfl rfl) rfl d_Mod_release_37) (c_Mod_raise K0 ad κ o σ1 (nI 2)) (hl.1.trans hml.symm) (Nat.le_of_ble_eq_true rfl) ⟨Nat.le_of_ble_eq_true rfl, Nat.le_of_ble_eq_true rfl, Nat.le_of_ble_eq_true rfl, Nat.le_of_ble_eq_true rfl⟩ (fun U hU hW => ⟨hE.go hW hU hS, by rw [hU]; exact hP, hD⟩) hS (fun H locs hP hD hS => ?_)
        obtain ⟨σ20, eσ20⟩ : ∃ z : kS, z = (sw σ1 2 0 (nI 2)) := ⟨_, rfl⟩
        have hP : va_P D vwCl (wX ad cI κ o σ20) H := by rw [eσ20]; exact hP
        have hD : va_D (kA s0) (wX ad cI κ o σ20) := by rw [eσ20]; exact hD
        have hwσ20 : σ20.1 = σ1.1 := by rw [eσ20]; exact rfl
        exact k_retWI hx hb hr hlocks d_Mod_release_40 hP hD hS (by rw [e0]; (try rw [pI_pred (by omega)]); subst eσ20; first | rfl | (simp [rs_release, inn, rqn, fin, rOkV, hq2, hq13, hq19]; done) | (simp [rs_release, inn, rqn, fin, rOkV, hq2, hq13, hq19]; rfl) | (simp [rs_release, inn, rqn, fin, rOkV, hq2, hq13, hq19]; done) | (simp [rs_release, inn, rqn, fin, rOkV, hq2, hq13, hq19]; rfl) | (simp only [rs_release, inn, rqn, fin, rOkV, hq2, hq13, hq19]; rfl))
      · refine k_callR (k_atV (As := [.int (nI j3)]) hx hb hown hE.1 (K0.w tw_753) (hts _ tw_750) (hts _ tw_752) (hts _ tw_9025) (hts _ tw_5) (by decide) np_Mod_holder (va_recv hK hP (ci := nMod) (q0 := 17) rfl rfl) rfl d_Mod_release_29) (kb_t hq19 (c_Mod_holder K0 ad κ o σ1 j3 (by omega) ok1.b0 (ok1.1 j3 (by omega)) ok1.b4 ok1.b5 (by omega))) (hl.1.trans hml.symm) (Nat.le_of_ble_eq_true rfl) ⟨Nat.le_of_ble_eq_true rfl, Nat.le_of_ble_eq_true rfl, Nat.le_of_ble_eq_true rfl, Nat.le_of_ble_eq_true rfl⟩ (fun U hU hW => ⟨hE.go hW hU hS, by rw [hU]; exact hP, hD⟩) ?_
        refine k_ifN0 (tgt := 41) (by decide) hx hb d_Mod_release_32 (by decide) (fun _ => ?_) (fun h9 => absurd h9 (by decide))
        refine lv_aload_n hx hb d_Mod_release_41 rfl (lv_at hl 0 rfl) ?_
        refine va_get (D := D) (ci := nMod) (v := .ref (ad 25)) (C := R_Mod) (T := T_Mod) (N := 15) hx hb hts i_Mod hown hK hP 17 rfl rfl 8 (by decide) (hts _ tw_663) (fun _ h9 => h9) rfl d_Mod_release_42 ?_
        refine lv_iconst (v := (nI 4)) hx hb d_Mod_release_45 (by decide) ?_
        refine lv_iload_n hx hb d_Mod_release_46 rfl (lv_at hl 1 rfl) ?_
        refine k_mulC hx hb d_Mod_release_47 ?_
        refine lv_iload_n hx hb d_Mod_release_48 rfl (lv_at hl 2 rfl) ?_
        refine k_addN hx hb d_Mod_release_49 ?_
        refine k_aldP (q0 := 25) (t0 := 0) hx hb hK hP rfl rfl (by omega) (by decide) d_Mod_release_50 ?_
        have ho21 := o2 ((j3 * 4) + j14) (by omega)
        refine lv_istore_n (lv' := [(3, .int (pI (σ1.1 2 ((j3 * 4) + j14)))), (0, .ref (ad 17)), (1, .int (nI j3)), (2, .int (nI j14))]) hx hb d_Mod_release_51 rfl hl (by decide) rfl (fun ls hl => ?_)
        refine lv_iload_n hx hb d_Mod_release_52 rfl (lv_at hl 0 rfl) ?_
        refine k_geP0 (tgt := 62) (ok1.b2 _ (by omega)) hx hb d_Mod_release_53 (by decide) (fun h22 => ?_) (fun h22 => ?_)
        · refine lv_aload_n hx hb d_Mod_release_62 rfl (lv_at hl 1 rfl) ?_
          refine va_get (D := D) (ci := nMod) (v := .ref (ad 23)) (C := R_Mod) (T := T_Mod) (N := 15) hx hb hts i_Mod hown hK hP 17 rfl rfl 6 (by decide) (hts _ tw_661) (fun _ h9 => h9) rfl d_Mod_release_63 ?_
          refine lv_iload_n hx hb d_Mod_release_66 rfl (lv_at hl 0 rfl) ?_
          refine k_st (st' := [.int (nI ((σ1.1 2 ((j3 * 4) + j14)) - 1)), .ref (ad 23)]) (by show ([.int (pI (σ1.1 2 ((j3 * 4) + j14))), .ref (ad 23)] : List Value) = _; rw [pI_pred (t := (σ1.1 2 ((j3 * 4) + j14))) (by omega)]) ?_
          refine k_aldN (q0 := 23) (t0 := 0) hx hb hK hP rfl rfl (by omega) (by decide) d_Mod_release_67 ?_
          have ho23 := o0 ((σ1.1 2 ((j3 * 4) + j14)) - 1) (by omega)
          refine lv_iconst (v := (nI 2)) hx hb d_Mod_release_68 (by decide) ?_
          refine k_neN (tgt := 86) (Nat.lt_of_lt_of_le (ok1.b0 _ (by omega)) (by decide)) (by omega) hx hb d_Mod_release_69 (by decide) (fun h24 => ?_) (fun h24 => ?_)
          · refine lv_aload_n hx hb d_Mod_release_86 rfl (lv_at hl 1 rfl) ?_
            refine lv_iload_n hx hb d_Mod_release_87 rfl (lv_at hl 0 rfl) ?_
            refine lv_iconst (v := (nI 0)) hx hb d_Mod_release_88 (by decide) ?_
            refine lv_iconst (v := (nI 0)) hx hb d_Mod_release_89 (by decide) ?_
            refine k_st (st' := [.int (nI 0), .int (nI 0), .int (nI ((σ1.1 2 ((j3 * 4) + j14)) - 1)), .ref (ad 17)]) (by show ([.int (nI 0), .int (nI 0), .int (pI (σ1.1 2 ((j3 * 4) + j14))), .ref (ad 17)] : List Value) = _; rw [pI_pred (t := (σ1.1 2 ((j3 * 4) + j14))) (by omega)]) ?_
            refine k_callW (k_atV (As := [.int (nI ((σ1.1 2 ((j3 * 4) + j14)) - 1)), .int (nI 0), .int (nI 0)]) hx hb hown hE.1 (K0.w tw_725) (hts _ tw_722) (hts _ tw_724) (hts _ tw_9021) (hts _ tw_5) (by decide) np_Mod_become (va_recv hK hP (ci := nMod) (q0 := 17) rfl rfl) rfl d_Mod_release_90) (c_Mod_become K0 ad κ o σ1 ((σ1.1 2 ((j3 * 4) + j14)) - 1) 0 0 (by omega)) (hl.1.trans hml.symm) (Nat.le_of_ble_eq_true rfl) ⟨Nat.le_of_ble_eq_true rfl, Nat.le_of_ble_eq_true rfl, Nat.le_of_ble_eq_true rfl, Nat.le_of_ble_eq_true rfl⟩ (fun U hU hW => ⟨hE.go hW hU hS, by rw [hU]; exact hP, hD⟩) hS (fun H locs hP hD hS => ?_)
            obtain ⟨σ25, eσ25⟩ : ∃ z : kS, z = (m_become σ1 ((σ1.1 2 ((j3 * 4) + j14)) - 1) 0 0) := ⟨_, rfl⟩
            have hP : va_P D vwCl (wX ad cI κ o σ25) H := by rw [eσ25]; exact hP
            have hD : va_D (kA s0) (wX ad cI κ o σ25) := by rw [eσ25]; exact hD
            refine lv_aload_n hx hb d_Mod_release_93 rfl (lv_at hl 1 rfl) ?_
            refine va_get (D := D) (ci := nMod) (v := .ref (ad 25)) (C := R_Mod) (T := T_Mod) (N := 15) hx hb hts i_Mod hown hK hP 17 rfl rfl 8 (by decide) (hts _ tw_663) (fun _ h9 => h9) rfl d_Mod_release_94 ?_
            refine lv_iconst (v := (nI 4)) hx hb d_Mod_release_97 (by decide) ?_
            refine lv_iload_n hx hb d_Mod_release_98 rfl (lv_at hl 2 rfl) ?_
            refine k_mulC hx hb d_Mod_release_99 ?_
            refine lv_iload_n hx hb d_Mod_release_100 rfl (lv_at hl 3 rfl) ?_
            refine k_addN hx hb d_Mod_release_101 ?_
            refine lv_iconst (v := (pI 0)) hx hb d_Mod_release_102 (by decide) ?_
            refine k_astP (q0 := 25) (t0 := 0) hx hb hK hP hD hS rfl rfl (by omega) (by decide) d_Mod_release_103 (fun H locs hP hD hS => ?_)
            obtain ⟨σ26, eσ26⟩ : ∃ z : kS, z = (st σ25 2 ((j3 * 4) + j14) 0) := ⟨_, rfl⟩
            have hP : va_P D vwCl (wX ad cI κ o σ26) H := by rw [eσ26]; exact hP
            have hD : va_D (kA s0) (wX ad cI κ o σ26) := by rw [eσ26]; exact hD
            refine lv_iload_n hx hb d_Mod_release_104 rfl (lv_at hl 0 rfl) ?_
            exact k_retWI hx hb hr hlocks d_Mod_release_105 hP hD hS (by rw [e0]; (try rw [pI_pred (by omega)]); subst eσ26 eσ25; first | rfl | (simp [rs_release, inn, rqn, fin, rOkV, hq2, hq13, hq19, h22, h24, beq_false_of_ne h22, beq_false_of_ne h24, bne_iff_ne.mpr h22, bne_iff_ne.mpr h24]; done) | (simp [rs_release, inn, rqn, fin, rOkV, hq2, hq13, hq19, h22, h24, beq_false_of_ne h22, beq_false_of_ne h24, bne_iff_ne.mpr h22, bne_iff_ne.mpr h24]; rfl) | (simp [rs_release, inn, rqn, fin, rOkV, hq2, hq13, hq19, h22, h24, beq_false_of_ne h22, beq_false_of_ne h24, bne_iff_ne.mpr h22, bne_iff_ne.mpr h24]; done) | (simp [rs_release, inn, rqn, fin, rOkV, hq2, hq13, hq19, h22, h24, beq_false_of_ne h22, beq_false_of_ne h24, bne_iff_ne.mpr h22, bne_iff_ne.mpr h24]; rfl) | (simp only [rs_release, inn, rqn, fin, rOkV, hq2, hq13, hq19, h22, h24, beq_false_of_ne h22, beq_false_of_ne h24, bne_iff_ne.mpr h22, bne_iff_ne.mpr h24]; rfl))
          · refine lv_aload_n hx hb d_Mod_release_72 rfl (lv_at hl 1 rfl) ?_
            refine lv_iload_n hx hb d_Mod_release_73 rfl (lv_at hl 0 rfl) ?_
            refine k_st (st' := [.int (nI ((σ1.1 2 ((j3 * 4) + j14)) - 1)), .ref (ad 17)]) (by show ([.int (pI (σ1.1 2 ((j3 * 4) + j14))), .ref (ad 17)] : List Value) = _; rw [pI_pred (t := (σ1.1 2 ((j3 * 4) + j14))) (by omega)]) ?_
            refine k_callR (k_atV (As := [.int (nI ((σ1.1 2 ((j3 * 4) + j14)) - 1))]) hx hb hown hE.1 (K0.w tw_765) (hts _ tw_762) (hts _ tw_764) (hts _ tw_9026) (hts _ tw_5) (by decide) np_Mod_filled (va_recv hK hP (ci := nMod) (q0 := 17) rfl rfl) rfl d_Mod_release_74) (c_Mod_filled K0 ad κ o σ1 ((σ1.1 2 ((j3 * 4) + j14)) - 1) (by omega) ok1.b2) (hl.1.trans hml.symm) (Nat.le_of_ble_eq_true rfl) ⟨Nat.le_of_ble_eq_true rfl, Nat.le_of_ble_eq_true rfl, Nat.le_of_ble_eq_true rfl, Nat.le_of_ble_eq_true rfl⟩ (fun U hU hW => ⟨hE.go hW hU hS, by rw [hU]; exact hP, hD⟩) ?_
            have hc27 : (filled σ1 ((σ1.1 2 ((j3 * 4) + j14)) - 1)) ≤ 4 := cnt_le _ _
            refine k_leN0 (tgt := 86) (by omega) hx hb d_Mod_release_77 (by decide) (fun h28 => ?_) (fun h28 => ?_)
            · refine lv_aload_n hx hb d_Mod_release_86 rfl (lv_at hl 1 rfl) ?_
              refine lv_iload_n hx hb d_Mod_release_87 rfl (lv_at hl 0 rfl) ?_
              refine lv_iconst (v := (nI 0)) hx hb d_Mod_release_88 (by decide) ?_
              refine lv_iconst (v := (nI 0)) hx hb d_Mod_release_89 (by decide) ?_
              refine k_st (st' := [.int (nI 0), .int (nI 0), .int (nI ((σ1.1 2 ((j3 * 4) + j14)) - 1)), .ref (ad 17)]) (by show ([.int (nI 0), .int (nI 0), .int (pI (σ1.1 2 ((j3 * 4) + j14))), .ref (ad 17)] : List Value) = _; rw [pI_pred (t := (σ1.1 2 ((j3 * 4) + j14))) (by omega)]) ?_
              refine k_callW (k_atV (As := [.int (nI ((σ1.1 2 ((j3 * 4) + j14)) - 1)), .int (nI 0), .int (nI 0)]) hx hb hown hE.1 (K0.w tw_725) (hts _ tw_722) (hts _ tw_724) (hts _ tw_9021) (hts _ tw_5) (by decide) np_Mod_become (va_recv hK hP (ci := nMod) (q0 := 17) rfl rfl) rfl d_Mod_release_90) (c_Mod_become K0 ad κ o σ1 ((σ1.1 2 ((j3 * 4) + j14)) - 1) 0 0 (by omega)) (hl.1.trans hml.symm) (Nat.le_of_ble_eq_true rfl) ⟨Nat.le_of_ble_eq_true rfl, Nat.le_of_ble_eq_true rfl, Nat.le_of_ble_eq_true rfl, Nat.le_of_ble_eq_true rfl⟩ (fun U hU hW => ⟨hE.go hW hU hS, by rw [hU]; exact hP, hD⟩) hS (fun H locs hP hD hS => ?_)
              obtain ⟨σ29, eσ29⟩ : ∃ z : kS, z = (m_become σ1 ((σ1.1 2 ((j3 * 4) + j14)) - 1) 0 0) := ⟨_, rfl⟩
              have hP : va_P D vwCl (wX ad cI κ o σ29) H := by rw [eσ29]; exact hP
              have hD : va_D (kA s0) (wX ad cI κ o σ29) := by rw [eσ29]; exact hD
              refine lv_aload_n hx hb d_Mod_release_93 rfl (lv_at hl 1 rfl) ?_
              refine va_get (D := D) (ci := nMod) (v := .ref (ad 25)) (C := R_Mod) (T := T_Mod) (N := 15) hx hb hts i_Mod hown hK hP 17 rfl rfl 8 (by decide) (hts _ tw_663) (fun _ h9 => h9) rfl d_Mod_release_94 ?_
              refine lv_iconst (v := (nI 4)) hx hb d_Mod_release_97 (by decide) ?_
              refine lv_iload_n hx hb d_Mod_release_98 rfl (lv_at hl 2 rfl) ?_
              refine k_mulC hx hb d_Mod_release_99 ?_
              refine lv_iload_n hx hb d_Mod_release_100 rfl (lv_at hl 3 rfl) ?_
              refine k_addN hx hb d_Mod_release_101 ?_
              refine lv_iconst (v := (pI 0)) hx hb d_Mod_release_102 (by decide) ?_
              refine k_astP (q0 := 25) (t0 := 0) hx hb hK hP hD hS rfl rfl (by omega) (by decide) d_Mod_release_103 (fun H locs hP hD hS => ?_)
              obtain ⟨σ30, eσ30⟩ : ∃ z : kS, z = (st σ29 2 ((j3 * 4) + j14) 0) := ⟨_, rfl⟩
              have hP : va_P D vwCl (wX ad cI κ o σ30) H := by rw [eσ30]; exact hP
              have hD : va_D (kA s0) (wX ad cI κ o σ30) := by rw [eσ30]; exact hD
              refine lv_iload_n hx hb d_Mod_release_104 rfl (lv_at hl 0 rfl) ?_
              exact k_retWI hx hb hr hlocks d_Mod_release_105 hP hD hS (by rw [e0]; (try rw [pI_pred (by omega)]); subst eσ30 eσ29; first | rfl | (simp [rs_release, inn, rqn, fin, rOkV, hq2, hq13, hq19, h22, h24, h28, beq_false_of_ne h22, bne_iff_ne.mpr h22]; done) | (simp [rs_release, inn, rqn, fin, rOkV, hq2, hq13, hq19, h22, h24, h28, beq_false_of_ne h22, bne_iff_ne.mpr h22]; rfl) | (simp [rs_release, inn, rqn, fin, rOkV, hq2, hq13, hq19, h22, beq_iff_eq.mpr h24, beq_iff_eq.mpr h28, kbne h24, kbne h28, beq_false_of_ne h22, bne_iff_ne.mpr h22]; done) | (simp [rs_release, inn, rqn, fin, rOkV, hq2, hq13, hq19, h22, beq_iff_eq.mpr h24, beq_iff_eq.mpr h28, kbne h24, kbne h28, beq_false_of_ne h22, bne_iff_ne.mpr h22]; rfl) | (simp only [rs_release, inn, rqn, fin, rOkV, hq2, hq13, hq19, h22, h24, h28, beq_false_of_ne h22, bne_iff_ne.mpr h22]; rfl))
            · refine lv_aload_n hx hb d_Mod_release_80 rfl (lv_at hl 1 rfl) ?_
              refine lv_iconst (v := (nI 4)) hx hb d_Mod_release_81 (by decide) ?_
              refine k_callW (k_atV (As := [.int (nI 4)]) hx hb hown hE.1 (K0.w tw_721) (hts _ tw_718) (hts _ tw_720) (hts _ tw_9020) (hts _ tw_5) (by decide) np_Mod_raise (va_recv hK hP (ci := nMod) (q0 := 17) rfl rfl) rfl d_Mod_release_82) (c_Mod_raise K0 ad κ o σ1 (nI 4)) (hl.1.trans hml.symm) (Nat.le_of_ble_eq_true rfl) ⟨Nat.le_of_ble_eq_true rfl, Nat.le_of_ble_eq_true rfl, Nat.le_of_ble_eq_true rfl, Nat.le_of_ble_eq_true rfl⟩ (fun U hU hW => ⟨hE.go hW hU hS, by rw [hU]; exact hP, hD⟩) hS (fun H locs hP hD hS => ?_)
              obtain ⟨σ31, eσ31⟩ : ∃ z : kS, z = (sw σ1 2 0 (nI 4)) := ⟨_, rfl⟩
              have hP : va_P D vwCl (wX ad cI κ o σ31) H := by rw [eσ31]; exact hP
              have hD : va_D (kA s0) (wX ad cI κ o σ31) := by rw [eσ31]; exact hD
              have hwσ31 : σ31.1 = σ1.1 := by rw [eσ31]; exact rfl
              exact k_retWI hx hb hr hlocks d_Mod_release_85 hP hD hS (by rw [e0]; (try rw [pI_pred (by omega)]); subst eσ31; first | rfl | (simp [rs_release, inn, rqn, fin, rOkV, hq2, hq13, hq19, h22, h24, h28, beq_false_of_ne h22, beq_false_of_ne h28, bne_iff_ne.mpr h22, bne_iff_ne.mpr h28]; done) | (simp [rs_release, inn, rqn, fin, rOkV, hq2, hq13, hq19, h22, h24, h28, beq_false_of_ne h22, beq_false_of_ne h28, bne_iff_ne.mpr h22, bne_iff_ne.mpr h28]; rfl) | (simp [rs_release, inn, rqn, fin, rOkV, hq2, hq13, hq19, h22, h28, beq_iff_eq.mpr h24, kbne h24, beq_false_of_ne h22, beq_false_of_ne h28, bne_iff_ne.mpr h22, bne_iff_ne.mpr h28]; done) | (simp [rs_release, inn, rqn, fin, rOkV, hq2, hq13, hq19, h22, h28, beq_iff_eq.mpr h24, kbne h24, beq_false_of_ne h22, beq_false_of_ne h28, bne_iff_ne.mpr h22, bne_iff_ne.mpr h28]; rfl) | (simp only [rs_release, inn, rqn, fin, rOkV, hq2, hq13, hq19, h22, h24, h28, beq_false_of_ne h22, beq_false_of_ne h28, bne_iff_ne.mpr h22, bne_iff_ne.mpr h28]; rfl))
        · refine lv_aload_n hx hb d_Mod_release_56 rfl (lv_at hl 1 rfl) ?_
          refine lv_iconst (v := (nI 3)) hx hb d_Mod_release_57 (by decide) ?_
          refine k_callW (k_atV (As := [.int (nI 3)]) hx hb hown hE.1 (K0.w tw_721) (hts _ tw_718) (hts _ tw_720) (hts _ tw_9020) (hts _ tw_5) (by decide) np_Mod_raise (va_recv hK hP (ci := nMod) (q0 := 17) rfl rfl) rfl d_Mod_release_58) (c_Mod_raise K0 ad κ o σ1 (nI 3)) (hl.1.trans hml.symm) (Nat.le_of_ble_eq_true rfl) ⟨Nat.le_of_ble_eq_true rfl, Nat.le_of_ble_eq_true rfl, Nat.le_of_ble_eq_true rfl, Nat.le_of_ble_eq_true rfl⟩ (fun U hU hW => ⟨hE.go hW hU hS, by rw [hU]; exact hP, hD⟩) hS (fun H locs hP hD hS => ?_)
          obtain ⟨σ32, eσ32⟩ : ∃ z : kS, z = (sw σ1 2 0 (nI 3)) := ⟨_, rfl⟩
          have hP : va_P D vwCl (wX ad cI κ o σ32) H := by rw [eσ32]; exact hP
          have hD : va_D (kA s0) (wX ad cI κ o σ32) := by rw [eσ32]; exact hD
          have hwσ32 : σ32.1 = σ1.1 := by rw [eσ32]; exact rfl
          exact k_retWI hx hb hr hlocks d_Mod_release_61 hP hD hS (by rw [e0]; (try rw [pI_pred (by omega)]); subst eσ32; first | rfl | (simp [rs_release, inn, rqn, fin, rOkV, hq2, hq13, hq19, h22]; done) | (simp [rs_release, inn, rqn, fin, rOkV, hq2, hq13, hq19, h22]; rfl) | (simp [rs_release, inn, rqn, fin, rOkV, hq2, hq13, hq19, beq_iff_eq.mpr h22, kbne h22]; done) | (simp [rs_release, inn, rqn, fin, rOkV, hq2, hq13, hq19, beq_iff_eq.mpr h22, kbne h22]; rfl) | (simp only [rs_release, inn, rqn, fin, rOkV, hq2, hq13, hq19, h22]; rfl))
set_option maxHeartbeats 4000000 in
set_option maxRecDepth 100000 in
theorem c_Mod_start {l : Launch} {s0 : State} {a0 : Array Value} {D : va_G} {cI cL : ClassId} (K0 : k0 l s0 a0 D cI cL) (ad : Nat → Nat) (κ : kS) (o : va_W) (σ : kS) (x : Int32) (ok : kOr σ) : kMet l y_Mod_start (Cond.code y_Mod_start b_Mod_start 2 (some .int)) (rmL 2) [.ref (ad 17), .int x] (kPre D vwCl s0 (wX ad cI κ o) σ) (.ok (fin (t0 σ) (rs_start (t0 σ) x))) (kBw D vwCl s0 (wX ad cI κ o)) := by
  refine k_of (by decide) (Nat.le_of_ble_eq_true rfl) ?_
  intro p e9 s m below meth c hx hb hr hlocks hown hml hex hpre ls hl
  obtain ⟨hE, hP, hD⟩ := hpre
  obtain ⟨hts, hK⟩ := K0.at (args := ([.ref (ad 17), .int x] : List Value).toArray) hE
  have hl : lv_has ls 2 [(0, .ref (ad 17)), (1, .int x)] := hl
  have hS : va_S (kA s0) s.heap s.heap [] := va_S.rf
  refine lv_aload_n hx hb d_Mod_start_0 rfl (lv_at hl 0 rfl) ?_
  refine lv_iconst (v := (nI 0)) hx hb d_Mod_start_1 (by decide) ?_
  refine va_put (D := D) (ci := nMod) (v := .int (nI 0)) (ty := .int) (C := R_Mod) (T := T_Mod) (N := 15) hx hb hts i_Mod ty_Mod ty_Mod_ok nm_Mod hown hK hP hD hS 17 rfl rfl 0 (by decide) (hts _ tw_655) (fun _ h9 => h9) rfl (by decide +kernel) rfl rfl (Nat.le_of_ble_eq_true rfl) d_Mod_start_2 (fun H locs hP hD hS => ?_)
  obtain ⟨σ1, eσ1⟩ : ∃ z : kS, z = (sw σ 2 0 (nI 0)) := ⟨_, rfl⟩
  have hP : va_P D vwCl (wX ad cI κ o σ1) H := by rw [eσ1]; exact hP
  have hD : va_D (kA s0) (wX ad cI κ o σ1) := by rw [eσ1]; exact hD
  have e0 : t0 σ = σ1 := eσ1.symm
  have ok1 : kOr σ1 := by rw [eσ1]; exact ok
  obtain ⟨o1, o2, o3, o4, o5, o6, o7, o8, o10, o0, ⟨oc1, oc2⟩, oc3, or6⟩ := id ok1
  have hr0 : σ1.1 6 (σ1.1 11 0) ≠ 0 := or6 _ oc2 (by omega)
  have hr1 : σ1.1 6 (σ1.1 11 0) < 21 := o6 _ oc2
  refine lv_iload_n hx hb d_Mod_start_5 rfl (lv_at hl 1 rfl) ?_
  rcases hq2 : rg x 1 5 with _ | j3
  · refine k_callR (k_atS (As := [.int x]) hx hb hown hE.1 (K0.w tw_711) rfl k_w9 (hts _ tw_709) (hts _ tw_710) (hts _ tw_5) (by decide) np_Mod_isProcess rfl d_Mod_start_6) (kz_n hq2 (c_Mod_isProcess K0 ad κ o σ1 x)) (hl.1.trans hml.symm) (Nat.le_of_ble_eq_true rfl) ⟨Nat.le_of_ble_eq_true rfl, Nat.le_of_ble_eq_true rfl, Nat.le_of_ble_eq_true rfl, Nat.le_of_ble_eq_true rfl⟩ (fun U hU hW => ⟨hE.go hW hU hS, by rw [hU]; exact hP, hD⟩) ?_
    refine k_ifN0 (tgt := 18) (by decide) hx hb d_Mod_start_9 (by decide) (fun h9 => absurd h9 (by decide)) (fun _ => ?_)
    refine lv_aload_n hx hb d_Mod_start_12 rfl (lv_at hl 0 rfl) ?_
    refine lv_iconst (v := (nI 1)) hx hb d_Mod_start_13 (by decide) ?_
    refine k_callW (k_atV (As := [.int (nI 1)]) hx hb hown hE.1 (K0.w tw_721) (hts _ tw_718) (hts _ tw_720) (hts _ tw_9020) (hts _ tw_5) (by decide) np_Mod_raise (va_recv hK hP (ci := nMod) (q0 := 17) rfl rfl) rfl d_Mod_start_14) (c_Mod_raise K0 ad κ o σ1 (nI 1)) (hl.1.trans hml.symm) (Nat.le_of_ble_eq_true rfl) ⟨Nat.le_of_ble_eq_true rfl, Nat.le_of_ble_eq_true rfl, Nat.le_of_ble_eq_true rfl, Nat.le_of_ble_eq_true rfl⟩ (fun U hU hW => ⟨hE.go hW hU hS, by rw [hU]; exact hP, hD⟩) hS (fun H locs hP hD hS => ?_)
    obtain ⟨σ7, eσ7⟩ : ∃ z : kS, z = (sw σ1 2 0 (nI 1)) := ⟨_, rfl⟩
    have hP : va_P D vwCl (wX ad cI κ o σ7) H := by rw [eσ7]; exact hP
    have hD : va_D (kA s0) (wX ad cI κ o σ7) := by rw [eσ7]; exact hD
    have hwσ7 : σ7.1 = σ1.1 := by rw [eσ7]; exact rfl
    exact k_retWI hx hb hr hlocks d_Mod_start_17 hP hD hS (by rw [e0]; subst eσ7; first | rfl | (simp [rs_start, inn, rqn, fin, rOkV, hq2]; done) | (simp [rs_start, inn, rqn, fin, rOkV, hq2]; rfl) | (simp [rs_start, inn, rqn, fin, rOkV, hq2]; done) | (simp [rs_start, inn, rqn, fin, rOkV, hq2]; rfl) | (simp only [rs_start, inn, rqn, fin, rOkV, hq2]; rfl))
  · refine k_callR (k_atS (As := [.int x]) hx hb hown hE.1 (K0.w tw_711) rfl k_w9 (hts _ tw_709) (hts _ tw_710) (hts _ tw_5) (by decide) np_Mod_isProcess rfl d_Mod_start_6) (kz_s hq2 (c_Mod_isProcess K0 ad κ o σ1 x)) (hl.1.trans hml.symm) (Nat.le_of_ble_eq_true rfl) ⟨Nat.le_of_ble_eq_true rfl, Nat.le_of_ble_eq_true rfl, Nat.le_of_ble_eq_true rfl, Nat.le_of_ble_eq_true rfl⟩ (fun U hU hW => ⟨hE.go hW hU hS, by rw [hU]; exact hP, hD⟩) ?_
    obtain ⟨rfl, ha4, hb_5, hc_6⟩ := rg_some hq2
    refine k_ifN0 (tgt := 18) (by decide) hx hb d_Mod_start_9 (by decide) (fun _ => ?_) (fun h9 => absurd h9 (by decide))
    refine lv_aload_n hx hb d_Mod_start_18 rfl (lv_at hl 0 rfl) ?_
    refine va_get (D := D) (ci := nMod) (v := .ref (ad 18)) (C := R_Mod) (T := T_Mod) (N := 15) hx hb hts i_Mod hown hK hP 17 rfl rfl 1 (by decide) (hts _ tw_656) (fun _ h9 => h9) rfl d_Mod_start_19 ?_
    refine lv_iload_n hx hb d_Mod_start_22 rfl (lv_at hl 1 rfl) ?_
    refine k_aldN (q0 := 18) (t0 := 0) hx hb hK hP rfl rfl (by omega) (by decide) d_Mod_start_23 ?_
    have ho8 := o4 j3 (by omega)
    refine lv_iconst (v := (nI 1)) hx hb d_Mod_start_24 (by decide) ?_
    refine k_neN (tgt := 41) (Nat.lt_of_lt_of_le (ok1.b4 _ (by omega)) (by decide)) (by omega) hx hb d_Mod_start_25 (by decide) (fun h9 => ?_) (fun h9 => ?_)
    · refine lv_aload_n hx hb d_Mod_start_41 rfl (lv_at hl 0 rfl) ?_
      refine lv_iconst (v := (nI 2)) hx hb d_Mod_start_42 (by decide) ?_
      refine k_callW (k_atV (As := [.int (nI 2)]) hx hb hown hE.1 (K0.w tw_721) (hts _ tw_718) (hts _ tw_720) (hts _ tw_9020) (hts _ tw_5) (by decide) np_Mod_raise (va_recv hK hP (ci := nMod) (q0 := 17) rfl rfl) rfl d_Mod_start_43) (c_Mod_raise K0 ad κ o σ1 (nI 2)) (hl.1.trans hml.symm) (Nat.le_of_ble_eq_true rfl) ⟨Nat.le_of_ble_eq_true rfl, Nat.le_of_ble_eq_true rfl, Nat.le_of_ble_eq_true rfl, Nat.le_of_ble_eq_true rfl⟩ (fun U hU hW => ⟨hE.go hW hU hS, by rw [hU]; exact hP, hD⟩) hS (fun H locs hP hD hS => ?_)
      obtain ⟨σ10, eσ10⟩ : ∃ z : kS, z = (sw σ1 2 0 (nI 2)) := ⟨_, rfl⟩
      have hP : va_P D vwCl (wX ad cI κ o σ10) H := by rw [eσ10]; exact hP
      have hD : va_D (kA s0) (wX ad cI κ o σ10) := by rw [eσ10]; exact hD
      have hwσ10 : σ10.1 = σ1.1 := by rw [eσ10]; exact rfl
      exact k_retWI hx hb hr hlocks d_Mod_start_46 hP hD hS (by rw [e0]; subst eσ10; first | rfl | (simp [rs_start, inn, rqn, fin, rOkV, hq2, h9, beq_false_of_ne h9, bne_iff_ne.mpr h9]; done) | (simp [rs_start, inn, rqn, fin, rOkV, hq2, h9, beq_false_of_ne h9, bne_iff_ne.mpr h9]; rfl) | (simp [rs_start, inn, rqn, fin, rOkV, hq2, h9, beq_false_of_ne h9, bne_iff_ne.mpr h9]; done) | (simp [rs_start, inn, rqn, fin, rOkV, hq2, h9, beq_false_of_ne h9, bne_iff_ne.mpr h9]; rfl) | (simp only [rs_start, inn, rqn, fin, rOkV, hq2, h9, beq_false_of_ne h9, bne_iff_ne.mpr h9]; rfl))
    · refine lv_aload_n hx hb d_Mod_start_28 rfl (lv_at hl 0 rfl) ?_
      refine va_get (D := D) (ci := nMod) (v := .ref (ad 19)) (C := R_Mod) (T := T_Mod) (N := 15) hx hb hts i_Mod hown hK hP 17 rfl rfl 2 (by decide) (hts _ tw_657) (fun _ h9 => h9) rfl d_Mod_start_29 ?_
      refine lv_iload_n hx hb d_Mod_start_32 rfl (lv_at hl 1 rfl) ?_
      refine k_aldN (q0 := 19) (t0 := 0) hx hb hK hP rfl rfl (by omega) (by decide) d_Mod_start_33 ?_
      have ho11 := o5 j3 (by omega)
      refine lv_aload_n hx hb d_Mod_start_34 rfl (lv_at hl 0 rfl) ?_
      refine va_get (D := D) (ci := nMod) (v := .int (nI (σ1.1 11 0))) (C := R_Mod) (T := T_Mod) (N := 15) hx hb hts i_Mod hown hK hP 17 rfl rfl 13 (by decide) (hts _ tw_668) (fun _ h9 => h9) rfl d_Mod_start_35 ?_
      refine k_eqN (tgt := 47) (Nat.lt_of_lt_of_le (ok1.b5 _ (by omega)) (by decide)) (by omega) hx hb d_Mod_start_38 (by decide) (fun h12 => ?_) (fun h12 => ?_)
      · refine lv_aload_n hx hb d_Mod_start_47 rfl (lv_at hl 0 rfl) ?_
        refine va_get (D := D) (ci := nMod) (v := .ref (ad 18)) (C := R_Mod) (T := T_Mod) (N := 15) hx hb hts i_Mod hown hK hP 17 rfl rfl 1 (by decide) (hts _ tw_656) (fun _ h9 => h9) rfl d_Mod_start_48 ?_
        refine lv_iload_n hx hb d_Mod_start_51 rfl (lv_at hl 1 rfl) ?_
        refine lv_iconst (v := (nI 2)) hx hb d_Mod_start_52 (by decide) ?_
        refine k_astN (q0 := 18) (t0 := 0) hx hb hK hP hD hS rfl rfl (by omega) (by decide) d_Mod_start_53 (fun H locs hP hD hS => ?_)
        obtain ⟨σ13, eσ13⟩ : ∃ z : kS, z = (st σ1 4 j3 2) := ⟨_, rfl⟩
        have hP : va_P D vwCl (wX ad cI κ o σ13) H := by rw [eσ13]; exact hP
        have hD : va_D (kA s0) (wX ad cI κ o σ13) := by rw [eσ13]; exact hD
        refine lv_iconst (v := (nI 1)) hx hb d_Mod_start_54 (by decide) ?_
        exact k_retWI hx hb hr hlocks d_Mod_start_55 hP hD hS (by rw [e0]; subst eσ13; first | rfl | (simp [rs_start, inn, rqn, fin, rOkV, hq2, h9, h12]; done) | (simp [rs_start, inn, rqn, fin, rOkV, hq2, h9, h12]; rfl) | (simp [rs_start, inn, rqn, fin, rOkV, hq2, beq_iff_eq.mpr h9, beq_iff_eq.mpr h12, kbne h9, kbne h12]; done) | (simp [rs_start, inn, rqn, fin, rOkV, hq2, beq_iff_eq.mpr h9, beq_iff_eq.mpr h12, kbne h9, kbne h12]; rfl) | (simp only [rs_start, inn, rqn, fin, rOkV, hq2, h9, h12]; rfl))
      · refine lv_aload_n hx hb d_Mod_start_41 rfl (lv_at hl 0 rfl) ?_
        refine lv_iconst (v := (nI 2)) hx hb d_Mod_start_42 (by decide) ?_
        refine k_callW (k_atV (As := [.int (nI 2)]) hx hb hown hE.1 (K0.w tw_721) (hts _ tw_718) (hts _ tw_720) (hts _ tw_9020) (hts _ tw_5) (by decide) np_Mod_raise (va_recv hK hP (ci := nMod) (q0 := 17) rfl rfl) rfl d_Mod_start_43) (c_Mod_raise K0 ad κ o σ1 (nI 2)) (hl.1.trans hml.symm) (Nat.le_of_ble_eq_true rfl) ⟨Nat.le_of_ble_eq_true rfl, Nat.le_of_ble_eq_true rfl, Nat.le_of_ble_eq_true rfl, Nat.le_of_ble_eq_true rfl⟩ (fun U hU hW => ⟨hE.go hW hU hS, by rw [hU]; exact hP, hD⟩) hS (fun H locs hP hD hS => ?_)
        obtain ⟨σ14, eσ14⟩ : ∃ z : kS, z = (sw σ1 2 0 (nI 2)) := ⟨_, rfl⟩
        have hP : va_P D vwCl (wX ad cI κ o σ14) H := by rw [eσ14]; exact hP
        have hD : va_D (kA s0) (wX ad cI κ o σ14) := by rw [eσ14]; exact hD
        have hwσ14 : σ14.1 = σ1.1 := by rw [eσ14]; exact rfl
        exact k_retWI hx hb hr hlocks d_Mod_start_46 hP hD hS (by rw [e0]; subst eσ14; first | rfl | (simp [rs_start, inn, rqn, fin, rOkV, hq2, h9, h12, beq_false_of_ne h12, bne_iff_ne.mpr h12]; done) | (simp [rs_start, inn, rqn, fin, rOkV, hq2, h9, h12, beq_false_of_ne h12, bne_iff_ne.mpr h12]; rfl) | (simp [rs_start, inn, rqn, fin, rOkV, hq2, h12, beq_iff_eq.mpr h9, kbne h9, beq_false_of_ne h12, bne_iff_ne.mpr h12]; done) | (simp [rs_start, inn, rqn, fin, rOkV, hq2, h12, beq_iff_eq.mpr h9, kbne h9, beq_false_of_ne h12, bne_iff_ne.mpr h12]; rfl) | (simp only [rs_start, inn, rqn, fin, rOkV, hq2, h9, h12, beq_false_of_ne h12, bne_iff_ne.mpr h12]; rfl))
set_option maxHeartbeats 4000000 in
set_option maxRecDepth 100000 in
theorem c_Mod_give {l : Launch} {s0 : State} {a0 : Array Value} {D : va_G} {cI cL : ClassId} (K0 : k0 l s0 a0 D cI cL) (ad : Nat → Nat) (κ : kS) (o : va_W) (σ : kS) (x : Int32) (ok : kOr σ) : kMet l y_Mod_give (Cond.code y_Mod_give b_Mod_give 2 (some .int)) (rmL 2) [.ref (ad 17), .int x] (kPre D vwCl s0 (wX ad cI κ o) σ) (.ok (fin (t0 σ) (rs_give (t0 σ) x))) (kBw D vwCl s0 (wX ad cI κ o)) := by
  refine k_of (by decide) (Nat.le_of_ble_eq_true rfl) ?_
  intro p e9 s m below meth c hx hb hr hlocks hown hml hex hpre ls hl
  obtain ⟨hE, hP, hD⟩ := hpre
  obtain ⟨hts, hK⟩ := K0.at (args := ([.ref (ad 17), .int x] : List Value).toArray) hE
  have hl : lv_has ls 2 [(0, .ref (ad 17)), (1, .int x)] := hl
  have hS : va_S (kA s0) s.heap s.heap [] := va_S.rf
  refine lv_aload_n hx hb d_Mod_give_0 rfl (lv_at hl 0 rfl) ?_
  refine lv_iconst (v := (nI 0)) hx hb d_Mod_give_1 (by decide) ?_
  refine va_put (D := D) (ci := nMod) (v := .int (nI 0)) (ty := .int) (C := R_Mod) (T := T_Mod) (N := 15) hx hb hts i_Mod ty_Mod ty_Mod_ok nm_Mod hown hK hP hD hS 17 rfl rfl 0 (by decide) (hts _ tw_655) (fun _ h9 => h9) rfl (by decide +kernel) rfl rfl (Nat.le_of_ble_eq_true rfl) d_Mod_give_2 (fun H locs hP hD hS => ?_)
  obtain ⟨σ1, eσ1⟩ : ∃ z : kS, z = (sw σ 2 0 (nI 0)) := ⟨_, rfl⟩
  have hP : va_P D vwCl (wX ad cI κ o σ1) H := by rw [eσ1]; exact hP
  have hD : va_D (kA s0) (wX ad cI κ o σ1) := by rw [eσ1]; exact hD
  have e0 : t0 σ = σ1 := eσ1.symm
  have ok1 : kOr σ1 := by rw [eσ1]; exact ok
  obtain ⟨o1, o2, o3, o4, o5, o6, o7, o8, o10, o0, ⟨oc1, oc2⟩, oc3, or6⟩ := id ok1
  have hr0 : σ1.1 6 (σ1.1 11 0) ≠ 0 := or6 _ oc2 (by omega)
  have hr1 : σ1.1 6 (σ1.1 11 0) < 21 := o6 _ oc2
  refine lv_iload_n hx hb d_Mod_give_5 rfl (lv_at hl 1 rfl) ?_
  rcases hq2 : rg x 1 5 with _ | j3
  · refine k_callR (k_atS (As := [.int x]) hx hb hown hE.1 (K0.w tw_711) rfl k_w9 (hts _ tw_709) (hts _ tw_710) (hts _ tw_5) (by decide) np_Mod_isProcess rfl d_Mod_give_6) (kz_n hq2 (c_Mod_isProcess K0 ad κ o σ1 x)) (hl.1.trans hml.symm) (Nat.le_of_ble_eq_true rfl) ⟨Nat.le_of_ble_eq_true rfl, Nat.le_of_ble_eq_true rfl, Nat.le_of_ble_eq_true rfl, Nat.le_of_ble_eq_true rfl⟩ (fun U hU hW => ⟨hE.go hW hU hS, by rw [hU]; exact hP, hD⟩) ?_
    refine k_ifN0 (tgt := 18) (by decide) hx hb d_Mod_give_9 (by decide) (fun h9 => absurd h9 (by decide)) (fun _ => ?_)
    refine lv_aload_n hx hb d_Mod_give_12 rfl (lv_at hl 0 rfl) ?_
    refine lv_iconst (v := (nI 1)) hx hb d_Mod_give_13 (by decide) ?_
    refine k_callW (k_atV (As := [.int (nI 1)]) hx hb hown hE.1 (K0.w tw_721) (hts _ tw_718) (hts _ tw_720) (hts _ tw_9020) (hts _ tw_5) (by decide) np_Mod_raise (va_recv hK hP (ci := nMod) (q0 := 17) rfl rfl) rfl d_Mod_give_14) (c_Mod_raise K0 ad κ o σ1 (nI 1)) (hl.1.trans hml.symm) (Nat.le_of_ble_eq_true rfl) ⟨Nat.le_of_ble_eq_true rfl, Nat.le_of_ble_eq_true rfl, Nat.le_of_ble_eq_true rfl, Nat.le_of_ble_eq_true rfl⟩ (fun U hU hW => ⟨hE.go hW hU hS, by rw [hU]; exact hP, hD⟩) hS (fun H locs hP hD hS => ?_)
    obtain ⟨σ7, eσ7⟩ : ∃ z : kS, z = (sw σ1 2 0 (nI 1)) := ⟨_, rfl⟩
    have hP : va_P D vwCl (wX ad cI κ o σ7) H := by rw [eσ7]; exact hP
    have hD : va_D (kA s0) (wX ad cI κ o σ7) := by rw [eσ7]; exact hD
    have hwσ7 : σ7.1 = σ1.1 := by rw [eσ7]; exact rfl
    exact k_retWI hx hb hr hlocks d_Mod_give_17 hP hD hS (by rw [e0]; subst eσ7; first | rfl | (simp [rs_give, inn, rqn, fin, rOkV, hq2]; done) | (simp [rs_give, inn, rqn, fin, rOkV, hq2]; rfl) | (simp [rs_give, inn, rqn, fin, rOkV, hq2]; done) | (simp [rs_give, inn, rqn, fin, rOkV, hq2]; rfl) | (simp only [rs_give, inn, rqn, fin, rOkV, hq2]; rfl))
  · refine k_callR (k_atS (As := [.int x]) hx hb hown hE.1 (K0.w tw_711) rfl k_w9 (hts _ tw_709) (hts _ tw_710) (hts _ tw_5) (by decide) np_Mod_isProcess rfl d_Mod_give_6) (kz_s hq2 (c_Mod_isProcess K0 ad κ o σ1 x)) (hl.1.trans hml.symm) (Nat.le_of_ble_eq_true rfl) ⟨Nat.le_of_ble_eq_true rfl, Nat.le_of_ble_eq_true rfl, Nat.le_of_ble_eq_true rfl, Nat.le_of_ble_eq_true rfl⟩ (fun U hU hW => ⟨hE.go hW hU hS, by rw [hU]; exact hP, hD⟩) ?_
    obtain ⟨rfl, ha4, hb_5, hc_6⟩ := rg_some hq2
    refine k_ifN0 (tgt := 18) (by decide) hx hb d_Mod_give_9 (by decide) (fun _ => ?_) (fun h9 => absurd h9 (by decide))
    refine lv_aload_n hx hb d_Mod_give_18 rfl (lv_at hl 0 rfl) ?_
    refine va_get (D := D) (ci := nMod) (v := .ref (ad 18)) (C := R_Mod) (T := T_Mod) (N := 15) hx hb hts i_Mod hown hK hP 17 rfl rfl 1 (by decide) (hts _ tw_656) (fun _ h9 => h9) rfl d_Mod_give_19 ?_
    refine lv_iload_n hx hb d_Mod_give_22 rfl (lv_at hl 1 rfl) ?_
    refine k_aldN (q0 := 18) (t0 := 0) hx hb hK hP rfl rfl (by omega) (by decide) d_Mod_give_23 ?_
    have ho8 := o4 j3 (by omega)
    refine lv_iconst (v := (nI 2)) hx hb d_Mod_give_24 (by decide) ?_
    refine k_neN (tgt := 37) (Nat.lt_of_lt_of_le (ok1.b4 _ (by omega)) (by decide)) (by omega) hx hb d_Mod_give_25 (by decide) (fun h9 => ?_) (fun h9 => ?_)
    · refine lv_aload_n hx hb d_Mod_give_37 rfl (lv_at hl 0 rfl) ?_
      refine lv_iconst (v := (nI 2)) hx hb d_Mod_give_38 (by decide) ?_
      refine k_callW (k_atV (As := [.int (nI 2)]) hx hb hown hE.1 (K0.w tw_721) (hts _ tw_718) (hts _ tw_720) (hts _ tw_9020) (hts _ tw_5) (by decide) np_Mod_raise (va_recv hK hP (ci := nMod) (q0 := 17) rfl rfl) rfl d_Mod_give_39) (c_Mod_raise K0 ad κ o σ1 (nI 2)) (hl.1.trans hml.symm) (Nat.le_of_ble_eq_true rfl) ⟨Nat.le_of_ble_eq_true rfl, Nat.le_of_ble_eq_true rfl, Nat.le_of_ble_eq_true rfl, Nat.le_of_ble_eq_true rfl⟩ (fun U hU hW => ⟨hE.go hW hU hS, by rw [hU]; exact hP, hD⟩) hS (fun H locs hP hD hS => ?_)
      obtain ⟨σ10, eσ10⟩ : ∃ z : kS, z = (sw σ1 2 0 (nI 2)) := ⟨_, rfl⟩
      have hP : va_P D vwCl (wX ad cI κ o σ10) H := by rw [eσ10]; exact hP
      have hD : va_D (kA s0) (wX ad cI κ o σ10) := by rw [eσ10]; exact hD
      have hwσ10 : σ10.1 = σ1.1 := by rw [eσ10]; exact rfl
      exact k_retWI hx hb hr hlocks d_Mod_give_42 hP hD hS (by rw [e0]; subst eσ10; first | rfl | (simp [rs_give, inn, rqn, fin, rOkV, hq2, h9, beq_false_of_ne h9, bne_iff_ne.mpr h9]; done) | (simp [rs_give, inn, rqn, fin, rOkV, hq2, h9, beq_false_of_ne h9, bne_iff_ne.mpr h9]; rfl) | (simp [rs_give, inn, rqn, fin, rOkV, hq2, h9, beq_false_of_ne h9, bne_iff_ne.mpr h9]; done) | (simp [rs_give, inn, rqn, fin, rOkV, hq2, h9, beq_false_of_ne h9, bne_iff_ne.mpr h9]; rfl) | (simp only [rs_give, inn, rqn, fin, rOkV, hq2, h9, beq_false_of_ne h9, bne_iff_ne.mpr h9]; rfl))
    · refine lv_aload_n hx hb d_Mod_give_28 rfl (lv_at hl 0 rfl) ?_
      refine lv_iload_n hx hb d_Mod_give_29 rfl (lv_at hl 1 rfl) ?_
      refine lv_iconst (v := (nI 2)) hx hb d_Mod_give_30 (by decide) ?_
      refine k_callW (k_atV (As := [.int (nI j3), .int (nI 2)]) hx hb hown hE.1 (K0.w tw_777) (hts _ tw_774) (hts _ tw_776) (hts _ tw_9027) (hts _ tw_5) (by decide) np_Mod_hand (va_recv hK hP (ci := nMod) (q0 := 17) rfl rfl) rfl d_Mod_give_31) (c_Mod_hand K0 ad κ o σ1 j3 2 (by omega) (by omega)) (hl.1.trans hml.symm) (Nat.le_of_ble_eq_true rfl) ⟨Nat.le_of_ble_eq_true rfl, Nat.le_of_ble_eq_true rfl, Nat.le_of_ble_eq_true rfl, Nat.le_of_ble_eq_true rfl⟩ (fun U hU hW => ⟨hE.go hW hU hS, by rw [hU]; exact hP, hD⟩) hS (fun H locs hP hD hS => ?_)
      obtain ⟨σ11, eσ11⟩ : ∃ z : kS, z = (r_hand σ1 j3 2) := ⟨_, rfl⟩
      have hP : va_P D vwCl (wX ad cI κ o σ11) H := by rw [eσ11]; exact hP
      have hD : va_D (kA s0) (wX ad cI κ o σ11) := by rw [eσ11]; exact hD
      refine lv_goto (tgt := 42) hx hb d_Mod_give_34 (by decide) ?_
      exact k_retWI hx hb hr hlocks d_Mod_give_42 hP hD hS (by rw [e0]; subst eσ11; first | rfl | (simp [rs_give, inn, rqn, fin, rOkV, hq2, h9]; done) | (simp [rs_give, inn, rqn, fin, rOkV, hq2, h9]; rfl) | (simp [rs_give, inn, rqn, fin, rOkV, hq2, beq_iff_eq.mpr h9, kbne h9]; done) | (simp [rs_give, inn, rqn, fin, rOkV, hq2, beq_iff_eq.mpr h9, kbne h9]; rfl) | (simp only [rs_give, inn, rqn, fin, rOkV, hq2, h9]; rfl))
set_option maxHeartbeats 4000000 in
set_option maxRecDepth 100000 in
theorem c_Mod_open {l : Launch} {s0 : State} {a0 : Array Value} {D : va_G} {cI cL : ClassId} (K0 : k0 l s0 a0 D cI cL) (ad : Nat → Nat) (κ : kS) (o : va_W) (σ : kS) (x : Int32) (y : Int32) (z : Int32) (ok : kOr σ) : kMet l y_Mod_open (Cond.code y_Mod_open b_Mod_open 4 (some .int)) (rmL 2) [.ref (ad 17), .int x, .int y, .int z] (kPre D vwCl s0 (wX ad cI κ o) σ) (.ok (fin (t0 σ) (rs_open (t0 σ) x y z))) (kBw D vwCl s0 (wX ad cI κ o)) := by
  refine k_of (by decide) (Nat.le_of_ble_eq_true rfl) ?_
  intro p e9 s m below meth c hx hb hr hlocks hown hml hex hpre ls hl
  obtain ⟨hE, hP, hD⟩ := hpre
  obtain ⟨hts, hK⟩ := K0.at (args := ([.ref (ad 17), .int x, .int y, .int z] : List Value).toArray) hE
  have hl : lv_has ls 4 [(0, .ref (ad 17)), (1, .int x), (2, .int y), (3, .int z)] := hl
  have hS : va_S (kA s0) s.heap s.heap [] := va_S.rf
  refine lv_aload_n hx hb d_Mod_open_0 rfl (lv_at hl 0 rfl) ?_
  refine lv_iconst (v := (nI 0)) hx hb d_Mod_open_1 (by decide) ?_
  refine va_put (D := D) (ci := nMod) (v := .int (nI 0)) (ty := .int) (C := R_Mod) (T := T_Mod) (N := 15) hx hb hts i_Mod ty_Mod ty_Mod_ok nm_Mod hown hK hP hD hS 17 rfl rfl 0 (by decide) (hts _ tw_655) (fun _ h9 => h9) rfl (by decide +kernel) rfl rfl (Nat.le_of_ble_eq_true rfl) d_Mod_open_2 (fun H locs hP hD hS => ?_)
  obtain ⟨σ1, eσ1⟩ : ∃ z : kS, z = (sw σ 2 0 (nI 0)) := ⟨_, rfl⟩
  have hP : va_P D vwCl (wX ad cI κ o σ1) H := by rw [eσ1]; exact hP
  have hD : va_D (kA s0) (wX ad cI κ o σ1) := by rw [eσ1]; exact hD
  have e0 : t0 σ = σ1 := eσ1.symm
  have ok1 : kOr σ1 := by rw [eσ1]; exact ok
  obtain ⟨o1, o2, o3, o4, o5, o6, o7, o8, o10, o0, ⟨oc1, oc2⟩, oc3, or6⟩ := id ok1
  have hr0 : σ1.1 6 (σ1.1 11 0) ≠ 0 := or6 _ oc2 (by omega)
  have hr1 : σ1.1 6 (σ1.1 11 0) < 21 := o6 _ oc2
  refine lv_iload_n hx hb d_Mod_open_5 rfl (lv_at hl 1 rfl) ?_
  rcases hq2 : rg x 1 5 with _ | j3
  · refine k_callR (k_atS (As := [.int x]) hx hb hown hE.1 (K0.w tw_711) rfl k_w9 (hts _ tw_709) (hts _ tw_710) (hts _ tw_5) (by decide) np_Mod_isProcess rfl d_Mod_open_6) (kz_n hq2 (c_Mod_isProcess K0 ad κ o σ1 x)) (hl.1.trans hml.symm) (Nat.le_of_ble_eq_true rfl) ⟨Nat.le_of_ble_eq_true rfl, Nat.le_of_ble_eq_true rfl, Nat.le_of_ble_eq_true rfl, Nat.le_of_ble_eq_true rfl⟩ (fun U hU hW => ⟨hE.go hW hU hS, by rw [hU]; exact hP, hD⟩) ?_
    refine k_if0 (tgt := 30) (by decide) hx hb d_Mod_open_9 (by decide) (fun _ => ?_) (fun h9 => absurd h9 (by decide))
    refine lv_aload_n hx hb d_Mod_open_30 rfl (lv_at hl 0 rfl) ?_
    refine lv_iconst (v := (nI 1)) hx hb d_Mod_open_31 (by decide) ?_
    refine k_callW (k_atV (As := [.int (nI 1)]) hx hb hown hE.1 (K0.w tw_721) (hts _ tw_718) (hts _ tw_720) (hts _ tw_9020) (hts _ tw_5) (by decide) np_Mod_raise (va_recv hK hP (ci := nMod) (q0 := 17) rfl rfl) rfl d_Mod_open_32) (c_Mod_raise K0 ad κ o σ1 (nI 1)) (hl.1.trans hml.symm) (Nat.le_of_ble_eq_true rfl) ⟨Nat.le_of_ble_eq_true rfl, Nat.le_of_ble_eq_true rfl, Nat.le_of_ble_eq_true rfl, Nat.le_of_ble_eq_true rfl⟩ (fun U hU hW => ⟨hE.go hW hU hS, by rw [hU]; exact hP, hD⟩) hS (fun H locs hP hD hS => ?_)
    obtain ⟨σ7, eσ7⟩ : ∃ z : kS, z = (sw σ1 2 0 (nI 1)) := ⟨_, rfl⟩
    have hP : va_P D vwCl (wX ad cI κ o σ7) H := by rw [eσ7]; exact hP
    have hD : va_D (kA s0) (wX ad cI κ o σ7) := by rw [eσ7]; exact hD
    have hwσ7 : σ7.1 = σ1.1 := by rw [eσ7]; exact rfl
    exact k_retWI hx hb hr hlocks d_Mod_open_35 hP hD hS (by rw [e0]; subst eσ7; first | rfl | (simp [rs_open, inn, rqn, fin, rOkV, hq2]; done) | (simp [rs_open, inn, rqn, fin, rOkV, hq2]; rfl) | (simp [rs_open, inn, rqn, fin, rOkV, hq2]; done) | (simp [rs_open, inn, rqn, fin, rOkV, hq2]; rfl) | (simp only [rs_open, inn, rqn, fin, rOkV, hq2]; rfl))
  · refine k_callR (k_atS (As := [.int x]) hx hb hown hE.1 (K0.w tw_711) rfl k_w9 (hts _ tw_709) (hts _ tw_710) (hts _ tw_5) (by decide) np_Mod_isProcess rfl d_Mod_open_6) (kz_s hq2 (c_Mod_isProcess K0 ad κ o σ1 x)) (hl.1.trans hml.symm) (Nat.le_of_ble_eq_true rfl) ⟨Nat.le_of_ble_eq_true rfl, Nat.le_of_ble_eq_true rfl, Nat.le_of_ble_eq_true rfl, Nat.le_of_ble_eq_true rfl⟩ (fun U hU hW => ⟨hE.go hW hU hS, by rw [hU]; exact hP, hD⟩) ?_
    obtain ⟨rfl, ha4, hb_5, hc_6⟩ := rg_some hq2
    refine k_if0 (tgt := 30) (by decide) hx hb d_Mod_open_9 (by decide) (fun h9 => absurd h9 (by decide)) (fun _ => ?_)
    refine lv_iload_n hx hb d_Mod_open_12 rfl (lv_at hl 2 rfl) ?_
    refine lv_iconst (v := (nI 0)) hx hb d_Mod_open_13 (by decide) ?_
    refine lv_iconst (v := (nI 3)) hx hb d_Mod_open_14 (by decide) ?_
    rcases hq13 : rg y 0 3 with _ | j14
    · refine k_callR (k_atS (As := [.int y, .int (nI 0), .int (nI 3)]) hx hb hown hE.1 (K0.w tw_714) rfl k_w9 (hts _ tw_712) (hts _ tw_713) (hts _ tw_5) (by decide) np_Mod_in rfl d_Mod_open_15) (kz_n hq13 (c_Mod_in K0 ad κ o σ1 y 0 3 (by decide) (by decide))) (hl.1.trans hml.symm) (Nat.le_of_ble_eq_true rfl) ⟨Nat.le_of_ble_eq_true rfl, Nat.le_of_ble_eq_true rfl, Nat.le_of_ble_eq_true rfl, Nat.le_of_ble_eq_true rfl⟩ (fun U hU hW => ⟨hE.go hW hU hS, by rw [hU]; exact hP, hD⟩) ?_
      refine k_if0 (tgt := 30) (by decide) hx hb d_Mod_open_18 (by decide) (fun _ => ?_) (fun h9 => absurd h9 (by decide))
      refine lv_aload_n hx hb d_Mod_open_30 rfl (lv_at hl 0 rfl) ?_
      refine lv_iconst (v := (nI 1)) hx hb d_Mod_open_31 (by decide) ?_
      refine k_callW (k_atV (As := [.int (nI 1)]) hx hb hown hE.1 (K0.w tw_721) (hts _ tw_718) (hts _ tw_720) (hts _ tw_9020) (hts _ tw_5) (by decide) np_Mod_raise (va_recv hK hP (ci := nMod) (q0 := 17) rfl rfl) rfl d_Mod_open_32) (c_Mod_raise K0 ad κ o σ1 (nI 1)) (hl.1.trans hml.symm) (Nat.le_of_ble_eq_true rfl) ⟨Nat.le_of_ble_eq_true rfl, Nat.le_of_ble_eq_true rfl, Nat.le_of_ble_eq_true rfl, Nat.le_of_ble_eq_true rfl⟩ (fun U hU hW => ⟨hE.go hW hU hS, by rw [hU]; exact hP, hD⟩) hS (fun H locs hP hD hS => ?_)
      obtain ⟨σ18, eσ18⟩ : ∃ z : kS, z = (sw σ1 2 0 (nI 1)) := ⟨_, rfl⟩
      have hP : va_P D vwCl (wX ad cI κ o σ18) H := by rw [eσ18]; exact hP
      have hD : va_D (kA s0) (wX ad cI κ o σ18) := by rw [eσ18]; exact hD
      have hwσ18 : σ18.1 = σ1.1 := by rw [eσ18]; exact rfl
      exact k_retWI hx hb hr hlocks d_Mod_open_35 hP hD hS (by rw [e0]; subst eσ18; first | rfl | (simp [rs_open, inn, rqn, fin, rOkV, hq2, hq13]; done) | (simp [rs_open, inn, rqn, fin, rOkV, hq2, hq13]; rfl) | (simp [rs_open, inn, rqn, fin, rOkV, hq2, hq13]; done) | (simp [rs_open, inn, rqn, fin, rOkV, hq2, hq13]; rfl) | (simp only [rs_open, inn, rqn, fin, rOkV, hq2, hq13]; rfl))
    · refine k_callR (k_atS (As := [.int y, .int (nI 0), .int (nI 3)]) hx hb hown hE.1 (K0.w tw_714) rfl k_w9 (hts _ tw_712) (hts _ tw_713) (hts _ tw_5) (by decide) np_Mod_in rfl d_Mod_open_15) (kz_s hq13 (c_Mod_in K0 ad κ o σ1 y 0 3 (by decide) (by decide))) (hl.1.trans hml.symm) (Nat.le_of_ble_eq_true rfl) ⟨Nat.le_of_ble_eq_true rfl, Nat.le_of_ble_eq_true rfl, Nat.le_of_ble_eq_true rfl, Nat.le_of_ble_eq_true rfl⟩ (fun U hU hW => ⟨hE.go hW hU hS, by rw [hU]; exact hP, hD⟩) ?_
      obtain ⟨rfl, ha15, hb_16, hc_17⟩ := rg_some hq13
      refine k_if0 (tgt := 30) (by decide) hx hb d_Mod_open_18 (by decide) (fun h9 => absurd h9 (by decide)) (fun _ => ?_)
      refine lv_iload_n hx hb d_Mod_open_21 rfl (lv_at hl 3 rfl) ?_
      refine lv_iconst (v := (nI 0)) hx hb d_Mod_open_22 (by decide) ?_
      refine lv_iconst (v := (nI 2)) hx hb d_Mod_open_23 (by decide) ?_
      rcases hq24 : rg z 0 2 with _ | j25
      · refine k_callR (k_atS (As := [.int z, .int (nI 0), .int (nI 2)]) hx hb hown hE.1 (K0.w tw_714) rfl k_w9 (hts _ tw_712) (hts _ tw_713) (hts _ tw_5) (by decide) np_Mod_in rfl d_Mod_open_24) (kz_n hq24 (c_Mod_in K0 ad κ o σ1 z 0 2 (by decide) (by decide))) (hl.1.trans hml.symm) (Nat.le_of_ble_eq_true rfl) ⟨Nat.le_of_ble_eq_true rfl, Nat.le_of_ble_eq_true rfl, Nat.le_of_ble_eq_true rfl, Nat.le_of_ble_eq_true rfl⟩ (fun U hU hW => ⟨hE.go hW hU hS, by rw [hU]; exact hP, hD⟩) ?_
        refine k_ifN0 (tgt := 36) (by decide) hx hb d_Mod_open_27 (by decide) (fun h9 => absurd h9 (by decide)) (fun _ => ?_)
        refine lv_aload_n hx hb d_Mod_open_30 rfl (lv_at hl 0 rfl) ?_
        refine lv_iconst (v := (nI 1)) hx hb d_Mod_open_31 (by decide) ?_
        refine k_callW (k_atV (As := [.int (nI 1)]) hx hb hown hE.1 (K0.w tw_721) (hts _ tw_718) (hts _ tw_720) (hts _ tw_9020) (hts _ tw_5) (by decide) np_Mod_raise (va_recv hK hP (ci := nMod) (q0 := 17) rfl rfl) rfl d_Mod_open_32) (c_Mod_raise K0 ad κ o σ1 (nI 1)) (hl.1.trans hml.symm) (Nat.le_of_ble_eq_true rfl) ⟨Nat.le_of_ble_eq_true rfl, Nat.le_of_ble_eq_true rfl, Nat.le_of_ble_eq_true rfl, Nat.le_of_ble_eq_true rfl⟩ (fun U hU hW => ⟨hE.go hW hU hS, by rw [hU]; exact hP, hD⟩) hS (fun H locs hP hD hS => ?_)
        obtain ⟨σ29, eσ29⟩ : ∃ z : kS, z = (sw σ1 2 0 (nI 1)) := ⟨_, rfl⟩
        have hP : va_P D vwCl (wX ad cI κ o σ29) H := by rw [eσ29]; exact hP
        have hD : va_D (kA s0) (wX ad cI κ o σ29) := by rw [eσ29]; exact hD
        have hwσ29 : σ29.1 = σ1.1 := by rw [eσ29]; exact rfl
        exact k_retWI hx hb hr hlocks d_Mod_open_35 hP hD hS (by rw [e0]; subst eσ29; first | rfl | (simp [rs_open, inn, rqn, fin, rOkV, hq2, hq13, hq24]; done) | (simp [rs_open, inn, rqn, fin, rOkV, hq2, hq13, hq24]; rfl) | (simp [rs_open, inn, rqn, fin, rOkV, hq2, hq13, hq24]; done) | (simp [rs_open, inn, rqn, fin, rOkV, hq2, hq13, hq24]; rfl) | (simp only [rs_open, inn, rqn, fin, rOkV, hq2, hq13, hq24]; rfl))
      · refine k_callR (k_atS (As := [.int z, .int (nI 0), .int (nI 2)]) hx hb hown hE.1 (K0.w tw_714) rfl k_w9 (hts _ tw_712) (hts _ tw_713) (hts _ tw_5) (by decide) np_Mod_in rfl d_Mod_open_24) (kz_s hq24 (c_Mod_in K0 ad κ o σ1 z 0 2 (by decide) (by decide))) (hl.1.trans hml.symm) (Nat.le_of_ble_eq_true rfl) ⟨Nat.le_of_ble_eq_true rfl, Nat.le_of_ble_eq_true rfl, Nat.le_of_ble_eq_true rfl, Nat.le_of_ble_eq_true rfl⟩ (fun U hU hW => ⟨hE.go hW hU hS, by rw [hU]; exact hP, hD⟩) ?_
        obtain ⟨rfl, ha26, hb_27, hc_28⟩ := rg_some hq24
        refine k_ifN0 (tgt := 36) (by decide) hx hb d_Mod_open_27 (by decide) (fun _ => ?_) (fun h9 => absurd h9 (by decide))
        refine lv_aload_n hx hb d_Mod_open_36 rfl (lv_at hl 0 rfl) ?_
        refine lv_iload_n hx hb d_Mod_open_37 rfl (lv_at hl 1 rfl) ?_
        rcases hq30 : rmine σ1 j3 with _ | _
        · refine k_callR (k_atV (As := [.int (nI j3)]) hx hb hown hE.1 (K0.w tw_741) (hts _ tw_738) (hts _ tw_740) (hts _ tw_9024) (hts _ tw_5) (by decide) np_Mod_mine (va_recv hK hP (ci := nMod) (q0 := 17) rfl rfl) rfl d_Mod_open_38) (kb_f hq30 (c_Mod_mine K0 ad κ o σ1 j3 (by omega) ok1.b4 ok1.b5 (by omega))) (hl.1.trans hml.symm) (Nat.le_of_ble_eq_true rfl) ⟨Nat.le_of_ble_eq_true rfl, Nat.le_of_ble_eq_true rfl, Nat.le_of_ble_eq_true rfl, Nat.le_of_ble_eq_true rfl⟩ (fun U hU hW => ⟨hE.go hW hU hS, by rw [hU]; exact hP, hD⟩) ?_
          refine k_ifN0 (tgt := 50) (by decide) hx hb d_Mod_open_41 (by decide) (fun h9 => absurd h9 (by decide)) (fun _ => ?_)
          refine lv_aload_n hx hb d_Mod_open_44 rfl (lv_at hl 0 rfl) ?_
          refine lv_iconst (v := (nI 2)) hx hb d_Mod_open_45 (by decide) ?_
          refine k_callW (k_atV (As := [.int (nI 2)]) hx hb hown hE.1 (K0.w tw_721) (hts _ tw_718) (hts _ tw_720) (hts _ tw_9020) (hts _ tw_5) (by decide) np_Mod_raise (va_recv hK hP (ci := nMod) (q0 := 17) rfl rfl) rfl d_Mod_open_46) (c_Mod_raise K0 ad κ o σ1 (nI 2)) (hl.1.trans hml.symm) (Nat.le_of_ble_eq_true rfl) ⟨Nat.le_of_ble_eq_true rfl, Nat.le_of_ble_eq_true rfl, Nat.le_of_ble_eq_true rfl, Nat.le_of_ble_eq_true rfl⟩ (fun U hU hW => ⟨hE.go hW hU hS, by rw [hU]; exact hP, hD⟩) hS (fun H locs hP hD hS => ?_)
          obtain ⟨σ31, eσ31⟩ : ∃ z : kS, z = (sw σ1 2 0 (nI 2)) := ⟨_, rfl⟩
          have hP : va_P D vwCl (wX ad cI κ o σ31) H := by rw [eσ31]; exact hP
          have hD : va_D (kA s0) (wX ad cI κ o σ31) := by rw [eσ31]; exact hD
          have hwσ31 : σ31.1 = σ1.1 := by rw [eσ31]; exact rfl
          exact k_retWI hx hb hr hlocks d_Mod_open_49 hP hD hS (by rw [e0]; subst eσ31; first | rfl | (simp [rs_open, inn, rqn, fin, rOkV, hq2, hq13, hq24, hq30]; done) | (simp [rs_open, inn, rqn, fin, rOkV, hq2, hq13, hq24, hq30]; rfl) | (simp [rs_open, inn, rqn, fin, rOkV, hq2, hq13, hq24, hq30]; done) | (simp [rs_open, inn, rqn, fin, rOkV, hq2, hq13, hq24, hq30]; rfl) | (simp only [rs_open, inn, rqn, fin, rOkV, hq2, hq13, hq24, hq30]; rfl))
        · refine k_callR (k_atV (As := [.int (nI j3)]) hx hb hown hE.1 (K0.w tw_741) (hts _ tw_738) (hts _ tw_740) (hts _ tw_9024) (hts _ tw_5) (by decide) np_Mod_mine (va_recv hK hP (ci := nMod) (q0 := 17) rfl rfl) rfl d_Mod_open_38) (kb_t hq30 (c_Mod_mine K0 ad κ o σ1 j3 (by omega) ok1.b4 ok1.b5 (by omega))) (hl.1.trans hml.symm) (Nat.le_of_ble_eq_true rfl) ⟨Nat.le_of_ble_eq_true rfl, Nat.le_of_ble_eq_true rfl, Nat.le_of_ble_eq_true rfl, Nat.le_of_ble_eq_true rfl⟩ (fun U hU hW => ⟨hE.go hW hU hS, by rw [hU]; exact hP, hD⟩) ?_
          refine k_ifN0 (tgt := 50) (by decide) hx hb d_Mod_open_41 (by decide) (fun _ => ?_) (fun h9 => absurd h9 (by decide))
          refine lv_aload_n hx hb d_Mod_open_50 rfl (lv_at hl 0 rfl) ?_
          refine va_get (D := D) (ci := nMod) (v := .ref (ad 21)) (C := R_Mod) (T := T_Mod) (N := 15) hx hb hts i_Mod hown hK hP 17 rfl rfl 4 (by decide) (hts _ tw_659) (fun _ h9 => h9) rfl d_Mod_open_51 ?_
          refine lv_iconst (v := (nI 4)) hx hb d_Mod_open_54 (by decide) ?_
          refine lv_iload_n hx hb d_Mod_open_55 rfl (lv_at hl 1 rfl) ?_
          refine k_mulC hx hb d_Mod_open_56 ?_
          refine lv_iload_n hx hb d_Mod_open_57 rfl (lv_at hl 2 rfl) ?_
          refine k_addN hx hb d_Mod_open_58 ?_
          refine k_aldP (q0 := 21) (t0 := 0) hx hb hK hP rfl rfl (by omega) (by decide) d_Mod_open_59 ?_
          have ho32 := o7 ((j3 * 4) + j14) (by omega)
          refine k_geP0 (tgt := 71) (ok1.b7 _ (by omega)) hx hb d_Mod_open_60 (by decide) (fun h33 => ?_) (fun h33 => ?_)
          · refine lv_aload_n hx hb d_Mod_open_71 rfl (lv_at hl 0 rfl) ?_
            refine lv_iconst (v := (nI 3)) hx hb d_Mod_open_72 (by decide) ?_
            refine k_callW (k_atV (As := [.int (nI 3)]) hx hb hown hE.1 (K0.w tw_721) (hts _ tw_718) (hts _ tw_720) (hts _ tw_9020) (hts _ tw_5) (by decide) np_Mod_raise (va_recv hK hP (ci := nMod) (q0 := 17) rfl rfl) rfl d_Mod_open_73) (c_Mod_raise K0 ad κ o σ1 (nI 3)) (hl.1.trans hml.symm) (Nat.le_of_ble_eq_true rfl) ⟨Nat.le_of_ble_eq_true rfl, Nat.le_of_ble_eq_true rfl, Nat.le_of_ble_eq_true rfl, Nat.le_of_ble_eq_true rfl⟩ (fun U hU hW => ⟨hE.go hW hU hS, by rw [hU]; exact hP, hD⟩) hS (fun H locs hP hD hS => ?_)
            obtain ⟨σ34, eσ34⟩ : ∃ z : kS, z = (sw σ1 2 0 (nI 3)) := ⟨_, rfl⟩
            have hP : va_P D vwCl (wX ad cI κ o σ34) H := by rw [eσ34]; exact hP
            have hD : va_D (kA s0) (wX ad cI κ o σ34) := by rw [eσ34]; exact hD
            have hwσ34 : σ34.1 = σ1.1 := by rw [eσ34]; exact rfl
            exact k_retWI hx hb hr hlocks d_Mod_open_76 hP hD hS (by rw [e0]; subst eσ34; first | rfl | (simp [rs_open, inn, rqn, fin, rOkV, hq2, hq13, hq24, hq30, h33, beq_false_of_ne h33, bne_iff_ne.mpr h33]; done) | (simp [rs_open, inn, rqn, fin, rOkV, hq2, hq13, hq24, hq30, h33, beq_false_of_ne h33, bne_iff_ne.mpr h33]; rfl) | (simp [rs_open, inn, rqn, fin, rOkV, hq2, hq13, hq24, hq30, h33, beq_false_of_ne h33, bne_iff_ne.mpr h33]; done) | (simp [rs_open, inn, rqn, fin, rOkV, hq2, hq13, hq24, hq30, h33, beq_false_of_ne h33, bne_iff_ne.mpr h33]; rfl) | (simp only [rs_open, inn, rqn, fin, rOkV, hq2, hq13, hq24, hq30, h33, beq_false_of_ne h33, bne_iff_ne.mpr h33]; rfl))
          · refine lv_aload_n hx hb d_Mod_open_63 rfl (lv_at hl 0 rfl) ?_
            refine lv_iload_n hx hb d_Mod_open_64 rfl (lv_at hl 3 rfl) ?_
            refine k_callR (k_atV (As := [.int (nI j25)]) hx hb hown hE.1 (K0.w tw_805) (hts _ tw_802) (hts _ tw_804) (hts _ tw_9031) (hts _ tw_5) (by decide) np_Mod_countOf (va_recv hK hP (ci := nMod) (q0 := 17) rfl rfl) rfl d_Mod_open_65) (c_Mod_countOf K0 ad κ o σ1 j25 (by omega) ok1.b7) (hl.1.trans hml.symm) (Nat.le_of_ble_eq_true rfl) ⟨Nat.le_of_ble_eq_true rfl, Nat.le_of_ble_eq_true rfl, Nat.le_of_ble_eq_true rfl, Nat.le_of_ble_eq_true rfl⟩ (fun U hU hW => ⟨hE.go hW hU hS, by rw [hU]; exact hP, hD⟩) ?_
            have hc35 : (rcof σ1 j25) ≤ 24 := cnt_le _ _
            refine k_leN0 (tgt := 77) (by omega) hx hb d_Mod_open_68 (by decide) (fun h36 => ?_) (fun h36 => ?_)
            · refine lv_aload_n hx hb d_Mod_open_77 rfl (lv_at hl 0 rfl) ?_
              refine va_get (D := D) (ci := nMod) (v := .ref (ad 21)) (C := R_Mod) (T := T_Mod) (N := 15) hx hb hts i_Mod hown hK hP 17 rfl rfl 4 (by decide) (hts _ tw_659) (fun _ h9 => h9) rfl d_Mod_open_78 ?_
              refine lv_iconst (v := (nI 4)) hx hb d_Mod_open_81 (by decide) ?_
              refine lv_iload_n hx hb d_Mod_open_82 rfl (lv_at hl 1 rfl) ?_
              refine k_mulC hx hb d_Mod_open_83 ?_
              refine lv_iload_n hx hb d_Mod_open_84 rfl (lv_at hl 2 rfl) ?_
              refine k_addN hx hb d_Mod_open_85 ?_
              refine lv_iload_n hx hb d_Mod_open_86 rfl (lv_at hl 3 rfl) ?_
              refine k_st (st' := [.int (pI (j25 + 1)), .int (nI ((j3 * 4) + j14)), .ref (ad 21)]) (by show ([.int (nI j25), .int (nI ((j3 * 4) + j14)), .ref (ad 21)] : List Value) = _; rw [pI_succ]) ?_
              refine k_astP (q0 := 21) (t0 := 0) hx hb hK hP hD hS rfl rfl (by omega) (by decide) d_Mod_open_87 (fun H locs hP hD hS => ?_)
              obtain ⟨σ37, eσ37⟩ : ∃ z : kS, z = (st σ1 7 ((j3 * 4) + j14) (j25 + 1)) := ⟨_, rfl⟩
              have hP : va_P D vwCl (wX ad cI κ o σ37) H := by rw [eσ37]; exact hP
              have hD : va_D (kA s0) (wX ad cI κ o σ37) := by rw [eσ37]; exact hD
              refine lv_aload_n hx hb d_Mod_open_88 rfl (lv_at hl 0 rfl) ?_
              refine va_get (D := D) (ci := nMod) (v := .ref (ad 29)) (C := R_Mod) (T := T_Mod) (N := 15) hx hb hts i_Mod hown hK hP 17 rfl rfl 12 (by decide) (hts _ tw_667) (fun _ h9 => h9) rfl d_Mod_open_89 ?_
              refine lv_iload_n hx hb d_Mod_open_92 rfl (lv_at hl 3 rfl) ?_
              refine lv_iconst (v := (nI 0)) hx hb d_Mod_open_93 (by decide) ?_
              refine k_astN (q0 := 29) (t0 := 0) hx hb hK hP hD hS rfl rfl (by omega) (by decide) d_Mod_open_94 (fun H locs hP hD hS => ?_)
              obtain ⟨σ38, eσ38⟩ : ∃ z : kS, z = (st σ37 10 j25 0) := ⟨_, rfl⟩
              have hP : va_P D vwCl (wX ad cI κ o σ38) H := by rw [eσ38]; exact hP
              have hD : va_D (kA s0) (wX ad cI κ o σ38) := by rw [eσ38]; exact hD
              refine lv_iconst (v := (nI 1)) hx hb d_Mod_open_95 (by decide) ?_
              exact k_retWI hx hb hr hlocks d_Mod_open_96 hP hD hS (by rw [e0]; subst eσ38 eσ37; first | rfl | (simp [rs_open, inn, rqn, fin, rOkV, hq2, hq13, hq24, hq30, h33, h36]; done) | (simp [rs_open, inn, rqn, fin, rOkV, hq2, hq13, hq24, hq30, h33, h36]; rfl) | (simp [rs_open, inn, rqn, fin, rOkV, hq2, hq13, hq24, hq30, beq_iff_eq.mpr h33, beq_iff_eq.mpr h36, kbne h33, kbne h36]; done) | (simp [rs_open, inn, rqn, fin, rOkV, hq2, hq13, hq24, hq30, beq_iff_eq.mpr h33, beq_iff_eq.mpr h36, kbne h33, kbne h36]; rfl) | (simp only [rs_open, inn, rqn, fin, rOkV, hq2, hq13, hq24, hq30, h33, h36]; rfl))
            · refine lv_aload_n hx hb d_Mod_open_71 rfl (lv_at hl 0 rfl) ?_
              refine lv_iconst (v := (nI 3)) hx hb d_Mod_open_72 (by decide) ?_
              refine k_callW (k_atV (As := [.int (nI 3)]) hx hb hown hE.1 (K0.w tw_721) (hts _ tw_718) (hts _ tw_720) (hts _ tw_9020) (hts _ tw_5) (by decide) np_Mod_raise (va_recv hK hP (ci := nMod) (q0 := 17) rfl rfl) rfl d_Mod_open_73) (c_Mod_raise K0 ad κ o σ1 (nI 3)) (hl.1.trans hml.symm) (Nat.le_of_ble_eq_true rfl) ⟨Nat.le_of_ble_eq_true rfl, Nat.le_of_ble_eq_true rfl, Nat.le_of_ble_eq_true rfl, Nat.le_of_ble_eq_true rfl⟩ (fun U hU hW => ⟨hE.go hW hU hS, by rw [hU]; exact hP, hD⟩) hS (fun H locs hP hD hS => ?_)
              obtain ⟨σ39, eσ39⟩ : ∃ z : kS, z = (sw σ1 2 0 (nI 3)) := ⟨_, rfl⟩
              have hP : va_P D vwCl (wX ad cI κ o σ39) H := by rw [eσ39]; exact hP
              have hD : va_D (kA s0) (wX ad cI κ o σ39) := by rw [eσ39]; exact hD
              have hwσ39 : σ39.1 = σ1.1 := by rw [eσ39]; exact rfl
              exact k_retWI hx hb hr hlocks d_Mod_open_76 hP hD hS (by rw [e0]; subst eσ39; first | rfl | (simp [rs_open, inn, rqn, fin, rOkV, hq2, hq13, hq24, hq30, h33, h36, beq_false_of_ne h36, bne_iff_ne.mpr h36]; done) | (simp [rs_open, inn, rqn, fin, rOkV, hq2, hq13, hq24, hq30, h33, h36, beq_false_of_ne h36, bne_iff_ne.mpr h36]; rfl) | (simp [rs_open, inn, rqn, fin, rOkV, hq2, hq13, hq24, hq30, h36, beq_iff_eq.mpr h33, kbne h33, beq_false_of_ne h36, bne_iff_ne.mpr h36]; done) | (simp [rs_open, inn, rqn, fin, rOkV, hq2, hq13, hq24, hq30, h36, beq_iff_eq.mpr h33, kbne h33, beq_false_of_ne h36, bne_iff_ne.mpr h36]; rfl) | (simp only [rs_open, inn, rqn, fin, rOkV, hq2, hq13, hq24, hq30, h33, h36, beq_false_of_ne h36, bne_iff_ne.mpr h36]; rfl))
set_option maxHeartbeats 4000000 in
set_option maxRecDepth 100000 in
theorem c_Mod_share {l : Launch} {s0 : State} {a0 : Array Value} {D : va_G} {cI cL : ClassId} (K0 : k0 l s0 a0 D cI cL) (ad : Nat → Nat) (κ : kS) (o : va_W) (σ : kS) (x : Int32) (y : Int32) (z : Int32) (ok : kOr σ) : kMet l y_Mod_share (Cond.code y_Mod_share b_Mod_share 5 (some .int)) (rmL 2) [.ref (ad 17), .int x, .int y, .int z] (kPre D vwCl s0 (wX ad cI κ o) σ) (.ok (fin (t0 σ) (rs_share (t0 σ) x y z))) (kBw D vwCl s0 (wX ad cI κ o)) := by
  refine k_of (by decide) (Nat.le_of_ble_eq_true rfl) ?_
  intro p e9 s m below meth c hx hb hr hlocks hown hml hex hpre ls hl
  obtain ⟨hE, hP, hD⟩ := hpre
  obtain ⟨hts, hK⟩ := K0.at (args := ([.ref (ad 17), .int x, .int y, .int z] : List Value).toArray) hE
  have hl : lv_has ls 5 [(0, .ref (ad 17)), (1, .int x), (2, .int y), (3, .int z)] := hl
  have hS : va_S (kA s0) s.heap s.heap [] := va_S.rf
  refine lv_aload_n hx hb d_Mod_share_0 rfl (lv_at hl 0 rfl) ?_
  refine lv_iconst (v := (nI 0)) hx hb d_Mod_share_1 (by decide) ?_
  refine va_put (D := D) (ci := nMod) (v := .int (nI 0)) (ty := .int) (C := R_Mod) (T := T_Mod) (N := 15) hx hb hts i_Mod ty_Mod ty_Mod_ok nm_Mod hown hK hP hD hS 17 rfl rfl 0 (by decide) (hts _ tw_655) (fun _ h9 => h9) rfl (by decide +kernel) rfl rfl (Nat.le_of_ble_eq_true rfl) d_Mod_share_2 (fun H locs hP hD hS => ?_)
  obtain ⟨σ1, eσ1⟩ : ∃ z : kS, z = (sw σ 2 0 (nI 0)) := ⟨_, rfl⟩
  have hP : va_P D vwCl (wX ad cI κ o σ1) H := by rw [eσ1]; exact hP
  have hD : va_D (kA s0) (wX ad cI κ o σ1) := by rw [eσ1]; exact hD
  have e0 : t0 σ = σ1 := eσ1.symm
  have ok1 : kOr σ1 := by rw [eσ1]; exact ok
  obtain ⟨o1, o2, o3, o4, o5, o6, o7, o8, o10, o0, ⟨oc1, oc2⟩, oc3, or6⟩ := id ok1
  have hr0 : σ1.1 6 (σ1.1 11 0) ≠ 0 := or6 _ oc2 (by omega)
  have hr1 : σ1.1 6 (σ1.1 11 0) < 21 := o6 _ oc2
  refine lv_iload_n hx hb d_Mod_share_5 rfl (lv_at hl 1 rfl) ?_
  refine lv_iconst (v := (nI 0)) hx hb d_Mod_share_6 (by decide) ?_
  refine lv_iconst (v := (nI 3)) hx hb d_Mod_share_7 (by decide) ?_
  rcases hq7 : rg x 0 3 with _ | j8
  · refine k_callR (k_atS (As := [.int x, .int (nI 0), .int (nI 3)]) hx hb hown hE.1 (K0.w tw_714) rfl k_w9 (hts _ tw_712) (hts _ tw_713) (hts _ tw_5) (by decide) np_Mod_in rfl d_Mod_share_8) (kz_n hq7 (c_Mod_in K0 ad κ o σ1 x 0 3 (by decide) (by decide))) (hl.1.trans hml.symm) (Nat.le_of_ble_eq_true rfl) ⟨Nat.le_of_ble_eq_true rfl, Nat.le_of_ble_eq_true rfl, Nat.le_of_ble_eq_true rfl, Nat.le_of_ble_eq_true rfl⟩ (fun U hU hW => ⟨hE.go hW hU hS, by rw [hU]; exact hP, hD⟩) ?_
    refine k_if0 (tgt := 30) (by decide) hx hb d_Mod_share_11 (by decide) (fun _ => ?_) (fun h9 => absurd h9 (by decide))
    refine lv_aload_n hx hb d_Mod_share_30 rfl (lv_at hl 0 rfl) ?_
    refine lv_iconst (v := (nI 1)) hx hb d_Mod_share_31 (by decide) ?_
    refine k_callW (k_atV (As := [.int (nI 1)]) hx hb hown hE.1 (K0.w tw_721) (hts _ tw_718) (hts _ tw_720) (hts _ tw_9020) (hts _ tw_5) (by decide) np_Mod_raise (va_recv hK hP (ci := nMod) (q0 := 17) rfl rfl) rfl d_Mod_share_32) (c_Mod_raise K0 ad κ o σ1 (nI 1)) (hl.1.trans hml.symm) (Nat.le_of_ble_eq_true rfl) ⟨Nat.le_of_ble_eq_true rfl, Nat.le_of_ble_eq_true rfl, Nat.le_of_ble_eq_true rfl, Nat.le_of_ble_eq_true rfl⟩ (fun U hU hW => ⟨hE.go hW hU hS, by rw [hU]; exact hP, hD⟩) hS (fun H locs hP hD hS => ?_)
    obtain ⟨σ12, eσ12⟩ : ∃ z : kS, z = (sw σ1 2 0 (nI 1)) := ⟨_, rfl⟩
    have hP : va_P D vwCl (wX ad cI κ o σ12) H := by rw [eσ12]; exact hP
    have hD : va_D (kA s0) (wX ad cI κ o σ12) := by rw [eσ12]; exact hD
    have hwσ12 : σ12.1 = σ1.1 := by rw [eσ12]; exact rfl
    exact k_retWI hx hb hr hlocks d_Mod_share_35 hP hD hS (by rw [e0]; subst eσ12; first | rfl | (simp [rs_share, inn, rqn, fin, rOkV, hq7]; done) | (simp [rs_share, inn, rqn, fin, rOkV, hq7]; rfl) | (simp [rs_share, inn, rqn, fin, rOkV, hq7]; done) | (simp [rs_share, inn, rqn, fin, rOkV, hq7]; rfl) | (simp only [rs_share, inn, rqn, fin, rOkV, hq7]; rfl))
  · refine k_callR (k_atS (As := [.int x, .int (nI 0), .int (nI 3)]) hx hb hown hE.1 (K0.w tw_714) rfl k_w9 (hts _ tw_712) (hts _ tw_713) (hts _ tw_5) (by decide) np_Mod_in rfl d_Mod_share_8) (kz_s hq7 (c_Mod_in K0 ad κ o σ1 x 0 3 (by decide) (by decide))) (hl.1.trans hml.symm) (Nat.le_of_ble_eq_true rfl) ⟨Nat.le_of_ble_eq_true rfl, Nat.le_of_ble_eq_true rfl, Nat.le_of_ble_eq_true rfl, Nat.le_of_ble_eq_true rfl⟩ (fun U hU hW => ⟨hE.go hW hU hS, by rw [hU]; exact hP, hD⟩) ?_
    obtain ⟨rfl, ha9, hb_10, hc_11⟩ := rg_some hq7
    refine k_if0 (tgt := 30) (by decide) hx hb d_Mod_share_11 (by decide) (fun h9 => absurd h9 (by decide)) (fun _ => ?_)
    refine lv_iload_n hx hb d_Mod_share_14 rfl (lv_at hl 2 rfl) ?_
    rcases hq13 : rg y 1 5 with _ | j14
    · refine k_callR (k_atS (As := [.int y]) hx hb hown hE.1 (K0.w tw_711) rfl k_w9 (hts _ tw_709) (hts _ tw_710) (hts _ tw_5) (by decide) np_Mod_isProcess rfl d_Mod_share_15) (kz_n hq13 (c_Mod_isProcess K0 ad κ o σ1 y)) (hl.1.trans hml.symm) (Nat.le_of_ble_eq_true rfl) ⟨Nat.le_of_ble_eq_true rfl, Nat.le_of_ble_eq_true rfl, Nat.le_of_ble_eq_true rfl, Nat.le_of_ble_eq_true rfl⟩ (fun U hU hW => ⟨hE.go hW hU hS, by rw [hU]; exact hP, hD⟩) ?_
      refine k_if0 (tgt := 30) (by decide) hx hb d_Mod_share_18 (by decide) (fun _ => ?_) (fun h9 => absurd h9 (by decide))
      refine lv_aload_n hx hb d_Mod_share_30 rfl (lv_at hl 0 rfl) ?_
      refine lv_iconst (v := (nI 1)) hx hb d_Mod_share_31 (by decide) ?_
      refine k_callW (k_atV (As := [.int (nI 1)]) hx hb hown hE.1 (K0.w tw_721) (hts _ tw_718) (hts _ tw_720) (hts _ tw_9020) (hts _ tw_5) (by decide) np_Mod_raise (va_recv hK hP (ci := nMod) (q0 := 17) rfl rfl) rfl d_Mod_share_32) (c_Mod_raise K0 ad κ o σ1 (nI 1)) (hl.1.trans hml.symm) (Nat.le_of_ble_eq_true rfl) ⟨Nat.le_of_ble_eq_true rfl, Nat.le_of_ble_eq_true rfl, Nat.le_of_ble_eq_true rfl, Nat.le_of_ble_eq_true rfl⟩ (fun U hU hW => ⟨hE.go hW hU hS, by rw [hU]; exact hP, hD⟩) hS (fun H locs hP hD hS => ?_)
      obtain ⟨σ18, eσ18⟩ : ∃ z : kS, z = (sw σ1 2 0 (nI 1)) := ⟨_, rfl⟩
      have hP : va_P D vwCl (wX ad cI κ o σ18) H := by rw [eσ18]; exact hP
      have hD : va_D (kA s0) (wX ad cI κ o σ18) := by rw [eσ18]; exact hD
      have hwσ18 : σ18.1 = σ1.1 := by rw [eσ18]; exact rfl
      exact k_retWI hx hb hr hlocks d_Mod_share_35 hP hD hS (by rw [e0]; subst eσ18; first | rfl | (simp [rs_share, inn, rqn, fin, rOkV, hq7, hq13]; done) | (simp [rs_share, inn, rqn, fin, rOkV, hq7, hq13]; rfl) | (simp [rs_share, inn, rqn, fin, rOkV, hq7, hq13]; done) | (simp [rs_share, inn, rqn, fin, rOkV, hq7, hq13]; rfl) | (simp only [rs_share, inn, rqn, fin, rOkV, hq7, hq13]; rfl))
    · refine k_callR (k_atS (As := [.int y]) hx hb hown hE.1 (K0.w tw_711) rfl k_w9 (hts _ tw_709) (hts _ tw_710) (hts _ tw_5) (by decide) np_Mod_isProcess rfl d_Mod_share_15) (kz_s hq13 (c_Mod_isProcess K0 ad κ o σ1 y)) (hl.1.trans hml.symm) (Nat.le_of_ble_eq_true rfl) ⟨Nat.le_of_ble_eq_true rfl, Nat.le_of_ble_eq_true rfl, Nat.le_of_ble_eq_true rfl, Nat.le_of_ble_eq_true rfl⟩ (fun U hU hW => ⟨hE.go hW hU hS, by rw [hU]; exact hP, hD⟩) ?_
      obtain ⟨rfl, ha15, hb_16, hc_17⟩ := rg_some hq13
      refine k_if0 (tgt := 30) (by decide) hx hb d_Mod_share_18 (by decide) (fun h9 => absurd h9 (by decide)) (fun _ => ?_)
      refine lv_iload_n hx hb d_Mod_share_21 rfl (lv_at hl 3 rfl) ?_
      refine lv_iconst (v := (nI 0)) hx hb d_Mod_share_22 (by decide) ?_
      refine lv_iconst (v := (nI 3)) hx hb d_Mod_share_23 (by decide) ?_
      rcases hq24 : rg z 0 3 with _ | j25
      · refine k_callR (k_atS (As := [.int z, .int (nI 0), .int (nI 3)]) hx hb hown hE.1 (K0.w tw_714) rfl k_w9 (hts _ tw_712) (hts _ tw_713) (hts _ tw_5) (by decide) np_Mod_in rfl d_Mod_share_24) (kz_n hq24 (c_Mod_in K0 ad κ o σ1 z 0 3 (by decide) (by decide))) (hl.1.trans hml.symm) (Nat.le_of_ble_eq_true rfl) ⟨Nat.le_of_ble_eq_true rfl, Nat.le_of_ble_eq_true rfl, Nat.le_of_ble_eq_true rfl, Nat.le_of_ble_eq_true rfl⟩ (fun U hU hW => ⟨hE.go hW hU hS, by rw [hU]; exact hP, hD⟩) ?_
        refine k_ifN0 (tgt := 36) (by decide) hx hb d_Mod_share_27 (by decide) (fun h9 => absurd h9 (by decide)) (fun _ => ?_)
        refine lv_aload_n hx hb d_Mod_share_30 rfl (lv_at hl 0 rfl) ?_
        refine lv_iconst (v := (nI 1)) hx hb d_Mod_share_31 (by decide) ?_
        refine k_callW (k_atV (As := [.int (nI 1)]) hx hb hown hE.1 (K0.w tw_721) (hts _ tw_718) (hts _ tw_720) (hts _ tw_9020) (hts _ tw_5) (by decide) np_Mod_raise (va_recv hK hP (ci := nMod) (q0 := 17) rfl rfl) rfl d_Mod_share_32) (c_Mod_raise K0 ad κ o σ1 (nI 1)) (hl.1.trans hml.symm) (Nat.le_of_ble_eq_true rfl) ⟨Nat.le_of_ble_eq_true rfl, Nat.le_of_ble_eq_true rfl, Nat.le_of_ble_eq_true rfl, Nat.le_of_ble_eq_true rfl⟩ (fun U hU hW => ⟨hE.go hW hU hS, by rw [hU]; exact hP, hD⟩) hS (fun H locs hP hD hS => ?_)
        obtain ⟨σ29, eσ29⟩ : ∃ z : kS, z = (sw σ1 2 0 (nI 1)) := ⟨_, rfl⟩
        have hP : va_P D vwCl (wX ad cI κ o σ29) H := by rw [eσ29]; exact hP
        have hD : va_D (kA s0) (wX ad cI κ o σ29) := by rw [eσ29]; exact hD
        have hwσ29 : σ29.1 = σ1.1 := by rw [eσ29]; exact rfl
        exact k_retWI hx hb hr hlocks d_Mod_share_35 hP hD hS (by rw [e0]; subst eσ29; first | rfl | (simp [rs_share, inn, rqn, fin, rOkV, hq7, hq13, hq24]; done) | (simp [rs_share, inn, rqn, fin, rOkV, hq7, hq13, hq24]; rfl) | (simp [rs_share, inn, rqn, fin, rOkV, hq7, hq13, hq24]; done) | (simp [rs_share, inn, rqn, fin, rOkV, hq7, hq13, hq24]; rfl) | (simp only [rs_share, inn, rqn, fin, rOkV, hq7, hq13, hq24]; rfl))
      · refine k_callR (k_atS (As := [.int z, .int (nI 0), .int (nI 3)]) hx hb hown hE.1 (K0.w tw_714) rfl k_w9 (hts _ tw_712) (hts _ tw_713) (hts _ tw_5) (by decide) np_Mod_in rfl d_Mod_share_24) (kz_s hq24 (c_Mod_in K0 ad κ o σ1 z 0 3 (by decide) (by decide))) (hl.1.trans hml.symm) (Nat.le_of_ble_eq_true rfl) ⟨Nat.le_of_ble_eq_true rfl, Nat.le_of_ble_eq_true rfl, Nat.le_of_ble_eq_true rfl, Nat.le_of_ble_eq_true rfl⟩ (fun U hU hW => ⟨hE.go hW hU hS, by rw [hU]; exact hP, hD⟩) ?_
        obtain ⟨rfl, ha26, hb_27, hc_28⟩ := rg_some hq24
        refine k_ifN0 (tgt := 36) (by decide) hx hb d_Mod_share_27 (by decide) (fun _ => ?_) (fun h9 => absurd h9 (by decide))
        refine lv_aload_n hx hb d_Mod_share_36 rfl (lv_at hl 0 rfl) ?_
        refine lv_iload_n hx hb d_Mod_share_37 rfl (lv_at hl 2 rfl) ?_
        rcases hq30 : rmine σ1 j14 with _ | _
        · refine k_callR (k_atV (As := [.int (nI j14)]) hx hb hown hE.1 (K0.w tw_741) (hts _ tw_738) (hts _ tw_740) (hts _ tw_9024) (hts _ tw_5) (by decide) np_Mod_mine (va_recv hK hP (ci := nMod) (q0 := 17) rfl rfl) rfl d_Mod_share_38) (kb_f hq30 (c_Mod_mine K0 ad κ o σ1 j14 (by omega) ok1.b4 ok1.b5 (by omega))) (hl.1.trans hml.symm) (Nat.le_of_ble_eq_true rfl) ⟨Nat.le_of_ble_eq_true rfl, Nat.le_of_ble_eq_true rfl, Nat.le_of_ble_eq_true rfl, Nat.le_of_ble_eq_true rfl⟩ (fun U hU hW => ⟨hE.go hW hU hS, by rw [hU]; exact hP, hD⟩) ?_
          refine k_ifN0 (tgt := 50) (by decide) hx hb d_Mod_share_41 (by decide) (fun h9 => absurd h9 (by decide)) (fun _ => ?_)
          refine lv_aload_n hx hb d_Mod_share_44 rfl (lv_at hl 0 rfl) ?_
          refine lv_iconst (v := (nI 2)) hx hb d_Mod_share_45 (by decide) ?_
          refine k_callW (k_atV (As := [.int (nI 2)]) hx hb hown hE.1 (K0.w tw_721) (hts _ tw_718) (hts _ tw_720) (hts _ tw_9020) (hts _ tw_5) (by decide) np_Mod_raise (va_recv hK hP (ci := nMod) (q0 := 17) rfl rfl) rfl d_Mod_share_46) (c_Mod_raise K0 ad κ o σ1 (nI 2)) (hl.1.trans hml.symm) (Nat.le_of_ble_eq_true rfl) ⟨Nat.le_of_ble_eq_true rfl, Nat.le_of_ble_eq_true rfl, Nat.le_of_ble_eq_true rfl, Nat.le_of_ble_eq_true rfl⟩ (fun U hU hW => ⟨hE.go hW hU hS, by rw [hU]; exact hP, hD⟩) hS (fun H locs hP hD hS => ?_)
          obtain ⟨σ31, eσ31⟩ : ∃ z : kS, z = (sw σ1 2 0 (nI 2)) := ⟨_, rfl⟩
          have hP : va_P D vwCl (wX ad cI κ o σ31) H := by rw [eσ31]; exact hP
          have hD : va_D (kA s0) (wX ad cI κ o σ31) := by rw [eσ31]; exact hD
          have hwσ31 : σ31.1 = σ1.1 := by rw [eσ31]; exact rfl
          exact k_retWI hx hb hr hlocks d_Mod_share_49 hP hD hS (by rw [e0]; subst eσ31; first | rfl | (simp [rs_share, inn, rqn, fin, rOkV, hq7, hq13, hq24, hq30]; done) | (simp [rs_share, inn, rqn, fin, rOkV, hq7, hq13, hq24, hq30]; rfl) | (simp [rs_share, inn, rqn, fin, rOkV, hq7, hq13, hq24, hq30]; done) | (simp [rs_share, inn, rqn, fin, rOkV, hq7, hq13, hq24, hq30]; rfl) | (simp only [rs_share, inn, rqn, fin, rOkV, hq7, hq13, hq24, hq30]; rfl))
        · refine k_callR (k_atV (As := [.int (nI j14)]) hx hb hown hE.1 (K0.w tw_741) (hts _ tw_738) (hts _ tw_740) (hts _ tw_9024) (hts _ tw_5) (by decide) np_Mod_mine (va_recv hK hP (ci := nMod) (q0 := 17) rfl rfl) rfl d_Mod_share_38) (kb_t hq30 (c_Mod_mine K0 ad κ o σ1 j14 (by omega) ok1.b4 ok1.b5 (by omega))) (hl.1.trans hml.symm) (Nat.le_of_ble_eq_true rfl) ⟨Nat.le_of_ble_eq_true rfl, Nat.le_of_ble_eq_true rfl, Nat.le_of_ble_eq_true rfl, Nat.le_of_ble_eq_true rfl⟩ (fun U hU hW => ⟨hE.go hW hU hS, by rw [hU]; exact hP, hD⟩) ?_
          refine k_ifN0 (tgt := 50) (by decide) hx hb d_Mod_share_41 (by decide) (fun _ => ?_) (fun h9 => absurd h9 (by decide))
          refine lv_aload_n hx hb d_Mod_share_50 rfl (lv_at hl 0 rfl) ?_
          refine va_get (D := D) (ci := nMod) (v := .ref (ad 21)) (C := R_Mod) (T := T_Mod) (N := 15) hx hb hts i_Mod hown hK hP 17 rfl rfl 4 (by decide) (hts _ tw_659) (fun _ h9 => h9) rfl d_Mod_share_51 ?_
          refine lv_iconst (v := (nI 4)) hx hb d_Mod_share_54 (by decide) ?_
          refine lv_aload_n hx hb d_Mod_share_55 rfl (lv_at hl 0 rfl) ?_
          refine va_get (D := D) (ci := nMod) (v := .int (nI (σ1.1 11 0))) (C := R_Mod) (T := T_Mod) (N := 15) hx hb hts i_Mod hown hK hP 17 rfl rfl 13 (by decide) (hts _ tw_668) (fun _ h9 => h9) rfl d_Mod_share_56 ?_
          refine k_mulC hx hb d_Mod_share_59 ?_
          refine lv_iload_n hx hb d_Mod_share_60 rfl (lv_at hl 1 rfl) ?_
          refine k_addN hx hb d_Mod_share_61 ?_
          refine k_aldP (q0 := 21) (t0 := 0) hx hb hK hP rfl rfl (by omega) (by decide) d_Mod_share_62 ?_
          have ho32 := o7 (((σ1.1 11 0) * 4) + j8) (by omega)
          refine lv_istore (lv' := [(4, .int (pI (σ1.1 7 (((σ1.1 11 0) * 4) + j8)))), (0, .ref (ad 17)), (1, .int (nI j8)), (2, .int (nI j14)), (3, .int (nI j25))]) hx hb d_Mod_share_63 hl (by decide) rfl (fun ls hl => ?_)
          refine lv_iload hx hb d_Mod_share_65 (lv_at hl 0 rfl) ?_
          refine k_geP0 (tgt := 76) (ok1.b7 _ (by omega)) hx hb d_Mod_share_67 (by decide) (fun h33 => ?_) (fun h33 => ?_)
          · refine lv_aload_n hx hb d_Mod_share_76 rfl (lv_at hl 1 rfl) ?_
            refine va_get (D := D) (ci := nMod) (v := .ref (ad 21)) (C := R_Mod) (T := T_Mod) (N := 15) hx hb hts i_Mod hown hK hP 17 rfl rfl 4 (by decide) (hts _ tw_659) (fun _ h9 => h9) rfl d_Mod_share_77 ?_
            refine lv_iconst (v := (nI 4)) hx hb d_Mod_share_80 (by decide) ?_
            refine lv_iload_n hx hb d_Mod_share_81 rfl (lv_at hl 3 rfl) ?_
            refine k_mulC hx hb d_Mod_share_82 ?_
            refine lv_iload_n hx hb d_Mod_share_83 rfl (lv_at hl 4 rfl) ?_
            refine k_addN hx hb d_Mod_share_84 ?_
            refine k_aldP (q0 := 21) (t0 := 0) hx hb hK hP rfl rfl (by omega) (by decide) d_Mod_share_85 ?_
            have ho34 := o7 ((j14 * 4) + j25) (by omega)
            refine k_ltP0 (tgt := 95) (ok1.b7 _ (by omega)) hx hb d_Mod_share_86 (by decide) (fun h35 => ?_) (fun h35 => ?_)
            · refine lv_aload_n hx hb d_Mod_share_95 rfl (lv_at hl 1 rfl) ?_
              refine va_get (D := D) (ci := nMod) (v := .ref (ad 21)) (C := R_Mod) (T := T_Mod) (N := 15) hx hb hts i_Mod hown hK hP 17 rfl rfl 4 (by decide) (hts _ tw_659) (fun _ h9 => h9) rfl d_Mod_share_96 ?_
              refine lv_iconst (v := (nI 4)) hx hb d_Mod_share_99 (by decide) ?_
              refine lv_iload_n hx hb d_Mod_share_100 rfl (lv_at hl 3 rfl) ?_
              refine k_mulC hx hb d_Mod_share_101 ?_
              refine lv_iload_n hx hb d_Mod_share_102 rfl (lv_at hl 4 rfl) ?_
              refine k_addN hx hb d_Mod_share_103 ?_
              refine lv_iload hx hb d_Mod_share_104 (lv_at hl 0 rfl) ?_
              refine k_astP (q0 := 21) (t0 := 0) hx hb hK hP hD hS rfl rfl (by omega) (by decide) d_Mod_share_106 (fun H locs hP hD hS => ?_)
              obtain ⟨σ36, eσ36⟩ : ∃ z : kS, z = (st σ1 7 ((j14 * 4) + j25) (σ1.1 7 (((σ1.1 11 0) * 4) + j8))) := ⟨_, rfl⟩
              have hP : va_P D vwCl (wX ad cI κ o σ36) H := by rw [eσ36]; exact hP
              have hD : va_D (kA s0) (wX ad cI κ o σ36) := by rw [eσ36]; exact hD
              refine lv_aload_n hx hb d_Mod_share_107 rfl (lv_at hl 1 rfl) ?_
              refine lv_iload hx hb d_Mod_share_108 (lv_at hl 0 rfl) ?_
              refine k_st (st' := [.int (nI ((σ1.1 7 (((σ1.1 11 0) * 4) + j8)) - 1)), .ref (ad 17)]) (by show ([.int (pI (σ1.1 7 (((σ1.1 11 0) * 4) + j8))), .ref (ad 17)] : List Value) = _; rw [pI_pred (t := (σ1.1 7 (((σ1.1 11 0) * 4) + j8))) (by omega)]) ?_
              refine k_callR (k_atV (As := [.int (nI ((σ1.1 7 (((σ1.1 11 0) * 4) + j8)) - 1))]) hx hb hown hE.1 (K0.w tw_805) (hts _ tw_802) (hts _ tw_804) (hts _ tw_9031) (hts _ tw_5) (by decide) np_Mod_countOf (va_recv hK hP (ci := nMod) (q0 := 17) rfl rfl) rfl d_Mod_share_110) (c_Mod_countOf K0 ad κ o σ36 ((σ1.1 7 (((σ1.1 11 0) * 4) + j8)) - 1) (by omega) (by subst eσ36; first | exact ok1.b7 | exact st_b ok1.b7 (by omega))) (hl.1.trans hml.symm) (Nat.le_of_ble_eq_true rfl) ⟨Nat.le_of_ble_eq_true rfl, Nat.le_of_ble_eq_true rfl, Nat.le_of_ble_eq_true rfl, Nat.le_of_ble_eq_true rfl⟩ (fun U hU hW => ⟨hE.go hW hU hS, by rw [hU]; exact hP, hD⟩) ?_
              have hc37 : (rcof σ36 ((σ1.1 7 (((σ1.1 11 0) * 4) + j8)) - 1)) ≤ 24 := cnt_le _ _
              exact k_retWI hx hb hr hlocks d_Mod_share_113 hP hD hS (by rw [e0]; subst eσ36; first | rfl | (simp [rs_share, inn, rqn, fin, rOkV, hq7, hq13, hq24, hq30, h33, h35, beq_false_of_ne h33, bne_iff_ne.mpr h33]; done) | (simp [rs_share, inn, rqn, fin, rOkV, hq7, hq13, hq24, hq30, h33, h35, beq_false_of_ne h33, bne_iff_ne.mpr h33]; rfl) | (simp [rs_share, inn, rqn, fin, rOkV, hq7, hq13, hq24, hq30, h33, beq_iff_eq.mpr h35, kbne h35, beq_false_of_ne h33, bne_iff_ne.mpr h33]; done) | (simp [rs_share, inn, rqn, fin, rOkV, hq7, hq13, hq24, hq30, h33, beq_iff_eq.mpr h35, kbne h35, beq_false_of_ne h33, bne_iff_ne.mpr h33]; rfl) | (simp only [rs_share, inn, rqn, fin, rOkV, hq7, hq13, hq24, hq30, h33, h35, beq_false_of_ne h33, bne_iff_ne.mpr h33]; rfl))
            · refine lv_aload_n hx hb d_Mod_share_89 rfl (lv_at hl 1 rfl) ?_
              refine lv_iconst (v := (nI 4)) hx hb d_Mod_share_90 (by decide) ?_
              refine k_callW (k_atV (As := [.int (nI 4)]) hx hb hown hE.1 (K0.w tw_721) (hts _ tw_718) (hts _ tw_720) (hts _ tw_9020) (hts _ tw_5) (by decide) np_Mod_raise (va_recv hK hP (ci := nMod) (q0 := 17) rfl rfl) rfl d_Mod_share_91) (c_Mod_raise K0 ad κ o σ1 (nI 4)) (hl.1.trans hml.symm) (Nat.le_of_ble_eq_true rfl) ⟨Nat.le_of_ble_eq_true rfl, Nat.le_of_ble_eq_true rfl, Nat.le_of_ble_eq_true rfl, Nat.le_of_ble_eq_true rfl⟩ (fun U hU hW => ⟨hE.go hW hU hS, by rw [hU]; exact hP, hD⟩) hS (fun H locs hP hD hS => ?_)
              obtain ⟨σ38, eσ38⟩ : ∃ z : kS, z = (sw σ1 2 0 (nI 4)) := ⟨_, rfl⟩
              have hP : va_P D vwCl (wX ad cI κ o σ38) H := by rw [eσ38]; exact hP
              have hD : va_D (kA s0) (wX ad cI κ o σ38) := by rw [eσ38]; exact hD
              have hwσ38 : σ38.1 = σ1.1 := by rw [eσ38]; exact rfl
              exact k_retWI hx hb hr hlocks d_Mod_share_94 hP hD hS (by rw [e0]; subst eσ38; first | rfl | (simp [rs_share, inn, rqn, fin, rOkV, hq7, hq13, hq24, hq30, h33, h35, beq_false_of_ne h33, beq_false_of_ne h35, bne_iff_ne.mpr h33, bne_iff_ne.mpr h35]; done) | (simp [rs_share, inn, rqn, fin, rOkV, hq7, hq13, hq24, hq30, h33, h35, beq_false_of_ne h33, beq_false_of_ne h35, bne_iff_ne.mpr h33, bne_iff_ne.mpr h35]; rfl) | (simp [rs_share, inn, rqn, fin, rOkV, hq7, hq13, hq24, hq30, h33, h35, beq_false_of_ne h33, beq_false_of_ne h35, bne_iff_ne.mpr h33, bne_iff_ne.mpr h35]; done) | (simp [rs_share, inn, rqn, fin, rOkV, hq7, hq13, hq24, hq30, h33, h35, beq_false_of_ne h33, beq_false_of_ne h35, bne_iff_ne.mpr h33, bne_iff_ne.mpr h35]; rfl) | (simp only [rs_share, inn, rqn, fin, rOkV, hq7, hq13, hq24, hq30, h33, h35, beq_false_of_ne h33, beq_false_of_ne h35, bne_iff_ne.mpr h33, bne_iff_ne.mpr h35]; rfl))
          · refine lv_aload_n hx hb d_Mod_share_70 rfl (lv_at hl 1 rfl) ?_
            refine lv_iconst (v := (nI 3)) hx hb d_Mod_share_71 (by decide) ?_
            refine k_callW (k_atV (As := [.int (nI 3)]) hx hb hown hE.1 (K0.w tw_721) (hts _ tw_718) (hts _ tw_720) (hts _ tw_9020) (hts _ tw_5) (by decide) np_Mod_raise (va_recv hK hP (ci := nMod) (q0 := 17) rfl rfl) rfl d_Mod_share_72) (c_Mod_raise K0 ad κ o σ1 (nI 3)) (hl.1.trans hml.symm) (Nat.le_of_ble_eq_true rfl) ⟨Nat.le_of_ble_eq_true rfl, Nat.le_of_ble_eq_true rfl, Nat.le_of_ble_eq_true rfl, Nat.le_of_ble_eq_true rfl⟩ (fun U hU hW => ⟨hE.go hW hU hS, by rw [hU]; exact hP, hD⟩) hS (fun H locs hP hD hS => ?_)
            obtain ⟨σ39, eσ39⟩ : ∃ z : kS, z = (sw σ1 2 0 (nI 3)) := ⟨_, rfl⟩
            have hP : va_P D vwCl (wX ad cI κ o σ39) H := by rw [eσ39]; exact hP
            have hD : va_D (kA s0) (wX ad cI κ o σ39) := by rw [eσ39]; exact hD
            have hwσ39 : σ39.1 = σ1.1 := by rw [eσ39]; exact rfl
            exact k_retWI hx hb hr hlocks d_Mod_share_75 hP hD hS (by rw [e0]; subst eσ39; first | rfl | (simp [rs_share, inn, rqn, fin, rOkV, hq7, hq13, hq24, hq30, h33]; done) | (simp [rs_share, inn, rqn, fin, rOkV, hq7, hq13, hq24, hq30, h33]; rfl) | (simp [rs_share, inn, rqn, fin, rOkV, hq7, hq13, hq24, hq30, beq_iff_eq.mpr h33, kbne h33]; done) | (simp [rs_share, inn, rqn, fin, rOkV, hq7, hq13, hq24, hq30, beq_iff_eq.mpr h33, kbne h33]; rfl) | (simp only [rs_share, inn, rqn, fin, rOkV, hq7, hq13, hq24, hq30, h33]; rfl))
set_option maxHeartbeats 4000000 in
set_option maxRecDepth 100000 in
theorem c_Mod_close {l : Launch} {s0 : State} {a0 : Array Value} {D : va_G} {cI cL : ClassId} (K0 : k0 l s0 a0 D cI cL) (ad : Nat → Nat) (κ : kS) (o : va_W) (σ : kS) (x : Int32) (y : Int32) (ok : kOr σ) : kMet l y_Mod_close (Cond.code y_Mod_close b_Mod_close 4 (some .int)) (rmL 2) [.ref (ad 17), .int x, .int y] (kPre D vwCl s0 (wX ad cI κ o) σ) (.ok (fin (t0 σ) (rs_close (t0 σ) x y))) (kBw D vwCl s0 (wX ad cI κ o)) := by
  refine k_of (by decide) (Nat.le_of_ble_eq_true rfl) ?_
  intro p e9 s m below meth c hx hb hr hlocks hown hml hex hpre ls hl
  obtain ⟨hE, hP, hD⟩ := hpre
  obtain ⟨hts, hK⟩ := K0.at (args := ([.ref (ad 17), .int x, .int y] : List Value).toArray) hE
  have hl : lv_has ls 4 [(0, .ref (ad 17)), (1, .int x), (2, .int y)] := hl
  have hS : va_S (kA s0) s.heap s.heap [] := va_S.rf
  refine lv_aload_n hx hb d_Mod_close_0 rfl (lv_at hl 0 rfl) ?_
  refine lv_iconst (v := (nI 0)) hx hb d_Mod_close_1 (by decide) ?_
  refine va_put (D := D) (ci := nMod) (v := .int (nI 0)) (ty := .int) (C := R_Mod) (T := T_Mod) (N := 15) hx hb hts i_Mod ty_Mod ty_Mod_ok nm_Mod hown hK hP hD hS 17 rfl rfl 0 (by decide) (hts _ tw_655) (fun _ h9 => h9) rfl (by decide +kernel) rfl rfl (Nat.le_of_ble_eq_true rfl) d_Mod_close_2 (fun H locs hP hD hS => ?_)
  obtain ⟨σ1, eσ1⟩ : ∃ z : kS, z = (sw σ 2 0 (nI 0)) := ⟨_, rfl⟩
  have hP : va_P D vwCl (wX ad cI κ o σ1) H := by rw [eσ1]; exact hP
  have hD : va_D (kA s0) (wX ad cI κ o σ1) := by rw [eσ1]; exact hD
  have e0 : t0 σ = σ1 := eσ1.symm
  have ok1 : kOr σ1 := by rw [eσ1]; exact ok
  obtain ⟨o1, o2, o3, o4, o5, o6, o7, o8, o10, o0, ⟨oc1, oc2⟩, oc3, or6⟩ := id ok1
  have hr0 : σ1.1 6 (σ1.1 11 0) ≠ 0 := or6 _ oc2 (by omega)
  have hr1 : σ1.1 6 (σ1.1 11 0) < 21 := o6 _ oc2
  refine lv_iload_n hx hb d_Mod_close_5 rfl (lv_at hl 1 rfl) ?_
  rcases hq2 : rg x 1 5 with _ | j3
  · refine k_callR (k_atS (As := [.int x]) hx hb hown hE.1 (K0.w tw_711) rfl k_w9 (hts _ tw_709) (hts _ tw_710) (hts _ tw_5) (by decide) np_Mod_isProcess rfl d_Mod_close_6) (kz_n hq2 (c_Mod_isProcess K0 ad κ o σ1 x)) (hl.1.trans hml.symm) (Nat.le_of_ble_eq_true rfl) ⟨Nat.le_of_ble_eq_true rfl, Nat.le_of_ble_eq_true rfl, Nat.le_of_ble_eq_true rfl, Nat.le_of_ble_eq_true rfl⟩ (fun U hU hW => ⟨hE.go hW hU hS, by rw [hU]; exact hP, hD⟩) ?_
    refine k_if0 (tgt := 21) (by decide) hx hb d_Mod_close_9 (by decide) (fun _ => ?_) (fun h9 => absurd h9 (by decide))
    refine lv_aload_n hx hb d_Mod_close_21 rfl (lv_at hl 0 rfl) ?_
    refine lv_iconst (v := (nI 1)) hx hb d_Mod_close_22 (by decide) ?_
    refine k_callW (k_atV (As := [.int (nI 1)]) hx hb hown hE.1 (K0.w tw_721) (hts _ tw_718) (hts _ tw_720) (hts _ tw_9020) (hts _ tw_5) (by decide) np_Mod_raise (va_recv hK hP (ci := nMod) (q0 := 17) rfl rfl) rfl d_Mod_close_23) (c_Mod_raise K0 ad κ o σ1 (nI 1)) (hl.1.trans hml.symm) (Nat.le_of_ble_eq_true rfl) ⟨Nat.le_of_ble_eq_true rfl, Nat.le_of_ble_eq_true rfl, Nat.le_of_ble_eq_true rfl, Nat.le_of_ble_eq_true rfl⟩ (fun U hU hW => ⟨hE.go hW hU hS, by rw [hU]; exact hP, hD⟩) hS (fun H locs hP hD hS => ?_)
    obtain ⟨σ7, eσ7⟩ : ∃ z : kS, z = (sw σ1 2 0 (nI 1)) := ⟨_, rfl⟩
    have hP : va_P D vwCl (wX ad cI κ o σ7) H := by rw [eσ7]; exact hP
    have hD : va_D (kA s0) (wX ad cI κ o σ7) := by rw [eσ7]; exact hD
    have hwσ7 : σ7.1 = σ1.1 := by rw [eσ7]; exact rfl
    exact k_retWI hx hb hr hlocks d_Mod_close_26 hP hD hS (by rw [e0]; subst eσ7; first | rfl | (simp [rs_close, inn, rqn, fin, rOkV, hq2]; done) | (simp [rs_close, inn, rqn, fin, rOkV, hq2]; rfl) | (simp [rs_close, inn, rqn, fin, rOkV, hq2]; done) | (simp [rs_close, inn, rqn, fin, rOkV, hq2]; rfl) | (simp only [rs_close, inn, rqn, fin, rOkV, hq2]; rfl))
  · refine k_callR (k_atS (As := [.int x]) hx hb hown hE.1 (K0.w tw_711) rfl k_w9 (hts _ tw_709) (hts _ tw_710) (hts _ tw_5) (by decide) np_Mod_isProcess rfl d_Mod_close_6) (kz_s hq2 (c_Mod_isProcess K0 ad κ o σ1 x)) (hl.1.trans hml.symm) (Nat.le_of_ble_eq_true rfl) ⟨Nat.le_of_ble_eq_true rfl, Nat.le_of_ble_eq_true rfl, Nat.le_of_ble_eq_true rfl, Nat.le_of_ble_eq_true rfl⟩ (fun U hU hW => ⟨hE.go hW hU hS, by rw [hU]; exact hP, hD⟩) ?_
    obtain ⟨rfl, ha4, hb_5, hc_6⟩ := rg_some hq2
    refine k_if0 (tgt := 21) (by decide) hx hb d_Mod_close_9 (by decide) (fun h9 => absurd h9 (by decide)) (fun _ => ?_)
    refine lv_iload_n hx hb d_Mod_close_12 rfl (lv_at hl 2 rfl) ?_
    refine lv_iconst (v := (nI 0)) hx hb d_Mod_close_13 (by decide) ?_
    refine lv_iconst (v := (nI 3)) hx hb d_Mod_close_14 (by decide) ?_
    rcases hq13 : rg y 0 3 with _ | j14
    · refine k_callR (k_atS (As := [.int y, .int (nI 0), .int (nI 3)]) hx hb hown hE.1 (K0.w tw_714) rfl k_w9 (hts _ tw_712) (hts _ tw_713) (hts _ tw_5) (by decide) np_Mod_in rfl d_Mod_close_15) (kz_n hq13 (c_Mod_in K0 ad κ o σ1 y 0 3 (by decide) (by decide))) (hl.1.trans hml.symm) (Nat.le_of_ble_eq_true rfl) ⟨Nat.le_of_ble_eq_true rfl, Nat.le_of_ble_eq_true rfl, Nat.le_of_ble_eq_true rfl, Nat.le_of_ble_eq_true rfl⟩ (fun U hU hW => ⟨hE.go hW hU hS, by rw [hU]; exact hP, hD⟩) ?_
      refine k_ifN0 (tgt := 27) (by decide) hx hb d_Mod_close_18 (by decide) (fun h9 => absurd h9 (by decide)) (fun _ => ?_)
      refine lv_aload_n hx hb d_Mod_close_21 rfl (lv_at hl 0 rfl) ?_
      refine lv_iconst (v := (nI 1)) hx hb d_Mod_close_22 (by decide) ?_
      refine k_callW (k_atV (As := [.int (nI 1)]) hx hb hown hE.1 (K0.w tw_721) (hts _ tw_718) (hts _ tw_720) (hts _ tw_9020) (hts _ tw_5) (by decide) np_Mod_raise (va_recv hK hP (ci := nMod) (q0 := 17) rfl rfl) rfl d_Mod_close_23) (c_Mod_raise K0 ad κ o σ1 (nI 1)) (hl.1.trans hml.symm) (Nat.le_of_ble_eq_true rfl) ⟨Nat.le_of_ble_eq_true rfl, Nat.le_of_ble_eq_true rfl, Nat.le_of_ble_eq_true rfl, Nat.le_of_ble_eq_true rfl⟩ (fun U hU hW => ⟨hE.go hW hU hS, by rw [hU]; exact hP, hD⟩) hS (fun H locs hP hD hS => ?_)
      obtain ⟨σ18, eσ18⟩ : ∃ z : kS, z = (sw σ1 2 0 (nI 1)) := ⟨_, rfl⟩
      have hP : va_P D vwCl (wX ad cI κ o σ18) H := by rw [eσ18]; exact hP
      have hD : va_D (kA s0) (wX ad cI κ o σ18) := by rw [eσ18]; exact hD
      have hwσ18 : σ18.1 = σ1.1 := by rw [eσ18]; exact rfl
      exact k_retWI hx hb hr hlocks d_Mod_close_26 hP hD hS (by rw [e0]; subst eσ18; first | rfl | (simp [rs_close, inn, rqn, fin, rOkV, hq2, hq13]; done) | (simp [rs_close, inn, rqn, fin, rOkV, hq2, hq13]; rfl) | (simp [rs_close, inn, rqn, fin, rOkV, hq2, hq13]; done) | (simp [rs_close, inn, rqn, fin, rOkV, hq2, hq13]; rfl) | (simp only [rs_close, inn, rqn, fin, rOkV, hq2, hq13]; rfl))
    · refine k_callR (k_atS (As := [.int y, .int (nI 0), .int (nI 3)]) hx hb hown hE.1 (K0.w tw_714) rfl k_w9 (hts _ tw_712) (hts _ tw_713) (hts _ tw_5) (by decide) np_Mod_in rfl d_Mod_close_15) (kz_s hq13 (c_Mod_in K0 ad κ o σ1 y 0 3 (by decide) (by decide))) (hl.1.trans hml.symm) (Nat.le_of_ble_eq_true rfl) ⟨Nat.le_of_ble_eq_true rfl, Nat.le_of_ble_eq_true rfl, Nat.le_of_ble_eq_true rfl, Nat.le_of_ble_eq_true rfl⟩ (fun U hU hW => ⟨hE.go hW hU hS, by rw [hU]; exact hP, hD⟩) ?_
      obtain ⟨rfl, ha15, hb_16, hc_17⟩ := rg_some hq13
      refine k_ifN0 (tgt := 27) (by decide) hx hb d_Mod_close_18 (by decide) (fun _ => ?_) (fun h9 => absurd h9 (by decide))
      refine lv_aload_n hx hb d_Mod_close_27 rfl (lv_at hl 0 rfl) ?_
      refine lv_iload_n hx hb d_Mod_close_28 rfl (lv_at hl 1 rfl) ?_
      rcases hq19 : rmine σ1 j3 with _ | _
      · refine k_callR (k_atV (As := [.int (nI j3)]) hx hb hown hE.1 (K0.w tw_741) (hts _ tw_738) (hts _ tw_740) (hts _ tw_9024) (hts _ tw_5) (by decide) np_Mod_mine (va_recv hK hP (ci := nMod) (q0 := 17) rfl rfl) rfl d_Mod_close_29) (kb_f hq19 (c_Mod_mine K0 ad κ o σ1 j3 (by omega) ok1.b4 ok1.b5 (by omega))) (hl.1.trans hml.symm) (Nat.le_of_ble_eq_true rfl) ⟨Nat.le_of_ble_eq_true rfl, Nat.le_of_ble_eq_true rfl, Nat.le_of_ble_eq_true rfl, Nat.le_of_ble_eq_true rfl⟩ (fun U hU hW => ⟨hE.go hW hU hS, by rw [hU]; exact hP, hD⟩) ?_
        refine k_ifN0 (tgt := 41) (by decide) hx hb d_Mod_close_32 (by decide) (fun h9 => absurd h9 (by decide)) (fun _ => ?_)
        refine lv_aload_n hx hb d_Mod_close_35 rfl (lv_at hl 0 rfl) ?_
        refine lv_iconst (v := (nI 2)) hx hb d_Mod_close_36 (by decide) ?_
        refine k_callW (k_atV (As := [.int (nI 2)]) hx hb hown hE.1 (K0.w tw_721) (hts _ tw_718) (hts _ tw_720) (hts _ tw_9020) (hts _ tw_5) (by decide) np_Mod_raise (va_recv hK hP (ci := nMod) (q0 := 17) rfl rfl) rfl d_Mod_close_37) (c_Mod_raise K0 ad κ o σ1 (nI 2)) (hl.1.trans hml.symm) (Nat.le_of_ble_eq_true rfl) ⟨Nat.le_of_ble_eq_true rfl, Nat.le_of_ble_eq_true rfl, Nat.le_of_ble_eq_true rfl, Nat.le_of_ble_eq_true rfl⟩ (fun U hU hW => ⟨hE.go hW hU hS, by rw [hU]; exact hP, hD⟩) hS (fun H locs hP hD hS => ?_)
        obtain ⟨σ20, eσ20⟩ : ∃ z : kS, z = (sw σ1 2 0 (nI 2)) := ⟨_, rfl⟩
        have hP : va_P D vwCl (wX ad cI κ o σ20) H := by rw [eσ20]; exact hP
        have hD : va_D (kA s0) (wX ad cI κ o σ20) := by rw [eσ20]; exact hD
        have hwσ20 : σ20.1 = σ1.1 := by rw [eσ20]; exact rfl
        exact k_retWI hx hb hr hlocks d_Mod_close_40 hP hD hS (by rw [e0]; subst eσ20; first | rfl | (simp [rs_close, inn, rqn, fin, rOkV, hq2, hq13, hq19]; done) | (simp [rs_close, inn, rqn, fin, rOkV, hq2, hq13, hq19]; rfl) | (simp [rs_close, inn, rqn, fin, rOkV, hq2, hq13, hq19]; done) | (simp [rs_close, inn, rqn, fin, rOkV, hq2, hq13, hq19]; rfl) | (simp only [rs_close, inn, rqn, fin, rOkV, hq2, hq13, hq19]; rfl))
      · refine k_callR (k_atV (As := [.int (nI j3)]) hx hb hown hE.1 (K0.w tw_741) (hts _ tw_738) (hts _ tw_740) (hts _ tw_9024) (hts _ tw_5) (by decide) np_Mod_mine (va_recv hK hP (ci := nMod) (q0 := 17) rfl rfl) rfl d_Mod_close_29) (kb_t hq19 (c_Mod_mine K0 ad κ o σ1 j3 (by omega) ok1.b4 ok1.b5 (by omega))) (hl.1.trans hml.symm) (Nat.le_of_ble_eq_true rfl) ⟨Nat.le_of_ble_eq_true rfl, Nat.le_of_ble_eq_true rfl, Nat.le_of_ble_eq_true rfl, Nat.le_of_ble_eq_true rfl⟩ (fun U hU hW => ⟨hE.go hW hU hS, by rw [hU]; exact hP, hD⟩) ?_
        refine k_ifN0 (tgt := 41) (by decide) hx hb d_Mod_close_32 (by decide) (fun _ => ?_) (fun h9 => absurd h9 (by decide))
        refine lv_aload_n hx hb d_Mod_close_41 rfl (lv_at hl 0 rfl) ?_
        refine va_get (D := D) (ci := nMod) (v := .ref (ad 21)) (C := R_Mod) (T := T_Mod) (N := 15) hx hb hts i_Mod hown hK hP 17 rfl rfl 4 (by decide) (hts _ tw_659) (fun _ h9 => h9) rfl d_Mod_close_42 ?_
        refine lv_iconst (v := (nI 4)) hx hb d_Mod_close_45 (by decide) ?_
        refine lv_iload_n hx hb d_Mod_close_46 rfl (lv_at hl 1 rfl) ?_
        refine k_mulC hx hb d_Mod_close_47 ?_
        refine lv_iload_n hx hb d_Mod_close_48 rfl (lv_at hl 2 rfl) ?_
        refine k_addN hx hb d_Mod_close_49 ?_
        refine k_aldP (q0 := 21) (t0 := 0) hx hb hK hP rfl rfl (by omega) (by decide) d_Mod_close_50 ?_
        have ho21 := o7 ((j3 * 4) + j14) (by omega)
        refine lv_istore_n (lv' := [(3, .int (pI (σ1.1 7 ((j3 * 4) + j14)))), (0, .ref (ad 17)), (1, .int (nI j3)), (2, .int (nI j14))]) hx hb d_Mod_close_51 rfl hl (by decide) rfl (fun ls hl => ?_)
        refine lv_iload_n hx hb d_Mod_close_52 rfl (lv_at hl 0 rfl) ?_
        refine k_geP0 (tgt := 62) (ok1.b7 _ (by omega)) hx hb d_Mod_close_53 (by decide) (fun h22 => ?_) (fun h22 => ?_)
        · refine lv_aload_n hx hb d_Mod_close_62 rfl (lv_at hl 1 rfl) ?_
          refine va_get (D := D) (ci := nMod) (v := .ref (ad 21)) (C := R_Mod) (T := T_Mod) (N := 15) hx hb hts i_Mod hown hK hP 17 rfl rfl 4 (by decide) (hts _ tw_659) (fun _ h9 => h9) rfl d_Mod_close_63 ?_
          refine lv_iconst (v := (nI 4)) hx hb d_Mod_close_66 (by decide) ?_
          refine lv_iload_n hx hb d_Mod_close_67 rfl (lv_at hl 2 rfl) ?_
          refine k_mulC hx hb d_Mod_close_68 ?_
          refine lv_iload_n hx hb d_Mod_close_69 rfl (lv_at hl 3 rfl) ?_
          refine k_addN hx hb d_Mod_close_70 ?_
          refine lv_iconst (v := (pI 0)) hx hb d_Mod_close_71 (by decide) ?_
          refine k_astP (q0 := 21) (t0 := 0) hx hb hK hP hD hS rfl rfl (by omega) (by decide) d_Mod_close_72 (fun H locs hP hD hS => ?_)
          obtain ⟨σ23, eσ23⟩ : ∃ z : kS, z = (st σ1 7 ((j3 * 4) + j14) 0) := ⟨_, rfl⟩
          have hP : va_P D vwCl (wX ad cI κ o σ23) H := by rw [eσ23]; exact hP
          have hD : va_D (kA s0) (wX ad cI κ o σ23) := by rw [eσ23]; exact hD
          refine lv_aload_n hx hb d_Mod_close_73 rfl (lv_at hl 1 rfl) ?_
          refine lv_iload_n hx hb d_Mod_close_74 rfl (lv_at hl 0 rfl) ?_
          refine k_st (st' := [.int (nI ((σ1.1 7 ((j3 * 4) + j14)) - 1)), .ref (ad 17)]) (by show ([.int (pI (σ1.1 7 ((j3 * 4) + j14))), .ref (ad 17)] : List Value) = _; rw [pI_pred (t := (σ1.1 7 ((j3 * 4) + j14))) (by omega)]) ?_
          refine k_callR (k_atV (As := [.int (nI ((σ1.1 7 ((j3 * 4) + j14)) - 1))]) hx hb hown hE.1 (K0.w tw_805) (hts _ tw_802) (hts _ tw_804) (hts _ tw_9031) (hts _ tw_5) (by decide) np_Mod_countOf (va_recv hK hP (ci := nMod) (q0 := 17) rfl rfl) rfl d_Mod_close_75) (c_Mod_countOf K0 ad κ o σ23 ((σ1.1 7 ((j3 * 4) + j14)) - 1) (by omega) (by subst eσ23; first | exact ok1.b7 | exact st_b ok1.b7 (by omega))) (hl.1.trans hml.symm) (Nat.le_of_ble_eq_true rfl) ⟨Nat.le_of_ble_eq_true rfl, Nat.le_of_ble_eq_true rfl, Nat.le_of_ble_eq_true rfl, Nat.le_of_ble_eq_true rfl⟩ (fun U hU hW => ⟨hE.go hW hU hS, by rw [hU]; exact hP, hD⟩) ?_
          have hc24 : (rcof σ23 ((σ1.1 7 ((j3 * 4) + j14)) - 1)) ≤ 24 := cnt_le _ _
          exact k_retWI hx hb hr hlocks d_Mod_close_78 hP hD hS (by rw [e0]; subst eσ23; first | rfl | (simp [rs_close, inn, rqn, fin, rOkV, hq2, hq13, hq19, h22, beq_false_of_ne h22, bne_iff_ne.mpr h22]; done) | (simp [rs_close, inn, rqn, fin, rOkV, hq2, hq13, hq19, h22, beq_false_of_ne h22, bne_iff_ne.mpr h22]; rfl) | (simp [rs_close, inn, rqn, fin, rOkV, hq2, hq13, hq19, h22, beq_false_of_ne h22, bne_iff_ne.mpr h22]; done) | (simp [rs_close, inn, rqn, fin, rOkV, hq2, hq13, hq19, h22, beq_false_of_ne h22, bne_iff_ne.mpr h22]; rfl) | (simp only [rs_close, inn, rqn, fin, rOkV, hq2, hq13, hq19, h22, beq_false_of_ne h22, bne_iff_ne.mpr h22]; rfl))
        · refine lv_aload_n hx hb d_Mod_close_56 rfl (lv_at hl 1 rfl) ?_
          refine lv_iconst (v := (nI 3)) hx hb d_Mod_close_57 (by decide) ?_
          refine k_callW (k_atV (As := [.int (nI 3)]) hx hb hown hE.1 (K0.w tw_721) (hts _ tw_718) (hts _ tw_720) (hts _ tw_9020) (hts _ tw_5) (by decide) np_Mod_raise (va_recv hK hP (ci := nMod) (q0 := 17) rfl rfl) rfl d_Mod_close_58) (c_Mod_raise K0 ad κ o σ1 (nI 3)) (hl.1.trans hml.symm) (Nat.le_of_ble_eq_true rfl) ⟨Nat.le_of_ble_eq_true rfl, Nat.le_of_ble_eq_true rfl, Nat.le_of_ble_eq_true rfl, Nat.le_of_ble_eq_true rfl⟩ (fun U hU hW => ⟨hE.go hW hU hS, by rw [hU]; exact hP, hD⟩) hS (fun H locs hP hD hS => ?_)
          obtain ⟨σ25, eσ25⟩ : ∃ z : kS, z = (sw σ1 2 0 (nI 3)) := ⟨_, rfl⟩
          have hP : va_P D vwCl (wX ad cI κ o σ25) H := by rw [eσ25]; exact hP
          have hD : va_D (kA s0) (wX ad cI κ o σ25) := by rw [eσ25]; exact hD
          have hwσ25 : σ25.1 = σ1.1 := by rw [eσ25]; exact rfl
          exact k_retWI hx hb hr hlocks d_Mod_close_61 hP hD hS (by rw [e0]; subst eσ25; first | rfl | (simp [rs_close, inn, rqn, fin, rOkV, hq2, hq13, hq19, h22]; done) | (simp [rs_close, inn, rqn, fin, rOkV, hq2, hq13, hq19, h22]; rfl) | (simp [rs_close, inn, rqn, fin, rOkV, hq2, hq13, hq19, beq_iff_eq.mpr h22, kbne h22]; done) | (simp [rs_close, inn, rqn, fin, rOkV, hq2, hq13, hq19, beq_iff_eq.mpr h22, kbne h22]; rfl) | (simp only [rs_close, inn, rqn, fin, rOkV, hq2, hq13, hq19, h22]; rfl))
set_option maxHeartbeats 4000000 in
set_option maxRecDepth 100000 in
theorem c_Mod_kill {l : Launch} {s0 : State} {a0 : Array Value} {D : va_G} {cI cL : ClassId} (K0 : k0 l s0 a0 D cI cL) (ad : Nat → Nat) (κ : kS) (o : va_W) (σ : kS) (x : Int32) (ok : kOr σ) : kMet l y_Mod_kill (Cond.code y_Mod_kill b_Mod_kill 3 (some .int)) (rmL 2) [.ref (ad 17), .int x] (kPre D vwCl s0 (wX ad cI κ o) σ) (.ok (fin (t0 σ) (rs_kill (t0 σ) x))) (kBw D vwCl s0 (wX ad cI κ o)) := by
  refine k_of (by decide) (Nat.le_of_ble_eq_true rfl) ?_
  intro p e9 s m below meth c hx hb hr hlocks hown hml hex hpre ls hl
  obtain ⟨hE, hP, hD⟩ := hpre
  obtain ⟨hts, hK⟩ := K0.at (args := ([.ref (ad 17), .int x] : List Value).toArray) hE
  have hl : lv_has ls 3 [(0, .ref (ad 17)), (1, .int x)] := hl
  have hS : va_S (kA s0) s.heap s.heap [] := va_S.rf
  refine lv_aload_n hx hb d_Mod_kill_0 rfl (lv_at hl 0 rfl) ?_
  refine lv_iconst (v := (nI 0)) hx hb d_Mod_kill_1 (by decide) ?_
  refine va_put (D := D) (ci := nMod) (v := .int (nI 0)) (ty := .int) (C := R_Mod) (T := T_Mod) (N := 15) hx hb hts i_Mod ty_Mod ty_Mod_ok nm_Mod hown hK hP hD hS 17 rfl rfl 0 (by decide) (hts _ tw_655) (fun _ h9 => h9) rfl (by decide +kernel) rfl rfl (Nat.le_of_ble_eq_true rfl) d_Mod_kill_2 (fun H locs hP hD hS => ?_)
  obtain ⟨σ1, eσ1⟩ : ∃ z : kS, z = (sw σ 2 0 (nI 0)) := ⟨_, rfl⟩
  have hP : va_P D vwCl (wX ad cI κ o σ1) H := by rw [eσ1]; exact hP
  have hD : va_D (kA s0) (wX ad cI κ o σ1) := by rw [eσ1]; exact hD
  have e0 : t0 σ = σ1 := eσ1.symm
  have ok1 : kOr σ1 := by rw [eσ1]; exact ok
  obtain ⟨o1, o2, o3, o4, o5, o6, o7, o8, o10, o0, ⟨oc1, oc2⟩, oc3, or6⟩ := id ok1
  have hr0 : σ1.1 6 (σ1.1 11 0) ≠ 0 := or6 _ oc2 (by omega)
  have hr1 : σ1.1 6 (σ1.1 11 0) < 21 := o6 _ oc2
  refine lv_iload_n hx hb d_Mod_kill_5 rfl (lv_at hl 1 rfl) ?_
  rcases hq2 : rg x 1 5 with _ | j3
  · refine k_callR (k_atS (As := [.int x]) hx hb hown hE.1 (K0.w tw_711) rfl k_w9 (hts _ tw_709) (hts _ tw_710) (hts _ tw_5) (by decide) np_Mod_isProcess rfl d_Mod_kill_6) (kz_n hq2 (c_Mod_isProcess K0 ad κ o σ1 x)) (hl.1.trans hml.symm) (Nat.le_of_ble_eq_true rfl) ⟨Nat.le_of_ble_eq_true rfl, Nat.le_of_ble_eq_true rfl, Nat.le_of_ble_eq_true rfl, Nat.le_of_ble_eq_true rfl⟩ (fun U hU hW => ⟨hE.go hW hU hS, by rw [hU]; exact hP, hD⟩) ?_
    refine k_ifN0 (tgt := 18) (by decide) hx hb d_Mod_kill_9 (by decide) (fun h9 => absurd h9 (by decide)) (fun _ => ?_)
    refine lv_aload_n hx hb d_Mod_kill_12 rfl (lv_at hl 0 rfl) ?_
    refine lv_iconst (v := (nI 1)) hx hb d_Mod_kill_13 (by decide) ?_
    refine k_callW (k_atV (As := [.int (nI 1)]) hx hb hown hE.1 (K0.w tw_721) (hts _ tw_718) (hts _ tw_720) (hts _ tw_9020) (hts _ tw_5) (by decide) np_Mod_raise (va_recv hK hP (ci := nMod) (q0 := 17) rfl rfl) rfl d_Mod_kill_14) (c_Mod_raise K0 ad κ o σ1 (nI 1)) (hl.1.trans hml.symm) (Nat.le_of_ble_eq_true rfl) ⟨Nat.le_of_ble_eq_true rfl, Nat.le_of_ble_eq_true rfl, Nat.le_of_ble_eq_true rfl, Nat.le_of_ble_eq_true rfl⟩ (fun U hU hW => ⟨hE.go hW hU hS, by rw [hU]; exact hP, hD⟩) hS (fun H locs hP hD hS => ?_)
    obtain ⟨σ7, eσ7⟩ : ∃ z : kS, z = (sw σ1 2 0 (nI 1)) := ⟨_, rfl⟩
    have hP : va_P D vwCl (wX ad cI κ o σ7) H := by rw [eσ7]; exact hP
    have hD : va_D (kA s0) (wX ad cI κ o σ7) := by rw [eσ7]; exact hD
    have hwσ7 : σ7.1 = σ1.1 := by rw [eσ7]; exact rfl
    exact k_retWI hx hb hr hlocks d_Mod_kill_17 hP hD hS (by rw [e0]; subst eσ7; first | rfl | (simp [rs_kill, inn, rqn, fin, rOkV, hq2]; done) | (simp [rs_kill, inn, rqn, fin, rOkV, hq2]; rfl) | (simp [rs_kill, inn, rqn, fin, rOkV, hq2]; done) | (simp [rs_kill, inn, rqn, fin, rOkV, hq2]; rfl) | (simp only [rs_kill, inn, rqn, fin, rOkV, hq2]; rfl))
  · refine k_callR (k_atS (As := [.int x]) hx hb hown hE.1 (K0.w tw_711) rfl k_w9 (hts _ tw_709) (hts _ tw_710) (hts _ tw_5) (by decide) np_Mod_isProcess rfl d_Mod_kill_6) (kz_s hq2 (c_Mod_isProcess K0 ad κ o σ1 x)) (hl.1.trans hml.symm) (Nat.le_of_ble_eq_true rfl) ⟨Nat.le_of_ble_eq_true rfl, Nat.le_of_ble_eq_true rfl, Nat.le_of_ble_eq_true rfl, Nat.le_of_ble_eq_true rfl⟩ (fun U hU hW => ⟨hE.go hW hU hS, by rw [hU]; exact hP, hD⟩) ?_
    obtain ⟨rfl, ha4, hb_5, hc_6⟩ := rg_some hq2
    refine k_ifN0 (tgt := 18) (by decide) hx hb d_Mod_kill_9 (by decide) (fun _ => ?_) (fun h9 => absurd h9 (by decide))
    refine lv_iload_n hx hb d_Mod_kill_18 rfl (lv_at hl 1 rfl) ?_
    refine lv_iconst (v := (nI 1)) hx hb d_Mod_kill_19 (by decide) ?_
    refine k_neN (tgt := 29) (by omega) (by omega) hx hb d_Mod_kill_20 (by decide) (fun h8 => ?_) (fun h8 => ?_)
    · refine lv_iload_n hx hb d_Mod_kill_29 rfl (lv_at hl 1 rfl) ?_
      refine lv_aload_n hx hb d_Mod_kill_30 rfl (lv_at hl 0 rfl) ?_
      refine va_get (D := D) (ci := nMod) (v := .int (nI (σ1.1 11 0))) (C := R_Mod) (T := T_Mod) (N := 15) hx hb hts i_Mod hown hK hP 17 rfl rfl 13 (by decide) (hts _ tw_668) (fun _ h9 => h9) rfl d_Mod_kill_31 ?_
      refine k_eqN (tgt := 50) (by omega) (by omega) hx hb d_Mod_kill_34 (by decide) (fun h9 => ?_) (fun h9 => ?_)
      · refine lv_aload_n hx hb d_Mod_kill_50 rfl (lv_at hl 0 rfl) ?_
        refine va_get (D := D) (ci := nMod) (v := .ref (ad 18)) (C := R_Mod) (T := T_Mod) (N := 15) hx hb hts i_Mod hown hK hP 17 rfl rfl 1 (by decide) (hts _ tw_656) (fun _ h9 => h9) rfl d_Mod_kill_51 ?_
        refine lv_iload_n hx hb d_Mod_kill_54 rfl (lv_at hl 1 rfl) ?_
        refine k_aldN (q0 := 18) (t0 := 0) hx hb hK hP rfl rfl (by omega) (by decide) d_Mod_kill_55 ?_
        have ho10 := o4 j3 (by omega)
        refine k_if0 (tgt := 69) (Nat.lt_of_lt_of_le (ok1.b4 _ (by omega)) (by decide)) hx hb d_Mod_kill_56 (by decide) (fun h11 => ?_) (fun h11 => ?_)
        · refine lv_aload_n hx hb d_Mod_kill_69 rfl (lv_at hl 0 rfl) ?_
          refine lv_iconst (v := (nI 3)) hx hb d_Mod_kill_70 (by decide) ?_
          refine k_callW (k_atV (As := [.int (nI 3)]) hx hb hown hE.1 (K0.w tw_721) (hts _ tw_718) (hts _ tw_720) (hts _ tw_9020) (hts _ tw_5) (by decide) np_Mod_raise (va_recv hK hP (ci := nMod) (q0 := 17) rfl rfl) rfl d_Mod_kill_71) (c_Mod_raise K0 ad κ o σ1 (nI 3)) (hl.1.trans hml.symm) (Nat.le_of_ble_eq_true rfl) ⟨Nat.le_of_ble_eq_true rfl, Nat.le_of_ble_eq_true rfl, Nat.le_of_ble_eq_true rfl, Nat.le_of_ble_eq_true rfl⟩ (fun U hU hW => ⟨hE.go hW hU hS, by rw [hU]; exact hP, hD⟩) hS (fun H locs hP hD hS => ?_)
          obtain ⟨σ12, eσ12⟩ : ∃ z : kS, z = (sw σ1 2 0 (nI 3)) := ⟨_, rfl⟩
          have hP : va_P D vwCl (wX ad cI κ o σ12) H := by rw [eσ12]; exact hP
          have hD : va_D (kA s0) (wX ad cI κ o σ12) := by rw [eσ12]; exact hD
          have hwσ12 : σ12.1 = σ1.1 := by rw [eσ12]; exact rfl
          exact k_retWI hx hb hr hlocks d_Mod_kill_74 hP hD hS (by rw [e0]; subst eσ12; first | rfl | (simp [rs_kill, inn, rqn, fin, rOkV, hq2, h8, h9, h11, beq_false_of_ne h8, bne_iff_ne.mpr h8]; done) | (simp [rs_kill, inn, rqn, fin, rOkV, hq2, h8, h9, h11, beq_false_of_ne h8, bne_iff_ne.mpr h8]; rfl) | (simp [rs_kill, inn, rqn, fin, rOkV, hq2, h8, beq_iff_eq.mpr h9, beq_iff_eq.mpr h11, kbne h9, kbne h11, beq_false_of_ne h8, bne_iff_ne.mpr h8]; done) | (simp [rs_kill, inn, rqn, fin, rOkV, hq2, h8, beq_iff_eq.mpr h9, beq_iff_eq.mpr h11, kbne h9, kbne h11, beq_false_of_ne h8, bne_iff_ne.mpr h8]; rfl) | (simp only [rs_kill, inn, rqn, fin, rOkV, hq2, h8, h9, h11, beq_false_of_ne h8, bne_iff_ne.mpr h8]; rfl))
        · refine lv_aload_n hx hb d_Mod_kill_59 rfl (lv_at hl 0 rfl) ?_
          refine va_get (D := D) (ci := nMod) (v := .ref (ad 18)) (C := R_Mod) (T := T_Mod) (N := 15) hx hb hts i_Mod hown hK hP 17 rfl rfl 1 (by decide) (hts _ tw_656) (fun _ h9 => h9) rfl d_Mod_kill_60 ?_
          refine lv_iload_n hx hb d_Mod_kill_63 rfl (lv_at hl 1 rfl) ?_
          refine k_aldN (q0 := 18) (t0 := 0) hx hb hK hP rfl rfl (by omega) (by decide) d_Mod_kill_64 ?_
          have ho13 := o4 j3 (by omega)
          refine lv_iconst (v := (nI 5)) hx hb d_Mod_kill_65 (by decide) ?_
          refine k_neN (tgt := 75) (Nat.lt_of_lt_of_le (ok1.b4 _ (by omega)) (by decide)) (by omega) hx hb d_Mod_kill_66 (by decide) (fun h14 => ?_) (fun h14 => ?_)
          · refine lv_iload_n hx hb d_Mod_kill_75 rfl (lv_at hl 1 rfl) ?_
            refine lv_aload_n hx hb d_Mod_kill_76 rfl (lv_at hl 0 rfl) ?_
            refine va_get (D := D) (ci := nMod) (v := .int (nI (σ1.1 11 0))) (C := R_Mod) (T := T_Mod) (N := 15) hx hb hts i_Mod hown hK hP 17 rfl rfl 13 (by decide) (hts _ tw_668) (fun _ h9 => h9) rfl d_Mod_kill_77 ?_
            refine k_neN (tgt := 106) (by omega) (by omega) hx hb d_Mod_kill_80 (by decide) (fun h9 => absurd h9 (by omega)) (fun _ => ?_)
            refine lv_aload_n hx hb d_Mod_kill_83 rfl (lv_at hl 0 rfl) ?_
            refine lv_iload_n hx hb d_Mod_kill_84 rfl (lv_at hl 1 rfl) ?_
            refine k_callR (k_atV (As := [.int (nI j3)]) hx hb hown hE.1 (K0.w tw_785) (hts _ tw_782) (hts _ tw_784) (hts _ tw_9028) (hts _ tw_5) (by decide) np_Mod_nextReady (va_recv hK hP (ci := nMod) (q0 := 17) rfl rfl) rfl d_Mod_kill_85) (c_Mod_nextReady K0 ad κ o σ1 j3 (by omega) (by omega) ok1.b4) (hl.1.trans hml.symm) (Nat.le_of_ble_eq_true rfl) ⟨Nat.le_of_ble_eq_true rfl, Nat.le_of_ble_eq_true rfl, Nat.le_of_ble_eq_true rfl, Nat.le_of_ble_eq_true rfl⟩ (fun U hU hW => ⟨hE.go hW hU hS, by rw [hU]; exact hP, hD⟩) ?_
            have hnx : rnx σ1 j3 < 6 := rnx_lt _ _
            refine lv_istore_n (lv' := [(2, .int (nI (rnx σ1 j3))), (0, .ref (ad 17)), (1, .int (nI j3))]) hx hb d_Mod_kill_88 rfl hl (by decide) rfl (fun ls hl => ?_)
            refine lv_iload_n hx hb d_Mod_kill_89 rfl (lv_at hl 0 rfl) ?_
            refine k_ifN0 (tgt := 99) (by omega) hx hb d_Mod_kill_90 (by decide) (fun h15 => ?_) (fun h15 => ?_)
            · refine lv_aload_n hx hb d_Mod_kill_99 rfl (lv_at hl 1 rfl) ?_
              refine lv_iload_n hx hb d_Mod_kill_100 rfl (lv_at hl 0 rfl) ?_
              refine lv_iconst (v := (nI 5)) hx hb d_Mod_kill_101 (by decide) ?_
              refine k_callW (k_atV (As := [.int (nI (rnx σ1 j3)), .int (nI 5)]) hx hb hown hE.1 (K0.w tw_777) (hts _ tw_774) (hts _ tw_776) (hts _ tw_9027) (hts _ tw_5) (by decide) np_Mod_hand (va_recv hK hP (ci := nMod) (q0 := 17) rfl rfl) rfl d_Mod_kill_102) (c_Mod_hand K0 ad κ o σ1 (rnx σ1 j3) 5 (by omega) (by omega)) (hl.1.trans hml.symm) (Nat.le_of_ble_eq_true rfl) ⟨Nat.le_of_ble_eq_true rfl, Nat.le_of_ble_eq_true rfl, Nat.le_of_ble_eq_true rfl, Nat.le_of_ble_eq_true rfl⟩ (fun U hU hW => ⟨hE.go hW hU hS, by rw [hU]; exact hP, hD⟩) hS (fun H locs hP hD hS => ?_)
              obtain ⟨σ16, eσ16⟩ : ∃ z : kS, z = (r_hand σ1 (rnx σ1 j3) 5) := ⟨_, rfl⟩
              have hP : va_P D vwCl (wX ad cI κ o σ16) H := by rw [eσ16]; exact hP
              have hD : va_D (kA s0) (wX ad cI κ o σ16) := by rw [eσ16]; exact hD
              refine lv_pop hx hb d_Mod_kill_105 rfl ?_
              refine lv_aload_n hx hb d_Mod_kill_106 rfl (lv_at hl 1 rfl) ?_
              refine va_get (D := D) (ci := nMod) (v := .ref (ad 18)) (C := R_Mod) (T := T_Mod) (N := 15) hx hb hts i_Mod hown hK hP 17 rfl rfl 1 (by decide) (hts _ tw_656) (fun _ h9 => h9) rfl d_Mod_kill_107 ?_
              refine lv_iload_n hx hb d_Mod_kill_110 rfl (lv_at hl 2 rfl) ?_
              refine lv_iconst (v := (nI 5)) hx hb d_Mod_kill_111 (by decide) ?_
              refine k_astN (q0 := 18) (t0 := 0) hx hb hK hP hD hS rfl rfl (by omega) (by decide) d_Mod_kill_112 (fun H locs hP hD hS => ?_)
              obtain ⟨σ17, eσ17⟩ : ∃ z : kS, z = (st σ16 4 j3 5) := ⟨_, rfl⟩
              have hP : va_P D vwCl (wX ad cI κ o σ17) H := by rw [eσ17]; exact hP
              have hD : va_D (kA s0) (wX ad cI κ o σ17) := by rw [eσ17]; exact hD
              refine lv_aload_n hx hb d_Mod_kill_113 rfl (lv_at hl 1 rfl) ?_
              refine lv_iload_n hx hb d_Mod_kill_114 rfl (lv_at hl 2 rfl) ?_
              refine k_callR (k_atV (As := [.int (nI j3)]) hx hb hown hE.1 (K0.w tw_789) (hts _ tw_786) (hts _ tw_788) (hts _ tw_9029) (hts _ tw_5) (by decide) np_Mod_descriptors (va_recv hK hP (ci := nMod) (q0 := 17) rfl rfl) rfl d_Mod_kill_115) (c_Mod_descriptors K0 ad κ o σ17 j3 (by omega) (by subst eσ17 eσ16; first | exact ok1.b7 | exact st_b ok1.b7 (by omega))) (hl.1.trans hml.symm) (Nat.le_of_ble_eq_true rfl) ⟨Nat.le_of_ble_eq_true rfl, Nat.le_of_ble_eq_true rfl, Nat.le_of_ble_eq_true rfl, Nat.le_of_ble_eq_true rfl⟩ (fun U hU hW => ⟨hE.go hW hU hS, by rw [hU]; exact hP, hD⟩) ?_
              have hc18 : (inuse σ17 j3) ≤ 4 := cnt_le _ _
              exact k_retWI hx hb hr hlocks d_Mod_kill_118 hP hD hS (by rw [e0]; subst eσ17 eσ16; first | rfl | (simp [rs_kill, inn, rqn, fin, rOkV, hq2, h8, h9, h11, h14, h15, beq_false_of_ne h8, beq_false_of_ne h11, beq_false_of_ne h14, beq_false_of_ne h15, bne_iff_ne.mpr h8, bne_iff_ne.mpr h11, bne_iff_ne.mpr h14, bne_iff_ne.mpr h15]; done) | (simp [rs_kill, inn, rqn, fin, rOkV, hq2, h8, h9, h11, h14, h15, beq_false_of_ne h8, beq_false_of_ne h11, beq_false_of_ne h14, beq_false_of_ne h15, bne_iff_ne.mpr h8, bne_iff_ne.mpr h11, bne_iff_ne.mpr h14, bne_iff_ne.mpr h15]; rfl) | (simp [rs_kill, inn, rqn, fin, rOkV, hq2, h8, h11, h14, h15, beq_iff_eq.mpr h9, kbne h9, beq_false_of_ne h8, beq_false_of_ne h11, beq_false_of_ne h14, beq_false_of_ne h15, bne_iff_ne.mpr h8, bne_iff_ne.mpr h11, bne_iff_ne.mpr h14, bne_iff_ne.mpr h15]; done) | (simp [rs_kill, inn, rqn, fin, rOkV, hq2, h8, h11, h14, h15, beq_iff_eq.mpr h9, kbne h9, beq_false_of_ne h8, beq_false_of_ne h11, beq_false_of_ne h14, beq_false_of_ne h15, bne_iff_ne.mpr h8, bne_iff_ne.mpr h11, bne_iff_ne.mpr h14, bne_iff_ne.mpr h15]; rfl) | (simp only [rs_kill, inn, rqn, fin, rOkV, hq2, h8, h9, h11, h14, h15, beq_false_of_ne h8, beq_false_of_ne h11, beq_false_of_ne h14, beq_false_of_ne h15, bne_iff_ne.mpr h8, bne_iff_ne.mpr h11, bne_iff_ne.mpr h14, bne_iff_ne.mpr h15]; rfl))
            · refine lv_aload_n hx hb d_Mod_kill_93 rfl (lv_at hl 1 rfl) ?_
              refine lv_iconst (v := (nI 3)) hx hb d_Mod_kill_94 (by decide) ?_
              refine k_callW (k_atV (As := [.int (nI 3)]) hx hb hown hE.1 (K0.w tw_721) (hts _ tw_718) (hts _ tw_720) (hts _ tw_9020) (hts _ tw_5) (by decide) np_Mod_raise (va_recv hK hP (ci := nMod) (q0 := 17) rfl rfl) rfl d_Mod_kill_95) (c_Mod_raise K0 ad κ o σ1 (nI 3)) (hl.1.trans hml.symm) (Nat.le_of_ble_eq_true rfl) ⟨Nat.le_of_ble_eq_true rfl, Nat.le_of_ble_eq_true rfl, Nat.le_of_ble_eq_true rfl, Nat.le_of_ble_eq_true rfl⟩ (fun U hU hW => ⟨hE.go hW hU hS, by rw [hU]; exact hP, hD⟩) hS (fun H locs hP hD hS => ?_)
              obtain ⟨σ19, eσ19⟩ : ∃ z : kS, z = (sw σ1 2 0 (nI 3)) := ⟨_, rfl⟩
              have hP : va_P D vwCl (wX ad cI κ o σ19) H := by rw [eσ19]; exact hP
              have hD : va_D (kA s0) (wX ad cI κ o σ19) := by rw [eσ19]; exact hD
              have hwσ19 : σ19.1 = σ1.1 := by rw [eσ19]; exact rfl
              exact k_retWI hx hb hr hlocks d_Mod_kill_98 hP hD hS (by rw [e0]; subst eσ19; first | rfl | (simp [rs_kill, inn, rqn, fin, rOkV, hq2, h8, h9, h11, h14, h15, beq_false_of_ne h8, beq_false_of_ne h11, beq_false_of_ne h14, bne_iff_ne.mpr h8, bne_iff_ne.mpr h11, bne_iff_ne.mpr h14]; done) | (simp [rs_kill, inn, rqn, fin, rOkV, hq2, h8, h9, h11, h14, h15, beq_false_of_ne h8, beq_false_of_ne h11, beq_false_of_ne h14, bne_iff_ne.mpr h8, bne_iff_ne.mpr h11, bne_iff_ne.mpr h14]; rfl) | (simp [rs_kill, inn, rqn, fin, rOkV, hq2, h8, h11, h14, beq_iff_eq.mpr h9, beq_iff_eq.mpr h15, kbne h9, kbne h15, beq_false_of_ne h8, beq_false_of_ne h11, beq_false_of_ne h14, bne_iff_ne.mpr h8, bne_iff_ne.mpr h11, bne_iff_ne.mpr h14]; done) | (simp [rs_kill, inn, rqn, fin, rOkV, hq2, h8, h11, h14, beq_iff_eq.mpr h9, beq_iff_eq.mpr h15, kbne h9, kbne h15, beq_false_of_ne h8, beq_false_of_ne h11, beq_false_of_ne h14, bne_iff_ne.mpr h8, bne_iff_ne.mpr h11, bne_iff_ne.mpr h14]; rfl) | (simp only [rs_kill, inn, rqn, fin, rOkV, hq2, h8, h9, h11, h14, h15, beq_false_of_ne h8, beq_false_of_ne h11, beq_false_of_ne h14, bne_iff_ne.mpr h8, bne_iff_ne.mpr h11, bne_iff_ne.mpr h14]; rfl))
          · refine lv_aload_n hx hb d_Mod_kill_69 rfl (lv_at hl 0 rfl) ?_
            refine lv_iconst (v := (nI 3)) hx hb d_Mod_kill_70 (by decide) ?_
            refine k_callW (k_atV (As := [.int (nI 3)]) hx hb hown hE.1 (K0.w tw_721) (hts _ tw_718) (hts _ tw_720) (hts _ tw_9020) (hts _ tw_5) (by decide) np_Mod_raise (va_recv hK hP (ci := nMod) (q0 := 17) rfl rfl) rfl d_Mod_kill_71) (c_Mod_raise K0 ad κ o σ1 (nI 3)) (hl.1.trans hml.symm) (Nat.le_of_ble_eq_true rfl) ⟨Nat.le_of_ble_eq_true rfl, Nat.le_of_ble_eq_true rfl, Nat.le_of_ble_eq_true rfl, Nat.le_of_ble_eq_true rfl⟩ (fun U hU hW => ⟨hE.go hW hU hS, by rw [hU]; exact hP, hD⟩) hS (fun H locs hP hD hS => ?_)
            obtain ⟨σ20, eσ20⟩ : ∃ z : kS, z = (sw σ1 2 0 (nI 3)) := ⟨_, rfl⟩
            have hP : va_P D vwCl (wX ad cI κ o σ20) H := by rw [eσ20]; exact hP
            have hD : va_D (kA s0) (wX ad cI κ o σ20) := by rw [eσ20]; exact hD
            have hwσ20 : σ20.1 = σ1.1 := by rw [eσ20]; exact rfl
            exact k_retWI hx hb hr hlocks d_Mod_kill_74 hP hD hS (by rw [e0]; subst eσ20; first | rfl | (simp [rs_kill, inn, rqn, fin, rOkV, hq2, h8, h9, h11, h14, beq_false_of_ne h8, beq_false_of_ne h11, bne_iff_ne.mpr h8, bne_iff_ne.mpr h11]; done) | (simp [rs_kill, inn, rqn, fin, rOkV, hq2, h8, h9, h11, h14, beq_false_of_ne h8, beq_false_of_ne h11, bne_iff_ne.mpr h8, bne_iff_ne.mpr h11]; rfl) | (simp [rs_kill, inn, rqn, fin, rOkV, hq2, h8, h11, beq_iff_eq.mpr h9, beq_iff_eq.mpr h14, kbne h9, kbne h14, beq_false_of_ne h8, beq_false_of_ne h11, bne_iff_ne.mpr h8, bne_iff_ne.mpr h11]; done) | (simp [rs_kill, inn, rqn, fin, rOkV, hq2, h8, h11, beq_iff_eq.mpr h9, beq_iff_eq.mpr h14, kbne h9, kbne h14, beq_false_of_ne h8, beq_false_of_ne h11, bne_iff_ne.mpr h8, bne_iff_ne.mpr h11]; rfl) | (simp only [rs_kill, inn, rqn, fin, rOkV, hq2, h8, h9, h11, h14, beq_false_of_ne h8, beq_false_of_ne h11, bne_iff_ne.mpr h8, bne_iff_ne.mpr h11]; rfl))
      · refine lv_aload_n hx hb d_Mod_kill_37 rfl (lv_at hl 0 rfl) ?_
        refine va_get (D := D) (ci := nMod) (v := .ref (ad 19)) (C := R_Mod) (T := T_Mod) (N := 15) hx hb hts i_Mod hown hK hP 17 rfl rfl 2 (by decide) (hts _ tw_657) (fun _ h9 => h9) rfl d_Mod_kill_38 ?_
        refine lv_iload_n hx hb d_Mod_kill_41 rfl (lv_at hl 1 rfl) ?_
        refine k_aldN (q0 := 19) (t0 := 0) hx hb hK hP rfl rfl (by omega) (by decide) d_Mod_kill_42 ?_
        have ho21 := o5 j3 (by omega)
        refine lv_aload_n hx hb d_Mod_kill_43 rfl (lv_at hl 0 rfl) ?_
        refine va_get (D := D) (ci := nMod) (v := .int (nI (σ1.1 11 0))) (C := R_Mod) (T := T_Mod) (N := 15) hx hb hts i_Mod hown hK hP 17 rfl rfl 13 (by decide) (hts _ tw_668) (fun _ h9 => h9) rfl d_Mod_kill_44 ?_
        refine k_neN (tgt := 69) (Nat.lt_of_lt_of_le (ok1.b5 _ (by omega)) (by decide)) (by omega) hx hb d_Mod_kill_47 (by decide) (fun h22 => ?_) (fun h22 => ?_)
        · refine lv_aload_n hx hb d_Mod_kill_69 rfl (lv_at hl 0 rfl) ?_
          refine lv_iconst (v := (nI 3)) hx hb d_Mod_kill_70 (by decide) ?_
          refine k_callW (k_atV (As := [.int (nI 3)]) hx hb hown hE.1 (K0.w tw_721) (hts _ tw_718) (hts _ tw_720) (hts _ tw_9020) (hts _ tw_5) (by decide) np_Mod_raise (va_recv hK hP (ci := nMod) (q0 := 17) rfl rfl) rfl d_Mod_kill_71) (c_Mod_raise K0 ad κ o σ1 (nI 3)) (hl.1.trans hml.symm) (Nat.le_of_ble_eq_true rfl) ⟨Nat.le_of_ble_eq_true rfl, Nat.le_of_ble_eq_true rfl, Nat.le_of_ble_eq_true rfl, Nat.le_of_ble_eq_true rfl⟩ (fun U hU hW => ⟨hE.go hW hU hS, by rw [hU]; exact hP, hD⟩) hS (fun H locs hP hD hS => ?_)
          obtain ⟨σ23, eσ23⟩ : ∃ z : kS, z = (sw σ1 2 0 (nI 3)) := ⟨_, rfl⟩
          have hP : va_P D vwCl (wX ad cI κ o σ23) H := by rw [eσ23]; exact hP
          have hD : va_D (kA s0) (wX ad cI κ o σ23) := by rw [eσ23]; exact hD
          have hwσ23 : σ23.1 = σ1.1 := by rw [eσ23]; exact rfl
          exact k_retWI hx hb hr hlocks d_Mod_kill_74 hP hD hS (by rw [e0]; subst eσ23; first | rfl | (simp [rs_kill, inn, rqn, fin, rOkV, hq2, h8, h9, h22, beq_false_of_ne h8, beq_false_of_ne h9, beq_false_of_ne h22, bne_iff_ne.mpr h8, bne_iff_ne.mpr h9, bne_iff_ne.mpr h22]; done) | (simp [rs_kill, inn, rqn, fin, rOkV, hq2, h8, h9, h22, beq_false_of_ne h8, beq_false_of_ne h9, beq_false_of_ne h22, bne_iff_ne.mpr h8, bne_iff_ne.mpr h9, bne_iff_ne.mpr h22]; rfl) | (simp [rs_kill, inn, rqn, fin, rOkV, hq2, h8, h9, h22, beq_false_of_ne h8, beq_false_of_ne h9, beq_false_of_ne h22, bne_iff_ne.mpr h8, bne_iff_ne.mpr h9, bne_iff_ne.mpr h22]; done) | (simp [rs_kill, inn, rqn, fin, rOkV, hq2, h8, h9, h22, beq_false_of_ne h8, beq_false_of_ne h9, beq_false_of_ne h22, bne_iff_ne.mpr h8, bne_iff_ne.mpr h9, bne_iff_ne.mpr h22]; rfl) | (simp only [rs_kill, inn, rqn, fin, rOkV, hq2, h8, h9, h22, beq_false_of_ne h8, beq_false_of_ne h9, beq_false_of_ne h22, bne_iff_ne.mpr h8, bne_iff_ne.mpr h9, bne_iff_ne.mpr h22]; rfl))
        · refine lv_aload_n hx hb d_Mod_kill_50 rfl (lv_at hl 0 rfl) ?_
          refine va_get (D := D) (ci := nMod) (v := .ref (ad 18)) (C := R_Mod) (T := T_Mod) (N := 15) hx hb hts i_Mod hown hK hP 17 rfl rfl 1 (by decide) (hts _ tw_656) (fun _ h9 => h9) rfl d_Mod_kill_51 ?_
          refine lv_iload_n hx hb d_Mod_kill_54 rfl (lv_at hl 1 rfl) ?_
          refine k_aldN (q0 := 18) (t0 := 0) hx hb hK hP rfl rfl (by omega) (by decide) d_Mod_kill_55 ?_
          have ho24 := o4 j3 (by omega)
          refine k_if0 (tgt := 69) (Nat.lt_of_lt_of_le (ok1.b4 _ (by omega)) (by decide)) hx hb d_Mod_kill_56 (by decide) (fun h25 => ?_) (fun h25 => ?_)
          · refine lv_aload_n hx hb d_Mod_kill_69 rfl (lv_at hl 0 rfl) ?_
            refine lv_iconst (v := (nI 3)) hx hb d_Mod_kill_70 (by decide) ?_
            refine k_callW (k_atV (As := [.int (nI 3)]) hx hb hown hE.1 (K0.w tw_721) (hts _ tw_718) (hts _ tw_720) (hts _ tw_9020) (hts _ tw_5) (by decide) np_Mod_raise (va_recv hK hP (ci := nMod) (q0 := 17) rfl rfl) rfl d_Mod_kill_71) (c_Mod_raise K0 ad κ o σ1 (nI 3)) (hl.1.trans hml.symm) (Nat.le_of_ble_eq_true rfl) ⟨Nat.le_of_ble_eq_true rfl, Nat.le_of_ble_eq_true rfl, Nat.le_of_ble_eq_true rfl, Nat.le_of_ble_eq_true rfl⟩ (fun U hU hW => ⟨hE.go hW hU hS, by rw [hU]; exact hP, hD⟩) hS (fun H locs hP hD hS => ?_)
            obtain ⟨σ26, eσ26⟩ : ∃ z : kS, z = (sw σ1 2 0 (nI 3)) := ⟨_, rfl⟩
            have hP : va_P D vwCl (wX ad cI κ o σ26) H := by rw [eσ26]; exact hP
            have hD : va_D (kA s0) (wX ad cI κ o σ26) := by rw [eσ26]; exact hD
            have hwσ26 : σ26.1 = σ1.1 := by rw [eσ26]; exact rfl
            exact k_retWI hx hb hr hlocks d_Mod_kill_74 hP hD hS (by rw [e0]; subst eσ26; first | rfl | (simp [rs_kill, inn, rqn, fin, rOkV, hq2, h8, h9, h22, h25, beq_false_of_ne h8, beq_false_of_ne h9, bne_iff_ne.mpr h8, bne_iff_ne.mpr h9]; done) | (simp [rs_kill, inn, rqn, fin, rOkV, hq2, h8, h9, h22, h25, beq_false_of_ne h8, beq_false_of_ne h9, bne_iff_ne.mpr h8, bne_iff_ne.mpr h9]; rfl) | (simp [rs_kill, inn, rqn, fin, rOkV, hq2, h8, h9, beq_iff_eq.mpr h22, beq_iff_eq.mpr h25, kbne h22, kbne h25, beq_false_of_ne h8, beq_false_of_ne h9, bne_iff_ne.mpr h8, bne_iff_ne.mpr h9]; done) | (simp [rs_kill, inn, rqn, fin, rOkV, hq2, h8, h9, beq_iff_eq.mpr h22, beq_iff_eq.mpr h25, kbne h22, kbne h25, beq_false_of_ne h8, beq_false_of_ne h9, bne_iff_ne.mpr h8, bne_iff_ne.mpr h9]; rfl) | (simp only [rs_kill, inn, rqn, fin, rOkV, hq2, h8, h9, h22, h25, beq_false_of_ne h8, beq_false_of_ne h9, bne_iff_ne.mpr h8, bne_iff_ne.mpr h9]; rfl))
          · refine lv_aload_n hx hb d_Mod_kill_59 rfl (lv_at hl 0 rfl) ?_
            refine va_get (D := D) (ci := nMod) (v := .ref (ad 18)) (C := R_Mod) (T := T_Mod) (N := 15) hx hb hts i_Mod hown hK hP 17 rfl rfl 1 (by decide) (hts _ tw_656) (fun _ h9 => h9) rfl d_Mod_kill_60 ?_
            refine lv_iload_n hx hb d_Mod_kill_63 rfl (lv_at hl 1 rfl) ?_
            refine k_aldN (q0 := 18) (t0 := 0) hx hb hK hP rfl rfl (by omega) (by decide) d_Mod_kill_64 ?_
            have ho27 := o4 j3 (by omega)
            refine lv_iconst (v := (nI 5)) hx hb d_Mod_kill_65 (by decide) ?_
            refine k_neN (tgt := 75) (Nat.lt_of_lt_of_le (ok1.b4 _ (by omega)) (by decide)) (by omega) hx hb d_Mod_kill_66 (by decide) (fun h28 => ?_) (fun h28 => ?_)
            · refine lv_iload_n hx hb d_Mod_kill_75 rfl (lv_at hl 1 rfl) ?_
              refine lv_aload_n hx hb d_Mod_kill_76 rfl (lv_at hl 0 rfl) ?_
              refine va_get (D := D) (ci := nMod) (v := .int (nI (σ1.1 11 0))) (C := R_Mod) (T := T_Mod) (N := 15) hx hb hts i_Mod hown hK hP 17 rfl rfl 13 (by decide) (hts _ tw_668) (fun _ h9 => h9) rfl d_Mod_kill_77 ?_
              refine k_neN (tgt := 106) (by omega) (by omega) hx hb d_Mod_kill_80 (by decide) (fun _ => ?_) (fun h9 => absurd h9 (by omega))
              refine lv_aload_n hx hb d_Mod_kill_106 rfl (lv_at hl 0 rfl) ?_
              refine va_get (D := D) (ci := nMod) (v := .ref (ad 18)) (C := R_Mod) (T := T_Mod) (N := 15) hx hb hts i_Mod hown hK hP 17 rfl rfl 1 (by decide) (hts _ tw_656) (fun _ h9 => h9) rfl d_Mod_kill_107 ?_
              refine lv_iload_n hx hb d_Mod_kill_110 rfl (lv_at hl 1 rfl) ?_
              refine lv_iconst (v := (nI 5)) hx hb d_Mod_kill_111 (by decide) ?_
              refine k_astN (q0 := 18) (t0 := 0) hx hb hK hP hD hS rfl rfl (by omega) (by decide) d_Mod_kill_112 (fun H locs hP hD hS => ?_)
              obtain ⟨σ29, eσ29⟩ : ∃ z : kS, z = (st σ1 4 j3 5) := ⟨_, rfl⟩
              have hP : va_P D vwCl (wX ad cI κ o σ29) H := by rw [eσ29]; exact hP
              have hD : va_D (kA s0) (wX ad cI κ o σ29) := by rw [eσ29]; exact hD
              refine lv_aload_n hx hb d_Mod_kill_113 rfl (lv_at hl 0 rfl) ?_
              refine lv_iload_n hx hb d_Mod_kill_114 rfl (lv_at hl 1 rfl) ?_
              refine k_callR (k_atV (As := [.int (nI j3)]) hx hb hown hE.1 (K0.w tw_789) (hts _ tw_786) (hts _ tw_788) (hts _ tw_9029) (hts _ tw_5) (by decide) np_Mod_descriptors (va_recv hK hP (ci := nMod) (q0 := 17) rfl rfl) rfl d_Mod_kill_115) (c_Mod_descriptors K0 ad κ o σ29 j3 (by omega) (by subst eσ29; first | exact ok1.b7 | exact st_b ok1.b7 (by omega))) (hl.1.trans hml.symm) (Nat.le_of_ble_eq_true rfl) ⟨Nat.le_of_ble_eq_true rfl, Nat.le_of_ble_eq_true rfl, Nat.le_of_ble_eq_true rfl, Nat.le_of_ble_eq_true rfl⟩ (fun U hU hW => ⟨hE.go hW hU hS, by rw [hU]; exact hP, hD⟩) ?_
              have hc30 : (inuse σ29 j3) ≤ 4 := cnt_le _ _
              exact k_retWI hx hb hr hlocks d_Mod_kill_118 hP hD hS (by rw [e0]; subst eσ29; first | rfl | (simp [rs_kill, inn, rqn, fin, rOkV, hq2, h8, h9, h22, h25, h28, beq_false_of_ne h8, beq_false_of_ne h9, beq_false_of_ne h25, beq_false_of_ne h28, bne_iff_ne.mpr h8, bne_iff_ne.mpr h9, bne_iff_ne.mpr h25, bne_iff_ne.mpr h28]; done) | (simp [rs_kill, inn, rqn, fin, rOkV, hq2, h8, h9, h22, h25, h28, beq_false_of_ne h8, beq_false_of_ne h9, beq_false_of_ne h25, beq_false_of_ne h28, bne_iff_ne.mpr h8, bne_iff_ne.mpr h9, bne_iff_ne.mpr h25, bne_iff_ne.mpr h28]; rfl) | (simp [rs_kill, inn, rqn, fin, rOkV, hq2, h8, h9, h25, h28, beq_iff_eq.mpr h22, kbne h22, beq_false_of_ne h8, beq_false_of_ne h9, beq_false_of_ne h25, beq_false_of_ne h28, bne_iff_ne.mpr h8, bne_iff_ne.mpr h9, bne_iff_ne.mpr h25, bne_iff_ne.mpr h28]; done) | (simp [rs_kill, inn, rqn, fin, rOkV, hq2, h8, h9, h25, h28, beq_iff_eq.mpr h22, kbne h22, beq_false_of_ne h8, beq_false_of_ne h9, beq_false_of_ne h25, beq_false_of_ne h28, bne_iff_ne.mpr h8, bne_iff_ne.mpr h9, bne_iff_ne.mpr h25, bne_iff_ne.mpr h28]; rfl) | (simp only [rs_kill, inn, rqn, fin, rOkV, hq2, h8, h9, h22, h25, h28, beq_false_of_ne h8, beq_false_of_ne h9, beq_false_of_ne h25, beq_false_of_ne h28, bne_iff_ne.mpr h8, bne_iff_ne.mpr h9, bne_iff_ne.mpr h25, bne_iff_ne.mpr h28]; rfl))
            · refine lv_aload_n hx hb d_Mod_kill_69 rfl (lv_at hl 0 rfl) ?_
              refine lv_iconst (v := (nI 3)) hx hb d_Mod_kill_70 (by decide) ?_
              refine k_callW (k_atV (As := [.int (nI 3)]) hx hb hown hE.1 (K0.w tw_721) (hts _ tw_718) (hts _ tw_720) (hts _ tw_9020) (hts _ tw_5) (by decide) np_Mod_raise (va_recv hK hP (ci := nMod) (q0 := 17) rfl rfl) rfl d_Mod_kill_71) (c_Mod_raise K0 ad κ o σ1 (nI 3)) (hl.1.trans hml.symm) (Nat.le_of_ble_eq_true rfl) ⟨Nat.le_of_ble_eq_true rfl, Nat.le_of_ble_eq_true rfl, Nat.le_of_ble_eq_true rfl, Nat.le_of_ble_eq_true rfl⟩ (fun U hU hW => ⟨hE.go hW hU hS, by rw [hU]; exact hP, hD⟩) hS (fun H locs hP hD hS => ?_)
              obtain ⟨σ31, eσ31⟩ : ∃ z : kS, z = (sw σ1 2 0 (nI 3)) := ⟨_, rfl⟩
              have hP : va_P D vwCl (wX ad cI κ o σ31) H := by rw [eσ31]; exact hP
              have hD : va_D (kA s0) (wX ad cI κ o σ31) := by rw [eσ31]; exact hD
              have hwσ31 : σ31.1 = σ1.1 := by rw [eσ31]; exact rfl
              exact k_retWI hx hb hr hlocks d_Mod_kill_74 hP hD hS (by rw [e0]; subst eσ31; first | rfl | (simp [rs_kill, inn, rqn, fin, rOkV, hq2, h8, h9, h22, h25, h28, beq_false_of_ne h8, beq_false_of_ne h9, beq_false_of_ne h25, bne_iff_ne.mpr h8, bne_iff_ne.mpr h9, bne_iff_ne.mpr h25]; done) | (simp [rs_kill, inn, rqn, fin, rOkV, hq2, h8, h9, h22, h25, h28, beq_false_of_ne h8, beq_false_of_ne h9, beq_false_of_ne h25, bne_iff_ne.mpr h8, bne_iff_ne.mpr h9, bne_iff_ne.mpr h25]; rfl) | (simp [rs_kill, inn, rqn, fin, rOkV, hq2, h8, h9, h25, beq_iff_eq.mpr h22, beq_iff_eq.mpr h28, kbne h22, kbne h28, beq_false_of_ne h8, beq_false_of_ne h9, beq_false_of_ne h25, bne_iff_ne.mpr h8, bne_iff_ne.mpr h9, bne_iff_ne.mpr h25]; done) | (simp [rs_kill, inn, rqn, fin, rOkV, hq2, h8, h9, h25, beq_iff_eq.mpr h22, beq_iff_eq.mpr h28, kbne h22, kbne h28, beq_false_of_ne h8, beq_false_of_ne h9, beq_false_of_ne h25, bne_iff_ne.mpr h8, bne_iff_ne.mpr h9, bne_iff_ne.mpr h25]; rfl) | (simp only [rs_kill, inn, rqn, fin, rOkV, hq2, h8, h9, h22, h25, h28, beq_false_of_ne h8, beq_false_of_ne h9, beq_false_of_ne h25, bne_iff_ne.mpr h8, bne_iff_ne.mpr h9, bne_iff_ne.mpr h25]; rfl))
    · refine lv_aload_n hx hb d_Mod_kill_23 rfl (lv_at hl 0 rfl) ?_
      refine lv_iconst (v := (nI 2)) hx hb d_Mod_kill_24 (by decide) ?_
      refine k_callW (k_atV (As := [.int (nI 2)]) hx hb hown hE.1 (K0.w tw_721) (hts _ tw_718) (hts _ tw_720) (hts _ tw_9020) (hts _ tw_5) (by decide) np_Mod_raise (va_recv hK hP (ci := nMod) (q0 := 17) rfl rfl) rfl d_Mod_kill_25) (c_Mod_raise K0 ad κ o σ1 (nI 2)) (hl.1.trans hml.symm) (Nat.le_of_ble_eq_true rfl) ⟨Nat.le_of_ble_eq_true rfl, Nat.le_of_ble_eq_true rfl, Nat.le_of_ble_eq_true rfl, Nat.le_of_ble_eq_true rfl⟩ (fun U hU hW => ⟨hE.go hW hU hS, by rw [hU]; exact hP, hD⟩) hS (fun H locs hP hD hS => ?_)
      obtain ⟨σ32, eσ32⟩ : ∃ z : kS, z = (sw σ1 2 0 (nI 2)) := ⟨_, rfl⟩
      have hP : va_P D vwCl (wX ad cI κ o σ32) H := by rw [eσ32]; exact hP
      have hD : va_D (kA s0) (wX ad cI κ o σ32) := by rw [eσ32]; exact hD
      have hwσ32 : σ32.1 = σ1.1 := by rw [eσ32]; exact rfl
      exact k_retWI hx hb hr hlocks d_Mod_kill_28 hP hD hS (by rw [e0]; subst eσ32; first | rfl | (simp [rs_kill, inn, rqn, fin, rOkV, hq2, h8]; done) | (simp [rs_kill, inn, rqn, fin, rOkV, hq2, h8]; rfl) | (simp [rs_kill, inn, rqn, fin, rOkV, hq2, beq_iff_eq.mpr h8, kbne h8]; done) | (simp [rs_kill, inn, rqn, fin, rOkV, hq2, beq_iff_eq.mpr h8, kbne h8]; rfl) | (simp only [rs_kill, inn, rqn, fin, rOkV, hq2, h8]; rfl))
set_option maxHeartbeats 4000000 in
set_option maxRecDepth 100000 in
theorem c_Mod_expect {l : Launch} {s0 : State} {a0 : Array Value} {D : va_G} {cI cL : ClassId} (K0 : k0 l s0 a0 D cI cL) (ad : Nat → Nat) (κ : kS) (o : va_W) (σ : kS) (x : Int32) (y : Int32) (ok : kOr σ) : kMet l y_Mod_expect (Cond.code y_Mod_expect b_Mod_expect 4 (some .int)) (rmL 2) [.ref (ad 17), .int x, .int y] (kPre D vwCl s0 (wX ad cI κ o) σ) (.ok (fin (t0 σ) (rs_expect (t0 σ) x y))) (kBw D vwCl s0 (wX ad cI κ o)) := by
  refine k_of (by decide) (Nat.le_of_ble_eq_true rfl) ?_
  intro p e9 s m below meth c hx hb hr hlocks hown hml hex hpre ls hl
  obtain ⟨hE, hP, hD⟩ := hpre
  obtain ⟨hts, hK⟩ := K0.at (args := ([.ref (ad 17), .int x, .int y] : List Value).toArray) hE
  have hl : lv_has ls 4 [(0, .ref (ad 17)), (1, .int x), (2, .int y)] := hl
  have hS : va_S (kA s0) s.heap s.heap [] := va_S.rf
  refine lv_aload_n hx hb d_Mod_expect_0 rfl (lv_at hl 0 rfl) ?_
  refine lv_iconst (v := (nI 0)) hx hb d_Mod_expect_1 (by decide) ?_
  refine va_put (D := D) (ci := nMod) (v := .int (nI 0)) (ty := .int) (C := R_Mod) (T := T_Mod) (N := 15) hx hb hts i_Mod ty_Mod ty_Mod_ok nm_Mod hown hK hP hD hS 17 rfl rfl 0 (by decide) (hts _ tw_655) (fun _ h9 => h9) rfl (by decide +kernel) rfl rfl (Nat.le_of_ble_eq_true rfl) d_Mod_expect_2 (fun H locs hP hD hS => ?_)
  obtain ⟨σ1, eσ1⟩ : ∃ z : kS, z = (sw σ 2 0 (nI 0)) := ⟨_, rfl⟩
  have hP : va_P D vwCl (wX ad cI κ o σ1) H := by rw [eσ1]; exact hP
  have hD : va_D (kA s0) (wX ad cI κ o σ1) := by rw [eσ1]; exact hD
  have e0 : t0 σ = σ1 := eσ1.symm
  have ok1 : kOr σ1 := by rw [eσ1]; exact ok
  obtain ⟨o1, o2, o3, o4, o5, o6, o7, o8, o10, o0, ⟨oc1, oc2⟩, oc3, or6⟩ := id ok1
  have hr0 : σ1.1 6 (σ1.1 11 0) ≠ 0 := or6 _ oc2 (by omega)
  have hr1 : σ1.1 6 (σ1.1 11 0) < 21 := o6 _ oc2
  refine lv_iload_n hx hb d_Mod_expect_5 rfl (lv_at hl 1 rfl) ?_
  rcases hq2 : rg x 1 5 with _ | j3
  · refine k_callR (k_atS (As := [.int x]) hx hb hown hE.1 (K0.w tw_711) rfl k_w9 (hts _ tw_709) (hts _ tw_710) (hts _ tw_5) (by decide) np_Mod_isProcess rfl d_Mod_expect_6) (kz_n hq2 (c_Mod_isProcess K0 ad κ o σ1 x)) (hl.1.trans hml.symm) (Nat.le_of_ble_eq_true rfl) ⟨Nat.le_of_ble_eq_true rfl, Nat.le_of_ble_eq_true rfl, Nat.le_of_ble_eq_true rfl, Nat.le_of_ble_eq_true rfl⟩ (fun U hU hW => ⟨hE.go hW hU hS, by rw [hU]; exact hP, hD⟩) ?_
    refine k_if0 (tgt := 22) (by decide) hx hb d_Mod_expect_9 (by decide) (fun _ => ?_) (fun h9 => absurd h9 (by decide))
    refine lv_aload_n hx hb d_Mod_expect_22 rfl (lv_at hl 0 rfl) ?_
    refine lv_iconst (v := (nI 1)) hx hb d_Mod_expect_23 (by decide) ?_
    refine k_callW (k_atV (As := [.int (nI 1)]) hx hb hown hE.1 (K0.w tw_721) (hts _ tw_718) (hts _ tw_720) (hts _ tw_9020) (hts _ tw_5) (by decide) np_Mod_raise (va_recv hK hP (ci := nMod) (q0 := 17) rfl rfl) rfl d_Mod_expect_24) (c_Mod_raise K0 ad κ o σ1 (nI 1)) (hl.1.trans hml.symm) (Nat.le_of_ble_eq_true rfl) ⟨Nat.le_of_ble_eq_true rfl, Nat.le_of_ble_eq_true rfl, Nat.le_of_ble_eq_true rfl, Nat.le_of_ble_eq_true rfl⟩ (fun U hU hW => ⟨hE.go hW hU hS, by rw [hU]; exact hP, hD⟩) hS (fun H locs hP hD hS => ?_)
    obtain ⟨σ7, eσ7⟩ : ∃ z : kS, z = (sw σ1 2 0 (nI 1)) := ⟨_, rfl⟩
    have hP : va_P D vwCl (wX ad cI κ o σ7) H := by rw [eσ7]; exact hP
    have hD : va_D (kA s0) (wX ad cI κ o σ7) := by rw [eσ7]; exact hD
    have hwσ7 : σ7.1 = σ1.1 := by rw [eσ7]; exact rfl
    exact k_retWI hx hb hr hlocks d_Mod_expect_27 hP hD hS (by rw [e0]; subst eσ7; first | rfl | (simp [rs_expect, inn, rqn, fin, rOkV, hq2]; done) | (simp [rs_expect, inn, rqn, fin, rOkV, hq2]; rfl) | (simp [rs_expect, inn, rqn, fin, rOkV, hq2]; done) | (simp [rs_expect, inn, rqn, fin, rOkV, hq2]; rfl) | (simp only [rs_expect, inn, rqn, fin, rOkV, hq2]; rfl))
  · refine k_callR (k_atS (As := [.int x]) hx hb hown hE.1 (K0.w tw_711) rfl k_w9 (hts _ tw_709) (hts _ tw_710) (hts _ tw_5) (by decide) np_Mod_isProcess rfl d_Mod_expect_6) (kz_s hq2 (c_Mod_isProcess K0 ad κ o σ1 x)) (hl.1.trans hml.symm) (Nat.le_of_ble_eq_true rfl) ⟨Nat.le_of_ble_eq_true rfl, Nat.le_of_ble_eq_true rfl, Nat.le_of_ble_eq_true rfl, Nat.le_of_ble_eq_true rfl⟩ (fun U hU hW => ⟨hE.go hW hU hS, by rw [hU]; exact hP, hD⟩) ?_
    obtain ⟨rfl, ha4, hb_5, hc_6⟩ := rg_some hq2
    refine k_if0 (tgt := 22) (by decide) hx hb d_Mod_expect_9 (by decide) (fun h9 => absurd h9 (by decide)) (fun _ => ?_)
    refine lv_iload_n hx hb d_Mod_expect_12 rfl (lv_at hl 2 rfl) ?_
    refine lv_iconst (v := (nI 0)) hx hb d_Mod_expect_13 (by decide) ?_
    refine lv_bipush (v := (nI 63)) hx hb d_Mod_expect_14 (by decide) ?_
    rcases hq13 : rg y 0 63 with _ | j14
    · refine k_callR (k_atS (As := [.int y, .int (nI 0), .int (nI 63)]) hx hb hown hE.1 (K0.w tw_714) rfl k_w9 (hts _ tw_712) (hts _ tw_713) (hts _ tw_5) (by decide) np_Mod_in rfl d_Mod_expect_16) (kz_n hq13 (c_Mod_in K0 ad κ o σ1 y 0 63 (by decide) (by decide))) (hl.1.trans hml.symm) (Nat.le_of_ble_eq_true rfl) ⟨Nat.le_of_ble_eq_true rfl, Nat.le_of_ble_eq_true rfl, Nat.le_of_ble_eq_true rfl, Nat.le_of_ble_eq_true rfl⟩ (fun U hU hW => ⟨hE.go hW hU hS, by rw [hU]; exact hP, hD⟩) ?_
      refine k_ifN0 (tgt := 28) (by decide) hx hb d_Mod_expect_19 (by decide) (fun h9 => absurd h9 (by decide)) (fun _ => ?_)
      refine lv_aload_n hx hb d_Mod_expect_22 rfl (lv_at hl 0 rfl) ?_
      refine lv_iconst (v := (nI 1)) hx hb d_Mod_expect_23 (by decide) ?_
      refine k_callW (k_atV (As := [.int (nI 1)]) hx hb hown hE.1 (K0.w tw_721) (hts _ tw_718) (hts _ tw_720) (hts _ tw_9020) (hts _ tw_5) (by decide) np_Mod_raise (va_recv hK hP (ci := nMod) (q0 := 17) rfl rfl) rfl d_Mod_expect_24) (c_Mod_raise K0 ad κ o σ1 (nI 1)) (hl.1.trans hml.symm) (Nat.le_of_ble_eq_true rfl) ⟨Nat.le_of_ble_eq_true rfl, Nat.le_of_ble_eq_true rfl, Nat.le_of_ble_eq_true rfl, Nat.le_of_ble_eq_true rfl⟩ (fun U hU hW => ⟨hE.go hW hU hS, by rw [hU]; exact hP, hD⟩) hS (fun H locs hP hD hS => ?_)
      obtain ⟨σ18, eσ18⟩ : ∃ z : kS, z = (sw σ1 2 0 (nI 1)) := ⟨_, rfl⟩
      have hP : va_P D vwCl (wX ad cI κ o σ18) H := by rw [eσ18]; exact hP
      have hD : va_D (kA s0) (wX ad cI κ o σ18) := by rw [eσ18]; exact hD
      have hwσ18 : σ18.1 = σ1.1 := by rw [eσ18]; exact rfl
      exact k_retWI hx hb hr hlocks d_Mod_expect_27 hP hD hS (by rw [e0]; subst eσ18; first | rfl | (simp [rs_expect, inn, rqn, fin, rOkV, hq2, hq13]; done) | (simp [rs_expect, inn, rqn, fin, rOkV, hq2, hq13]; rfl) | (simp [rs_expect, inn, rqn, fin, rOkV, hq2, hq13]; done) | (simp [rs_expect, inn, rqn, fin, rOkV, hq2, hq13]; rfl) | (simp only [rs_expect, inn, rqn, fin, rOkV, hq2, hq13]; rfl))
    · refine k_callR (k_atS (As := [.int y, .int (nI 0), .int (nI 63)]) hx hb hown hE.1 (K0.w tw_714) rfl k_w9 (hts _ tw_712) (hts _ tw_713) (hts _ tw_5) (by decide) np_Mod_in rfl d_Mod_expect_16) (kz_s hq13 (c_Mod_in K0 ad κ o σ1 y 0 63 (by decide) (by decide))) (hl.1.trans hml.symm) (Nat.le_of_ble_eq_true rfl) ⟨Nat.le_of_ble_eq_true rfl, Nat.le_of_ble_eq_true rfl, Nat.le_of_ble_eq_true rfl, Nat.le_of_ble_eq_true rfl⟩ (fun U hU hW => ⟨hE.go hW hU hS, by rw [hU]; exact hP, hD⟩) ?_
      obtain ⟨rfl, ha15, hb_16, hc_17⟩ := rg_some hq13
      refine k_ifN0 (tgt := 28) (by decide) hx hb d_Mod_expect_19 (by decide) (fun _ => ?_) (fun h9 => absurd h9 (by decide))
      refine lv_aload_n hx hb d_Mod_expect_28 rfl (lv_at hl 0 rfl) ?_
      refine va_get (D := D) (ci := nMod) (v := .ref (ad 18)) (C := R_Mod) (T := T_Mod) (N := 15) hx hb hts i_Mod hown hK hP 17 rfl rfl 1 (by decide) (hts _ tw_656) (fun _ h9 => h9) rfl d_Mod_expect_29 ?_
      refine lv_iload_n hx hb d_Mod_expect_32 rfl (lv_at hl 1 rfl) ?_
      refine k_aldN (q0 := 18) (t0 := 0) hx hb hK hP rfl rfl (by omega) (by decide) d_Mod_expect_33 ?_
      have ho19 := o4 j3 (by omega)
      refine lv_iconst (v := (nI 2)) hx hb d_Mod_expect_34 (by decide) ?_
      refine k_eqN (tgt := 44) (Nat.lt_of_lt_of_le (ok1.b4 _ (by omega)) (by decide)) (by omega) hx hb d_Mod_expect_35 (by decide) (fun h20 => ?_) (fun h20 => ?_)
      · refine lv_aload_n hx hb d_Mod_expect_44 rfl (lv_at hl 0 rfl) ?_
        refine lv_aload_n hx hb d_Mod_expect_45 rfl (lv_at hl 0 rfl) ?_
        refine va_get (D := D) (ci := nMod) (v := .int (nI (σ1.1 11 0))) (C := R_Mod) (T := T_Mod) (N := 15) hx hb hts i_Mod hown hK hP 17 rfl rfl 13 (by decide) (hts _ tw_668) (fun _ h9 => h9) rfl d_Mod_expect_46 ?_
        refine lv_iload_n hx hb d_Mod_expect_49 rfl (lv_at hl 2 rfl) ?_
        refine k_callR (k_atV (As := [.int (nI (σ1.1 11 0)), .int (nI j14)]) hx hb hown hE.1 (K0.w tw_825) (hts _ tw_822) (hts _ tw_824) (hts _ tw_9033) (hts _ tw_5) (by decide) np_Mod_frameEntry (va_recv hK hP (ci := nMod) (q0 := 17) rfl rfl) rfl d_Mod_expect_50) (c_Mod_frameEntry K0 ad κ o σ1 (σ1.1 11 0) j14 (by omega) (by omega) (by omega) (by omega) ok1.b2) (hl.1.trans hml.symm) (Nat.le_of_ble_eq_true rfl) ⟨Nat.le_of_ble_eq_true rfl, Nat.le_of_ble_eq_true rfl, Nat.le_of_ble_eq_true rfl, Nat.le_of_ble_eq_true rfl⟩ (fun U hU hW => ⟨hE.go hW hU hS, by rw [hU]; exact hP, hD⟩) ?_
        have hfe21 : rfe σ1 (σ1.1 11 0) j14 < 81 := rfe_lt o2 (by omega) (by omega)
        refine lv_istore_n (lv' := [(3, .int (pI (rfe σ1 (σ1.1 11 0) j14))), (0, .ref (ad 17)), (1, .int (nI j3)), (2, .int (nI j14))]) hx hb d_Mod_expect_53 rfl hl (by decide) rfl (fun ls hl => ?_)
        refine lv_iload_n hx hb d_Mod_expect_54 rfl (lv_at hl 0 rfl) ?_
        refine k_geP0 (tgt := 64) (by omega) hx hb d_Mod_expect_55 (by decide) (fun h22 => ?_) (fun h22 => ?_)
        · refine lv_aload_n hx hb d_Mod_expect_64 rfl (lv_at hl 1 rfl) ?_
          refine va_get (D := D) (ci := nMod) (v := .ref (ad 25)) (C := R_Mod) (T := T_Mod) (N := 15) hx hb hts i_Mod hown hK hP 17 rfl rfl 8 (by decide) (hts _ tw_663) (fun _ h9 => h9) rfl d_Mod_expect_65 ?_
          refine lv_iload_n hx hb d_Mod_expect_68 rfl (lv_at hl 0 rfl) ?_
          refine k_st (st' := [.int (nI ((rfe σ1 (σ1.1 11 0) j14) - 1)), .ref (ad 25)]) (by show ([.int (pI (rfe σ1 (σ1.1 11 0) j14)), .ref (ad 25)] : List Value) = _; rw [pI_pred (t := (rfe σ1 (σ1.1 11 0) j14)) (by omega)]) ?_
          refine k_aldP (q0 := 25) (t0 := 0) hx hb hK hP rfl rfl (by omega) (by decide) d_Mod_expect_69 ?_
          have ho23 := o2 ((rfe σ1 (σ1.1 11 0) j14) - 1) (by omega)
          refine k_ltP0 (tgt := 79) (ok1.b2 _ (by omega)) hx hb d_Mod_expect_70 (by decide) (fun h24 => ?_) (fun h24 => ?_)
          · refine lv_aload_n hx hb d_Mod_expect_79 rfl (lv_at hl 1 rfl) ?_
            refine va_get (D := D) (ci := nMod) (v := .ref (ad 22)) (C := R_Mod) (T := T_Mod) (N := 15) hx hb hts i_Mod hown hK hP 17 rfl rfl 5 (by decide) (hts _ tw_660) (fun _ h9 => h9) rfl d_Mod_expect_80 ?_
            refine lv_aload_n hx hb d_Mod_expect_83 rfl (lv_at hl 1 rfl) ?_
            refine va_get (D := D) (ci := nMod) (v := .int (nI (σ1.1 11 0))) (C := R_Mod) (T := T_Mod) (N := 15) hx hb hts i_Mod hown hK hP 17 rfl rfl 13 (by decide) (hts _ tw_668) (fun _ h9 => h9) rfl d_Mod_expect_84 ?_
            refine lv_iload_n hx hb d_Mod_expect_87 rfl (lv_at hl 3 rfl) ?_
            refine k_astN (q0 := 22) (t0 := 0) hx hb hK hP hD hS rfl rfl (by omega) (by decide) d_Mod_expect_88 (fun H locs hP hD hS => ?_)
            obtain ⟨σ25, eσ25⟩ : ∃ z : kS, z = (st σ1 8 (σ1.1 11 0) j14) := ⟨_, rfl⟩
            have hP : va_P D vwCl (wX ad cI κ o σ25) H := by rw [eσ25]; exact hP
            have hD : va_D (kA s0) (wX ad cI κ o σ25) := by rw [eσ25]; exact hD
            refine lv_aload_n hx hb d_Mod_expect_89 rfl (lv_at hl 1 rfl) ?_
            refine lv_iload_n hx hb d_Mod_expect_90 rfl (lv_at hl 2 rfl) ?_
            refine lv_iconst (v := (nI 4)) hx hb d_Mod_expect_91 (by decide) ?_
            refine k_callW (k_atV (As := [.int (nI j3), .int (nI 4)]) hx hb hown hE.1 (K0.w tw_777) (hts _ tw_774) (hts _ tw_776) (hts _ tw_9027) (hts _ tw_5) (by decide) np_Mod_hand (va_recv hK hP (ci := nMod) (q0 := 17) rfl rfl) rfl d_Mod_expect_92) (c_Mod_hand K0 ad κ o σ25 j3 4 (by omega) (by subst eσ25; exact oc2)) (hl.1.trans hml.symm) (Nat.le_of_ble_eq_true rfl) ⟨Nat.le_of_ble_eq_true rfl, Nat.le_of_ble_eq_true rfl, Nat.le_of_ble_eq_true rfl, Nat.le_of_ble_eq_true rfl⟩ (fun U hU hW => ⟨hE.go hW hU hS, by rw [hU]; exact hP, hD⟩) hS (fun H locs hP hD hS => ?_)
            obtain ⟨σ26, eσ26⟩ : ∃ z : kS, z = (r_hand σ25 j3 4) := ⟨_, rfl⟩
            have hP : va_P D vwCl (wX ad cI κ o σ26) H := by rw [eσ26]; exact hP
            have hD : va_D (kA s0) (wX ad cI κ o σ26) := by rw [eσ26]; exact hD
            refine lv_pop hx hb d_Mod_expect_95 rfl ?_
            refine lv_iload_n hx hb d_Mod_expect_96 rfl (lv_at hl 2 rfl) ?_
            exact k_retWI hx hb hr hlocks d_Mod_expect_97 hP hD hS (by rw [e0]; subst eσ26 eσ25; first | rfl | (simp [rs_expect, inn, rqn, fin, rOkV, hq2, hq13, h20, h22, h24, beq_false_of_ne h22, bne_iff_ne.mpr h22]; done) | (simp [rs_expect, inn, rqn, fin, rOkV, hq2, hq13, h20, h22, h24, beq_false_of_ne h22, bne_iff_ne.mpr h22]; rfl) | (simp [rs_expect, inn, rqn, fin, rOkV, hq2, hq13, h22, beq_iff_eq.mpr h20, beq_iff_eq.mpr h24, kbne h20, kbne h24, beq_false_of_ne h22, bne_iff_ne.mpr h22]; done) | (simp [rs_expect, inn, rqn, fin, rOkV, hq2, hq13, h22, beq_iff_eq.mpr h20, beq_iff_eq.mpr h24, kbne h20, kbne h24, beq_false_of_ne h22, bne_iff_ne.mpr h22]; rfl) | (simp only [rs_expect, inn, rqn, fin, rOkV, hq2, hq13, h20, h22, h24, beq_false_of_ne h22, bne_iff_ne.mpr h22]; rfl))
          · refine lv_aload_n hx hb d_Mod_expect_73 rfl (lv_at hl 1 rfl) ?_
            refine lv_iconst (v := (nI 4)) hx hb d_Mod_expect_74 (by decide) ?_
            refine k_callW (k_atV (As := [.int (nI 4)]) hx hb hown hE.1 (K0.w tw_721) (hts _ tw_718) (hts _ tw_720) (hts _ tw_9020) (hts _ tw_5) (by decide) np_Mod_raise (va_recv hK hP (ci := nMod) (q0 := 17) rfl rfl) rfl d_Mod_expect_75) (c_Mod_raise K0 ad κ o σ1 (nI 4)) (hl.1.trans hml.symm) (Nat.le_of_ble_eq_true rfl) ⟨Nat.le_of_ble_eq_true rfl, Nat.le_of_ble_eq_true rfl, Nat.le_of_ble_eq_true rfl, Nat.le_of_ble_eq_true rfl⟩ (fun U hU hW => ⟨hE.go hW hU hS, by rw [hU]; exact hP, hD⟩) hS (fun H locs hP hD hS => ?_)
            obtain ⟨σ27, eσ27⟩ : ∃ z : kS, z = (sw σ1 2 0 (nI 4)) := ⟨_, rfl⟩
            have hP : va_P D vwCl (wX ad cI κ o σ27) H := by rw [eσ27]; exact hP
            have hD : va_D (kA s0) (wX ad cI κ o σ27) := by rw [eσ27]; exact hD
            have hwσ27 : σ27.1 = σ1.1 := by rw [eσ27]; exact rfl
            exact k_retWI hx hb hr hlocks d_Mod_expect_78 hP hD hS (by rw [e0]; subst eσ27; first | rfl | (simp [rs_expect, inn, rqn, fin, rOkV, hq2, hq13, h20, h22, h24, beq_false_of_ne h22, beq_false_of_ne h24, bne_iff_ne.mpr h22, bne_iff_ne.mpr h24]; done) | (simp [rs_expect, inn, rqn, fin, rOkV, hq2, hq13, h20, h22, h24, beq_false_of_ne h22, beq_false_of_ne h24, bne_iff_ne.mpr h22, bne_iff_ne.mpr h24]; rfl) | (simp [rs_expect, inn, rqn, fin, rOkV, hq2, hq13, h22, h24, beq_iff_eq.mpr h20, kbne h20, beq_false_of_ne h22, beq_false_of_ne h24, bne_iff_ne.mpr h22, bne_iff_ne.mpr h24]; done) | (simp [rs_expect, inn, rqn, fin, rOkV, hq2, hq13, h22, h24, beq_iff_eq.mpr h20, kbne h20, beq_false_of_ne h22, beq_false_of_ne h24, bne_iff_ne.mpr h22, bne_iff_ne.mpr h24]; rfl) | (simp only [rs_expect, inn, rqn, fin, rOkV, hq2, hq13, h20, h22, h24, beq_false_of_ne h22, beq_false_of_ne h24, bne_iff_ne.mpr h22, bne_iff_ne.mpr h24]; rfl))
        · refine lv_aload_n hx hb d_Mod_expect_58 rfl (lv_at hl 1 rfl) ?_
          refine lv_iconst (v := (nI 3)) hx hb d_Mod_expect_59 (by decide) ?_
          refine k_callW (k_atV (As := [.int (nI 3)]) hx hb hown hE.1 (K0.w tw_721) (hts _ tw_718) (hts _ tw_720) (hts _ tw_9020) (hts _ tw_5) (by decide) np_Mod_raise (va_recv hK hP (ci := nMod) (q0 := 17) rfl rfl) rfl d_Mod_expect_60) (c_Mod_raise K0 ad κ o σ1 (nI 3)) (hl.1.trans hml.symm) (Nat.le_of_ble_eq_true rfl) ⟨Nat.le_of_ble_eq_true rfl, Nat.le_of_ble_eq_true rfl, Nat.le_of_ble_eq_true rfl, Nat.le_of_ble_eq_true rfl⟩ (fun U hU hW => ⟨hE.go hW hU hS, by rw [hU]; exact hP, hD⟩) hS (fun H locs hP hD hS => ?_)
          obtain ⟨σ28, eσ28⟩ : ∃ z : kS, z = (sw σ1 2 0 (nI 3)) := ⟨_, rfl⟩
          have hP : va_P D vwCl (wX ad cI κ o σ28) H := by rw [eσ28]; exact hP
          have hD : va_D (kA s0) (wX ad cI κ o σ28) := by rw [eσ28]; exact hD
          have hwσ28 : σ28.1 = σ1.1 := by rw [eσ28]; exact rfl
          exact k_retWI hx hb hr hlocks d_Mod_expect_63 hP hD hS (by rw [e0]; subst eσ28; first | rfl | (simp [rs_expect, inn, rqn, fin, rOkV, hq2, hq13, h20, h22]; done) | (simp [rs_expect, inn, rqn, fin, rOkV, hq2, hq13, h20, h22]; rfl) | (simp [rs_expect, inn, rqn, fin, rOkV, hq2, hq13, beq_iff_eq.mpr h20, beq_iff_eq.mpr h22, kbne h20, kbne h22]; done) | (simp [rs_expect, inn, rqn, fin, rOkV, hq2, hq13, beq_iff_eq.mpr h20, beq_iff_eq.mpr h22, kbne h20, kbne h22]; rfl) | (simp only [rs_expect, inn, rqn, fin, rOkV, hq2, hq13, h20, h22]; rfl))
      · refine lv_aload_n hx hb d_Mod_expect_38 rfl (lv_at hl 0 rfl) ?_
        refine lv_iconst (v := (nI 2)) hx hb d_Mod_expect_39 (by decide) ?_
        refine k_callW (k_atV (As := [.int (nI 2)]) hx hb hown hE.1 (K0.w tw_721) (hts _ tw_718) (hts _ tw_720) (hts _ tw_9020) (hts _ tw_5) (by decide) np_Mod_raise (va_recv hK hP (ci := nMod) (q0 := 17) rfl rfl) rfl d_Mod_expect_40) (c_Mod_raise K0 ad κ o σ1 (nI 2)) (hl.1.trans hml.symm) (Nat.le_of_ble_eq_true rfl) ⟨Nat.le_of_ble_eq_true rfl, Nat.le_of_ble_eq_true rfl, Nat.le_of_ble_eq_true rfl, Nat.le_of_ble_eq_true rfl⟩ (fun U hU hW => ⟨hE.go hW hU hS, by rw [hU]; exact hP, hD⟩) hS (fun H locs hP hD hS => ?_)
        obtain ⟨σ29, eσ29⟩ : ∃ z : kS, z = (sw σ1 2 0 (nI 2)) := ⟨_, rfl⟩
        have hP : va_P D vwCl (wX ad cI κ o σ29) H := by rw [eσ29]; exact hP
        have hD : va_D (kA s0) (wX ad cI κ o σ29) := by rw [eσ29]; exact hD
        have hwσ29 : σ29.1 = σ1.1 := by rw [eσ29]; exact rfl
        exact k_retWI hx hb hr hlocks d_Mod_expect_43 hP hD hS (by rw [e0]; subst eσ29; first | rfl | (simp [rs_expect, inn, rqn, fin, rOkV, hq2, hq13, h20, beq_false_of_ne h20, bne_iff_ne.mpr h20]; done) | (simp [rs_expect, inn, rqn, fin, rOkV, hq2, hq13, h20, beq_false_of_ne h20, bne_iff_ne.mpr h20]; rfl) | (simp [rs_expect, inn, rqn, fin, rOkV, hq2, hq13, h20, beq_false_of_ne h20, bne_iff_ne.mpr h20]; done) | (simp [rs_expect, inn, rqn, fin, rOkV, hq2, hq13, h20, beq_false_of_ne h20, bne_iff_ne.mpr h20]; rfl) | (simp only [rs_expect, inn, rqn, fin, rOkV, hq2, hq13, h20, beq_false_of_ne h20, bne_iff_ne.mpr h20]; rfl))
