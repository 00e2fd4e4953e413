/-! The calls, first half. Laid by a program of mine (wip/gen). -/
set_option maxHeartbeats 4000000 in
set_option maxRecDepth 100000 in
theorem c_FK_spawn {l : Launch} {s0 : State} {a0 : Array Value} {D : va_G} {cI cL : ClassId} (K0 : k0 l s0 a0 D cI cL) (ad : Nat → Nat) (r : va_W) (σ : kS) (x : Int32) (y : Int32) (ok : kOk σ) : kMet l y_FK_spawn (Cond.code y_FK_spawn b_FK_spawn 3 (some .int)) (rmL 8) [.ref (ad 0), .int x, .int y] (kPre D vwCl s0 (wC ad cI r) σ) (sp_spawn σ x y) (kBw D vwCl s0 (wC ad cI r)) := by
  refine k_of (by decide) (Nat.le_of_ble_eq_true rfl) ?_
  intro p e9 s m below meth c hx hb hr hlocks hown hml hex hpre ls hl
  obtain ⟨hE, hP, hD⟩ := hpre
  obtain ⟨hts, hK⟩ := K0.at (args := ([.ref (ad 0), .int x, .int y] : List Value).toArray) hE
  have hl : lv_has ls 3 [(0, .ref (ad 0)), (1, .int x), (2, .int y)] := hl
  have hS : va_S (kA s0) s.heap s.heap [] := va_S.rf
  obtain ⟨o1, o2, o3, o4, o5, o6, o7, o8, o9, o10, o0, ⟨oc1, oc2⟩, oc3, or6⟩ := id ok
  have hr0 : σ.1 6 (σ.1 11 0) ≠ 0 := or6 _ oc2 (by omega)
  have hr1 : σ.1 6 (σ.1 11 0) < 21 := o6 _ oc2
  refine lv_iload_n hx hb d_FK_spawn_0 rfl (lv_at hl 1 rfl) ?_
  rcases hq1 : rg x 1 5 with _ | j2
  · exact k_callE (k_atS (As := [.int x]) hx hb hown hE.1 (K0.w tw_140) rfl k_w9 (hts _ tw_138) (hts _ tw_139) (hts _ tw_1) (by decide) np_FK_checkProcess rfl d_FK_spawn_1) (kn_n hq1 (c_FK_checkProcess K0 ad r σ x)) (hl.1.trans hml.symm) (Nat.le_of_ble_eq_true rfl) ⟨Nat.le_of_ble_eq_true rfl, Nat.le_of_ble_eq_true rfl, Nat.le_of_ble_eq_true rfl, Nat.le_of_ble_eq_true rfl⟩ (fun U hU hW => ⟨hE.go hW hU hS, by rw [hU]; exact hP, hD⟩) hex hlocks (by first | rfl | (simp [sp_spawn, inr, req, wit, eIA, eIS, eUO, eNS, hq1]; done) | (simp [sp_spawn, inr, req, wit, eIA, eIS, eUO, eNS, hq1]; rfl) | (simp [sp_spawn, inr, req, wit, eIA, eIS, eUO, eNS, hq1]; done) | (simp [sp_spawn, inr, req, wit, eIA, eIS, eUO, eNS, hq1]; rfl) | (simp only [sp_spawn, inr, req, wit, eIA, eIS, eUO, eNS, hq1]; rfl))
  · refine k_callR (k_atS (As := [.int x]) hx hb hown hE.1 (K0.w tw_140) rfl k_w9 (hts _ tw_138) (hts _ tw_139) (hts _ tw_1) (by decide) np_FK_checkProcess rfl d_FK_spawn_1) (kn_s hq1 (c_FK_checkProcess K0 ad r σ x)) (hl.1.trans hml.symm) (Nat.le_of_ble_eq_true rfl) ⟨Nat.le_of_ble_eq_true rfl, Nat.le_of_ble_eq_true rfl, Nat.le_of_ble_eq_true rfl, Nat.le_of_ble_eq_true rfl⟩ (fun U hU hW => ⟨hE.go hW hU hS, by rw [hU]; exact hP, hD⟩) ?_
    obtain ⟨rfl, ha3, hb_4, hc_5⟩ := rg_some hq1
    refine lv_iload_n hx hb d_FK_spawn_4 rfl (lv_at hl 2 rfl) ?_
    rcases hq6 : rg y 0 19 with _ | j7
    · exact k_callE (k_atS (As := [.int y]) hx hb hown hE.1 (K0.w tw_215) rfl k_w9 (hts _ tw_213) (hts _ tw_214) (hts _ tw_1) (by decide) np_FK_checkPage rfl d_FK_spawn_5) (kn_n hq6 (c_FK_checkPage K0 ad r σ y)) (hl.1.trans hml.symm) (Nat.le_of_ble_eq_true rfl) ⟨Nat.le_of_ble_eq_true rfl, Nat.le_of_ble_eq_true rfl, Nat.le_of_ble_eq_true rfl, Nat.le_of_ble_eq_true rfl⟩ (fun U hU hW => ⟨hE.go hW hU hS, by rw [hU]; exact hP, hD⟩) hex hlocks (by first | rfl | (simp [sp_spawn, inr, req, wit, eIA, eIS, eUO, eNS, hq1, hq6]; done) | (simp [sp_spawn, inr, req, wit, eIA, eIS, eUO, eNS, hq1, hq6]; rfl) | (simp [sp_spawn, inr, req, wit, eIA, eIS, eUO, eNS, hq1, hq6]; done) | (simp [sp_spawn, inr, req, wit, eIA, eIS, eUO, eNS, hq1, hq6]; rfl) | (simp only [sp_spawn, inr, req, wit, eIA, eIS, eUO, eNS, hq1, hq6]; rfl))
    · refine k_callR (k_atS (As := [.int y]) hx hb hown hE.1 (K0.w tw_215) rfl k_w9 (hts _ tw_213) (hts _ tw_214) (hts _ tw_1) (by decide) np_FK_checkPage rfl d_FK_spawn_5) (kn_s hq6 (c_FK_checkPage K0 ad r σ y)) (hl.1.trans hml.symm) (Nat.le_of_ble_eq_true rfl) ⟨Nat.le_of_ble_eq_true rfl, Nat.le_of_ble_eq_true rfl, Nat.le_of_ble_eq_true rfl, Nat.le_of_ble_eq_true rfl⟩ (fun U hU hW => ⟨hE.go hW hU hS, by rw [hU]; exact hP, hD⟩) ?_
      obtain ⟨rfl, ha8, hb_9, hc_10⟩ := rg_some hq6
      refine lv_aload_n hx hb d_FK_spawn_8 rfl (lv_at hl 0 rfl) ?_
      refine va_get (D := D) (ci := nFK) (v := .ref (ad 2)) (C := R_FK) (T := T_FK) (N := 4) hx hb hts i_FK hown hK hP 0 rfl rfl 1 (by decide) (hts _ tw_117) (fun _ h9 => h9) rfl d_FK_spawn_9 ?_
      refine lv_iload_n hx hb d_FK_spawn_12 rfl (lv_at hl 1 rfl) ?_
      refine k_callR (k_atV (As := [.int (nI j2)]) hx hb hown hE.1 (K0.w tw_219) (hts _ tw_216) (hts _ tw_217) (hts _ tw_218) (hts _ tw_3) (by decide) np_Pro_stateOf (va_recv hK hP (ci := nPro) (q0 := 2) rfl rfl) rfl d_FK_spawn_13) (c_Pro_stateOf K0 ad r σ j2 (by omega)) (hl.1.trans hml.symm) (Nat.le_of_ble_eq_true rfl) ⟨Nat.le_of_ble_eq_true rfl, Nat.le_of_ble_eq_true rfl, Nat.le_of_ble_eq_true rfl, Nat.le_of_ble_eq_true rfl⟩ (fun U hU hW => ⟨hE.go hW hU hS, by rw [hU]; exact hP, hD⟩) ?_
      have ho11 := o4 j2 (by omega)
      refine k_if0 (tgt := 29) (Nat.lt_of_lt_of_le (ok.b4 _ (by omega)) (by decide)) hx hb d_FK_spawn_16 (by decide) (fun h12 => ?_) (fun h12 => ?_)
      · refine lv_aload_n hx hb d_FK_spawn_29 rfl (lv_at hl 0 rfl) ?_
        refine lv_iload_n hx hb d_FK_spawn_30 rfl (lv_at hl 2 rfl) ?_
        rcases hq13 : (σ.1 0 j7 == 0) with _ | _
        · exact k_callE (k_atV (As := [.int (nI j7)]) hx hb hown hE.1 (K0.w tw_239) (hts _ tw_236) (hts _ tw_238) (hts _ tw_9001) (hts _ tw_1) (by decide) np_FK_checkPageIsFree (va_recv hK hP (ci := nFK) (q0 := 0) rfl rfl) rfl d_FK_spawn_31) (kr_f hq13 (c_FK_checkPageIsFree K0 ad r σ j7 ok (by omega) )) (hl.1.trans hml.symm) (Nat.le_of_ble_eq_true rfl) ⟨Nat.le_of_ble_eq_true rfl, Nat.le_of_ble_eq_true rfl, Nat.le_of_ble_eq_true rfl, Nat.le_of_ble_eq_true rfl⟩ (fun U hU hW => ⟨hE.go hW hU hS, by rw [hU]; exact hP, hD⟩) hex hlocks (by first | rfl | (simp [sp_spawn, inr, req, wit, eIA, eIS, eUO, eNS, hq1, hq6, h12, hq13]; done) | (simp [sp_spawn, inr, req, wit, eIA, eIS, eUO, eNS, hq1, hq6, h12, hq13]; rfl) | (simp [sp_spawn, inr, req, wit, eIA, eIS, eUO, eNS, hq1, hq6, hq13, beq_iff_eq.mpr h12]; done) | (simp [sp_spawn, inr, req, wit, eIA, eIS, eUO, eNS, hq1, hq6, hq13, beq_iff_eq.mpr h12]; rfl) | (simp only [sp_spawn, inr, req, wit, eIA, eIS, eUO, eNS, hq1, hq6, h12, hq13]; rfl))
        · refine k_callR (k_atV (As := [.int (nI j7)]) hx hb hown hE.1 (K0.w tw_239) (hts _ tw_236) (hts _ tw_238) (hts _ tw_9001) (hts _ tw_1) (by decide) np_FK_checkPageIsFree (va_recv hK hP (ci := nFK) (q0 := 0) rfl rfl) rfl d_FK_spawn_31) (kr_t hq13 (c_FK_checkPageIsFree K0 ad r σ j7 ok (by omega) )) (hl.1.trans hml.symm) (Nat.le_of_ble_eq_true rfl) ⟨Nat.le_of_ble_eq_true rfl, Nat.le_of_ble_eq_true rfl, Nat.le_of_ble_eq_true rfl, Nat.le_of_ble_eq_true rfl⟩ (fun U hU hW => ⟨hE.go hW hU hS, by rw [hU]; exact hP, hD⟩) ?_
          refine lv_aload_n hx hb d_FK_spawn_34 rfl (lv_at hl 0 rfl) ?_
          refine va_get (D := D) (ci := nFK) (v := .ref (ad 1)) (C := R_FK) (T := T_FK) (N := 4) hx hb hts i_FK hown hK hP 0 rfl rfl 0 (by decide) (hts _ tw_116) (fun _ h9 => h9) rfl d_FK_spawn_35 ?_
          refine lv_iload_n hx hb d_FK_spawn_38 rfl (lv_at hl 2 rfl) ?_
          refine lv_iconst (v := (nI 1)) hx hb d_FK_spawn_39 (by decide) ?_
          refine lv_iload_n hx hb d_FK_spawn_40 rfl (lv_at hl 1 rfl) ?_
          refine k_callW (k_atV (As := [.int (nI j7), .int (nI 1), .int (nI j2)]) hx hb hown hE.1 (K0.w tw_34) (hts _ tw_114) (hts _ tw_32) (hts _ tw_33) (hts _ tw_2) (by decide) np_Mem_become (va_recv hK hP (ci := nMem) (q0 := 1) rfl rfl) rfl d_FK_spawn_41) (c_Mem_become K0 ad r σ j7 1 j2 (by omega)) (hl.1.trans hml.symm) (Nat.le_of_ble_eq_true rfl) ⟨Nat.le_of_ble_eq_true rfl, Nat.le_of_ble_eq_true rfl, Nat.le_of_ble_eq_true rfl, Nat.le_of_ble_eq_true rfl⟩ (fun U hU hW => ⟨hE.go hW hU hS, by rw [hU]; exact hP, hD⟩) hS (fun H locs hP hD hS => ?_)
          obtain ⟨σ14, eσ14⟩ : ∃ z : kS, z = (m_become σ j7 1 j2) := ⟨_, rfl⟩
          have hP : va_P D vwCl (wC ad cI r σ14) H := by rw [eσ14]; exact hP
          have hD : va_D (kA s0) (wC ad cI r σ14) := by rw [eσ14]; exact hD
          refine lv_aload_n hx hb d_FK_spawn_44 rfl (lv_at hl 0 rfl) ?_
          refine va_get (D := D) (ci := nFK) (v := .ref (ad 2)) (C := R_FK) (T := T_FK) (N := 4) hx hb hts i_FK hown hK hP 0 rfl rfl 1 (by decide) (hts _ tw_117) (fun _ h9 => h9) rfl d_FK_spawn_45 ?_
          refine lv_iload_n hx hb d_FK_spawn_48 rfl (lv_at hl 1 rfl) ?_
          refine lv_iconst (v := (nI 1)) hx hb d_FK_spawn_49 (by decide) ?_
          refine lv_aload_n hx hb d_FK_spawn_50 rfl (lv_at hl 0 rfl) ?_
          refine va_get (D := D) (ci := nFK) (v := .int (nI (σ14.1 11 0))) (C := R_FK) (T := T_FK) (N := 4) hx hb hts i_FK hown hK hP 0 rfl rfl 3 (by decide) (hts _ tw_119) (fun _ h9 => h9) rfl d_FK_spawn_51 ?_
          refine lv_iload_n hx hb d_FK_spawn_54 rfl (lv_at hl 2 rfl) ?_
          refine k_st (st' := [.int (pI (j7 + 1)), .int (nI (σ14.1 11 0)), .int (nI 1), .int (nI j2), .ref (ad 2)]) (by show ([.int (nI j7), .int (nI (σ14.1 11 0)), .int (nI 1), .int (nI j2), .ref (ad 2)] : List Value) = _; simp only [pI_succ]) ?_
          refine k_callW (k_atV (As := [.int (nI j2), .int (nI 1), .int (nI (σ14.1 11 0)), .int (pI (j7 + 1))]) hx hb hown hE.1 (K0.w tw_77) (hts _ tw_115) (hts _ tw_75) (hts _ tw_76) (hts _ tw_3) (by decide) np_Pro_begin (va_recv hK hP (ci := nPro) (q0 := 2) rfl rfl) rfl d_FK_spawn_55) (c_Pro_begin K0 ad r σ14 j2 1 (σ14.1 11 0) (j7 + 1) (by omega)) (hl.1.trans hml.symm) (Nat.le_of_ble_eq_true rfl) ⟨Nat.le_of_ble_eq_true rfl, Nat.le_of_ble_eq_true rfl, Nat.le_of_ble_eq_true rfl, Nat.le_of_ble_eq_true rfl⟩ (fun U hU hW => ⟨hE.go hW hU hS, by rw [hU]; exact hP, hD⟩) hS (fun H locs hP hD hS => ?_)
          obtain ⟨σ15, eσ15⟩ : ∃ z : kS, z = (m_begin σ14 j2 1 (σ14.1 11 0) (j7 + 1)) := ⟨_, rfl⟩
          have hP : va_P D vwCl (wC ad cI r σ15) H := by rw [eσ15]; exact hP
          have hD : va_D (kA s0) (wC ad cI r σ15) := by rw [eσ15]; exact hD
          refine lv_iconst (v := (nI 1)) hx hb d_FK_spawn_58 (by decide) ?_
          exact k_retWI hx hb hr hlocks d_FK_spawn_59 hP hD hS (by subst eσ15 eσ14; first | rfl | (simp [sp_spawn, inr, req, wit, eIA, eIS, eUO, eNS, hq1, hq6, h12, hq13]; done) | (simp [sp_spawn, inr, req, wit, eIA, eIS, eUO, eNS, hq1, hq6, h12, hq13]; rfl) | (simp [sp_spawn, inr, req, wit, eIA, eIS, eUO, eNS, hq1, hq6, hq13, beq_iff_eq.mpr h12]; done) | (simp [sp_spawn, inr, req, wit, eIA, eIS, eUO, eNS, hq1, hq6, hq13, beq_iff_eq.mpr h12]; rfl) | (simp only [sp_spawn, inr, req, wit, eIA, eIS, eUO, eNS, hq1, hq6, h12, hq13]; rfl))
      · exact k_throw hx hb K0.tr hown (text := "the process is not free") (names := kNames) (by decide +kernel) (by decide +kernel) (hts _ tw_220) (hts _ tw_10) (K0.str hE sr_55) (K0.own hE oa_57) (hl.1.trans hml.symm) d_FK_spawn_19 d_FK_spawn_22 d_FK_spawn_23 d_FK_spawn_25 d_FK_spawn_28 hex hlocks ⟨Nat.le_of_ble_eq_true rfl, Nat.le_of_ble_eq_true rfl, Nat.le_of_ble_eq_true rfl, Nat.le_of_ble_eq_true rfl⟩ (by first | rfl | (simp [sp_spawn, inr, req, wit, eIA, eIS, eUO, eNS, hq1, hq6, h12, beq_false_of_ne h12, bne_iff_ne.mpr h12]; done) | (simp [sp_spawn, inr, req, wit, eIA, eIS, eUO, eNS, hq1, hq6, h12, beq_false_of_ne h12, bne_iff_ne.mpr h12]; rfl) | (simp [sp_spawn, inr, req, wit, eIA, eIS, eUO, eNS, hq1, hq6, h12, beq_false_of_ne h12, bne_iff_ne.mpr h12]; done) | (simp [sp_spawn, inr, req, wit, eIA, eIS, eUO, eNS, hq1, hq6, h12, beq_false_of_ne h12, bne_iff_ne.mpr h12]; rfl) | (simp only [sp_spawn, inr, req, wit, eIA, eIS, eUO, eNS, hq1, hq6, h12, beq_false_of_ne h12, bne_iff_ne.mpr h12]; rfl))
set_option maxHeartbeats 4000000 in
set_option maxRecDepth 100000 in
theorem c_FK_fillEntry1 {l : Launch} {s0 : State} {a0 : Array Value} {D : va_G} {cI cL : ClassId} (K0 : k0 l s0 a0 D cI cL) (ad : Nat → Nat) (r : va_W) (σ : kS) (x : Int32) (y : Int32) (z : Int32) (w : Int32) (ok : kOk σ) : kMet l y_FK_fillEntry (Cond.code y_FK_fillEntry b_FK_fillEntry 7 (some .int)) (rmL 8) [.ref (ad 0), .int x, .int (nI 1), .int y, .int z, .int w] (kPre D vwCl s0 (wC ad cI r) σ) (sp_fill 1 σ x y z w) (kBw D vwCl s0 (wC ad cI r)) := by
  refine k_of (by decide) (Nat.le_of_ble_eq_true rfl) ?_
  intro p e9 s m below meth c hx hb hr hlocks hown hml hex hpre ls hl
  obtain ⟨hE, hP, hD⟩ := hpre
  obtain ⟨hts, hK⟩ := K0.at (args := ([.ref (ad 0), .int x, .int (nI 1), .int y, .int z, .int w] : List Value).toArray) hE
  have hl : lv_has ls 7 [(0, .ref (ad 0)), (1, .int x), (2, .int (nI 1)), (3, .int y), (4, .int z), (5, .int w)] := hl
  have hS : va_S (kA s0) s.heap s.heap [] := va_S.rf
  obtain ⟨o1, o2, o3, o4, o5, o6, o7, o8, o9, o10, o0, ⟨oc1, oc2⟩, oc3, or6⟩ := id ok
  have hr0 : σ.1 6 (σ.1 11 0) ≠ 0 := or6 _ oc2 (by omega)
  have hr1 : σ.1 6 (σ.1 11 0) < 21 := o6 _ oc2
  refine lv_iload_n hx hb d_FK_fillEntry_0 rfl (lv_at hl 1 rfl) ?_
  rcases hq1 : rg x 0 19 with _ | j2
  · exact k_callE (k_atS (As := [.int x]) hx hb hown hE.1 (K0.w tw_215) rfl k_w9 (hts _ tw_213) (hts _ tw_214) (hts _ tw_1) (by decide) np_FK_checkPage rfl d_FK_fillEntry_1) (kn_n hq1 (c_FK_checkPage K0 ad r σ x)) (hl.1.trans hml.symm) (Nat.le_of_ble_eq_true rfl) ⟨Nat.le_of_ble_eq_true rfl, Nat.le_of_ble_eq_true rfl, Nat.le_of_ble_eq_true rfl, Nat.le_of_ble_eq_true rfl⟩ (fun U hU hW => ⟨hE.go hW hU hS, by rw [hU]; exact hP, hD⟩) hex hlocks (by first | rfl | (simp [sp_fill, inr, req, wit, eIA, eIS, eUO, eNS, hq1]; done) | (simp [sp_fill, inr, req, wit, eIA, eIS, eUO, eNS, hq1]; rfl) | (simp [sp_fill, inr, req, wit, eIA, eIS, eUO, eNS, hq1]; done) | (simp [sp_fill, inr, req, wit, eIA, eIS, eUO, eNS, hq1]; rfl) | (simp only [sp_fill, inr, req, wit, eIA, eIS, eUO, eNS, hq1]; rfl))
  · refine k_callR (k_atS (As := [.int x]) hx hb hown hE.1 (K0.w tw_215) rfl k_w9 (hts _ tw_213) (hts _ tw_214) (hts _ tw_1) (by decide) np_FK_checkPage rfl d_FK_fillEntry_1) (kn_s hq1 (c_FK_checkPage K0 ad r σ x)) (hl.1.trans hml.symm) (Nat.le_of_ble_eq_true rfl) ⟨Nat.le_of_ble_eq_true rfl, Nat.le_of_ble_eq_true rfl, Nat.le_of_ble_eq_true rfl, Nat.le_of_ble_eq_true rfl⟩ (fun U hU hW => ⟨hE.go hW hU hS, by rw [hU]; exact hP, hD⟩) ?_
    obtain ⟨rfl, ha3, hb_4, hc_5⟩ := rg_some hq1
    refine lv_iload_n hx hb d_FK_fillEntry_4 rfl (lv_at hl 3 rfl) ?_
    rcases hq6 : rg y 0 3 with _ | j7
    · exact k_callE (k_atS (As := [.int y]) hx hb hown hE.1 (K0.w tw_259) rfl k_w9 (hts _ tw_257) (hts _ tw_258) (hts _ tw_1) (by decide) np_FK_checkEntry rfl d_FK_fillEntry_5) (kn_n hq6 (c_FK_checkEntry K0 ad r σ y)) (hl.1.trans hml.symm) (Nat.le_of_ble_eq_true rfl) ⟨Nat.le_of_ble_eq_true rfl, Nat.le_of_ble_eq_true rfl, Nat.le_of_ble_eq_true rfl, Nat.le_of_ble_eq_true rfl⟩ (fun U hU hW => ⟨hE.go hW hU hS, by rw [hU]; exact hP, hD⟩) hex hlocks (by first | rfl | (simp [sp_fill, inr, req, wit, eIA, eIS, eUO, eNS, hq1, hq6]; done) | (simp [sp_fill, inr, req, wit, eIA, eIS, eUO, eNS, hq1, hq6]; rfl) | (simp [sp_fill, inr, req, wit, eIA, eIS, eUO, eNS, hq1, hq6]; done) | (simp [sp_fill, inr, req, wit, eIA, eIS, eUO, eNS, hq1, hq6]; rfl) | (simp only [sp_fill, inr, req, wit, eIA, eIS, eUO, eNS, hq1, hq6]; rfl))
    · refine k_callR (k_atS (As := [.int y]) hx hb hown hE.1 (K0.w tw_259) rfl k_w9 (hts _ tw_257) (hts _ tw_258) (hts _ tw_1) (by decide) np_FK_checkEntry rfl d_FK_fillEntry_5) (kn_s hq6 (c_FK_checkEntry K0 ad r σ y)) (hl.1.trans hml.symm) (Nat.le_of_ble_eq_true rfl) ⟨Nat.le_of_ble_eq_true rfl, Nat.le_of_ble_eq_true rfl, Nat.le_of_ble_eq_true rfl, Nat.le_of_ble_eq_true rfl⟩ (fun U hU hW => ⟨hE.go hW hU hS, by rw [hU]; exact hP, hD⟩) ?_
      obtain ⟨rfl, ha8, hb_9, hc_10⟩ := rg_some hq6
      refine lv_iload hx hb d_FK_fillEntry_8 (lv_at hl 4 rfl) ?_
      rcases hq11 : rg z 0 19 with _ | j12
      · exact k_callE (k_atS (As := [.int z]) hx hb hown hE.1 (K0.w tw_215) rfl k_w9 (hts _ tw_213) (hts _ tw_214) (hts _ tw_1) (by decide) np_FK_checkPage rfl d_FK_fillEntry_10) (kn_n hq11 (c_FK_checkPage K0 ad r σ z)) (hl.1.trans hml.symm) (Nat.le_of_ble_eq_true rfl) ⟨Nat.le_of_ble_eq_true rfl, Nat.le_of_ble_eq_true rfl, Nat.le_of_ble_eq_true rfl, Nat.le_of_ble_eq_true rfl⟩ (fun U hU hW => ⟨hE.go hW hU hS, by rw [hU]; exact hP, hD⟩) hex hlocks (by first | rfl | (simp [sp_fill, inr, req, wit, eIA, eIS, eUO, eNS, hq1, hq6, hq11]; done) | (simp [sp_fill, inr, req, wit, eIA, eIS, eUO, eNS, hq1, hq6, hq11]; rfl) | (simp [sp_fill, inr, req, wit, eIA, eIS, eUO, eNS, hq1, hq6, hq11]; done) | (simp [sp_fill, inr, req, wit, eIA, eIS, eUO, eNS, hq1, hq6, hq11]; rfl) | (simp only [sp_fill, inr, req, wit, eIA, eIS, eUO, eNS, hq1, hq6, hq11]; rfl))
      · refine k_callR (k_atS (As := [.int z]) hx hb hown hE.1 (K0.w tw_215) rfl k_w9 (hts _ tw_213) (hts _ tw_214) (hts _ tw_1) (by decide) np_FK_checkPage rfl d_FK_fillEntry_10) (kn_s hq11 (c_FK_checkPage K0 ad r σ z)) (hl.1.trans hml.symm) (Nat.le_of_ble_eq_true rfl) ⟨Nat.le_of_ble_eq_true rfl, Nat.le_of_ble_eq_true rfl, Nat.le_of_ble_eq_true rfl, Nat.le_of_ble_eq_true rfl⟩ (fun U hU hW => ⟨hE.go hW hU hS, by rw [hU]; exact hP, hD⟩) ?_
        obtain ⟨rfl, ha13, hb_14, hc_15⟩ := rg_some hq11
        refine lv_iload hx hb d_FK_fillEntry_13 (lv_at hl 5 rfl) ?_
        rcases hq16 : rg w 1 3 with _ | j17
        · exact k_callE (k_atS (As := [.int w]) hx hb hown hE.1 (K0.w tw_262) rfl k_w9 (hts _ tw_260) (hts _ tw_261) (hts _ tw_1) (by decide) np_FK_checkRights rfl d_FK_fillEntry_15) (kn_n hq16 (c_FK_checkRights K0 ad r σ w)) (hl.1.trans hml.symm) (Nat.le_of_ble_eq_true rfl) ⟨Nat.le_of_ble_eq_true rfl, Nat.le_of_ble_eq_true rfl, Nat.le_of_ble_eq_true rfl, Nat.le_of_ble_eq_true rfl⟩ (fun U hU hW => ⟨hE.go hW hU hS, by rw [hU]; exact hP, hD⟩) hex hlocks (by first | rfl | (simp [sp_fill, inr, req, wit, eIA, eIS, eUO, eNS, hq1, hq6, hq11, hq16]; done) | (simp [sp_fill, inr, req, wit, eIA, eIS, eUO, eNS, hq1, hq6, hq11, hq16]; rfl) | (simp [sp_fill, inr, req, wit, eIA, eIS, eUO, eNS, hq1, hq6, hq11, hq16]; done) | (simp [sp_fill, inr, req, wit, eIA, eIS, eUO, eNS, hq1, hq6, hq11, hq16]; rfl) | (simp only [sp_fill, inr, req, wit, eIA, eIS, eUO, eNS, hq1, hq6, hq11, hq16]; rfl))
        · refine k_callR (k_atS (As := [.int w]) hx hb hown hE.1 (K0.w tw_262) rfl k_w9 (hts _ tw_260) (hts _ tw_261) (hts _ tw_1) (by decide) np_FK_checkRights rfl d_FK_fillEntry_15) (kn_s hq16 (c_FK_checkRights K0 ad r σ w)) (hl.1.trans hml.symm) (Nat.le_of_ble_eq_true rfl) ⟨Nat.le_of_ble_eq_true rfl, Nat.le_of_ble_eq_true rfl, Nat.le_of_ble_eq_true rfl, Nat.le_of_ble_eq_true rfl⟩ (fun U hU hW => ⟨hE.go hW hU hS, by rw [hU]; exact hP, hD⟩) ?_
          obtain ⟨rfl, ha18, hb_19, hc_20⟩ := rg_some hq16
          refine lv_aload_n hx hb d_FK_fillEntry_18 rfl (lv_at hl 0 rfl) ?_
          refine lv_iload_n hx hb d_FK_fillEntry_19 rfl (lv_at hl 1 rfl) ?_
          refine lv_iload_n hx hb d_FK_fillEntry_20 rfl (lv_at hl 2 rfl) ?_
          rcases hq21 : mpage σ j2 1 with _ | _
          · refine k_callR (k_atV (As := [.int (nI j2), .int (nI 1)]) hx hb hown hE.1 (K0.w tw_266) (hts _ tw_263) (hts _ tw_265) (hts _ tw_9003) (hts _ tw_1) (by decide) np_FK_isMyPage (va_recv hK hP (ci := nFK) (q0 := 0) rfl rfl) rfl d_FK_fillEntry_21) (kb_f hq21 (c_FK_isMyPage K0 ad r σ j2 1 ok (by omega) (by omega))) (hl.1.trans hml.symm) (Nat.le_of_ble_eq_true rfl) ⟨Nat.le_of_ble_eq_true rfl, Nat.le_of_ble_eq_true rfl, Nat.le_of_ble_eq_true rfl, Nat.le_of_ble_eq_true rfl⟩ (fun U hU hW => ⟨hE.go hW hU hS, by rw [hU]; exact hP, hD⟩) ?_
            refine k_ifN0 (tgt := 38) (by decide) hx hb d_FK_fillEntry_24 (by decide) (fun h9 => absurd h9 (by decide)) (fun _ => ?_)
            exact k_throwW hx hb K0.tr hown (text := "the holder is of another kind or not the caller's") (names := kNames) (by decide +kernel) (by decide +kernel) (hts _ tw_283) (hts _ tw_11) (K0.str hE sr_285) (K0.own hE oa_95) (hl.1.trans hml.symm) d_FK_fillEntry_27 d_FK_fillEntry_30 d_FK_fillEntry_31 d_FK_fillEntry_34 d_FK_fillEntry_37 hex hlocks ⟨Nat.le_of_ble_eq_true rfl, Nat.le_of_ble_eq_true rfl, Nat.le_of_ble_eq_true rfl, Nat.le_of_ble_eq_true rfl⟩ (by first | rfl | (simp [sp_fill, inr, req, wit, eIA, eIS, eUO, eNS, hq1, hq6, hq11, hq16, hq21]; done) | (simp [sp_fill, inr, req, wit, eIA, eIS, eUO, eNS, hq1, hq6, hq11, hq16, hq21]; rfl) | (simp [sp_fill, inr, req, wit, eIA, eIS, eUO, eNS, hq1, hq6, hq11, hq16, hq21]; done) | (simp [sp_fill, inr, req, wit, eIA, eIS, eUO, eNS, hq1, hq6, hq11, hq16, hq21]; rfl) | (simp only [sp_fill, inr, req, wit, eIA, eIS, eUO, eNS, hq1, hq6, hq11, hq16, hq21]; rfl))
          · refine k_callR (k_atV (As := [.int (nI j2), .int (nI 1)]) hx hb hown hE.1 (K0.w tw_266) (hts _ tw_263) (hts _ tw_265) (hts _ tw_9003) (hts _ tw_1) (by decide) np_FK_isMyPage (va_recv hK hP (ci := nFK) (q0 := 0) rfl rfl) rfl d_FK_fillEntry_21) (kb_t hq21 (c_FK_isMyPage K0 ad r σ j2 1 ok (by omega) (by omega))) (hl.1.trans hml.symm) (Nat.le_of_ble_eq_true rfl) ⟨Nat.le_of_ble_eq_true rfl, Nat.le_of_ble_eq_true rfl, Nat.le_of_ble_eq_true rfl, Nat.le_of_ble_eq_true rfl⟩ (fun U hU hW => ⟨hE.go hW hU hS, by rw [hU]; exact hP, hD⟩) ?_
            refine k_ifN0 (tgt := 38) (by decide) hx hb d_FK_fillEntry_24 (by decide) (fun _ => ?_) (fun h9 => absurd h9 (by decide))
            refine lv_aload_n hx hb d_FK_fillEntry_38 rfl (lv_at hl 0 rfl) ?_
            refine lv_iload hx hb d_FK_fillEntry_39 (lv_at hl 4 rfl) ?_
            rcases hq22 : (σ.1 0 j12 == 0) with _ | _
            · exact k_callE (k_atV (As := [.int (nI j12)]) hx hb hown hE.1 (K0.w tw_239) (hts _ tw_236) (hts _ tw_238) (hts _ tw_9001) (hts _ tw_1) (by decide) np_FK_checkPageIsFree (va_recv hK hP (ci := nFK) (q0 := 0) rfl rfl) rfl d_FK_fillEntry_41) (kr_f hq22 (c_FK_checkPageIsFree K0 ad r σ j12 ok (by omega) )) (hl.1.trans hml.symm) (Nat.le_of_ble_eq_true rfl) ⟨Nat.le_of_ble_eq_true rfl, Nat.le_of_ble_eq_true rfl, Nat.le_of_ble_eq_true rfl, Nat.le_of_ble_eq_true rfl⟩ (fun U hU hW => ⟨hE.go hW hU hS, by rw [hU]; exact hP, hD⟩) hex hlocks (by first | rfl | (simp [sp_fill, inr, req, wit, eIA, eIS, eUO, eNS, hq1, hq6, hq11, hq16, hq21, hq22]; done) | (simp [sp_fill, inr, req, wit, eIA, eIS, eUO, eNS, hq1, hq6, hq11, hq16, hq21, hq22]; rfl) | (simp [sp_fill, inr, req, wit, eIA, eIS, eUO, eNS, hq1, hq6, hq11, hq16, hq21, hq22]; done) | (simp [sp_fill, inr, req, wit, eIA, eIS, eUO, eNS, hq1, hq6, hq11, hq16, hq21, hq22]; rfl) | (simp only [sp_fill, inr, req, wit, eIA, eIS, eUO, eNS, hq1, hq6, hq11, hq16, hq21, hq22]; rfl))
            · refine k_callR (k_atV (As := [.int (nI j12)]) hx hb hown hE.1 (K0.w tw_239) (hts _ tw_236) (hts _ tw_238) (hts _ tw_9001) (hts _ tw_1) (by decide) np_FK_checkPageIsFree (va_recv hK hP (ci := nFK) (q0 := 0) rfl rfl) rfl d_FK_fillEntry_41) (kr_t hq22 (c_FK_checkPageIsFree K0 ad r σ j12 ok (by omega) )) (hl.1.trans hml.symm) (Nat.le_of_ble_eq_true rfl) ⟨Nat.le_of_ble_eq_true rfl, Nat.le_of_ble_eq_true rfl, Nat.le_of_ble_eq_true rfl, Nat.le_of_ble_eq_true rfl⟩ (fun U hU hW => ⟨hE.go hW hU hS, by rw [hU]; exact hP, hD⟩) ?_
              refine lv_aload_n hx hb d_FK_fillEntry_44 rfl (lv_at hl 0 rfl) ?_
              refine va_get (D := D) (ci := nFK) (v := .ref (ad 1)) (C := R_FK) (T := T_FK) (N := 4) hx hb hts i_FK hown hK hP 0 rfl rfl 0 (by decide) (hts _ tw_116) (fun _ h9 => h9) rfl d_FK_fillEntry_45 ?_
              refine lv_iload_n hx hb d_FK_fillEntry_48 rfl (lv_at hl 1 rfl) ?_
              refine lv_iload_n hx hb d_FK_fillEntry_49 rfl (lv_at hl 3 rfl) ?_
              refine k_callR (k_atV (As := [.int (nI j2), .int (nI j7)]) hx hb hown hE.1 (K0.w tw_302) (hts _ tw_299) (hts _ tw_300) (hts _ tw_301) (hts _ tw_2) (by decide) np_Mem_pageIn (va_recv hK hP (ci := nMem) (q0 := 1) rfl rfl) rfl d_FK_fillEntry_50) (c_Mem_pageIn K0 ad r σ j2 j7 (by omega) (by omega)) (hl.1.trans hml.symm) (Nat.le_of_ble_eq_true rfl) ⟨Nat.le_of_ble_eq_true rfl, Nat.le_of_ble_eq_true rfl, Nat.le_of_ble_eq_true rfl, Nat.le_of_ble_eq_true rfl⟩ (fun U hU hW => ⟨hE.go hW hU hS, by rw [hU]; exact hP, hD⟩) ?_
              have ho23 := o2 (j2 * 4 + j7) (by omega)
              refine lv_iconst (v := (pI 0)) hx hb d_FK_fillEntry_53 (by decide) ?_
              refine k_eqP (tgt := 68) (ok.b2 _ (by omega)) (by omega) hx hb d_FK_fillEntry_54 (by decide) (fun h24 => ?_) (fun h24 => ?_)
              · refine lv_iload_n hx hb d_FK_fillEntry_68 rfl (lv_at hl 2 rfl) ?_
                refine lv_iconst (v := (nI 1)) hx hb d_FK_fillEntry_69 (by decide) ?_
                refine k_neN (tgt := 77) (by decide) (by decide) hx hb d_FK_fillEntry_70 (by decide) (fun h9 => absurd h9 (by decide)) (fun _ => ?_)
                refine lv_iconst (v := (nI 2)) hx hb d_FK_fillEntry_73 (by decide) ?_
                refine lv_goto (tgt := 78) hx hb d_FK_fillEntry_74 (by decide) ?_
                refine lv_istore (lv' := [(6, .int (nI 2)), (0, .ref (ad 0)), (1, .int (nI j2)), (2, .int (nI 1)), (3, .int (nI j7)), (4, .int (nI j12)), (5, .int (nI j17))]) hx hb d_FK_fillEntry_78 hl (by decide) rfl (fun ls hl => ?_)
                refine lv_aload_n hx hb d_FK_fillEntry_80 rfl (lv_at hl 1 rfl) ?_
                refine va_get (D := D) (ci := nFK) (v := .ref (ad 1)) (C := R_FK) (T := T_FK) (N := 4) hx hb hts i_FK hown hK hP 0 rfl rfl 0 (by decide) (hts _ tw_116) (fun _ h9 => h9) rfl d_FK_fillEntry_81 ?_
                refine lv_iload hx hb d_FK_fillEntry_84 (lv_at hl 5 rfl) ?_
                refine lv_iload hx hb d_FK_fillEntry_86 (lv_at hl 0 rfl) ?_
                refine lv_aload_n hx hb d_FK_fillEntry_88 rfl (lv_at hl 1 rfl) ?_
                refine va_get (D := D) (ci := nFK) (v := .ref (ad 1)) (C := R_FK) (T := T_FK) (N := 4) hx hb hts i_FK hown hK hP 0 rfl rfl 0 (by decide) (hts _ tw_116) (fun _ h9 => h9) rfl d_FK_fillEntry_89 ?_
                refine lv_iload_n hx hb d_FK_fillEntry_92 rfl (lv_at hl 2 rfl) ?_
                refine k_callR (k_atV (As := [.int (nI j2)]) hx hb hown hE.1 (K0.w tw_270) (hts _ tw_267) (hts _ tw_268) (hts _ tw_269) (hts _ tw_2) (by decide) np_Mem_ownerOf (va_recv hK hP (ci := nMem) (q0 := 1) rfl rfl) rfl d_FK_fillEntry_93) (c_Mem_ownerOf K0 ad r σ j2 (by omega)) (hl.1.trans hml.symm) (Nat.le_of_ble_eq_true rfl) ⟨Nat.le_of_ble_eq_true rfl, Nat.le_of_ble_eq_true rfl, Nat.le_of_ble_eq_true rfl, Nat.le_of_ble_eq_true rfl⟩ (fun U hU hW => ⟨hE.go hW hU hS, by rw [hU]; exact hP, hD⟩) ?_
                have ho25 := o1 j2 (by omega)
                refine k_callW (k_atV (As := [.int (nI j12), .int (nI 2), .int (nI (σ.1 1 j2))]) hx hb hown hE.1 (K0.w tw_34) (hts _ tw_114) (hts _ tw_32) (hts _ tw_33) (hts _ tw_2) (by decide) np_Mem_become (va_recv hK hP (ci := nMem) (q0 := 1) rfl rfl) rfl d_FK_fillEntry_96) (c_Mem_become K0 ad r σ j12 2 (σ.1 1 j2) (by omega)) (hl.1.trans hml.symm) (Nat.le_of_ble_eq_true rfl) ⟨Nat.le_of_ble_eq_true rfl, Nat.le_of_ble_eq_true rfl, Nat.le_of_ble_eq_true rfl, Nat.le_of_ble_eq_true rfl⟩ (fun U hU hW => ⟨hE.go hW hU hS, by rw [hU]; exact hP, hD⟩) hS (fun H locs hP hD hS => ?_)
                obtain ⟨σ26, eσ26⟩ : ∃ z : kS, z = (m_become σ j12 2 (σ.1 1 j2)) := ⟨_, rfl⟩
                have hP : va_P D vwCl (wC ad cI r σ26) H := by rw [eσ26]; exact hP
                have hD : va_D (kA s0) (wC ad cI r σ26) := by rw [eσ26]; exact hD
                refine lv_aload_n hx hb d_FK_fillEntry_99 rfl (lv_at hl 1 rfl) ?_
                refine va_get (D := D) (ci := nFK) (v := .ref (ad 1)) (C := R_FK) (T := T_FK) (N := 4) hx hb hts i_FK hown hK hP 0 rfl rfl 0 (by decide) (hts _ tw_116) (fun _ h9 => h9) rfl d_FK_fillEntry_100 ?_
                refine lv_iload_n hx hb d_FK_fillEntry_103 rfl (lv_at hl 2 rfl) ?_
                refine lv_iload_n hx hb d_FK_fillEntry_104 rfl (lv_at hl 4 rfl) ?_
                refine lv_iload hx hb d_FK_fillEntry_105 (lv_at hl 5 rfl) ?_
                refine lv_iload hx hb d_FK_fillEntry_107 (lv_at hl 6 rfl) ?_
                refine k_st (st' := [.int (nI j17), .int (pI (j12 + 1)), .int (nI j7), .int (nI j2), .ref (ad 1)]) (by show ([.int (nI j17), .int (nI j12), .int (nI j7), .int (nI j2), .ref (ad 1)] : List Value) = _; simp only [pI_succ]) ?_
                refine k_callW (k_atV (As := [.int (nI j2), .int (nI j7), .int (pI (j12 + 1)), .int (nI j17)]) hx hb hown hE.1 (K0.w tw_42) (hts _ tw_304) (hts _ tw_40) (hts _ tw_41) (hts _ tw_2) (by decide) np_Mem_setEntry (va_recv hK hP (ci := nMem) (q0 := 1) rfl rfl) rfl d_FK_fillEntry_109) (c_Mem_setEntry K0 ad r σ26 j2 j7 (j12 + 1) j17 (by omega) (by omega)) (hl.1.trans hml.symm) (Nat.le_of_ble_eq_true rfl) ⟨Nat.le_of_ble_eq_true rfl, Nat.le_of_ble_eq_true rfl, Nat.le_of_ble_eq_true rfl, Nat.le_of_ble_eq_true rfl⟩ (fun U hU hW => ⟨hE.go hW hU hS, by rw [hU]; exact hP, hD⟩) hS (fun H locs hP hD hS => ?_)
                obtain ⟨σ27, eσ27⟩ : ∃ z : kS, z = (m_setEntry σ26 j2 j7 (j12 + 1) j17) := ⟨_, rfl⟩
                have hP : va_P D vwCl (wC ad cI r σ27) H := by rw [eσ27]; exact hP
                have hD : va_D (kA s0) (wC ad cI r σ27) := by rw [eσ27]; exact hD
                refine lv_iconst (v := (nI 1)) hx hb d_FK_fillEntry_112 (by decide) ?_
                exact k_retWI hx hb hr hlocks d_FK_fillEntry_113 hP hD hS (by subst eσ27 eσ26; first | rfl | (simp [sp_fill, inr, req, wit, eIA, eIS, eUO, eNS, hq1, hq6, hq11, hq16, hq21, hq22, h24]; done) | (simp [sp_fill, inr, req, wit, eIA, eIS, eUO, eNS, hq1, hq6, hq11, hq16, hq21, hq22, h24]; rfl) | (simp [sp_fill, inr, req, wit, eIA, eIS, eUO, eNS, hq1, hq6, hq11, hq16, hq21, hq22, beq_iff_eq.mpr h24]; done) | (simp [sp_fill, inr, req, wit, eIA, eIS, eUO, eNS, hq1, hq6, hq11, hq16, hq21, hq22, beq_iff_eq.mpr h24]; rfl) | (simp only [sp_fill, inr, req, wit, eIA, eIS, eUO, eNS, hq1, hq6, hq11, hq16, hq21, hq22, h24]; rfl))
              · exact k_throwW hx hb K0.tr hown (text := "the entry is not empty") (names := kNames) (by decide +kernel) (by decide +kernel) (hts _ tw_220) (hts _ tw_10) (K0.str hE sr_287) (K0.own hE oa_57) (hl.1.trans hml.symm) d_FK_fillEntry_57 d_FK_fillEntry_60 d_FK_fillEntry_61 d_FK_fillEntry_64 d_FK_fillEntry_67 hex hlocks ⟨Nat.le_of_ble_eq_true rfl, Nat.le_of_ble_eq_true rfl, Nat.le_of_ble_eq_true rfl, Nat.le_of_ble_eq_true rfl⟩ (by first | rfl | (simp [sp_fill, inr, req, wit, eIA, eIS, eUO, eNS, hq1, hq6, hq11, hq16, hq21, hq22, h24, beq_false_of_ne h24, bne_iff_ne.mpr h24]; done) | (simp [sp_fill, inr, req, wit, eIA, eIS, eUO, eNS, hq1, hq6, hq11, hq16, hq21, hq22, h24, beq_false_of_ne h24, bne_iff_ne.mpr h24]; rfl) | (simp [sp_fill, inr, req, wit, eIA, eIS, eUO, eNS, hq1, hq6, hq11, hq16, hq21, hq22, h24, beq_false_of_ne h24, bne_iff_ne.mpr h24]; done) | (simp [sp_fill, inr, req, wit, eIA, eIS, eUO, eNS, hq1, hq6, hq11, hq16, hq21, hq22, h24, beq_false_of_ne h24, bne_iff_ne.mpr h24]; rfl) | (simp only [sp_fill, inr, req, wit, eIA, eIS, eUO, eNS, hq1, hq6, hq11, hq16, hq21, hq22, h24, beq_false_of_ne h24, bne_iff_ne.mpr h24]; rfl))
set_option maxHeartbeats 4000000 in
set_option maxRecDepth 100000 in
theorem c_FK_fillEntry2 {l : Launch} {s0 : State} {a0 : Array Value} {D : va_G} {cI cL : ClassId} (K0 : k0 l s0 a0 D cI cL) (ad : Nat → Nat) (r : va_W) (σ : kS) (x : Int32) (y : Int32) (z : Int32) (w : Int32) (ok : kOk σ) : kMet l y_FK_fillEntry (Cond.code y_FK_fillEntry b_FK_fillEntry 7 (some .int)) (rmL 8) [.ref (ad 0), .int x, .int (nI 2), .int y, .int z, .int w] (kPre D vwCl s0 (wC ad cI r) σ) (sp_fill 2 σ x y z w) (kBw D vwCl s0 (wC ad cI r)) := by
  refine k_of (by decide) (Nat.le_of_ble_eq_true rfl) ?_
  intro p e9 s m below meth c hx hb hr hlocks hown hml hex hpre ls hl
  obtain ⟨hE, hP, hD⟩ := hpre
  obtain ⟨hts, hK⟩ := K0.at (args := ([.ref (ad 0), .int x, .int (nI 2), .int y, .int z, .int w] : List Value).toArray) hE
  have hl : lv_has ls 7 [(0, .ref (ad 0)), (1, .int x), (2, .int (nI 2)), (3, .int y), (4, .int z), (5, .int w)] := hl
  have hS : va_S (kA s0) s.heap s.heap [] := va_S.rf
  obtain ⟨o1, o2, o3, o4, o5, o6, o7, o8, o9, o10, o0, ⟨oc1, oc2⟩, oc3, or6⟩ := id ok
  have hr0 : σ.1 6 (σ.1 11 0) ≠ 0 := or6 _ oc2 (by omega)
  have hr1 : σ.1 6 (σ.1 11 0) < 21 := o6 _ oc2
  refine lv_iload_n hx hb d_FK_fillEntry_0 rfl (lv_at hl 1 rfl) ?_
  rcases hq1 : rg x 0 19 with _ | j2
  · exact k_callE (k_atS (As := [.int x]) hx hb hown hE.1 (K0.w tw_215) rfl k_w9 (hts _ tw_213) (hts _ tw_214) (hts _ tw_1) (by decide) np_FK_checkPage rfl d_FK_fillEntry_1) (kn_n hq1 (c_FK_checkPage K0 ad r σ x)) (hl.1.trans hml.symm) (Nat.le_of_ble_eq_true rfl) ⟨Nat.le_of_ble_eq_true rfl, Nat.le_of_ble_eq_true rfl, Nat.le_of_ble_eq_true rfl, Nat.le_of_ble_eq_true rfl⟩ (fun U hU hW => ⟨hE.go hW hU hS, by rw [hU]; exact hP, hD⟩) hex hlocks (by first | rfl | (simp [sp_fill, inr, req, wit, eIA, eIS, eUO, eNS, hq1]; done) | (simp [sp_fill, inr, req, wit, eIA, eIS, eUO, eNS, hq1]; rfl) | (simp [sp_fill, inr, req, wit, eIA, eIS, eUO, eNS, hq1]; done) | (simp [sp_fill, inr, req, wit, eIA, eIS, eUO, eNS, hq1]; rfl) | (simp only [sp_fill, inr, req, wit, eIA, eIS, eUO, eNS, hq1]; rfl))
  · refine k_callR (k_atS (As := [.int x]) hx hb hown hE.1 (K0.w tw_215) rfl k_w9 (hts _ tw_213) (hts _ tw_214) (hts _ tw_1) (by decide) np_FK_checkPage rfl d_FK_fillEntry_1) (kn_s hq1 (c_FK_checkPage K0 ad r σ x)) (hl.1.trans hml.symm) (Nat.le_of_ble_eq_true rfl) ⟨Nat.le_of_ble_eq_true rfl, Nat.le_of_ble_eq_true rfl, Nat.le_of_ble_eq_true rfl, Nat.le_of_ble_eq_true rfl⟩ (fun U hU hW => ⟨hE.go hW hU hS, by rw [hU]; exact hP, hD⟩) ?_
    obtain ⟨rfl, ha3, hb_4, hc_5⟩ := rg_some hq1
    refine lv_iload_n hx hb d_FK_fillEntry_4 rfl (lv_at hl 3 rfl) ?_
    rcases hq6 : rg y 0 3 with _ | j7
    · exact k_callE (k_atS (As := [.int y]) hx hb hown hE.1 (K0.w tw_259) rfl k_w9 (hts _ tw_257) (hts _ tw_258) (hts _ tw_1) (by decide) np_FK_checkEntry rfl d_FK_fillEntry_5) (kn_n hq6 (c_FK_checkEntry K0 ad r σ y)) (hl.1.trans hml.symm) (Nat.le_of_ble_eq_true rfl) ⟨Nat.le_of_ble_eq_true rfl, Nat.le_of_ble_eq_true rfl, Nat.le_of_ble_eq_true rfl, Nat.le_of_ble_eq_true rfl⟩ (fun U hU hW => ⟨hE.go hW hU hS, by rw [hU]; exact hP, hD⟩) hex hlocks (by first | rfl | (simp [sp_fill, inr, req, wit, eIA, eIS, eUO, eNS, hq1, hq6]; done) | (simp [sp_fill, inr, req, wit, eIA, eIS, eUO, eNS, hq1, hq6]; rfl) | (simp [sp_fill, inr, req, wit, eIA, eIS, eUO, eNS, hq1, hq6]; done) | (simp [sp_fill, inr, req, wit, eIA, eIS, eUO, eNS, hq1, hq6]; rfl) | (simp only [sp_fill, inr, req, wit, eIA, eIS, eUO, eNS, hq1, hq6]; rfl))
    · refine k_callR (k_atS (As := [.int y]) hx hb hown hE.1 (K0.w tw_259) rfl k_w9 (hts _ tw_257) (hts _ tw_258) (hts _ tw_1) (by decide) np_FK_checkEntry rfl d_FK_fillEntry_5) (kn_s hq6 (c_FK_checkEntry K0 ad r σ y)) (hl.1.trans hml.symm) (Nat.le_of_ble_eq_true rfl) ⟨Nat.le_of_ble_eq_true rfl, Nat.le_of_ble_eq_true rfl, Nat.le_of_ble_eq_true rfl, Nat.le_of_ble_eq_true rfl⟩ (fun U hU hW => ⟨hE.go hW hU hS, by rw [hU]; exact hP, hD⟩) ?_
      obtain ⟨rfl, ha8, hb_9, hc_10⟩ := rg_some hq6
      refine lv_iload hx hb d_FK_fillEntry_8 (lv_at hl 4 rfl) ?_
      rcases hq11 : rg z 0 19 with _ | j12
      · exact k_callE (k_atS (As := [.int z]) hx hb hown hE.1 (K0.w tw_215) rfl k_w9 (hts _ tw_213) (hts _ tw_214) (hts _ tw_1) (by decide) np_FK_checkPage rfl d_FK_fillEntry_10) (kn_n hq11 (c_FK_checkPage K0 ad r σ z)) (hl.1.trans hml.symm) (Nat.le_of_ble_eq_true rfl) ⟨Nat.le_of_ble_eq_true rfl, Nat.le_of_ble_eq_true rfl, Nat.le_of_ble_eq_true rfl, Nat.le_of_ble_eq_true rfl⟩ (fun U hU hW => ⟨hE.go hW hU hS, by rw [hU]; exact hP, hD⟩) hex hlocks (by first | rfl | (simp [sp_fill, inr, req, wit, eIA, eIS, eUO, eNS, hq1, hq6, hq11]; done) | (simp [sp_fill, inr, req, wit, eIA, eIS, eUO, eNS, hq1, hq6, hq11]; rfl) | (simp [sp_fill, inr, req, wit, eIA, eIS, eUO, eNS, hq1, hq6, hq11]; done) | (simp [sp_fill, inr, req, wit, eIA, eIS, eUO, eNS, hq1, hq6, hq11]; rfl) | (simp only [sp_fill, inr, req, wit, eIA, eIS, eUO, eNS, hq1, hq6, hq11]; rfl))
      · refine k_callR (k_atS (As := [.int z]) hx hb hown hE.1 (K0.w tw_215) rfl k_w9 (hts _ tw_213) (hts _ tw_214) (hts _ tw_1) (by decide) np_FK_checkPage rfl d_FK_fillEntry_10) (kn_s hq11 (c_FK_checkPage K0 ad r σ z)) (hl.1.trans hml.symm) (Nat.le_of_ble_eq_true rfl) ⟨Nat.le_of_ble_eq_true rfl, Nat.le_of_ble_eq_true rfl, Nat.le_of_ble_eq_true rfl, Nat.le_of_ble_eq_true rfl⟩ (fun U hU hW => ⟨hE.go hW hU hS, by rw [hU]; exact hP, hD⟩) ?_
        obtain ⟨rfl, ha13, hb_14, hc_15⟩ := rg_some hq11
        refine lv_iload hx hb d_FK_fillEntry_13 (lv_at hl 5 rfl) ?_
        rcases hq16 : rg w 1 3 with _ | j17
        · exact k_callE (k_atS (As := [.int w]) hx hb hown hE.1 (K0.w tw_262) rfl k_w9 (hts _ tw_260) (hts _ tw_261) (hts _ tw_1) (by decide) np_FK_checkRights rfl d_FK_fillEntry_15) (kn_n hq16 (c_FK_checkRights K0 ad r σ w)) (hl.1.trans hml.symm) (Nat.le_of_ble_eq_true rfl) ⟨Nat.le_of_ble_eq_true rfl, Nat.le_of_ble_eq_true rfl, Nat.le_of_ble_eq_true rfl, Nat.le_of_ble_eq_true rfl⟩ (fun U hU hW => ⟨hE.go hW hU hS, by rw [hU]; exact hP, hD⟩) hex hlocks (by first | rfl | (simp [sp_fill, inr, req, wit, eIA, eIS, eUO, eNS, hq1, hq6, hq11, hq16]; done) | (simp [sp_fill, inr, req, wit, eIA, eIS, eUO, eNS, hq1, hq6, hq11, hq16]; rfl) | (simp [sp_fill, inr, req, wit, eIA, eIS, eUO, eNS, hq1, hq6, hq11, hq16]; done) | (simp [sp_fill, inr, req, wit, eIA, eIS, eUO, eNS, hq1, hq6, hq11, hq16]; rfl) | (simp only [sp_fill, inr, req, wit, eIA, eIS, eUO, eNS, hq1, hq6, hq11, hq16]; rfl))
        · refine k_callR (k_atS (As := [.int w]) hx hb hown hE.1 (K0.w tw_262) rfl k_w9 (hts _ tw_260) (hts _ tw_261) (hts _ tw_1) (by decide) np_FK_checkRights rfl d_FK_fillEntry_15) (kn_s hq16 (c_FK_checkRights K0 ad r σ w)) (hl.1.trans hml.symm) (Nat.le_of_ble_eq_true rfl) ⟨Nat.le_of_ble_eq_true rfl, Nat.le_of_ble_eq_true rfl, Nat.le_of_ble_eq_true rfl, Nat.le_of_ble_eq_true rfl⟩ (fun U hU hW => ⟨hE.go hW hU hS, by rw [hU]; exact hP, hD⟩) ?_
          obtain ⟨rfl, ha18, hb_19, hc_20⟩ := rg_some hq16
          refine lv_aload_n hx hb d_FK_fillEntry_18 rfl (lv_at hl 0 rfl) ?_
          refine lv_iload_n hx hb d_FK_fillEntry_19 rfl (lv_at hl 1 rfl) ?_
          refine lv_iload_n hx hb d_FK_fillEntry_20 rfl (lv_at hl 2 rfl) ?_
          rcases hq21 : mpage σ j2 2 with _ | _
          · refine k_callR (k_atV (As := [.int (nI j2), .int (nI 2)]) hx hb hown hE.1 (K0.w tw_266) (hts _ tw_263) (hts _ tw_265) (hts _ tw_9003) (hts _ tw_1) (by decide) np_FK_isMyPage (va_recv hK hP (ci := nFK) (q0 := 0) rfl rfl) rfl d_FK_fillEntry_21) (kb_f hq21 (c_FK_isMyPage K0 ad r σ j2 2 ok (by omega) (by omega))) (hl.1.trans hml.symm) (Nat.le_of_ble_eq_true rfl) ⟨Nat.le_of_ble_eq_true rfl, Nat.le_of_ble_eq_true rfl, Nat.le_of_ble_eq_true rfl, Nat.le_of_ble_eq_true rfl⟩ (fun U hU hW => ⟨hE.go hW hU hS, by rw [hU]; exact hP, hD⟩) ?_
            refine k_ifN0 (tgt := 38) (by decide) hx hb d_FK_fillEntry_24 (by decide) (fun h9 => absurd h9 (by decide)) (fun _ => ?_)
            exact k_throwW hx hb K0.tr hown (text := "the holder is of another kind or not the caller's") (names := kNames) (by decide +kernel) (by decide +kernel) (hts _ tw_283) (hts _ tw_11) (K0.str hE sr_285) (K0.own hE oa_95) (hl.1.trans hml.symm) d_FK_fillEntry_27 d_FK_fillEntry_30 d_FK_fillEntry_31 d_FK_fillEntry_34 d_FK_fillEntry_37 hex hlocks ⟨Nat.le_of_ble_eq_true rfl, Nat.le_of_ble_eq_true rfl, Nat.le_of_ble_eq_true rfl, Nat.le_of_ble_eq_true rfl⟩ (by first | rfl | (simp [sp_fill, inr, req, wit, eIA, eIS, eUO, eNS, hq1, hq6, hq11, hq16, hq21]; done) | (simp [sp_fill, inr, req, wit, eIA, eIS, eUO, eNS, hq1, hq6, hq11, hq16, hq21]; rfl) | (simp [sp_fill, inr, req, wit, eIA, eIS, eUO, eNS, hq1, hq6, hq11, hq16, hq21]; done) | (simp [sp_fill, inr, req, wit, eIA, eIS, eUO, eNS, hq1, hq6, hq11, hq16, hq21]; rfl) | (simp only [sp_fill, inr, req, wit, eIA, eIS, eUO, eNS, hq1, hq6, hq11, hq16, hq21]; rfl))
          · refine k_callR (k_atV (As := [.int (nI j2), .int (nI 2)]) hx hb hown hE.1 (K0.w tw_266) (hts _ tw_263) (hts _ tw_265) (hts _ tw_9003) (hts _ tw_1) (by decide) np_FK_isMyPage (va_recv hK hP (ci := nFK) (q0 := 0) rfl rfl) rfl d_FK_fillEntry_21) (kb_t hq21 (c_FK_isMyPage K0 ad r σ j2 2 ok (by omega) (by omega))) (hl.1.trans hml.symm) (Nat.le_of_ble_eq_true rfl) ⟨Nat.le_of_ble_eq_true rfl, Nat.le_of_ble_eq_true rfl, Nat.le_of_ble_eq_true rfl, Nat.le_of_ble_eq_true rfl⟩ (fun U hU hW => ⟨hE.go hW hU hS, by rw [hU]; exact hP, hD⟩) ?_
            refine k_ifN0 (tgt := 38) (by decide) hx hb d_FK_fillEntry_24 (by decide) (fun _ => ?_) (fun h9 => absurd h9 (by decide))
            refine lv_aload_n hx hb d_FK_fillEntry_38 rfl (lv_at hl 0 rfl) ?_
            refine lv_iload hx hb d_FK_fillEntry_39 (lv_at hl 4 rfl) ?_
            rcases hq22 : (σ.1 0 j12 == 0) with _ | _
            · exact k_callE (k_atV (As := [.int (nI j12)]) hx hb hown hE.1 (K0.w tw_239) (hts _ tw_236) (hts _ tw_238) (hts _ tw_9001) (hts _ tw_1) (by decide) np_FK_checkPageIsFree (va_recv hK hP (ci := nFK) (q0 := 0) rfl rfl) rfl d_FK_fillEntry_41) (kr_f hq22 (c_FK_checkPageIsFree K0 ad r σ j12 ok (by omega) )) (hl.1.trans hml.symm) (Nat.le_of_ble_eq_true rfl) ⟨Nat.le_of_ble_eq_true rfl, Nat.le_of_ble_eq_true rfl, Nat.le_of_ble_eq_true rfl, Nat.le_of_ble_eq_true rfl⟩ (fun U hU hW => ⟨hE.go hW hU hS, by rw [hU]; exact hP, hD⟩) hex hlocks (by first | rfl | (simp [sp_fill, inr, req, wit, eIA, eIS, eUO, eNS, hq1, hq6, hq11, hq16, hq21, hq22]; done) | (simp [sp_fill, inr, req, wit, eIA, eIS, eUO, eNS, hq1, hq6, hq11, hq16, hq21, hq22]; rfl) | (simp [sp_fill, inr, req, wit, eIA, eIS, eUO, eNS, hq1, hq6, hq11, hq16, hq21, hq22]; done) | (simp [sp_fill, inr, req, wit, eIA, eIS, eUO, eNS, hq1, hq6, hq11, hq16, hq21, hq22]; rfl) | (simp only [sp_fill, inr, req, wit, eIA, eIS, eUO, eNS, hq1, hq6, hq11, hq16, hq21, hq22]; rfl))
            · refine k_callR (k_atV (As := [.int (nI j12)]) hx hb hown hE.1 (K0.w tw_239) (hts _ tw_236) (hts _ tw_238) (hts _ tw_9001) (hts _ tw_1) (by decide) np_FK_checkPageIsFree (va_recv hK hP (ci := nFK) (q0 := 0) rfl rfl) rfl d_FK_fillEntry_41) (kr_t hq22 (c_FK_checkPageIsFree K0 ad r σ j12 ok (by omega) )) (hl.1.trans hml.symm) (Nat.le_of_ble_eq_true rfl) ⟨Nat.le_of_ble_eq_true rfl, Nat.le_of_ble_eq_true rfl, Nat.le_of_ble_eq_true rfl, Nat.le_of_ble_eq_true rfl⟩ (fun U hU hW => ⟨hE.go hW hU hS, by rw [hU]; exact hP, hD⟩) ?_
              refine lv_aload_n hx hb d_FK_fillEntry_44 rfl (lv_at hl 0 rfl) ?_
              refine va_get (D := D) (ci := nFK) (v := .ref (ad 1)) (C := R_FK) (T := T_FK) (N := 4) hx hb hts i_FK hown hK hP 0 rfl rfl 0 (by decide) (hts _ tw_116) (fun _ h9 => h9) rfl d_FK_fillEntry_45 ?_
              refine lv_iload_n hx hb d_FK_fillEntry_48 rfl (lv_at hl 1 rfl) ?_
              refine lv_iload_n hx hb d_FK_fillEntry_49 rfl (lv_at hl 3 rfl) ?_
              refine k_callR (k_atV (As := [.int (nI j2), .int (nI j7)]) hx hb hown hE.1 (K0.w tw_302) (hts _ tw_299) (hts _ tw_300) (hts _ tw_301) (hts _ tw_2) (by decide) np_Mem_pageIn (va_recv hK hP (ci := nMem) (q0 := 1) rfl rfl) rfl d_FK_fillEntry_50) (c_Mem_pageIn K0 ad r σ j2 j7 (by omega) (by omega)) (hl.1.trans hml.symm) (Nat.le_of_ble_eq_true rfl) ⟨Nat.le_of_ble_eq_true rfl, Nat.le_of_ble_eq_true rfl, Nat.le_of_ble_eq_true rfl, Nat.le_of_ble_eq_true rfl⟩ (fun U hU hW => ⟨hE.go hW hU hS, by rw [hU]; exact hP, hD⟩) ?_
              have ho23 := o2 (j2 * 4 + j7) (by omega)
              refine lv_iconst (v := (pI 0)) hx hb d_FK_fillEntry_53 (by decide) ?_
              refine k_eqP (tgt := 68) (ok.b2 _ (by omega)) (by omega) hx hb d_FK_fillEntry_54 (by decide) (fun h24 => ?_) (fun h24 => ?_)
              · refine lv_iload_n hx hb d_FK_fillEntry_68 rfl (lv_at hl 2 rfl) ?_
                refine lv_iconst (v := (nI 1)) hx hb d_FK_fillEntry_69 (by decide) ?_
                refine k_neN (tgt := 77) (by decide) (by decide) hx hb d_FK_fillEntry_70 (by decide) (fun _ => ?_) (fun h9 => absurd h9 (by decide))
                refine lv_iconst (v := (nI 3)) hx hb d_FK_fillEntry_77 (by decide) ?_
                refine lv_istore (lv' := [(6, .int (nI 3)), (0, .ref (ad 0)), (1, .int (nI j2)), (2, .int (nI 2)), (3, .int (nI j7)), (4, .int (nI j12)), (5, .int (nI j17))]) hx hb d_FK_fillEntry_78 hl (by decide) rfl (fun ls hl => ?_)
                refine lv_aload_n hx hb d_FK_fillEntry_80 rfl (lv_at hl 1 rfl) ?_
                refine va_get (D := D) (ci := nFK) (v := .ref (ad 1)) (C := R_FK) (T := T_FK) (N := 4) hx hb hts i_FK hown hK hP 0 rfl rfl 0 (by decide) (hts _ tw_116) (fun _ h9 => h9) rfl d_FK_fillEntry_81 ?_
                refine lv_iload hx hb d_FK_fillEntry_84 (lv_at hl 5 rfl) ?_
                refine lv_iload hx hb d_FK_fillEntry_86 (lv_at hl 0 rfl) ?_
                refine lv_aload_n hx hb d_FK_fillEntry_88 rfl (lv_at hl 1 rfl) ?_
                refine va_get (D := D) (ci := nFK) (v := .ref (ad 1)) (C := R_FK) (T := T_FK) (N := 4) hx hb hts i_FK hown hK hP 0 rfl rfl 0 (by decide) (hts _ tw_116) (fun _ h9 => h9) rfl d_FK_fillEntry_89 ?_
                refine lv_iload_n hx hb d_FK_fillEntry_92 rfl (lv_at hl 2 rfl) ?_
                refine k_callR (k_atV (As := [.int (nI j2)]) hx hb hown hE.1 (K0.w tw_270) (hts _ tw_267) (hts _ tw_268) (hts _ tw_269) (hts _ tw_2) (by decide) np_Mem_ownerOf (va_recv hK hP (ci := nMem) (q0 := 1) rfl rfl) rfl d_FK_fillEntry_93) (c_Mem_ownerOf K0 ad r σ j2 (by omega)) (hl.1.trans hml.symm) (Nat.le_of_ble_eq_true rfl) ⟨Nat.le_of_ble_eq_true rfl, Nat.le_of_ble_eq_true rfl, Nat.le_of_ble_eq_true rfl, Nat.le_of_ble_eq_true rfl⟩ (fun U hU hW => ⟨hE.go hW hU hS, by rw [hU]; exact hP, hD⟩) ?_
                have ho25 := o1 j2 (by omega)
                refine k_callW (k_atV (As := [.int (nI j12), .int (nI 3), .int (nI (σ.1 1 j2))]) hx hb hown hE.1 (K0.w tw_34) (hts _ tw_114) (hts _ tw_32) (hts _ tw_33) (hts _ tw_2) (by decide) np_Mem_become (va_recv hK hP (ci := nMem) (q0 := 1) rfl rfl) rfl d_FK_fillEntry_96) (c_Mem_become K0 ad r σ j12 3 (σ.1 1 j2) (by omega)) (hl.1.trans hml.symm) (Nat.le_of_ble_eq_true rfl) ⟨Nat.le_of_ble_eq_true rfl, Nat.le_of_ble_eq_true rfl, Nat.le_of_ble_eq_true rfl, Nat.le_of_ble_eq_true rfl⟩ (fun U hU hW => ⟨hE.go hW hU hS, by rw [hU]; exact hP, hD⟩) hS (fun H locs hP hD hS => ?_)
                obtain ⟨σ26, eσ26⟩ : ∃ z : kS, z = (m_become σ j12 3 (σ.1 1 j2)) := ⟨_, rfl⟩
                have hP : va_P D vwCl (wC ad cI r σ26) H := by rw [eσ26]; exact hP
                have hD : va_D (kA s0) (wC ad cI r σ26) := by rw [eσ26]; exact hD
                refine lv_aload_n hx hb d_FK_fillEntry_99 rfl (lv_at hl 1 rfl) ?_
                refine va_get (D := D) (ci := nFK) (v := .ref (ad 1)) (C := R_FK) (T := T_FK) (N := 4) hx hb hts i_FK hown hK hP 0 rfl rfl 0 (by decide) (hts _ tw_116) (fun _ h9 => h9) rfl d_FK_fillEntry_100 ?_
                refine lv_iload_n hx hb d_FK_fillEntry_103 rfl (lv_at hl 2 rfl) ?_
                refine lv_iload_n hx hb d_FK_fillEntry_104 rfl (lv_at hl 4 rfl) ?_
                refine lv_iload hx hb d_FK_fillEntry_105 (lv_at hl 5 rfl) ?_
                refine lv_iload hx hb d_FK_fillEntry_107 (lv_at hl 6 rfl) ?_
                refine k_st (st' := [.int (nI j17), .int (pI (j12 + 1)), .int (nI j7), .int (nI j2), .ref (ad 1)]) (by show ([.int (nI j17), .int (nI j12), .int (nI j7), .int (nI j2), .ref (ad 1)] : List Value) = _; simp only [pI_succ]) ?_
                refine k_callW (k_atV (As := [.int (nI j2), .int (nI j7), .int (pI (j12 + 1)), .int (nI j17)]) hx hb hown hE.1 (K0.w tw_42) (hts _ tw_304) (hts _ tw_40) (hts _ tw_41) (hts _ tw_2) (by decide) np_Mem_setEntry (va_recv hK hP (ci := nMem) (q0 := 1) rfl rfl) rfl d_FK_fillEntry_109) (c_Mem_setEntry K0 ad r σ26 j2 j7 (j12 + 1) j17 (by omega) (by omega)) (hl.1.trans hml.symm) (Nat.le_of_ble_eq_true rfl) ⟨Nat.le_of_ble_eq_true rfl, Nat.le_of_ble_eq_true rfl, Nat.le_of_ble_eq_true rfl, Nat.le_of_ble_eq_true rfl⟩ (fun U hU hW => ⟨hE.go hW hU hS, by rw [hU]; exact hP, hD⟩) hS (fun H locs hP hD hS => ?_)
                obtain ⟨σ27, eσ27⟩ : ∃ z : kS, z = (m_setEntry σ26 j2 j7 (j12 + 1) j17) := ⟨_, rfl⟩
                have hP : va_P D vwCl (wC ad cI r σ27) H := by rw [eσ27]; exact hP
                have hD : va_D (kA s0) (wC ad cI r σ27) := by rw [eσ27]; exact hD
                refine lv_iconst (v := (nI 1)) hx hb d_FK_fillEntry_112 (by decide) ?_
                exact k_retWI hx hb hr hlocks d_FK_fillEntry_113 hP hD hS (by subst eσ27 eσ26; first | rfl | (simp [sp_fill, inr, req, wit, eIA, eIS, eUO, eNS, hq1, hq6, hq11, hq16, hq21, hq22, h24]; done) | (simp [sp_fill, inr, req, wit, eIA, eIS, eUO, eNS, hq1, hq6, hq11, hq16, hq21, hq22, h24]; rfl) | (simp [sp_fill, inr, req, wit, eIA, eIS, eUO, eNS, hq1, hq6, hq11, hq16, hq21, hq22, beq_iff_eq.mpr h24]; done) | (simp [sp_fill, inr, req, wit, eIA, eIS, eUO, eNS, hq1, hq6, hq11, hq16, hq21, hq22, beq_iff_eq.mpr h24]; rfl) | (simp only [sp_fill, inr, req, wit, eIA, eIS, eUO, eNS, hq1, hq6, hq11, hq16, hq21, hq22, h24]; rfl))
              · exact k_throwW hx hb K0.tr hown (text := "the entry is not empty") (names := kNames) (by decide +kernel) (by decide +kernel) (hts _ tw_220) (hts _ tw_10) (K0.str hE sr_287) (K0.own hE oa_57) (hl.1.trans hml.symm) d_FK_fillEntry_57 d_FK_fillEntry_60 d_FK_fillEntry_61 d_FK_fillEntry_64 d_FK_fillEntry_67 hex hlocks ⟨Nat.le_of_ble_eq_true rfl, Nat.le_of_ble_eq_true rfl, Nat.le_of_ble_eq_true rfl, Nat.le_of_ble_eq_true rfl⟩ (by first | rfl | (simp [sp_fill, inr, req, wit, eIA, eIS, eUO, eNS, hq1, hq6, hq11, hq16, hq21, hq22, h24, beq_false_of_ne h24, bne_iff_ne.mpr h24]; done) | (simp [sp_fill, inr, req, wit, eIA, eIS, eUO, eNS, hq1, hq6, hq11, hq16, hq21, hq22, h24, beq_false_of_ne h24, bne_iff_ne.mpr h24]; rfl) | (simp [sp_fill, inr, req, wit, eIA, eIS, eUO, eNS, hq1, hq6, hq11, hq16, hq21, hq22, h24, beq_false_of_ne h24, bne_iff_ne.mpr h24]; done) | (simp [sp_fill, inr, req, wit, eIA, eIS, eUO, eNS, hq1, hq6, hq11, hq16, hq21, hq22, h24, beq_false_of_ne h24, bne_iff_ne.mpr h24]; rfl) | (simp only [sp_fill, inr, req, wit, eIA, eIS, eUO, eNS, hq1, hq6, hq11, hq16, hq21, hq22, h24, beq_false_of_ne h24, bne_iff_ne.mpr h24]; rfl))
set_option maxHeartbeats 4000000 in
set_option maxRecDepth 100000 in
theorem c_FK_table {l : Launch} {s0 : State} {a0 : Array Value} {D : va_G} {cI cL : ClassId} (K0 : k0 l s0 a0 D cI cL) (ad : Nat → Nat) (r : va_W) (σ : kS) (x : Int32) (y : Int32) (z : Int32) (w : Int32) (ok : kOk σ) : kMet l y_FK_table (Cond.code y_FK_table b_FK_table 5 (some .int)) (rmL 9) [.ref (ad 0), .int x, .int y, .int z, .int w] (kPre D vwCl s0 (wC ad cI r) σ) (sp_fill 1 σ x y z w) (kBw D vwCl s0 (wC ad cI r)) := by
  refine k_of (by decide) (Nat.le_of_ble_eq_true rfl) ?_
  intro p e9 s m below meth c hx hb hr hlocks hown hml hex hpre ls hl
  obtain ⟨hE, hP, hD⟩ := hpre
  obtain ⟨hts, hK⟩ := K0.at (args := ([.ref (ad 0), .int x, .int y, .int z, .int w] : List Value).toArray) hE
  have hl : lv_has ls 5 [(0, .ref (ad 0)), (1, .int x), (2, .int y), (3, .int z), (4, .int w)] := hl
  have hS : va_S (kA s0) s.heap s.heap [] := va_S.rf
  obtain ⟨o1, o2, o3, o4, o5, o6, o7, o8, o9, o10, o0, ⟨oc1, oc2⟩, oc3, or6⟩ := id ok
  have hr0 : σ.1 6 (σ.1 11 0) ≠ 0 := or6 _ oc2 (by omega)
  have hr1 : σ.1 6 (σ.1 11 0) < 21 := o6 _ oc2
  refine lv_aload_n hx hb d_FK_table_0 rfl (lv_at hl 0 rfl) ?_
  refine lv_iload_n hx hb d_FK_table_1 rfl (lv_at hl 1 rfl) ?_
  refine lv_iconst (v := (nI 1)) hx hb d_FK_table_2 (by decide) ?_
  refine lv_iload_n hx hb d_FK_table_3 rfl (lv_at hl 2 rfl) ?_
  refine lv_iload_n hx hb d_FK_table_4 rfl (lv_at hl 3 rfl) ?_
  refine lv_iload hx hb d_FK_table_5 (lv_at hl 4 rfl) ?_
  rcases hq1 : sp_fill 1 σ x y z w with E1 | ⟨v1, u1⟩
  · exact k_callE (k_atV (As := [.int x, .int (nI 1), .int y, .int z, .int w]) hx hb hown hE.1 (K0.w tw_256) (hts _ tw_253) (hts _ tw_255) (hts _ tw_9002) (hts _ tw_1) (by decide) np_FK_fillEntry (va_recv hK hP (ci := nFK) (q0 := 0) rfl rfl) rfl d_FK_table_7) (kq_e hq1 (c_FK_fillEntry1 K0 ad r σ x y z w ok)) (hl.1.trans hml.symm) (Nat.le_of_ble_eq_true rfl) ⟨Nat.le_of_ble_eq_true rfl, Nat.le_of_ble_eq_true rfl, Nat.le_of_ble_eq_true rfl, Nat.le_of_ble_eq_true rfl⟩ (fun U hU hW => ⟨hE.go hW hU hS, by rw [hU]; exact hP, hD⟩) hex hlocks (by first | rfl | (simp [sp_table, inr, req, wit, eIA, eIS, eUO, eNS, hq1]; done) | (simp [sp_table, inr, req, wit, eIA, eIS, eUO, eNS, hq1]; rfl) | (simp [sp_table, inr, req, wit, eIA, eIS, eUO, eNS, hq1]; done) | (simp [sp_table, inr, req, wit, eIA, eIS, eUO, eNS, hq1]; rfl) | (simp only [sp_table, inr, req, wit, eIA, eIS, eUO, eNS, hq1]; rfl))
  · obtain rfl := sp_fill_v hq1
    refine k_callW (k_atV (As := [.int x, .int (nI 1), .int y, .int z, .int w]) hx hb hown hE.1 (K0.w tw_256) (hts _ tw_253) (hts _ tw_255) (hts _ tw_9002) (hts _ tw_1) (by decide) np_FK_fillEntry (va_recv hK hP (ci := nFK) (q0 := 0) rfl rfl) rfl d_FK_table_7) (kq_o hq1 (c_FK_fillEntry1 K0 ad r σ x y z w ok)) (hl.1.trans hml.symm) (Nat.le_of_ble_eq_true rfl) ⟨Nat.le_of_ble_eq_true rfl, Nat.le_of_ble_eq_true rfl, Nat.le_of_ble_eq_true rfl, Nat.le_of_ble_eq_true rfl⟩ (fun U hU hW => ⟨hE.go hW hU hS, by rw [hU]; exact hP, hD⟩) hS (fun H locs hP hD hS => ?_)
    obtain ⟨σ2, eσ2⟩ : ∃ z : kS, z = u1 := ⟨_, rfl⟩
    have hP : va_P D vwCl (wC ad cI r σ2) H := by rw [eσ2]; exact hP
    have hD : va_D (kA s0) (wC ad cI r σ2) := by rw [eσ2]; exact hD
    exact k_retWI hx hb hr hlocks d_FK_table_10 hP hD hS (by subst eσ2; first | rfl | (simp [sp_table, inr, req, wit, eIA, eIS, eUO, eNS, hq1]; done) | (simp [sp_table, inr, req, wit, eIA, eIS, eUO, eNS, hq1]; rfl) | (simp [sp_table, inr, req, wit, eIA, eIS, eUO, eNS, hq1]; done) | (simp [sp_table, inr, req, wit, eIA, eIS, eUO, eNS, hq1]; rfl) | (simp only [sp_table, inr, req, wit, eIA, eIS, eUO, eNS, hq1]; rfl))
set_option maxHeartbeats 4000000 in
set_option maxRecDepth 100000 in
theorem c_FK_frame {l : Launch} {s0 : State} {a0 : Array Value} {D : va_G} {cI cL : ClassId} (K0 : k0 l s0 a0 D cI cL) (ad : Nat → Nat) (r : va_W) (σ : kS) (x : Int32) (y : Int32) (z : Int32) (w : Int32) (ok : kOk σ) : kMet l y_FK_frame (Cond.code y_FK_frame b_FK_frame 5 (some .int)) (rmL 9) [.ref (ad 0), .int x, .int y, .int z, .int w] (kPre D vwCl s0 (wC ad cI r) σ) (sp_fill 2 σ x y z w) (kBw D vwCl s0 (wC ad cI r)) := by
  refine k_of (by decide) (Nat.le_of_ble_eq_true rfl) ?_
  intro p e9 s m below meth c hx hb hr hlocks hown hml hex hpre ls hl
  obtain ⟨hE, hP, hD⟩ := hpre
  obtain ⟨hts, hK⟩ := K0.at (args := ([.ref (ad 0), .int x, .int y, .int z, .int w] : List Value).toArray) hE
  have hl : lv_has ls 5 [(0, .ref (ad 0)), (1, .int x), (2, .int y), (3, .int z), (4, .int w)] := hl
  have hS : va_S (kA s0) s.heap s.heap [] := va_S.rf
  obtain ⟨o1, o2, o3, o4, o5, o6, o7, o8, o9, o10, o0, ⟨oc1, oc2⟩, oc3, or6⟩ := id ok
  have hr0 : σ.1 6 (σ.1 11 0) ≠ 0 := or6 _ oc2 (by omega)
  have hr1 : σ.1 6 (σ.1 11 0) < 21 := o6 _ oc2
  refine lv_aload_n hx hb d_FK_frame_0 rfl (lv_at hl 0 rfl) ?_
  refine lv_iload_n hx hb d_FK_frame_1 rfl (lv_at hl 1 rfl) ?_
  refine lv_iconst (v := (nI 2)) hx hb d_FK_frame_2 (by decide) ?_
  refine lv_iload_n hx hb d_FK_frame_3 rfl (lv_at hl 2 rfl) ?_
  refine lv_iload_n hx hb d_FK_frame_4 rfl (lv_at hl 3 rfl) ?_
  refine lv_iload hx hb d_FK_frame_5 (lv_at hl 4 rfl) ?_
  rcases hq1 : sp_fill 2 σ x y z w with E1 | ⟨v1, u1⟩
  · exact k_callE (k_atV (As := [.int x, .int (nI 2), .int y, .int z, .int w]) hx hb hown hE.1 (K0.w tw_256) (hts _ tw_253) (hts _ tw_255) (hts _ tw_9002) (hts _ tw_1) (by decide) np_FK_fillEntry (va_recv hK hP (ci := nFK) (q0 := 0) rfl rfl) rfl d_FK_frame_7) (kq_e hq1 (c_FK_fillEntry2 K0 ad r σ x y z w ok)) (hl.1.trans hml.symm) (Nat.le_of_ble_eq_true rfl) ⟨Nat.le_of_ble_eq_true rfl, Nat.le_of_ble_eq_true rfl, Nat.le_of_ble_eq_true rfl, Nat.le_of_ble_eq_true rfl⟩ (fun U hU hW => ⟨hE.go hW hU hS, by rw [hU]; exact hP, hD⟩) hex hlocks (by first | rfl | (simp [sp_frame, inr, req, wit, eIA, eIS, eUO, eNS, hq1]; done) | (simp [sp_frame, inr, req, wit, eIA, eIS, eUO, eNS, hq1]; rfl) | (simp [sp_frame, inr, req, wit, eIA, eIS, eUO, eNS, hq1]; done) | (simp [sp_frame, inr, req, wit, eIA, eIS, eUO, eNS, hq1]; rfl) | (simp only [sp_frame, inr, req, wit, eIA, eIS, eUO, eNS, hq1]; rfl))
  · obtain rfl := sp_fill_v hq1
    refine k_callW (k_atV (As := [.int x, .int (nI 2), .int y, .int z, .int w]) hx hb hown hE.1 (K0.w tw_256) (hts _ tw_253) (hts _ tw_255) (hts _ tw_9002) (hts _ tw_1) (by decide) np_FK_fillEntry (va_recv hK hP (ci := nFK) (q0 := 0) rfl rfl) rfl d_FK_frame_7) (kq_o hq1 (c_FK_fillEntry2 K0 ad r σ x y z w ok)) (hl.1.trans hml.symm) (Nat.le_of_ble_eq_true rfl) ⟨Nat.le_of_ble_eq_true rfl, Nat.le_of_ble_eq_true rfl, Nat.le_of_ble_eq_true rfl, Nat.le_of_ble_eq_true rfl⟩ (fun U hU hW => ⟨hE.go hW hU hS, by rw [hU]; exact hP, hD⟩) hS (fun H locs hP hD hS => ?_)
    obtain ⟨σ2, eσ2⟩ : ∃ z : kS, z = u1 := ⟨_, rfl⟩
    have hP : va_P D vwCl (wC ad cI r σ2) H := by rw [eσ2]; exact hP
    have hD : va_D (kA s0) (wC ad cI r σ2) := by rw [eσ2]; exact hD
    exact k_retWI hx hb hr hlocks d_FK_frame_10 hP hD hS (by subst eσ2; first | rfl | (simp [sp_frame, inr, req, wit, eIA, eIS, eUO, eNS, hq1]; done) | (simp [sp_frame, inr, req, wit, eIA, eIS, eUO, eNS, hq1]; rfl) | (simp [sp_frame, inr, req, wit, eIA, eIS, eUO, eNS, hq1]; done) | (simp [sp_frame, inr, req, wit, eIA, eIS, eUO, eNS, hq1]; rfl) | (simp only [sp_frame, inr, req, wit, eIA, eIS, eUO, eNS, hq1]; rfl))
set_option maxHeartbeats 4000000 in
set_option maxRecDepth 100000 in
theorem c_FK_protect {l : Launch} {s0 : State} {a0 : Array Value} {D : va_G} {cI cL : ClassId} (K0 : k0 l s0 a0 D cI cL) (ad : Nat → Nat) (r : va_W) (σ : kS) (x : Int32) (y : Int32) (z : Int32) (ok : kOk σ) : kMet l y_FK_protect (Cond.code y_FK_protect b_FK_protect 5 (some .int)) (rmL 8) [.ref (ad 0), .int x, .int y, .int z] (kPre D vwCl s0 (wC ad cI r) σ) (sp_protect σ x y z) (kBw D vwCl s0 (wC ad cI r)) := by
  refine k_of (by decide) (Nat.le_of_ble_eq_true rfl) ?_
  intro p e9 s m below meth c hx hb hr hlocks hown hml hex hpre ls hl
  obtain ⟨hE, hP, hD⟩ := hpre
  obtain ⟨hts, hK⟩ := K0.at (args := ([.ref (ad 0), .int x, .int y, .int z] : List Value).toArray) hE
  have hl : lv_has ls 5 [(0, .ref (ad 0)), (1, .int x), (2, .int y), (3, .int z)] := hl
  have hS : va_S (kA s0) s.heap s.heap [] := va_S.rf
  obtain ⟨o1, o2, o3, o4, o5, o6, o7, o8, o9, o10, o0, ⟨oc1, oc2⟩, oc3, or6⟩ := id ok
  have hr0 : σ.1 6 (σ.1 11 0) ≠ 0 := or6 _ oc2 (by omega)
  have hr1 : σ.1 6 (σ.1 11 0) < 21 := o6 _ oc2
  refine lv_iload_n hx hb d_FK_protect_0 rfl (lv_at hl 1 rfl) ?_
  rcases hq1 : rg x 0 19 with _ | j2
  · exact k_callE (k_atS (As := [.int x]) hx hb hown hE.1 (K0.w tw_215) rfl k_w9 (hts _ tw_213) (hts _ tw_214) (hts _ tw_1) (by decide) np_FK_checkPage rfl d_FK_protect_1) (kn_n hq1 (c_FK_checkPage K0 ad r σ x)) (hl.1.trans hml.symm) (Nat.le_of_ble_eq_true rfl) ⟨Nat.le_of_ble_eq_true rfl, Nat.le_of_ble_eq_true rfl, Nat.le_of_ble_eq_true rfl, Nat.le_of_ble_eq_true rfl⟩ (fun U hU hW => ⟨hE.go hW hU hS, by rw [hU]; exact hP, hD⟩) hex hlocks (by first | rfl | (simp [sp_protect, inr, req, wit, eIA, eIS, eUO, eNS, hq1]; done) | (simp [sp_protect, inr, req, wit, eIA, eIS, eUO, eNS, hq1]; rfl) | (simp [sp_protect, inr, req, wit, eIA, eIS, eUO, eNS, hq1]; done) | (simp [sp_protect, inr, req, wit, eIA, eIS, eUO, eNS, hq1]; rfl) | (simp only [sp_protect, inr, req, wit, eIA, eIS, eUO, eNS, hq1]; rfl))
  · refine k_callR (k_atS (As := [.int x]) hx hb hown hE.1 (K0.w tw_215) rfl k_w9 (hts _ tw_213) (hts _ tw_214) (hts _ tw_1) (by decide) np_FK_checkPage rfl d_FK_protect_1) (kn_s hq1 (c_FK_checkPage K0 ad r σ x)) (hl.1.trans hml.symm) (Nat.le_of_ble_eq_true rfl) ⟨Nat.le_of_ble_eq_true rfl, Nat.le_of_ble_eq_true rfl, Nat.le_of_ble_eq_true rfl, Nat.le_of_ble_eq_true rfl⟩ (fun U hU hW => ⟨hE.go hW hU hS, by rw [hU]; exact hP, hD⟩) ?_
    obtain ⟨rfl, ha3, hb_4, hc_5⟩ := rg_some hq1
    refine lv_iload_n hx hb d_FK_protect_4 rfl (lv_at hl 2 rfl) ?_
    rcases hq6 : rg y 0 3 with _ | j7
    · exact k_callE (k_atS (As := [.int y]) hx hb hown hE.1 (K0.w tw_259) rfl k_w9 (hts _ tw_257) (hts _ tw_258) (hts _ tw_1) (by decide) np_FK_checkEntry rfl d_FK_protect_5) (kn_n hq6 (c_FK_checkEntry K0 ad r σ y)) (hl.1.trans hml.symm) (Nat.le_of_ble_eq_true rfl) ⟨Nat.le_of_ble_eq_true rfl, Nat.le_of_ble_eq_true rfl, Nat.le_of_ble_eq_true rfl, Nat.le_of_ble_eq_true rfl⟩ (fun U hU hW => ⟨hE.go hW hU hS, by rw [hU]; exact hP, hD⟩) hex hlocks (by first | rfl | (simp [sp_protect, inr, req, wit, eIA, eIS, eUO, eNS, hq1, hq6]; done) | (simp [sp_protect, inr, req, wit, eIA, eIS, eUO, eNS, hq1, hq6]; rfl) | (simp [sp_protect, inr, req, wit, eIA, eIS, eUO, eNS, hq1, hq6]; done) | (simp [sp_protect, inr, req, wit, eIA, eIS, eUO, eNS, hq1, hq6]; rfl) | (simp only [sp_protect, inr, req, wit, eIA, eIS, eUO, eNS, hq1, hq6]; rfl))
    · refine k_callR (k_atS (As := [.int y]) hx hb hown hE.1 (K0.w tw_259) rfl k_w9 (hts _ tw_257) (hts _ tw_258) (hts _ tw_1) (by decide) np_FK_checkEntry rfl d_FK_protect_5) (kn_s hq6 (c_FK_checkEntry K0 ad r σ y)) (hl.1.trans hml.symm) (Nat.le_of_ble_eq_true rfl) ⟨Nat.le_of_ble_eq_true rfl, Nat.le_of_ble_eq_true rfl, Nat.le_of_ble_eq_true rfl, Nat.le_of_ble_eq_true rfl⟩ (fun U hU hW => ⟨hE.go hW hU hS, by rw [hU]; exact hP, hD⟩) ?_
      obtain ⟨rfl, ha8, hb_9, hc_10⟩ := rg_some hq6
      refine lv_iload_n hx hb d_FK_protect_8 rfl (lv_at hl 3 rfl) ?_
      rcases hq11 : rg z 1 3 with _ | j12
      · exact k_callE (k_atS (As := [.int z]) hx hb hown hE.1 (K0.w tw_262) rfl k_w9 (hts _ tw_260) (hts _ tw_261) (hts _ tw_1) (by decide) np_FK_checkRights rfl d_FK_protect_9) (kn_n hq11 (c_FK_checkRights K0 ad r σ z)) (hl.1.trans hml.symm) (Nat.le_of_ble_eq_true rfl) ⟨Nat.le_of_ble_eq_true rfl, Nat.le_of_ble_eq_true rfl, Nat.le_of_ble_eq_true rfl, Nat.le_of_ble_eq_true rfl⟩ (fun U hU hW => ⟨hE.go hW hU hS, by rw [hU]; exact hP, hD⟩) hex hlocks (by first | rfl | (simp [sp_protect, inr, req, wit, eIA, eIS, eUO, eNS, hq1, hq6, hq11]; done) | (simp [sp_protect, inr, req, wit, eIA, eIS, eUO, eNS, hq1, hq6, hq11]; rfl) | (simp [sp_protect, inr, req, wit, eIA, eIS, eUO, eNS, hq1, hq6, hq11]; done) | (simp [sp_protect, inr, req, wit, eIA, eIS, eUO, eNS, hq1, hq6, hq11]; rfl) | (simp only [sp_protect, inr, req, wit, eIA, eIS, eUO, eNS, hq1, hq6, hq11]; rfl))
      · refine k_callR (k_atS (As := [.int z]) hx hb hown hE.1 (K0.w tw_262) rfl k_w9 (hts _ tw_260) (hts _ tw_261) (hts _ tw_1) (by decide) np_FK_checkRights rfl d_FK_protect_9) (kn_s hq11 (c_FK_checkRights K0 ad r σ z)) (hl.1.trans hml.symm) (Nat.le_of_ble_eq_true rfl) ⟨Nat.le_of_ble_eq_true rfl, Nat.le_of_ble_eq_true rfl, Nat.le_of_ble_eq_true rfl, Nat.le_of_ble_eq_true rfl⟩ (fun U hU hW => ⟨hE.go hW hU hS, by rw [hU]; exact hP, hD⟩) ?_
        obtain ⟨rfl, ha13, hb_14, hc_15⟩ := rg_some hq11
        refine lv_aload_n hx hb d_FK_protect_12 rfl (lv_at hl 0 rfl) ?_
        refine lv_iload_n hx hb d_FK_protect_13 rfl (lv_at hl 1 rfl) ?_
        refine lv_iload_n hx hb d_FK_protect_14 rfl (lv_at hl 2 rfl) ?_
        rcases hq16 : mhold σ j2 with _ | _
        · exact k_callE (k_atV (As := [.int (nI j2), .int (nI j7)]) hx hb hown hE.1 (K0.w tw_323) (hts _ tw_320) (hts _ tw_322) (hts _ tw_9006) (hts _ tw_1) (by decide) np_FK_checkMyEntryIsFilled (va_recv hK hP (ci := nFK) (q0 := 0) rfl rfl) rfl d_FK_protect_15) (kr_f hq16 (c_FK_checkMyEntryIsFilled K0 ad r σ j2 j7 ok (by omega) (by omega) )) (hl.1.trans hml.symm) (Nat.le_of_ble_eq_true rfl) ⟨Nat.le_of_ble_eq_true rfl, Nat.le_of_ble_eq_true rfl, Nat.le_of_ble_eq_true rfl, Nat.le_of_ble_eq_true rfl⟩ (fun U hU hW => ⟨hE.go hW hU hS, by rw [hU]; exact hP, hD⟩) hex hlocks (by first | rfl | (simp [sp_protect, inr, req, wit, eIA, eIS, eUO, eNS, hq1, hq6, hq11, hq16]; done) | (simp [sp_protect, inr, req, wit, eIA, eIS, eUO, eNS, hq1, hq6, hq11, hq16]; rfl) | (simp [sp_protect, inr, req, wit, eIA, eIS, eUO, eNS, hq1, hq6, hq11, hq16]; done) | (simp [sp_protect, inr, req, wit, eIA, eIS, eUO, eNS, hq1, hq6, hq11, hq16]; rfl) | (simp only [sp_protect, inr, req, wit, eIA, eIS, eUO, eNS, hq1, hq6, hq11, hq16]; rfl))
        · skip
          rcases hq17 : (σ.1 2 (j2 * 4 + j7) != 0) with _ | _
          · exact k_callE (k_atV (As := [.int (nI j2), .int (nI j7)]) hx hb hown hE.1 (K0.w tw_323) (hts _ tw_320) (hts _ tw_322) (hts _ tw_9006) (hts _ tw_1) (by decide) np_FK_checkMyEntryIsFilled (va_recv hK hP (ci := nFK) (q0 := 0) rfl rfl) rfl d_FK_protect_15) (kr_f hq17 (kr_t hq16 (c_FK_checkMyEntryIsFilled K0 ad r σ j2 j7 ok (by omega) (by omega) ))) (hl.1.trans hml.symm) (Nat.le_of_ble_eq_true rfl) ⟨Nat.le_of_ble_eq_true rfl, Nat.le_of_ble_eq_true rfl, Nat.le_of_ble_eq_true rfl, Nat.le_of_ble_eq_true rfl⟩ (fun U hU hW => ⟨hE.go hW hU hS, by rw [hU]; exact hP, hD⟩) hex hlocks (by first | rfl | (simp [sp_protect, inr, req, wit, eIA, eIS, eUO, eNS, hq1, hq6, hq11, hq16, hq17]; done) | (simp [sp_protect, inr, req, wit, eIA, eIS, eUO, eNS, hq1, hq6, hq11, hq16, hq17]; rfl) | (simp [sp_protect, inr, req, wit, eIA, eIS, eUO, eNS, hq1, hq6, hq11, hq16, hq17]; done) | (simp [sp_protect, inr, req, wit, eIA, eIS, eUO, eNS, hq1, hq6, hq11, hq16, hq17]; rfl) | (simp only [sp_protect, inr, req, wit, eIA, eIS, eUO, eNS, hq1, hq6, hq11, hq16, hq17]; rfl))
          · skip
            refine k_callR (k_atV (As := [.int (nI j2), .int (nI j7)]) hx hb hown hE.1 (K0.w tw_323) (hts _ tw_320) (hts _ tw_322) (hts _ tw_9006) (hts _ tw_1) (by decide) np_FK_checkMyEntryIsFilled (va_recv hK hP (ci := nFK) (q0 := 0) rfl rfl) rfl d_FK_protect_15) (kr_t hq17 (kr_t hq16 (c_FK_checkMyEntryIsFilled K0 ad r σ j2 j7 ok (by omega) (by omega) ))) (hl.1.trans hml.symm) (Nat.le_of_ble_eq_true rfl) ⟨Nat.le_of_ble_eq_true rfl, Nat.le_of_ble_eq_true rfl, Nat.le_of_ble_eq_true rfl, Nat.le_of_ble_eq_true rfl⟩ (fun U hU hW => ⟨hE.go hW hU hS, by rw [hU]; exact hP, hD⟩) ?_
            have hnz : σ.1 2 (j2 * 4 + j7) ≠ 0 := by simpa using hq17
            have hbd := o2 (j2 * 4 + j7) (by omega)
            refine lv_aload_n hx hb d_FK_protect_18 rfl (lv_at hl 0 rfl) ?_
            refine va_get (D := D) (ci := nFK) (v := .ref (ad 1)) (C := R_FK) (T := T_FK) (N := 4) hx hb hts i_FK hown hK hP 0 rfl rfl 0 (by decide) (hts _ tw_116) (fun _ h9 => h9) rfl d_FK_protect_19 ?_
            refine lv_iload_n hx hb d_FK_protect_22 rfl (lv_at hl 1 rfl) ?_
            refine lv_iload_n hx hb d_FK_protect_23 rfl (lv_at hl 2 rfl) ?_
            refine k_callR (k_atV (As := [.int (nI j2), .int (nI j7)]) hx hb hown hE.1 (K0.w tw_344) (hts _ tw_341) (hts _ tw_342) (hts _ tw_343) (hts _ tw_2) (by decide) np_Mem_rightsIn (va_recv hK hP (ci := nMem) (q0 := 1) rfl rfl) rfl d_FK_protect_24) (c_Mem_rightsIn K0 ad r σ j2 j7 (by omega) (by omega)) (hl.1.trans hml.symm) (Nat.le_of_ble_eq_true rfl) ⟨Nat.le_of_ble_eq_true rfl, Nat.le_of_ble_eq_true rfl, Nat.le_of_ble_eq_true rfl, Nat.le_of_ble_eq_true rfl⟩ (fun U hU hW => ⟨hE.go hW hU hS, by rw [hU]; exact hP, hD⟩) ?_
            have ho18 := o3 (j2 * 4 + j7) (by omega)
            refine lv_istore (lv' := [(4, .int (nI (σ.1 3 (j2 * 4 + j7)))), (0, .ref (ad 0)), (1, .int (nI j2)), (2, .int (nI j7)), (3, .int (nI j12))]) hx hb d_FK_protect_27 hl (by decide) rfl (fun ls hl => ?_)
            refine lv_aload_n hx hb d_FK_protect_29 rfl (lv_at hl 1 rfl) ?_
            refine va_get (D := D) (ci := nFK) (v := .ref (ad 1)) (C := R_FK) (T := T_FK) (N := 4) hx hb hts i_FK hown hK hP 0 rfl rfl 0 (by decide) (hts _ tw_116) (fun _ h9 => h9) rfl d_FK_protect_30 ?_
            refine lv_iload_n hx hb d_FK_protect_33 rfl (lv_at hl 2 rfl) ?_
            refine lv_iload_n hx hb d_FK_protect_34 rfl (lv_at hl 3 rfl) ?_
            refine lv_aload_n hx hb d_FK_protect_35 rfl (lv_at hl 1 rfl) ?_
            refine va_get (D := D) (ci := nFK) (v := .ref (ad 1)) (C := R_FK) (T := T_FK) (N := 4) hx hb hts i_FK hown hK hP 0 rfl rfl 0 (by decide) (hts _ tw_116) (fun _ h9 => h9) rfl d_FK_protect_36 ?_
            refine lv_iload_n hx hb d_FK_protect_39 rfl (lv_at hl 2 rfl) ?_
            refine lv_iload_n hx hb d_FK_protect_40 rfl (lv_at hl 3 rfl) ?_
            refine k_callR (k_atV (As := [.int (nI j2), .int (nI j7)]) hx hb hown hE.1 (K0.w tw_302) (hts _ tw_299) (hts _ tw_300) (hts _ tw_301) (hts _ tw_2) (by decide) np_Mem_pageIn (va_recv hK hP (ci := nMem) (q0 := 1) rfl rfl) rfl d_FK_protect_41) (c_Mem_pageIn K0 ad r σ j2 j7 (by omega) (by omega)) (hl.1.trans hml.symm) (Nat.le_of_ble_eq_true rfl) ⟨Nat.le_of_ble_eq_true rfl, Nat.le_of_ble_eq_true rfl, Nat.le_of_ble_eq_true rfl, Nat.le_of_ble_eq_true rfl⟩ (fun U hU hW => ⟨hE.go hW hU hS, by rw [hU]; exact hP, hD⟩) ?_
            have ho19 := o2 (j2 * 4 + j7) (by omega)
            refine lv_iload_n hx hb d_FK_protect_44 rfl (lv_at hl 4 rfl) ?_
            refine k_callW (k_atV (As := [.int (nI j2), .int (nI j7), .int (pI (σ.1 2 (j2 * 4 + j7))), .int (nI j12)]) hx hb hown hE.1 (K0.w tw_42) (hts _ tw_304) (hts _ tw_40) (hts _ tw_41) (hts _ tw_2) (by decide) np_Mem_setEntry (va_recv hK hP (ci := nMem) (q0 := 1) rfl rfl) rfl d_FK_protect_45) (c_Mem_setEntry K0 ad r σ j2 j7 (σ.1 2 (j2 * 4 + j7)) j12 (by omega) (by omega)) (hl.1.trans hml.symm) (Nat.le_of_ble_eq_true rfl) ⟨Nat.le_of_ble_eq_true rfl, Nat.le_of_ble_eq_true rfl, Nat.le_of_ble_eq_true rfl, Nat.le_of_ble_eq_true rfl⟩ (fun U hU hW => ⟨hE.go hW hU hS, by rw [hU]; exact hP, hD⟩) hS (fun H locs hP hD hS => ?_)
            obtain ⟨σ20, eσ20⟩ : ∃ z : kS, z = (m_setEntry σ j2 j7 (σ.1 2 (j2 * 4 + j7)) j12) := ⟨_, rfl⟩
            have hP : va_P D vwCl (wC ad cI r σ20) H := by rw [eσ20]; exact hP
            have hD : va_D (kA s0) (wC ad cI r σ20) := by rw [eσ20]; exact hD
            refine lv_iload hx hb d_FK_protect_48 (lv_at hl 0 rfl) ?_
            exact k_retWI hx hb hr hlocks d_FK_protect_50 hP hD hS (by subst eσ20; first | rfl | (simp [sp_protect, inr, req, wit, eIA, eIS, eUO, eNS, hq1, hq6, hq11, hq16, hq17]; done) | (simp [sp_protect, inr, req, wit, eIA, eIS, eUO, eNS, hq1, hq6, hq11, hq16, hq17]; rfl) | (simp [sp_protect, inr, req, wit, eIA, eIS, eUO, eNS, hq1, hq6, hq11, hq16, hq17]; done) | (simp [sp_protect, inr, req, wit, eIA, eIS, eUO, eNS, hq1, hq6, hq11, hq16, hq17]; rfl) | (simp only [sp_protect, inr, req, wit, eIA, eIS, eUO, eNS, hq1, hq6, hq11, hq16, hq17]; rfl))
set_option maxHeartbeats 4000000 in
set_option maxRecDepth 100000 in
theorem c_FK_copy {l : Launch} {s0 : State} {a0 : Array Value} {D : va_G} {cI cL : ClassId} (K0 : k0 l s0 a0 D cI cL) (ad : Nat → Nat) (r : va_W) (σ : kS) (x : Int32) (y : Int32) (ok : kOk σ) : kMet l y_FK_copy (Cond.code y_FK_copy b_FK_copy 3 (some .int)) (rmL 8) [.ref (ad 0), .int x, .int y] (kPre D vwCl s0 (wC ad cI r) σ) (sp_copy σ x y) (kBw D vwCl s0 (wC ad cI r)) := by
  refine k_of (by decide) (Nat.le_of_ble_eq_true rfl) ?_
  intro p e9 s m below meth c hx hb hr hlocks hown hml hex hpre ls hl
  obtain ⟨hE, hP, hD⟩ := hpre
  obtain ⟨hts, hK⟩ := K0.at (args := ([.ref (ad 0), .int x, .int y] : List Value).toArray) hE
  have hl : lv_has ls 3 [(0, .ref (ad 0)), (1, .int x), (2, .int y)] := hl
  have hS : va_S (kA s0) s.heap s.heap [] := va_S.rf
  obtain ⟨o1, o2, o3, o4, o5, o6, o7, o8, o9, o10, o0, ⟨oc1, oc2⟩, oc3, or6⟩ := id ok
  have hr0 : σ.1 6 (σ.1 11 0) ≠ 0 := or6 _ oc2 (by omega)
  have hr1 : σ.1 6 (σ.1 11 0) < 21 := o6 _ oc2
  refine lv_iload_n hx hb d_FK_copy_0 rfl (lv_at hl 1 rfl) ?_
  rcases hq1 : rg x 0 19 with _ | j2
  · exact k_callE (k_atS (As := [.int x]) hx hb hown hE.1 (K0.w tw_215) rfl k_w9 (hts _ tw_213) (hts _ tw_214) (hts _ tw_1) (by decide) np_FK_checkPage rfl d_FK_copy_1) (kn_n hq1 (c_FK_checkPage K0 ad r σ x)) (hl.1.trans hml.symm) (Nat.le_of_ble_eq_true rfl) ⟨Nat.le_of_ble_eq_true rfl, Nat.le_of_ble_eq_true rfl, Nat.le_of_ble_eq_true rfl, Nat.le_of_ble_eq_true rfl⟩ (fun U hU hW => ⟨hE.go hW hU hS, by rw [hU]; exact hP, hD⟩) hex hlocks (by first | rfl | (simp [sp_copy, inr, req, wit, eIA, eIS, eUO, eNS, hq1]; done) | (simp [sp_copy, inr, req, wit, eIA, eIS, eUO, eNS, hq1]; rfl) | (simp [sp_copy, inr, req, wit, eIA, eIS, eUO, eNS, hq1]; done) | (simp [sp_copy, inr, req, wit, eIA, eIS, eUO, eNS, hq1]; rfl) | (simp only [sp_copy, inr, req, wit, eIA, eIS, eUO, eNS, hq1]; rfl))
  · refine k_callR (k_atS (As := [.int x]) hx hb hown hE.1 (K0.w tw_215) rfl k_w9 (hts _ tw_213) (hts _ tw_214) (hts _ tw_1) (by decide) np_FK_checkPage rfl d_FK_copy_1) (kn_s hq1 (c_FK_checkPage K0 ad r σ x)) (hl.1.trans hml.symm) (Nat.le_of_ble_eq_true rfl) ⟨Nat.le_of_ble_eq_true rfl, Nat.le_of_ble_eq_true rfl, Nat.le_of_ble_eq_true rfl, Nat.le_of_ble_eq_true rfl⟩ (fun U hU hW => ⟨hE.go hW hU hS, by rw [hU]; exact hP, hD⟩) ?_
    obtain ⟨rfl, ha3, hb_4, hc_5⟩ := rg_some hq1
    refine lv_iload_n hx hb d_FK_copy_4 rfl (lv_at hl 2 rfl) ?_
    rcases hq6 : rg y 0 19 with _ | j7
    · exact k_callE (k_atS (As := [.int y]) hx hb hown hE.1 (K0.w tw_215) rfl k_w9 (hts _ tw_213) (hts _ tw_214) (hts _ tw_1) (by decide) np_FK_checkPage rfl d_FK_copy_5) (kn_n hq6 (c_FK_checkPage K0 ad r σ y)) (hl.1.trans hml.symm) (Nat.le_of_ble_eq_true rfl) ⟨Nat.le_of_ble_eq_true rfl, Nat.le_of_ble_eq_true rfl, Nat.le_of_ble_eq_true rfl, Nat.le_of_ble_eq_true rfl⟩ (fun U hU hW => ⟨hE.go hW hU hS, by rw [hU]; exact hP, hD⟩) hex hlocks (by first | rfl | (simp [sp_copy, inr, req, wit, eIA, eIS, eUO, eNS, hq1, hq6]; done) | (simp [sp_copy, inr, req, wit, eIA, eIS, eUO, eNS, hq1, hq6]; rfl) | (simp [sp_copy, inr, req, wit, eIA, eIS, eUO, eNS, hq1, hq6]; done) | (simp [sp_copy, inr, req, wit, eIA, eIS, eUO, eNS, hq1, hq6]; rfl) | (simp only [sp_copy, inr, req, wit, eIA, eIS, eUO, eNS, hq1, hq6]; rfl))
    · refine k_callR (k_atS (As := [.int y]) hx hb hown hE.1 (K0.w tw_215) rfl k_w9 (hts _ tw_213) (hts _ tw_214) (hts _ tw_1) (by decide) np_FK_checkPage rfl d_FK_copy_5) (kn_s hq6 (c_FK_checkPage K0 ad r σ y)) (hl.1.trans hml.symm) (Nat.le_of_ble_eq_true rfl) ⟨Nat.le_of_ble_eq_true rfl, Nat.le_of_ble_eq_true rfl, Nat.le_of_ble_eq_true rfl, Nat.le_of_ble_eq_true rfl⟩ (fun U hU hW => ⟨hE.go hW hU hS, by rw [hU]; exact hP, hD⟩) ?_
      obtain ⟨rfl, ha8, hb_9, hc_10⟩ := rg_some hq6
      refine lv_aload_n hx hb d_FK_copy_8 rfl (lv_at hl 0 rfl) ?_
      refine lv_iload_n hx hb d_FK_copy_9 rfl (lv_at hl 1 rfl) ?_
      refine lv_iconst (v := (nI 3)) hx hb d_FK_copy_10 (by decide) ?_
      rcases hq11 : mpage σ j2 3 with _ | _
      · refine k_callR (k_atV (As := [.int (nI j2), .int (nI 3)]) hx hb hown hE.1 (K0.w tw_266) (hts _ tw_263) (hts _ tw_265) (hts _ tw_9003) (hts _ tw_1) (by decide) np_FK_isMyPage (va_recv hK hP (ci := nFK) (q0 := 0) rfl rfl) rfl d_FK_copy_11) (kb_f hq11 (c_FK_isMyPage K0 ad r σ j2 3 ok (by omega) (by omega))) (hl.1.trans hml.symm) (Nat.le_of_ble_eq_true rfl) ⟨Nat.le_of_ble_eq_true rfl, Nat.le_of_ble_eq_true rfl, Nat.le_of_ble_eq_true rfl, Nat.le_of_ble_eq_true rfl⟩ (fun U hU hW => ⟨hE.go hW hU hS, by rw [hU]; exact hP, hD⟩) ?_
        refine k_if0 (tgt := 26) (by decide) hx hb d_FK_copy_14 (by decide) (fun _ => ?_) (fun h9 => absurd h9 (by decide))
        exact k_throw hx hb K0.tr hown (text := "one of the pages is no frame of the caller's") (names := kNames) (by decide +kernel) (by decide +kernel) (hts _ tw_283) (hts _ tw_11) (K0.str hE sr_93) (K0.own hE oa_95) (hl.1.trans hml.symm) d_FK_copy_26 d_FK_copy_29 d_FK_copy_30 d_FK_copy_32 d_FK_copy_35 hex hlocks ⟨Nat.le_of_ble_eq_true rfl, Nat.le_of_ble_eq_true rfl, Nat.le_of_ble_eq_true rfl, Nat.le_of_ble_eq_true rfl⟩ (by first | rfl | (simp [sp_copy, inr, req, wit, eIA, eIS, eUO, eNS, hq1, hq6, hq11]; done) | (simp [sp_copy, inr, req, wit, eIA, eIS, eUO, eNS, hq1, hq6, hq11]; rfl) | (simp [sp_copy, inr, req, wit, eIA, eIS, eUO, eNS, hq1, hq6, hq11]; done) | (simp [sp_copy, inr, req, wit, eIA, eIS, eUO, eNS, hq1, hq6, hq11]; rfl) | (simp only [sp_copy, inr, req, wit, eIA, eIS, eUO, eNS, hq1, hq6, hq11]; rfl))
      · refine k_callR (k_atV (As := [.int (nI j2), .int (nI 3)]) hx hb hown hE.1 (K0.w tw_266) (hts _ tw_263) (hts _ tw_265) (hts _ tw_9003) (hts _ tw_1) (by decide) np_FK_isMyPage (va_recv hK hP (ci := nFK) (q0 := 0) rfl rfl) rfl d_FK_copy_11) (kb_t hq11 (c_FK_isMyPage K0 ad r σ j2 3 ok (by omega) (by omega))) (hl.1.trans hml.symm) (Nat.le_of_ble_eq_true rfl) ⟨Nat.le_of_ble_eq_true rfl, Nat.le_of_ble_eq_true rfl, Nat.le_of_ble_eq_true rfl, Nat.le_of_ble_eq_true rfl⟩ (fun U hU hW => ⟨hE.go hW hU hS, by rw [hU]; exact hP, hD⟩) ?_
        refine k_if0 (tgt := 26) (by decide) hx hb d_FK_copy_14 (by decide) (fun h9 => absurd h9 (by decide)) (fun _ => ?_)
        refine lv_aload_n hx hb d_FK_copy_17 rfl (lv_at hl 0 rfl) ?_
        refine lv_iload_n hx hb d_FK_copy_18 rfl (lv_at hl 2 rfl) ?_
        refine lv_iconst (v := (nI 3)) hx hb d_FK_copy_19 (by decide) ?_
        rcases hq12 : mpage σ j7 3 with _ | _
        · refine k_callR (k_atV (As := [.int (nI j7), .int (nI 3)]) hx hb hown hE.1 (K0.w tw_266) (hts _ tw_263) (hts _ tw_265) (hts _ tw_9003) (hts _ tw_1) (by decide) np_FK_isMyPage (va_recv hK hP (ci := nFK) (q0 := 0) rfl rfl) rfl d_FK_copy_20) (kb_f hq12 (c_FK_isMyPage K0 ad r σ j7 3 ok (by omega) (by omega))) (hl.1.trans hml.symm) (Nat.le_of_ble_eq_true rfl) ⟨Nat.le_of_ble_eq_true rfl, Nat.le_of_ble_eq_true rfl, Nat.le_of_ble_eq_true rfl, Nat.le_of_ble_eq_true rfl⟩ (fun U hU hW => ⟨hE.go hW hU hS, by rw [hU]; exact hP, hD⟩) ?_
          refine k_ifN0 (tgt := 36) (by decide) hx hb d_FK_copy_23 (by decide) (fun h9 => absurd h9 (by decide)) (fun _ => ?_)
          exact k_throw hx hb K0.tr hown (text := "one of the pages is no frame of the caller's") (names := kNames) (by decide +kernel) (by decide +kernel) (hts _ tw_283) (hts _ tw_11) (K0.str hE sr_93) (K0.own hE oa_95) (hl.1.trans hml.symm) d_FK_copy_26 d_FK_copy_29 d_FK_copy_30 d_FK_copy_32 d_FK_copy_35 hex hlocks ⟨Nat.le_of_ble_eq_true rfl, Nat.le_of_ble_eq_true rfl, Nat.le_of_ble_eq_true rfl, Nat.le_of_ble_eq_true rfl⟩ (by first | rfl | (simp [sp_copy, inr, req, wit, eIA, eIS, eUO, eNS, hq1, hq6, hq11, hq12]; done) | (simp [sp_copy, inr, req, wit, eIA, eIS, eUO, eNS, hq1, hq6, hq11, hq12]; rfl) | (simp [sp_copy, inr, req, wit, eIA, eIS, eUO, eNS, hq1, hq6, hq11, hq12]; done) | (simp [sp_copy, inr, req, wit, eIA, eIS, eUO, eNS, hq1, hq6, hq11, hq12]; rfl) | (simp only [sp_copy, inr, req, wit, eIA, eIS, eUO, eNS, hq1, hq6, hq11, hq12]; rfl))
        · refine k_callR (k_atV (As := [.int (nI j7), .int (nI 3)]) hx hb hown hE.1 (K0.w tw_266) (hts _ tw_263) (hts _ tw_265) (hts _ tw_9003) (hts _ tw_1) (by decide) np_FK_isMyPage (va_recv hK hP (ci := nFK) (q0 := 0) rfl rfl) rfl d_FK_copy_20) (kb_t hq12 (c_FK_isMyPage K0 ad r σ j7 3 ok (by omega) (by omega))) (hl.1.trans hml.symm) (Nat.le_of_ble_eq_true rfl) ⟨Nat.le_of_ble_eq_true rfl, Nat.le_of_ble_eq_true rfl, Nat.le_of_ble_eq_true rfl, Nat.le_of_ble_eq_true rfl⟩ (fun U hU hW => ⟨hE.go hW hU hS, by rw [hU]; exact hP, hD⟩) ?_
          refine k_ifN0 (tgt := 36) (by decide) hx hb d_FK_copy_23 (by decide) (fun _ => ?_) (fun h9 => absurd h9 (by decide))
          refine lv_aload_n hx hb d_FK_copy_36 rfl (lv_at hl 0 rfl) ?_
          refine va_get (D := D) (ci := nFK) (v := .ref (ad 1)) (C := R_FK) (T := T_FK) (N := 4) hx hb hts i_FK hown hK hP 0 rfl rfl 0 (by decide) (hts _ tw_116) (fun _ h9 => h9) rfl d_FK_copy_37 ?_
          refine lv_iload_n hx hb d_FK_copy_40 rfl (lv_at hl 1 rfl) ?_
          refine lv_iload_n hx hb d_FK_copy_41 rfl (lv_at hl 2 rfl) ?_
          refine k_callW (k_atV (As := [.int (nI j2), .int (nI j7)]) hx hb hown hE.1 (K0.w tw_356) (hts _ tw_353) (hts _ tw_354) (hts _ tw_355) (hts _ tw_2) (by decide) np_Mem_copyWords (va_recv hK hP (ci := nMem) (q0 := 1) rfl rfl) rfl d_FK_copy_42) (c_Mem_copyWords K0 ad r σ j2 j7 (by omega) (by omega)) (hl.1.trans hml.symm) (Nat.le_of_ble_eq_true rfl) ⟨Nat.le_of_ble_eq_true rfl, Nat.le_of_ble_eq_true rfl, Nat.le_of_ble_eq_true rfl, Nat.le_of_ble_eq_true rfl⟩ (fun U hU hW => ⟨hE.go hW hU hS, by rw [hU]; exact hP, hD⟩) hS (fun H locs hP hD hS => ?_)
          obtain ⟨σ13, eσ13⟩ : ∃ z : kS, z = (m_copy σ j2 j7) := ⟨_, rfl⟩
          have hP : va_P D vwCl (wC ad cI r σ13) H := by rw [eσ13]; exact hP
          have hD : va_D (kA s0) (wC ad cI r σ13) := by rw [eσ13]; exact hD
          refine lv_iconst (v := (nI 1)) hx hb d_FK_copy_45 (by decide) ?_
          exact k_retWI hx hb hr hlocks d_FK_copy_46 hP hD hS (by subst eσ13; first | rfl | (simp [sp_copy, inr, req, wit, eIA, eIS, eUO, eNS, hq1, hq6, hq11, hq12]; done) | (simp [sp_copy, inr, req, wit, eIA, eIS, eUO, eNS, hq1, hq6, hq11, hq12]; rfl) | (simp [sp_copy, inr, req, wit, eIA, eIS, eUO, eNS, hq1, hq6, hq11, hq12]; done) | (simp [sp_copy, inr, req, wit, eIA, eIS, eUO, eNS, hq1, hq6, hq11, hq12]; rfl) | (simp only [sp_copy, inr, req, wit, eIA, eIS, eUO, eNS, hq1, hq6, hq11, hq12]; rfl))
set_option maxHeartbeats 4000000 in
set_option maxRecDepth 100000 in
theorem c_FK_release {l : Launch} {s0 : State} {a0 : Array Value} {D : va_G} {cI cL : ClassId} (K0 : k0 l s0 a0 D cI cL) (ad : Nat → Nat) (r : va_W) (σ : kS) (x : Int32) (y : Int32) (ok : kOk σ) : kMet l y_FK_release (Cond.code y_FK_release b_FK_release 4 (some .int)) (rmL 8) [.ref (ad 0), .int x, .int y] (kPre D vwCl s0 (wC ad cI r) σ) (sp_release σ x y) (kBw D vwCl s0 (wC ad cI r)) := by
  refine k_of (by decide) (Nat.le_of_ble_eq_true rfl) ?_
  intro p e9 s m below meth c hx hb hr hlocks hown hml hex hpre ls hl
  obtain ⟨hE, hP, hD⟩ := hpre
  obtain ⟨hts, hK⟩ := K0.at (args := ([.ref (ad 0), .int x, .int y] : List Value).toArray) hE
  have hl : lv_has ls 4 [(0, .ref (ad 0)), (1, .int x), (2, .int y)] := hl
  have hS : va_S (kA s0) s.heap s.heap [] := va_S.rf
  obtain ⟨o1, o2, o3, o4, o5, o6, o7, o8, o9, o10, o0, ⟨oc1, oc2⟩, oc3, or6⟩ := id ok
  have hr0 : σ.1 6 (σ.1 11 0) ≠ 0 := or6 _ oc2 (by omega)
  have hr1 : σ.1 6 (σ.1 11 0) < 21 := o6 _ oc2
  refine lv_iload_n hx hb d_FK_release_0 rfl (lv_at hl 1 rfl) ?_
  rcases hq1 : rg x 0 19 with _ | j2
  · exact k_callE (k_atS (As := [.int x]) hx hb hown hE.1 (K0.w tw_215) rfl k_w9 (hts _ tw_213) (hts _ tw_214) (hts _ tw_1) (by decide) np_FK_checkPage rfl d_FK_release_1) (kn_n hq1 (c_FK_checkPage K0 ad r σ x)) (hl.1.trans hml.symm) (Nat.le_of_ble_eq_true rfl) ⟨Nat.le_of_ble_eq_true rfl, Nat.le_of_ble_eq_true rfl, Nat.le_of_ble_eq_true rfl, Nat.le_of_ble_eq_true rfl⟩ (fun U hU hW => ⟨hE.go hW hU hS, by rw [hU]; exact hP, hD⟩) hex hlocks (by (try rw [pI_pred hnz]); first | rfl | (simp [sp_release, inr, req, wit, eIA, eIS, eUO, eNS, hq1]; done) | (simp [sp_release, inr, req, wit, eIA, eIS, eUO, eNS, hq1]; rfl) | (simp [sp_release, inr, req, wit, eIA, eIS, eUO, eNS, hq1]; done) | (simp [sp_release, inr, req, wit, eIA, eIS, eUO, eNS, hq1]; rfl) | (simp only [sp_release, inr, req, wit, eIA, eIS, eUO, eNS, hq1]; rfl))
  · refine k_callR (k_atS (As := [.int x]) hx hb hown hE.1 (K0.w tw_215) rfl k_w9 (hts _ tw_213) (hts _ tw_214) (hts _ tw_1) (by decide) np_FK_checkPage rfl d_FK_release_1) (kn_s hq1 (c_FK_checkPage K0 ad r σ x)) (hl.1.trans hml.symm) (Nat.le_of_ble_eq_true rfl) ⟨Nat.le_of_ble_eq_true rfl, Nat.le_of_ble_eq_true rfl, Nat.le_of_ble_eq_true rfl, Nat.le_of_ble_eq_true rfl⟩ (fun U hU hW => ⟨hE.go hW hU hS, by rw [hU]; exact hP, hD⟩) ?_
    obtain ⟨rfl, ha3, hb_4, hc_5⟩ := rg_some hq1
    refine lv_iload_n hx hb d_FK_release_4 rfl (lv_at hl 2 rfl) ?_
    rcases hq6 : rg y 0 3 with _ | j7
    · exact k_callE (k_atS (As := [.int y]) hx hb hown hE.1 (K0.w tw_259) rfl k_w9 (hts _ tw_257) (hts _ tw_258) (hts _ tw_1) (by decide) np_FK_checkEntry rfl d_FK_release_5) (kn_n hq6 (c_FK_checkEntry K0 ad r σ y)) (hl.1.trans hml.symm) (Nat.le_of_ble_eq_true rfl) ⟨Nat.le_of_ble_eq_true rfl, Nat.le_of_ble_eq_true rfl, Nat.le_of_ble_eq_true rfl, Nat.le_of_ble_eq_true rfl⟩ (fun U hU hW => ⟨hE.go hW hU hS, by rw [hU]; exact hP, hD⟩) hex hlocks (by (try rw [pI_pred hnz]); first | rfl | (simp [sp_release, inr, req, wit, eIA, eIS, eUO, eNS, hq1, hq6]; done) | (simp [sp_release, inr, req, wit, eIA, eIS, eUO, eNS, hq1, hq6]; rfl) | (simp [sp_release, inr, req, wit, eIA, eIS, eUO, eNS, hq1, hq6]; done) | (simp [sp_release, inr, req, wit, eIA, eIS, eUO, eNS, hq1, hq6]; rfl) | (simp only [sp_release, inr, req, wit, eIA, eIS, eUO, eNS, hq1, hq6]; rfl))
    · refine k_callR (k_atS (As := [.int y]) hx hb hown hE.1 (K0.w tw_259) rfl k_w9 (hts _ tw_257) (hts _ tw_258) (hts _ tw_1) (by decide) np_FK_checkEntry rfl d_FK_release_5) (kn_s hq6 (c_FK_checkEntry K0 ad r σ y)) (hl.1.trans hml.symm) (Nat.le_of_ble_eq_true rfl) ⟨Nat.le_of_ble_eq_true rfl, Nat.le_of_ble_eq_true rfl, Nat.le_of_ble_eq_true rfl, Nat.le_of_ble_eq_true rfl⟩ (fun U hU hW => ⟨hE.go hW hU hS, by rw [hU]; exact hP, hD⟩) ?_
      obtain ⟨rfl, ha8, hb_9, hc_10⟩ := rg_some hq6
      refine lv_aload_n hx hb d_FK_release_8 rfl (lv_at hl 0 rfl) ?_
      refine lv_iload_n hx hb d_FK_release_9 rfl (lv_at hl 1 rfl) ?_
      refine lv_iload_n hx hb d_FK_release_10 rfl (lv_at hl 2 rfl) ?_
      rcases hq11 : mhold σ j2 with _ | _
      · exact k_callE (k_atV (As := [.int (nI j2), .int (nI j7)]) hx hb hown hE.1 (K0.w tw_323) (hts _ tw_320) (hts _ tw_322) (hts _ tw_9006) (hts _ tw_1) (by decide) np_FK_checkMyEntryIsFilled (va_recv hK hP (ci := nFK) (q0 := 0) rfl rfl) rfl d_FK_release_11) (kr_f hq11 (c_FK_checkMyEntryIsFilled K0 ad r σ j2 j7 ok (by omega) (by omega) )) (hl.1.trans hml.symm) (Nat.le_of_ble_eq_true rfl) ⟨Nat.le_of_ble_eq_true rfl, Nat.le_of_ble_eq_true rfl, Nat.le_of_ble_eq_true rfl, Nat.le_of_ble_eq_true rfl⟩ (fun U hU hW => ⟨hE.go hW hU hS, by rw [hU]; exact hP, hD⟩) hex hlocks (by (try rw [pI_pred hnz]); first | rfl | (simp [sp_release, inr, req, wit, eIA, eIS, eUO, eNS, hq1, hq6, hq11]; done) | (simp [sp_release, inr, req, wit, eIA, eIS, eUO, eNS, hq1, hq6, hq11]; rfl) | (simp [sp_release, inr, req, wit, eIA, eIS, eUO, eNS, hq1, hq6, hq11]; done) | (simp [sp_release, inr, req, wit, eIA, eIS, eUO, eNS, hq1, hq6, hq11]; rfl) | (simp only [sp_release, inr, req, wit, eIA, eIS, eUO, eNS, hq1, hq6, hq11]; rfl))
      · skip
        rcases hq12 : (σ.1 2 (j2 * 4 + j7) != 0) with _ | _
        · exact k_callE (k_atV (As := [.int (nI j2), .int (nI j7)]) hx hb hown hE.1 (K0.w tw_323) (hts _ tw_320) (hts _ tw_322) (hts _ tw_9006) (hts _ tw_1) (by decide) np_FK_checkMyEntryIsFilled (va_recv hK hP (ci := nFK) (q0 := 0) rfl rfl) rfl d_FK_release_11) (kr_f hq12 (kr_t hq11 (c_FK_checkMyEntryIsFilled K0 ad r σ j2 j7 ok (by omega) (by omega) ))) (hl.1.trans hml.symm) (Nat.le_of_ble_eq_true rfl) ⟨Nat.le_of_ble_eq_true rfl, Nat.le_of_ble_eq_true rfl, Nat.le_of_ble_eq_true rfl, Nat.le_of_ble_eq_true rfl⟩ (fun U hU hW => ⟨hE.go hW hU hS, by rw [hU]; exact hP, hD⟩) hex hlocks (by (try rw [pI_pred hnz]); first | rfl | (simp [sp_release, inr, req, wit, eIA, eIS, eUO, eNS, hq1, hq6, hq11, hq12]; done) | (simp [sp_release, inr, req, wit, eIA, eIS, eUO, eNS, hq1, hq6, hq11, hq12]; rfl) | (simp [sp_release, inr, req, wit, eIA, eIS, eUO, eNS, hq1, hq6, hq11, hq12]; done) | (simp [sp_release, inr, req, wit, eIA, eIS, eUO, eNS, hq1, hq6, hq11, hq12]; rfl) | (simp only [sp_release, inr, req, wit, eIA, eIS, eUO, eNS, hq1, hq6, hq11, hq12]; rfl))
        · skip
          refine k_callR (k_atV (As := [.int (nI j2), .int (nI j7)]) hx hb hown hE.1 (K0.w tw_323) (hts _ tw_320) (hts _ tw_322) (hts _ tw_9006) (hts _ tw_1) (by decide) np_FK_checkMyEntryIsFilled (va_recv hK hP (ci := nFK) (q0 := 0) rfl rfl) rfl d_FK_release_11) (kr_t hq12 (kr_t hq11 (c_FK_checkMyEntryIsFilled K0 ad r σ j2 j7 ok (by omega) (by omega) ))) (hl.1.trans hml.symm) (Nat.le_of_ble_eq_true rfl) ⟨Nat.le_of_ble_eq_true rfl, Nat.le_of_ble_eq_true rfl, Nat.le_of_ble_eq_true rfl, Nat.le_of_ble_eq_true rfl⟩ (fun U hU hW => ⟨hE.go hW hU hS, by rw [hU]; exact hP, hD⟩) ?_
          have hnz : σ.1 2 (j2 * 4 + j7) ≠ 0 := by simpa using hq12
          have hbd := o2 (j2 * 4 + j7) (by omega)
          refine lv_aload_n hx hb d_FK_release_14 rfl (lv_at hl 0 rfl) ?_
          refine va_get (D := D) (ci := nFK) (v := .ref (ad 1)) (C := R_FK) (T := T_FK) (N := 4) hx hb hts i_FK hown hK hP 0 rfl rfl 0 (by decide) (hts _ tw_116) (fun _ h9 => h9) rfl d_FK_release_15 ?_
          refine lv_iload_n hx hb d_FK_release_18 rfl (lv_at hl 1 rfl) ?_
          refine lv_iload_n hx hb d_FK_release_19 rfl (lv_at hl 2 rfl) ?_
          refine k_callR (k_atV (As := [.int (nI j2), .int (nI j7)]) hx hb hown hE.1 (K0.w tw_302) (hts _ tw_299) (hts _ tw_300) (hts _ tw_301) (hts _ tw_2) (by decide) np_Mem_pageIn (va_recv hK hP (ci := nMem) (q0 := 1) rfl rfl) rfl d_FK_release_20) (c_Mem_pageIn K0 ad r σ j2 j7 (by omega) (by omega)) (hl.1.trans hml.symm) (Nat.le_of_ble_eq_true rfl) ⟨Nat.le_of_ble_eq_true rfl, Nat.le_of_ble_eq_true rfl, Nat.le_of_ble_eq_true rfl, Nat.le_of_ble_eq_true rfl⟩ (fun U hU hW => ⟨hE.go hW hU hS, by rw [hU]; exact hP, hD⟩) ?_
          have ho13 := o2 (j2 * 4 + j7) (by omega)
          refine lv_istore_n (lv' := [(3, .int (pI (σ.1 2 (j2 * 4 + j7)))), (0, .ref (ad 0)), (1, .int (nI j2)), (2, .int (nI j7))]) hx hb d_FK_release_23 rfl hl (by decide) rfl (fun ls hl => ?_)
          refine lv_aload_n hx hb d_FK_release_24 rfl (lv_at hl 1 rfl) ?_
          refine va_get (D := D) (ci := nFK) (v := .ref (ad 1)) (C := R_FK) (T := T_FK) (N := 4) hx hb hts i_FK hown hK hP 0 rfl rfl 0 (by decide) (hts _ tw_116) (fun _ h9 => h9) rfl d_FK_release_25 ?_
          refine lv_iload_n hx hb d_FK_release_28 rfl (lv_at hl 0 rfl) ?_
          refine k_st (st' := [.int (nI ((σ.1 2 (j2 * 4 + j7)) - 1)), .ref (ad 1)]) (by show ([.int (pI (σ.1 2 (j2 * 4 + j7))), .ref (ad 1)] : List Value) = _; rw [pI_pred (by omega)]) ?_
          refine k_callR (k_atV (As := [.int (nI ((σ.1 2 (j2 * 4 + j7)) - 1))]) hx hb hown hE.1 (K0.w tw_371) (hts _ tw_368) (hts _ tw_369) (hts _ tw_370) (hts _ tw_2) (by decide) np_Mem_filledEntries (va_recv hK hP (ci := nMem) (q0 := 1) rfl rfl) rfl d_FK_release_29) (c_Mem_filledEntries K0 ad r σ ((σ.1 2 (j2 * 4 + j7)) - 1) (by omega) ok.b2) (hl.1.trans hml.symm) (Nat.le_of_ble_eq_true rfl) ⟨Nat.le_of_ble_eq_true rfl, Nat.le_of_ble_eq_true rfl, Nat.le_of_ble_eq_true rfl, Nat.le_of_ble_eq_true rfl⟩ (fun U hU hW => ⟨hE.go hW hU hS, by rw [hU]; exact hP, hD⟩) ?_
          have hc14 : (filled σ ((σ.1 2 (j2 * 4 + j7)) - 1)) ≤ 4 := cnt_le _ _
          refine k_leN0 (tgt := 45) (by omega) hx hb d_FK_release_32 (by decide) (fun h15 => ?_) (fun h15 => ?_)
          · refine lv_aload_n hx hb d_FK_release_45 rfl (lv_at hl 1 rfl) ?_
            refine va_get (D := D) (ci := nFK) (v := .ref (ad 1)) (C := R_FK) (T := T_FK) (N := 4) hx hb hts i_FK hown hK hP 0 rfl rfl 0 (by decide) (hts _ tw_116) (fun _ h9 => h9) rfl d_FK_release_46 ?_
            refine lv_iload_n hx hb d_FK_release_49 rfl (lv_at hl 2 rfl) ?_
            refine lv_iload_n hx hb d_FK_release_50 rfl (lv_at hl 3 rfl) ?_
            refine k_callW (k_atV (As := [.int (nI j2), .int (nI j7)]) hx hb hown hE.1 (K0.w tw_38) (hts _ tw_374) (hts _ tw_36) (hts _ tw_37) (hts _ tw_2) (by decide) np_Mem_clearEntry (va_recv hK hP (ci := nMem) (q0 := 1) rfl rfl) rfl d_FK_release_51) (c_Mem_clearEntry K0 ad r σ j2 j7 (by omega) (by omega)) (hl.1.trans hml.symm) (Nat.le_of_ble_eq_true rfl) ⟨Nat.le_of_ble_eq_true rfl, Nat.le_of_ble_eq_true rfl, Nat.le_of_ble_eq_true rfl, Nat.le_of_ble_eq_true rfl⟩ (fun U hU hW => ⟨hE.go hW hU hS, by rw [hU]; exact hP, hD⟩) hS (fun H locs hP hD hS => ?_)
            obtain ⟨σ16, eσ16⟩ : ∃ z : kS, z = (m_clearEntry σ j2 j7) := ⟨_, rfl⟩
            have hP : va_P D vwCl (wC ad cI r σ16) H := by rw [eσ16]; exact hP
            have hD : va_D (kA s0) (wC ad cI r σ16) := by rw [eσ16]; exact hD
            refine lv_aload_n hx hb d_FK_release_54 rfl (lv_at hl 1 rfl) ?_
            refine va_get (D := D) (ci := nFK) (v := .ref (ad 1)) (C := R_FK) (T := T_FK) (N := 4) hx hb hts i_FK hown hK hP 0 rfl rfl 0 (by decide) (hts _ tw_116) (fun _ h9 => h9) rfl d_FK_release_55 ?_
            refine lv_iload_n hx hb d_FK_release_58 rfl (lv_at hl 0 rfl) ?_
            refine k_st (st' := [.int (nI ((σ.1 2 (j2 * 4 + j7)) - 1)), .ref (ad 1)]) (by show ([.int (pI (σ.1 2 (j2 * 4 + j7))), .ref (ad 1)] : List Value) = _; rw [pI_pred (t := (σ.1 2 (j2 * 4 + j7))) (by omega)]) ?_
            refine k_callW (k_atV (As := [.int (nI ((σ.1 2 (j2 * 4 + j7)) - 1))]) hx hb hown hE.1 (K0.w tw_30) (hts _ tw_375) (hts _ tw_28) (hts _ tw_29) (hts _ tw_2) (by decide) np_Mem_setFree (va_recv hK hP (ci := nMem) (q0 := 1) rfl rfl) rfl d_FK_release_59) (c_Mem_setFree K0 ad r σ16 ((σ.1 2 (j2 * 4 + j7)) - 1) (by omega)) (hl.1.trans hml.symm) (Nat.le_of_ble_eq_true rfl) ⟨Nat.le_of_ble_eq_true rfl, Nat.le_of_ble_eq_true rfl, Nat.le_of_ble_eq_true rfl, Nat.le_of_ble_eq_true rfl⟩ (fun U hU hW => ⟨hE.go hW hU hS, by rw [hU]; exact hP, hD⟩) hS (fun H locs hP hD hS => ?_)
            obtain ⟨σ17, eσ17⟩ : ∃ z : kS, z = (m_become σ16 ((σ.1 2 (j2 * 4 + j7)) - 1) 0 0) := ⟨_, rfl⟩
            have hP : va_P D vwCl (wC ad cI r σ17) H := by rw [eσ17]; exact hP
            have hD : va_D (kA s0) (wC ad cI r σ17) := by rw [eσ17]; exact hD
            refine lv_iload_n hx hb d_FK_release_62 rfl (lv_at hl 0 rfl) ?_
            exact k_retWI hx hb hr hlocks d_FK_release_63 hP hD hS (by (try rw [pI_pred hnz]); subst eσ17 eσ16; first | rfl | (simp [sp_release, inr, req, wit, eIA, eIS, eUO, eNS, hq1, hq6, hq11, hq12, h15]; done) | (simp [sp_release, inr, req, wit, eIA, eIS, eUO, eNS, hq1, hq6, hq11, hq12, h15]; rfl) | (simp [sp_release, inr, req, wit, eIA, eIS, eUO, eNS, hq1, hq6, hq11, hq12, beq_iff_eq.mpr h15]; done) | (simp [sp_release, inr, req, wit, eIA, eIS, eUO, eNS, hq1, hq6, hq11, hq12, beq_iff_eq.mpr h15]; rfl) | (simp only [sp_release, inr, req, wit, eIA, eIS, eUO, eNS, hq1, hq6, hq11, hq12, h15]; rfl))
          · exact k_throw hx hb K0.tr hown (text := "the table still has an entry") (names := kNames) (by decide +kernel) (by decide +kernel) (hts _ tw_220) (hts _ tw_10) (K0.str hE sr_102) (K0.own hE oa_57) (hl.1.trans hml.symm) d_FK_release_35 d_FK_release_38 d_FK_release_39 d_FK_release_41 d_FK_release_44 hex hlocks ⟨Nat.le_of_ble_eq_true rfl, Nat.le_of_ble_eq_true rfl, Nat.le_of_ble_eq_true rfl, Nat.le_of_ble_eq_true rfl⟩ (by (try rw [pI_pred hnz]); first | rfl | (simp [sp_release, inr, req, wit, eIA, eIS, eUO, eNS, hq1, hq6, hq11, hq12, h15, beq_false_of_ne h15, bne_iff_ne.mpr h15]; done) | (simp [sp_release, inr, req, wit, eIA, eIS, eUO, eNS, hq1, hq6, hq11, hq12, h15, beq_false_of_ne h15, bne_iff_ne.mpr h15]; rfl) | (simp [sp_release, inr, req, wit, eIA, eIS, eUO, eNS, hq1, hq6, hq11, hq12, h15, beq_false_of_ne h15, bne_iff_ne.mpr h15]; done) | (simp [sp_release, inr, req, wit, eIA, eIS, eUO, eNS, hq1, hq6, hq11, hq12, h15, beq_false_of_ne h15, bne_iff_ne.mpr h15]; rfl) | (simp only [sp_release, inr, req, wit, eIA, eIS, eUO, eNS, hq1, hq6, hq11, hq12, h15, beq_false_of_ne h15, bne_iff_ne.mpr h15]; rfl))
set_option maxHeartbeats 4000000 in
set_option maxRecDepth 100000 in
theorem c_FK_start {l : Launch} {s0 : State} {a0 : Array Value} {D : va_G} {cI cL : ClassId} (K0 : k0 l s0 a0 D cI cL) (ad : Nat → Nat) (r : va_W) (σ : kS) (x : Int32) (ok : kOk σ) : kMet l y_FK_start (Cond.code y_FK_start b_FK_start 2 (some .int)) (rmL 8) [.ref (ad 0), .int x] (kPre D vwCl s0 (wC ad cI r) σ) (sp_start σ x) (kBw D vwCl s0 (wC ad cI r)) := by
  refine k_of (by decide) (Nat.le_of_ble_eq_true rfl) ?_
  intro p e9 s m below meth c hx hb hr hlocks hown hml hex hpre ls hl
  obtain ⟨hE, hP, hD⟩ := hpre
  obtain ⟨hts, hK⟩ := K0.at (args := ([.ref (ad 0), .int x] : List Value).toArray) hE
  have hl : lv_has ls 2 [(0, .ref (ad 0)), (1, .int x)] := hl
  have hS : va_S (kA s0) s.heap s.heap [] := va_S.rf
  obtain ⟨o1, o2, o3, o4, o5, o6, o7, o8, o9, o10, o0, ⟨oc1, oc2⟩, oc3, or6⟩ := id ok
  have hr0 : σ.1 6 (σ.1 11 0) ≠ 0 := or6 _ oc2 (by omega)
  have hr1 : σ.1 6 (σ.1 11 0) < 21 := o6 _ oc2
  refine lv_iload_n hx hb d_FK_start_0 rfl (lv_at hl 1 rfl) ?_
  rcases hq1 : rg x 1 5 with _ | j2
  · exact k_callE (k_atS (As := [.int x]) hx hb hown hE.1 (K0.w tw_140) rfl k_w9 (hts _ tw_138) (hts _ tw_139) (hts _ tw_1) (by decide) np_FK_checkProcess rfl d_FK_start_1) (kn_n hq1 (c_FK_checkProcess K0 ad r σ x)) (hl.1.trans hml.symm) (Nat.le_of_ble_eq_true rfl) ⟨Nat.le_of_ble_eq_true rfl, Nat.le_of_ble_eq_true rfl, Nat.le_of_ble_eq_true rfl, Nat.le_of_ble_eq_true rfl⟩ (fun U hU hW => ⟨hE.go hW hU hS, by rw [hU]; exact hP, hD⟩) hex hlocks (by first | rfl | (simp [sp_start, inr, req, wit, eIA, eIS, eUO, eNS, hq1]; done) | (simp [sp_start, inr, req, wit, eIA, eIS, eUO, eNS, hq1]; rfl) | (simp [sp_start, inr, req, wit, eIA, eIS, eUO, eNS, hq1]; done) | (simp [sp_start, inr, req, wit, eIA, eIS, eUO, eNS, hq1]; rfl) | (simp only [sp_start, inr, req, wit, eIA, eIS, eUO, eNS, hq1]; rfl))
  · refine k_callR (k_atS (As := [.int x]) hx hb hown hE.1 (K0.w tw_140) rfl k_w9 (hts _ tw_138) (hts _ tw_139) (hts _ tw_1) (by decide) np_FK_checkProcess rfl d_FK_start_1) (kn_s hq1 (c_FK_checkProcess K0 ad r σ x)) (hl.1.trans hml.symm) (Nat.le_of_ble_eq_true rfl) ⟨Nat.le_of_ble_eq_true rfl, Nat.le_of_ble_eq_true rfl, Nat.le_of_ble_eq_true rfl, Nat.le_of_ble_eq_true rfl⟩ (fun U hU hW => ⟨hE.go hW hU hS, by rw [hU]; exact hP, hD⟩) ?_
    obtain ⟨rfl, ha3, hb_4, hc_5⟩ := rg_some hq1
    refine lv_aload_n hx hb d_FK_start_4 rfl (lv_at hl 0 rfl) ?_
    refine lv_iload_n hx hb d_FK_start_5 rfl (lv_at hl 1 rfl) ?_
    refine lv_iconst (v := (nI 1)) hx hb d_FK_start_6 (by decide) ?_
    rcases hq6 : mchild σ j2 1 with _ | _
    · refine k_callR (k_atV (As := [.int (nI j2), .int (nI 1)]) hx hb hown hE.1 (K0.w tw_278) (hts _ tw_275) (hts _ tw_277) (hts _ tw_9005) (hts _ tw_1) (by decide) np_FK_isMyChild (va_recv hK hP (ci := nFK) (q0 := 0) rfl rfl) rfl d_FK_start_7) (kb_f hq6 (c_FK_isMyChild K0 ad r σ j2 1 ok (by omega) (by omega))) (hl.1.trans hml.symm) (Nat.le_of_ble_eq_true rfl) ⟨Nat.le_of_ble_eq_true rfl, Nat.le_of_ble_eq_true rfl, Nat.le_of_ble_eq_true rfl, Nat.le_of_ble_eq_true rfl⟩ (fun U hU hW => ⟨hE.go hW hU hS, by rw [hU]; exact hP, hD⟩) ?_
      refine k_ifN0 (tgt := 23) (by decide) hx hb d_FK_start_10 (by decide) (fun h9 => absurd h9 (by decide)) (fun _ => ?_)
      exact k_throw hx hb K0.tr hown (text := "the process is no embryo of the caller's") (names := kNames) (by decide +kernel) (by decide +kernel) (hts _ tw_220) (hts _ tw_10) (K0.str hE sr_113) (K0.own hE oa_57) (hl.1.trans hml.symm) d_FK_start_13 d_FK_start_16 d_FK_start_17 d_FK_start_19 d_FK_start_22 hex hlocks ⟨Nat.le_of_ble_eq_true rfl, Nat.le_of_ble_eq_true rfl, Nat.le_of_ble_eq_true rfl, Nat.le_of_ble_eq_true rfl⟩ (by first | rfl | (simp [sp_start, inr, req, wit, eIA, eIS, eUO, eNS, hq1, hq6]; done) | (simp [sp_start, inr, req, wit, eIA, eIS, eUO, eNS, hq1, hq6]; rfl) | (simp [sp_start, inr, req, wit, eIA, eIS, eUO, eNS, hq1, hq6]; done) | (simp [sp_start, inr, req, wit, eIA, eIS, eUO, eNS, hq1, hq6]; rfl) | (simp only [sp_start, inr, req, wit, eIA, eIS, eUO, eNS, hq1, hq6]; rfl))
    · refine k_callR (k_atV (As := [.int (nI j2), .int (nI 1)]) hx hb hown hE.1 (K0.w tw_278) (hts _ tw_275) (hts _ tw_277) (hts _ tw_9005) (hts _ tw_1) (by decide) np_FK_isMyChild (va_recv hK hP (ci := nFK) (q0 := 0) rfl rfl) rfl d_FK_start_7) (kb_t hq6 (c_FK_isMyChild K0 ad r σ j2 1 ok (by omega) (by omega))) (hl.1.trans hml.symm) (Nat.le_of_ble_eq_true rfl) ⟨Nat.le_of_ble_eq_true rfl, Nat.le_of_ble_eq_true rfl, Nat.le_of_ble_eq_true rfl, Nat.le_of_ble_eq_true rfl⟩ (fun U hU hW => ⟨hE.go hW hU hS, by rw [hU]; exact hP, hD⟩) ?_
      have hst9 := mchild_st hq6
      have hr6 : σ.1 6 j2 ≠ 0 := or6 _ (by omega) (by omega)
      have ho6 := o6 j2 (by omega)
      refine k_ifN0 (tgt := 23) (by decide) hx hb d_FK_start_10 (by decide) (fun _ => ?_) (fun h9 => absurd h9 (by decide))
      refine lv_aload_n hx hb d_FK_start_23 rfl (lv_at hl 0 rfl) ?_
      refine va_get (D := D) (ci := nFK) (v := .ref (ad 2)) (C := R_FK) (T := T_FK) (N := 4) hx hb hts i_FK hown hK hP 0 rfl rfl 1 (by decide) (hts _ tw_117) (fun _ h9 => h9) rfl d_FK_start_24 ?_
      refine lv_iload_n hx hb d_FK_start_27 rfl (lv_at hl 1 rfl) ?_
      refine lv_iconst (v := (nI 2)) hx hb d_FK_start_28 (by decide) ?_
      refine k_callW (k_atV (As := [.int (nI j2), .int (nI 2)]) hx hb hown hE.1 (K0.w tw_387) (hts _ tw_384) (hts _ tw_385) (hts _ tw_386) (hts _ tw_3) (by decide) np_Pro_setState (va_recv hK hP (ci := nPro) (q0 := 2) rfl rfl) rfl d_FK_start_29) (c_Pro_setState K0 ad r σ j2 2 (by omega)) (hl.1.trans hml.symm) (Nat.le_of_ble_eq_true rfl) ⟨Nat.le_of_ble_eq_true rfl, Nat.le_of_ble_eq_true rfl, Nat.le_of_ble_eq_true rfl, Nat.le_of_ble_eq_true rfl⟩ (fun U hU hW => ⟨hE.go hW hU hS, by rw [hU]; exact hP, hD⟩) hS (fun H locs hP hD hS => ?_)
      obtain ⟨σ7, eσ7⟩ : ∃ z : kS, z = (st σ 4 j2 2) := ⟨_, rfl⟩
      have hP : va_P D vwCl (wC ad cI r σ7) H := by rw [eσ7]; exact hP
      have hD : va_D (kA s0) (wC ad cI r σ7) := by rw [eσ7]; exact hD
      refine lv_iconst (v := (nI 1)) hx hb d_FK_start_32 (by decide) ?_
      exact k_retWI hx hb hr hlocks d_FK_start_33 hP hD hS (by subst eσ7; first | rfl | (simp [sp_start, inr, req, wit, eIA, eIS, eUO, eNS, hq1, hq6]; done) | (simp [sp_start, inr, req, wit, eIA, eIS, eUO, eNS, hq1, hq6]; rfl) | (simp [sp_start, inr, req, wit, eIA, eIS, eUO, eNS, hq1, hq6]; done) | (simp [sp_start, inr, req, wit, eIA, eIS, eUO, eNS, hq1, hq6]; rfl) | (simp only [sp_start, inr, req, wit, eIA, eIS, eUO, eNS, hq1, hq6]; rfl))
set_option maxHeartbeats 4000000 in
set_option maxRecDepth 100000 in
theorem c_FK_give {l : Launch} {s0 : State} {a0 : Array Value} {D : va_G} {cI cL : ClassId} (K0 : k0 l s0 a0 D cI cL) (ad : Nat → Nat) (r : va_W) (σ : kS) (x : Int32) (ok : kOk σ) : kMet l y_FK_give (Cond.code y_FK_give b_FK_give 3 (some .int)) (rmL 8) [.ref (ad 0), .int x] (kPre D vwCl s0 (wC ad cI r) σ) (sp_give σ x) (kBw D vwCl s0 (wC ad cI r)) := by
  refine k_of (by decide) (Nat.le_of_ble_eq_true rfl) ?_
  intro p e9 s m below meth c hx hb hr hlocks hown hml hex hpre ls hl
  obtain ⟨hE, hP, hD⟩ := hpre
  obtain ⟨hts, hK⟩ := K0.at (args := ([.ref (ad 0), .int x] : List Value).toArray) hE
  have hl : lv_has ls 3 [(0, .ref (ad 0)), (1, .int x)] := hl
  have hS : va_S (kA s0) s.heap s.heap [] := va_S.rf
  obtain ⟨o1, o2, o3, o4, o5, o6, o7, o8, o9, o10, o0, ⟨oc1, oc2⟩, oc3, or6⟩ := id ok
  have hr0 : σ.1 6 (σ.1 11 0) ≠ 0 := or6 _ oc2 (by omega)
  have hr1 : σ.1 6 (σ.1 11 0) < 21 := o6 _ oc2
  refine lv_iload_n hx hb d_FK_give_0 rfl (lv_at hl 1 rfl) ?_
  rcases hq1 : rg x 1 5 with _ | j2
  · exact k_callE (k_atS (As := [.int x]) hx hb hown hE.1 (K0.w tw_140) rfl k_w9 (hts _ tw_138) (hts _ tw_139) (hts _ tw_1) (by decide) np_FK_checkProcess rfl d_FK_give_1) (kn_n hq1 (c_FK_checkProcess K0 ad r σ x)) (hl.1.trans hml.symm) (Nat.le_of_ble_eq_true rfl) ⟨Nat.le_of_ble_eq_true rfl, Nat.le_of_ble_eq_true rfl, Nat.le_of_ble_eq_true rfl, Nat.le_of_ble_eq_true rfl⟩ (fun U hU hW => ⟨hE.go hW hU hS, by rw [hU]; exact hP, hD⟩) hex hlocks (by first | rfl | (simp [sp_give, inr, req, wit, eIA, eIS, eUO, eNS, hq1]; done) | (simp [sp_give, inr, req, wit, eIA, eIS, eUO, eNS, hq1]; rfl) | (simp [sp_give, inr, req, wit, eIA, eIS, eUO, eNS, hq1]; done) | (simp [sp_give, inr, req, wit, eIA, eIS, eUO, eNS, hq1]; rfl) | (simp only [sp_give, inr, req, wit, eIA, eIS, eUO, eNS, hq1]; rfl))
  · refine k_callR (k_atS (As := [.int x]) hx hb hown hE.1 (K0.w tw_140) rfl k_w9 (hts _ tw_138) (hts _ tw_139) (hts _ tw_1) (by decide) np_FK_checkProcess rfl d_FK_give_1) (kn_s hq1 (c_FK_checkProcess K0 ad r σ x)) (hl.1.trans hml.symm) (Nat.le_of_ble_eq_true rfl) ⟨Nat.le_of_ble_eq_true rfl, Nat.le_of_ble_eq_true rfl, Nat.le_of_ble_eq_true rfl, Nat.le_of_ble_eq_true rfl⟩ (fun U hU hW => ⟨hE.go hW hU hS, by rw [hU]; exact hP, hD⟩) ?_
    obtain ⟨rfl, ha3, hb_4, hc_5⟩ := rg_some hq1
    refine lv_aload_n hx hb d_FK_give_4 rfl (lv_at hl 0 rfl) ?_
    refine lv_iload_n hx hb d_FK_give_5 rfl (lv_at hl 1 rfl) ?_
    rcases hq6 : (σ.1 4 j2 == 2) with _ | _
    · exact k_callE (k_atV (As := [.int (nI j2)]) hx hb hown hE.1 (K0.w tw_398) (hts _ tw_395) (hts _ tw_397) (hts _ tw_9007) (hts _ tw_1) (by decide) np_FK_checkIsReady (va_recv hK hP (ci := nFK) (q0 := 0) rfl rfl) rfl d_FK_give_6) (kr_f hq6 (c_FK_checkIsReady K0 ad r σ j2 ok (by omega) )) (hl.1.trans hml.symm) (Nat.le_of_ble_eq_true rfl) ⟨Nat.le_of_ble_eq_true rfl, Nat.le_of_ble_eq_true rfl, Nat.le_of_ble_eq_true rfl, Nat.le_of_ble_eq_true rfl⟩ (fun U hU hW => ⟨hE.go hW hU hS, by rw [hU]; exact hP, hD⟩) hex hlocks (by first | rfl | (simp [sp_give, inr, req, wit, eIA, eIS, eUO, eNS, hq1, hq6]; done) | (simp [sp_give, inr, req, wit, eIA, eIS, eUO, eNS, hq1, hq6]; rfl) | (simp [sp_give, inr, req, wit, eIA, eIS, eUO, eNS, hq1, hq6]; done) | (simp [sp_give, inr, req, wit, eIA, eIS, eUO, eNS, hq1, hq6]; rfl) | (simp only [sp_give, inr, req, wit, eIA, eIS, eUO, eNS, hq1, hq6]; rfl))
    · refine k_callR (k_atV (As := [.int (nI j2)]) hx hb hown hE.1 (K0.w tw_398) (hts _ tw_395) (hts _ tw_397) (hts _ tw_9007) (hts _ tw_1) (by decide) np_FK_checkIsReady (va_recv hK hP (ci := nFK) (q0 := 0) rfl rfl) rfl d_FK_give_6) (kr_t hq6 (c_FK_checkIsReady K0 ad r σ j2 ok (by omega) )) (hl.1.trans hml.symm) (Nat.le_of_ble_eq_true rfl) ⟨Nat.le_of_ble_eq_true rfl, Nat.le_of_ble_eq_true rfl, Nat.le_of_ble_eq_true rfl, Nat.le_of_ble_eq_true rfl⟩ (fun U hU hW => ⟨hE.go hW hU hS, by rw [hU]; exact hP, hD⟩) ?_
      refine lv_aload_n hx hb d_FK_give_9 rfl (lv_at hl 0 rfl) ?_
      refine va_get (D := D) (ci := nFK) (v := .int (nI (σ.1 11 0))) (C := R_FK) (T := T_FK) (N := 4) hx hb hts i_FK hown hK hP 0 rfl rfl 3 (by decide) (hts _ tw_119) (fun _ h9 => h9) rfl d_FK_give_10 ?_
      refine lv_istore_n (lv' := [(2, .int (nI (σ.1 11 0))), (0, .ref (ad 0)), (1, .int (nI j2))]) hx hb d_FK_give_13 rfl hl (by decide) rfl (fun ls hl => ?_)
      refine lv_aload_n hx hb d_FK_give_14 rfl (lv_at hl 1 rfl) ?_
      refine va_get (D := D) (ci := nFK) (v := .ref (ad 2)) (C := R_FK) (T := T_FK) (N := 4) hx hb hts i_FK hown hK hP 0 rfl rfl 1 (by decide) (hts _ tw_117) (fun _ h9 => h9) rfl d_FK_give_15 ?_
      refine lv_iload_n hx hb d_FK_give_18 rfl (lv_at hl 0 rfl) ?_
      refine lv_iconst (v := (nI 2)) hx hb d_FK_give_19 (by decide) ?_
      refine k_callW (k_atV (As := [.int (nI (σ.1 11 0)), .int (nI 2)]) hx hb hown hE.1 (K0.w tw_387) (hts _ tw_384) (hts _ tw_385) (hts _ tw_386) (hts _ tw_3) (by decide) np_Pro_setState (va_recv hK hP (ci := nPro) (q0 := 2) rfl rfl) rfl d_FK_give_20) (c_Pro_setState K0 ad r σ (σ.1 11 0) 2 (by omega)) (hl.1.trans hml.symm) (Nat.le_of_ble_eq_true rfl) ⟨Nat.le_of_ble_eq_true rfl, Nat.le_of_ble_eq_true rfl, Nat.le_of_ble_eq_true rfl, Nat.le_of_ble_eq_true rfl⟩ (fun U hU hW => ⟨hE.go hW hU hS, by rw [hU]; exact hP, hD⟩) hS (fun H locs hP hD hS => ?_)
      obtain ⟨σ7, eσ7⟩ : ∃ z : kS, z = (st σ 4 (σ.1 11 0) 2) := ⟨_, rfl⟩
      have hP : va_P D vwCl (wC ad cI r σ7) H := by rw [eσ7]; exact hP
      have hD : va_D (kA s0) (wC ad cI r σ7) := by rw [eσ7]; exact hD
      refine lv_aload_n hx hb d_FK_give_23 rfl (lv_at hl 1 rfl) ?_
      refine lv_iload_n hx hb d_FK_give_24 rfl (lv_at hl 2 rfl) ?_
      refine k_callW (k_atV (As := [.int (nI j2)]) hx hb hown hE.1 (K0.w tw_403) (hts _ tw_400) (hts _ tw_402) (hts _ tw_9008) (hts _ tw_1) (by decide) np_FK_run (va_recv hK hP (ci := nFK) (q0 := 0) rfl rfl) rfl d_FK_give_25) (c_FK_run K0 ad r σ7 j2 (by omega)) (hl.1.trans hml.symm) (Nat.le_of_ble_eq_true rfl) ⟨Nat.le_of_ble_eq_true rfl, Nat.le_of_ble_eq_true rfl, Nat.le_of_ble_eq_true rfl, Nat.le_of_ble_eq_true rfl⟩ (fun U hU hW => ⟨hE.go hW hU hS, by rw [hU]; exact hP, hD⟩) hS (fun H locs hP hD hS => ?_)
      obtain ⟨σ8, eσ8⟩ : ∃ z : kS, z = (m_run σ7 j2) := ⟨_, rfl⟩
      have hP : va_P D vwCl (wC ad cI r σ8) H := by rw [eσ8]; exact hP
      have hD : va_D (kA s0) (wC ad cI r σ8) := by rw [eσ8]; exact hD
      refine lv_iload_n hx hb d_FK_give_28 rfl (lv_at hl 0 rfl) ?_
      exact k_retWI hx hb hr hlocks d_FK_give_29 hP hD hS (by subst eσ8 eσ7; first | rfl | (simp [sp_give, inr, req, wit, eIA, eIS, eUO, eNS, hq1, hq6]; done) | (simp [sp_give, inr, req, wit, eIA, eIS, eUO, eNS, hq1, hq6]; rfl) | (simp [sp_give, inr, req, wit, eIA, eIS, eUO, eNS, hq1, hq6]; done) | (simp [sp_give, inr, req, wit, eIA, eIS, eUO, eNS, hq1, hq6]; rfl) | (simp only [sp_give, inr, req, wit, eIA, eIS, eUO, eNS, hq1, hq6]; rfl))
