/-! The reference's calls, second part. Laid by a program of mine (wip/gen). -/
set_option maxHeartbeats 4000000 in
set_option maxRecDepth 100000 in
theorem c_Mod_hang2 {l : Launch} {s0 : State} {a0 : Array Value} {D : va_G} {cI cL : ClassId} (K0 : k0 l s0 a0 D cI cL) (ad : Nat → Nat) (κ : kS) (o : va_W) (σ : kS) (x : Int32) (y : Int32) (z : Int32) (w : Int32) (ok : kOr σ) : kMet l y_Mod_hang (Cond.code y_Mod_hang b_Mod_hang 6 (some .int)) (rmL 2) [.ref (ad 17), .int x, .int y, .int z, .int w, .int (nI 2)] (kPre D vwCl s0 (wX ad cI κ o) σ) (.ok (fin σ (rs_hang 2 σ x y z w))) (kBw D vwCl s0 (wX ad cI κ o)) := by
  refine k_of (by decide) (Nat.le_of_ble_eq_true rfl) ?_
  intro p e9 s m below meth c hx hb hr hlocks hown hml hex hpre ls hl
  obtain ⟨hE, hP, hD⟩ := hpre
  obtain ⟨hts, hK⟩ := K0.at (args := ([.ref (ad 17), .int x, .int y, .int z, .int w, .int (nI 2)] : List Value).toArray) hE
  have hl : lv_has ls 6 [(0, .ref (ad 17)), (1, .int x), (2, .int y), (3, .int z), (4, .int w), (5, .int (nI 2))] := hl
  have hS : va_S (kA s0) s.heap s.heap [] := va_S.rf
  have ok1 := ok
  obtain ⟨o1, o2, o3, o4, o5, o6, o7, o8, o10, o0, ⟨oc1, oc2⟩, oc3, or6⟩ := id ok1
  have hr0 : σ.1 6 (σ.1 11 0) ≠ 0 := or6 _ oc2 (by omega)
  have hr1 : σ.1 6 (σ.1 11 0) < 21 := o6 _ oc2
  refine lv_iload_n hx hb d_Mod_hang_0 rfl (lv_at hl 1 rfl) ?_
  rcases hq1 : rg x 0 19 with _ | j2
  · refine k_callR (k_atS (As := [.int x]) hx hb hown hE.1 (K0.w tw_717) rfl k_w9 (hts _ tw_715) (hts _ tw_716) (hts _ tw_5) (by decide) np_Mod_isPage rfl d_Mod_hang_1) (kz_n hq1 (c_Mod_isPage K0 ad κ o σ x)) (hl.1.trans hml.symm) (Nat.le_of_ble_eq_true rfl) ⟨Nat.le_of_ble_eq_true rfl, Nat.le_of_ble_eq_true rfl, Nat.le_of_ble_eq_true rfl, Nat.le_of_ble_eq_true rfl⟩ (fun U hU hW => ⟨hE.go hW hU hS, by rw [hU]; exact hP, hD⟩) ?_
    refine k_if0 (tgt := 33) (by decide) hx hb d_Mod_hang_4 (by decide) (fun _ => ?_) (fun h9 => absurd h9 (by decide))
    refine lv_aload_n hx hb d_Mod_hang_33 rfl (lv_at hl 0 rfl) ?_
    refine lv_iconst (v := (nI 1)) hx hb d_Mod_hang_34 (by decide) ?_
    refine k_callW (k_atV (As := [.int (nI 1)]) hx hb hown hE.1 (K0.w tw_721) (hts _ tw_718) (hts _ tw_720) (hts _ tw_9020) (hts _ tw_5) (by decide) np_Mod_raise (va_recv hK hP (ci := nMod) (q0 := 17) rfl rfl) rfl d_Mod_hang_35) (c_Mod_raise K0 ad κ o σ (nI 1)) (hl.1.trans hml.symm) (Nat.le_of_ble_eq_true rfl) ⟨Nat.le_of_ble_eq_true rfl, Nat.le_of_ble_eq_true rfl, Nat.le_of_ble_eq_true rfl, Nat.le_of_ble_eq_true rfl⟩ (fun U hU hW => ⟨hE.go hW hU hS, by rw [hU]; exact hP, hD⟩) hS (fun H locs hP hD hS => ?_)
    obtain ⟨σ6, eσ6⟩ : ∃ z : kS, z = (sw σ 2 0 (nI 1)) := ⟨_, rfl⟩
    have hP : va_P D vwCl (wX ad cI κ o σ6) H := by rw [eσ6]; exact hP
    have hD : va_D (kA s0) (wX ad cI κ o σ6) := by rw [eσ6]; exact hD
    have hwσ6 : σ6.1 = σ.1 := by rw [eσ6]; exact rfl
    exact k_retWI hx hb hr hlocks d_Mod_hang_38 hP hD hS (by subst eσ6; first | rfl | (simp [rs_hang, inn, rqn, fin, rOkV, hq1]; done) | (simp [rs_hang, inn, rqn, fin, rOkV, hq1]; rfl) | (simp [rs_hang, inn, rqn, fin, rOkV, hq1]; done) | (simp [rs_hang, inn, rqn, fin, rOkV, hq1]; rfl) | (simp only [rs_hang, inn, rqn, fin, rOkV, hq1]; rfl))
  · refine k_callR (k_atS (As := [.int x]) hx hb hown hE.1 (K0.w tw_717) rfl k_w9 (hts _ tw_715) (hts _ tw_716) (hts _ tw_5) (by decide) np_Mod_isPage rfl d_Mod_hang_1) (kz_s hq1 (c_Mod_isPage K0 ad κ o σ x)) (hl.1.trans hml.symm) (Nat.le_of_ble_eq_true rfl) ⟨Nat.le_of_ble_eq_true rfl, Nat.le_of_ble_eq_true rfl, Nat.le_of_ble_eq_true rfl, Nat.le_of_ble_eq_true rfl⟩ (fun U hU hW => ⟨hE.go hW hU hS, by rw [hU]; exact hP, hD⟩) ?_
    obtain ⟨rfl, ha3, hb_4, hc_5⟩ := rg_some hq1
    refine k_if0 (tgt := 33) (by decide) hx hb d_Mod_hang_4 (by decide) (fun h9 => absurd h9 (by decide)) (fun _ => ?_)
    refine lv_iload_n hx hb d_Mod_hang_7 rfl (lv_at hl 2 rfl) ?_
    refine lv_iconst (v := (nI 0)) hx hb d_Mod_hang_8 (by decide) ?_
    refine lv_iconst (v := (nI 3)) hx hb d_Mod_hang_9 (by decide) ?_
    rcases hq12 : rg y 0 3 with _ | j13
    · refine k_callR (k_atS (As := [.int y, .int (nI 0), .int (nI 3)]) hx hb hown hE.1 (K0.w tw_714) rfl k_w9 (hts _ tw_712) (hts _ tw_713) (hts _ tw_5) (by decide) np_Mod_in rfl d_Mod_hang_10) (kz_n hq12 (c_Mod_in K0 ad κ o σ y 0 3 (by decide) (by decide))) (hl.1.trans hml.symm) (Nat.le_of_ble_eq_true rfl) ⟨Nat.le_of_ble_eq_true rfl, Nat.le_of_ble_eq_true rfl, Nat.le_of_ble_eq_true rfl, Nat.le_of_ble_eq_true rfl⟩ (fun U hU hW => ⟨hE.go hW hU hS, by rw [hU]; exact hP, hD⟩) ?_
      refine k_if0 (tgt := 33) (by decide) hx hb d_Mod_hang_13 (by decide) (fun _ => ?_) (fun h9 => absurd h9 (by decide))
      refine lv_aload_n hx hb d_Mod_hang_33 rfl (lv_at hl 0 rfl) ?_
      refine lv_iconst (v := (nI 1)) hx hb d_Mod_hang_34 (by decide) ?_
      refine k_callW (k_atV (As := [.int (nI 1)]) hx hb hown hE.1 (K0.w tw_721) (hts _ tw_718) (hts _ tw_720) (hts _ tw_9020) (hts _ tw_5) (by decide) np_Mod_raise (va_recv hK hP (ci := nMod) (q0 := 17) rfl rfl) rfl d_Mod_hang_35) (c_Mod_raise K0 ad κ o σ (nI 1)) (hl.1.trans hml.symm) (Nat.le_of_ble_eq_true rfl) ⟨Nat.le_of_ble_eq_true rfl, Nat.le_of_ble_eq_true rfl, Nat.le_of_ble_eq_true rfl, Nat.le_of_ble_eq_true rfl⟩ (fun U hU hW => ⟨hE.go hW hU hS, by rw [hU]; exact hP, hD⟩) hS (fun H locs hP hD hS => ?_)
      obtain ⟨σ17, eσ17⟩ : ∃ z : kS, z = (sw σ 2 0 (nI 1)) := ⟨_, rfl⟩
      have hP : va_P D vwCl (wX ad cI κ o σ17) H := by rw [eσ17]; exact hP
      have hD : va_D (kA s0) (wX ad cI κ o σ17) := by rw [eσ17]; exact hD
      have hwσ17 : σ17.1 = σ.1 := by rw [eσ17]; exact rfl
      exact k_retWI hx hb hr hlocks d_Mod_hang_38 hP hD hS (by subst eσ17; first | rfl | (simp [rs_hang, inn, rqn, fin, rOkV, hq1, hq12]; done) | (simp [rs_hang, inn, rqn, fin, rOkV, hq1, hq12]; rfl) | (simp [rs_hang, inn, rqn, fin, rOkV, hq1, hq12]; done) | (simp [rs_hang, inn, rqn, fin, rOkV, hq1, hq12]; rfl) | (simp only [rs_hang, inn, rqn, fin, rOkV, hq1, hq12]; rfl))
    · refine k_callR (k_atS (As := [.int y, .int (nI 0), .int (nI 3)]) hx hb hown hE.1 (K0.w tw_714) rfl k_w9 (hts _ tw_712) (hts _ tw_713) (hts _ tw_5) (by decide) np_Mod_in rfl d_Mod_hang_10) (kz_s hq12 (c_Mod_in K0 ad κ o σ y 0 3 (by decide) (by decide))) (hl.1.trans hml.symm) (Nat.le_of_ble_eq_true rfl) ⟨Nat.le_of_ble_eq_true rfl, Nat.le_of_ble_eq_true rfl, Nat.le_of_ble_eq_true rfl, Nat.le_of_ble_eq_true rfl⟩ (fun U hU hW => ⟨hE.go hW hU hS, by rw [hU]; exact hP, hD⟩) ?_
      obtain ⟨rfl, ha14, hb_15, hc_16⟩ := rg_some hq12
      refine k_if0 (tgt := 33) (by decide) hx hb d_Mod_hang_13 (by decide) (fun h9 => absurd h9 (by decide)) (fun _ => ?_)
      refine lv_iload_n hx hb d_Mod_hang_16 rfl (lv_at hl 3 rfl) ?_
      rcases hq18 : rg z 0 19 with _ | j19
      · refine k_callR (k_atS (As := [.int z]) hx hb hown hE.1 (K0.w tw_717) rfl k_w9 (hts _ tw_715) (hts _ tw_716) (hts _ tw_5) (by decide) np_Mod_isPage rfl d_Mod_hang_17) (kz_n hq18 (c_Mod_isPage K0 ad κ o σ z)) (hl.1.trans hml.symm) (Nat.le_of_ble_eq_true rfl) ⟨Nat.le_of_ble_eq_true rfl, Nat.le_of_ble_eq_true rfl, Nat.le_of_ble_eq_true rfl, Nat.le_of_ble_eq_true rfl⟩ (fun U hU hW => ⟨hE.go hW hU hS, by rw [hU]; exact hP, hD⟩) ?_
        refine k_if0 (tgt := 33) (by decide) hx hb d_Mod_hang_20 (by decide) (fun _ => ?_) (fun h9 => absurd h9 (by decide))
        refine lv_aload_n hx hb d_Mod_hang_33 rfl (lv_at hl 0 rfl) ?_
        refine lv_iconst (v := (nI 1)) hx hb d_Mod_hang_34 (by decide) ?_
        refine k_callW (k_atV (As := [.int (nI 1)]) hx hb hown hE.1 (K0.w tw_721) (hts _ tw_718) (hts _ tw_720) (hts _ tw_9020) (hts _ tw_5) (by decide) np_Mod_raise (va_recv hK hP (ci := nMod) (q0 := 17) rfl rfl) rfl d_Mod_hang_35) (c_Mod_raise K0 ad κ o σ (nI 1)) (hl.1.trans hml.symm) (Nat.le_of_ble_eq_true rfl) ⟨Nat.le_of_ble_eq_true rfl, Nat.le_of_ble_eq_true rfl, Nat.le_of_ble_eq_true rfl, Nat.le_of_ble_eq_true rfl⟩ (fun U hU hW => ⟨hE.go hW hU hS, by rw [hU]; exact hP, hD⟩) hS (fun H locs hP hD hS => ?_)
        obtain ⟨σ23, eσ23⟩ : ∃ z : kS, z = (sw σ 2 0 (nI 1)) := ⟨_, rfl⟩
        have hP : va_P D vwCl (wX ad cI κ o σ23) H := by rw [eσ23]; exact hP
        have hD : va_D (kA s0) (wX ad cI κ o σ23) := by rw [eσ23]; exact hD
        have hwσ23 : σ23.1 = σ.1 := by rw [eσ23]; exact rfl
        exact k_retWI hx hb hr hlocks d_Mod_hang_38 hP hD hS (by subst eσ23; first | rfl | (simp [rs_hang, inn, rqn, fin, rOkV, hq1, hq12, hq18]; done) | (simp [rs_hang, inn, rqn, fin, rOkV, hq1, hq12, hq18]; rfl) | (simp [rs_hang, inn, rqn, fin, rOkV, hq1, hq12, hq18]; done) | (simp [rs_hang, inn, rqn, fin, rOkV, hq1, hq12, hq18]; rfl) | (simp only [rs_hang, inn, rqn, fin, rOkV, hq1, hq12, hq18]; rfl))
      · refine k_callR (k_atS (As := [.int z]) hx hb hown hE.1 (K0.w tw_717) rfl k_w9 (hts _ tw_715) (hts _ tw_716) (hts _ tw_5) (by decide) np_Mod_isPage rfl d_Mod_hang_17) (kz_s hq18 (c_Mod_isPage K0 ad κ o σ z)) (hl.1.trans hml.symm) (Nat.le_of_ble_eq_true rfl) ⟨Nat.le_of_ble_eq_true rfl, Nat.le_of_ble_eq_true rfl, Nat.le_of_ble_eq_true rfl, Nat.le_of_ble_eq_true rfl⟩ (fun U hU hW => ⟨hE.go hW hU hS, by rw [hU]; exact hP, hD⟩) ?_
        obtain ⟨rfl, ha20, hb_21, hc_22⟩ := rg_some hq18
        refine k_if0 (tgt := 33) (by decide) hx hb d_Mod_hang_20 (by decide) (fun h9 => absurd h9 (by decide)) (fun _ => ?_)
        refine lv_iload hx hb d_Mod_hang_23 (lv_at hl 4 rfl) ?_
        refine lv_iconst (v := (nI 1)) hx hb d_Mod_hang_25 (by decide) ?_
        refine lv_iconst (v := (nI 3)) hx hb d_Mod_hang_26 (by decide) ?_
        rcases hq29 : rg w 1 3 with _ | j30
        · refine k_callR (k_atS (As := [.int w, .int (nI 1), .int (nI 3)]) hx hb hown hE.1 (K0.w tw_714) rfl k_w9 (hts _ tw_712) (hts _ tw_713) (hts _ tw_5) (by decide) np_Mod_in rfl d_Mod_hang_27) (kz_n hq29 (c_Mod_in K0 ad κ o σ w 1 3 (by decide) (by decide))) (hl.1.trans hml.symm) (Nat.le_of_ble_eq_true rfl) ⟨Nat.le_of_ble_eq_true rfl, Nat.le_of_ble_eq_true rfl, Nat.le_of_ble_eq_true rfl, Nat.le_of_ble_eq_true rfl⟩ (fun U hU hW => ⟨hE.go hW hU hS, by rw [hU]; exact hP, hD⟩) ?_
          refine k_ifN0 (tgt := 39) (by decide) hx hb d_Mod_hang_30 (by decide) (fun h9 => absurd h9 (by decide)) (fun _ => ?_)
          refine lv_aload_n hx hb d_Mod_hang_33 rfl (lv_at hl 0 rfl) ?_
          refine lv_iconst (v := (nI 1)) hx hb d_Mod_hang_34 (by decide) ?_
          refine k_callW (k_atV (As := [.int (nI 1)]) hx hb hown hE.1 (K0.w tw_721) (hts _ tw_718) (hts _ tw_720) (hts _ tw_9020) (hts _ tw_5) (by decide) np_Mod_raise (va_recv hK hP (ci := nMod) (q0 := 17) rfl rfl) rfl d_Mod_hang_35) (c_Mod_raise K0 ad κ o σ (nI 1)) (hl.1.trans hml.symm) (Nat.le_of_ble_eq_true rfl) ⟨Nat.le_of_ble_eq_true rfl, Nat.le_of_ble_eq_true rfl, Nat.le_of_ble_eq_true rfl, Nat.le_of_ble_eq_true rfl⟩ (fun U hU hW => ⟨hE.go hW hU hS, by rw [hU]; exact hP, hD⟩) hS (fun H locs hP hD hS => ?_)
          obtain ⟨σ34, eσ34⟩ : ∃ z : kS, z = (sw σ 2 0 (nI 1)) := ⟨_, rfl⟩
          have hP : va_P D vwCl (wX ad cI κ o σ34) H := by rw [eσ34]; exact hP
          have hD : va_D (kA s0) (wX ad cI κ o σ34) := by rw [eσ34]; exact hD
          have hwσ34 : σ34.1 = σ.1 := by rw [eσ34]; exact rfl
          exact k_retWI hx hb hr hlocks d_Mod_hang_38 hP hD hS (by subst eσ34; first | rfl | (simp [rs_hang, inn, rqn, fin, rOkV, hq1, hq12, hq18, hq29]; done) | (simp [rs_hang, inn, rqn, fin, rOkV, hq1, hq12, hq18, hq29]; rfl) | (simp [rs_hang, inn, rqn, fin, rOkV, hq1, hq12, hq18, hq29]; done) | (simp [rs_hang, inn, rqn, fin, rOkV, hq1, hq12, hq18, hq29]; rfl) | (simp only [rs_hang, inn, rqn, fin, rOkV, hq1, hq12, hq18, hq29]; rfl))
        · refine k_callR (k_atS (As := [.int w, .int (nI 1), .int (nI 3)]) hx hb hown hE.1 (K0.w tw_714) rfl k_w9 (hts _ tw_712) (hts _ tw_713) (hts _ tw_5) (by decide) np_Mod_in rfl d_Mod_hang_27) (kz_s hq29 (c_Mod_in K0 ad κ o σ w 1 3 (by decide) (by decide))) (hl.1.trans hml.symm) (Nat.le_of_ble_eq_true rfl) ⟨Nat.le_of_ble_eq_true rfl, Nat.le_of_ble_eq_true rfl, Nat.le_of_ble_eq_true rfl, Nat.le_of_ble_eq_true rfl⟩ (fun U hU hW => ⟨hE.go hW hU hS, by rw [hU]; exact hP, hD⟩) ?_
          obtain ⟨rfl, ha31, hb_32, hc_33⟩ := rg_some hq29
          refine k_ifN0 (tgt := 39) (by decide) hx hb d_Mod_hang_30 (by decide) (fun _ => ?_) (fun h9 => absurd h9 (by decide))
          refine lv_aload_n hx hb d_Mod_hang_39 rfl (lv_at hl 0 rfl) ?_
          refine lv_iload_n hx hb d_Mod_hang_40 rfl (lv_at hl 1 rfl) ?_
          refine lv_iload hx hb d_Mod_hang_41 (lv_at hl 5 rfl) ?_
          refine lv_iconst (v := (nI 1)) hx hb d_Mod_hang_43 (by decide) ?_
          refine k_subN (by omega) hx hb d_Mod_hang_44 ?_
          refine k_st (st' := [.int (nI 1), .int (nI j2), .ref (ad 17)]) (by show ([.int (nI (2 - 1)), .int (nI j2), .ref (ad 17)] : List Value) = _; rfl) ?_
          rcases hq35 : rpage σ j2 1 with _ | _
          · refine k_callR (k_atV (As := [.int (nI j2), .int (nI 1)]) hx hb hown hE.1 (K0.w tw_737) (hts _ tw_734) (hts _ tw_736) (hts _ tw_9023) (hts _ tw_5) (by decide) np_Mod_minePage (va_recv hK hP (ci := nMod) (q0 := 17) rfl rfl) rfl d_Mod_hang_45) (kb_f hq35 (c_Mod_minePage K0 ad κ o σ j2 1 (by omega) (by omega) ok1.b0 (ok1.1 j2 (by omega)) ok1.b4 ok1.b5 (by omega))) (hl.1.trans hml.symm) (Nat.le_of_ble_eq_true rfl) ⟨Nat.le_of_ble_eq_true rfl, Nat.le_of_ble_eq_true rfl, Nat.le_of_ble_eq_true rfl, Nat.le_of_ble_eq_true rfl⟩ (fun U hU hW => ⟨hE.go hW hU hS, by rw [hU]; exact hP, hD⟩) ?_
            refine k_ifN0 (tgt := 57) (by decide) hx hb d_Mod_hang_48 (by decide) (fun h9 => absurd h9 (by decide)) (fun _ => ?_)
            refine lv_aload_n hx hb d_Mod_hang_51 rfl (lv_at hl 0 rfl) ?_
            refine lv_iconst (v := (nI 2)) hx hb d_Mod_hang_52 (by decide) ?_
            refine k_callW (k_atV (As := [.int (nI 2)]) hx hb hown hE.1 (K0.w tw_721) (hts _ tw_718) (hts _ tw_720) (hts _ tw_9020) (hts _ tw_5) (by decide) np_Mod_raise (va_recv hK hP (ci := nMod) (q0 := 17) rfl rfl) rfl d_Mod_hang_53) (c_Mod_raise K0 ad κ o σ (nI 2)) (hl.1.trans hml.symm) (Nat.le_of_ble_eq_true rfl) ⟨Nat.le_of_ble_eq_true rfl, Nat.le_of_ble_eq_true rfl, Nat.le_of_ble_eq_true rfl, Nat.le_of_ble_eq_true rfl⟩ (fun U hU hW => ⟨hE.go hW hU hS, by rw [hU]; exact hP, hD⟩) hS (fun H locs hP hD hS => ?_)
            obtain ⟨σ36, eσ36⟩ : ∃ z : kS, z = (sw σ 2 0 (nI 2)) := ⟨_, rfl⟩
            have hP : va_P D vwCl (wX ad cI κ o σ36) H := by rw [eσ36]; exact hP
            have hD : va_D (kA s0) (wX ad cI κ o σ36) := by rw [eσ36]; exact hD
            have hwσ36 : σ36.1 = σ.1 := by rw [eσ36]; exact rfl
            exact k_retWI hx hb hr hlocks d_Mod_hang_56 hP hD hS (by subst eσ36; first | rfl | (simp [rs_hang, inn, rqn, fin, rOkV, hq1, hq12, hq18, hq29, hq35]; done) | (simp [rs_hang, inn, rqn, fin, rOkV, hq1, hq12, hq18, hq29, hq35]; rfl) | (simp [rs_hang, inn, rqn, fin, rOkV, hq1, hq12, hq18, hq29, hq35]; done) | (simp [rs_hang, inn, rqn, fin, rOkV, hq1, hq12, hq18, hq29, hq35]; rfl) | (simp only [rs_hang, inn, rqn, fin, rOkV, hq1, hq12, hq18, hq29, hq35]; rfl))
          · refine k_callR (k_atV (As := [.int (nI j2), .int (nI 1)]) hx hb hown hE.1 (K0.w tw_737) (hts _ tw_734) (hts _ tw_736) (hts _ tw_9023) (hts _ tw_5) (by decide) np_Mod_minePage (va_recv hK hP (ci := nMod) (q0 := 17) rfl rfl) rfl d_Mod_hang_45) (kb_t hq35 (c_Mod_minePage K0 ad κ o σ j2 1 (by omega) (by omega) ok1.b0 (ok1.1 j2 (by omega)) ok1.b4 ok1.b5 (by omega))) (hl.1.trans hml.symm) (Nat.le_of_ble_eq_true rfl) ⟨Nat.le_of_ble_eq_true rfl, Nat.le_of_ble_eq_true rfl, Nat.le_of_ble_eq_true rfl, Nat.le_of_ble_eq_true rfl⟩ (fun U hU hW => ⟨hE.go hW hU hS, by rw [hU]; exact hP, hD⟩) ?_
            refine k_ifN0 (tgt := 57) (by decide) hx hb d_Mod_hang_48 (by decide) (fun _ => ?_) (fun h9 => absurd h9 (by decide))
            refine lv_aload_n hx hb d_Mod_hang_57 rfl (lv_at hl 0 rfl) ?_
            refine va_get (D := D) (ci := nMod) (v := .ref (ad 23)) (C := R_Mod) (T := T_Mod) (N := 15) hx hb hts i_Mod hown hK hP 17 rfl rfl 6 (by decide) (hts _ tw_661) (fun _ h9 => h9) rfl d_Mod_hang_58 ?_
            refine lv_iload_n hx hb d_Mod_hang_61 rfl (lv_at hl 3 rfl) ?_
            refine k_aldN (q0 := 23) (t0 := 0) hx hb hK hP rfl rfl (by omega) (by decide) d_Mod_hang_62 ?_
            have ho37 := o0 j19 (by omega)
            refine k_ifN0 (tgt := 79) (Nat.lt_of_lt_of_le (ok1.b0 _ (by omega)) (by decide)) hx hb d_Mod_hang_63 (by decide) (fun h38 => ?_) (fun h38 => ?_)
            · refine lv_aload_n hx hb d_Mod_hang_79 rfl (lv_at hl 0 rfl) ?_
              refine lv_iconst (v := (nI 3)) hx hb d_Mod_hang_80 (by decide) ?_
              refine k_callW (k_atV (As := [.int (nI 3)]) hx hb hown hE.1 (K0.w tw_721) (hts _ tw_718) (hts _ tw_720) (hts _ tw_9020) (hts _ tw_5) (by decide) np_Mod_raise (va_recv hK hP (ci := nMod) (q0 := 17) rfl rfl) rfl d_Mod_hang_81) (c_Mod_raise K0 ad κ o σ (nI 3)) (hl.1.trans hml.symm) (Nat.le_of_ble_eq_true rfl) ⟨Nat.le_of_ble_eq_true rfl, Nat.le_of_ble_eq_true rfl, Nat.le_of_ble_eq_true rfl, Nat.le_of_ble_eq_true rfl⟩ (fun U hU hW => ⟨hE.go hW hU hS, by rw [hU]; exact hP, hD⟩) hS (fun H locs hP hD hS => ?_)
              obtain ⟨σ39, eσ39⟩ : ∃ z : kS, z = (sw σ 2 0 (nI 3)) := ⟨_, rfl⟩
              have hP : va_P D vwCl (wX ad cI κ o σ39) H := by rw [eσ39]; exact hP
              have hD : va_D (kA s0) (wX ad cI κ o σ39) := by rw [eσ39]; exact hD
              have hwσ39 : σ39.1 = σ.1 := by rw [eσ39]; exact rfl
              exact k_retWI hx hb hr hlocks d_Mod_hang_84 hP hD hS (by subst eσ39; first | rfl | (simp [rs_hang, inn, rqn, fin, rOkV, hq1, hq12, hq18, hq29, hq35, h38, beq_false_of_ne h38, bne_iff_ne.mpr h38]; done) | (simp [rs_hang, inn, rqn, fin, rOkV, hq1, hq12, hq18, hq29, hq35, h38, beq_false_of_ne h38, bne_iff_ne.mpr h38]; rfl) | (simp [rs_hang, inn, rqn, fin, rOkV, hq1, hq12, hq18, hq29, hq35, h38, beq_false_of_ne h38, bne_iff_ne.mpr h38]; done) | (simp [rs_hang, inn, rqn, fin, rOkV, hq1, hq12, hq18, hq29, hq35, h38, beq_false_of_ne h38, bne_iff_ne.mpr h38]; rfl) | (simp only [rs_hang, inn, rqn, fin, rOkV, hq1, hq12, hq18, hq29, hq35, h38, beq_false_of_ne h38, bne_iff_ne.mpr h38]; rfl))
            · refine lv_aload_n hx hb d_Mod_hang_66 rfl (lv_at hl 0 rfl) ?_
              refine va_get (D := D) (ci := nMod) (v := .ref (ad 25)) (C := R_Mod) (T := T_Mod) (N := 15) hx hb hts i_Mod hown hK hP 17 rfl rfl 8 (by decide) (hts _ tw_663) (fun _ h9 => h9) rfl d_Mod_hang_67 ?_
              refine lv_iconst (v := (nI 4)) hx hb d_Mod_hang_70 (by decide) ?_
              refine lv_iload_n hx hb d_Mod_hang_71 rfl (lv_at hl 1 rfl) ?_
              refine k_mulC hx hb d_Mod_hang_72 ?_
              refine lv_iload_n hx hb d_Mod_hang_73 rfl (lv_at hl 2 rfl) ?_
              refine k_addN hx hb d_Mod_hang_74 ?_
              refine k_aldP (q0 := 25) (t0 := 0) hx hb hK hP rfl rfl (by omega) (by decide) d_Mod_hang_75 ?_
              have ho40 := o2 ((j2 * 4) + j13) (by omega)
              refine k_ltP0 (tgt := 85) (ok1.b2 _ (by omega)) hx hb d_Mod_hang_76 (by decide) (fun h41 => ?_) (fun h41 => ?_)
              · refine lv_aload_n hx hb d_Mod_hang_85 rfl (lv_at hl 0 rfl) ?_
                refine lv_iload_n hx hb d_Mod_hang_86 rfl (lv_at hl 3 rfl) ?_
                refine lv_iload hx hb d_Mod_hang_87 (lv_at hl 5 rfl) ?_
                refine lv_aload_n hx hb d_Mod_hang_89 rfl (lv_at hl 0 rfl) ?_
                refine va_get (D := D) (ci := nMod) (v := .ref (ad 24)) (C := R_Mod) (T := T_Mod) (N := 15) hx hb hts i_Mod hown hK hP 17 rfl rfl 7 (by decide) (hts _ tw_662) (fun _ h9 => h9) rfl d_Mod_hang_90 ?_
                refine lv_iload_n hx hb d_Mod_hang_93 rfl (lv_at hl 1 rfl) ?_
                refine k_aldN (q0 := 24) (t0 := 0) hx hb hK hP rfl rfl (by omega) (by decide) d_Mod_hang_94 ?_
                have ho42 := o1 j2 (by omega)
                refine k_callW (k_atV (As := [.int (nI j19), .int (nI 2), .int (nI (σ.1 1 j2))]) hx hb hown hE.1 (K0.w tw_725) (hts _ tw_722) (hts _ tw_724) (hts _ tw_9021) (hts _ tw_5) (by decide) np_Mod_become (va_recv hK hP (ci := nMod) (q0 := 17) rfl rfl) rfl d_Mod_hang_95) (c_Mod_become K0 ad κ o σ j19 2 (σ.1 1 j2) (by omega)) (hl.1.trans hml.symm) (Nat.le_of_ble_eq_true rfl) ⟨Nat.le_of_ble_eq_true rfl, Nat.le_of_ble_eq_true rfl, Nat.le_of_ble_eq_true rfl, Nat.le_of_ble_eq_true rfl⟩ (fun U hU hW => ⟨hE.go hW hU hS, by rw [hU]; exact hP, hD⟩) hS (fun H locs hP hD hS => ?_)
                obtain ⟨σ43, eσ43⟩ : ∃ z : kS, z = (m_become σ j19 2 (σ.1 1 j2)) := ⟨_, rfl⟩
                have hP : va_P D vwCl (wX ad cI κ o σ43) H := by rw [eσ43]; exact hP
                have hD : va_D (kA s0) (wX ad cI κ o σ43) := by rw [eσ43]; exact hD
                refine lv_aload_n hx hb d_Mod_hang_98 rfl (lv_at hl 0 rfl) ?_
                refine va_get (D := D) (ci := nMod) (v := .ref (ad 25)) (C := R_Mod) (T := T_Mod) (N := 15) hx hb hts i_Mod hown hK hP 17 rfl rfl 8 (by decide) (hts _ tw_663) (fun _ h9 => h9) rfl d_Mod_hang_99 ?_
                refine lv_iconst (v := (nI 4)) hx hb d_Mod_hang_102 (by decide) ?_
                refine lv_iload_n hx hb d_Mod_hang_103 rfl (lv_at hl 1 rfl) ?_
                refine k_mulC hx hb d_Mod_hang_104 ?_
                refine lv_iload_n hx hb d_Mod_hang_105 rfl (lv_at hl 2 rfl) ?_
                refine k_addN hx hb d_Mod_hang_106 ?_
                refine lv_iload_n hx hb d_Mod_hang_107 rfl (lv_at hl 3 rfl) ?_
                refine k_st (st' := [.int (pI (j19 + 1)), .int (nI ((j2 * 4) + j13)), .ref (ad 25)]) (by show ([.int (nI j19), .int (nI ((j2 * 4) + j13)), .ref (ad 25)] : List Value) = _; rw [pI_succ]) ?_
                refine k_astP (q0 := 25) (t0 := 0) hx hb hK hP hD hS rfl rfl (by omega) (by decide) d_Mod_hang_108 (fun H locs hP hD hS => ?_)
                obtain ⟨σ44, eσ44⟩ : ∃ z : kS, z = (st σ43 2 ((j2 * 4) + j13) (j19 + 1)) := ⟨_, rfl⟩
                have hP : va_P D vwCl (wX ad cI κ o σ44) H := by rw [eσ44]; exact hP
                have hD : va_D (kA s0) (wX ad cI κ o σ44) := by rw [eσ44]; exact hD
                refine lv_aload_n hx hb d_Mod_hang_109 rfl (lv_at hl 0 rfl) ?_
                refine va_get (D := D) (ci := nMod) (v := .ref (ad 26)) (C := R_Mod) (T := T_Mod) (N := 15) hx hb hts i_Mod hown hK hP 17 rfl rfl 9 (by decide) (hts _ tw_664) (fun _ h9 => h9) rfl d_Mod_hang_110 ?_
                refine lv_iconst (v := (nI 4)) hx hb d_Mod_hang_113 (by decide) ?_
                refine lv_iload_n hx hb d_Mod_hang_114 rfl (lv_at hl 1 rfl) ?_
                refine k_mulC hx hb d_Mod_hang_115 ?_
                refine lv_iload_n hx hb d_Mod_hang_116 rfl (lv_at hl 2 rfl) ?_
                refine k_addN hx hb d_Mod_hang_117 ?_
                refine lv_iload hx hb d_Mod_hang_118 (lv_at hl 4 rfl) ?_
                refine k_astN (q0 := 26) (t0 := 0) hx hb hK hP hD hS rfl rfl (by omega) (by decide) d_Mod_hang_120 (fun H locs hP hD hS => ?_)
                obtain ⟨σ45, eσ45⟩ : ∃ z : kS, z = (st σ44 3 ((j2 * 4) + j13) j30) := ⟨_, rfl⟩
                have hP : va_P D vwCl (wX ad cI κ o σ45) H := by rw [eσ45]; exact hP
                have hD : va_D (kA s0) (wX ad cI κ o σ45) := by rw [eσ45]; exact hD
                refine lv_iconst (v := (nI 1)) hx hb d_Mod_hang_121 (by decide) ?_
                exact k_retWI hx hb hr hlocks d_Mod_hang_122 hP hD hS (by subst eσ45 eσ44 eσ43; first | rfl | (simp [rs_hang, inn, rqn, fin, rOkV, hq1, hq12, hq18, hq29, hq35, h38, h41]; done) | (simp [rs_hang, inn, rqn, fin, rOkV, hq1, hq12, hq18, hq29, hq35, h38, h41]; rfl) | (simp [rs_hang, inn, rqn, fin, rOkV, hq1, hq12, hq18, hq29, hq35, beq_iff_eq.mpr h38, beq_iff_eq.mpr h41, kbne h38, kbne h41]; done) | (simp [rs_hang, inn, rqn, fin, rOkV, hq1, hq12, hq18, hq29, hq35, beq_iff_eq.mpr h38, beq_iff_eq.mpr h41, kbne h38, kbne h41]; rfl) | (simp only [rs_hang, inn, rqn, fin, rOkV, hq1, hq12, hq18, hq29, hq35, h38, h41]; rfl))
              · refine lv_aload_n hx hb d_Mod_hang_79 rfl (lv_at hl 0 rfl) ?_
                refine lv_iconst (v := (nI 3)) hx hb d_Mod_hang_80 (by decide) ?_
                refine k_callW (k_atV (As := [.int (nI 3)]) hx hb hown hE.1 (K0.w tw_721) (hts _ tw_718) (hts _ tw_720) (hts _ tw_9020) (hts _ tw_5) (by decide) np_Mod_raise (va_recv hK hP (ci := nMod) (q0 := 17) rfl rfl) rfl d_Mod_hang_81) (c_Mod_raise K0 ad κ o σ (nI 3)) (hl.1.trans hml.symm) (Nat.le_of_ble_eq_true rfl) ⟨Nat.le_of_ble_eq_true rfl, Nat.le_of_ble_eq_true rfl, Nat.le_of_ble_eq_true rfl, Nat.le_of_ble_eq_true rfl⟩ (fun U hU hW => ⟨hE.go hW hU hS, by rw [hU]; exact hP, hD⟩) hS (fun H locs hP hD hS => ?_)
                obtain ⟨σ46, eσ46⟩ : ∃ z : kS, z = (sw σ 2 0 (nI 3)) := ⟨_, rfl⟩
                have hP : va_P D vwCl (wX ad cI κ o σ46) H := by rw [eσ46]; exact hP
                have hD : va_D (kA s0) (wX ad cI κ o σ46) := by rw [eσ46]; exact hD
                have hwσ46 : σ46.1 = σ.1 := by rw [eσ46]; exact rfl
                exact k_retWI hx hb hr hlocks d_Mod_hang_84 hP hD hS (by subst eσ46; first | rfl | (simp [rs_hang, inn, rqn, fin, rOkV, hq1, hq12, hq18, hq29, hq35, h38, h41, beq_false_of_ne h41, bne_iff_ne.mpr h41]; done) | (simp [rs_hang, inn, rqn, fin, rOkV, hq1, hq12, hq18, hq29, hq35, h38, h41, beq_false_of_ne h41, bne_iff_ne.mpr h41]; rfl) | (simp [rs_hang, inn, rqn, fin, rOkV, hq1, hq12, hq18, hq29, hq35, h41, beq_iff_eq.mpr h38, kbne h38, beq_false_of_ne h41, bne_iff_ne.mpr h41]; done) | (simp [rs_hang, inn, rqn, fin, rOkV, hq1, hq12, hq18, hq29, hq35, h41, beq_iff_eq.mpr h38, kbne h38, beq_false_of_ne h41, bne_iff_ne.mpr h41]; rfl) | (simp only [rs_hang, inn, rqn, fin, rOkV, hq1, hq12, hq18, hq29, hq35, h38, h41, beq_false_of_ne h41, bne_iff_ne.mpr h41]; rfl))
set_option maxHeartbeats 4000000 in
set_option maxRecDepth 100000 in
theorem c_Mod_hang3 {l : Launch} {s0 : State} {a0 : Array Value} {D : va_G} {cI cL : ClassId} (K0 : k0 l s0 a0 D cI cL) (ad : Nat → Nat) (κ : kS) (o : va_W) (σ : kS) (x : Int32) (y : Int32) (z : Int32) (w : Int32) (ok : kOr σ) : kMet l y_Mod_hang (Cond.code y_Mod_hang b_Mod_hang 6 (some .int)) (rmL 2) [.ref (ad 17), .int x, .int y, .int z, .int w, .int (nI 3)] (kPre D vwCl s0 (wX ad cI κ o) σ) (.ok (fin σ (rs_hang 3 σ x y z w))) (kBw D vwCl s0 (wX ad cI κ o)) := by
  refine k_of (by decide) (Nat.le_of_ble_eq_true rfl) ?_
  intro p e9 s m below meth c hx hb hr hlocks hown hml hex hpre ls hl
  obtain ⟨hE, hP, hD⟩ := hpre
  obtain ⟨hts, hK⟩ := K0.at (args := ([.ref (ad 17), .int x, .int y, .int z, .int w, .int (nI 3)] : List Value).toArray) hE
  have hl : lv_has ls 6 [(0, .ref (ad 17)), (1, .int x), (2, .int y), (3, .int z), (4, .int w), (5, .int (nI 3))] := hl
  have hS : va_S (kA s0) s.heap s.heap [] := va_S.rf
  have ok1 := ok
  obtain ⟨o1, o2, o3, o4, o5, o6, o7, o8, o10, o0, ⟨oc1, oc2⟩, oc3, or6⟩ := id ok1
  have hr0 : σ.1 6 (σ.1 11 0) ≠ 0 := or6 _ oc2 (by omega)
  have hr1 : σ.1 6 (σ.1 11 0) < 21 := o6 _ oc2
  refine lv_iload_n hx hb d_Mod_hang_0 rfl (lv_at hl 1 rfl) ?_
  rcases hq1 : rg x 0 19 with _ | j2
  · refine k_callR (k_atS (As := [.int x]) hx hb hown hE.1 (K0.w tw_717) rfl k_w9 (hts _ tw_715) (hts _ tw_716) (hts _ tw_5) (by decide) np_Mod_isPage rfl d_Mod_hang_1) (kz_n hq1 (c_Mod_isPage K0 ad κ o σ x)) (hl.1.trans hml.symm) (Nat.le_of_ble_eq_true rfl) ⟨Nat.le_of_ble_eq_true rfl, Nat.le_of_ble_eq_true rfl, Nat.le_of_ble_eq_true rfl, Nat.le_of_ble_eq_true rfl⟩ (fun U hU hW => ⟨hE.go hW hU hS, by rw [hU]; exact hP, hD⟩) ?_
    refine k_if0 (tgt := 33) (by decide) hx hb d_Mod_hang_4 (by decide) (fun _ => ?_) (fun h9 => absurd h9 (by decide))
    refine lv_aload_n hx hb d_Mod_hang_33 rfl (lv_at hl 0 rfl) ?_
    refine lv_iconst (v := (nI 1)) hx hb d_Mod_hang_34 (by decide) ?_
    refine k_callW (k_atV (As := [.int (nI 1)]) hx hb hown hE.1 (K0.w tw_721) (hts _ tw_718) (hts _ tw_720) (hts _ tw_9020) (hts _ tw_5) (by decide) np_Mod_raise (va_recv hK hP (ci := nMod) (q0 := 17) rfl rfl) rfl d_Mod_hang_35) (c_Mod_raise K0 ad κ o σ (nI 1)) (hl.1.trans hml.symm) (Nat.le_of_ble_eq_true rfl) ⟨Nat.le_of_ble_eq_true rfl, Nat.le_of_ble_eq_true rfl, Nat.le_of_ble_eq_true rfl, Nat.le_of_ble_eq_true rfl⟩ (fun U hU hW => ⟨hE.go hW hU hS, by rw [hU]; exact hP, hD⟩) hS (fun H locs hP hD hS => ?_)
    obtain ⟨σ6, eσ6⟩ : ∃ z : kS, z = (sw σ 2 0 (nI 1)) := ⟨_, rfl⟩
    have hP : va_P D vwCl (wX ad cI κ o σ6) H := by rw [eσ6]; exact hP
    have hD : va_D (kA s0) (wX ad cI κ o σ6) := by rw [eσ6]; exact hD
    have hwσ6 : σ6.1 = σ.1 := by rw [eσ6]; exact rfl
    exact k_retWI hx hb hr hlocks d_Mod_hang_38 hP hD hS (by subst eσ6; first | rfl | (simp [rs_hang, inn, rqn, fin, rOkV, hq1]; done) | (simp [rs_hang, inn, rqn, fin, rOkV, hq1]; rfl) | (simp [rs_hang, inn, rqn, fin, rOkV, hq1]; done) | (simp [rs_hang, inn, rqn, fin, rOkV, hq1]; rfl) | (simp only [rs_hang, inn, rqn, fin, rOkV, hq1]; rfl))
  · refine k_callR (k_atS (As := [.int x]) hx hb hown hE.1 (K0.w tw_717) rfl k_w9 (hts _ tw_715) (hts _ tw_716) (hts _ tw_5) (by decide) np_Mod_isPage rfl d_Mod_hang_1) (kz_s hq1 (c_Mod_isPage K0 ad κ o σ x)) (hl.1.trans hml.symm) (Nat.le_of_ble_eq_true rfl) ⟨Nat.le_of_ble_eq_true rfl, Nat.le_of_ble_eq_true rfl, Nat.le_of_ble_eq_true rfl, Nat.le_of_ble_eq_true rfl⟩ (fun U hU hW => ⟨hE.go hW hU hS, by rw [hU]; exact hP, hD⟩) ?_
    obtain ⟨rfl, ha3, hb_4, hc_5⟩ := rg_some hq1
    refine k_if0 (tgt := 33) (by decide) hx hb d_Mod_hang_4 (by decide) (fun h9 => absurd h9 (by decide)) (fun _ => ?_)
    refine lv_iload_n hx hb d_Mod_hang_7 rfl (lv_at hl 2 rfl) ?_
    refine lv_iconst (v := (nI 0)) hx hb d_Mod_hang_8 (by decide) ?_
    refine lv_iconst (v := (nI 3)) hx hb d_Mod_hang_9 (by decide) ?_
    rcases hq12 : rg y 0 3 with _ | j13
    · refine k_callR (k_atS (As := [.int y, .int (nI 0), .int (nI 3)]) hx hb hown hE.1 (K0.w tw_714) rfl k_w9 (hts _ tw_712) (hts _ tw_713) (hts _ tw_5) (by decide) np_Mod_in rfl d_Mod_hang_10) (kz_n hq12 (c_Mod_in K0 ad κ o σ y 0 3 (by decide) (by decide))) (hl.1.trans hml.symm) (Nat.le_of_ble_eq_true rfl) ⟨Nat.le_of_ble_eq_true rfl, Nat.le_of_ble_eq_true rfl, Nat.le_of_ble_eq_true rfl, Nat.le_of_ble_eq_true rfl⟩ (fun U hU hW => ⟨hE.go hW hU hS, by rw [hU]; exact hP, hD⟩) ?_
      refine k_if0 (tgt := 33) (by decide) hx hb d_Mod_hang_13 (by decide) (fun _ => ?_) (fun h9 => absurd h9 (by decide))
      refine lv_aload_n hx hb d_Mod_hang_33 rfl (lv_at hl 0 rfl) ?_
      refine lv_iconst (v := (nI 1)) hx hb d_Mod_hang_34 (by decide) ?_
      refine k_callW (k_atV (As := [.int (nI 1)]) hx hb hown hE.1 (K0.w tw_721) (hts _ tw_718) (hts _ tw_720) (hts _ tw_9020) (hts _ tw_5) (by decide) np_Mod_raise (va_recv hK hP (ci := nMod) (q0 := 17) rfl rfl) rfl d_Mod_hang_35) (c_Mod_raise K0 ad κ o σ (nI 1)) (hl.1.trans hml.symm) (Nat.le_of_ble_eq_true rfl) ⟨Nat.le_of_ble_eq_true rfl, Nat.le_of_ble_eq_true rfl, Nat.le_of_ble_eq_true rfl, Nat.le_of_ble_eq_true rfl⟩ (fun U hU hW => ⟨hE.go hW hU hS, by rw [hU]; exact hP, hD⟩) hS (fun H locs hP hD hS => ?_)
      obtain ⟨σ17, eσ17⟩ : ∃ z : kS, z = (sw σ 2 0 (nI 1)) := ⟨_, rfl⟩
      have hP : va_P D vwCl (wX ad cI κ o σ17) H := by rw [eσ17]; exact hP
      have hD : va_D (kA s0) (wX ad cI κ o σ17) := by rw [eσ17]; exact hD
      have hwσ17 : σ17.1 = σ.1 := by rw [eσ17]; exact rfl
      exact k_retWI hx hb hr hlocks d_Mod_hang_38 hP hD hS (by subst eσ17; first | rfl | (simp [rs_hang, inn, rqn, fin, rOkV, hq1, hq12]; done) | (simp [rs_hang, inn, rqn, fin, rOkV, hq1, hq12]; rfl) | (simp [rs_hang, inn, rqn, fin, rOkV, hq1, hq12]; done) | (simp [rs_hang, inn, rqn, fin, rOkV, hq1, hq12]; rfl) | (simp only [rs_hang, inn, rqn, fin, rOkV, hq1, hq12]; rfl))
    · refine k_callR (k_atS (As := [.int y, .int (nI 0), .int (nI 3)]) hx hb hown hE.1 (K0.w tw_714) rfl k_w9 (hts _ tw_712) (hts _ tw_713) (hts _ tw_5) (by decide) np_Mod_in rfl d_Mod_hang_10) (kz_s hq12 (c_Mod_in K0 ad κ o σ y 0 3 (by decide) (by decide))) (hl.1.trans hml.symm) (Nat.le_of_ble_eq_true rfl) ⟨Nat.le_of_ble_eq_true rfl, Nat.le_of_ble_eq_true rfl, Nat.le_of_ble_eq_true rfl, Nat.le_of_ble_eq_true rfl⟩ (fun U hU hW => ⟨hE.go hW hU hS, by rw [hU]; exact hP, hD⟩) ?_
      obtain ⟨rfl, ha14, hb_15, hc_16⟩ := rg_some hq12
      refine k_if0 (tgt := 33) (by decide) hx hb d_Mod_hang_13 (by decide) (fun h9 => absurd h9 (by decide)) (fun _ => ?_)
      refine lv_iload_n hx hb d_Mod_hang_16 rfl (lv_at hl 3 rfl) ?_
      rcases hq18 : rg z 0 19 with _ | j19
      · refine k_callR (k_atS (As := [.int z]) hx hb hown hE.1 (K0.w tw_717) rfl k_w9 (hts _ tw_715) (hts _ tw_716) (hts _ tw_5) (by decide) np_Mod_isPage rfl d_Mod_hang_17) (kz_n hq18 (c_Mod_isPage K0 ad κ o σ z)) (hl.1.trans hml.symm) (Nat.le_of_ble_eq_true rfl) ⟨Nat.le_of_ble_eq_true rfl, Nat.le_of_ble_eq_true rfl, Nat.le_of_ble_eq_true rfl, Nat.le_of_ble_eq_true rfl⟩ (fun U hU hW => ⟨hE.go hW hU hS, by rw [hU]; exact hP, hD⟩) ?_
        refine k_if0 (tgt := 33) (by decide) hx hb d_Mod_hang_20 (by decide) (fun _ => ?_) (fun h9 => absurd h9 (by decide))
        refine lv_aload_n hx hb d_Mod_hang_33 rfl (lv_at hl 0 rfl) ?_
        refine lv_iconst (v := (nI 1)) hx hb d_Mod_hang_34 (by decide) ?_
        refine k_callW (k_atV (As := [.int (nI 1)]) hx hb hown hE.1 (K0.w tw_721) (hts _ tw_718) (hts _ tw_720) (hts _ tw_9020) (hts _ tw_5) (by decide) np_Mod_raise (va_recv hK hP (ci := nMod) (q0 := 17) rfl rfl) rfl d_Mod_hang_35) (c_Mod_raise K0 ad κ o σ (nI 1)) (hl.1.trans hml.symm) (Nat.le_of_ble_eq_true rfl) ⟨Nat.le_of_ble_eq_true rfl, Nat.le_of_ble_eq_true rfl, Nat.le_of_ble_eq_true rfl, Nat.le_of_ble_eq_true rfl⟩ (fun U hU hW => ⟨hE.go hW hU hS, by rw [hU]; exact hP, hD⟩) hS (fun H locs hP hD hS => ?_)
        obtain ⟨σ23, eσ23⟩ : ∃ z : kS, z = (sw σ 2 0 (nI 1)) := ⟨_, rfl⟩
        have hP : va_P D vwCl (wX ad cI κ o σ23) H := by rw [eσ23]; exact hP
        have hD : va_D (kA s0) (wX ad cI κ o σ23) := by rw [eσ23]; exact hD
        have hwσ23 : σ23.1 = σ.1 := by rw [eσ23]; exact rfl
        exact k_retWI hx hb hr hlocks d_Mod_hang_38 hP hD hS (by subst eσ23; first | rfl | (simp [rs_hang, inn, rqn, fin, rOkV, hq1, hq12, hq18]; done) | (simp [rs_hang, inn, rqn, fin, rOkV, hq1, hq12, hq18]; rfl) | (simp [rs_hang, inn, rqn, fin, rOkV, hq1, hq12, hq18]; done) | (simp [rs_hang, inn, rqn, fin, rOkV, hq1, hq12, hq18]; rfl) | (simp only [rs_hang, inn, rqn, fin, rOkV, hq1, hq12, hq18]; rfl))
      · refine k_callR (k_atS (As := [.int z]) hx hb hown hE.1 (K0.w tw_717) rfl k_w9 (hts _ tw_715) (hts _ tw_716) (hts _ tw_5) (by decide) np_Mod_isPage rfl d_Mod_hang_17) (kz_s hq18 (c_Mod_isPage K0 ad κ o σ z)) (hl.1.trans hml.symm) (Nat.le_of_ble_eq_true rfl) ⟨Nat.le_of_ble_eq_true rfl, Nat.le_of_ble_eq_true rfl, Nat.le_of_ble_eq_true rfl, Nat.le_of_ble_eq_true rfl⟩ (fun U hU hW => ⟨hE.go hW hU hS, by rw [hU]; exact hP, hD⟩) ?_
        obtain ⟨rfl, ha20, hb_21, hc_22⟩ := rg_some hq18
        refine k_if0 (tgt := 33) (by decide) hx hb d_Mod_hang_20 (by decide) (fun h9 => absurd h9 (by decide)) (fun _ => ?_)
        refine lv_iload hx hb d_Mod_hang_23 (lv_at hl 4 rfl) ?_
        refine lv_iconst (v := (nI 1)) hx hb d_Mod_hang_25 (by decide) ?_
        refine lv_iconst (v := (nI 3)) hx hb d_Mod_hang_26 (by decide) ?_
        rcases hq29 : rg w 1 3 with _ | j30
        · refine k_callR (k_atS (As := [.int w, .int (nI 1), .int (nI 3)]) hx hb hown hE.1 (K0.w tw_714) rfl k_w9 (hts _ tw_712) (hts _ tw_713) (hts _ tw_5) (by decide) np_Mod_in rfl d_Mod_hang_27) (kz_n hq29 (c_Mod_in K0 ad κ o σ w 1 3 (by decide) (by decide))) (hl.1.trans hml.symm) (Nat.le_of_ble_eq_true rfl) ⟨Nat.le_of_ble_eq_true rfl, Nat.le_of_ble_eq_true rfl, Nat.le_of_ble_eq_true rfl, Nat.le_of_ble_eq_true rfl⟩ (fun U hU hW => ⟨hE.go hW hU hS, by rw [hU]; exact hP, hD⟩) ?_
          refine k_ifN0 (tgt := 39) (by decide) hx hb d_Mod_hang_30 (by decide) (fun h9 => absurd h9 (by decide)) (fun _ => ?_)
          refine lv_aload_n hx hb d_Mod_hang_33 rfl (lv_at hl 0 rfl) ?_
          refine lv_iconst (v := (nI 1)) hx hb d_Mod_hang_34 (by decide) ?_
          refine k_callW (k_atV (As := [.int (nI 1)]) hx hb hown hE.1 (K0.w tw_721) (hts _ tw_718) (hts _ tw_720) (hts _ tw_9020) (hts _ tw_5) (by decide) np_Mod_raise (va_recv hK hP (ci := nMod) (q0 := 17) rfl rfl) rfl d_Mod_hang_35) (c_Mod_raise K0 ad κ o σ (nI 1)) (hl.1.trans hml.symm) (Nat.le_of_ble_eq_true rfl) ⟨Nat.le_of_ble_eq_true rfl, Nat.le_of_ble_eq_true rfl, Nat.le_of_ble_eq_true rfl, Nat.le_of_ble_eq_true rfl⟩ (fun U hU hW => ⟨hE.go hW hU hS, by rw [hU]; exact hP, hD⟩) hS (fun H locs hP hD hS => ?_)
          obtain ⟨σ34, eσ34⟩ : ∃ z : kS, z = (sw σ 2 0 (nI 1)) := ⟨_, rfl⟩
          have hP : va_P D vwCl (wX ad cI κ o σ34) H := by rw [eσ34]; exact hP
          have hD : va_D (kA s0) (wX ad cI κ o σ34) := by rw [eσ34]; exact hD
          have hwσ34 : σ34.1 = σ.1 := by rw [eσ34]; exact rfl
          exact k_retWI hx hb hr hlocks d_Mod_hang_38 hP hD hS (by subst eσ34; first | rfl | (simp [rs_hang, inn, rqn, fin, rOkV, hq1, hq12, hq18, hq29]; done) | (simp [rs_hang, inn, rqn, fin, rOkV, hq1, hq12, hq18, hq29]; rfl) | (simp [rs_hang, inn, rqn, fin, rOkV, hq1, hq12, hq18, hq29]; done) | (simp [rs_hang, inn, rqn, fin, rOkV, hq1, hq12, hq18, hq29]; rfl) | (simp only [rs_hang, inn, rqn, fin, rOkV, hq1, hq12, hq18, hq29]; rfl))
        · refine k_callR (k_atS (As := [.int w, .int (nI 1), .int (nI 3)]) hx hb hown hE.1 (K0.w tw_714) rfl k_w9 (hts _ tw_712) (hts _ tw_713) (hts _ tw_5) (by decide) np_Mod_in rfl d_Mod_hang_27) (kz_s hq29 (c_Mod_in K0 ad κ o σ w 1 3 (by decide) (by decide))) (hl.1.trans hml.symm) (Nat.le_of_ble_eq_true rfl) ⟨Nat.le_of_ble_eq_true rfl, Nat.le_of_ble_eq_true rfl, Nat.le_of_ble_eq_true rfl, Nat.le_of_ble_eq_true rfl⟩ (fun U hU hW => ⟨hE.go hW hU hS, by rw [hU]; exact hP, hD⟩) ?_
          obtain ⟨rfl, ha31, hb_32, hc_33⟩ := rg_some hq29
          refine k_ifN0 (tgt := 39) (by decide) hx hb d_Mod_hang_30 (by decide) (fun _ => ?_) (fun h9 => absurd h9 (by decide))
          refine lv_aload_n hx hb d_Mod_hang_39 rfl (lv_at hl 0 rfl) ?_
          refine lv_iload_n hx hb d_Mod_hang_40 rfl (lv_at hl 1 rfl) ?_
          refine lv_iload hx hb d_Mod_hang_41 (lv_at hl 5 rfl) ?_
          refine lv_iconst (v := (nI 1)) hx hb d_Mod_hang_43 (by decide) ?_
          refine k_subN (by omega) hx hb d_Mod_hang_44 ?_
          refine k_st (st' := [.int (nI 2), .int (nI j2), .ref (ad 17)]) (by show ([.int (nI (3 - 1)), .int (nI j2), .ref (ad 17)] : List Value) = _; rfl) ?_
          rcases hq35 : rpage σ j2 2 with _ | _
          · refine k_callR (k_atV (As := [.int (nI j2), .int (nI 2)]) hx hb hown hE.1 (K0.w tw_737) (hts _ tw_734) (hts _ tw_736) (hts _ tw_9023) (hts _ tw_5) (by decide) np_Mod_minePage (va_recv hK hP (ci := nMod) (q0 := 17) rfl rfl) rfl d_Mod_hang_45) (kb_f hq35 (c_Mod_minePage K0 ad κ o σ j2 2 (by omega) (by omega) ok1.b0 (ok1.1 j2 (by omega)) ok1.b4 ok1.b5 (by omega))) (hl.1.trans hml.symm) (Nat.le_of_ble_eq_true rfl) ⟨Nat.le_of_ble_eq_true rfl, Nat.le_of_ble_eq_true rfl, Nat.le_of_ble_eq_true rfl, Nat.le_of_ble_eq_true rfl⟩ (fun U hU hW => ⟨hE.go hW hU hS, by rw [hU]; exact hP, hD⟩) ?_
            refine k_ifN0 (tgt := 57) (by decide) hx hb d_Mod_hang_48 (by decide) (fun h9 => absurd h9 (by decide)) (fun _ => ?_)
            refine lv_aload_n hx hb d_Mod_hang_51 rfl (lv_at hl 0 rfl) ?_
            refine lv_iconst (v := (nI 2)) hx hb d_Mod_hang_52 (by decide) ?_
            refine k_callW (k_atV (As := [.int (nI 2)]) hx hb hown hE.1 (K0.w tw_721) (hts _ tw_718) (hts _ tw_720) (hts _ tw_9020) (hts _ tw_5) (by decide) np_Mod_raise (va_recv hK hP (ci := nMod) (q0 := 17) rfl rfl) rfl d_Mod_hang_53) (c_Mod_raise K0 ad κ o σ (nI 2)) (hl.1.trans hml.symm) (Nat.le_of_ble_eq_true rfl) ⟨Nat.le_of_ble_eq_true rfl, Nat.le_of_ble_eq_true rfl, Nat.le_of_ble_eq_true rfl, Nat.le_of_ble_eq_true rfl⟩ (fun U hU hW => ⟨hE.go hW hU hS, by rw [hU]; exact hP, hD⟩) hS (fun H locs hP hD hS => ?_)
            obtain ⟨σ36, eσ36⟩ : ∃ z : kS, z = (sw σ 2 0 (nI 2)) := ⟨_, rfl⟩
            have hP : va_P D vwCl (wX ad cI κ o σ36) H := by rw [eσ36]; exact hP
            have hD : va_D (kA s0) (wX ad cI κ o σ36) := by rw [eσ36]; exact hD
            have hwσ36 : σ36.1 = σ.1 := by rw [eσ36]; exact rfl
            exact k_retWI hx hb hr hlocks d_Mod_hang_56 hP hD hS (by subst eσ36; first | rfl | (simp [rs_hang, inn, rqn, fin, rOkV, hq1, hq12, hq18, hq29, hq35]; done) | (simp [rs_hang, inn, rqn, fin, rOkV, hq1, hq12, hq18, hq29, hq35]; rfl) | (simp [rs_hang, inn, rqn, fin, rOkV, hq1, hq12, hq18, hq29, hq35]; done) | (simp [rs_hang, inn, rqn, fin, rOkV, hq1, hq12, hq18, hq29, hq35]; rfl) | (simp only [rs_hang, inn, rqn, fin, rOkV, hq1, hq12, hq18, hq29, hq35]; rfl))
          · refine k_callR (k_atV (As := [.int (nI j2), .int (nI 2)]) hx hb hown hE.1 (K0.w tw_737) (hts _ tw_734) (hts _ tw_736) (hts _ tw_9023) (hts _ tw_5) (by decide) np_Mod_minePage (va_recv hK hP (ci := nMod) (q0 := 17) rfl rfl) rfl d_Mod_hang_45) (kb_t hq35 (c_Mod_minePage K0 ad κ o σ j2 2 (by omega) (by omega) ok1.b0 (ok1.1 j2 (by omega)) ok1.b4 ok1.b5 (by omega))) (hl.1.trans hml.symm) (Nat.le_of_ble_eq_true rfl) ⟨Nat.le_of_ble_eq_true rfl, Nat.le_of_ble_eq_true rfl, Nat.le_of_ble_eq_true rfl, Nat.le_of_ble_eq_true rfl⟩ (fun U hU hW => ⟨hE.go hW hU hS, by rw [hU]; exact hP, hD⟩) ?_
            refine k_ifN0 (tgt := 57) (by decide) hx hb d_Mod_hang_48 (by decide) (fun _ => ?_) (fun h9 => absurd h9 (by decide))
            refine lv_aload_n hx hb d_Mod_hang_57 rfl (lv_at hl 0 rfl) ?_
            refine va_get (D := D) (ci := nMod) (v := .ref (ad 23)) (C := R_Mod) (T := T_Mod) (N := 15) hx hb hts i_Mod hown hK hP 17 rfl rfl 6 (by decide) (hts _ tw_661) (fun _ h9 => h9) rfl d_Mod_hang_58 ?_
            refine lv_iload_n hx hb d_Mod_hang_61 rfl (lv_at hl 3 rfl) ?_
            refine k_aldN (q0 := 23) (t0 := 0) hx hb hK hP rfl rfl (by omega) (by decide) d_Mod_hang_62 ?_
            have ho37 := o0 j19 (by omega)
            refine k_ifN0 (tgt := 79) (Nat.lt_of_lt_of_le (ok1.b0 _ (by omega)) (by decide)) hx hb d_Mod_hang_63 (by decide) (fun h38 => ?_) (fun h38 => ?_)
            · refine lv_aload_n hx hb d_Mod_hang_79 rfl (lv_at hl 0 rfl) ?_
              refine lv_iconst (v := (nI 3)) hx hb d_Mod_hang_80 (by decide) ?_
              refine k_callW (k_atV (As := [.int (nI 3)]) hx hb hown hE.1 (K0.w tw_721) (hts _ tw_718) (hts _ tw_720) (hts _ tw_9020) (hts _ tw_5) (by decide) np_Mod_raise (va_recv hK hP (ci := nMod) (q0 := 17) rfl rfl) rfl d_Mod_hang_81) (c_Mod_raise K0 ad κ o σ (nI 3)) (hl.1.trans hml.symm) (Nat.le_of_ble_eq_true rfl) ⟨Nat.le_of_ble_eq_true rfl, Nat.le_of_ble_eq_true rfl, Nat.le_of_ble_eq_true rfl, Nat.le_of_ble_eq_true rfl⟩ (fun U hU hW => ⟨hE.go hW hU hS, by rw [hU]; exact hP, hD⟩) hS (fun H locs hP hD hS => ?_)
              obtain ⟨σ39, eσ39⟩ : ∃ z : kS, z = (sw σ 2 0 (nI 3)) := ⟨_, rfl⟩
              have hP : va_P D vwCl (wX ad cI κ o σ39) H := by rw [eσ39]; exact hP
              have hD : va_D (kA s0) (wX ad cI κ o σ39) := by rw [eσ39]; exact hD
              have hwσ39 : σ39.1 = σ.1 := by rw [eσ39]; exact rfl
              exact k_retWI hx hb hr hlocks d_Mod_hang_84 hP hD hS (by subst eσ39; first | rfl | (simp [rs_hang, inn, rqn, fin, rOkV, hq1, hq12, hq18, hq29, hq35, h38, beq_false_of_ne h38, bne_iff_ne.mpr h38]; done) | (simp [rs_hang, inn, rqn, fin, rOkV, hq1, hq12, hq18, hq29, hq35, h38, beq_false_of_ne h38, bne_iff_ne.mpr h38]; rfl) | (simp [rs_hang, inn, rqn, fin, rOkV, hq1, hq12, hq18, hq29, hq35, h38, beq_false_of_ne h38, bne_iff_ne.mpr h38]; done) | (simp [rs_hang, inn, rqn, fin, rOkV, hq1, hq12, hq18, hq29, hq35, h38, beq_false_of_ne h38, bne_iff_ne.mpr h38]; rfl) | (simp only [rs_hang, inn, rqn, fin, rOkV, hq1, hq12, hq18, hq29, hq35, h38, beq_false_of_ne h38, bne_iff_ne.mpr h38]; rfl))
            · refine lv_aload_n hx hb d_Mod_hang_66 rfl (lv_at hl 0 rfl) ?_
              refine va_get (D := D) (ci := nMod) (v := .ref (ad 25)) (C := R_Mod) (T := T_Mod) (N := 15) hx hb hts i_Mod hown hK hP 17 rfl rfl 8 (by decide) (hts _ tw_663) (fun _ h9 => h9) rfl d_Mod_hang_67 ?_
              refine lv_iconst (v := (nI 4)) hx hb d_Mod_hang_70 (by decide) ?_
              refine lv_iload_n hx hb d_Mod_hang_71 rfl (lv_at hl 1 rfl) ?_
              refine k_mulC hx hb d_Mod_hang_72 ?_
              refine lv_iload_n hx hb d_Mod_hang_73 rfl (lv_at hl 2 rfl) ?_
              refine k_addN hx hb d_Mod_hang_74 ?_
              refine k_aldP (q0 := 25) (t0 := 0) hx hb hK hP rfl rfl (by omega) (by decide) d_Mod_hang_75 ?_
              have ho40 := o2 ((j2 * 4) + j13) (by omega)
              refine k_ltP0 (tgt := 85) (ok1.b2 _ (by omega)) hx hb d_Mod_hang_76 (by decide) (fun h41 => ?_) (fun h41 => ?_)
              · refine lv_aload_n hx hb d_Mod_hang_85 rfl (lv_at hl 0 rfl) ?_
                refine lv_iload_n hx hb d_Mod_hang_86 rfl (lv_at hl 3 rfl) ?_
                refine lv_iload hx hb d_Mod_hang_87 (lv_at hl 5 rfl) ?_
                refine lv_aload_n hx hb d_Mod_hang_89 rfl (lv_at hl 0 rfl) ?_
                refine va_get (D := D) (ci := nMod) (v := .ref (ad 24)) (C := R_Mod) (T := T_Mod) (N := 15) hx hb hts i_Mod hown hK hP 17 rfl rfl 7 (by decide) (hts _ tw_662) (fun _ h9 => h9) rfl d_Mod_hang_90 ?_
                refine lv_iload_n hx hb d_Mod_hang_93 rfl (lv_at hl 1 rfl) ?_
                refine k_aldN (q0 := 24) (t0 := 0) hx hb hK hP rfl rfl (by omega) (by decide) d_Mod_hang_94 ?_
                have ho42 := o1 j2 (by omega)
                refine k_callW (k_atV (As := [.int (nI j19), .int (nI 3), .int (nI (σ.1 1 j2))]) hx hb hown hE.1 (K0.w tw_725) (hts _ tw_722) (hts _ tw_724) (hts _ tw_9021) (hts _ tw_5) (by decide) np_Mod_become (va_recv hK hP (ci := nMod) (q0 := 17) rfl rfl) rfl d_Mod_hang_95) (c_Mod_become K0 ad κ o σ j19 3 (σ.1 1 j2) (by omega)) (hl.1.trans hml.symm) (Nat.le_of_ble_eq_true rfl) ⟨Nat.le_of_ble_eq_true rfl, Nat.le_of_ble_eq_true rfl, Nat.le_of_ble_eq_true rfl, Nat.le_of_ble_eq_true rfl⟩ (fun U hU hW => ⟨hE.go hW hU hS, by rw [hU]; exact hP, hD⟩) hS (fun H locs hP hD hS => ?_)
                obtain ⟨σ43, eσ43⟩ : ∃ z : kS, z = (m_become σ j19 3 (σ.1 1 j2)) := ⟨_, rfl⟩
                have hP : va_P D vwCl (wX ad cI κ o σ43) H := by rw [eσ43]; exact hP
                have hD : va_D (kA s0) (wX ad cI κ o σ43) := by rw [eσ43]; exact hD
                refine lv_aload_n hx hb d_Mod_hang_98 rfl (lv_at hl 0 rfl) ?_
                refine va_get (D := D) (ci := nMod) (v := .ref (ad 25)) (C := R_Mod) (T := T_Mod) (N := 15) hx hb hts i_Mod hown hK hP 17 rfl rfl 8 (by decide) (hts _ tw_663) (fun _ h9 => h9) rfl d_Mod_hang_99 ?_
                refine lv_iconst (v := (nI 4)) hx hb d_Mod_hang_102 (by decide) ?_
                refine lv_iload_n hx hb d_Mod_hang_103 rfl (lv_at hl 1 rfl) ?_
                refine k_mulC hx hb d_Mod_hang_104 ?_
                refine lv_iload_n hx hb d_Mod_hang_105 rfl (lv_at hl 2 rfl) ?_
                refine k_addN hx hb d_Mod_hang_106 ?_
                refine lv_iload_n hx hb d_Mod_hang_107 rfl (lv_at hl 3 rfl) ?_
                refine k_st (st' := [.int (pI (j19 + 1)), .int (nI ((j2 * 4) + j13)), .ref (ad 25)]) (by show ([.int (nI j19), .int (nI ((j2 * 4) + j13)), .ref (ad 25)] : List Value) = _; rw [pI_succ]) ?_
                refine k_astP (q0 := 25) (t0 := 0) hx hb hK hP hD hS rfl rfl (by omega) (by decide) d_Mod_hang_108 (fun H locs hP hD hS => ?_)
                obtain ⟨σ44, eσ44⟩ : ∃ z : kS, z = (st σ43 2 ((j2 * 4) + j13) (j19 + 1)) := ⟨_, rfl⟩
                have hP : va_P D vwCl (wX ad cI κ o σ44) H := by rw [eσ44]; exact hP
                have hD : va_D (kA s0) (wX ad cI κ o σ44) := by rw [eσ44]; exact hD
                refine lv_aload_n hx hb d_Mod_hang_109 rfl (lv_at hl 0 rfl) ?_
                refine va_get (D := D) (ci := nMod) (v := .ref (ad 26)) (C := R_Mod) (T := T_Mod) (N := 15) hx hb hts i_Mod hown hK hP 17 rfl rfl 9 (by decide) (hts _ tw_664) (fun _ h9 => h9) rfl d_Mod_hang_110 ?_
                refine lv_iconst (v := (nI 4)) hx hb d_Mod_hang_113 (by decide) ?_
                refine lv_iload_n hx hb d_Mod_hang_114 rfl (lv_at hl 1 rfl) ?_
                refine k_mulC hx hb d_Mod_hang_115 ?_
                refine lv_iload_n hx hb d_Mod_hang_116 rfl (lv_at hl 2 rfl) ?_
                refine k_addN hx hb d_Mod_hang_117 ?_
                refine lv_iload hx hb d_Mod_hang_118 (lv_at hl 4 rfl) ?_
                refine k_astN (q0 := 26) (t0 := 0) hx hb hK hP hD hS rfl rfl (by omega) (by decide) d_Mod_hang_120 (fun H locs hP hD hS => ?_)
                obtain ⟨σ45, eσ45⟩ : ∃ z : kS, z = (st σ44 3 ((j2 * 4) + j13) j30) := ⟨_, rfl⟩
                have hP : va_P D vwCl (wX ad cI κ o σ45) H := by rw [eσ45]; exact hP
                have hD : va_D (kA s0) (wX ad cI κ o σ45) := by rw [eσ45]; exact hD
                refine lv_iconst (v := (nI 1)) hx hb d_Mod_hang_121 (by decide) ?_
                exact k_retWI hx hb hr hlocks d_Mod_hang_122 hP hD hS (by subst eσ45 eσ44 eσ43; first | rfl | (simp [rs_hang, inn, rqn, fin, rOkV, hq1, hq12, hq18, hq29, hq35, h38, h41]; done) | (simp [rs_hang, inn, rqn, fin, rOkV, hq1, hq12, hq18, hq29, hq35, h38, h41]; rfl) | (simp [rs_hang, inn, rqn, fin, rOkV, hq1, hq12, hq18, hq29, hq35, beq_iff_eq.mpr h38, beq_iff_eq.mpr h41, kbne h38, kbne h41]; done) | (simp [rs_hang, inn, rqn, fin, rOkV, hq1, hq12, hq18, hq29, hq35, beq_iff_eq.mpr h38, beq_iff_eq.mpr h41, kbne h38, kbne h41]; rfl) | (simp only [rs_hang, inn, rqn, fin, rOkV, hq1, hq12, hq18, hq29, hq35, h38, h41]; rfl))
              · refine lv_aload_n hx hb d_Mod_hang_79 rfl (lv_at hl 0 rfl) ?_
                refine lv_iconst (v := (nI 3)) hx hb d_Mod_hang_80 (by decide) ?_
                refine k_callW (k_atV (As := [.int (nI 3)]) hx hb hown hE.1 (K0.w tw_721) (hts _ tw_718) (hts _ tw_720) (hts _ tw_9020) (hts _ tw_5) (by decide) np_Mod_raise (va_recv hK hP (ci := nMod) (q0 := 17) rfl rfl) rfl d_Mod_hang_81) (c_Mod_raise K0 ad κ o σ (nI 3)) (hl.1.trans hml.symm) (Nat.le_of_ble_eq_true rfl) ⟨Nat.le_of_ble_eq_true rfl, Nat.le_of_ble_eq_true rfl, Nat.le_of_ble_eq_true rfl, Nat.le_of_ble_eq_true rfl⟩ (fun U hU hW => ⟨hE.go hW hU hS, by rw [hU]; exact hP, hD⟩) hS (fun H locs hP hD hS => ?_)
                obtain ⟨σ46, eσ46⟩ : ∃ z : kS, z = (sw σ 2 0 (nI 3)) := ⟨_, rfl⟩
                have hP : va_P D vwCl (wX ad cI κ o σ46) H := by rw [eσ46]; exact hP
                have hD : va_D (kA s0) (wX ad cI κ o σ46) := by rw [eσ46]; exact hD
                have hwσ46 : σ46.1 = σ.1 := by rw [eσ46]; exact rfl
                exact k_retWI hx hb hr hlocks d_Mod_hang_84 hP hD hS (by subst eσ46; first | rfl | (simp [rs_hang, inn, rqn, fin, rOkV, hq1, hq12, hq18, hq29, hq35, h38, h41, beq_false_of_ne h41, bne_iff_ne.mpr h41]; done) | (simp [rs_hang, inn, rqn, fin, rOkV, hq1, hq12, hq18, hq29, hq35, h38, h41, beq_false_of_ne h41, bne_iff_ne.mpr h41]; rfl) | (simp [rs_hang, inn, rqn, fin, rOkV, hq1, hq12, hq18, hq29, hq35, h41, beq_iff_eq.mpr h38, kbne h38, beq_false_of_ne h41, bne_iff_ne.mpr h41]; done) | (simp [rs_hang, inn, rqn, fin, rOkV, hq1, hq12, hq18, hq29, hq35, h41, beq_iff_eq.mpr h38, kbne h38, beq_false_of_ne h41, bne_iff_ne.mpr h41]; rfl) | (simp only [rs_hang, inn, rqn, fin, rOkV, hq1, hq12, hq18, hq29, hq35, h38, h41, beq_false_of_ne h41, bne_iff_ne.mpr h41]; rfl))
set_option maxHeartbeats 4000000 in
set_option maxRecDepth 100000 in
theorem c_Mod_walk {l : Launch} {s0 : State} {a0 : Array Value} {D : va_G} {cI cL : ClassId} (K0 : k0 l s0 a0 D cI cL) (ad : Nat → Nat) (κ : kS) (o : va_W) (σ : kS) (a : Nat) (rq : Nat) (ok : kOr σ) (ha : a < 64) : kMet l y_Mod_walk (Cond.code y_Mod_walk b_Mod_walk 4 (some .int)) (rmL 1) [.ref (ad 17), .int (nI a), .int (nI rq)] (kPre D vwCl s0 (wX ad cI κ o) σ) (.ok (some (.int (pI ((rwk σ a rq).1))), (rwk σ a rq).2)) (kBw D vwCl s0 (wX ad cI κ o)) := by
  refine k_of (by decide) (Nat.le_of_ble_eq_true rfl) ?_
  intro p e9 s m below meth c hx hb hr hlocks hown hml hex hpre ls hl
  obtain ⟨hE, hP, hD⟩ := hpre
  obtain ⟨hts, hK⟩ := K0.at (args := ([.ref (ad 17), .int (nI a), .int (nI rq)] : List Value).toArray) hE
  have hl : lv_has ls 4 [(0, .ref (ad 17)), (1, .int (nI a)), (2, .int (nI rq))] := hl
  have hS : va_S (kA s0) s.heap s.heap [] := va_S.rf
  have ok1 := ok
  obtain ⟨o1, o2, o3, o4, o5, o6, o7, o8, o10, o0, ⟨oc1, oc2⟩, oc3, or6⟩ := id ok1
  have hr0 : σ.1 6 (σ.1 11 0) ≠ 0 := or6 _ oc2 (by omega)
  have hr1 : σ.1 6 (σ.1 11 0) < 21 := o6 _ oc2
  refine lv_aload_n hx hb d_Mod_walk_0 rfl (lv_at hl 0 rfl) ?_
  refine lv_aload_n hx hb d_Mod_walk_1 rfl (lv_at hl 0 rfl) ?_
  refine va_get (D := D) (ci := nMod) (v := .int (nI (σ.1 11 0))) (C := R_Mod) (T := T_Mod) (N := 15) hx hb hts i_Mod hown hK hP 17 rfl rfl 13 (by decide) (hts _ tw_668) (fun _ h9 => h9) rfl d_Mod_walk_2 ?_
  refine lv_iload_n hx hb d_Mod_walk_5 rfl (lv_at hl 1 rfl) ?_
  refine k_callR (k_atV (As := [.int (nI (σ.1 11 0)), .int (nI a)]) hx hb hown hE.1 (K0.w tw_825) (hts _ tw_822) (hts _ tw_824) (hts _ tw_9033) (hts _ tw_5) (by decide) np_Mod_frameEntry (va_recv hK hP (ci := nMod) (q0 := 17) rfl rfl) rfl d_Mod_walk_6) (c_Mod_frameEntry K0 ad κ o σ (σ.1 11 0) a (by omega) (by omega) (by omega) (by omega) ok1.b2) (hl.1.trans hml.symm) (Nat.le_of_ble_eq_true rfl) ⟨Nat.le_of_ble_eq_true rfl, Nat.le_of_ble_eq_true rfl, Nat.le_of_ble_eq_true rfl, Nat.le_of_ble_eq_true rfl⟩ (fun U hU hW => ⟨hE.go hW hU hS, by rw [hU]; exact hP, hD⟩) ?_
  have hfe1 : rfe σ (σ.1 11 0) a < 81 := rfe_lt o2 (by omega) (by omega)
  refine lv_istore_n (lv' := [(3, .int (pI (rfe σ (σ.1 11 0) a))), (0, .ref (ad 17)), (1, .int (nI a)), (2, .int (nI rq))]) hx hb d_Mod_walk_9 rfl hl (by decide) rfl (fun ls hl => ?_)
  refine lv_aload_n hx hb d_Mod_walk_10 rfl (lv_at hl 1 rfl) ?_
  refine lv_iconst (v := (nI 2)) hx hb d_Mod_walk_11 (by decide) ?_
  refine va_put (D := D) (ci := nMod) (v := .int (nI 2)) (ty := .int) (C := R_Mod) (T := T_Mod) (N := 15) hx hb hts i_Mod ty_Mod ty_Mod_ok nm_Mod hown hK hP hD hS 17 rfl rfl 14 (by decide) (hts _ tw_669) (fun _ h9 => h9) rfl (by decide +kernel) rfl rfl (Nat.le_of_ble_eq_true rfl) d_Mod_walk_12 (fun H locs hP hD hS => ?_)
  obtain ⟨σ2, eσ2⟩ : ∃ z : kS, z = (sw σ 2 1 (nI 2)) := ⟨_, rfl⟩
  have hP : va_P D vwCl (wX ad cI κ o σ2) H := by rw [eσ2]; exact hP
  have hD : va_D (kA s0) (wX ad cI κ o σ2) := by rw [eσ2]; exact hD
  have hwσ2 : σ2.1 = σ.1 := by rw [eσ2]; exact rfl
  refine lv_iload_n hx hb d_Mod_walk_15 rfl (lv_at hl 0 rfl) ?_
  refine k_ltP0 (tgt := 28) (by omega) hx hb d_Mod_walk_16 (by decide) (fun h3 => ?_) (fun h3 => ?_)
  · refine lv_iconst (v := (pI 0)) hx hb d_Mod_walk_28 (by decide) ?_
    exact k_retWI hx hb hr hlocks d_Mod_walk_29 hP hD hS (by subst eσ2; have e9 : rwk σ a rq = (0, wr σ 2) := (by unfold rwk; exact if_pos h3); rw [e9]; first | rfl | (simp only [pI_succ]; rfl))
  · refine lv_aload_n hx hb d_Mod_walk_19 rfl (lv_at hl 1 rfl) ?_
    refine va_get (D := D) (ci := nMod) (v := .ref (ad 25)) (C := R_Mod) (T := T_Mod) (N := 15) hx hb hts i_Mod hown hK hP 17 rfl rfl 8 (by decide) (hts _ tw_663) (fun _ h9 => h9) rfl d_Mod_walk_20 ?_
    refine lv_iload_n hx hb d_Mod_walk_23 rfl (lv_at hl 0 rfl) ?_
    refine k_st (st' := [.int (nI ((rfe σ (σ.1 11 0) a) - 1)), .ref (ad 25)]) (by show ([.int (pI (rfe σ (σ.1 11 0) a)), .ref (ad 25)] : List Value) = _; rw [pI_pred (t := (rfe σ (σ.1 11 0) a)) (by omega)]) ?_
    refine k_aldP (q0 := 25) (t0 := 0) hx hb hK hP rfl rfl (by omega) (by decide) d_Mod_walk_24 ?_
    have ho4 : (σ2.1 2 ((rfe σ (σ.1 11 0) a) - 1)) = (σ.1 2 ((rfe σ (σ.1 11 0) a) - 1)) ∧ (σ2.1 2 ((rfe σ (σ.1 11 0) a) - 1)) < 21 := by rw [hwσ2]; exact ⟨rfl, o2 _ (by omega)⟩
    refine k_geP0 (tgt := 30) (by omega) hx hb d_Mod_walk_25 (by decide) (fun h5 => ?_) (fun h5 => ?_)
    · refine lv_aload_n hx hb d_Mod_walk_30 rfl (lv_at hl 1 rfl) ?_
      refine lv_iconst (v := (nI 3)) hx hb d_Mod_walk_31 (by decide) ?_
      refine va_put (D := D) (ci := nMod) (v := .int (nI 3)) (ty := .int) (C := R_Mod) (T := T_Mod) (N := 15) hx hb hts i_Mod ty_Mod ty_Mod_ok nm_Mod hown hK hP hD hS 17 rfl rfl 14 (by decide) (hts _ tw_669) (fun _ h9 => h9) rfl (by decide +kernel) rfl rfl (Nat.le_of_ble_eq_true rfl) d_Mod_walk_32 (fun H locs hP hD hS => ?_)
      obtain ⟨σ6, eσ6⟩ : ∃ z : kS, z = (sw σ2 2 1 (nI 3)) := ⟨_, rfl⟩
      have hP : va_P D vwCl (wX ad cI κ o σ6) H := by rw [eσ6]; exact hP
      have hD : va_D (kA s0) (wX ad cI κ o σ6) := by rw [eσ6]; exact hD
      have hwσ6 : σ6.1 = σ.1 := by rw [eσ6]; exact hwσ2
      refine lv_aload_n hx hb d_Mod_walk_35 rfl (lv_at hl 1 rfl) ?_
      refine va_get (D := D) (ci := nMod) (v := .ref (ad 26)) (C := R_Mod) (T := T_Mod) (N := 15) hx hb hts i_Mod hown hK hP 17 rfl rfl 9 (by decide) (hts _ tw_664) (fun _ h9 => h9) rfl d_Mod_walk_36 ?_
      refine lv_iload_n hx hb d_Mod_walk_39 rfl (lv_at hl 0 rfl) ?_
      refine k_st (st' := [.int (nI ((rfe σ (σ.1 11 0) a) - 1)), .ref (ad 26)]) (by show ([.int (pI (rfe σ (σ.1 11 0) a)), .ref (ad 26)] : List Value) = _; rw [pI_pred (t := (rfe σ (σ.1 11 0) a)) (by omega)]) ?_
      refine k_aldN (q0 := 26) (t0 := 0) hx hb hK hP rfl rfl (by omega) (by decide) d_Mod_walk_40 ?_
      have ho7 : (σ6.1 3 ((rfe σ (σ.1 11 0) a) - 1)) = (σ.1 3 ((rfe σ (σ.1 11 0) a) - 1)) ∧ (σ6.1 3 ((rfe σ (σ.1 11 0) a) - 1)) < 4 := by rw [hwσ6]; exact ⟨rfl, o3 _ (by omega)⟩
      refine lv_aload_n hx hb d_Mod_walk_41 rfl (lv_at hl 1 rfl) ?_
      refine va_get (D := D) (ci := nMod) (v := .ref (ad 26)) (C := R_Mod) (T := T_Mod) (N := 15) hx hb hts i_Mod hown hK hP 17 rfl rfl 9 (by decide) (hts _ tw_664) (fun _ h9 => h9) rfl d_Mod_walk_42 ?_
      refine lv_iconst (v := (nI 4)) hx hb d_Mod_walk_45 (by decide) ?_
      refine lv_aload_n hx hb d_Mod_walk_46 rfl (lv_at hl 1 rfl) ?_
      refine va_get (D := D) (ci := nMod) (v := .ref (ad 20)) (C := R_Mod) (T := T_Mod) (N := 15) hx hb hts i_Mod hown hK hP 17 rfl rfl 3 (by decide) (hts _ tw_658) (fun _ h9 => h9) rfl d_Mod_walk_47 ?_
      refine lv_aload_n hx hb d_Mod_walk_50 rfl (lv_at hl 1 rfl) ?_
      refine va_get (D := D) (ci := nMod) (v := .int (nI (σ6.1 11 0))) (C := R_Mod) (T := T_Mod) (N := 15) hx hb hts i_Mod hown hK hP 17 rfl rfl 13 (by decide) (hts _ tw_668) (fun _ h9 => h9) rfl d_Mod_walk_51 ?_
      have ho8 : σ6.1 11 0 = σ.1 11 0 := by rw [hwσ6]
      refine k_aldP (q0 := 20) (t0 := 0) hx hb hK hP rfl rfl (by omega) (by decide) d_Mod_walk_54 ?_
      have ho9 : (σ6.1 6 (σ6.1 11 0)) = (σ.1 6 (σ.1 11 0)) ∧ (σ6.1 6 (σ6.1 11 0)) < 21 := by rw [hwσ6]; exact ⟨rfl, o6 _ (by omega)⟩
      refine k_st (st' := [.int (nI ((σ6.1 6 (σ6.1 11 0)) - 1)), .int (nI 4), .ref (ad 26), .int (nI (σ6.1 3 ((rfe σ (σ.1 11 0) a) - 1)))]) (by show ([.int (pI (σ6.1 6 (σ6.1 11 0))), .int (nI 4), .ref (ad 26), .int (nI (σ6.1 3 ((rfe σ (σ.1 11 0) a) - 1)))] : List Value) = _; rw [pI_pred (t := (σ6.1 6 (σ6.1 11 0))) (by omega)]) ?_
      refine k_mulC hx hb d_Mod_walk_55 ?_
      refine lv_iload_n hx hb d_Mod_walk_56 rfl (lv_at hl 2 rfl) ?_
      refine lv_bipush (v := (nI 16)) hx hb d_Mod_walk_57 (by decide) ?_
      refine k_divN (by omega) (by omega) (by omega) hx hb d_Mod_walk_59 ?_
      refine k_addN hx hb d_Mod_walk_60 ?_
      refine k_aldN (q0 := 26) (t0 := 0) hx hb hK hP rfl rfl (by omega) (by decide) d_Mod_walk_61 ?_
      have ho10 : (σ6.1 3 ((((σ6.1 6 (σ6.1 11 0)) - 1) * 4) + (a / 16))) = (σ.1 3 ((((σ.1 6 (σ.1 11 0)) - 1) * 4) + (a / 16))) ∧ (σ6.1 3 ((((σ6.1 6 (σ6.1 11 0)) - 1) * 4) + (a / 16))) < 4 := by rw [hwσ6]; exact ⟨rfl, o3 _ (by omega)⟩
      refine k_andN hx hb d_Mod_walk_62 ?_
      refine lv_iload_n hx hb d_Mod_walk_63 rfl (lv_at hl 3 rfl) ?_
      refine k_andN hx hb d_Mod_walk_64 ?_
      refine k_ifN0 (tgt := 70) (Nat.lt_of_le_of_lt (Nat.le_trans Nat.and_le_left Nat.and_le_left) (by omega)) hx hb d_Mod_walk_65 (by decide) (fun h11 => ?_) (fun h11 => ?_)
      · refine lv_aload_n hx hb d_Mod_walk_70 rfl (lv_at hl 1 rfl) ?_
        refine lv_iconst (v := (nI 0)) hx hb d_Mod_walk_71 (by decide) ?_
        refine va_put (D := D) (ci := nMod) (v := .int (nI 0)) (ty := .int) (C := R_Mod) (T := T_Mod) (N := 15) hx hb hts i_Mod ty_Mod ty_Mod_ok nm_Mod hown hK hP hD hS 17 rfl rfl 14 (by decide) (hts _ tw_669) (fun _ h9 => h9) rfl (by decide +kernel) rfl rfl (Nat.le_of_ble_eq_true rfl) d_Mod_walk_72 (fun H locs hP hD hS => ?_)
        obtain ⟨σ12, eσ12⟩ : ∃ z : kS, z = (sw σ6 2 1 (nI 0)) := ⟨_, rfl⟩
        have hP : va_P D vwCl (wX ad cI κ o σ12) H := by rw [eσ12]; exact hP
        have hD : va_D (kA s0) (wX ad cI κ o σ12) := by rw [eσ12]; exact hD
        have hwσ12 : σ12.1 = σ.1 := by rw [eσ12]; exact hwσ6
        refine lv_iconst (v := (nI 4)) hx hb d_Mod_walk_75 (by decide) ?_
        refine lv_aload_n hx hb d_Mod_walk_76 rfl (lv_at hl 1 rfl) ?_
        refine va_get (D := D) (ci := nMod) (v := .ref (ad 25)) (C := R_Mod) (T := T_Mod) (N := 15) hx hb hts i_Mod hown hK hP 17 rfl rfl 8 (by decide) (hts _ tw_663) (fun _ h9 => h9) rfl d_Mod_walk_77 ?_
        refine lv_iload_n hx hb d_Mod_walk_80 rfl (lv_at hl 0 rfl) ?_
        refine k_st (st' := [.int (nI ((rfe σ (σ.1 11 0) a) - 1)), .ref (ad 25), .int (nI 4)]) (by show ([.int (pI (rfe σ (σ.1 11 0) a)), .ref (ad 25), .int (nI 4)] : List Value) = _; rw [pI_pred (t := (rfe σ (σ.1 11 0) a)) (by omega)]) ?_
        refine k_aldP (q0 := 25) (t0 := 0) hx hb hK hP rfl rfl (by omega) (by decide) d_Mod_walk_81 ?_
        have ho13 : (σ12.1 2 ((rfe σ (σ.1 11 0) a) - 1)) = (σ.1 2 ((rfe σ (σ.1 11 0) a) - 1)) ∧ (σ12.1 2 ((rfe σ (σ.1 11 0) a) - 1)) < 21 := by rw [hwσ12]; exact ⟨rfl, o2 _ (by omega)⟩
        refine k_st (st' := [.int (nI ((σ12.1 2 ((rfe σ (σ.1 11 0) a) - 1)) - 1)), .int (nI 4)]) (by show ([.int (pI (σ12.1 2 ((rfe σ (σ.1 11 0) a) - 1))), .int (nI 4)] : List Value) = _; rw [pI_pred (t := (σ12.1 2 ((rfe σ (σ.1 11 0) a) - 1))) (by omega)]) ?_
        refine k_mulC hx hb d_Mod_walk_82 ?_
        refine lv_iload_n hx hb d_Mod_walk_83 rfl (lv_at hl 2 rfl) ?_
        refine lv_iconst (v := (nI 4)) hx hb d_Mod_walk_84 (by decide) ?_
        refine k_remN (by omega) (by omega) (by omega) hx hb d_Mod_walk_85 ?_
        refine k_addN hx hb d_Mod_walk_86 ?_
        exact k_retWI hx hb hr hlocks d_Mod_walk_87 hP hD hS (by subst eσ12 eσ6 eσ2; have e9 : rwk σ a rq = ((σ.1 2 (rfe σ (σ.1 11 0) a - 1) - 1) * 4 + a % 4 + 1, wr (wr (wr σ 2) 3) 0) := (by unfold rwk; exact (if_neg h3).trans ((if_neg h5).trans (if_neg h11))); rw [e9]; first | rfl | (simp only [pI_succ]; rfl))
      · refine lv_iconst (v := (pI 0)) hx hb d_Mod_walk_68 (by decide) ?_
        exact k_retWI hx hb hr hlocks d_Mod_walk_69 hP hD hS (by subst eσ6 eσ2; have e9 : rwk σ a rq = (0, wr (wr σ 2) 3) := (by unfold rwk; exact (if_neg h3).trans ((if_neg h5).trans (if_pos h11))); rw [e9]; first | rfl | (simp only [pI_succ]; rfl))
    · refine lv_iconst (v := (pI 0)) hx hb d_Mod_walk_28 (by decide) ?_
      exact k_retWI hx hb hr hlocks d_Mod_walk_29 hP hD hS (by subst eσ2; have e9 : rwk σ a rq = (0, wr σ 2) := (by unfold rwk; exact (if_neg h3).trans (if_pos h5)); rw [e9]; first | rfl | (simp only [pI_succ]; rfl))
set_option maxHeartbeats 4000000 in
set_option maxRecDepth 100000 in
theorem c_Mod_table {l : Launch} {s0 : State} {a0 : Array Value} {D : va_G} {cI cL : ClassId} (K0 : k0 l s0 a0 D cI cL) (ad : Nat → Nat) (κ : kS) (o : va_W) (σ : kS) (x : Int32) (y : Int32) (z : Int32) (w : Int32) (ok : kOr σ) : kMet l y_Mod_table (Cond.code y_Mod_table b_Mod_table 5 (some .int)) (rmL 3) [.ref (ad 17), .int x, .int y, .int z, .int w] (kPre D vwCl s0 (wX ad cI κ o) σ) (.ok (fin (t0 σ) (rs_hang 2 (t0 σ) x y z w))) (kBw D vwCl s0 (wX ad cI κ o)) := by
  refine k_of (by decide) (Nat.le_of_ble_eq_true rfl) ?_
  intro p e9 s m below meth c hx hb hr hlocks hown hml hex hpre ls hl
  obtain ⟨hE, hP, hD⟩ := hpre
  obtain ⟨hts, hK⟩ := K0.at (args := ([.ref (ad 17), .int x, .int y, .int z, .int w] : List Value).toArray) hE
  have hl : lv_has ls 5 [(0, .ref (ad 17)), (1, .int x), (2, .int y), (3, .int z), (4, .int w)] := hl
  have hS : va_S (kA s0) s.heap s.heap [] := va_S.rf
  refine lv_aload_n hx hb d_Mod_table_0 rfl (lv_at hl 0 rfl) ?_
  refine lv_iconst (v := (nI 0)) hx hb d_Mod_table_1 (by decide) ?_
  refine va_put (D := D) (ci := nMod) (v := .int (nI 0)) (ty := .int) (C := R_Mod) (T := T_Mod) (N := 15) hx hb hts i_Mod ty_Mod ty_Mod_ok nm_Mod hown hK hP hD hS 17 rfl rfl 0 (by decide) (hts _ tw_655) (fun _ h9 => h9) rfl (by decide +kernel) rfl rfl (Nat.le_of_ble_eq_true rfl) d_Mod_table_2 (fun H locs hP hD hS => ?_)
  obtain ⟨σ1, eσ1⟩ : ∃ z : kS, z = (sw σ 2 0 (nI 0)) := ⟨_, rfl⟩
  have hP : va_P D vwCl (wX ad cI κ o σ1) H := by rw [eσ1]; exact hP
  have hD : va_D (kA s0) (wX ad cI κ o σ1) := by rw [eσ1]; exact hD
  have e0 : t0 σ = σ1 := eσ1.symm
  have ok1 : kOr σ1 := by rw [eσ1]; exact ok
  obtain ⟨o1, o2, o3, o4, o5, o6, o7, o8, o10, o0, ⟨oc1, oc2⟩, oc3, or6⟩ := id ok1
  have hr0 : σ1.1 6 (σ1.1 11 0) ≠ 0 := or6 _ oc2 (by omega)
  have hr1 : σ1.1 6 (σ1.1 11 0) < 21 := o6 _ oc2
  refine lv_aload_n hx hb d_Mod_table_5 rfl (lv_at hl 0 rfl) ?_
  refine lv_iload_n hx hb d_Mod_table_6 rfl (lv_at hl 1 rfl) ?_
  refine lv_iload_n hx hb d_Mod_table_7 rfl (lv_at hl 2 rfl) ?_
  refine lv_iload_n hx hb d_Mod_table_8 rfl (lv_at hl 3 rfl) ?_
  refine lv_iload hx hb d_Mod_table_9 (lv_at hl 4 rfl) ?_
  refine lv_iconst (v := (nI 2)) hx hb d_Mod_table_11 (by decide) ?_
  obtain ⟨vv, uu, hf9⟩ : ∃ v u, fin σ1 (rs_hang 2 σ1 x y z w) = (some (.int v), u) := fin_hang _ _ _ _ _ _ _
  refine k_callW (k_atV (As := [.int x, .int y, .int z, .int w, .int (nI 2)]) hx hb hown hE.1 (K0.w tw_733) (hts _ tw_730) (hts _ tw_732) (hts _ tw_9022) (hts _ tw_5) (by decide) np_Mod_hang (va_recv hK hP (ci := nMod) (q0 := 17) rfl rfl) rfl d_Mod_table_12) (kf_o hf9 (c_Mod_hang2 K0 ad κ o σ1 x y z w ok1)) (hl.1.trans hml.symm) (Nat.le_of_ble_eq_true rfl) ⟨Nat.le_of_ble_eq_true rfl, Nat.le_of_ble_eq_true rfl, Nat.le_of_ble_eq_true rfl, Nat.le_of_ble_eq_true rfl⟩ (fun U hU hW => ⟨hE.go hW hU hS, by rw [hU]; exact hP, hD⟩) hS (fun H locs hP hD hS => ?_)
  obtain ⟨σ3, eσ3⟩ : ∃ z : kS, z = uu := ⟨_, rfl⟩
  have hP : va_P D vwCl (wX ad cI κ o σ3) H := by rw [eσ3]; exact hP
  have hD : va_D (kA s0) (wX ad cI κ o σ3) := by rw [eσ3]; exact hD
  exact k_retWI hx hb hr hlocks d_Mod_table_15 hP hD hS (by rw [e0, hf9]; subst eσ3; rfl)
set_option maxHeartbeats 4000000 in
set_option maxRecDepth 100000 in
theorem c_Mod_frame {l : Launch} {s0 : State} {a0 : Array Value} {D : va_G} {cI cL : ClassId} (K0 : k0 l s0 a0 D cI cL) (ad : Nat → Nat) (κ : kS) (o : va_W) (σ : kS) (x : Int32) (y : Int32) (z : Int32) (w : Int32) (ok : kOr σ) : kMet l y_Mod_frame (Cond.code y_Mod_frame b_Mod_frame 5 (some .int)) (rmL 3) [.ref (ad 17), .int x, .int y, .int z, .int w] (kPre D vwCl s0 (wX ad cI κ o) σ) (.ok (fin (t0 σ) (rs_hang 3 (t0 σ) x y z w))) (kBw D vwCl s0 (wX ad cI κ o)) := by
  refine k_of (by decide) (Nat.le_of_ble_eq_true rfl) ?_
  intro p e9 s m below meth c hx hb hr hlocks hown hml hex hpre ls hl
  obtain ⟨hE, hP, hD⟩ := hpre
  obtain ⟨hts, hK⟩ := K0.at (args := ([.ref (ad 17), .int x, .int y, .int z, .int w] : List Value).toArray) hE
  have hl : lv_has ls 5 [(0, .ref (ad 17)), (1, .int x), (2, .int y), (3, .int z), (4, .int w)] := hl
  have hS : va_S (kA s0) s.heap s.heap [] := va_S.rf
  refine lv_aload_n hx hb d_Mod_frame_0 rfl (lv_at hl 0 rfl) ?_
  refine lv_iconst (v := (nI 0)) hx hb d_Mod_frame_1 (by decide) ?_
  refine va_put (D := D) (ci := nMod) (v := .int (nI 0)) (ty := .int) (C := R_Mod) (T := T_Mod) (N := 15) hx hb hts i_Mod ty_Mod ty_Mod_ok nm_Mod hown hK hP hD hS 17 rfl rfl 0 (by decide) (hts _ tw_655) (fun _ h9 => h9) rfl (by decide +kernel) rfl rfl (Nat.le_of_ble_eq_true rfl) d_Mod_frame_2 (fun H locs hP hD hS => ?_)
  obtain ⟨σ1, eσ1⟩ : ∃ z : kS, z = (sw σ 2 0 (nI 0)) := ⟨_, rfl⟩
  have hP : va_P D vwCl (wX ad cI κ o σ1) H := by rw [eσ1]; exact hP
  have hD : va_D (kA s0) (wX ad cI κ o σ1) := by rw [eσ1]; exact hD
  have e0 : t0 σ = σ1 := eσ1.symm
  have ok1 : kOr σ1 := by rw [eσ1]; exact ok
  obtain ⟨o1, o2, o3, o4, o5, o6, o7, o8, o10, o0, ⟨oc1, oc2⟩, oc3, or6⟩ := id ok1
  have hr0 : σ1.1 6 (σ1.1 11 0) ≠ 0 := or6 _ oc2 (by omega)
  have hr1 : σ1.1 6 (σ1.1 11 0) < 21 := o6 _ oc2
  refine lv_aload_n hx hb d_Mod_frame_5 rfl (lv_at hl 0 rfl) ?_
  refine lv_iload_n hx hb d_Mod_frame_6 rfl (lv_at hl 1 rfl) ?_
  refine lv_iload_n hx hb d_Mod_frame_7 rfl (lv_at hl 2 rfl) ?_
  refine lv_iload_n hx hb d_Mod_frame_8 rfl (lv_at hl 3 rfl) ?_
  refine lv_iload hx hb d_Mod_frame_9 (lv_at hl 4 rfl) ?_
  refine lv_iconst (v := (nI 3)) hx hb d_Mod_frame_11 (by decide) ?_
  obtain ⟨vv, uu, hf9⟩ : ∃ v u, fin σ1 (rs_hang 3 σ1 x y z w) = (some (.int v), u) := fin_hang _ _ _ _ _ _ _
  refine k_callW (k_atV (As := [.int x, .int y, .int z, .int w, .int (nI 3)]) hx hb hown hE.1 (K0.w tw_733) (hts _ tw_730) (hts _ tw_732) (hts _ tw_9022) (hts _ tw_5) (by decide) np_Mod_hang (va_recv hK hP (ci := nMod) (q0 := 17) rfl rfl) rfl d_Mod_frame_12) (kf_o hf9 (c_Mod_hang3 K0 ad κ o σ1 x y z w ok1)) (hl.1.trans hml.symm) (Nat.le_of_ble_eq_true rfl) ⟨Nat.le_of_ble_eq_true rfl, Nat.le_of_ble_eq_true rfl, Nat.le_of_ble_eq_true rfl, Nat.le_of_ble_eq_true rfl⟩ (fun U hU hW => ⟨hE.go hW hU hS, by rw [hU]; exact hP, hD⟩) hS (fun H locs hP hD hS => ?_)
  obtain ⟨σ3, eσ3⟩ : ∃ z : kS, z = uu := ⟨_, rfl⟩
  have hP : va_P D vwCl (wX ad cI κ o σ3) H := by rw [eσ3]; exact hP
  have hD : va_D (kA s0) (wX ad cI κ o σ3) := by rw [eσ3]; exact hD
  exact k_retWI hx hb hr hlocks d_Mod_frame_15 hP hD hS (by rw [e0, hf9]; subst eσ3; rfl)
set_option maxHeartbeats 4000000 in
set_option maxRecDepth 100000 in
theorem c_Mod_copy {l : Launch} {s0 : State} {a0 : Array Value} {D : va_G} {cI cL : ClassId} (K0 : k0 l s0 a0 D cI cL) (ad : Nat → Nat) (κ : kS) (o : va_W) (σ : kS) (x : Int32) (y : Int32) (ok : kOr σ) : kMet l y_Mod_copy (Cond.code y_Mod_copy b_Mod_copy 4 (some .int)) (rmL 2) [.ref (ad 17), .int x, .int y] (kPre D vwCl s0 (wX ad cI κ o) σ) (.ok (fin (t0 σ) (rs_copy (t0 σ) x y))) (kBw D vwCl s0 (wX ad cI κ o)) := by
  refine k_of (by decide) (Nat.le_of_ble_eq_true rfl) ?_
  intro p e9 s m below meth c hx hb hr hlocks hown hml hex hpre ls hl
  obtain ⟨hE, hP, hD⟩ := hpre
  obtain ⟨hts, hK⟩ := K0.at (args := ([.ref (ad 17), .int x, .int y] : List Value).toArray) hE
  have hl : lv_has ls 4 [(0, .ref (ad 17)), (1, .int x), (2, .int y)] := hl
  have hS : va_S (kA s0) s.heap s.heap [] := va_S.rf
  refine lv_aload_n hx hb d_Mod_copy_0 rfl (lv_at hl 0 rfl) ?_
  refine lv_iconst (v := (nI 0)) hx hb d_Mod_copy_1 (by decide) ?_
  refine va_put (D := D) (ci := nMod) (v := .int (nI 0)) (ty := .int) (C := R_Mod) (T := T_Mod) (N := 15) hx hb hts i_Mod ty_Mod ty_Mod_ok nm_Mod hown hK hP hD hS 17 rfl rfl 0 (by decide) (hts _ tw_655) (fun _ h9 => h9) rfl (by decide +kernel) rfl rfl (Nat.le_of_ble_eq_true rfl) d_Mod_copy_2 (fun H locs hP hD hS => ?_)
  obtain ⟨σ1, eσ1⟩ : ∃ z : kS, z = (sw σ 2 0 (nI 0)) := ⟨_, rfl⟩
  have hP : va_P D vwCl (wX ad cI κ o σ1) H := by rw [eσ1]; exact hP
  have hD : va_D (kA s0) (wX ad cI κ o σ1) := by rw [eσ1]; exact hD
  have e0 : t0 σ = σ1 := eσ1.symm
  have ok1 : kOr σ1 := by rw [eσ1]; exact ok
  obtain ⟨o1, o2, o3, o4, o5, o6, o7, o8, o10, o0, ⟨oc1, oc2⟩, oc3, or6⟩ := id ok1
  have hr0 : σ1.1 6 (σ1.1 11 0) ≠ 0 := or6 _ oc2 (by omega)
  have hr1 : σ1.1 6 (σ1.1 11 0) < 21 := o6 _ oc2
  refine lv_iload_n hx hb d_Mod_copy_5 rfl (lv_at hl 1 rfl) ?_
  rcases hq2 : rg x 0 19 with _ | j3
  · refine k_callR (k_atS (As := [.int x]) hx hb hown hE.1 (K0.w tw_717) rfl k_w9 (hts _ tw_715) (hts _ tw_716) (hts _ tw_5) (by decide) np_Mod_isPage rfl d_Mod_copy_6) (kz_n hq2 (c_Mod_isPage K0 ad κ o σ1 x)) (hl.1.trans hml.symm) (Nat.le_of_ble_eq_true rfl) ⟨Nat.le_of_ble_eq_true rfl, Nat.le_of_ble_eq_true rfl, Nat.le_of_ble_eq_true rfl, Nat.le_of_ble_eq_true rfl⟩ (fun U hU hW => ⟨hE.go hW hU hS, by rw [hU]; exact hP, hD⟩) ?_
    refine k_if0 (tgt := 19) (by decide) hx hb d_Mod_copy_9 (by decide) (fun _ => ?_) (fun h9 => absurd h9 (by decide))
    refine lv_aload_n hx hb d_Mod_copy_19 rfl (lv_at hl 0 rfl) ?_
    refine lv_iconst (v := (nI 1)) hx hb d_Mod_copy_20 (by decide) ?_
    refine k_callW (k_atV (As := [.int (nI 1)]) hx hb hown hE.1 (K0.w tw_721) (hts _ tw_718) (hts _ tw_720) (hts _ tw_9020) (hts _ tw_5) (by decide) np_Mod_raise (va_recv hK hP (ci := nMod) (q0 := 17) rfl rfl) rfl d_Mod_copy_21) (c_Mod_raise K0 ad κ o σ1 (nI 1)) (hl.1.trans hml.symm) (Nat.le_of_ble_eq_true rfl) ⟨Nat.le_of_ble_eq_true rfl, Nat.le_of_ble_eq_true rfl, Nat.le_of_ble_eq_true rfl, Nat.le_of_ble_eq_true rfl⟩ (fun U hU hW => ⟨hE.go hW hU hS, by rw [hU]; exact hP, hD⟩) hS (fun H locs hP hD hS => ?_)
    obtain ⟨σ7, eσ7⟩ : ∃ z : kS, z = (sw σ1 2 0 (nI 1)) := ⟨_, rfl⟩
    have hP : va_P D vwCl (wX ad cI κ o σ7) H := by rw [eσ7]; exact hP
    have hD : va_D (kA s0) (wX ad cI κ o σ7) := by rw [eσ7]; exact hD
    have hwσ7 : σ7.1 = σ1.1 := by rw [eσ7]; exact rfl
    exact k_retWI hx hb hr hlocks d_Mod_copy_24 hP hD hS (by rw [e0]; subst eσ7; first | rfl | (simp [rs_copy, inn, rqn, fin, rOkV, m_copy, cp, hq2]; done) | (simp [rs_copy, inn, rqn, fin, rOkV, m_copy, cp, hq2]; rfl) | (simp [rs_copy, inn, rqn, fin, rOkV, m_copy, cp, hq2]; done) | (simp [rs_copy, inn, rqn, fin, rOkV, m_copy, cp, hq2]; rfl) | (simp only [rs_copy, inn, rqn, fin, rOkV, m_copy, cp, hq2]; rfl))
  · refine k_callR (k_atS (As := [.int x]) hx hb hown hE.1 (K0.w tw_717) rfl k_w9 (hts _ tw_715) (hts _ tw_716) (hts _ tw_5) (by decide) np_Mod_isPage rfl d_Mod_copy_6) (kz_s hq2 (c_Mod_isPage K0 ad κ o σ1 x)) (hl.1.trans hml.symm) (Nat.le_of_ble_eq_true rfl) ⟨Nat.le_of_ble_eq_true rfl, Nat.le_of_ble_eq_true rfl, Nat.le_of_ble_eq_true rfl, Nat.le_of_ble_eq_true rfl⟩ (fun U hU hW => ⟨hE.go hW hU hS, by rw [hU]; exact hP, hD⟩) ?_
    obtain ⟨rfl, ha4, hb_5, hc_6⟩ := rg_some hq2
    refine k_if0 (tgt := 19) (by decide) hx hb d_Mod_copy_9 (by decide) (fun h9 => absurd h9 (by decide)) (fun _ => ?_)
    refine lv_iload_n hx hb d_Mod_copy_12 rfl (lv_at hl 2 rfl) ?_
    rcases hq8 : rg y 0 19 with _ | j9
    · refine k_callR (k_atS (As := [.int y]) hx hb hown hE.1 (K0.w tw_717) rfl k_w9 (hts _ tw_715) (hts _ tw_716) (hts _ tw_5) (by decide) np_Mod_isPage rfl d_Mod_copy_13) (kz_n hq8 (c_Mod_isPage K0 ad κ o σ1 y)) (hl.1.trans hml.symm) (Nat.le_of_ble_eq_true rfl) ⟨Nat.le_of_ble_eq_true rfl, Nat.le_of_ble_eq_true rfl, Nat.le_of_ble_eq_true rfl, Nat.le_of_ble_eq_true rfl⟩ (fun U hU hW => ⟨hE.go hW hU hS, by rw [hU]; exact hP, hD⟩) ?_
      refine k_ifN0 (tgt := 25) (by decide) hx hb d_Mod_copy_16 (by decide) (fun h9 => absurd h9 (by decide)) (fun _ => ?_)
      refine lv_aload_n hx hb d_Mod_copy_19 rfl (lv_at hl 0 rfl) ?_
      refine lv_iconst (v := (nI 1)) hx hb d_Mod_copy_20 (by decide) ?_
      refine k_callW (k_atV (As := [.int (nI 1)]) hx hb hown hE.1 (K0.w tw_721) (hts _ tw_718) (hts _ tw_720) (hts _ tw_9020) (hts _ tw_5) (by decide) np_Mod_raise (va_recv hK hP (ci := nMod) (q0 := 17) rfl rfl) rfl d_Mod_copy_21) (c_Mod_raise K0 ad κ o σ1 (nI 1)) (hl.1.trans hml.symm) (Nat.le_of_ble_eq_true rfl) ⟨Nat.le_of_ble_eq_true rfl, Nat.le_of_ble_eq_true rfl, Nat.le_of_ble_eq_true rfl, Nat.le_of_ble_eq_true rfl⟩ (fun U hU hW => ⟨hE.go hW hU hS, by rw [hU]; exact hP, hD⟩) hS (fun H locs hP hD hS => ?_)
      obtain ⟨σ13, eσ13⟩ : ∃ z : kS, z = (sw σ1 2 0 (nI 1)) := ⟨_, rfl⟩
      have hP : va_P D vwCl (wX ad cI κ o σ13) H := by rw [eσ13]; exact hP
      have hD : va_D (kA s0) (wX ad cI κ o σ13) := by rw [eσ13]; exact hD
      have hwσ13 : σ13.1 = σ1.1 := by rw [eσ13]; exact rfl
      exact k_retWI hx hb hr hlocks d_Mod_copy_24 hP hD hS (by rw [e0]; subst eσ13; first | rfl | (simp [rs_copy, inn, rqn, fin, rOkV, m_copy, cp, hq2, hq8]; done) | (simp [rs_copy, inn, rqn, fin, rOkV, m_copy, cp, hq2, hq8]; rfl) | (simp [rs_copy, inn, rqn, fin, rOkV, m_copy, cp, hq2, hq8]; done) | (simp [rs_copy, inn, rqn, fin, rOkV, m_copy, cp, hq2, hq8]; rfl) | (simp only [rs_copy, inn, rqn, fin, rOkV, m_copy, cp, hq2, hq8]; rfl))
    · refine k_callR (k_atS (As := [.int y]) hx hb hown hE.1 (K0.w tw_717) rfl k_w9 (hts _ tw_715) (hts _ tw_716) (hts _ tw_5) (by decide) np_Mod_isPage rfl d_Mod_copy_13) (kz_s hq8 (c_Mod_isPage K0 ad κ o σ1 y)) (hl.1.trans hml.symm) (Nat.le_of_ble_eq_true rfl) ⟨Nat.le_of_ble_eq_true rfl, Nat.le_of_ble_eq_true rfl, Nat.le_of_ble_eq_true rfl, Nat.le_of_ble_eq_true rfl⟩ (fun U hU hW => ⟨hE.go hW hU hS, by rw [hU]; exact hP, hD⟩) ?_
      obtain ⟨rfl, ha10, hb_11, hc_12⟩ := rg_some hq8
      refine k_ifN0 (tgt := 25) (by decide) hx hb d_Mod_copy_16 (by decide) (fun _ => ?_) (fun h9 => absurd h9 (by decide))
      refine lv_aload_n hx hb d_Mod_copy_25 rfl (lv_at hl 0 rfl) ?_
      refine lv_iload_n hx hb d_Mod_copy_26 rfl (lv_at hl 1 rfl) ?_
      refine lv_iconst (v := (nI 3)) hx hb d_Mod_copy_27 (by decide) ?_
      rcases hq14 : rpage σ1 j3 3 with _ | _
      · refine k_callR (k_atV (As := [.int (nI j3), .int (nI 3)]) hx hb hown hE.1 (K0.w tw_737) (hts _ tw_734) (hts _ tw_736) (hts _ tw_9023) (hts _ tw_5) (by decide) np_Mod_minePage (va_recv hK hP (ci := nMod) (q0 := 17) rfl rfl) rfl d_Mod_copy_28) (kb_f hq14 (c_Mod_minePage K0 ad κ o σ1 j3 3 (by omega) (by omega) ok1.b0 (ok1.1 j3 (by omega)) ok1.b4 ok1.b5 (by omega))) (hl.1.trans hml.symm) (Nat.le_of_ble_eq_true rfl) ⟨Nat.le_of_ble_eq_true rfl, Nat.le_of_ble_eq_true rfl, Nat.le_of_ble_eq_true rfl, Nat.le_of_ble_eq_true rfl⟩ (fun U hU hW => ⟨hE.go hW hU hS, by rw [hU]; exact hP, hD⟩) ?_
        refine k_if0 (tgt := 43) (by decide) hx hb d_Mod_copy_31 (by decide) (fun _ => ?_) (fun h9 => absurd h9 (by decide))
        refine lv_aload_n hx hb d_Mod_copy_43 rfl (lv_at hl 0 rfl) ?_
        refine lv_iconst (v := (nI 2)) hx hb d_Mod_copy_44 (by decide) ?_
        refine k_callW (k_atV (As := [.int (nI 2)]) hx hb hown hE.1 (K0.w tw_721) (hts _ tw_718) (hts _ tw_720) (hts _ tw_9020) (hts _ tw_5) (by decide) np_Mod_raise (va_recv hK hP (ci := nMod) (q0 := 17) rfl rfl) rfl d_Mod_copy_45) (c_Mod_raise K0 ad κ o σ1 (nI 2)) (hl.1.trans hml.symm) (Nat.le_of_ble_eq_true rfl) ⟨Nat.le_of_ble_eq_true rfl, Nat.le_of_ble_eq_true rfl, Nat.le_of_ble_eq_true rfl, Nat.le_of_ble_eq_true rfl⟩ (fun U hU hW => ⟨hE.go hW hU hS, by rw [hU]; exact hP, hD⟩) hS (fun H locs hP hD hS => ?_)
        obtain ⟨σ15, eσ15⟩ : ∃ z : kS, z = (sw σ1 2 0 (nI 2)) := ⟨_, rfl⟩
        have hP : va_P D vwCl (wX ad cI κ o σ15) H := by rw [eσ15]; exact hP
        have hD : va_D (kA s0) (wX ad cI κ o σ15) := by rw [eσ15]; exact hD
        have hwσ15 : σ15.1 = σ1.1 := by rw [eσ15]; exact rfl
        exact k_retWI hx hb hr hlocks d_Mod_copy_48 hP hD hS (by rw [e0]; subst eσ15; first | rfl | (simp [rs_copy, inn, rqn, fin, rOkV, m_copy, cp, hq2, hq8, hq14]; done) | (simp [rs_copy, inn, rqn, fin, rOkV, m_copy, cp, hq2, hq8, hq14]; rfl) | (simp [rs_copy, inn, rqn, fin, rOkV, m_copy, cp, hq2, hq8, hq14]; done) | (simp [rs_copy, inn, rqn, fin, rOkV, m_copy, cp, hq2, hq8, hq14]; rfl) | (simp only [rs_copy, inn, rqn, fin, rOkV, m_copy, cp, hq2, hq8, hq14]; rfl))
      · refine k_callR (k_atV (As := [.int (nI j3), .int (nI 3)]) hx hb hown hE.1 (K0.w tw_737) (hts _ tw_734) (hts _ tw_736) (hts _ tw_9023) (hts _ tw_5) (by decide) np_Mod_minePage (va_recv hK hP (ci := nMod) (q0 := 17) rfl rfl) rfl d_Mod_copy_28) (kb_t hq14 (c_Mod_minePage K0 ad κ o σ1 j3 3 (by omega) (by omega) ok1.b0 (ok1.1 j3 (by omega)) ok1.b4 ok1.b5 (by omega))) (hl.1.trans hml.symm) (Nat.le_of_ble_eq_true rfl) ⟨Nat.le_of_ble_eq_true rfl, Nat.le_of_ble_eq_true rfl, Nat.le_of_ble_eq_true rfl, Nat.le_of_ble_eq_true rfl⟩ (fun U hU hW => ⟨hE.go hW hU hS, by rw [hU]; exact hP, hD⟩) ?_
        refine k_if0 (tgt := 43) (by decide) hx hb d_Mod_copy_31 (by decide) (fun h9 => absurd h9 (by decide)) (fun _ => ?_)
        refine lv_aload_n hx hb d_Mod_copy_34 rfl (lv_at hl 0 rfl) ?_
        refine lv_iload_n hx hb d_Mod_copy_35 rfl (lv_at hl 2 rfl) ?_
        refine lv_iconst (v := (nI 3)) hx hb d_Mod_copy_36 (by decide) ?_
        rcases hq16 : rpage σ1 j9 3 with _ | _
        · refine k_callR (k_atV (As := [.int (nI j9), .int (nI 3)]) hx hb hown hE.1 (K0.w tw_737) (hts _ tw_734) (hts _ tw_736) (hts _ tw_9023) (hts _ tw_5) (by decide) np_Mod_minePage (va_recv hK hP (ci := nMod) (q0 := 17) rfl rfl) rfl d_Mod_copy_37) (kb_f hq16 (c_Mod_minePage K0 ad κ o σ1 j9 3 (by omega) (by omega) ok1.b0 (ok1.1 j9 (by omega)) ok1.b4 ok1.b5 (by omega))) (hl.1.trans hml.symm) (Nat.le_of_ble_eq_true rfl) ⟨Nat.le_of_ble_eq_true rfl, Nat.le_of_ble_eq_true rfl, Nat.le_of_ble_eq_true rfl, Nat.le_of_ble_eq_true rfl⟩ (fun U hU hW => ⟨hE.go hW hU hS, by rw [hU]; exact hP, hD⟩) ?_
          refine k_ifN0 (tgt := 49) (by decide) hx hb d_Mod_copy_40 (by decide) (fun h9 => absurd h9 (by decide)) (fun _ => ?_)
          refine lv_aload_n hx hb d_Mod_copy_43 rfl (lv_at hl 0 rfl) ?_
          refine lv_iconst (v := (nI 2)) hx hb d_Mod_copy_44 (by decide) ?_
          refine k_callW (k_atV (As := [.int (nI 2)]) hx hb hown hE.1 (K0.w tw_721) (hts _ tw_718) (hts _ tw_720) (hts _ tw_9020) (hts _ tw_5) (by decide) np_Mod_raise (va_recv hK hP (ci := nMod) (q0 := 17) rfl rfl) rfl d_Mod_copy_45) (c_Mod_raise K0 ad κ o σ1 (nI 2)) (hl.1.trans hml.symm) (Nat.le_of_ble_eq_true rfl) ⟨Nat.le_of_ble_eq_true rfl, Nat.le_of_ble_eq_true rfl, Nat.le_of_ble_eq_true rfl, Nat.le_of_ble_eq_true rfl⟩ (fun U hU hW => ⟨hE.go hW hU hS, by rw [hU]; exact hP, hD⟩) hS (fun H locs hP hD hS => ?_)
          obtain ⟨σ17, eσ17⟩ : ∃ z : kS, z = (sw σ1 2 0 (nI 2)) := ⟨_, rfl⟩
          have hP : va_P D vwCl (wX ad cI κ o σ17) H := by rw [eσ17]; exact hP
          have hD : va_D (kA s0) (wX ad cI κ o σ17) := by rw [eσ17]; exact hD
          have hwσ17 : σ17.1 = σ1.1 := by rw [eσ17]; exact rfl
          exact k_retWI hx hb hr hlocks d_Mod_copy_48 hP hD hS (by rw [e0]; subst eσ17; first | rfl | (simp [rs_copy, inn, rqn, fin, rOkV, m_copy, cp, hq2, hq8, hq14, hq16]; done) | (simp [rs_copy, inn, rqn, fin, rOkV, m_copy, cp, hq2, hq8, hq14, hq16]; rfl) | (simp [rs_copy, inn, rqn, fin, rOkV, m_copy, cp, hq2, hq8, hq14, hq16]; done) | (simp [rs_copy, inn, rqn, fin, rOkV, m_copy, cp, hq2, hq8, hq14, hq16]; rfl) | (simp only [rs_copy, inn, rqn, fin, rOkV, m_copy, cp, hq2, hq8, hq14, hq16]; rfl))
        · refine k_callR (k_atV (As := [.int (nI j9), .int (nI 3)]) hx hb hown hE.1 (K0.w tw_737) (hts _ tw_734) (hts _ tw_736) (hts _ tw_9023) (hts _ tw_5) (by decide) np_Mod_minePage (va_recv hK hP (ci := nMod) (q0 := 17) rfl rfl) rfl d_Mod_copy_37) (kb_t hq16 (c_Mod_minePage K0 ad κ o σ1 j9 3 (by omega) (by omega) ok1.b0 (ok1.1 j9 (by omega)) ok1.b4 ok1.b5 (by omega))) (hl.1.trans hml.symm) (Nat.le_of_ble_eq_true rfl) ⟨Nat.le_of_ble_eq_true rfl, Nat.le_of_ble_eq_true rfl, Nat.le_of_ble_eq_true rfl, Nat.le_of_ble_eq_true rfl⟩ (fun U hU hW => ⟨hE.go hW hU hS, by rw [hU]; exact hP, hD⟩) ?_
          refine k_ifN0 (tgt := 49) (by decide) hx hb d_Mod_copy_40 (by decide) (fun _ => ?_) (fun h9 => absurd h9 (by decide))
          refine lv_iconst (v := (nI 0)) hx hb d_Mod_copy_49 (by decide) ?_
          refine lv_istore_n (lv' := [(3, .int (nI 0)), (0, .ref (ad 17)), (1, .int (nI j3)), (2, .int (nI j9))]) hx hb d_Mod_copy_50 rfl hl (by decide) rfl (fun ls hl => ?_)
          refine lv_iload_n hx hb d_Mod_copy_51 rfl (lv_at hl 0 rfl) ?_
          refine lv_iconst (v := (nI 4)) hx hb d_Mod_copy_52 (by decide) ?_
          refine k_geN (tgt := 82) (by decide) (by decide) hx hb d_Mod_copy_53 (by decide) (fun h9 => absurd h9 (by decide)) (fun _ => ?_)
          refine lv_aload_n hx hb d_Mod_copy_56 rfl (lv_at hl 1 rfl) ?_
          refine va_get (D := D) (ci := nMod) (v := .ref (ad 27)) (C := R_Mod) (T := T_Mod) (N := 15) hx hb hts i_Mod hown hK hP 17 rfl rfl 10 (by decide) (hts _ tw_665) (fun _ h9 => h9) rfl d_Mod_copy_57 ?_
          refine lv_iconst (v := (nI 4)) hx hb d_Mod_copy_60 (by decide) ?_
          refine lv_iload_n hx hb d_Mod_copy_61 rfl (lv_at hl 3 rfl) ?_
          refine k_mulC hx hb d_Mod_copy_62 ?_
          refine lv_iload_n hx hb d_Mod_copy_63 rfl (lv_at hl 0 rfl) ?_
          refine k_addN hx hb d_Mod_copy_64 ?_
          refine lv_aload_n hx hb d_Mod_copy_65 rfl (lv_at hl 1 rfl) ?_
          refine va_get (D := D) (ci := nMod) (v := .ref (ad 27)) (C := R_Mod) (T := T_Mod) (N := 15) hx hb hts i_Mod hown hK hP 17 rfl rfl 10 (by decide) (hts _ tw_665) (fun _ h9 => h9) rfl d_Mod_copy_66 ?_
          refine lv_iconst (v := (nI 4)) hx hb d_Mod_copy_69 (by decide) ?_
          refine lv_iload_n hx hb d_Mod_copy_70 rfl (lv_at hl 2 rfl) ?_
          refine k_mulC hx hb d_Mod_copy_71 ?_
          refine lv_iload_n hx hb d_Mod_copy_72 rfl (lv_at hl 0 rfl) ?_
          refine k_addN hx hb d_Mod_copy_73 ?_
          refine k_aldI (q0 := 27) (t0 := 0) hx hb hK hP rfl rfl (by omega) (by decide) d_Mod_copy_74 ?_
          refine k_astI (q0 := 27) (t0 := 0) hx hb hK hP hD hS rfl rfl (by omega) (by decide) d_Mod_copy_75 (fun H locs hP hD hS => ?_)
          obtain ⟨σ18, eσ18⟩ : ∃ z : kS, z = (sw σ1 0 ((j9 * 4) + 0) (σ1.2 0 ((j3 * 4) + 0))) := ⟨_, rfl⟩
          have hP : va_P D vwCl (wX ad cI κ o σ18) H := by rw [eσ18]; exact hP
          have hD : va_D (kA s0) (wX ad cI κ o σ18) := by rw [eσ18]; exact hD
          have hwσ18 : σ18.1 = σ1.1 := by rw [eσ18]; exact rfl
          refine lv_iinc (v := (nI 1)) (lv' := [(3, .int (nI 1)), (0, .ref (ad 17)), (1, .int (nI j3)), (2, .int (nI j9))]) hx hb d_Mod_copy_76 hl (k := 0) rfl (nI_1 _) (by decide) rfl (fun ls hl => ?_)
          refine lv_goto (tgt := 51) hx hb d_Mod_copy_79 (by decide) ?_
          refine lv_iload_n hx hb d_Mod_copy_51 rfl (lv_at hl 0 rfl) ?_
          refine lv_iconst (v := (nI 4)) hx hb d_Mod_copy_52 (by decide) ?_
          refine k_geN (tgt := 82) (by decide) (by decide) hx hb d_Mod_copy_53 (by decide) (fun h9 => absurd h9 (by decide)) (fun _ => ?_)
          refine lv_aload_n hx hb d_Mod_copy_56 rfl (lv_at hl 1 rfl) ?_
          refine va_get (D := D) (ci := nMod) (v := .ref (ad 27)) (C := R_Mod) (T := T_Mod) (N := 15) hx hb hts i_Mod hown hK hP 17 rfl rfl 10 (by decide) (hts _ tw_665) (fun _ h9 => h9) rfl d_Mod_copy_57 ?_
          refine lv_iconst (v := (nI 4)) hx hb d_Mod_copy_60 (by decide) ?_
          refine lv_iload_n hx hb d_Mod_copy_61 rfl (lv_at hl 3 rfl) ?_
          refine k_mulC hx hb d_Mod_copy_62 ?_
          refine lv_iload_n hx hb d_Mod_copy_63 rfl (lv_at hl 0 rfl) ?_
          refine k_addN hx hb d_Mod_copy_64 ?_
          refine lv_aload_n hx hb d_Mod_copy_65 rfl (lv_at hl 1 rfl) ?_
          refine va_get (D := D) (ci := nMod) (v := .ref (ad 27)) (C := R_Mod) (T := T_Mod) (N := 15) hx hb hts i_Mod hown hK hP 17 rfl rfl 10 (by decide) (hts _ tw_665) (fun _ h9 => h9) rfl d_Mod_copy_66 ?_
          refine lv_iconst (v := (nI 4)) hx hb d_Mod_copy_69 (by decide) ?_
          refine lv_iload_n hx hb d_Mod_copy_70 rfl (lv_at hl 2 rfl) ?_
          refine k_mulC hx hb d_Mod_copy_71 ?_
          refine lv_iload_n hx hb d_Mod_copy_72 rfl (lv_at hl 0 rfl) ?_
          refine k_addN hx hb d_Mod_copy_73 ?_
          refine k_aldI (q0 := 27) (t0 := 0) hx hb hK hP rfl rfl (by omega) (by decide) d_Mod_copy_74 ?_
          refine k_astI (q0 := 27) (t0 := 0) hx hb hK hP hD hS rfl rfl (by omega) (by decide) d_Mod_copy_75 (fun H locs hP hD hS => ?_)
          obtain ⟨σ19, eσ19⟩ : ∃ z : kS, z = (sw σ18 0 ((j9 * 4) + 1) (σ18.2 0 ((j3 * 4) + 1))) := ⟨_, rfl⟩
          have hP : va_P D vwCl (wX ad cI κ o σ19) H := by rw [eσ19]; exact hP
          have hD : va_D (kA s0) (wX ad cI κ o σ19) := by rw [eσ19]; exact hD
          have hwσ19 : σ19.1 = σ1.1 := by rw [eσ19]; exact hwσ18
          refine lv_iinc (v := (nI 2)) (lv' := [(3, .int (nI 2)), (0, .ref (ad 17)), (1, .int (nI j3)), (2, .int (nI j9))]) hx hb d_Mod_copy_76 hl (k := 0) rfl (nI_1 _) (by decide) rfl (fun ls hl => ?_)
          refine lv_goto (tgt := 51) hx hb d_Mod_copy_79 (by decide) ?_
          refine lv_iload_n hx hb d_Mod_copy_51 rfl (lv_at hl 0 rfl) ?_
          refine lv_iconst (v := (nI 4)) hx hb d_Mod_copy_52 (by decide) ?_
          refine k_geN (tgt := 82) (by decide) (by decide) hx hb d_Mod_copy_53 (by decide) (fun h9 => absurd h9 (by decide)) (fun _ => ?_)
          refine lv_aload_n hx hb d_Mod_copy_56 rfl (lv_at hl 1 rfl) ?_
          refine va_get (D := D) (ci := nMod) (v := .ref (ad 27)) (C := R_Mod) (T := T_Mod) (N := 15) hx hb hts i_Mod hown hK hP 17 rfl rfl 10 (by decide) (hts _ tw_665) (fun _ h9 => h9) rfl d_Mod_copy_57 ?_
          refine lv_iconst (v := (nI 4)) hx hb d_Mod_copy_60 (by decide) ?_
          refine lv_iload_n hx hb d_Mod_copy_61 rfl (lv_at hl 3 rfl) ?_
          refine k_mulC hx hb d_Mod_copy_62 ?_
          refine lv_iload_n hx hb d_Mod_copy_63 rfl (lv_at hl 0 rfl) ?_
          refine k_addN hx hb d_Mod_copy_64 ?_
          refine lv_aload_n hx hb d_Mod_copy_65 rfl (lv_at hl 1 rfl) ?_
          refine va_get (D := D) (ci := nMod) (v := .ref (ad 27)) (C := R_Mod) (T := T_Mod) (N := 15) hx hb hts i_Mod hown hK hP 17 rfl rfl 10 (by decide) (hts _ tw_665) (fun _ h9 => h9) rfl d_Mod_copy_66 ?_
          refine lv_iconst (v := (nI 4)) hx hb d_Mod_copy_69 (by decide) ?_
          refine lv_iload_n hx hb d_Mod_copy_70 rfl (lv_at hl 2 rfl) ?_
          refine k_mulC hx hb d_Mod_copy_71 ?_
          refine lv_iload_n hx hb d_Mod_copy_72 rfl (lv_at hl 0 rfl) ?_
          refine k_addN hx hb d_Mod_copy_73 ?_
          refine k_aldI (q0 := 27) (t0 := 0) hx hb hK hP rfl rfl (by omega) (by decide) d_Mod_copy_74 ?_
          refine k_astI (q0 := 27) (t0 := 0) hx hb hK hP hD hS rfl rfl (by omega) (by decide) d_Mod_copy_75 (fun H locs hP hD hS => ?_)
          obtain ⟨σ20, eσ20⟩ : ∃ z : kS, z = (sw σ19 0 ((j9 * 4) + 2) (σ19.2 0 ((j3 * 4) + 2))) := ⟨_, rfl⟩
          have hP : va_P D vwCl (wX ad cI κ o σ20) H := by rw [eσ20]; exact hP
          have hD : va_D (kA s0) (wX ad cI κ o σ20) := by rw [eσ20]; exact hD
          have hwσ20 : σ20.1 = σ1.1 := by rw [eσ20]; exact hwσ19
          refine lv_iinc (v := (nI 3)) (lv' := [(3, .int (nI 3)), (0, .ref (ad 17)), (1, .int (nI j3)), (2, .int (nI j9))]) hx hb d_Mod_copy_76 hl (k := 0) rfl (nI_1 _) (by decide) rfl (fun ls hl => ?_)
          refine lv_goto (tgt := 51) hx hb d_Mod_copy_79 (by decide) ?_
          refine lv_iload_n hx hb d_Mod_copy_51 rfl (lv_at hl 0 rfl) ?_
          refine lv_iconst (v := (nI 4)) hx hb d_Mod_copy_52 (by decide) ?_
          refine k_geN (tgt := 82) (by decide) (by decide) hx hb d_Mod_copy_53 (by decide) (fun h9 => absurd h9 (by decide)) (fun _ => ?_)
          refine lv_aload_n hx hb d_Mod_copy_56 rfl (lv_at hl 1 rfl) ?_
          refine va_get (D := D) (ci := nMod) (v := .ref (ad 27)) (C := R_Mod) (T := T_Mod) (N := 15) hx hb hts i_Mod hown hK hP 17 rfl rfl 10 (by decide) (hts _ tw_665) (fun _ h9 => h9) rfl d_Mod_copy_57 ?_
          refine lv_iconst (v := (nI 4)) hx hb d_Mod_copy_60 (by decide) ?_
          refine lv_iload_n hx hb d_Mod_copy_61 rfl (lv_at hl 3 rfl) ?_
          refine k_mulC hx hb d_Mod_copy_62 ?_
          refine lv_iload_n hx hb d_Mod_copy_63 rfl (lv_at hl 0 rfl) ?_
          refine k_addN hx hb d_Mod_copy_64 ?_
          refine lv_aload_n hx hb d_Mod_copy_65 rfl (lv_at hl 1 rfl) ?_
          refine va_get (D := D) (ci := nMod) (v := .ref (ad 27)) (C := R_Mod) (T := T_Mod) (N := 15) hx hb hts i_Mod hown hK hP 17 rfl rfl 10 (by decide) (hts _ tw_665) (fun _ h9 => h9) rfl d_Mod_copy_66 ?_
          refine lv_iconst (v := (nI 4)) hx hb d_Mod_copy_69 (by decide) ?_
          refine lv_iload_n hx hb d_Mod_copy_70 rfl (lv_at hl 2 rfl) ?_
          refine k_mulC hx hb d_Mod_copy_71 ?_
          refine lv_iload_n hx hb d_Mod_copy_72 rfl (lv_at hl 0 rfl) ?_
          refine k_addN hx hb d_Mod_copy_73 ?_
          refine k_aldI (q0 := 27) (t0 := 0) hx hb hK hP rfl rfl (by omega) (by decide) d_Mod_copy_74 ?_
          refine k_astI (q0 := 27) (t0 := 0) hx hb hK hP hD hS rfl rfl (by omega) (by decide) d_Mod_copy_75 (fun H locs hP hD hS => ?_)
          obtain ⟨σ21, eσ21⟩ : ∃ z : kS, z = (sw σ20 0 ((j9 * 4) + 3) (σ20.2 0 ((j3 * 4) + 3))) := ⟨_, rfl⟩
          have hP : va_P D vwCl (wX ad cI κ o σ21) H := by rw [eσ21]; exact hP
          have hD : va_D (kA s0) (wX ad cI κ o σ21) := by rw [eσ21]; exact hD
          have hwσ21 : σ21.1 = σ1.1 := by rw [eσ21]; exact hwσ20
          refine lv_iinc (v := (nI 4)) (lv' := [(3, .int (nI 4)), (0, .ref (ad 17)), (1, .int (nI j3)), (2, .int (nI j9))]) hx hb d_Mod_copy_76 hl (k := 0) rfl (nI_1 _) (by decide) rfl (fun ls hl => ?_)
          refine lv_goto (tgt := 51) hx hb d_Mod_copy_79 (by decide) ?_
          refine lv_iload_n hx hb d_Mod_copy_51 rfl (lv_at hl 0 rfl) ?_
          refine lv_iconst (v := (nI 4)) hx hb d_Mod_copy_52 (by decide) ?_
          refine k_geN (tgt := 82) (by decide) (by decide) hx hb d_Mod_copy_53 (by decide) (fun _ => ?_) (fun h9 => absurd h9 (by decide))
          refine lv_iconst (v := (nI 1)) hx hb d_Mod_copy_82 (by decide) ?_
          exact k_retWI hx hb hr hlocks d_Mod_copy_83 hP hD hS (by rw [e0]; subst eσ21 eσ20 eσ19 eσ18; first | rfl | (simp [rs_copy, inn, rqn, fin, rOkV, m_copy, cp, hq2, hq8, hq14, hq16]; done) | (simp [rs_copy, inn, rqn, fin, rOkV, m_copy, cp, hq2, hq8, hq14, hq16]; rfl) | (simp [rs_copy, inn, rqn, fin, rOkV, m_copy, cp, hq2, hq8, hq14, hq16]; done) | (simp [rs_copy, inn, rqn, fin, rOkV, m_copy, cp, hq2, hq8, hq14, hq16]; rfl) | (simp only [rs_copy, inn, rqn, fin, rOkV, m_copy, cp, hq2, hq8, hq14, hq16]; rfl))
set_option maxHeartbeats 4000000 in
set_option maxRecDepth 100000 in
theorem c_Mod_read {l : Launch} {s0 : State} {a0 : Array Value} {D : va_G} {cI cL : ClassId} (K0 : k0 l s0 a0 D cI cL) (ad : Nat → Nat) (κ : kS) (o : va_W) (σ : kS) (y : Int32) (ok : kOr σ) : kMet l y_Mod_read (Cond.code y_Mod_read b_Mod_read 3 (some .int)) (rmL 2) [.ref (ad 17), .int y] (kPre D vwCl s0 (wX ad cI κ o) σ) (.ok (fin (t0 σ) (rs_read (t0 σ) y))) (kBw D vwCl s0 (wX ad cI κ o)) := by
  refine k_of (by decide) (Nat.le_of_ble_eq_true rfl) ?_
  intro p e9 s m below meth c hx hb hr hlocks hown hml hex hpre ls hl
  obtain ⟨hE, hP, hD⟩ := hpre
  obtain ⟨hts, hK⟩ := K0.at (args := ([.ref (ad 17), .int y] : List Value).toArray) hE
  have hl : lv_has ls 3 [(0, .ref (ad 17)), (1, .int y)] := hl
  have hS : va_S (kA s0) s.heap s.heap [] := va_S.rf
  refine lv_aload_n hx hb d_Mod_read_0 rfl (lv_at hl 0 rfl) ?_
  refine lv_iconst (v := (nI 0)) hx hb d_Mod_read_1 (by decide) ?_
  refine va_put (D := D) (ci := nMod) (v := .int (nI 0)) (ty := .int) (C := R_Mod) (T := T_Mod) (N := 15) hx hb hts i_Mod ty_Mod ty_Mod_ok nm_Mod hown hK hP hD hS 17 rfl rfl 0 (by decide) (hts _ tw_655) (fun _ h9 => h9) rfl (by decide +kernel) rfl rfl (Nat.le_of_ble_eq_true rfl) d_Mod_read_2 (fun H locs hP hD hS => ?_)
  obtain ⟨σ1, eσ1⟩ : ∃ z : kS, z = (sw σ 2 0 (nI 0)) := ⟨_, rfl⟩
  have hP : va_P D vwCl (wX ad cI κ o σ1) H := by rw [eσ1]; exact hP
  have hD : va_D (kA s0) (wX ad cI κ o σ1) := by rw [eσ1]; exact hD
  have e0 : t0 σ = σ1 := eσ1.symm
  have ok1 : kOr σ1 := by rw [eσ1]; exact ok
  obtain ⟨o1, o2, o3, o4, o5, o6, o7, o8, o10, o0, ⟨oc1, oc2⟩, oc3, or6⟩ := id ok1
  have hr0 : σ1.1 6 (σ1.1 11 0) ≠ 0 := or6 _ oc2 (by omega)
  have hr1 : σ1.1 6 (σ1.1 11 0) < 21 := o6 _ oc2
  refine lv_iload_n hx hb d_Mod_read_5 rfl (lv_at hl 1 rfl) ?_
  refine lv_iconst (v := (nI 0)) hx hb d_Mod_read_6 (by decide) ?_
  refine lv_bipush (v := (nI 63)) hx hb d_Mod_read_7 (by decide) ?_
  rcases hq7 : rg y 0 63 with _ | j8
  · refine k_callR (k_atS (As := [.int y, .int (nI 0), .int (nI 63)]) hx hb hown hE.1 (K0.w tw_714) rfl k_w9 (hts _ tw_712) (hts _ tw_713) (hts _ tw_5) (by decide) np_Mod_in rfl d_Mod_read_9) (kz_n hq7 (c_Mod_in K0 ad κ o σ1 y 0 63 (by decide) (by decide))) (hl.1.trans hml.symm) (Nat.le_of_ble_eq_true rfl) ⟨Nat.le_of_ble_eq_true rfl, Nat.le_of_ble_eq_true rfl, Nat.le_of_ble_eq_true rfl, Nat.le_of_ble_eq_true rfl⟩ (fun U hU hW => ⟨hE.go hW hU hS, by rw [hU]; exact hP, hD⟩) ?_
    refine k_ifN0 (tgt := 21) (by decide) hx hb d_Mod_read_12 (by decide) (fun h9 => absurd h9 (by decide)) (fun _ => ?_)
    refine lv_aload_n hx hb d_Mod_read_15 rfl (lv_at hl 0 rfl) ?_
    refine lv_iconst (v := (nI 1)) hx hb d_Mod_read_16 (by decide) ?_
    refine k_callW (k_atV (As := [.int (nI 1)]) hx hb hown hE.1 (K0.w tw_721) (hts _ tw_718) (hts _ tw_720) (hts _ tw_9020) (hts _ tw_5) (by decide) np_Mod_raise (va_recv hK hP (ci := nMod) (q0 := 17) rfl rfl) rfl d_Mod_read_17) (c_Mod_raise K0 ad κ o σ1 (nI 1)) (hl.1.trans hml.symm) (Nat.le_of_ble_eq_true rfl) ⟨Nat.le_of_ble_eq_true rfl, Nat.le_of_ble_eq_true rfl, Nat.le_of_ble_eq_true rfl, Nat.le_of_ble_eq_true rfl⟩ (fun U hU hW => ⟨hE.go hW hU hS, by rw [hU]; exact hP, hD⟩) hS (fun H locs hP hD hS => ?_)
    obtain ⟨σ12, eσ12⟩ : ∃ z : kS, z = (sw σ1 2 0 (nI 1)) := ⟨_, rfl⟩
    have hP : va_P D vwCl (wX ad cI κ o σ12) H := by rw [eσ12]; exact hP
    have hD : va_D (kA s0) (wX ad cI κ o σ12) := by rw [eσ12]; exact hD
    have hwσ12 : σ12.1 = σ1.1 := by rw [eσ12]; exact rfl
    exact k_retWI hx hb hr hlocks d_Mod_read_20 hP hD hS (by rw [e0]; subst eσ12; first | rfl | (simp [rs_read, inn, rqn, fin, rOkV, rz_read, hq7]; done) | (simp [rs_read, inn, rqn, fin, rOkV, rz_read, hq7]; rfl) | (simp [rs_read, inn, rqn, fin, rOkV, rz_read, hq7]; done) | (simp [rs_read, inn, rqn, fin, rOkV, rz_read, hq7]; rfl) | (simp only [rs_read, inn, rqn, fin, rOkV, rz_read, hq7]; rfl))
  · refine k_callR (k_atS (As := [.int y, .int (nI 0), .int (nI 63)]) hx hb hown hE.1 (K0.w tw_714) rfl k_w9 (hts _ tw_712) (hts _ tw_713) (hts _ tw_5) (by decide) np_Mod_in rfl d_Mod_read_9) (kz_s hq7 (c_Mod_in K0 ad κ o σ1 y 0 63 (by decide) (by decide))) (hl.1.trans hml.symm) (Nat.le_of_ble_eq_true rfl) ⟨Nat.le_of_ble_eq_true rfl, Nat.le_of_ble_eq_true rfl, Nat.le_of_ble_eq_true rfl, Nat.le_of_ble_eq_true rfl⟩ (fun U hU hW => ⟨hE.go hW hU hS, by rw [hU]; exact hP, hD⟩) ?_
    obtain ⟨rfl, ha9, hb_10, hc_11⟩ := rg_some hq7
    refine k_ifN0 (tgt := 21) (by decide) hx hb d_Mod_read_12 (by decide) (fun _ => ?_) (fun h9 => absurd h9 (by decide))
    refine lv_aload_n hx hb d_Mod_read_21 rfl (lv_at hl 0 rfl) ?_
    refine lv_iload_n hx hb d_Mod_read_22 rfl (lv_at hl 1 rfl) ?_
    refine lv_iconst (v := (nI 1)) hx hb d_Mod_read_23 (by decide) ?_
    refine k_callW (k_atV (As := [.int (nI j8), .int (nI 1)]) hx hb hown hE.1 (K0.w tw_821) (hts _ tw_818) (hts _ tw_820) (hts _ tw_9032) (hts _ tw_5) (by decide) np_Mod_walk (va_recv hK hP (ci := nMod) (q0 := 17) rfl rfl) rfl d_Mod_read_24) (c_Mod_walk K0 ad κ o σ1 j8 1 ok1 (by omega)) (hl.1.trans hml.symm) (Nat.le_of_ble_eq_true rfl) ⟨Nat.le_of_ble_eq_true rfl, Nat.le_of_ble_eq_true rfl, Nat.le_of_ble_eq_true rfl, Nat.le_of_ble_eq_true rfl⟩ (fun U hU hW => ⟨hE.go hW hU hS, by rw [hU]; exact hP, hD⟩) hS (fun H locs hP hD hS => ?_)
    obtain ⟨σ13, eσ13⟩ : ∃ z : kS, z = (rwk σ1 j8 1).2 := ⟨_, rfl⟩
    have hP : va_P D vwCl (wX ad cI κ o σ13) H := by rw [eσ13]; exact hP
    have hD : va_D (kA s0) (wX ad cI κ o σ13) := by rw [eσ13]; exact hD
    have hw1 : σ13.1 = σ1.1 := by rw [eσ13]; exact rwk_1 _ _ _
    have hwl : (rwk σ1 j8 1).1 < 81 := rwk_lt ok1 _ _ (by omega)
    refine lv_istore_n (lv' := [(2, .int (pI ((rwk σ1 j8 1).1))), (0, .ref (ad 17)), (1, .int (nI j8))]) hx hb d_Mod_read_27 rfl hl (by decide) rfl (fun ls hl => ?_)
    refine lv_iload_n hx hb d_Mod_read_28 rfl (lv_at hl 0 rfl) ?_
    refine k_geP0 (tgt := 43) (by omega) hx hb d_Mod_read_29 (by decide) (fun h14 => ?_) (fun h14 => ?_)
    · refine lv_aload_n hx hb d_Mod_read_43 rfl (lv_at hl 1 rfl) ?_
      refine va_get (D := D) (ci := nMod) (v := .ref (ad 27)) (C := R_Mod) (T := T_Mod) (N := 15) hx hb hts i_Mod hown hK hP 17 rfl rfl 10 (by decide) (hts _ tw_665) (fun _ h9 => h9) rfl d_Mod_read_44 ?_
      refine lv_iload_n hx hb d_Mod_read_47 rfl (lv_at hl 0 rfl) ?_
      refine k_st (st' := [.int (nI (((rwk σ1 j8 1).1) - 1)), .ref (ad 27)]) (by show ([.int (pI ((rwk σ1 j8 1).1)), .ref (ad 27)] : List Value) = _; rw [pI_pred (t := ((rwk σ1 j8 1).1)) (by omega)]) ?_
      refine k_aldI (q0 := 27) (t0 := 0) hx hb hK hP rfl rfl (by omega) (by decide) d_Mod_read_48 ?_
      exact k_retWI hx hb hr hlocks d_Mod_read_49 hP hD hS (by rw [e0]; subst eσ13; first | rfl | (simp [rs_read, inn, rqn, fin, rOkV, rz_read, hq7, h14, beq_false_of_ne h14, bne_iff_ne.mpr h14]; done) | (simp [rs_read, inn, rqn, fin, rOkV, rz_read, hq7, h14, beq_false_of_ne h14, bne_iff_ne.mpr h14]; rfl) | (simp [rs_read, inn, rqn, fin, rOkV, rz_read, hq7, h14, beq_false_of_ne h14, bne_iff_ne.mpr h14]; done) | (simp [rs_read, inn, rqn, fin, rOkV, rz_read, hq7, h14, beq_false_of_ne h14, bne_iff_ne.mpr h14]; rfl) | (simp only [rs_read, inn, rqn, fin, rOkV, rz_read, hq7, h14, beq_false_of_ne h14, bne_iff_ne.mpr h14]; rfl))
    · refine lv_aload_n hx hb d_Mod_read_32 rfl (lv_at hl 1 rfl) ?_
      refine lv_aload_n hx hb d_Mod_read_33 rfl (lv_at hl 1 rfl) ?_
      refine va_get (D := D) (ci := nMod) (v := .int (σ13.2 2 1)) (C := R_Mod) (T := T_Mod) (N := 15) hx hb hts i_Mod hown hK hP 17 rfl rfl 14 (by decide) (hts _ tw_669) (fun _ h9 => h9) rfl d_Mod_read_34 ?_
      refine k_callW (k_atV (As := [.int (σ13.2 2 1)]) hx hb hown hE.1 (K0.w tw_721) (hts _ tw_718) (hts _ tw_720) (hts _ tw_9020) (hts _ tw_5) (by decide) np_Mod_raise (va_recv hK hP (ci := nMod) (q0 := 17) rfl rfl) rfl d_Mod_read_37) (c_Mod_raise K0 ad κ o σ13 (σ13.2 2 1)) (hl.1.trans hml.symm) (Nat.le_of_ble_eq_true rfl) ⟨Nat.le_of_ble_eq_true rfl, Nat.le_of_ble_eq_true rfl, Nat.le_of_ble_eq_true rfl, Nat.le_of_ble_eq_true rfl⟩ (fun U hU hW => ⟨hE.go hW hU hS, by rw [hU]; exact hP, hD⟩) hS (fun H locs hP hD hS => ?_)
      obtain ⟨σ15, eσ15⟩ : ∃ z : kS, z = (sw σ13 2 0 (σ13.2 2 1)) := ⟨_, rfl⟩
      have hP : va_P D vwCl (wX ad cI κ o σ15) H := by rw [eσ15]; exact hP
      have hD : va_D (kA s0) (wX ad cI κ o σ15) := by rw [eσ15]; exact hD
      have hwσ15 : σ15.1 = σ1.1 := by rw [eσ15]; exact hw1
      refine lv_goto (tgt := 49) hx hb d_Mod_read_40 (by decide) ?_
      exact k_retWI hx hb hr hlocks d_Mod_read_49 hP hD hS (by rw [e0]; subst eσ15 eσ13; first | rfl | (simp [rs_read, inn, rqn, fin, rOkV, rz_read, hq7, h14]; done) | (simp [rs_read, inn, rqn, fin, rOkV, rz_read, hq7, h14]; rfl) | (simp [rs_read, inn, rqn, fin, rOkV, rz_read, hq7, beq_iff_eq.mpr h14, kbne h14]; done) | (simp [rs_read, inn, rqn, fin, rOkV, rz_read, hq7, beq_iff_eq.mpr h14, kbne h14]; rfl) | (simp only [rs_read, inn, rqn, fin, rOkV, rz_read, hq7, h14]; rfl))
set_option maxHeartbeats 4000000 in
set_option maxRecDepth 100000 in
theorem c_Mod_write {l : Launch} {s0 : State} {a0 : Array Value} {D : va_G} {cI cL : ClassId} (K0 : k0 l s0 a0 D cI cL) (ad : Nat → Nat) (κ : kS) (o : va_W) (σ : kS) (y : Int32) (v : Int32) (ok : kOr σ) : kMet l y_Mod_write (Cond.code y_Mod_write b_Mod_write 5 (some .int)) (rmL 2) [.ref (ad 17), .int y, .int v] (kPre D vwCl s0 (wX ad cI κ o) σ) (.ok (fin (t0 σ) (rs_write (t0 σ) y v))) (kBw D vwCl s0 (wX ad cI κ o)) := by
  refine k_of (by decide) (Nat.le_of_ble_eq_true rfl) ?_
  intro p e9 s m below meth c hx hb hr hlocks hown hml hex hpre ls hl
  obtain ⟨hE, hP, hD⟩ := hpre
  obtain ⟨hts, hK⟩ := K0.at (args := ([.ref (ad 17), .int y, .int v] : List Value).toArray) hE
  have hl : lv_has ls 5 [(0, .ref (ad 17)), (1, .int y), (2, .int v)] := hl
  have hS : va_S (kA s0) s.heap s.heap [] := va_S.rf
  refine lv_aload_n hx hb d_Mod_write_0 rfl (lv_at hl 0 rfl) ?_
  refine lv_iconst (v := (nI 0)) hx hb d_Mod_write_1 (by decide) ?_
  refine va_put (D := D) (ci := nMod) (v := .int (nI 0)) (ty := .int) (C := R_Mod) (T := T_Mod) (N := 15) hx hb hts i_Mod ty_Mod ty_Mod_ok nm_Mod hown hK hP hD hS 17 rfl rfl 0 (by decide) (hts _ tw_655) (fun _ h9 => h9) rfl (by decide +kernel) rfl rfl (Nat.le_of_ble_eq_true rfl) d_Mod_write_2 (fun H locs hP hD hS => ?_)
  obtain ⟨σ1, eσ1⟩ : ∃ z : kS, z = (sw σ 2 0 (nI 0)) := ⟨_, rfl⟩
  have hP : va_P D vwCl (wX ad cI κ o σ1) H := by rw [eσ1]; exact hP
  have hD : va_D (kA s0) (wX ad cI κ o σ1) := by rw [eσ1]; exact hD
  have e0 : t0 σ = σ1 := eσ1.symm
  have ok1 : kOr σ1 := by rw [eσ1]; exact ok
  obtain ⟨o1, o2, o3, o4, o5, o6, o7, o8, o10, o0, ⟨oc1, oc2⟩, oc3, or6⟩ := id ok1
  have hr0 : σ1.1 6 (σ1.1 11 0) ≠ 0 := or6 _ oc2 (by omega)
  have hr1 : σ1.1 6 (σ1.1 11 0) < 21 := o6 _ oc2
  refine lv_iload_n hx hb d_Mod_write_5 rfl (lv_at hl 1 rfl) ?_
  refine lv_iconst (v := (nI 0)) hx hb d_Mod_write_6 (by decide) ?_
  refine lv_bipush (v := (nI 63)) hx hb d_Mod_write_7 (by decide) ?_
  rcases hq7 : rg y 0 63 with _ | j8
  · refine k_callR (k_atS (As := [.int y, .int (nI 0), .int (nI 63)]) hx hb hown hE.1 (K0.w tw_714) rfl k_w9 (hts _ tw_712) (hts _ tw_713) (hts _ tw_5) (by decide) np_Mod_in rfl d_Mod_write_9) (kz_n hq7 (c_Mod_in K0 ad κ o σ1 y 0 63 (by decide) (by decide))) (hl.1.trans hml.symm) (Nat.le_of_ble_eq_true rfl) ⟨Nat.le_of_ble_eq_true rfl, Nat.le_of_ble_eq_true rfl, Nat.le_of_ble_eq_true rfl, Nat.le_of_ble_eq_true rfl⟩ (fun U hU hW => ⟨hE.go hW hU hS, by rw [hU]; exact hP, hD⟩) ?_
    refine k_ifN0 (tgt := 21) (by decide) hx hb d_Mod_write_12 (by decide) (fun h9 => absurd h9 (by decide)) (fun _ => ?_)
    refine lv_aload_n hx hb d_Mod_write_15 rfl (lv_at hl 0 rfl) ?_
    refine lv_iconst (v := (nI 1)) hx hb d_Mod_write_16 (by decide) ?_
    refine k_callW (k_atV (As := [.int (nI 1)]) hx hb hown hE.1 (K0.w tw_721) (hts _ tw_718) (hts _ tw_720) (hts _ tw_9020) (hts _ tw_5) (by decide) np_Mod_raise (va_recv hK hP (ci := nMod) (q0 := 17) rfl rfl) rfl d_Mod_write_17) (c_Mod_raise K0 ad κ o σ1 (nI 1)) (hl.1.trans hml.symm) (Nat.le_of_ble_eq_true rfl) ⟨Nat.le_of_ble_eq_true rfl, Nat.le_of_ble_eq_true rfl, Nat.le_of_ble_eq_true rfl, Nat.le_of_ble_eq_true rfl⟩ (fun U hU hW => ⟨hE.go hW hU hS, by rw [hU]; exact hP, hD⟩) hS (fun H locs hP hD hS => ?_)
    obtain ⟨σ12, eσ12⟩ : ∃ z : kS, z = (sw σ1 2 0 (nI 1)) := ⟨_, rfl⟩
    have hP : va_P D vwCl (wX ad cI κ o σ12) H := by rw [eσ12]; exact hP
    have hD : va_D (kA s0) (wX ad cI κ o σ12) := by rw [eσ12]; exact hD
    have hwσ12 : σ12.1 = σ1.1 := by rw [eσ12]; exact rfl
    exact k_retWI hx hb hr hlocks d_Mod_write_20 hP hD hS (by rw [e0]; subst eσ12; first | rfl | (simp [rs_write, inn, rqn, fin, rOkV, rz_write, hq7]; done) | (simp [rs_write, inn, rqn, fin, rOkV, rz_write, hq7]; rfl) | (simp [rs_write, inn, rqn, fin, rOkV, rz_write, hq7]; done) | (simp [rs_write, inn, rqn, fin, rOkV, rz_write, hq7]; rfl) | (simp only [rs_write, inn, rqn, fin, rOkV, rz_write, hq7]; rfl))
  · refine k_callR (k_atS (As := [.int y, .int (nI 0), .int (nI 63)]) hx hb hown hE.1 (K0.w tw_714) rfl k_w9 (hts _ tw_712) (hts _ tw_713) (hts _ tw_5) (by decide) np_Mod_in rfl d_Mod_write_9) (kz_s hq7 (c_Mod_in K0 ad κ o σ1 y 0 63 (by decide) (by decide))) (hl.1.trans hml.symm) (Nat.le_of_ble_eq_true rfl) ⟨Nat.le_of_ble_eq_true rfl, Nat.le_of_ble_eq_true rfl, Nat.le_of_ble_eq_true rfl, Nat.le_of_ble_eq_true rfl⟩ (fun U hU hW => ⟨hE.go hW hU hS, by rw [hU]; exact hP, hD⟩) ?_
    obtain ⟨rfl, ha9, hb_10, hc_11⟩ := rg_some hq7
    refine k_ifN0 (tgt := 21) (by decide) hx hb d_Mod_write_12 (by decide) (fun _ => ?_) (fun h9 => absurd h9 (by decide))
    refine lv_aload_n hx hb d_Mod_write_21 rfl (lv_at hl 0 rfl) ?_
    refine lv_iload_n hx hb d_Mod_write_22 rfl (lv_at hl 1 rfl) ?_
    refine lv_iconst (v := (nI 2)) hx hb d_Mod_write_23 (by decide) ?_
    refine k_callW (k_atV (As := [.int (nI j8), .int (nI 2)]) hx hb hown hE.1 (K0.w tw_821) (hts _ tw_818) (hts _ tw_820) (hts _ tw_9032) (hts _ tw_5) (by decide) np_Mod_walk (va_recv hK hP (ci := nMod) (q0 := 17) rfl rfl) rfl d_Mod_write_24) (c_Mod_walk K0 ad κ o σ1 j8 2 ok1 (by omega)) (hl.1.trans hml.symm) (Nat.le_of_ble_eq_true rfl) ⟨Nat.le_of_ble_eq_true rfl, Nat.le_of_ble_eq_true rfl, Nat.le_of_ble_eq_true rfl, Nat.le_of_ble_eq_true rfl⟩ (fun U hU hW => ⟨hE.go hW hU hS, by rw [hU]; exact hP, hD⟩) hS (fun H locs hP hD hS => ?_)
    obtain ⟨σ13, eσ13⟩ : ∃ z : kS, z = (rwk σ1 j8 2).2 := ⟨_, rfl⟩
    have hP : va_P D vwCl (wX ad cI κ o σ13) H := by rw [eσ13]; exact hP
    have hD : va_D (kA s0) (wX ad cI κ o σ13) := by rw [eσ13]; exact hD
    have hw1 : σ13.1 = σ1.1 := by rw [eσ13]; exact rwk_1 _ _ _
    have hwl : (rwk σ1 j8 2).1 < 81 := rwk_lt ok1 _ _ (by omega)
    refine lv_istore_n (lv' := [(3, .int (pI ((rwk σ1 j8 2).1))), (0, .ref (ad 17)), (1, .int (nI j8)), (2, .int v)]) hx hb d_Mod_write_27 rfl hl (by decide) rfl (fun ls hl => ?_)
    refine lv_iload_n hx hb d_Mod_write_28 rfl (lv_at hl 0 rfl) ?_
    refine k_geP0 (tgt := 41) (by omega) hx hb d_Mod_write_29 (by decide) (fun h14 => ?_) (fun h14 => ?_)
    · refine lv_aload_n hx hb d_Mod_write_41 rfl (lv_at hl 1 rfl) ?_
      refine va_get (D := D) (ci := nMod) (v := .ref (ad 27)) (C := R_Mod) (T := T_Mod) (N := 15) hx hb hts i_Mod hown hK hP 17 rfl rfl 10 (by decide) (hts _ tw_665) (fun _ h9 => h9) rfl d_Mod_write_42 ?_
      refine lv_iload_n hx hb d_Mod_write_45 rfl (lv_at hl 0 rfl) ?_
      refine k_st (st' := [.int (nI (((rwk σ1 j8 2).1) - 1)), .ref (ad 27)]) (by show ([.int (pI ((rwk σ1 j8 2).1)), .ref (ad 27)] : List Value) = _; rw [pI_pred (t := ((rwk σ1 j8 2).1)) (by omega)]) ?_
      refine k_aldI (q0 := 27) (t0 := 0) hx hb hK hP rfl rfl (by omega) (by decide) d_Mod_write_46 ?_
      refine lv_istore (lv' := [(4, .int (σ13.2 0 (((rwk σ1 j8 2).1) - 1))), (3, .int (pI ((rwk σ1 j8 2).1))), (0, .ref (ad 17)), (1, .int (nI j8)), (2, .int v)]) hx hb d_Mod_write_47 hl (by decide) rfl (fun ls hl => ?_)
      refine lv_aload_n hx hb d_Mod_write_49 rfl (lv_at hl 2 rfl) ?_
      refine va_get (D := D) (ci := nMod) (v := .ref (ad 27)) (C := R_Mod) (T := T_Mod) (N := 15) hx hb hts i_Mod hown hK hP 17 rfl rfl 10 (by decide) (hts _ tw_665) (fun _ h9 => h9) rfl d_Mod_write_50 ?_
      refine lv_iload_n hx hb d_Mod_write_53 rfl (lv_at hl 1 rfl) ?_
      refine lv_iload_n hx hb d_Mod_write_54 rfl (lv_at hl 4 rfl) ?_
      refine k_st (st' := [.int v, .int (nI (((rwk σ1 j8 2).1) - 1)), .ref (ad 27)]) (by show ([.int v, .int (pI ((rwk σ1 j8 2).1)), .ref (ad 27)] : List Value) = _; rw [pI_pred (t := ((rwk σ1 j8 2).1)) (by omega)]) ?_
      refine k_astI (q0 := 27) (t0 := 0) hx hb hK hP hD hS rfl rfl (by omega) (by decide) d_Mod_write_55 (fun H locs hP hD hS => ?_)
      obtain ⟨σ15, eσ15⟩ : ∃ z : kS, z = (sw σ13 0 (((rwk σ1 j8 2).1) - 1) v) := ⟨_, rfl⟩
      have hP : va_P D vwCl (wX ad cI κ o σ15) H := by rw [eσ15]; exact hP
      have hD : va_D (kA s0) (wX ad cI κ o σ15) := by rw [eσ15]; exact hD
      have hwσ15 : σ15.1 = σ1.1 := by rw [eσ15]; exact hw1
      refine lv_iload hx hb d_Mod_write_56 (lv_at hl 0 rfl) ?_
      exact k_retWI hx hb hr hlocks d_Mod_write_58 hP hD hS (by rw [e0]; subst eσ15 eσ13; first | rfl | (simp [rs_write, inn, rqn, fin, rOkV, rz_write, hq7, h14, beq_false_of_ne h14, bne_iff_ne.mpr h14]; done) | (simp [rs_write, inn, rqn, fin, rOkV, rz_write, hq7, h14, beq_false_of_ne h14, bne_iff_ne.mpr h14]; rfl) | (simp [rs_write, inn, rqn, fin, rOkV, rz_write, hq7, h14, beq_false_of_ne h14, bne_iff_ne.mpr h14]; done) | (simp [rs_write, inn, rqn, fin, rOkV, rz_write, hq7, h14, beq_false_of_ne h14, bne_iff_ne.mpr h14]; rfl) | (simp only [rs_write, inn, rqn, fin, rOkV, rz_write, hq7, h14, beq_false_of_ne h14, bne_iff_ne.mpr h14]; rfl))
    · refine lv_aload_n hx hb d_Mod_write_32 rfl (lv_at hl 1 rfl) ?_
      refine lv_aload_n hx hb d_Mod_write_33 rfl (lv_at hl 1 rfl) ?_
      refine va_get (D := D) (ci := nMod) (v := .int (σ13.2 2 1)) (C := R_Mod) (T := T_Mod) (N := 15) hx hb hts i_Mod hown hK hP 17 rfl rfl 14 (by decide) (hts _ tw_669) (fun _ h9 => h9) rfl d_Mod_write_34 ?_
      refine k_callW (k_atV (As := [.int (σ13.2 2 1)]) hx hb hown hE.1 (K0.w tw_721) (hts _ tw_718) (hts _ tw_720) (hts _ tw_9020) (hts _ tw_5) (by decide) np_Mod_raise (va_recv hK hP (ci := nMod) (q0 := 17) rfl rfl) rfl d_Mod_write_37) (c_Mod_raise K0 ad κ o σ13 (σ13.2 2 1)) (hl.1.trans hml.symm) (Nat.le_of_ble_eq_true rfl) ⟨Nat.le_of_ble_eq_true rfl, Nat.le_of_ble_eq_true rfl, Nat.le_of_ble_eq_true rfl, Nat.le_of_ble_eq_true rfl⟩ (fun U hU hW => ⟨hE.go hW hU hS, by rw [hU]; exact hP, hD⟩) hS (fun H locs hP hD hS => ?_)
      obtain ⟨σ16, eσ16⟩ : ∃ z : kS, z = (sw σ13 2 0 (σ13.2 2 1)) := ⟨_, rfl⟩
      have hP : va_P D vwCl (wX ad cI κ o σ16) H := by rw [eσ16]; exact hP
      have hD : va_D (kA s0) (wX ad cI κ o σ16) := by rw [eσ16]; exact hD
      have hwσ16 : σ16.1 = σ1.1 := by rw [eσ16]; exact hw1
      exact k_retWI hx hb hr hlocks d_Mod_write_40 hP hD hS (by rw [e0]; subst eσ16 eσ13; first | rfl | (simp [rs_write, inn, rqn, fin, rOkV, rz_write, hq7, h14]; done) | (simp [rs_write, inn, rqn, fin, rOkV, rz_write, hq7, h14]; rfl) | (simp [rs_write, inn, rqn, fin, rOkV, rz_write, hq7, beq_iff_eq.mpr h14, kbne h14]; done) | (simp [rs_write, inn, rqn, fin, rOkV, rz_write, hq7, beq_iff_eq.mpr h14, kbne h14]; rfl) | (simp only [rs_write, inn, rqn, fin, rOkV, rz_write, hq7, h14]; rfl))
set_option maxHeartbeats 4000000 in
set_option maxRecDepth 100000 in
theorem c_Mod_put {l : Launch} {s0 : State} {a0 : Array Value} {D : va_G} {cI cL : ClassId} (K0 : k0 l s0 a0 D cI cL) (ad : Nat → Nat) (κ : kS) (o : va_W) (σ : kS) (x : Int32) (y : Int32) (ok : kOr σ) : kMet l y_Mod_put (Cond.code y_Mod_put b_Mod_put 5 (some .int)) (rmL 2) [.ref (ad 17), .int x, .int y] (kPre D vwCl s0 (wX ad cI κ o) σ) (.ok (fin (t0 σ) (rs_put (t0 σ) x y))) (kBw D vwCl s0 (wX ad cI κ o)) := by
  refine k_of (by decide) (Nat.le_of_ble_eq_true rfl) ?_
  intro p e9 s m below meth c hx hb hr hlocks hown hml hex hpre ls hl
  obtain ⟨hE, hP, hD⟩ := hpre
  obtain ⟨hts, hK⟩ := K0.at (args := ([.ref (ad 17), .int x, .int y] : List Value).toArray) hE
  have hl : lv_has ls 5 [(0, .ref (ad 17)), (1, .int x), (2, .int y)] := hl
  have hS : va_S (kA s0) s.heap s.heap [] := va_S.rf
  refine lv_aload_n hx hb d_Mod_put_0 rfl (lv_at hl 0 rfl) ?_
  refine lv_iconst (v := (nI 0)) hx hb d_Mod_put_1 (by decide) ?_
  refine va_put (D := D) (ci := nMod) (v := .int (nI 0)) (ty := .int) (C := R_Mod) (T := T_Mod) (N := 15) hx hb hts i_Mod ty_Mod ty_Mod_ok nm_Mod hown hK hP hD hS 17 rfl rfl 0 (by decide) (hts _ tw_655) (fun _ h9 => h9) rfl (by decide +kernel) rfl rfl (Nat.le_of_ble_eq_true rfl) d_Mod_put_2 (fun H locs hP hD hS => ?_)
  obtain ⟨σ1, eσ1⟩ : ∃ z : kS, z = (sw σ 2 0 (nI 0)) := ⟨_, rfl⟩
  have hP : va_P D vwCl (wX ad cI κ o σ1) H := by rw [eσ1]; exact hP
  have hD : va_D (kA s0) (wX ad cI κ o σ1) := by rw [eσ1]; exact hD
  have e0 : t0 σ = σ1 := eσ1.symm
  have ok1 : kOr σ1 := by rw [eσ1]; exact ok
  obtain ⟨o1, o2, o3, o4, o5, o6, o7, o8, o10, o0, ⟨oc1, oc2⟩, oc3, or6⟩ := id ok1
  have hr0 : σ1.1 6 (σ1.1 11 0) ≠ 0 := or6 _ oc2 (by omega)
  have hr1 : σ1.1 6 (σ1.1 11 0) < 21 := o6 _ oc2
  refine lv_iload_n hx hb d_Mod_put_5 rfl (lv_at hl 1 rfl) ?_
  refine lv_iconst (v := (nI 0)) hx hb d_Mod_put_6 (by decide) ?_
  refine lv_iconst (v := (nI 3)) hx hb d_Mod_put_7 (by decide) ?_
  rcases hq7 : rg x 0 3 with _ | j8
  · refine k_callR (k_atS (As := [.int x, .int (nI 0), .int (nI 3)]) hx hb hown hE.1 (K0.w tw_714) rfl k_w9 (hts _ tw_712) (hts _ tw_713) (hts _ tw_5) (by decide) np_Mod_in rfl d_Mod_put_8) (kz_n hq7 (c_Mod_in K0 ad κ o σ1 x 0 3 (by decide) (by decide))) (hl.1.trans hml.symm) (Nat.le_of_ble_eq_true rfl) ⟨Nat.le_of_ble_eq_true rfl, Nat.le_of_ble_eq_true rfl, Nat.le_of_ble_eq_true rfl, Nat.le_of_ble_eq_true rfl⟩ (fun U hU hW => ⟨hE.go hW hU hS, by rw [hU]; exact hP, hD⟩) ?_
    refine k_if0 (tgt := 24) (by decide) hx hb d_Mod_put_11 (by decide) (fun _ => ?_) (fun h9 => absurd h9 (by decide))
    refine lv_aload_n hx hb d_Mod_put_24 rfl (lv_at hl 0 rfl) ?_
    refine lv_iconst (v := (nI 1)) hx hb d_Mod_put_25 (by decide) ?_
    refine k_callW (k_atV (As := [.int (nI 1)]) hx hb hown hE.1 (K0.w tw_721) (hts _ tw_718) (hts _ tw_720) (hts _ tw_9020) (hts _ tw_5) (by decide) np_Mod_raise (va_recv hK hP (ci := nMod) (q0 := 17) rfl rfl) rfl d_Mod_put_26) (c_Mod_raise K0 ad κ o σ1 (nI 1)) (hl.1.trans hml.symm) (Nat.le_of_ble_eq_true rfl) ⟨Nat.le_of_ble_eq_true rfl, Nat.le_of_ble_eq_true rfl, Nat.le_of_ble_eq_true rfl, Nat.le_of_ble_eq_true rfl⟩ (fun U hU hW => ⟨hE.go hW hU hS, by rw [hU]; exact hP, hD⟩) hS (fun H locs hP hD hS => ?_)
    obtain ⟨σ12, eσ12⟩ : ∃ z : kS, z = (sw σ1 2 0 (nI 1)) := ⟨_, rfl⟩
    have hP : va_P D vwCl (wX ad cI κ o σ12) H := by rw [eσ12]; exact hP
    have hD : va_D (kA s0) (wX ad cI κ o σ12) := by rw [eσ12]; exact hD
    have hwσ12 : σ12.1 = σ1.1 := by rw [eσ12]; exact rfl
    exact k_retWI hx hb hr hlocks d_Mod_put_29 hP hD hS (by rw [e0]; subst eσ12; first | rfl | (simp [rs_put, inn, rqn, fin, rOkV, rz_put, st_get, hq7]; done) | (simp [rs_put, inn, rqn, fin, rOkV, rz_put, st_get, hq7]; rfl) | (simp [rs_put, inn, rqn, fin, rOkV, rz_put, st_get, hq7]; done) | (simp [rs_put, inn, rqn, fin, rOkV, rz_put, st_get, hq7]; rfl) | (simp only [rs_put, inn, rqn, fin, rOkV, rz_put, st_get, hq7]; rfl))
  · refine k_callR (k_atS (As := [.int x, .int (nI 0), .int (nI 3)]) hx hb hown hE.1 (K0.w tw_714) rfl k_w9 (hts _ tw_712) (hts _ tw_713) (hts _ tw_5) (by decide) np_Mod_in rfl d_Mod_put_8) (kz_s hq7 (c_Mod_in K0 ad κ o σ1 x 0 3 (by decide) (by decide))) (hl.1.trans hml.symm) (Nat.le_of_ble_eq_true rfl) ⟨Nat.le_of_ble_eq_true rfl, Nat.le_of_ble_eq_true rfl, Nat.le_of_ble_eq_true rfl, Nat.le_of_ble_eq_true rfl⟩ (fun U hU hW => ⟨hE.go hW hU hS, by rw [hU]; exact hP, hD⟩) ?_
    obtain ⟨rfl, ha9, hb_10, hc_11⟩ := rg_some hq7
    refine k_if0 (tgt := 24) (by decide) hx hb d_Mod_put_11 (by decide) (fun h9 => absurd h9 (by decide)) (fun _ => ?_)
    refine lv_iload_n hx hb d_Mod_put_14 rfl (lv_at hl 2 rfl) ?_
    refine lv_iconst (v := (nI 0)) hx hb d_Mod_put_15 (by decide) ?_
    refine lv_bipush (v := (nI 63)) hx hb d_Mod_put_16 (by decide) ?_
    rcases hq18 : rg y 0 63 with _ | j19
    · refine k_callR (k_atS (As := [.int y, .int (nI 0), .int (nI 63)]) hx hb hown hE.1 (K0.w tw_714) rfl k_w9 (hts _ tw_712) (hts _ tw_713) (hts _ tw_5) (by decide) np_Mod_in rfl d_Mod_put_18) (kz_n hq18 (c_Mod_in K0 ad κ o σ1 y 0 63 (by decide) (by decide))) (hl.1.trans hml.symm) (Nat.le_of_ble_eq_true rfl) ⟨Nat.le_of_ble_eq_true rfl, Nat.le_of_ble_eq_true rfl, Nat.le_of_ble_eq_true rfl, Nat.le_of_ble_eq_true rfl⟩ (fun U hU hW => ⟨hE.go hW hU hS, by rw [hU]; exact hP, hD⟩) ?_
      refine k_ifN0 (tgt := 30) (by decide) hx hb d_Mod_put_21 (by decide) (fun h9 => absurd h9 (by decide)) (fun _ => ?_)
      refine lv_aload_n hx hb d_Mod_put_24 rfl (lv_at hl 0 rfl) ?_
      refine lv_iconst (v := (nI 1)) hx hb d_Mod_put_25 (by decide) ?_
      refine k_callW (k_atV (As := [.int (nI 1)]) hx hb hown hE.1 (K0.w tw_721) (hts _ tw_718) (hts _ tw_720) (hts _ tw_9020) (hts _ tw_5) (by decide) np_Mod_raise (va_recv hK hP (ci := nMod) (q0 := 17) rfl rfl) rfl d_Mod_put_26) (c_Mod_raise K0 ad κ o σ1 (nI 1)) (hl.1.trans hml.symm) (Nat.le_of_ble_eq_true rfl) ⟨Nat.le_of_ble_eq_true rfl, Nat.le_of_ble_eq_true rfl, Nat.le_of_ble_eq_true rfl, Nat.le_of_ble_eq_true rfl⟩ (fun U hU hW => ⟨hE.go hW hU hS, by rw [hU]; exact hP, hD⟩) hS (fun H locs hP hD hS => ?_)
      obtain ⟨σ23, eσ23⟩ : ∃ z : kS, z = (sw σ1 2 0 (nI 1)) := ⟨_, rfl⟩
      have hP : va_P D vwCl (wX ad cI κ o σ23) H := by rw [eσ23]; exact hP
      have hD : va_D (kA s0) (wX ad cI κ o σ23) := by rw [eσ23]; exact hD
      have hwσ23 : σ23.1 = σ1.1 := by rw [eσ23]; exact rfl
      exact k_retWI hx hb hr hlocks d_Mod_put_29 hP hD hS (by rw [e0]; subst eσ23; first | rfl | (simp [rs_put, inn, rqn, fin, rOkV, rz_put, st_get, hq7, hq18]; done) | (simp [rs_put, inn, rqn, fin, rOkV, rz_put, st_get, hq7, hq18]; rfl) | (simp [rs_put, inn, rqn, fin, rOkV, rz_put, st_get, hq7, hq18]; done) | (simp [rs_put, inn, rqn, fin, rOkV, rz_put, st_get, hq7, hq18]; rfl) | (simp only [rs_put, inn, rqn, fin, rOkV, rz_put, st_get, hq7, hq18]; rfl))
    · refine k_callR (k_atS (As := [.int y, .int (nI 0), .int (nI 63)]) hx hb hown hE.1 (K0.w tw_714) rfl k_w9 (hts _ tw_712) (hts _ tw_713) (hts _ tw_5) (by decide) np_Mod_in rfl d_Mod_put_18) (kz_s hq18 (c_Mod_in K0 ad κ o σ1 y 0 63 (by decide) (by decide))) (hl.1.trans hml.symm) (Nat.le_of_ble_eq_true rfl) ⟨Nat.le_of_ble_eq_true rfl, Nat.le_of_ble_eq_true rfl, Nat.le_of_ble_eq_true rfl, Nat.le_of_ble_eq_true rfl⟩ (fun U hU hW => ⟨hE.go hW hU hS, by rw [hU]; exact hP, hD⟩) ?_
      obtain ⟨rfl, ha20, hb_21, hc_22⟩ := rg_some hq18
      refine k_ifN0 (tgt := 30) (by decide) hx hb d_Mod_put_21 (by decide) (fun _ => ?_) (fun h9 => absurd h9 (by decide))
      refine lv_aload_n hx hb d_Mod_put_30 rfl (lv_at hl 0 rfl) ?_
      refine va_get (D := D) (ci := nMod) (v := .ref (ad 21)) (C := R_Mod) (T := T_Mod) (N := 15) hx hb hts i_Mod hown hK hP 17 rfl rfl 4 (by decide) (hts _ tw_659) (fun _ h9 => h9) rfl d_Mod_put_31 ?_
      refine lv_iconst (v := (nI 4)) hx hb d_Mod_put_34 (by decide) ?_
      refine lv_aload_n hx hb d_Mod_put_35 rfl (lv_at hl 0 rfl) ?_
      refine va_get (D := D) (ci := nMod) (v := .int (nI (σ1.1 11 0))) (C := R_Mod) (T := T_Mod) (N := 15) hx hb hts i_Mod hown hK hP 17 rfl rfl 13 (by decide) (hts _ tw_668) (fun _ h9 => h9) rfl d_Mod_put_36 ?_
      refine k_mulC hx hb d_Mod_put_39 ?_
      refine lv_iload_n hx hb d_Mod_put_40 rfl (lv_at hl 1 rfl) ?_
      refine k_addN hx hb d_Mod_put_41 ?_
      refine k_aldP (q0 := 21) (t0 := 0) hx hb hK hP rfl rfl (by omega) (by decide) d_Mod_put_42 ?_
      have ho24 := o7 (((σ1.1 11 0) * 4) + j8) (by omega)
      refine lv_istore_n (lv' := [(3, .int (pI (σ1.1 7 (((σ1.1 11 0) * 4) + j8)))), (0, .ref (ad 17)), (1, .int (nI j8)), (2, .int (nI j19))]) hx hb d_Mod_put_43 rfl hl (by decide) rfl (fun ls hl => ?_)
      refine lv_iload_n hx hb d_Mod_put_44 rfl (lv_at hl 0 rfl) ?_
      refine k_geP0 (tgt := 54) (ok1.b7 _ (by omega)) hx hb d_Mod_put_45 (by decide) (fun h25 => ?_) (fun h25 => ?_)
      · refine lv_aload_n hx hb d_Mod_put_54 rfl (lv_at hl 1 rfl) ?_
        refine lv_iload_n hx hb d_Mod_put_55 rfl (lv_at hl 3 rfl) ?_
        refine lv_iconst (v := (nI 1)) hx hb d_Mod_put_56 (by decide) ?_
        refine k_callW (k_atV (As := [.int (nI j19), .int (nI 1)]) hx hb hown hE.1 (K0.w tw_821) (hts _ tw_818) (hts _ tw_820) (hts _ tw_9032) (hts _ tw_5) (by decide) np_Mod_walk (va_recv hK hP (ci := nMod) (q0 := 17) rfl rfl) rfl d_Mod_put_57) (c_Mod_walk K0 ad κ o σ1 j19 1 ok1 (by omega)) (hl.1.trans hml.symm) (Nat.le_of_ble_eq_true rfl) ⟨Nat.le_of_ble_eq_true rfl, Nat.le_of_ble_eq_true rfl, Nat.le_of_ble_eq_true rfl, Nat.le_of_ble_eq_true rfl⟩ (fun U hU hW => ⟨hE.go hW hU hS, by rw [hU]; exact hP, hD⟩) hS (fun H locs hP hD hS => ?_)
        obtain ⟨σ26, eσ26⟩ : ∃ z : kS, z = (rwk σ1 j19 1).2 := ⟨_, rfl⟩
        have hP : va_P D vwCl (wX ad cI κ o σ26) H := by rw [eσ26]; exact hP
        have hD : va_D (kA s0) (wX ad cI κ o σ26) := by rw [eσ26]; exact hD
        have hw1 : σ26.1 = σ1.1 := by rw [eσ26]; exact rwk_1 _ _ _
        have hwl : (rwk σ1 j19 1).1 < 81 := rwk_lt ok1 _ _ (by omega)
        refine lv_istore (lv' := [(4, .int (pI ((rwk σ1 j19 1).1))), (3, .int (pI (σ1.1 7 (((σ1.1 11 0) * 4) + j8)))), (0, .ref (ad 17)), (1, .int (nI j8)), (2, .int (nI j19))]) hx hb d_Mod_put_60 hl (by decide) rfl (fun ls hl => ?_)
        refine lv_iload hx hb d_Mod_put_62 (lv_at hl 0 rfl) ?_
        refine k_geP0 (tgt := 76) (by omega) hx hb d_Mod_put_64 (by decide) (fun h27 => ?_) (fun h27 => ?_)
        · refine lv_aload_n hx hb d_Mod_put_76 rfl (lv_at hl 2 rfl) ?_
          refine va_get (D := D) (ci := nMod) (v := .ref (ad 29)) (C := R_Mod) (T := T_Mod) (N := 15) hx hb hts i_Mod hown hK hP 17 rfl rfl 12 (by decide) (hts _ tw_667) (fun _ h9 => h9) rfl d_Mod_put_77 ?_
          refine lv_iload_n hx hb d_Mod_put_80 rfl (lv_at hl 1 rfl) ?_
          refine k_st (st' := [.int (nI ((σ1.1 7 (((σ1.1 11 0) * 4) + j8)) - 1)), .ref (ad 29)]) (by show ([.int (pI (σ1.1 7 (((σ1.1 11 0) * 4) + j8))), .ref (ad 29)] : List Value) = _; rw [pI_pred (t := (σ1.1 7 (((σ1.1 11 0) * 4) + j8))) (by omega)]) ?_
          refine k_aldN (q0 := 29) (t0 := 0) hx hb hK hP rfl rfl (by omega) (by decide) d_Mod_put_81 ?_
          have ho28 : (σ26.1 10 ((σ1.1 7 (((σ1.1 11 0) * 4) + j8)) - 1)) = (σ1.1 10 ((σ1.1 7 (((σ1.1 11 0) * 4) + j8)) - 1)) ∧ (σ26.1 10 ((σ1.1 7 (((σ1.1 11 0) * 4) + j8)) - 1)) < 5 := by rw [hw1]; exact ⟨rfl, o10 _ (by omega)⟩
          refine lv_iconst (v := (nI 4)) hx hb d_Mod_put_82 (by decide) ?_
          refine k_neN (tgt := 92) (by omega) (by omega) hx hb d_Mod_put_83 (by decide) (fun h29 => ?_) (fun h29 => ?_)
          · refine lv_aload_n hx hb d_Mod_put_92 rfl (lv_at hl 2 rfl) ?_
            refine va_get (D := D) (ci := nMod) (v := .ref (ad 28)) (C := R_Mod) (T := T_Mod) (N := 15) hx hb hts i_Mod hown hK hP 17 rfl rfl 11 (by decide) (hts _ tw_666) (fun _ h9 => h9) rfl d_Mod_put_93 ?_
            refine lv_iconst (v := (nI 4)) hx hb d_Mod_put_96 (by decide) ?_
            refine lv_iload_n hx hb d_Mod_put_97 rfl (lv_at hl 1 rfl) ?_
            refine k_st (st' := [.int (nI ((σ1.1 7 (((σ1.1 11 0) * 4) + j8)) - 1)), .int (nI 4), .ref (ad 28)]) (by show ([.int (pI (σ1.1 7 (((σ1.1 11 0) * 4) + j8))), .int (nI 4), .ref (ad 28)] : List Value) = _; rw [pI_pred (t := (σ1.1 7 (((σ1.1 11 0) * 4) + j8))) (by omega)]) ?_
            refine k_mulC hx hb d_Mod_put_98 ?_
            refine lv_aload_n hx hb d_Mod_put_99 rfl (lv_at hl 2 rfl) ?_
            refine va_get (D := D) (ci := nMod) (v := .ref (ad 29)) (C := R_Mod) (T := T_Mod) (N := 15) hx hb hts i_Mod hown hK hP 17 rfl rfl 12 (by decide) (hts _ tw_667) (fun _ h9 => h9) rfl d_Mod_put_100 ?_
            refine lv_iload_n hx hb d_Mod_put_103 rfl (lv_at hl 1 rfl) ?_
            refine k_st (st' := [.int (nI ((σ1.1 7 (((σ1.1 11 0) * 4) + j8)) - 1)), .ref (ad 29), .int (nI (((σ1.1 7 (((σ1.1 11 0) * 4) + j8)) - 1) * 4)), .ref (ad 28)]) (by show ([.int (pI (σ1.1 7 (((σ1.1 11 0) * 4) + j8))), .ref (ad 29), .int (nI (((σ1.1 7 (((σ1.1 11 0) * 4) + j8)) - 1) * 4)), .ref (ad 28)] : List Value) = _; rw [pI_pred (t := (σ1.1 7 (((σ1.1 11 0) * 4) + j8))) (by omega)]) ?_
            refine k_aldN (q0 := 29) (t0 := 0) hx hb hK hP rfl rfl (by omega) (by decide) d_Mod_put_104 ?_
            have ho30 : (σ26.1 10 ((σ1.1 7 (((σ1.1 11 0) * 4) + j8)) - 1)) = (σ1.1 10 ((σ1.1 7 (((σ1.1 11 0) * 4) + j8)) - 1)) ∧ (σ26.1 10 ((σ1.1 7 (((σ1.1 11 0) * 4) + j8)) - 1)) < 5 := by rw [hw1]; exact ⟨rfl, o10 _ (by omega)⟩
            refine k_addN hx hb d_Mod_put_105 ?_
            refine lv_aload_n hx hb d_Mod_put_106 rfl (lv_at hl 2 rfl) ?_
            refine va_get (D := D) (ci := nMod) (v := .ref (ad 27)) (C := R_Mod) (T := T_Mod) (N := 15) hx hb hts i_Mod hown hK hP 17 rfl rfl 10 (by decide) (hts _ tw_665) (fun _ h9 => h9) rfl d_Mod_put_107 ?_
            refine lv_iload hx hb d_Mod_put_110 (lv_at hl 0 rfl) ?_
            refine k_st (st' := [.int (nI (((rwk σ1 j19 1).1) - 1)), .ref (ad 27), .int (nI ((((σ1.1 7 (((σ1.1 11 0) * 4) + j8)) - 1) * 4) + (σ26.1 10 ((σ1.1 7 (((σ1.1 11 0) * 4) + j8)) - 1)))), .ref (ad 28)]) (by show ([.int (pI ((rwk σ1 j19 1).1)), .ref (ad 27), .int (nI ((((σ1.1 7 (((σ1.1 11 0) * 4) + j8)) - 1) * 4) + (σ26.1 10 ((σ1.1 7 (((σ1.1 11 0) * 4) + j8)) - 1)))), .ref (ad 28)] : List Value) = _; rw [pI_pred (t := ((rwk σ1 j19 1).1)) (by omega)]) ?_
            refine k_aldI (q0 := 27) (t0 := 0) hx hb hK hP rfl rfl (by omega) (by decide) d_Mod_put_112 ?_
            refine k_astI (q0 := 28) (t0 := 0) hx hb hK hP hD hS rfl rfl (by omega) (by decide) d_Mod_put_113 (fun H locs hP hD hS => ?_)
            obtain ⟨σ31, eσ31⟩ : ∃ z : kS, z = (sw σ26 1 ((((σ1.1 7 (((σ1.1 11 0) * 4) + j8)) - 1) * 4) + (σ26.1 10 ((σ1.1 7 (((σ1.1 11 0) * 4) + j8)) - 1))) (σ26.2 0 (((rwk σ1 j19 1).1) - 1))) := ⟨_, rfl⟩
            have hP : va_P D vwCl (wX ad cI κ o σ31) H := by rw [eσ31]; exact hP
            have hD : va_D (kA s0) (wX ad cI κ o σ31) := by rw [eσ31]; exact hD
            have hwσ31 : σ31.1 = σ1.1 := by rw [eσ31]; exact hw1
            refine lv_aload_n hx hb d_Mod_put_114 rfl (lv_at hl 2 rfl) ?_
            refine va_get (D := D) (ci := nMod) (v := .ref (ad 29)) (C := R_Mod) (T := T_Mod) (N := 15) hx hb hts i_Mod hown hK hP 17 rfl rfl 12 (by decide) (hts _ tw_667) (fun _ h9 => h9) rfl d_Mod_put_115 ?_
            refine lv_iload_n hx hb d_Mod_put_118 rfl (lv_at hl 1 rfl) ?_
            refine lv_dup2_11 hx hb d_Mod_put_119 rfl rfl ?_
            refine k_st (st' := [.int (nI ((σ1.1 7 (((σ1.1 11 0) * 4) + j8)) - 1)), .ref (ad 29), .int (pI (σ1.1 7 (((σ1.1 11 0) * 4) + j8))), .ref (ad 29)]) (by show ([.int (pI (σ1.1 7 (((σ1.1 11 0) * 4) + j8))), .ref (ad 29), .int (pI (σ1.1 7 (((σ1.1 11 0) * 4) + j8))), .ref (ad 29)] : List Value) = _; rw [pI_pred (t := (σ1.1 7 (((σ1.1 11 0) * 4) + j8))) (by omega)]) ?_
            refine k_aldN (q0 := 29) (t0 := 0) hx hb hK hP rfl rfl (by omega) (by decide) d_Mod_put_120 ?_
            have ho32 : (σ31.1 10 ((σ1.1 7 (((σ1.1 11 0) * 4) + j8)) - 1)) = (σ1.1 10 ((σ1.1 7 (((σ1.1 11 0) * 4) + j8)) - 1)) ∧ (σ31.1 10 ((σ1.1 7 (((σ1.1 11 0) * 4) + j8)) - 1)) < 5 := by rw [hwσ31]; exact ⟨rfl, o10 _ (by omega)⟩
            refine lv_iconst (v := (nI 1)) hx hb d_Mod_put_121 (by decide) ?_
            refine k_addN hx hb d_Mod_put_122 ?_
            refine k_st (st' := [.int (nI ((σ31.1 10 ((σ1.1 7 (((σ1.1 11 0) * 4) + j8)) - 1)) + 1)), .int (nI ((σ1.1 7 (((σ1.1 11 0) * 4) + j8)) - 1)), .ref (ad 29)]) (by show ([.int (nI ((σ31.1 10 ((σ1.1 7 (((σ1.1 11 0) * 4) + j8)) - 1)) + 1)), .int (pI (σ1.1 7 (((σ1.1 11 0) * 4) + j8))), .ref (ad 29)] : List Value) = _; rw [pI_pred (t := (σ1.1 7 (((σ1.1 11 0) * 4) + j8))) (by omega)]) ?_
            refine k_astN (q0 := 29) (t0 := 0) hx hb hK hP hD hS rfl rfl (by omega) (by decide) d_Mod_put_123 (fun H locs hP hD hS => ?_)
            obtain ⟨σ33, eσ33⟩ : ∃ z : kS, z = (st σ31 10 ((σ1.1 7 (((σ1.1 11 0) * 4) + j8)) - 1) ((σ31.1 10 ((σ1.1 7 (((σ1.1 11 0) * 4) + j8)) - 1)) + 1)) := ⟨_, rfl⟩
            have hP : va_P D vwCl (wX ad cI κ o σ33) H := by rw [eσ33]; exact hP
            have hD : va_D (kA s0) (wX ad cI κ o σ33) := by rw [eσ33]; exact hD
            refine lv_aload_n hx hb d_Mod_put_124 rfl (lv_at hl 2 rfl) ?_
            refine va_get (D := D) (ci := nMod) (v := .ref (ad 29)) (C := R_Mod) (T := T_Mod) (N := 15) hx hb hts i_Mod hown hK hP 17 rfl rfl 12 (by decide) (hts _ tw_667) (fun _ h9 => h9) rfl d_Mod_put_125 ?_
            refine lv_iload_n hx hb d_Mod_put_128 rfl (lv_at hl 1 rfl) ?_
            refine k_st (st' := [.int (nI ((σ1.1 7 (((σ1.1 11 0) * 4) + j8)) - 1)), .ref (ad 29)]) (by show ([.int (pI (σ1.1 7 (((σ1.1 11 0) * 4) + j8))), .ref (ad 29)] : List Value) = _; rw [pI_pred (t := (σ1.1 7 (((σ1.1 11 0) * 4) + j8))) (by omega)]) ?_
            refine k_aldN (q0 := 29) (t0 := 0) hx hb hK hP rfl rfl (by omega) (by decide) d_Mod_put_129 ?_
            exact k_retWI hx hb hr hlocks d_Mod_put_130 hP hD hS (by rw [e0]; subst eσ33 eσ31 eσ26; first | rfl | (simp [rs_put, inn, rqn, fin, rOkV, rz_put, st_get, hq7, hq18, h25, h27, h29, beq_false_of_ne h25, beq_false_of_ne h27, beq_false_of_ne h29, bne_iff_ne.mpr h25, bne_iff_ne.mpr h27, bne_iff_ne.mpr h29]; done) | (simp [rs_put, inn, rqn, fin, rOkV, rz_put, st_get, hq7, hq18, h25, h27, h29, beq_false_of_ne h25, beq_false_of_ne h27, beq_false_of_ne h29, bne_iff_ne.mpr h25, bne_iff_ne.mpr h27, bne_iff_ne.mpr h29]; rfl) | (simp [rs_put, inn, rqn, fin, rOkV, rz_put, st_get, hq7, hq18, h25, h27, h29, beq_false_of_ne h25, beq_false_of_ne h27, beq_false_of_ne h29, bne_iff_ne.mpr h25, bne_iff_ne.mpr h27, bne_iff_ne.mpr h29]; done) | (simp [rs_put, inn, rqn, fin, rOkV, rz_put, st_get, hq7, hq18, h25, h27, h29, beq_false_of_ne h25, beq_false_of_ne h27, beq_false_of_ne h29, bne_iff_ne.mpr h25, bne_iff_ne.mpr h27, bne_iff_ne.mpr h29]; rfl) | (simp only [rs_put, inn, rqn, fin, rOkV, rz_put, st_get, hq7, hq18, h25, h27, h29, beq_false_of_ne h25, beq_false_of_ne h27, beq_false_of_ne h29, bne_iff_ne.mpr h25, bne_iff_ne.mpr h27, bne_iff_ne.mpr h29]; rfl))
          · refine lv_aload_n hx hb d_Mod_put_86 rfl (lv_at hl 2 rfl) ?_
            refine lv_iconst (v := (nI 4)) hx hb d_Mod_put_87 (by decide) ?_
            refine k_callW (k_atV (As := [.int (nI 4)]) hx hb hown hE.1 (K0.w tw_721) (hts _ tw_718) (hts _ tw_720) (hts _ tw_9020) (hts _ tw_5) (by decide) np_Mod_raise (va_recv hK hP (ci := nMod) (q0 := 17) rfl rfl) rfl d_Mod_put_88) (c_Mod_raise K0 ad κ o σ26 (nI 4)) (hl.1.trans hml.symm) (Nat.le_of_ble_eq_true rfl) ⟨Nat.le_of_ble_eq_true rfl, Nat.le_of_ble_eq_true rfl, Nat.le_of_ble_eq_true rfl, Nat.le_of_ble_eq_true rfl⟩ (fun U hU hW => ⟨hE.go hW hU hS, by rw [hU]; exact hP, hD⟩) hS (fun H locs hP hD hS => ?_)
            obtain ⟨σ34, eσ34⟩ : ∃ z : kS, z = (sw σ26 2 0 (nI 4)) := ⟨_, rfl⟩
            have hP : va_P D vwCl (wX ad cI κ o σ34) H := by rw [eσ34]; exact hP
            have hD : va_D (kA s0) (wX ad cI κ o σ34) := by rw [eσ34]; exact hD
            have hwσ34 : σ34.1 = σ1.1 := by rw [eσ34]; exact hw1
            exact k_retWI hx hb hr hlocks d_Mod_put_91 hP hD hS (by rw [e0]; subst eσ34 eσ26; first | rfl | (simp [rs_put, inn, rqn, fin, rOkV, rz_put, st_get, hq7, hq18, h25, h27, h29, beq_false_of_ne h25, beq_false_of_ne h27, bne_iff_ne.mpr h25, bne_iff_ne.mpr h27]; done) | (simp [rs_put, inn, rqn, fin, rOkV, rz_put, st_get, hq7, hq18, h25, h27, h29, beq_false_of_ne h25, beq_false_of_ne h27, bne_iff_ne.mpr h25, bne_iff_ne.mpr h27]; rfl) | (simp [rs_put, inn, rqn, fin, rOkV, rz_put, st_get, hq7, hq18, h25, h27, beq_iff_eq.mpr h29, kbne h29, beq_false_of_ne h25, beq_false_of_ne h27, bne_iff_ne.mpr h25, bne_iff_ne.mpr h27]; done) | (simp [rs_put, inn, rqn, fin, rOkV, rz_put, st_get, hq7, hq18, h25, h27, beq_iff_eq.mpr h29, kbne h29, beq_false_of_ne h25, beq_false_of_ne h27, bne_iff_ne.mpr h25, bne_iff_ne.mpr h27]; rfl) | (simp only [rs_put, inn, rqn, fin, rOkV, rz_put, st_get, hq7, hq18, h25, h27, h29, beq_false_of_ne h25, beq_false_of_ne h27, bne_iff_ne.mpr h25, bne_iff_ne.mpr h27]; rfl))
        · refine lv_aload_n hx hb d_Mod_put_67 rfl (lv_at hl 2 rfl) ?_
          refine lv_aload_n hx hb d_Mod_put_68 rfl (lv_at hl 2 rfl) ?_
          refine va_get (D := D) (ci := nMod) (v := .int (σ26.2 2 1)) (C := R_Mod) (T := T_Mod) (N := 15) hx hb hts i_Mod hown hK hP 17 rfl rfl 14 (by decide) (hts _ tw_669) (fun _ h9 => h9) rfl d_Mod_put_69 ?_
          refine k_callW (k_atV (As := [.int (σ26.2 2 1)]) hx hb hown hE.1 (K0.w tw_721) (hts _ tw_718) (hts _ tw_720) (hts _ tw_9020) (hts _ tw_5) (by decide) np_Mod_raise (va_recv hK hP (ci := nMod) (q0 := 17) rfl rfl) rfl d_Mod_put_72) (c_Mod_raise K0 ad κ o σ26 (σ26.2 2 1)) (hl.1.trans hml.symm) (Nat.le_of_ble_eq_true rfl) ⟨Nat.le_of_ble_eq_true rfl, Nat.le_of_ble_eq_true rfl, Nat.le_of_ble_eq_true rfl, Nat.le_of_ble_eq_true rfl⟩ (fun U hU hW => ⟨hE.go hW hU hS, by rw [hU]; exact hP, hD⟩) hS (fun H locs hP hD hS => ?_)
          obtain ⟨σ35, eσ35⟩ : ∃ z : kS, z = (sw σ26 2 0 (σ26.2 2 1)) := ⟨_, rfl⟩
          have hP : va_P D vwCl (wX ad cI κ o σ35) H := by rw [eσ35]; exact hP
          have hD : va_D (kA s0) (wX ad cI κ o σ35) := by rw [eσ35]; exact hD
          have hwσ35 : σ35.1 = σ1.1 := by rw [eσ35]; exact hw1
          exact k_retWI hx hb hr hlocks d_Mod_put_75 hP hD hS (by rw [e0]; subst eσ35 eσ26; first | rfl | (simp [rs_put, inn, rqn, fin, rOkV, rz_put, st_get, hq7, hq18, h25, h27, beq_false_of_ne h25, bne_iff_ne.mpr h25]; done) | (simp [rs_put, inn, rqn, fin, rOkV, rz_put, st_get, hq7, hq18, h25, h27, beq_false_of_ne h25, bne_iff_ne.mpr h25]; rfl) | (simp [rs_put, inn, rqn, fin, rOkV, rz_put, st_get, hq7, hq18, h25, beq_iff_eq.mpr h27, kbne h27, beq_false_of_ne h25, bne_iff_ne.mpr h25]; done) | (simp [rs_put, inn, rqn, fin, rOkV, rz_put, st_get, hq7, hq18, h25, beq_iff_eq.mpr h27, kbne h27, beq_false_of_ne h25, bne_iff_ne.mpr h25]; rfl) | (simp only [rs_put, inn, rqn, fin, rOkV, rz_put, st_get, hq7, hq18, h25, h27, beq_false_of_ne h25, bne_iff_ne.mpr h25]; rfl))
      · refine lv_aload_n hx hb d_Mod_put_48 rfl (lv_at hl 1 rfl) ?_
        refine lv_iconst (v := (nI 2)) hx hb d_Mod_put_49 (by decide) ?_
        refine k_callW (k_atV (As := [.int (nI 2)]) hx hb hown hE.1 (K0.w tw_721) (hts _ tw_718) (hts _ tw_720) (hts _ tw_9020) (hts _ tw_5) (by decide) np_Mod_raise (va_recv hK hP (ci := nMod) (q0 := 17) rfl rfl) rfl d_Mod_put_50) (c_Mod_raise K0 ad κ o σ1 (nI 2)) (hl.1.trans hml.symm) (Nat.le_of_ble_eq_true rfl) ⟨Nat.le_of_ble_eq_true rfl, Nat.le_of_ble_eq_true rfl, Nat.le_of_ble_eq_true rfl, Nat.le_of_ble_eq_true rfl⟩ (fun U hU hW => ⟨hE.go hW hU hS, by rw [hU]; exact hP, hD⟩) hS (fun H locs hP hD hS => ?_)
        obtain ⟨σ36, eσ36⟩ : ∃ z : kS, z = (sw σ1 2 0 (nI 2)) := ⟨_, rfl⟩
        have hP : va_P D vwCl (wX ad cI κ o σ36) H := by rw [eσ36]; exact hP
        have hD : va_D (kA s0) (wX ad cI κ o σ36) := by rw [eσ36]; exact hD
        have hwσ36 : σ36.1 = σ1.1 := by rw [eσ36]; exact rfl
        exact k_retWI hx hb hr hlocks d_Mod_put_53 hP hD hS (by rw [e0]; subst eσ36; first | rfl | (simp [rs_put, inn, rqn, fin, rOkV, rz_put, st_get, hq7, hq18, h25]; done) | (simp [rs_put, inn, rqn, fin, rOkV, rz_put, st_get, hq7, hq18, h25]; rfl) | (simp [rs_put, inn, rqn, fin, rOkV, rz_put, st_get, hq7, hq18, beq_iff_eq.mpr h25, kbne h25]; done) | (simp [rs_put, inn, rqn, fin, rOkV, rz_put, st_get, hq7, hq18, beq_iff_eq.mpr h25, kbne h25]; rfl) | (simp only [rs_put, inn, rqn, fin, rOkV, rz_put, st_get, hq7, hq18, h25]; rfl))
