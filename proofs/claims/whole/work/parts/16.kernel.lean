/-! The kernel's own methods. Laid by a program of mine (wip/gen). -/
set_option maxHeartbeats 4000000 in
set_option maxRecDepth 100000 in
theorem c_FK_checkProcess {l : Launch} {s0 : State} {a0 : Array Value} {D : va_G} {cI cL : ClassId} (K0 : k0 l s0 a0 D cI cL) (ad : Nat → Nat) (r : va_W) (σ : kS) (x : Int32)  : kMet l y_FK_checkProcess (Cond.code y_FK_checkProcess b_FK_checkProcess 1 none) (rmL 7) [.int x] (kPre D vwCl s0 (wC ad cI r) σ) (inr x 1 5 fun _ => .ok (none, ())) kBr := by
  refine k_of (by decide) (Nat.le_of_ble_eq_true rfl) ?_
  intro p e9 s m below meth c hx hb hr hlocks hown hml hex hpre ls hl
  obtain ⟨hE, hP, hD⟩ := hpre
  obtain ⟨hts, hK⟩ := K0.at (args := ([.int x] : List Value).toArray) hE
  have hl : lv_has ls 1 [(0, .int x)] := hl
  have hS : va_S (kA s0) s.heap s.heap [] := va_S.rf
  refine lv_iload_n hx hb d_FK_checkProcess_0 rfl (lv_at hl 0 rfl) ?_
  refine lv_iconst (v := (nI 1)) hx hb d_FK_checkProcess_1 (by decide) ?_
  refine lv_iconst (v := (nI 5)) hx hb d_FK_checkProcess_2 (by decide) ?_
  rcases hq1 : rg x 1 5 with _ | j2
  · exact k_callE (k_atS (As := [.int x, .int (nI 1), .int (nI 5)]) hx hb hown hE.1 (K0.w tw_143) rfl k_w9 (hts _ tw_141) (hts _ tw_142) (hts _ tw_1) (by decide) np_FK_checkWithin rfl d_FK_checkProcess_3) (kn_n hq1 (c_FK_checkWithin K0 ad r σ x 1 5 (by decide) (by decide))) (hl.1.trans hml.symm) (Nat.le_of_ble_eq_true rfl) ⟨Nat.le_of_ble_eq_true rfl, Nat.le_of_ble_eq_true rfl, Nat.le_of_ble_eq_true rfl, Nat.le_of_ble_eq_true rfl⟩ (fun U hU hW => ⟨hE.go hW hU hS, by rw [hU]; exact hP, hD⟩) hex hlocks (by first | rfl | (simp [inr, eIA, eIS, eUO, eNS, hq1]; done) | (simp [inr, eIA, eIS, eUO, eNS, hq1]; rfl) | (simp [inr, eIA, eIS, eUO, eNS, hq1]; done) | (simp [inr, eIA, eIS, eUO, eNS, hq1]; rfl) | (simp only [inr, eIA, eIS, eUO, eNS, hq1]; rfl))
  · refine k_callR (k_atS (As := [.int x, .int (nI 1), .int (nI 5)]) hx hb hown hE.1 (K0.w tw_143) rfl k_w9 (hts _ tw_141) (hts _ tw_142) (hts _ tw_1) (by decide) np_FK_checkWithin rfl d_FK_checkProcess_3) (kn_s hq1 (c_FK_checkWithin K0 ad r σ x 1 5 (by decide) (by decide))) (hl.1.trans hml.symm) (Nat.le_of_ble_eq_true rfl) ⟨Nat.le_of_ble_eq_true rfl, Nat.le_of_ble_eq_true rfl, Nat.le_of_ble_eq_true rfl, Nat.le_of_ble_eq_true rfl⟩ (fun U hU hW => ⟨hE.go hW hU hS, by rw [hU]; exact hP, hD⟩) ?_
    obtain ⟨rfl, ha3, hb_4, hc_5⟩ := rg_some hq1
    exact k_retV hx hb hr hlocks d_FK_checkProcess_6 (by first | rfl | (simp [inr, eIA, eIS, eUO, eNS, hq1]; done) | (simp [inr, eIA, eIS, eUO, eNS, hq1]; rfl) | (simp [inr, eIA, eIS, eUO, eNS, hq1]; done) | (simp [inr, eIA, eIS, eUO, eNS, hq1]; rfl) | (simp only [inr, eIA, eIS, eUO, eNS, hq1]; rfl))
set_option maxHeartbeats 4000000 in
set_option maxRecDepth 100000 in
theorem c_FK_checkPage {l : Launch} {s0 : State} {a0 : Array Value} {D : va_G} {cI cL : ClassId} (K0 : k0 l s0 a0 D cI cL) (ad : Nat → Nat) (r : va_W) (σ : kS) (x : Int32)  : kMet l y_FK_checkPage (Cond.code y_FK_checkPage b_FK_checkPage 1 none) (rmL 7) [.int x] (kPre D vwCl s0 (wC ad cI r) σ) (inr x 0 19 fun _ => .ok (none, ())) kBr := by
  refine k_of (by decide) (Nat.le_of_ble_eq_true rfl) ?_
  intro p e9 s m below meth c hx hb hr hlocks hown hml hex hpre ls hl
  obtain ⟨hE, hP, hD⟩ := hpre
  obtain ⟨hts, hK⟩ := K0.at (args := ([.int x] : List Value).toArray) hE
  have hl : lv_has ls 1 [(0, .int x)] := hl
  have hS : va_S (kA s0) s.heap s.heap [] := va_S.rf
  refine lv_iload_n hx hb d_FK_checkPage_0 rfl (lv_at hl 0 rfl) ?_
  refine lv_iconst (v := (nI 0)) hx hb d_FK_checkPage_1 (by decide) ?_
  refine lv_bipush (v := (nI 19)) hx hb d_FK_checkPage_2 (by decide) ?_
  rcases hq1 : rg x 0 19 with _ | j2
  · exact k_callE (k_atS (As := [.int x, .int (nI 0), .int (nI 19)]) hx hb hown hE.1 (K0.w tw_143) rfl k_w9 (hts _ tw_141) (hts _ tw_142) (hts _ tw_1) (by decide) np_FK_checkWithin rfl d_FK_checkPage_4) (kn_n hq1 (c_FK_checkWithin K0 ad r σ x 0 19 (by decide) (by decide))) (hl.1.trans hml.symm) (Nat.le_of_ble_eq_true rfl) ⟨Nat.le_of_ble_eq_true rfl, Nat.le_of_ble_eq_true rfl, Nat.le_of_ble_eq_true rfl, Nat.le_of_ble_eq_true rfl⟩ (fun U hU hW => ⟨hE.go hW hU hS, by rw [hU]; exact hP, hD⟩) hex hlocks (by first | rfl | (simp [inr, eIA, eIS, eUO, eNS, hq1]; done) | (simp [inr, eIA, eIS, eUO, eNS, hq1]; rfl) | (simp [inr, eIA, eIS, eUO, eNS, hq1]; done) | (simp [inr, eIA, eIS, eUO, eNS, hq1]; rfl) | (simp only [inr, eIA, eIS, eUO, eNS, hq1]; rfl))
  · refine k_callR (k_atS (As := [.int x, .int (nI 0), .int (nI 19)]) hx hb hown hE.1 (K0.w tw_143) rfl k_w9 (hts _ tw_141) (hts _ tw_142) (hts _ tw_1) (by decide) np_FK_checkWithin rfl d_FK_checkPage_4) (kn_s hq1 (c_FK_checkWithin K0 ad r σ x 0 19 (by decide) (by decide))) (hl.1.trans hml.symm) (Nat.le_of_ble_eq_true rfl) ⟨Nat.le_of_ble_eq_true rfl, Nat.le_of_ble_eq_true rfl, Nat.le_of_ble_eq_true rfl, Nat.le_of_ble_eq_true rfl⟩ (fun U hU hW => ⟨hE.go hW hU hS, by rw [hU]; exact hP, hD⟩) ?_
    obtain ⟨rfl, ha3, hb_4, hc_5⟩ := rg_some hq1
    exact k_retV hx hb hr hlocks d_FK_checkPage_7 (by first | rfl | (simp [inr, eIA, eIS, eUO, eNS, hq1]; done) | (simp [inr, eIA, eIS, eUO, eNS, hq1]; rfl) | (simp [inr, eIA, eIS, eUO, eNS, hq1]; done) | (simp [inr, eIA, eIS, eUO, eNS, hq1]; rfl) | (simp only [inr, eIA, eIS, eUO, eNS, hq1]; rfl))
set_option maxHeartbeats 4000000 in
set_option maxRecDepth 100000 in
theorem c_FK_checkEntry {l : Launch} {s0 : State} {a0 : Array Value} {D : va_G} {cI cL : ClassId} (K0 : k0 l s0 a0 D cI cL) (ad : Nat → Nat) (r : va_W) (σ : kS) (x : Int32)  : kMet l y_FK_checkEntry (Cond.code y_FK_checkEntry b_FK_checkEntry 1 none) (rmL 7) [.int x] (kPre D vwCl s0 (wC ad cI r) σ) (inr x 0 3 fun _ => .ok (none, ())) kBr := by
  refine k_of (by decide) (Nat.le_of_ble_eq_true rfl) ?_
  intro p e9 s m below meth c hx hb hr hlocks hown hml hex hpre ls hl
  obtain ⟨hE, hP, hD⟩ := hpre
  obtain ⟨hts, hK⟩ := K0.at (args := ([.int x] : List Value).toArray) hE
  have hl : lv_has ls 1 [(0, .int x)] := hl
  have hS : va_S (kA s0) s.heap s.heap [] := va_S.rf
  refine lv_iload_n hx hb d_FK_checkEntry_0 rfl (lv_at hl 0 rfl) ?_
  refine lv_iconst (v := (nI 0)) hx hb d_FK_checkEntry_1 (by decide) ?_
  refine lv_iconst (v := (nI 3)) hx hb d_FK_checkEntry_2 (by decide) ?_
  rcases hq1 : rg x 0 3 with _ | j2
  · exact k_callE (k_atS (As := [.int x, .int (nI 0), .int (nI 3)]) hx hb hown hE.1 (K0.w tw_143) rfl k_w9 (hts _ tw_141) (hts _ tw_142) (hts _ tw_1) (by decide) np_FK_checkWithin rfl d_FK_checkEntry_3) (kn_n hq1 (c_FK_checkWithin K0 ad r σ x 0 3 (by decide) (by decide))) (hl.1.trans hml.symm) (Nat.le_of_ble_eq_true rfl) ⟨Nat.le_of_ble_eq_true rfl, Nat.le_of_ble_eq_true rfl, Nat.le_of_ble_eq_true rfl, Nat.le_of_ble_eq_true rfl⟩ (fun U hU hW => ⟨hE.go hW hU hS, by rw [hU]; exact hP, hD⟩) hex hlocks (by first | rfl | (simp [inr, eIA, eIS, eUO, eNS, hq1]; done) | (simp [inr, eIA, eIS, eUO, eNS, hq1]; rfl) | (simp [inr, eIA, eIS, eUO, eNS, hq1]; done) | (simp [inr, eIA, eIS, eUO, eNS, hq1]; rfl) | (simp only [inr, eIA, eIS, eUO, eNS, hq1]; rfl))
  · refine k_callR (k_atS (As := [.int x, .int (nI 0), .int (nI 3)]) hx hb hown hE.1 (K0.w tw_143) rfl k_w9 (hts _ tw_141) (hts _ tw_142) (hts _ tw_1) (by decide) np_FK_checkWithin rfl d_FK_checkEntry_3) (kn_s hq1 (c_FK_checkWithin K0 ad r σ x 0 3 (by decide) (by decide))) (hl.1.trans hml.symm) (Nat.le_of_ble_eq_true rfl) ⟨Nat.le_of_ble_eq_true rfl, Nat.le_of_ble_eq_true rfl, Nat.le_of_ble_eq_true rfl, Nat.le_of_ble_eq_true rfl⟩ (fun U hU hW => ⟨hE.go hW hU hS, by rw [hU]; exact hP, hD⟩) ?_
    obtain ⟨rfl, ha3, hb_4, hc_5⟩ := rg_some hq1
    exact k_retV hx hb hr hlocks d_FK_checkEntry_6 (by first | rfl | (simp [inr, eIA, eIS, eUO, eNS, hq1]; done) | (simp [inr, eIA, eIS, eUO, eNS, hq1]; rfl) | (simp [inr, eIA, eIS, eUO, eNS, hq1]; done) | (simp [inr, eIA, eIS, eUO, eNS, hq1]; rfl) | (simp only [inr, eIA, eIS, eUO, eNS, hq1]; rfl))
set_option maxHeartbeats 4000000 in
set_option maxRecDepth 100000 in
theorem c_FK_checkRights {l : Launch} {s0 : State} {a0 : Array Value} {D : va_G} {cI cL : ClassId} (K0 : k0 l s0 a0 D cI cL) (ad : Nat → Nat) (r : va_W) (σ : kS) (x : Int32)  : kMet l y_FK_checkRights (Cond.code y_FK_checkRights b_FK_checkRights 1 none) (rmL 7) [.int x] (kPre D vwCl s0 (wC ad cI r) σ) (inr x 1 3 fun _ => .ok (none, ())) kBr := by
  refine k_of (by decide) (Nat.le_of_ble_eq_true rfl) ?_
  intro p e9 s m below meth c hx hb hr hlocks hown hml hex hpre ls hl
  obtain ⟨hE, hP, hD⟩ := hpre
  obtain ⟨hts, hK⟩ := K0.at (args := ([.int x] : List Value).toArray) hE
  have hl : lv_has ls 1 [(0, .int x)] := hl
  have hS : va_S (kA s0) s.heap s.heap [] := va_S.rf
  refine lv_iload_n hx hb d_FK_checkRights_0 rfl (lv_at hl 0 rfl) ?_
  refine lv_iconst (v := (nI 1)) hx hb d_FK_checkRights_1 (by decide) ?_
  refine lv_iconst (v := (nI 3)) hx hb d_FK_checkRights_2 (by decide) ?_
  rcases hq1 : rg x 1 3 with _ | j2
  · exact k_callE (k_atS (As := [.int x, .int (nI 1), .int (nI 3)]) hx hb hown hE.1 (K0.w tw_143) rfl k_w9 (hts _ tw_141) (hts _ tw_142) (hts _ tw_1) (by decide) np_FK_checkWithin rfl d_FK_checkRights_3) (kn_n hq1 (c_FK_checkWithin K0 ad r σ x 1 3 (by decide) (by decide))) (hl.1.trans hml.symm) (Nat.le_of_ble_eq_true rfl) ⟨Nat.le_of_ble_eq_true rfl, Nat.le_of_ble_eq_true rfl, Nat.le_of_ble_eq_true rfl, Nat.le_of_ble_eq_true rfl⟩ (fun U hU hW => ⟨hE.go hW hU hS, by rw [hU]; exact hP, hD⟩) hex hlocks (by first | rfl | (simp [inr, eIA, eIS, eUO, eNS, hq1]; done) | (simp [inr, eIA, eIS, eUO, eNS, hq1]; rfl) | (simp [inr, eIA, eIS, eUO, eNS, hq1]; done) | (simp [inr, eIA, eIS, eUO, eNS, hq1]; rfl) | (simp only [inr, eIA, eIS, eUO, eNS, hq1]; rfl))
  · refine k_callR (k_atS (As := [.int x, .int (nI 1), .int (nI 3)]) hx hb hown hE.1 (K0.w tw_143) rfl k_w9 (hts _ tw_141) (hts _ tw_142) (hts _ tw_1) (by decide) np_FK_checkWithin rfl d_FK_checkRights_3) (kn_s hq1 (c_FK_checkWithin K0 ad r σ x 1 3 (by decide) (by decide))) (hl.1.trans hml.symm) (Nat.le_of_ble_eq_true rfl) ⟨Nat.le_of_ble_eq_true rfl, Nat.le_of_ble_eq_true rfl, Nat.le_of_ble_eq_true rfl, Nat.le_of_ble_eq_true rfl⟩ (fun U hU hW => ⟨hE.go hW hU hS, by rw [hU]; exact hP, hD⟩) ?_
    obtain ⟨rfl, ha3, hb_4, hc_5⟩ := rg_some hq1
    exact k_retV hx hb hr hlocks d_FK_checkRights_6 (by first | rfl | (simp [inr, eIA, eIS, eUO, eNS, hq1]; done) | (simp [inr, eIA, eIS, eUO, eNS, hq1]; rfl) | (simp [inr, eIA, eIS, eUO, eNS, hq1]; done) | (simp [inr, eIA, eIS, eUO, eNS, hq1]; rfl) | (simp only [inr, eIA, eIS, eUO, eNS, hq1]; rfl))
set_option maxHeartbeats 4000000 in
set_option maxRecDepth 100000 in
theorem c_FK_checkDescriptor {l : Launch} {s0 : State} {a0 : Array Value} {D : va_G} {cI cL : ClassId} (K0 : k0 l s0 a0 D cI cL) (ad : Nat → Nat) (r : va_W) (σ : kS) (x : Int32)  : kMet l y_FK_checkDescriptor (Cond.code y_FK_checkDescriptor b_FK_checkDescriptor 1 none) (rmL 7) [.int x] (kPre D vwCl s0 (wC ad cI r) σ) (inr x 0 3 fun _ => .ok (none, ())) kBr := by
  refine k_of (by decide) (Nat.le_of_ble_eq_true rfl) ?_
  intro p e9 s m below meth c hx hb hr hlocks hown hml hex hpre ls hl
  obtain ⟨hE, hP, hD⟩ := hpre
  obtain ⟨hts, hK⟩ := K0.at (args := ([.int x] : List Value).toArray) hE
  have hl : lv_has ls 1 [(0, .int x)] := hl
  have hS : va_S (kA s0) s.heap s.heap [] := va_S.rf
  refine lv_iload_n hx hb d_FK_checkDescriptor_0 rfl (lv_at hl 0 rfl) ?_
  refine lv_iconst (v := (nI 0)) hx hb d_FK_checkDescriptor_1 (by decide) ?_
  refine lv_iconst (v := (nI 3)) hx hb d_FK_checkDescriptor_2 (by decide) ?_
  rcases hq1 : rg x 0 3 with _ | j2
  · exact k_callE (k_atS (As := [.int x, .int (nI 0), .int (nI 3)]) hx hb hown hE.1 (K0.w tw_143) rfl k_w9 (hts _ tw_141) (hts _ tw_142) (hts _ tw_1) (by decide) np_FK_checkWithin rfl d_FK_checkDescriptor_3) (kn_n hq1 (c_FK_checkWithin K0 ad r σ x 0 3 (by decide) (by decide))) (hl.1.trans hml.symm) (Nat.le_of_ble_eq_true rfl) ⟨Nat.le_of_ble_eq_true rfl, Nat.le_of_ble_eq_true rfl, Nat.le_of_ble_eq_true rfl, Nat.le_of_ble_eq_true rfl⟩ (fun U hU hW => ⟨hE.go hW hU hS, by rw [hU]; exact hP, hD⟩) hex hlocks (by first | rfl | (simp [inr, eIA, eIS, eUO, eNS, hq1]; done) | (simp [inr, eIA, eIS, eUO, eNS, hq1]; rfl) | (simp [inr, eIA, eIS, eUO, eNS, hq1]; done) | (simp [inr, eIA, eIS, eUO, eNS, hq1]; rfl) | (simp only [inr, eIA, eIS, eUO, eNS, hq1]; rfl))
  · refine k_callR (k_atS (As := [.int x, .int (nI 0), .int (nI 3)]) hx hb hown hE.1 (K0.w tw_143) rfl k_w9 (hts _ tw_141) (hts _ tw_142) (hts _ tw_1) (by decide) np_FK_checkWithin rfl d_FK_checkDescriptor_3) (kn_s hq1 (c_FK_checkWithin K0 ad r σ x 0 3 (by decide) (by decide))) (hl.1.trans hml.symm) (Nat.le_of_ble_eq_true rfl) ⟨Nat.le_of_ble_eq_true rfl, Nat.le_of_ble_eq_true rfl, Nat.le_of_ble_eq_true rfl, Nat.le_of_ble_eq_true rfl⟩ (fun U hU hW => ⟨hE.go hW hU hS, by rw [hU]; exact hP, hD⟩) ?_
    obtain ⟨rfl, ha3, hb_4, hc_5⟩ := rg_some hq1
    exact k_retV hx hb hr hlocks d_FK_checkDescriptor_6 (by first | rfl | (simp [inr, eIA, eIS, eUO, eNS, hq1]; done) | (simp [inr, eIA, eIS, eUO, eNS, hq1]; rfl) | (simp [inr, eIA, eIS, eUO, eNS, hq1]; done) | (simp [inr, eIA, eIS, eUO, eNS, hq1]; rfl) | (simp only [inr, eIA, eIS, eUO, eNS, hq1]; rfl))
set_option maxHeartbeats 4000000 in
set_option maxRecDepth 100000 in
theorem c_FK_checkPipe {l : Launch} {s0 : State} {a0 : Array Value} {D : va_G} {cI cL : ClassId} (K0 : k0 l s0 a0 D cI cL) (ad : Nat → Nat) (r : va_W) (σ : kS) (x : Int32)  : kMet l y_FK_checkPipe (Cond.code y_FK_checkPipe b_FK_checkPipe 1 none) (rmL 7) [.int x] (kPre D vwCl s0 (wC ad cI r) σ) (inr x 0 2 fun _ => .ok (none, ())) kBr := by
  refine k_of (by decide) (Nat.le_of_ble_eq_true rfl) ?_
  intro p e9 s m below meth c hx hb hr hlocks hown hml hex hpre ls hl
  obtain ⟨hE, hP, hD⟩ := hpre
  obtain ⟨hts, hK⟩ := K0.at (args := ([.int x] : List Value).toArray) hE
  have hl : lv_has ls 1 [(0, .int x)] := hl
  have hS : va_S (kA s0) s.heap s.heap [] := va_S.rf
  refine lv_iload_n hx hb d_FK_checkPipe_0 rfl (lv_at hl 0 rfl) ?_
  refine lv_iconst (v := (nI 0)) hx hb d_FK_checkPipe_1 (by decide) ?_
  refine lv_iconst (v := (nI 2)) hx hb d_FK_checkPipe_2 (by decide) ?_
  rcases hq1 : rg x 0 2 with _ | j2
  · exact k_callE (k_atS (As := [.int x, .int (nI 0), .int (nI 2)]) hx hb hown hE.1 (K0.w tw_143) rfl k_w9 (hts _ tw_141) (hts _ tw_142) (hts _ tw_1) (by decide) np_FK_checkWithin rfl d_FK_checkPipe_3) (kn_n hq1 (c_FK_checkWithin K0 ad r σ x 0 2 (by decide) (by decide))) (hl.1.trans hml.symm) (Nat.le_of_ble_eq_true rfl) ⟨Nat.le_of_ble_eq_true rfl, Nat.le_of_ble_eq_true rfl, Nat.le_of_ble_eq_true rfl, Nat.le_of_ble_eq_true rfl⟩ (fun U hU hW => ⟨hE.go hW hU hS, by rw [hU]; exact hP, hD⟩) hex hlocks (by first | rfl | (simp [inr, eIA, eIS, eUO, eNS, hq1]; done) | (simp [inr, eIA, eIS, eUO, eNS, hq1]; rfl) | (simp [inr, eIA, eIS, eUO, eNS, hq1]; done) | (simp [inr, eIA, eIS, eUO, eNS, hq1]; rfl) | (simp only [inr, eIA, eIS, eUO, eNS, hq1]; rfl))
  · refine k_callR (k_atS (As := [.int x, .int (nI 0), .int (nI 2)]) hx hb hown hE.1 (K0.w tw_143) rfl k_w9 (hts _ tw_141) (hts _ tw_142) (hts _ tw_1) (by decide) np_FK_checkWithin rfl d_FK_checkPipe_3) (kn_s hq1 (c_FK_checkWithin K0 ad r σ x 0 2 (by decide) (by decide))) (hl.1.trans hml.symm) (Nat.le_of_ble_eq_true rfl) ⟨Nat.le_of_ble_eq_true rfl, Nat.le_of_ble_eq_true rfl, Nat.le_of_ble_eq_true rfl, Nat.le_of_ble_eq_true rfl⟩ (fun U hU hW => ⟨hE.go hW hU hS, by rw [hU]; exact hP, hD⟩) ?_
    obtain ⟨rfl, ha3, hb_4, hc_5⟩ := rg_some hq1
    exact k_retV hx hb hr hlocks d_FK_checkPipe_6 (by first | rfl | (simp [inr, eIA, eIS, eUO, eNS, hq1]; done) | (simp [inr, eIA, eIS, eUO, eNS, hq1]; rfl) | (simp [inr, eIA, eIS, eUO, eNS, hq1]; done) | (simp [inr, eIA, eIS, eUO, eNS, hq1]; rfl) | (simp only [inr, eIA, eIS, eUO, eNS, hq1]; rfl))
set_option maxHeartbeats 4000000 in
set_option maxRecDepth 100000 in
theorem c_FK_checkAddress {l : Launch} {s0 : State} {a0 : Array Value} {D : va_G} {cI cL : ClassId} (K0 : k0 l s0 a0 D cI cL) (ad : Nat → Nat) (r : va_W) (σ : kS) (x : Int32)  : kMet l y_FK_checkAddress (Cond.code y_FK_checkAddress b_FK_checkAddress 1 none) (rmL 7) [.int x] (kPre D vwCl s0 (wC ad cI r) σ) (inr x 0 63 fun _ => .ok (none, ())) kBr := by
  refine k_of (by decide) (Nat.le_of_ble_eq_true rfl) ?_
  intro p e9 s m below meth c hx hb hr hlocks hown hml hex hpre ls hl
  obtain ⟨hE, hP, hD⟩ := hpre
  obtain ⟨hts, hK⟩ := K0.at (args := ([.int x] : List Value).toArray) hE
  have hl : lv_has ls 1 [(0, .int x)] := hl
  have hS : va_S (kA s0) s.heap s.heap [] := va_S.rf
  refine lv_iload_n hx hb d_FK_checkAddress_0 rfl (lv_at hl 0 rfl) ?_
  refine lv_iconst (v := (nI 0)) hx hb d_FK_checkAddress_1 (by decide) ?_
  refine lv_bipush (v := (nI 63)) hx hb d_FK_checkAddress_2 (by decide) ?_
  rcases hq1 : rg x 0 63 with _ | j2
  · exact k_callE (k_atS (As := [.int x, .int (nI 0), .int (nI 63)]) hx hb hown hE.1 (K0.w tw_143) rfl k_w9 (hts _ tw_141) (hts _ tw_142) (hts _ tw_1) (by decide) np_FK_checkWithin rfl d_FK_checkAddress_4) (kn_n hq1 (c_FK_checkWithin K0 ad r σ x 0 63 (by decide) (by decide))) (hl.1.trans hml.symm) (Nat.le_of_ble_eq_true rfl) ⟨Nat.le_of_ble_eq_true rfl, Nat.le_of_ble_eq_true rfl, Nat.le_of_ble_eq_true rfl, Nat.le_of_ble_eq_true rfl⟩ (fun U hU hW => ⟨hE.go hW hU hS, by rw [hU]; exact hP, hD⟩) hex hlocks (by first | rfl | (simp [inr, eIA, eIS, eUO, eNS, hq1]; done) | (simp [inr, eIA, eIS, eUO, eNS, hq1]; rfl) | (simp [inr, eIA, eIS, eUO, eNS, hq1]; done) | (simp [inr, eIA, eIS, eUO, eNS, hq1]; rfl) | (simp only [inr, eIA, eIS, eUO, eNS, hq1]; rfl))
  · refine k_callR (k_atS (As := [.int x, .int (nI 0), .int (nI 63)]) hx hb hown hE.1 (K0.w tw_143) rfl k_w9 (hts _ tw_141) (hts _ tw_142) (hts _ tw_1) (by decide) np_FK_checkWithin rfl d_FK_checkAddress_4) (kn_s hq1 (c_FK_checkWithin K0 ad r σ x 0 63 (by decide) (by decide))) (hl.1.trans hml.symm) (Nat.le_of_ble_eq_true rfl) ⟨Nat.le_of_ble_eq_true rfl, Nat.le_of_ble_eq_true rfl, Nat.le_of_ble_eq_true rfl, Nat.le_of_ble_eq_true rfl⟩ (fun U hU hW => ⟨hE.go hW hU hS, by rw [hU]; exact hP, hD⟩) ?_
    obtain ⟨rfl, ha3, hb_4, hc_5⟩ := rg_some hq1
    exact k_retV hx hb hr hlocks d_FK_checkAddress_7 (by first | rfl | (simp [inr, eIA, eIS, eUO, eNS, hq1]; done) | (simp [inr, eIA, eIS, eUO, eNS, hq1]; rfl) | (simp [inr, eIA, eIS, eUO, eNS, hq1]; done) | (simp [inr, eIA, eIS, eUO, eNS, hq1]; rfl) | (simp only [inr, eIA, eIS, eUO, eNS, hq1]; rfl))
set_option maxHeartbeats 4000000 in
set_option maxRecDepth 100000 in
theorem c_FK_tableEntryOf {l : Launch} {s0 : State} {a0 : Array Value} {D : va_G} {cI cL : ClassId} (K0 : k0 l s0 a0 D cI cL) (ad : Nat → Nat) (r : va_W) (σ : kS) (a : Nat) (ha : a < 64) : kMet l y_FK_tableEntryOf (Cond.code y_FK_tableEntryOf b_FK_tableEntryOf 1 (some .int)) (rmL 0) [.int (nI a)] (kPre D vwCl s0 (wC ad cI r) σ) (.ok (some (.int (nI (a / 16))), ())) kBr := by
  refine k_of (by decide) (Nat.le_of_ble_eq_true rfl) ?_
  intro p e9 s m below meth c hx hb hr hlocks hown hml hex hpre ls hl
  obtain ⟨hE, hP, hD⟩ := hpre
  obtain ⟨hts, hK⟩ := K0.at (args := ([.int (nI a)] : List Value).toArray) hE
  have hl : lv_has ls 1 [(0, .int (nI a))] := hl
  have hS : va_S (kA s0) s.heap s.heap [] := va_S.rf
  refine lv_iload_n hx hb d_FK_tableEntryOf_0 rfl (lv_at hl 0 rfl) ?_
  refine lv_bipush (v := (nI 16)) hx hb d_FK_tableEntryOf_1 (by decide) ?_
  refine k_divN (by omega) (by omega) (by omega) hx hb d_FK_tableEntryOf_3 ?_
  exact k_retI hx hb hr hlocks d_FK_tableEntryOf_4 (rfl)
set_option maxHeartbeats 4000000 in
set_option maxRecDepth 100000 in
theorem c_FK_frameEntryOf {l : Launch} {s0 : State} {a0 : Array Value} {D : va_G} {cI cL : ClassId} (K0 : k0 l s0 a0 D cI cL) (ad : Nat → Nat) (r : va_W) (σ : kS) (a : Nat) (ha : a < 64) : kMet l y_FK_frameEntryOf (Cond.code y_FK_frameEntryOf b_FK_frameEntryOf 1 (some .int)) (rmL 0) [.int (nI a)] (kPre D vwCl s0 (wC ad cI r) σ) (.ok (some (.int (nI (a / 4 % 4))), ())) kBr := by
  refine k_of (by decide) (Nat.le_of_ble_eq_true rfl) ?_
  intro p e9 s m below meth c hx hb hr hlocks hown hml hex hpre ls hl
  obtain ⟨hE, hP, hD⟩ := hpre
  obtain ⟨hts, hK⟩ := K0.at (args := ([.int (nI a)] : List Value).toArray) hE
  have hl : lv_has ls 1 [(0, .int (nI a))] := hl
  have hS : va_S (kA s0) s.heap s.heap [] := va_S.rf
  refine lv_iload_n hx hb d_FK_frameEntryOf_0 rfl (lv_at hl 0 rfl) ?_
  refine lv_iconst (v := (nI 4)) hx hb d_FK_frameEntryOf_1 (by decide) ?_
  refine k_divN (by omega) (by omega) (by omega) hx hb d_FK_frameEntryOf_2 ?_
  refine lv_iconst (v := (nI 4)) hx hb d_FK_frameEntryOf_3 (by decide) ?_
  refine k_remN (by omega) (by omega) (by omega) hx hb d_FK_frameEntryOf_4 ?_
  exact k_retI hx hb hr hlocks d_FK_frameEntryOf_5 (rfl)
set_option maxHeartbeats 4000000 in
set_option maxRecDepth 100000 in
theorem c_FK_wordOf {l : Launch} {s0 : State} {a0 : Array Value} {D : va_G} {cI cL : ClassId} (K0 : k0 l s0 a0 D cI cL) (ad : Nat → Nat) (r : va_W) (σ : kS) (a : Nat) (ha : a < 64) : kMet l y_FK_wordOf (Cond.code y_FK_wordOf b_FK_wordOf 1 (some .int)) (rmL 0) [.int (nI a)] (kPre D vwCl s0 (wC ad cI r) σ) (.ok (some (.int (nI (a % 4))), ())) kBr := by
  refine k_of (by decide) (Nat.le_of_ble_eq_true rfl) ?_
  intro p e9 s m below meth c hx hb hr hlocks hown hml hex hpre ls hl
  obtain ⟨hE, hP, hD⟩ := hpre
  obtain ⟨hts, hK⟩ := K0.at (args := ([.int (nI a)] : List Value).toArray) hE
  have hl : lv_has ls 1 [(0, .int (nI a))] := hl
  have hS : va_S (kA s0) s.heap s.heap [] := va_S.rf
  refine lv_iload_n hx hb d_FK_wordOf_0 rfl (lv_at hl 0 rfl) ?_
  refine lv_iconst (v := (nI 4)) hx hb d_FK_wordOf_1 (by decide) ?_
  refine k_remN (by omega) (by omega) (by omega) hx hb d_FK_wordOf_2 ?_
  exact k_retI hx hb hr hlocks d_FK_wordOf_3 (rfl)
set_option maxHeartbeats 4000000 in
set_option maxRecDepth 100000 in
theorem c_FK_isMyChild {l : Launch} {s0 : State} {a0 : Array Value} {D : va_G} {cI cL : ClassId} (K0 : k0 l s0 a0 D cI cL) (ad : Nat → Nat) (r : va_W) (σ : kS) (q : Nat) (sv : Nat) (ok : kOk σ) (hq : q < 6) (hs : sv < 6) : kMet l y_FK_isMyChild (Cond.code y_FK_isMyChild b_FK_isMyChild 3 (some .boolean)) (rmL 1) [.ref (ad 0), .int (nI q), .int (nI sv)] (kPre D vwCl s0 (wC ad cI r) σ) (.ok (some (.int (nI (b2n (mchild σ q sv)))), ())) kBr := by
  refine k_of (by decide) (Nat.le_of_ble_eq_true rfl) ?_
  intro p e9 s m below meth c hx hb hr hlocks hown hml hex hpre ls hl
  obtain ⟨hE, hP, hD⟩ := hpre
  obtain ⟨hts, hK⟩ := K0.at (args := ([.ref (ad 0), .int (nI q), .int (nI sv)] : List Value).toArray) hE
  have hl : lv_has ls 3 [(0, .ref (ad 0)), (1, .int (nI q)), (2, .int (nI sv))] := hl
  have hS : va_S (kA s0) s.heap s.heap [] := va_S.rf
  obtain ⟨o1, o2, o3, o4, o5, o6, o7, o8, o9, o10, o0, ⟨oc1, oc2⟩, oc3, or6⟩ := id ok
  have hr0 : σ.1 6 (σ.1 11 0) ≠ 0 := or6 _ oc2 (by omega)
  have hr1 : σ.1 6 (σ.1 11 0) < 21 := o6 _ oc2
  refine lv_aload_n hx hb d_FK_isMyChild_0 rfl (lv_at hl 0 rfl) ?_
  refine va_get (D := D) (ci := nFK) (v := .ref (ad 2)) (C := R_FK) (T := T_FK) (N := 4) hx hb hts i_FK hown hK hP 0 rfl rfl 1 (by decide) (hts _ tw_117) (fun _ h9 => h9) rfl d_FK_isMyChild_1 ?_
  refine lv_iload_n hx hb d_FK_isMyChild_4 rfl (lv_at hl 1 rfl) ?_
  refine k_callR (k_atV (As := [.int (nI q)]) hx hb hown hE.1 (K0.w tw_282) (hts _ tw_279) (hts _ tw_280) (hts _ tw_281) (hts _ tw_3) (by decide) np_Pro_parentOf (va_recv hK hP (ci := nPro) (q0 := 2) rfl rfl) rfl d_FK_isMyChild_5) (c_Pro_parentOf K0 ad r σ q (by omega)) (hl.1.trans hml.symm) (Nat.le_of_ble_eq_true rfl) ⟨Nat.le_of_ble_eq_true rfl, Nat.le_of_ble_eq_true rfl, Nat.le_of_ble_eq_true rfl, Nat.le_of_ble_eq_true rfl⟩ (fun U hU hW => ⟨hE.go hW hU hS, by rw [hU]; exact hP, hD⟩) ?_
  have ho1 := o5 q (by omega)
  refine lv_aload_n hx hb d_FK_isMyChild_8 rfl (lv_at hl 0 rfl) ?_
  refine va_get (D := D) (ci := nFK) (v := .int (nI (σ.1 11 0))) (C := R_FK) (T := T_FK) (N := 4) hx hb hts i_FK hown hK hP 0 rfl rfl 3 (by decide) (hts _ tw_119) (fun _ h9 => h9) rfl d_FK_isMyChild_9 ?_
  refine k_neN (tgt := 31) (Nat.lt_of_lt_of_le (ok.b5 _ (by omega)) (by decide)) (by omega) hx hb d_FK_isMyChild_12 (by decide) (fun h2 => ?_) (fun h2 => ?_)
  · refine lv_iconst (v := (nI 0)) hx hb d_FK_isMyChild_31 (by decide) ?_
    exact k_retZ hx hb hr hlocks (by decide) d_FK_isMyChild_32 (by first | rfl | (simp [mchild, b2n, eIA, eIS, eUO, eNS, h2, beq_false_of_ne h2, bne_iff_ne.mpr h2]; done) | (simp [mchild, b2n, eIA, eIS, eUO, eNS, h2, beq_false_of_ne h2, bne_iff_ne.mpr h2]; rfl) | (simp [mchild, b2n, eIA, eIS, eUO, eNS, h2, beq_false_of_ne h2, bne_iff_ne.mpr h2]; done) | (simp [mchild, b2n, eIA, eIS, eUO, eNS, h2, beq_false_of_ne h2, bne_iff_ne.mpr h2]; rfl) | (simp only [mchild, b2n, eIA, eIS, eUO, eNS, h2, beq_false_of_ne h2, bne_iff_ne.mpr h2]; rfl))
  · refine lv_aload_n hx hb d_FK_isMyChild_15 rfl (lv_at hl 0 rfl) ?_
    refine va_get (D := D) (ci := nFK) (v := .ref (ad 2)) (C := R_FK) (T := T_FK) (N := 4) hx hb hts i_FK hown hK hP 0 rfl rfl 1 (by decide) (hts _ tw_117) (fun _ h9 => h9) rfl d_FK_isMyChild_16 ?_
    refine lv_iload_n hx hb d_FK_isMyChild_19 rfl (lv_at hl 1 rfl) ?_
    refine k_callR (k_atV (As := [.int (nI q)]) hx hb hown hE.1 (K0.w tw_219) (hts _ tw_216) (hts _ tw_217) (hts _ tw_218) (hts _ tw_3) (by decide) np_Pro_stateOf (va_recv hK hP (ci := nPro) (q0 := 2) rfl rfl) rfl d_FK_isMyChild_20) (c_Pro_stateOf K0 ad r σ q (by omega)) (hl.1.trans hml.symm) (Nat.le_of_ble_eq_true rfl) ⟨Nat.le_of_ble_eq_true rfl, Nat.le_of_ble_eq_true rfl, Nat.le_of_ble_eq_true rfl, Nat.le_of_ble_eq_true rfl⟩ (fun U hU hW => ⟨hE.go hW hU hS, by rw [hU]; exact hP, hD⟩) ?_
    have ho3 := o4 q (by omega)
    refine lv_iload_n hx hb d_FK_isMyChild_23 rfl (lv_at hl 2 rfl) ?_
    refine k_neN (tgt := 31) (Nat.lt_of_lt_of_le (ok.b4 _ (by omega)) (by decide)) (by omega) hx hb d_FK_isMyChild_24 (by decide) (fun h4 => ?_) (fun h4 => ?_)
    · refine lv_iconst (v := (nI 0)) hx hb d_FK_isMyChild_31 (by decide) ?_
      exact k_retZ hx hb hr hlocks (by decide) d_FK_isMyChild_32 (by first | rfl | (simp [mchild, b2n, eIA, eIS, eUO, eNS, h2, h4, beq_false_of_ne h4, bne_iff_ne.mpr h4]; done) | (simp [mchild, b2n, eIA, eIS, eUO, eNS, h2, h4, beq_false_of_ne h4, bne_iff_ne.mpr h4]; rfl) | (simp [mchild, b2n, eIA, eIS, eUO, eNS, h4, beq_iff_eq.mpr h2, beq_false_of_ne h4, bne_iff_ne.mpr h4]; done) | (simp [mchild, b2n, eIA, eIS, eUO, eNS, h4, beq_iff_eq.mpr h2, beq_false_of_ne h4, bne_iff_ne.mpr h4]; rfl) | (simp only [mchild, b2n, eIA, eIS, eUO, eNS, h2, h4, beq_false_of_ne h4, bne_iff_ne.mpr h4]; rfl))
    · refine lv_iconst (v := (nI 1)) hx hb d_FK_isMyChild_27 (by decide) ?_
      refine lv_goto (tgt := 32) hx hb d_FK_isMyChild_28 (by decide) ?_
      exact k_retZ hx hb hr hlocks (by decide) d_FK_isMyChild_32 (by first | rfl | (simp [mchild, b2n, eIA, eIS, eUO, eNS, h2, h4]; done) | (simp [mchild, b2n, eIA, eIS, eUO, eNS, h2, h4]; rfl) | (simp [mchild, b2n, eIA, eIS, eUO, eNS, beq_iff_eq.mpr h2, beq_iff_eq.mpr h4]; done) | (simp [mchild, b2n, eIA, eIS, eUO, eNS, beq_iff_eq.mpr h2, beq_iff_eq.mpr h4]; rfl) | (simp only [mchild, b2n, eIA, eIS, eUO, eNS, h2, h4]; rfl))
set_option maxHeartbeats 4000000 in
set_option maxRecDepth 100000 in
theorem c_FK_isMine {l : Launch} {s0 : State} {a0 : Array Value} {D : va_G} {cI cL : ClassId} (K0 : k0 l s0 a0 D cI cL) (ad : Nat → Nat) (r : va_W) (σ : kS) (q : Nat) (ok : kOk σ) (hq : q < 6) : kMet l y_FK_isMine (Cond.code y_FK_isMine b_FK_isMine 2 (some .boolean)) (rmL 2) [.ref (ad 0), .int (nI q)] (kPre D vwCl s0 (wC ad cI r) σ) (.ok (some (.int (nI (b2n (mine σ q)))), ())) kBr := by
  refine k_of (by decide) (Nat.le_of_ble_eq_true rfl) ?_
  intro p e9 s m below meth c hx hb hr hlocks hown hml hex hpre ls hl
  obtain ⟨hE, hP, hD⟩ := hpre
  obtain ⟨hts, hK⟩ := K0.at (args := ([.ref (ad 0), .int (nI q)] : List Value).toArray) hE
  have hl : lv_has ls 2 [(0, .ref (ad 0)), (1, .int (nI q))] := hl
  have hS : va_S (kA s0) s.heap s.heap [] := va_S.rf
  obtain ⟨o1, o2, o3, o4, o5, o6, o7, o8, o9, o10, o0, ⟨oc1, oc2⟩, oc3, or6⟩ := id ok
  have hr0 : σ.1 6 (σ.1 11 0) ≠ 0 := or6 _ oc2 (by omega)
  have hr1 : σ.1 6 (σ.1 11 0) < 21 := o6 _ oc2
  refine lv_iload_n hx hb d_FK_isMine_0 rfl (lv_at hl 1 rfl) ?_
  refine lv_aload_n hx hb d_FK_isMine_1 rfl (lv_at hl 0 rfl) ?_
  refine va_get (D := D) (ci := nFK) (v := .int (nI (σ.1 11 0))) (C := R_FK) (T := T_FK) (N := 4) hx hb hts i_FK hown hK hP 0 rfl rfl 3 (by decide) (hts _ tw_119) (fun _ h9 => h9) rfl d_FK_isMine_2 ?_
  refine k_eqN (tgt := 26) (by omega) (by omega) hx hb d_FK_isMine_5 (by decide) (fun h1 => ?_) (fun h1 => ?_)
  · refine lv_iconst (v := (nI 1)) hx hb d_FK_isMine_26 (by decide) ?_
    refine lv_goto (tgt := 31) hx hb d_FK_isMine_27 (by decide) ?_
    exact k_retZ hx hb hr hlocks (by decide) d_FK_isMine_31 (by first | rfl | (simp [mine_eq, b2n, eIA, eIS, eUO, eNS, h1]; done) | (simp [mine_eq, b2n, eIA, eIS, eUO, eNS, h1]; rfl) | (simp [mine_eq, b2n, eIA, eIS, eUO, eNS, beq_iff_eq.mpr h1]; done) | (simp [mine_eq, b2n, eIA, eIS, eUO, eNS, beq_iff_eq.mpr h1]; rfl) | (simp only [mine_eq, b2n, eIA, eIS, eUO, eNS, h1]; rfl))
  · refine lv_aload_n hx hb d_FK_isMine_8 rfl (lv_at hl 0 rfl) ?_
    refine lv_iload_n hx hb d_FK_isMine_9 rfl (lv_at hl 1 rfl) ?_
    refine lv_iconst (v := (nI 1)) hx hb d_FK_isMine_10 (by decide) ?_
    rcases hq2 : mchild σ q 1 with _ | _
    · refine k_callR (k_atV (As := [.int (nI q), .int (nI 1)]) hx hb hown hE.1 (K0.w tw_278) (hts _ tw_275) (hts _ tw_277) (hts _ tw_9005) (hts _ tw_1) (by decide) np_FK_isMyChild (va_recv hK hP (ci := nFK) (q0 := 0) rfl rfl) rfl d_FK_isMine_11) (kb_f hq2 (c_FK_isMyChild K0 ad r σ q 1 ok (by omega) (by omega))) (hl.1.trans hml.symm) (Nat.le_of_ble_eq_true rfl) ⟨Nat.le_of_ble_eq_true rfl, Nat.le_of_ble_eq_true rfl, Nat.le_of_ble_eq_true rfl, Nat.le_of_ble_eq_true rfl⟩ (fun U hU hW => ⟨hE.go hW hU hS, by rw [hU]; exact hP, hD⟩) ?_
      refine k_ifN0 (tgt := 26) (by decide) hx hb d_FK_isMine_14 (by decide) (fun h9 => absurd h9 (by decide)) (fun _ => ?_)
      refine lv_aload_n hx hb d_FK_isMine_17 rfl (lv_at hl 0 rfl) ?_
      refine lv_iload_n hx hb d_FK_isMine_18 rfl (lv_at hl 1 rfl) ?_
      refine lv_iconst (v := (nI 5)) hx hb d_FK_isMine_19 (by decide) ?_
      rcases hq3 : mchild σ q 5 with _ | _
      · refine k_callR (k_atV (As := [.int (nI q), .int (nI 5)]) hx hb hown hE.1 (K0.w tw_278) (hts _ tw_275) (hts _ tw_277) (hts _ tw_9005) (hts _ tw_1) (by decide) np_FK_isMyChild (va_recv hK hP (ci := nFK) (q0 := 0) rfl rfl) rfl d_FK_isMine_20) (kb_f hq3 (c_FK_isMyChild K0 ad r σ q 5 ok (by omega) (by omega))) (hl.1.trans hml.symm) (Nat.le_of_ble_eq_true rfl) ⟨Nat.le_of_ble_eq_true rfl, Nat.le_of_ble_eq_true rfl, Nat.le_of_ble_eq_true rfl, Nat.le_of_ble_eq_true rfl⟩ (fun U hU hW => ⟨hE.go hW hU hS, by rw [hU]; exact hP, hD⟩) ?_
        refine k_if0 (tgt := 30) (by decide) hx hb d_FK_isMine_23 (by decide) (fun _ => ?_) (fun h9 => absurd h9 (by decide))
        refine lv_iconst (v := (nI 0)) hx hb d_FK_isMine_30 (by decide) ?_
        exact k_retZ hx hb hr hlocks (by decide) d_FK_isMine_31 (by first | rfl | (simp [mine_eq, b2n, eIA, eIS, eUO, eNS, h1, hq2, hq3, beq_false_of_ne h1, bne_iff_ne.mpr h1]; done) | (simp [mine_eq, b2n, eIA, eIS, eUO, eNS, h1, hq2, hq3, beq_false_of_ne h1, bne_iff_ne.mpr h1]; rfl) | (simp [mine_eq, b2n, eIA, eIS, eUO, eNS, h1, hq2, hq3, beq_false_of_ne h1, bne_iff_ne.mpr h1]; done) | (simp [mine_eq, b2n, eIA, eIS, eUO, eNS, h1, hq2, hq3, beq_false_of_ne h1, bne_iff_ne.mpr h1]; rfl) | (simp only [mine_eq, b2n, eIA, eIS, eUO, eNS, h1, hq2, hq3, beq_false_of_ne h1, bne_iff_ne.mpr h1]; rfl))
      · refine k_callR (k_atV (As := [.int (nI q), .int (nI 5)]) hx hb hown hE.1 (K0.w tw_278) (hts _ tw_275) (hts _ tw_277) (hts _ tw_9005) (hts _ tw_1) (by decide) np_FK_isMyChild (va_recv hK hP (ci := nFK) (q0 := 0) rfl rfl) rfl d_FK_isMine_20) (kb_t hq3 (c_FK_isMyChild K0 ad r σ q 5 ok (by omega) (by omega))) (hl.1.trans hml.symm) (Nat.le_of_ble_eq_true rfl) ⟨Nat.le_of_ble_eq_true rfl, Nat.le_of_ble_eq_true rfl, Nat.le_of_ble_eq_true rfl, Nat.le_of_ble_eq_true rfl⟩ (fun U hU hW => ⟨hE.go hW hU hS, by rw [hU]; exact hP, hD⟩) ?_
        have hst9 := mchild_st hq3
        have hr6 : σ.1 6 q ≠ 0 := or6 _ (by omega) (by omega)
        have ho6 := o6 q (by omega)
        refine k_if0 (tgt := 30) (by decide) hx hb d_FK_isMine_23 (by decide) (fun h9 => absurd h9 (by decide)) (fun _ => ?_)
        refine lv_iconst (v := (nI 1)) hx hb d_FK_isMine_26 (by decide) ?_
        refine lv_goto (tgt := 31) hx hb d_FK_isMine_27 (by decide) ?_
        exact k_retZ hx hb hr hlocks (by decide) d_FK_isMine_31 (by first | rfl | (simp [mine_eq, b2n, eIA, eIS, eUO, eNS, h1, hq2, hq3, beq_false_of_ne h1, bne_iff_ne.mpr h1]; done) | (simp [mine_eq, b2n, eIA, eIS, eUO, eNS, h1, hq2, hq3, beq_false_of_ne h1, bne_iff_ne.mpr h1]; rfl) | (simp [mine_eq, b2n, eIA, eIS, eUO, eNS, h1, hq2, hq3, beq_false_of_ne h1, bne_iff_ne.mpr h1]; done) | (simp [mine_eq, b2n, eIA, eIS, eUO, eNS, h1, hq2, hq3, beq_false_of_ne h1, bne_iff_ne.mpr h1]; rfl) | (simp only [mine_eq, b2n, eIA, eIS, eUO, eNS, h1, hq2, hq3, beq_false_of_ne h1, bne_iff_ne.mpr h1]; rfl))
    · refine k_callR (k_atV (As := [.int (nI q), .int (nI 1)]) hx hb hown hE.1 (K0.w tw_278) (hts _ tw_275) (hts _ tw_277) (hts _ tw_9005) (hts _ tw_1) (by decide) np_FK_isMyChild (va_recv hK hP (ci := nFK) (q0 := 0) rfl rfl) rfl d_FK_isMine_11) (kb_t hq2 (c_FK_isMyChild K0 ad r σ q 1 ok (by omega) (by omega))) (hl.1.trans hml.symm) (Nat.le_of_ble_eq_true rfl) ⟨Nat.le_of_ble_eq_true rfl, Nat.le_of_ble_eq_true rfl, Nat.le_of_ble_eq_true rfl, Nat.le_of_ble_eq_true rfl⟩ (fun U hU hW => ⟨hE.go hW hU hS, by rw [hU]; exact hP, hD⟩) ?_
      have hst9 := mchild_st hq2
      have hr6 : σ.1 6 q ≠ 0 := or6 _ (by omega) (by omega)
      have ho6 := o6 q (by omega)
      refine k_ifN0 (tgt := 26) (by decide) hx hb d_FK_isMine_14 (by decide) (fun _ => ?_) (fun h9 => absurd h9 (by decide))
      refine lv_iconst (v := (nI 1)) hx hb d_FK_isMine_26 (by decide) ?_
      refine lv_goto (tgt := 31) hx hb d_FK_isMine_27 (by decide) ?_
      exact k_retZ hx hb hr hlocks (by decide) d_FK_isMine_31 (by first | rfl | (simp [mine_eq, b2n, eIA, eIS, eUO, eNS, h1, hq2, beq_false_of_ne h1, bne_iff_ne.mpr h1]; done) | (simp [mine_eq, b2n, eIA, eIS, eUO, eNS, h1, hq2, beq_false_of_ne h1, bne_iff_ne.mpr h1]; rfl) | (simp [mine_eq, b2n, eIA, eIS, eUO, eNS, h1, hq2, beq_false_of_ne h1, bne_iff_ne.mpr h1]; done) | (simp [mine_eq, b2n, eIA, eIS, eUO, eNS, h1, hq2, beq_false_of_ne h1, bne_iff_ne.mpr h1]; rfl) | (simp only [mine_eq, b2n, eIA, eIS, eUO, eNS, h1, hq2, beq_false_of_ne h1, bne_iff_ne.mpr h1]; rfl))
set_option maxHeartbeats 4000000 in
set_option maxRecDepth 100000 in
theorem c_FK_isMyLivingChild {l : Launch} {s0 : State} {a0 : Array Value} {D : va_G} {cI cL : ClassId} (K0 : k0 l s0 a0 D cI cL) (ad : Nat → Nat) (r : va_W) (σ : kS) (q : Nat) (ok : kOk σ) (hq : q < 6) : kMet l y_FK_isMyLivingChild (Cond.code y_FK_isMyLivingChild b_FK_isMyLivingChild 3 (some .boolean)) (rmL 1) [.ref (ad 0), .int (nI q)] (kPre D vwCl s0 (wC ad cI r) σ) (.ok (some (.int (nI (b2n (mlive σ q)))), ())) kBr := by
  refine k_of (by decide) (Nat.le_of_ble_eq_true rfl) ?_
  intro p e9 s m below meth c hx hb hr hlocks hown hml hex hpre ls hl
  obtain ⟨hE, hP, hD⟩ := hpre
  obtain ⟨hts, hK⟩ := K0.at (args := ([.ref (ad 0), .int (nI q)] : List Value).toArray) hE
  have hl : lv_has ls 3 [(0, .ref (ad 0)), (1, .int (nI q))] := hl
  have hS : va_S (kA s0) s.heap s.heap [] := va_S.rf
  obtain ⟨o1, o2, o3, o4, o5, o6, o7, o8, o9, o10, o0, ⟨oc1, oc2⟩, oc3, or6⟩ := id ok
  have hr0 : σ.1 6 (σ.1 11 0) ≠ 0 := or6 _ oc2 (by omega)
  have hr1 : σ.1 6 (σ.1 11 0) < 21 := o6 _ oc2
  refine lv_aload_n hx hb d_FK_isMyLivingChild_0 rfl (lv_at hl 0 rfl) ?_
  refine va_get (D := D) (ci := nFK) (v := .ref (ad 2)) (C := R_FK) (T := T_FK) (N := 4) hx hb hts i_FK hown hK hP 0 rfl rfl 1 (by decide) (hts _ tw_117) (fun _ h9 => h9) rfl d_FK_isMyLivingChild_1 ?_
  refine lv_iload_n hx hb d_FK_isMyLivingChild_4 rfl (lv_at hl 1 rfl) ?_
  refine k_callR (k_atV (As := [.int (nI q)]) hx hb hown hE.1 (K0.w tw_219) (hts _ tw_216) (hts _ tw_217) (hts _ tw_218) (hts _ tw_3) (by decide) np_Pro_stateOf (va_recv hK hP (ci := nPro) (q0 := 2) rfl rfl) rfl d_FK_isMyLivingChild_5) (c_Pro_stateOf K0 ad r σ q (by omega)) (hl.1.trans hml.symm) (Nat.le_of_ble_eq_true rfl) ⟨Nat.le_of_ble_eq_true rfl, Nat.le_of_ble_eq_true rfl, Nat.le_of_ble_eq_true rfl, Nat.le_of_ble_eq_true rfl⟩ (fun U hU hW => ⟨hE.go hW hU hS, by rw [hU]; exact hP, hD⟩) ?_
  have ho1 := o4 q (by omega)
  refine lv_istore_n (lv' := [(2, .int (nI (σ.1 4 q))), (0, .ref (ad 0)), (1, .int (nI q))]) hx hb d_FK_isMyLivingChild_8 rfl hl (by decide) rfl (fun ls hl => ?_)
  refine lv_aload_n hx hb d_FK_isMyLivingChild_9 rfl (lv_at hl 1 rfl) ?_
  refine va_get (D := D) (ci := nFK) (v := .ref (ad 2)) (C := R_FK) (T := T_FK) (N := 4) hx hb hts i_FK hown hK hP 0 rfl rfl 1 (by decide) (hts _ tw_117) (fun _ h9 => h9) rfl d_FK_isMyLivingChild_10 ?_
  refine lv_iload_n hx hb d_FK_isMyLivingChild_13 rfl (lv_at hl 2 rfl) ?_
  refine k_callR (k_atV (As := [.int (nI q)]) hx hb hown hE.1 (K0.w tw_282) (hts _ tw_279) (hts _ tw_280) (hts _ tw_281) (hts _ tw_3) (by decide) np_Pro_parentOf (va_recv hK hP (ci := nPro) (q0 := 2) rfl rfl) rfl d_FK_isMyLivingChild_14) (c_Pro_parentOf K0 ad r σ q (by omega)) (hl.1.trans hml.symm) (Nat.le_of_ble_eq_true rfl) ⟨Nat.le_of_ble_eq_true rfl, Nat.le_of_ble_eq_true rfl, Nat.le_of_ble_eq_true rfl, Nat.le_of_ble_eq_true rfl⟩ (fun U hU hW => ⟨hE.go hW hU hS, by rw [hU]; exact hP, hD⟩) ?_
  have ho2 := o5 q (by omega)
  refine lv_aload_n hx hb d_FK_isMyLivingChild_17 rfl (lv_at hl 1 rfl) ?_
  refine va_get (D := D) (ci := nFK) (v := .int (nI (σ.1 11 0))) (C := R_FK) (T := T_FK) (N := 4) hx hb hts i_FK hown hK hP 0 rfl rfl 3 (by decide) (hts _ tw_119) (fun _ h9 => h9) rfl d_FK_isMyLivingChild_18 ?_
  refine k_neN (tgt := 37) (Nat.lt_of_lt_of_le (ok.b5 _ (by omega)) (by decide)) (by omega) hx hb d_FK_isMyLivingChild_21 (by decide) (fun h3 => ?_) (fun h3 => ?_)
  · refine lv_iconst (v := (nI 0)) hx hb d_FK_isMyLivingChild_37 (by decide) ?_
    exact k_retZ hx hb hr hlocks (by decide) d_FK_isMyLivingChild_38 (by first | rfl | (simp [mlive, b2n, eIA, eIS, eUO, eNS, h3, beq_false_of_ne h3, bne_iff_ne.mpr h3]; done) | (simp [mlive, b2n, eIA, eIS, eUO, eNS, h3, beq_false_of_ne h3, bne_iff_ne.mpr h3]; rfl) | (simp [mlive, b2n, eIA, eIS, eUO, eNS, h3, beq_false_of_ne h3, bne_iff_ne.mpr h3]; done) | (simp [mlive, b2n, eIA, eIS, eUO, eNS, h3, beq_false_of_ne h3, bne_iff_ne.mpr h3]; rfl) | (simp only [mlive, b2n, eIA, eIS, eUO, eNS, h3, beq_false_of_ne h3, bne_iff_ne.mpr h3]; rfl))
  · refine lv_iload_n hx hb d_FK_isMyLivingChild_24 rfl (lv_at hl 0 rfl) ?_
    refine k_if0 (tgt := 37) (Nat.lt_of_lt_of_le (ok.b4 _ (by omega)) (by decide)) hx hb d_FK_isMyLivingChild_25 (by decide) (fun h4 => ?_) (fun h4 => ?_)
    · refine lv_iconst (v := (nI 0)) hx hb d_FK_isMyLivingChild_37 (by decide) ?_
      exact k_retZ hx hb hr hlocks (by decide) d_FK_isMyLivingChild_38 (by first | rfl | (simp [mlive, b2n, eIA, eIS, eUO, eNS, h3, h4]; done) | (simp [mlive, b2n, eIA, eIS, eUO, eNS, h3, h4]; rfl) | (simp [mlive, b2n, eIA, eIS, eUO, eNS, beq_iff_eq.mpr h3, beq_iff_eq.mpr h4]; done) | (simp [mlive, b2n, eIA, eIS, eUO, eNS, beq_iff_eq.mpr h3, beq_iff_eq.mpr h4]; rfl) | (simp only [mlive, b2n, eIA, eIS, eUO, eNS, h3, h4]; rfl))
    · refine lv_iload_n hx hb d_FK_isMyLivingChild_28 rfl (lv_at hl 0 rfl) ?_
      refine lv_iconst (v := (nI 5)) hx hb d_FK_isMyLivingChild_29 (by decide) ?_
      refine k_eqN (tgt := 37) (Nat.lt_of_lt_of_le (ok.b4 _ (by omega)) (by decide)) (by omega) hx hb d_FK_isMyLivingChild_30 (by decide) (fun h5 => ?_) (fun h5 => ?_)
      · refine lv_iconst (v := (nI 0)) hx hb d_FK_isMyLivingChild_37 (by decide) ?_
        exact k_retZ hx hb hr hlocks (by decide) d_FK_isMyLivingChild_38 (by first | rfl | (simp [mlive, b2n, eIA, eIS, eUO, eNS, h3, h4, h5, beq_false_of_ne h4, bne_iff_ne.mpr h4]; done) | (simp [mlive, b2n, eIA, eIS, eUO, eNS, h3, h4, h5, beq_false_of_ne h4, bne_iff_ne.mpr h4]; rfl) | (simp [mlive, b2n, eIA, eIS, eUO, eNS, h4, beq_iff_eq.mpr h3, beq_iff_eq.mpr h5, beq_false_of_ne h4, bne_iff_ne.mpr h4]; done) | (simp [mlive, b2n, eIA, eIS, eUO, eNS, h4, beq_iff_eq.mpr h3, beq_iff_eq.mpr h5, beq_false_of_ne h4, bne_iff_ne.mpr h4]; rfl) | (simp only [mlive, b2n, eIA, eIS, eUO, eNS, h3, h4, h5, beq_false_of_ne h4, bne_iff_ne.mpr h4]; rfl))
      · refine lv_iconst (v := (nI 1)) hx hb d_FK_isMyLivingChild_33 (by decide) ?_
        refine lv_goto (tgt := 38) hx hb d_FK_isMyLivingChild_34 (by decide) ?_
        exact k_retZ hx hb hr hlocks (by decide) d_FK_isMyLivingChild_38 (by first | rfl | (simp [mlive, b2n, eIA, eIS, eUO, eNS, h3, h4, h5, beq_false_of_ne h4, beq_false_of_ne h5, bne_iff_ne.mpr h4, bne_iff_ne.mpr h5]; done) | (simp [mlive, b2n, eIA, eIS, eUO, eNS, h3, h4, h5, beq_false_of_ne h4, beq_false_of_ne h5, bne_iff_ne.mpr h4, bne_iff_ne.mpr h5]; rfl) | (simp [mlive, b2n, eIA, eIS, eUO, eNS, h4, h5, beq_iff_eq.mpr h3, beq_false_of_ne h4, beq_false_of_ne h5, bne_iff_ne.mpr h4, bne_iff_ne.mpr h5]; done) | (simp [mlive, b2n, eIA, eIS, eUO, eNS, h4, h5, beq_iff_eq.mpr h3, beq_false_of_ne h4, beq_false_of_ne h5, bne_iff_ne.mpr h4, bne_iff_ne.mpr h5]; rfl) | (simp only [mlive, b2n, eIA, eIS, eUO, eNS, h3, h4, h5, beq_false_of_ne h4, beq_false_of_ne h5, bne_iff_ne.mpr h4, bne_iff_ne.mpr h5]; rfl))
set_option maxHeartbeats 4000000 in
set_option maxRecDepth 100000 in
theorem c_FK_isMyPage {l : Launch} {s0 : State} {a0 : Array Value} {D : va_G} {cI cL : ClassId} (K0 : k0 l s0 a0 D cI cL) (ad : Nat → Nat) (r : va_W) (σ : kS) (g : Nat) (kk : Nat) (ok : kOk σ) (hg : g < 20) (hk : kk < 6) : kMet l y_FK_isMyPage (Cond.code y_FK_isMyPage b_FK_isMyPage 3 (some .boolean)) (rmL 3) [.ref (ad 0), .int (nI g), .int (nI kk)] (kPre D vwCl s0 (wC ad cI r) σ) (.ok (some (.int (nI (b2n (mpage σ g kk)))), ())) kBr := by
  refine k_of (by decide) (Nat.le_of_ble_eq_true rfl) ?_
  intro p e9 s m below meth c hx hb hr hlocks hown hml hex hpre ls hl
  obtain ⟨hE, hP, hD⟩ := hpre
  obtain ⟨hts, hK⟩ := K0.at (args := ([.ref (ad 0), .int (nI g), .int (nI kk)] : List Value).toArray) hE
  have hl : lv_has ls 3 [(0, .ref (ad 0)), (1, .int (nI g)), (2, .int (nI kk))] := hl
  have hS : va_S (kA s0) s.heap s.heap [] := va_S.rf
  obtain ⟨o1, o2, o3, o4, o5, o6, o7, o8, o9, o10, o0, ⟨oc1, oc2⟩, oc3, or6⟩ := id ok
  have hr0 : σ.1 6 (σ.1 11 0) ≠ 0 := or6 _ oc2 (by omega)
  have hr1 : σ.1 6 (σ.1 11 0) < 21 := o6 _ oc2
  refine lv_aload_n hx hb d_FK_isMyPage_0 rfl (lv_at hl 0 rfl) ?_
  refine va_get (D := D) (ci := nFK) (v := .ref (ad 1)) (C := R_FK) (T := T_FK) (N := 4) hx hb hts i_FK hown hK hP 0 rfl rfl 0 (by decide) (hts _ tw_116) (fun _ h9 => h9) rfl d_FK_isMyPage_1 ?_
  refine lv_iload_n hx hb d_FK_isMyPage_4 rfl (lv_at hl 1 rfl) ?_
  refine k_callR (k_atV (As := [.int (nI g)]) hx hb hown hE.1 (K0.w tw_243) (hts _ tw_240) (hts _ tw_241) (hts _ tw_242) (hts _ tw_2) (by decide) np_Mem_kindOf (va_recv hK hP (ci := nMem) (q0 := 1) rfl rfl) rfl d_FK_isMyPage_5) (c_Mem_kindOf K0 ad r σ g (by omega)) (hl.1.trans hml.symm) (Nat.le_of_ble_eq_true rfl) ⟨Nat.le_of_ble_eq_true rfl, Nat.le_of_ble_eq_true rfl, Nat.le_of_ble_eq_true rfl, Nat.le_of_ble_eq_true rfl⟩ (fun U hU hW => ⟨hE.go hW hU hS, by rw [hU]; exact hP, hD⟩) ?_
  have ho1 := o0 g (by omega)
  refine lv_iload_n hx hb d_FK_isMyPage_8 rfl (lv_at hl 2 rfl) ?_
  refine k_neN (tgt := 31) (Nat.lt_of_lt_of_le (ok.b0 _ (by omega)) (by decide)) (by omega) hx hb d_FK_isMyPage_9 (by decide) (fun h2 => ?_) (fun h2 => ?_)
  · refine lv_iconst (v := (nI 0)) hx hb d_FK_isMyPage_31 (by decide) ?_
    exact k_retZ hx hb hr hlocks (by decide) d_FK_isMyPage_32 (by first | rfl | (simp [mpage, b2n, eIA, eIS, eUO, eNS, h2, beq_false_of_ne h2, bne_iff_ne.mpr h2]; done) | (simp [mpage, b2n, eIA, eIS, eUO, eNS, h2, beq_false_of_ne h2, bne_iff_ne.mpr h2]; rfl) | (simp [mpage, b2n, eIA, eIS, eUO, eNS, h2, beq_false_of_ne h2, bne_iff_ne.mpr h2]; done) | (simp [mpage, b2n, eIA, eIS, eUO, eNS, h2, beq_false_of_ne h2, bne_iff_ne.mpr h2]; rfl) | (simp only [mpage, b2n, eIA, eIS, eUO, eNS, h2, beq_false_of_ne h2, bne_iff_ne.mpr h2]; rfl))
  · refine lv_aload_n hx hb d_FK_isMyPage_12 rfl (lv_at hl 0 rfl) ?_
    refine lv_aload_n hx hb d_FK_isMyPage_13 rfl (lv_at hl 0 rfl) ?_
    refine va_get (D := D) (ci := nFK) (v := .ref (ad 1)) (C := R_FK) (T := T_FK) (N := 4) hx hb hts i_FK hown hK hP 0 rfl rfl 0 (by decide) (hts _ tw_116) (fun _ h9 => h9) rfl d_FK_isMyPage_14 ?_
    refine lv_iload_n hx hb d_FK_isMyPage_17 rfl (lv_at hl 1 rfl) ?_
    refine k_callR (k_atV (As := [.int (nI g)]) hx hb hown hE.1 (K0.w tw_270) (hts _ tw_267) (hts _ tw_268) (hts _ tw_269) (hts _ tw_2) (by decide) np_Mem_ownerOf (va_recv hK hP (ci := nMem) (q0 := 1) rfl rfl) rfl d_FK_isMyPage_18) (c_Mem_ownerOf K0 ad r σ g (by omega)) (hl.1.trans hml.symm) (Nat.le_of_ble_eq_true rfl) ⟨Nat.le_of_ble_eq_true rfl, Nat.le_of_ble_eq_true rfl, Nat.le_of_ble_eq_true rfl, Nat.le_of_ble_eq_true rfl⟩ (fun U hU hW => ⟨hE.go hW hU hS, by rw [hU]; exact hP, hD⟩) ?_
    have ho3 := o1 g (by omega)
    rcases hq4 : mine σ (σ.1 1 g) with _ | _
    · refine k_callR (k_atV (As := [.int (nI (σ.1 1 g))]) hx hb hown hE.1 (K0.w tw_274) (hts _ tw_271) (hts _ tw_273) (hts _ tw_9004) (hts _ tw_1) (by decide) np_FK_isMine (va_recv hK hP (ci := nFK) (q0 := 0) rfl rfl) rfl d_FK_isMyPage_21) (kb_f hq4 (c_FK_isMine K0 ad r σ (σ.1 1 g) ok (by omega))) (hl.1.trans hml.symm) (Nat.le_of_ble_eq_true rfl) ⟨Nat.le_of_ble_eq_true rfl, Nat.le_of_ble_eq_true rfl, Nat.le_of_ble_eq_true rfl, Nat.le_of_ble_eq_true rfl⟩ (fun U hU hW => ⟨hE.go hW hU hS, by rw [hU]; exact hP, hD⟩) ?_
      refine k_if0 (tgt := 31) (by decide) hx hb d_FK_isMyPage_24 (by decide) (fun _ => ?_) (fun h9 => absurd h9 (by decide))
      refine lv_iconst (v := (nI 0)) hx hb d_FK_isMyPage_31 (by decide) ?_
      exact k_retZ hx hb hr hlocks (by decide) d_FK_isMyPage_32 (by first | rfl | (simp [mpage, b2n, eIA, eIS, eUO, eNS, h2, hq4]; done) | (simp [mpage, b2n, eIA, eIS, eUO, eNS, h2, hq4]; rfl) | (simp [mpage, b2n, eIA, eIS, eUO, eNS, hq4, beq_iff_eq.mpr h2]; done) | (simp [mpage, b2n, eIA, eIS, eUO, eNS, hq4, beq_iff_eq.mpr h2]; rfl) | (simp only [mpage, b2n, eIA, eIS, eUO, eNS, h2, hq4]; rfl))
    · refine k_callR (k_atV (As := [.int (nI (σ.1 1 g))]) hx hb hown hE.1 (K0.w tw_274) (hts _ tw_271) (hts _ tw_273) (hts _ tw_9004) (hts _ tw_1) (by decide) np_FK_isMine (va_recv hK hP (ci := nFK) (q0 := 0) rfl rfl) rfl d_FK_isMyPage_21) (kb_t hq4 (c_FK_isMine K0 ad r σ (σ.1 1 g) ok (by omega))) (hl.1.trans hml.symm) (Nat.le_of_ble_eq_true rfl) ⟨Nat.le_of_ble_eq_true rfl, Nat.le_of_ble_eq_true rfl, Nat.le_of_ble_eq_true rfl, Nat.le_of_ble_eq_true rfl⟩ (fun U hU hW => ⟨hE.go hW hU hS, by rw [hU]; exact hP, hD⟩) ?_
      refine k_if0 (tgt := 31) (by decide) hx hb d_FK_isMyPage_24 (by decide) (fun h9 => absurd h9 (by decide)) (fun _ => ?_)
      refine lv_iconst (v := (nI 1)) hx hb d_FK_isMyPage_27 (by decide) ?_
      refine lv_goto (tgt := 32) hx hb d_FK_isMyPage_28 (by decide) ?_
      exact k_retZ hx hb hr hlocks (by decide) d_FK_isMyPage_32 (by first | rfl | (simp [mpage, b2n, eIA, eIS, eUO, eNS, h2, hq4]; done) | (simp [mpage, b2n, eIA, eIS, eUO, eNS, h2, hq4]; rfl) | (simp [mpage, b2n, eIA, eIS, eUO, eNS, hq4, beq_iff_eq.mpr h2]; done) | (simp [mpage, b2n, eIA, eIS, eUO, eNS, hq4, beq_iff_eq.mpr h2]; rfl) | (simp only [mpage, b2n, eIA, eIS, eUO, eNS, h2, hq4]; rfl))
set_option maxHeartbeats 4000000 in
set_option maxRecDepth 100000 in
theorem c_FK_holdsMoreThanRoot {l : Launch} {s0 : State} {a0 : Array Value} {D : va_G} {cI cL : ClassId} (K0 : k0 l s0 a0 D cI cL) (ad : Nat → Nat) (r : va_W) (σ : kS) (q : Nat) (ok : kOk σ) (hq : q < 6) (hr6 : σ.1 6 q ≠ 0) : kMet l y_FK_holdsMoreThanRoot (Cond.code y_FK_holdsMoreThanRoot b_FK_holdsMoreThanRoot 2 (some .boolean)) (rmL 2) [.ref (ad 0), .int (nI q)] (kPre D vwCl s0 (wC ad cI r) σ) (.ok (some (.int (nI (b2n (mhas σ q)))), ())) kBr := by
  refine k_of (by decide) (Nat.le_of_ble_eq_true rfl) ?_
  intro p e9 s m below meth c hx hb hr hlocks hown hml hex hpre ls hl
  obtain ⟨hE, hP, hD⟩ := hpre
  obtain ⟨hts, hK⟩ := K0.at (args := ([.ref (ad 0), .int (nI q)] : List Value).toArray) hE
  have hl : lv_has ls 2 [(0, .ref (ad 0)), (1, .int (nI q))] := hl
  have hS : va_S (kA s0) s.heap s.heap [] := va_S.rf
  obtain ⟨o1, o2, o3, o4, o5, o6, o7, o8, o9, o10, o0, ⟨oc1, oc2⟩, oc3, or6⟩ := id ok
  have hr0 : σ.1 6 (σ.1 11 0) ≠ 0 := or6 _ oc2 (by omega)
  have hr1 : σ.1 6 (σ.1 11 0) < 21 := o6 _ oc2
  refine lv_aload_n hx hb d_FK_holdsMoreThanRoot_0 rfl (lv_at hl 0 rfl) ?_
  refine va_get (D := D) (ci := nFK) (v := .ref (ad 1)) (C := R_FK) (T := T_FK) (N := 4) hx hb hts i_FK hown hK hP 0 rfl rfl 0 (by decide) (hts _ tw_116) (fun _ h9 => h9) rfl d_FK_holdsMoreThanRoot_1 ?_
  refine lv_iload_n hx hb d_FK_holdsMoreThanRoot_4 rfl (lv_at hl 1 rfl) ?_
  refine k_callR (k_atV (As := [.int (nI q)]) hx hb hown hE.1 (K0.w tw_449) (hts _ tw_446) (hts _ tw_447) (hts _ tw_448) (hts _ tw_2) (by decide) np_Mem_pagesOf (va_recv hK hP (ci := nMem) (q0 := 1) rfl rfl) rfl d_FK_holdsMoreThanRoot_5) (c_Mem_pagesOf K0 ad r σ q (by omega) ok.b1) (hl.1.trans hml.symm) (Nat.le_of_ble_eq_true rfl) ⟨Nat.le_of_ble_eq_true rfl, Nat.le_of_ble_eq_true rfl, Nat.le_of_ble_eq_true rfl, Nat.le_of_ble_eq_true rfl⟩ (fun U hU hW => ⟨hE.go hW hU hS, by rw [hU]; exact hP, hD⟩) ?_
  have hc1 : (owned σ q) ≤ 20 := cnt_le _ _
  refine lv_iconst (v := (nI 1)) hx hb d_FK_holdsMoreThanRoot_8 (by decide) ?_
  refine k_gtN (tgt := 41) (by omega) (by omega) hx hb d_FK_holdsMoreThanRoot_9 (by decide) (fun h2 => ?_) (fun h2 => ?_)
  · refine lv_iconst (v := (nI 1)) hx hb d_FK_holdsMoreThanRoot_41 (by decide) ?_
    refine lv_goto (tgt := 46) hx hb d_FK_holdsMoreThanRoot_42 (by decide) ?_
    exact k_retZ hx hb hr hlocks (by decide) d_FK_holdsMoreThanRoot_46 (by first | rfl | (simp [mhas, b2n, eIA, eIS, eUO, eNS, h2]; done) | (simp [mhas, b2n, eIA, eIS, eUO, eNS, h2]; rfl) | (simp [mhas, b2n, eIA, eIS, eUO, eNS, h2]; done) | (simp [mhas, b2n, eIA, eIS, eUO, eNS, h2]; rfl) | (simp only [mhas, b2n, eIA, eIS, eUO, eNS, h2]; rfl))
  · refine lv_aload_n hx hb d_FK_holdsMoreThanRoot_12 rfl (lv_at hl 0 rfl) ?_
    refine va_get (D := D) (ci := nFK) (v := .ref (ad 1)) (C := R_FK) (T := T_FK) (N := 4) hx hb hts i_FK hown hK hP 0 rfl rfl 0 (by decide) (hts _ tw_116) (fun _ h9 => h9) rfl d_FK_holdsMoreThanRoot_13 ?_
    refine lv_aload_n hx hb d_FK_holdsMoreThanRoot_16 rfl (lv_at hl 0 rfl) ?_
    refine va_get (D := D) (ci := nFK) (v := .ref (ad 2)) (C := R_FK) (T := T_FK) (N := 4) hx hb hts i_FK hown hK hP 0 rfl rfl 1 (by decide) (hts _ tw_117) (fun _ h9 => h9) rfl d_FK_holdsMoreThanRoot_17 ?_
    refine lv_iload_n hx hb d_FK_holdsMoreThanRoot_20 rfl (lv_at hl 1 rfl) ?_
    refine k_callR (k_atV (As := [.int (nI q)]) hx hb hown hE.1 (K0.w tw_453) (hts _ tw_450) (hts _ tw_451) (hts _ tw_452) (hts _ tw_3) (by decide) np_Pro_rootOf (va_recv hK hP (ci := nPro) (q0 := 2) rfl rfl) rfl d_FK_holdsMoreThanRoot_21) (c_Pro_rootOf K0 ad r σ q (by omega)) (hl.1.trans hml.symm) (Nat.le_of_ble_eq_true rfl) ⟨Nat.le_of_ble_eq_true rfl, Nat.le_of_ble_eq_true rfl, Nat.le_of_ble_eq_true rfl, Nat.le_of_ble_eq_true rfl⟩ (fun U hU hW => ⟨hE.go hW hU hS, by rw [hU]; exact hP, hD⟩) ?_
    have ho3 := o6 q (by omega)
    refine k_st (st' := [.int (nI ((σ.1 6 q) - 1)), .ref (ad 1)]) (by show ([.int (pI (σ.1 6 q)), .ref (ad 1)] : List Value) = _; rw [pI_pred (by omega)]) ?_
    refine k_callR (k_atV (As := [.int (nI ((σ.1 6 q) - 1))]) hx hb hown hE.1 (K0.w tw_371) (hts _ tw_368) (hts _ tw_369) (hts _ tw_370) (hts _ tw_2) (by decide) np_Mem_filledEntries (va_recv hK hP (ci := nMem) (q0 := 1) rfl rfl) rfl d_FK_holdsMoreThanRoot_24) (c_Mem_filledEntries K0 ad r σ ((σ.1 6 q) - 1) (by omega) ok.b2) (hl.1.trans hml.symm) (Nat.le_of_ble_eq_true rfl) ⟨Nat.le_of_ble_eq_true rfl, Nat.le_of_ble_eq_true rfl, Nat.le_of_ble_eq_true rfl, Nat.le_of_ble_eq_true rfl⟩ (fun U hU hW => ⟨hE.go hW hU hS, by rw [hU]; exact hP, hD⟩) ?_
    have hc4 : (filled σ ((σ.1 6 q) - 1)) ≤ 4 := cnt_le _ _
    refine k_gtN0 (tgt := 41) (by omega) hx hb d_FK_holdsMoreThanRoot_27 (by decide) (fun h5 => ?_) (fun h5 => ?_)
    · refine lv_iconst (v := (nI 1)) hx hb d_FK_holdsMoreThanRoot_41 (by decide) ?_
      refine lv_goto (tgt := 46) hx hb d_FK_holdsMoreThanRoot_42 (by decide) ?_
      exact k_retZ hx hb hr hlocks (by decide) d_FK_holdsMoreThanRoot_46 (by first | rfl | (simp [mhas, b2n, eIA, eIS, eUO, eNS, h2, h5, beq_false_of_ne h5, bne_iff_ne.mpr h5, Nat.not_lt.mpr h2]; done) | (simp [mhas, b2n, eIA, eIS, eUO, eNS, h2, h5, beq_false_of_ne h5, bne_iff_ne.mpr h5, Nat.not_lt.mpr h2]; rfl) | (simp [mhas, b2n, eIA, eIS, eUO, eNS, h2, h5, beq_false_of_ne h5, bne_iff_ne.mpr h5, Nat.not_lt.mpr h2]; done) | (simp [mhas, b2n, eIA, eIS, eUO, eNS, h2, h5, beq_false_of_ne h5, bne_iff_ne.mpr h5, Nat.not_lt.mpr h2]; rfl) | (simp only [mhas, b2n, eIA, eIS, eUO, eNS, h2, h5, beq_false_of_ne h5, bne_iff_ne.mpr h5, Nat.not_lt.mpr h2]; rfl))
    · refine lv_aload_n hx hb d_FK_holdsMoreThanRoot_30 rfl (lv_at hl 0 rfl) ?_
      refine va_get (D := D) (ci := nFK) (v := .ref (ad 2)) (C := R_FK) (T := T_FK) (N := 4) hx hb hts i_FK hown hK hP 0 rfl rfl 1 (by decide) (hts _ tw_117) (fun _ h9 => h9) rfl d_FK_holdsMoreThanRoot_31 ?_
      refine lv_iload_n hx hb d_FK_holdsMoreThanRoot_34 rfl (lv_at hl 1 rfl) ?_
      refine k_callR (k_atV (As := [.int (nI q)]) hx hb hown hE.1 (K0.w tw_429) (hts _ tw_426) (hts _ tw_427) (hts _ tw_428) (hts _ tw_3) (by decide) np_Pro_descriptorsInUse (va_recv hK hP (ci := nPro) (q0 := 2) rfl rfl) rfl d_FK_holdsMoreThanRoot_35) (c_Pro_descriptorsInUse K0 ad r σ q (by omega) ok.b7) (hl.1.trans hml.symm) (Nat.le_of_ble_eq_true rfl) ⟨Nat.le_of_ble_eq_true rfl, Nat.le_of_ble_eq_true rfl, Nat.le_of_ble_eq_true rfl, Nat.le_of_ble_eq_true rfl⟩ (fun U hU hW => ⟨hE.go hW hU hS, by rw [hU]; exact hP, hD⟩) ?_
      have hc6 : (inuse σ q) ≤ 4 := cnt_le _ _
      refine k_leN0 (tgt := 45) (by omega) hx hb d_FK_holdsMoreThanRoot_38 (by decide) (fun h7 => ?_) (fun h7 => ?_)
      · refine lv_iconst (v := (nI 0)) hx hb d_FK_holdsMoreThanRoot_45 (by decide) ?_
        exact k_retZ hx hb hr hlocks (by decide) d_FK_holdsMoreThanRoot_46 (by first | rfl | (simp [mhas, b2n, eIA, eIS, eUO, eNS, h2, h5, h7, Nat.not_lt.mpr h2]; done) | (simp [mhas, b2n, eIA, eIS, eUO, eNS, h2, h5, h7, Nat.not_lt.mpr h2]; rfl) | (simp [mhas, b2n, eIA, eIS, eUO, eNS, h2, beq_iff_eq.mpr h5, beq_iff_eq.mpr h7, Nat.not_lt.mpr h2]; done) | (simp [mhas, b2n, eIA, eIS, eUO, eNS, h2, beq_iff_eq.mpr h5, beq_iff_eq.mpr h7, Nat.not_lt.mpr h2]; rfl) | (simp only [mhas, b2n, eIA, eIS, eUO, eNS, h2, h5, h7, Nat.not_lt.mpr h2]; rfl))
      · refine lv_iconst (v := (nI 1)) hx hb d_FK_holdsMoreThanRoot_41 (by decide) ?_
        refine lv_goto (tgt := 46) hx hb d_FK_holdsMoreThanRoot_42 (by decide) ?_
        exact k_retZ hx hb hr hlocks (by decide) d_FK_holdsMoreThanRoot_46 (by first | rfl | (simp [mhas, b2n, eIA, eIS, eUO, eNS, h2, h5, h7, beq_false_of_ne h7, bne_iff_ne.mpr h7, Nat.not_lt.mpr h2]; done) | (simp [mhas, b2n, eIA, eIS, eUO, eNS, h2, h5, h7, beq_false_of_ne h7, bne_iff_ne.mpr h7, Nat.not_lt.mpr h2]; rfl) | (simp [mhas, b2n, eIA, eIS, eUO, eNS, h2, h7, beq_iff_eq.mpr h5, beq_false_of_ne h7, bne_iff_ne.mpr h7, Nat.not_lt.mpr h2]; done) | (simp [mhas, b2n, eIA, eIS, eUO, eNS, h2, h7, beq_iff_eq.mpr h5, beq_false_of_ne h7, bne_iff_ne.mpr h7, Nat.not_lt.mpr h2]; rfl) | (simp only [mhas, b2n, eIA, eIS, eUO, eNS, h2, h5, h7, beq_false_of_ne h7, bne_iff_ne.mpr h7, Nat.not_lt.mpr h2]; rfl))
set_option maxHeartbeats 4000000 in
set_option maxRecDepth 100000 in
theorem c_FK_checkIsMine {l : Launch} {s0 : State} {a0 : Array Value} {D : va_G} {cI cL : ClassId} (K0 : k0 l s0 a0 D cI cL) (ad : Nat → Nat) (r : va_W) (σ : kS) (q : Nat) (ok : kOk σ) (hq : q < 6) : kMet l y_FK_checkIsMine (Cond.code y_FK_checkIsMine b_FK_checkIsMine 2 none) (rmL 6) [.ref (ad 0), .int (nI q)] (kPre D vwCl s0 (wC ad cI r) σ) (req (mine σ q) eUO (.ok (none, ()))) kBr := by
  refine k_of (by decide) (Nat.le_of_ble_eq_true rfl) ?_
  intro p e9 s m below meth c hx hb hr hlocks hown hml hex hpre ls hl
  obtain ⟨hE, hP, hD⟩ := hpre
  obtain ⟨hts, hK⟩ := K0.at (args := ([.ref (ad 0), .int (nI q)] : List Value).toArray) hE
  have hl : lv_has ls 2 [(0, .ref (ad 0)), (1, .int (nI q))] := hl
  have hS : va_S (kA s0) s.heap s.heap [] := va_S.rf
  obtain ⟨o1, o2, o3, o4, o5, o6, o7, o8, o9, o10, o0, ⟨oc1, oc2⟩, oc3, or6⟩ := id ok
  have hr0 : σ.1 6 (σ.1 11 0) ≠ 0 := or6 _ oc2 (by omega)
  have hr1 : σ.1 6 (σ.1 11 0) < 21 := o6 _ oc2
  refine lv_aload_n hx hb d_FK_checkIsMine_0 rfl (lv_at hl 0 rfl) ?_
  refine lv_iload_n hx hb d_FK_checkIsMine_1 rfl (lv_at hl 1 rfl) ?_
  rcases hq1 : mine σ q with _ | _
  · refine k_callR (k_atV (As := [.int (nI q)]) hx hb hown hE.1 (K0.w tw_274) (hts _ tw_271) (hts _ tw_273) (hts _ tw_9004) (hts _ tw_1) (by decide) np_FK_isMine (va_recv hK hP (ci := nFK) (q0 := 0) rfl rfl) rfl d_FK_checkIsMine_2) (kb_f hq1 (c_FK_isMine K0 ad r σ q ok (by omega))) (hl.1.trans hml.symm) (Nat.le_of_ble_eq_true rfl) ⟨Nat.le_of_ble_eq_true rfl, Nat.le_of_ble_eq_true rfl, Nat.le_of_ble_eq_true rfl, Nat.le_of_ble_eq_true rfl⟩ (fun U hU hW => ⟨hE.go hW hU hS, by rw [hU]; exact hP, hD⟩) ?_
    refine k_ifN0 (tgt := 19) (by decide) hx hb d_FK_checkIsMine_5 (by decide) (fun h9 => absurd h9 (by decide)) (fun _ => ?_)
    exact k_throwW hx hb K0.tr hown (text := "the process is not the caller's") (names := kNames) (by decide +kernel) (by decide +kernel) (hts _ tw_283) (hts _ tw_11) (K0.str hE sr_267) (K0.own hE oa_95) (hl.1.trans hml.symm) d_FK_checkIsMine_8 d_FK_checkIsMine_11 d_FK_checkIsMine_12 d_FK_checkIsMine_15 d_FK_checkIsMine_18 hex hlocks ⟨Nat.le_of_ble_eq_true rfl, Nat.le_of_ble_eq_true rfl, Nat.le_of_ble_eq_true rfl, Nat.le_of_ble_eq_true rfl⟩ (by first | rfl | (simp [req, eIA, eIS, eUO, eNS, hq1]; done) | (simp [req, eIA, eIS, eUO, eNS, hq1]; rfl) | (simp [req, eIA, eIS, eUO, eNS, hq1]; done) | (simp [req, eIA, eIS, eUO, eNS, hq1]; rfl) | (simp only [req, eIA, eIS, eUO, eNS, hq1]; rfl))
  · refine k_callR (k_atV (As := [.int (nI q)]) hx hb hown hE.1 (K0.w tw_274) (hts _ tw_271) (hts _ tw_273) (hts _ tw_9004) (hts _ tw_1) (by decide) np_FK_isMine (va_recv hK hP (ci := nFK) (q0 := 0) rfl rfl) rfl d_FK_checkIsMine_2) (kb_t hq1 (c_FK_isMine K0 ad r σ q ok (by omega))) (hl.1.trans hml.symm) (Nat.le_of_ble_eq_true rfl) ⟨Nat.le_of_ble_eq_true rfl, Nat.le_of_ble_eq_true rfl, Nat.le_of_ble_eq_true rfl, Nat.le_of_ble_eq_true rfl⟩ (fun U hU hW => ⟨hE.go hW hU hS, by rw [hU]; exact hP, hD⟩) ?_
    refine k_ifN0 (tgt := 19) (by decide) hx hb d_FK_checkIsMine_5 (by decide) (fun _ => ?_) (fun h9 => absurd h9 (by decide))
    exact k_retV hx hb hr hlocks d_FK_checkIsMine_19 (by first | rfl | (simp [req, eIA, eIS, eUO, eNS, hq1]; done) | (simp [req, eIA, eIS, eUO, eNS, hq1]; rfl) | (simp [req, eIA, eIS, eUO, eNS, hq1]; done) | (simp [req, eIA, eIS, eUO, eNS, hq1]; rfl) | (simp only [req, eIA, eIS, eUO, eNS, hq1]; rfl))
set_option maxHeartbeats 4000000 in
set_option maxRecDepth 100000 in
theorem c_FK_checkIsReady {l : Launch} {s0 : State} {a0 : Array Value} {D : va_G} {cI cL : ClassId} (K0 : k0 l s0 a0 D cI cL) (ad : Nat → Nat) (r : va_W) (σ : kS) (q : Nat) (ok : kOk σ) (hq : q < 6) : kMet l y_FK_checkIsReady (Cond.code y_FK_checkIsReady b_FK_checkIsReady 2 none) (rmL 6) [.ref (ad 0), .int (nI q)] (kPre D vwCl s0 (wC ad cI r) σ) (req (σ.1 4 q == 2) eIS (.ok (none, ()))) kBr := by
  refine k_of (by decide) (Nat.le_of_ble_eq_true rfl) ?_
  intro p e9 s m below meth c hx hb hr hlocks hown hml hex hpre ls hl
  obtain ⟨hE, hP, hD⟩ := hpre
  obtain ⟨hts, hK⟩ := K0.at (args := ([.ref (ad 0), .int (nI q)] : List Value).toArray) hE
  have hl : lv_has ls 2 [(0, .ref (ad 0)), (1, .int (nI q))] := hl
  have hS : va_S (kA s0) s.heap s.heap [] := va_S.rf
  obtain ⟨o1, o2, o3, o4, o5, o6, o7, o8, o9, o10, o0, ⟨oc1, oc2⟩, oc3, or6⟩ := id ok
  have hr0 : σ.1 6 (σ.1 11 0) ≠ 0 := or6 _ oc2 (by omega)
  have hr1 : σ.1 6 (σ.1 11 0) < 21 := o6 _ oc2
  refine lv_aload_n hx hb d_FK_checkIsReady_0 rfl (lv_at hl 0 rfl) ?_
  refine va_get (D := D) (ci := nFK) (v := .ref (ad 2)) (C := R_FK) (T := T_FK) (N := 4) hx hb hts i_FK hown hK hP 0 rfl rfl 1 (by decide) (hts _ tw_117) (fun _ h9 => h9) rfl d_FK_checkIsReady_1 ?_
  refine lv_iload_n hx hb d_FK_checkIsReady_4 rfl (lv_at hl 1 rfl) ?_
  refine k_callR (k_atV (As := [.int (nI q)]) hx hb hown hE.1 (K0.w tw_219) (hts _ tw_216) (hts _ tw_217) (hts _ tw_218) (hts _ tw_3) (by decide) np_Pro_stateOf (va_recv hK hP (ci := nPro) (q0 := 2) rfl rfl) rfl d_FK_checkIsReady_5) (c_Pro_stateOf K0 ad r σ q (by omega)) (hl.1.trans hml.symm) (Nat.le_of_ble_eq_true rfl) ⟨Nat.le_of_ble_eq_true rfl, Nat.le_of_ble_eq_true rfl, Nat.le_of_ble_eq_true rfl, Nat.le_of_ble_eq_true rfl⟩ (fun U hU hW => ⟨hE.go hW hU hS, by rw [hU]; exact hP, hD⟩) ?_
  have ho1 := o4 q (by omega)
  refine lv_iconst (v := (nI 2)) hx hb d_FK_checkIsReady_8 (by decide) ?_
  refine k_eqN (tgt := 23) (Nat.lt_of_lt_of_le (ok.b4 _ (by omega)) (by decide)) (by omega) hx hb d_FK_checkIsReady_9 (by decide) (fun h2 => ?_) (fun h2 => ?_)
  · exact k_retV hx hb hr hlocks d_FK_checkIsReady_23 (by first | rfl | (simp [req, eIA, eIS, eUO, eNS, h2]; done) | (simp [req, eIA, eIS, eUO, eNS, h2]; rfl) | (simp [req, eIA, eIS, eUO, eNS, beq_iff_eq.mpr h2]; done) | (simp [req, eIA, eIS, eUO, eNS, beq_iff_eq.mpr h2]; rfl) | (simp only [req, eIA, eIS, eUO, eNS, h2]; rfl))
  · exact k_throwW hx hb K0.tr hown (text := "the process is not ready") (names := kNames) (by decide +kernel) (by decide +kernel) (hts _ tw_220) (hts _ tw_10) (K0.str hE sr_269) (K0.own hE oa_57) (hl.1.trans hml.symm) d_FK_checkIsReady_12 d_FK_checkIsReady_15 d_FK_checkIsReady_16 d_FK_checkIsReady_19 d_FK_checkIsReady_22 hex hlocks ⟨Nat.le_of_ble_eq_true rfl, Nat.le_of_ble_eq_true rfl, Nat.le_of_ble_eq_true rfl, Nat.le_of_ble_eq_true rfl⟩ (by first | rfl | (simp [req, eIA, eIS, eUO, eNS, h2, beq_false_of_ne h2, bne_iff_ne.mpr h2]; done) | (simp [req, eIA, eIS, eUO, eNS, h2, beq_false_of_ne h2, bne_iff_ne.mpr h2]; rfl) | (simp [req, eIA, eIS, eUO, eNS, h2, beq_false_of_ne h2, bne_iff_ne.mpr h2]; done) | (simp [req, eIA, eIS, eUO, eNS, h2, beq_false_of_ne h2, bne_iff_ne.mpr h2]; rfl) | (simp only [req, eIA, eIS, eUO, eNS, h2, beq_false_of_ne h2, bne_iff_ne.mpr h2]; rfl))
set_option maxHeartbeats 4000000 in
set_option maxRecDepth 100000 in
theorem c_FK_checkPageIsFree {l : Launch} {s0 : State} {a0 : Array Value} {D : va_G} {cI cL : ClassId} (K0 : k0 l s0 a0 D cI cL) (ad : Nat → Nat) (r : va_W) (σ : kS) (g : Nat) (ok : kOk σ) (hg : g < 20) : kMet l y_FK_checkPageIsFree (Cond.code y_FK_checkPageIsFree b_FK_checkPageIsFree 2 none) (rmL 6) [.ref (ad 0), .int (nI g)] (kPre D vwCl s0 (wC ad cI r) σ) (req (σ.1 0 g == 0) eIS (.ok (none, ()))) kBr := by
  refine k_of (by decide) (Nat.le_of_ble_eq_true rfl) ?_
  intro p e9 s m below meth c hx hb hr hlocks hown hml hex hpre ls hl
  obtain ⟨hE, hP, hD⟩ := hpre
  obtain ⟨hts, hK⟩ := K0.at (args := ([.ref (ad 0), .int (nI g)] : List Value).toArray) hE
  have hl : lv_has ls 2 [(0, .ref (ad 0)), (1, .int (nI g))] := hl
  have hS : va_S (kA s0) s.heap s.heap [] := va_S.rf
  obtain ⟨o1, o2, o3, o4, o5, o6, o7, o8, o9, o10, o0, ⟨oc1, oc2⟩, oc3, or6⟩ := id ok
  have hr0 : σ.1 6 (σ.1 11 0) ≠ 0 := or6 _ oc2 (by omega)
  have hr1 : σ.1 6 (σ.1 11 0) < 21 := o6 _ oc2
  refine lv_aload_n hx hb d_FK_checkPageIsFree_0 rfl (lv_at hl 0 rfl) ?_
  refine va_get (D := D) (ci := nFK) (v := .ref (ad 1)) (C := R_FK) (T := T_FK) (N := 4) hx hb hts i_FK hown hK hP 0 rfl rfl 0 (by decide) (hts _ tw_116) (fun _ h9 => h9) rfl d_FK_checkPageIsFree_1 ?_
  refine lv_iload_n hx hb d_FK_checkPageIsFree_4 rfl (lv_at hl 1 rfl) ?_
  refine k_callR (k_atV (As := [.int (nI g)]) hx hb hown hE.1 (K0.w tw_243) (hts _ tw_240) (hts _ tw_241) (hts _ tw_242) (hts _ tw_2) (by decide) np_Mem_kindOf (va_recv hK hP (ci := nMem) (q0 := 1) rfl rfl) rfl d_FK_checkPageIsFree_5) (c_Mem_kindOf K0 ad r σ g (by omega)) (hl.1.trans hml.symm) (Nat.le_of_ble_eq_true rfl) ⟨Nat.le_of_ble_eq_true rfl, Nat.le_of_ble_eq_true rfl, Nat.le_of_ble_eq_true rfl, Nat.le_of_ble_eq_true rfl⟩ (fun U hU hW => ⟨hE.go hW hU hS, by rw [hU]; exact hP, hD⟩) ?_
  have ho1 := o0 g (by omega)
  refine k_if0 (tgt := 22) (Nat.lt_of_lt_of_le (ok.b0 _ (by omega)) (by decide)) hx hb d_FK_checkPageIsFree_8 (by decide) (fun h2 => ?_) (fun h2 => ?_)
  · exact k_retV hx hb hr hlocks d_FK_checkPageIsFree_22 (by first | rfl | (simp [req, eIA, eIS, eUO, eNS, h2]; done) | (simp [req, eIA, eIS, eUO, eNS, h2]; rfl) | (simp [req, eIA, eIS, eUO, eNS, beq_iff_eq.mpr h2]; done) | (simp [req, eIA, eIS, eUO, eNS, beq_iff_eq.mpr h2]; rfl) | (simp only [req, eIA, eIS, eUO, eNS, h2]; rfl))
  · exact k_throwW hx hb K0.tr hown (text := "the page is not free") (names := kNames) (by decide +kernel) (by decide +kernel) (hts _ tw_220) (hts _ tw_10) (K0.str hE sr_271) (K0.own hE oa_57) (hl.1.trans hml.symm) d_FK_checkPageIsFree_11 d_FK_checkPageIsFree_14 d_FK_checkPageIsFree_15 d_FK_checkPageIsFree_18 d_FK_checkPageIsFree_21 hex hlocks ⟨Nat.le_of_ble_eq_true rfl, Nat.le_of_ble_eq_true rfl, Nat.le_of_ble_eq_true rfl, Nat.le_of_ble_eq_true rfl⟩ (by first | rfl | (simp [req, eIA, eIS, eUO, eNS, h2, beq_false_of_ne h2, bne_iff_ne.mpr h2]; done) | (simp [req, eIA, eIS, eUO, eNS, h2, beq_false_of_ne h2, bne_iff_ne.mpr h2]; rfl) | (simp [req, eIA, eIS, eUO, eNS, h2, beq_false_of_ne h2, bne_iff_ne.mpr h2]; done) | (simp [req, eIA, eIS, eUO, eNS, h2, beq_false_of_ne h2, bne_iff_ne.mpr h2]; rfl) | (simp only [req, eIA, eIS, eUO, eNS, h2, beq_false_of_ne h2, bne_iff_ne.mpr h2]; rfl))
set_option maxHeartbeats 4000000 in
set_option maxRecDepth 100000 in
theorem c_FK_checkDescriptorIsUnused {l : Launch} {s0 : State} {a0 : Array Value} {D : va_G} {cI cL : ClassId} (K0 : k0 l s0 a0 D cI cL) (ad : Nat → Nat) (r : va_W) (σ : kS) (q : Nat) (dd : Nat) (ok : kOk σ) (hq : q < 6) (hdd : dd < 4) : kMet l y_FK_checkDescriptorIsUnused (Cond.code y_FK_checkDescriptorIsUnused b_FK_checkDescriptorIsUnused 3 none) (rmL 6) [.ref (ad 0), .int (nI q), .int (nI dd)] (kPre D vwCl s0 (wC ad cI r) σ) (req (σ.1 7 (q * 4 + dd) == 0) eIS (.ok (none, ()))) kBr := by
  refine k_of (by decide) (Nat.le_of_ble_eq_true rfl) ?_
  intro p e9 s m below meth c hx hb hr hlocks hown hml hex hpre ls hl
  obtain ⟨hE, hP, hD⟩ := hpre
  obtain ⟨hts, hK⟩ := K0.at (args := ([.ref (ad 0), .int (nI q), .int (nI dd)] : List Value).toArray) hE
  have hl : lv_has ls 3 [(0, .ref (ad 0)), (1, .int (nI q)), (2, .int (nI dd))] := hl
  have hS : va_S (kA s0) s.heap s.heap [] := va_S.rf
  obtain ⟨o1, o2, o3, o4, o5, o6, o7, o8, o9, o10, o0, ⟨oc1, oc2⟩, oc3, or6⟩ := id ok
  have hr0 : σ.1 6 (σ.1 11 0) ≠ 0 := or6 _ oc2 (by omega)
  have hr1 : σ.1 6 (σ.1 11 0) < 21 := o6 _ oc2
  refine lv_aload_n hx hb d_FK_checkDescriptorIsUnused_0 rfl (lv_at hl 0 rfl) ?_
  refine va_get (D := D) (ci := nFK) (v := .ref (ad 2)) (C := R_FK) (T := T_FK) (N := 4) hx hb hts i_FK hown hK hP 0 rfl rfl 1 (by decide) (hts _ tw_117) (fun _ h9 => h9) rfl d_FK_checkDescriptorIsUnused_1 ?_
  refine lv_iload_n hx hb d_FK_checkDescriptorIsUnused_4 rfl (lv_at hl 1 rfl) ?_
  refine lv_iload_n hx hb d_FK_checkDescriptorIsUnused_5 rfl (lv_at hl 2 rfl) ?_
  refine k_callR (k_atV (As := [.int (nI q), .int (nI dd)]) hx hb hown hE.1 (K0.w tw_433) (hts _ tw_482) (hts _ tw_431) (hts _ tw_432) (hts _ tw_3) (by decide) np_Pro_pipeOf (va_recv hK hP (ci := nPro) (q0 := 2) rfl rfl) rfl d_FK_checkDescriptorIsUnused_6) (c_Pro_pipeOf K0 ad r σ q dd (by omega) (by omega)) (hl.1.trans hml.symm) (Nat.le_of_ble_eq_true rfl) ⟨Nat.le_of_ble_eq_true rfl, Nat.le_of_ble_eq_true rfl, Nat.le_of_ble_eq_true rfl, Nat.le_of_ble_eq_true rfl⟩ (fun U hU hW => ⟨hE.go hW hU hS, by rw [hU]; exact hP, hD⟩) ?_
  have ho1 := o7 (q * 4 + dd) (by omega)
  refine lv_iconst (v := (pI 0)) hx hb d_FK_checkDescriptorIsUnused_9 (by decide) ?_
  refine k_eqP (tgt := 24) (ok.b7 _ (by omega)) (by omega) hx hb d_FK_checkDescriptorIsUnused_10 (by decide) (fun h2 => ?_) (fun h2 => ?_)
  · exact k_retV hx hb hr hlocks d_FK_checkDescriptorIsUnused_24 (by first | rfl | (simp [req, eIA, eIS, eUO, eNS, h2]; done) | (simp [req, eIA, eIS, eUO, eNS, h2]; rfl) | (simp [req, eIA, eIS, eUO, eNS, beq_iff_eq.mpr h2]; done) | (simp [req, eIA, eIS, eUO, eNS, beq_iff_eq.mpr h2]; rfl) | (simp only [req, eIA, eIS, eUO, eNS, h2]; rfl))
  · exact k_throwW hx hb K0.tr hown (text := "the descriptor is in use") (names := kNames) (by decide +kernel) (by decide +kernel) (hts _ tw_220) (hts _ tw_10) (K0.str hE sr_276) (K0.own hE oa_57) (hl.1.trans hml.symm) d_FK_checkDescriptorIsUnused_13 d_FK_checkDescriptorIsUnused_16 d_FK_checkDescriptorIsUnused_17 d_FK_checkDescriptorIsUnused_20 d_FK_checkDescriptorIsUnused_23 hex hlocks ⟨Nat.le_of_ble_eq_true rfl, Nat.le_of_ble_eq_true rfl, Nat.le_of_ble_eq_true rfl, Nat.le_of_ble_eq_true rfl⟩ (by first | rfl | (simp [req, eIA, eIS, eUO, eNS, h2, beq_false_of_ne h2, bne_iff_ne.mpr h2]; done) | (simp [req, eIA, eIS, eUO, eNS, h2, beq_false_of_ne h2, bne_iff_ne.mpr h2]; rfl) | (simp [req, eIA, eIS, eUO, eNS, h2, beq_false_of_ne h2, bne_iff_ne.mpr h2]; done) | (simp [req, eIA, eIS, eUO, eNS, h2, beq_false_of_ne h2, bne_iff_ne.mpr h2]; rfl) | (simp only [req, eIA, eIS, eUO, eNS, h2, beq_false_of_ne h2, bne_iff_ne.mpr h2]; rfl))
set_option maxHeartbeats 4000000 in
set_option maxRecDepth 100000 in
theorem c_FK_checkMyEntryIsFilled {l : Launch} {s0 : State} {a0 : Array Value} {D : va_G} {cI cL : ClassId} (K0 : k0 l s0 a0 D cI cL) (ad : Nat → Nat) (r : va_W) (σ : kS) (g : Nat) (en : Nat) (ok : kOk σ) (hg : g < 20) (hen : en < 4) : kMet l y_FK_checkMyEntryIsFilled (Cond.code y_FK_checkMyEntryIsFilled b_FK_checkMyEntryIsFilled 3 none) (rmL 6) [.ref (ad 0), .int (nI g), .int (nI en)] (kPre D vwCl s0 (wC ad cI r) σ) (req (mhold σ g) eUO (req (σ.1 2 (g * 4 + en) != 0) eNS (.ok (none, ())))) kBr := by
  refine k_of (by decide) (Nat.le_of_ble_eq_true rfl) ?_
  intro p e9 s m below meth c hx hb hr hlocks hown hml hex hpre ls hl
  obtain ⟨hE, hP, hD⟩ := hpre
  obtain ⟨hts, hK⟩ := K0.at (args := ([.ref (ad 0), .int (nI g), .int (nI en)] : List Value).toArray) hE
  have hl : lv_has ls 3 [(0, .ref (ad 0)), (1, .int (nI g)), (2, .int (nI en))] := hl
  have hS : va_S (kA s0) s.heap s.heap [] := va_S.rf
  obtain ⟨o1, o2, o3, o4, o5, o6, o7, o8, o9, o10, o0, ⟨oc1, oc2⟩, oc3, or6⟩ := id ok
  have hr0 : σ.1 6 (σ.1 11 0) ≠ 0 := or6 _ oc2 (by omega)
  have hr1 : σ.1 6 (σ.1 11 0) < 21 := o6 _ oc2
  refine lv_aload_n hx hb d_FK_checkMyEntryIsFilled_0 rfl (lv_at hl 0 rfl) ?_
  refine lv_iload_n hx hb d_FK_checkMyEntryIsFilled_1 rfl (lv_at hl 1 rfl) ?_
  refine lv_iconst (v := (nI 1)) hx hb d_FK_checkMyEntryIsFilled_2 (by decide) ?_
  rcases hq1 : mpage σ g 1 with _ | _
  · refine k_callR (k_atV (As := [.int (nI g), .int (nI 1)]) hx hb hown hE.1 (K0.w tw_266) (hts _ tw_263) (hts _ tw_265) (hts _ tw_9003) (hts _ tw_1) (by decide) np_FK_isMyPage (va_recv hK hP (ci := nFK) (q0 := 0) rfl rfl) rfl d_FK_checkMyEntryIsFilled_3) (kb_f hq1 (c_FK_isMyPage K0 ad r σ g 1 ok (by omega) (by omega))) (hl.1.trans hml.symm) (Nat.le_of_ble_eq_true rfl) ⟨Nat.le_of_ble_eq_true rfl, Nat.le_of_ble_eq_true rfl, Nat.le_of_ble_eq_true rfl, Nat.le_of_ble_eq_true rfl⟩ (fun U hU hW => ⟨hE.go hW hU hS, by rw [hU]; exact hP, hD⟩) ?_
    refine k_ifN0 (tgt := 29) (by decide) hx hb d_FK_checkMyEntryIsFilled_6 (by decide) (fun h9 => absurd h9 (by decide)) (fun _ => ?_)
    refine lv_aload_n hx hb d_FK_checkMyEntryIsFilled_9 rfl (lv_at hl 0 rfl) ?_
    refine lv_iload_n hx hb d_FK_checkMyEntryIsFilled_10 rfl (lv_at hl 1 rfl) ?_
    refine lv_iconst (v := (nI 2)) hx hb d_FK_checkMyEntryIsFilled_11 (by decide) ?_
    rcases hq2 : mpage σ g 2 with _ | _
    · refine k_callR (k_atV (As := [.int (nI g), .int (nI 2)]) hx hb hown hE.1 (K0.w tw_266) (hts _ tw_263) (hts _ tw_265) (hts _ tw_9003) (hts _ tw_1) (by decide) np_FK_isMyPage (va_recv hK hP (ci := nFK) (q0 := 0) rfl rfl) rfl d_FK_checkMyEntryIsFilled_12) (kb_f hq2 (c_FK_isMyPage K0 ad r σ g 2 ok (by omega) (by omega))) (hl.1.trans hml.symm) (Nat.le_of_ble_eq_true rfl) ⟨Nat.le_of_ble_eq_true rfl, Nat.le_of_ble_eq_true rfl, Nat.le_of_ble_eq_true rfl, Nat.le_of_ble_eq_true rfl⟩ (fun U hU hW => ⟨hE.go hW hU hS, by rw [hU]; exact hP, hD⟩) ?_
      refine k_ifN0 (tgt := 29) (by decide) hx hb d_FK_checkMyEntryIsFilled_15 (by decide) (fun h9 => absurd h9 (by decide)) (fun _ => ?_)
      exact k_throwW hx hb K0.tr hown (text := "the page is no root or table of the caller's") (names := kNames) (by decide +kernel) (by decide +kernel) (hts _ tw_283) (hts _ tw_11) (K0.str hE sr_278) (K0.own hE oa_95) (hl.1.trans hml.symm) d_FK_checkMyEntryIsFilled_18 d_FK_checkMyEntryIsFilled_21 d_FK_checkMyEntryIsFilled_22 d_FK_checkMyEntryIsFilled_25 d_FK_checkMyEntryIsFilled_28 hex hlocks ⟨Nat.le_of_ble_eq_true rfl, Nat.le_of_ble_eq_true rfl, Nat.le_of_ble_eq_true rfl, Nat.le_of_ble_eq_true rfl⟩ (by first | rfl | (simp [req, mhold, eIA, eIS, eUO, eNS, hq1, hq2]; done) | (simp [req, mhold, eIA, eIS, eUO, eNS, hq1, hq2]; rfl) | (simp [req, mhold, eIA, eIS, eUO, eNS, hq1, hq2]; done) | (simp [req, mhold, eIA, eIS, eUO, eNS, hq1, hq2]; rfl) | (simp only [req, mhold, eIA, eIS, eUO, eNS, hq1, hq2]; rfl))
    · refine k_callR (k_atV (As := [.int (nI g), .int (nI 2)]) hx hb hown hE.1 (K0.w tw_266) (hts _ tw_263) (hts _ tw_265) (hts _ tw_9003) (hts _ tw_1) (by decide) np_FK_isMyPage (va_recv hK hP (ci := nFK) (q0 := 0) rfl rfl) rfl d_FK_checkMyEntryIsFilled_12) (kb_t hq2 (c_FK_isMyPage K0 ad r σ g 2 ok (by omega) (by omega))) (hl.1.trans hml.symm) (Nat.le_of_ble_eq_true rfl) ⟨Nat.le_of_ble_eq_true rfl, Nat.le_of_ble_eq_true rfl, Nat.le_of_ble_eq_true rfl, Nat.le_of_ble_eq_true rfl⟩ (fun U hU hW => ⟨hE.go hW hU hS, by rw [hU]; exact hP, hD⟩) ?_
      refine k_ifN0 (tgt := 29) (by decide) hx hb d_FK_checkMyEntryIsFilled_15 (by decide) (fun _ => ?_) (fun h9 => absurd h9 (by decide))
      refine lv_aload_n hx hb d_FK_checkMyEntryIsFilled_29 rfl (lv_at hl 0 rfl) ?_
      refine va_get (D := D) (ci := nFK) (v := .ref (ad 1)) (C := R_FK) (T := T_FK) (N := 4) hx hb hts i_FK hown hK hP 0 rfl rfl 0 (by decide) (hts _ tw_116) (fun _ h9 => h9) rfl d_FK_checkMyEntryIsFilled_30 ?_
      refine lv_iload_n hx hb d_FK_checkMyEntryIsFilled_33 rfl (lv_at hl 1 rfl) ?_
      refine lv_iload_n hx hb d_FK_checkMyEntryIsFilled_34 rfl (lv_at hl 2 rfl) ?_
      refine k_callR (k_atV (As := [.int (nI g), .int (nI en)]) hx hb hown hE.1 (K0.w tw_302) (hts _ tw_299) (hts _ tw_300) (hts _ tw_301) (hts _ tw_2) (by decide) np_Mem_pageIn (va_recv hK hP (ci := nMem) (q0 := 1) rfl rfl) rfl d_FK_checkMyEntryIsFilled_35) (c_Mem_pageIn K0 ad r σ g en (by omega) (by omega)) (hl.1.trans hml.symm) (Nat.le_of_ble_eq_true rfl) ⟨Nat.le_of_ble_eq_true rfl, Nat.le_of_ble_eq_true rfl, Nat.le_of_ble_eq_true rfl, Nat.le_of_ble_eq_true rfl⟩ (fun U hU hW => ⟨hE.go hW hU hS, by rw [hU]; exact hP, hD⟩) ?_
      have ho3 := o2 (g * 4 + en) (by omega)
      refine lv_iconst (v := (pI 0)) hx hb d_FK_checkMyEntryIsFilled_38 (by decide) ?_
      refine k_neP (tgt := 53) (ok.b2 _ (by omega)) (by omega) hx hb d_FK_checkMyEntryIsFilled_39 (by decide) (fun h4 => ?_) (fun h4 => ?_)
      · exact k_retV hx hb hr hlocks d_FK_checkMyEntryIsFilled_53 (by first | rfl | (simp [req, mhold, eIA, eIS, eUO, eNS, hq1, hq2, h4, beq_false_of_ne h4, bne_iff_ne.mpr h4]; done) | (simp [req, mhold, eIA, eIS, eUO, eNS, hq1, hq2, h4, beq_false_of_ne h4, bne_iff_ne.mpr h4]; rfl) | (simp [req, mhold, eIA, eIS, eUO, eNS, hq1, hq2, h4, beq_false_of_ne h4, bne_iff_ne.mpr h4]; done) | (simp [req, mhold, eIA, eIS, eUO, eNS, hq1, hq2, h4, beq_false_of_ne h4, bne_iff_ne.mpr h4]; rfl) | (simp only [req, mhold, eIA, eIS, eUO, eNS, hq1, hq2, h4, beq_false_of_ne h4, bne_iff_ne.mpr h4]; rfl))
      · exact k_throwX x14_0 x14_1 x14_2 x14_5 hx hb K0.tr hown (text := "the entry is empty") (names := ["java/lang/Exception"]) (Y0 := "java/lang/RuntimeException") (by decide +kernel) (by decide +kernel) (by decide +kernel) (hts _ tw_325) (hts _ tw_12) (K0.str hE sr_282) (K0.own hE oa_284) (hl.1.trans hml.symm) d_FK_checkMyEntryIsFilled_42 d_FK_checkMyEntryIsFilled_45 d_FK_checkMyEntryIsFilled_46 d_FK_checkMyEntryIsFilled_49 d_FK_checkMyEntryIsFilled_52 hex hlocks ⟨Nat.le_of_ble_eq_true rfl, Nat.le_of_ble_eq_true rfl, Nat.le_of_ble_eq_true rfl, Nat.le_of_ble_eq_true rfl⟩ (by first | rfl | (simp [req, mhold, eIA, eIS, eUO, eNS, hq1, hq2, h4]; done) | (simp [req, mhold, eIA, eIS, eUO, eNS, hq1, hq2, h4]; rfl) | (simp [req, mhold, eIA, eIS, eUO, eNS, hq1, hq2, beq_iff_eq.mpr h4]; done) | (simp [req, mhold, eIA, eIS, eUO, eNS, hq1, hq2, beq_iff_eq.mpr h4]; rfl) | (simp only [req, mhold, eIA, eIS, eUO, eNS, hq1, hq2, h4]; rfl))
  · refine k_callR (k_atV (As := [.int (nI g), .int (nI 1)]) hx hb hown hE.1 (K0.w tw_266) (hts _ tw_263) (hts _ tw_265) (hts _ tw_9003) (hts _ tw_1) (by decide) np_FK_isMyPage (va_recv hK hP (ci := nFK) (q0 := 0) rfl rfl) rfl d_FK_checkMyEntryIsFilled_3) (kb_t hq1 (c_FK_isMyPage K0 ad r σ g 1 ok (by omega) (by omega))) (hl.1.trans hml.symm) (Nat.le_of_ble_eq_true rfl) ⟨Nat.le_of_ble_eq_true rfl, Nat.le_of_ble_eq_true rfl, Nat.le_of_ble_eq_true rfl, Nat.le_of_ble_eq_true rfl⟩ (fun U hU hW => ⟨hE.go hW hU hS, by rw [hU]; exact hP, hD⟩) ?_
    refine k_ifN0 (tgt := 29) (by decide) hx hb d_FK_checkMyEntryIsFilled_6 (by decide) (fun _ => ?_) (fun h9 => absurd h9 (by decide))
    refine lv_aload_n hx hb d_FK_checkMyEntryIsFilled_29 rfl (lv_at hl 0 rfl) ?_
    refine va_get (D := D) (ci := nFK) (v := .ref (ad 1)) (C := R_FK) (T := T_FK) (N := 4) hx hb hts i_FK hown hK hP 0 rfl rfl 0 (by decide) (hts _ tw_116) (fun _ h9 => h9) rfl d_FK_checkMyEntryIsFilled_30 ?_
    refine lv_iload_n hx hb d_FK_checkMyEntryIsFilled_33 rfl (lv_at hl 1 rfl) ?_
    refine lv_iload_n hx hb d_FK_checkMyEntryIsFilled_34 rfl (lv_at hl 2 rfl) ?_
    refine k_callR (k_atV (As := [.int (nI g), .int (nI en)]) hx hb hown hE.1 (K0.w tw_302) (hts _ tw_299) (hts _ tw_300) (hts _ tw_301) (hts _ tw_2) (by decide) np_Mem_pageIn (va_recv hK hP (ci := nMem) (q0 := 1) rfl rfl) rfl d_FK_checkMyEntryIsFilled_35) (c_Mem_pageIn K0 ad r σ g en (by omega) (by omega)) (hl.1.trans hml.symm) (Nat.le_of_ble_eq_true rfl) ⟨Nat.le_of_ble_eq_true rfl, Nat.le_of_ble_eq_true rfl, Nat.le_of_ble_eq_true rfl, Nat.le_of_ble_eq_true rfl⟩ (fun U hU hW => ⟨hE.go hW hU hS, by rw [hU]; exact hP, hD⟩) ?_
    have ho5 := o2 (g * 4 + en) (by omega)
    refine lv_iconst (v := (pI 0)) hx hb d_FK_checkMyEntryIsFilled_38 (by decide) ?_
    refine k_neP (tgt := 53) (ok.b2 _ (by omega)) (by omega) hx hb d_FK_checkMyEntryIsFilled_39 (by decide) (fun h6 => ?_) (fun h6 => ?_)
    · exact k_retV hx hb hr hlocks d_FK_checkMyEntryIsFilled_53 (by first | rfl | (simp [req, mhold, eIA, eIS, eUO, eNS, hq1, h6, beq_false_of_ne h6, bne_iff_ne.mpr h6]; done) | (simp [req, mhold, eIA, eIS, eUO, eNS, hq1, h6, beq_false_of_ne h6, bne_iff_ne.mpr h6]; rfl) | (simp [req, mhold, eIA, eIS, eUO, eNS, hq1, h6, beq_false_of_ne h6, bne_iff_ne.mpr h6]; done) | (simp [req, mhold, eIA, eIS, eUO, eNS, hq1, h6, beq_false_of_ne h6, bne_iff_ne.mpr h6]; rfl) | (simp only [req, mhold, eIA, eIS, eUO, eNS, hq1, h6, beq_false_of_ne h6, bne_iff_ne.mpr h6]; rfl))
    · exact k_throwX x14_0 x14_1 x14_2 x14_5 hx hb K0.tr hown (text := "the entry is empty") (names := ["java/lang/Exception"]) (Y0 := "java/lang/RuntimeException") (by decide +kernel) (by decide +kernel) (by decide +kernel) (hts _ tw_325) (hts _ tw_12) (K0.str hE sr_282) (K0.own hE oa_284) (hl.1.trans hml.symm) d_FK_checkMyEntryIsFilled_42 d_FK_checkMyEntryIsFilled_45 d_FK_checkMyEntryIsFilled_46 d_FK_checkMyEntryIsFilled_49 d_FK_checkMyEntryIsFilled_52 hex hlocks ⟨Nat.le_of_ble_eq_true rfl, Nat.le_of_ble_eq_true rfl, Nat.le_of_ble_eq_true rfl, Nat.le_of_ble_eq_true rfl⟩ (by first | rfl | (simp [req, mhold, eIA, eIS, eUO, eNS, hq1, h6]; done) | (simp [req, mhold, eIA, eIS, eUO, eNS, hq1, h6]; rfl) | (simp [req, mhold, eIA, eIS, eUO, eNS, hq1, beq_iff_eq.mpr h6]; done) | (simp [req, mhold, eIA, eIS, eUO, eNS, hq1, beq_iff_eq.mpr h6]; rfl) | (simp only [req, mhold, eIA, eIS, eUO, eNS, hq1, h6]; rfl))
set_option maxHeartbeats 4000000 in
set_option maxRecDepth 100000 in
theorem c_FK_tableAt {l : Launch} {s0 : State} {a0 : Array Value} {D : va_G} {cI cL : ClassId} (K0 : k0 l s0 a0 D cI cL) (ad : Nat → Nat) (r : va_W) (σ : kS) (a : Nat) (ok : kOk σ) (ha : a < 64) : kMet l y_FK_tableAt (Cond.code y_FK_tableAt b_FK_tableAt 3 (some .int)) (rmL 6) [.ref (ad 0), .int (nI a)] (kPre D vwCl s0 (wC ad cI r) σ) (req (tb σ a != 0) eNS (.ok (some (.int (pI (tb σ a))), ()))) kBr := by
  refine k_of (by decide) (Nat.le_of_ble_eq_true rfl) ?_
  intro p e9 s m below meth c hx hb hr hlocks hown hml hex hpre ls hl
  obtain ⟨hE, hP, hD⟩ := hpre
  obtain ⟨hts, hK⟩ := K0.at (args := ([.ref (ad 0), .int (nI a)] : List Value).toArray) hE
  have hl : lv_has ls 3 [(0, .ref (ad 0)), (1, .int (nI a))] := hl
  have hS : va_S (kA s0) s.heap s.heap [] := va_S.rf
  obtain ⟨o1, o2, o3, o4, o5, o6, o7, o8, o9, o10, o0, ⟨oc1, oc2⟩, oc3, or6⟩ := id ok
  have hr0 : σ.1 6 (σ.1 11 0) ≠ 0 := or6 _ oc2 (by omega)
  have hr1 : σ.1 6 (σ.1 11 0) < 21 := o6 _ oc2
  refine lv_aload_n hx hb d_FK_tableAt_0 rfl (lv_at hl 0 rfl) ?_
  refine va_get (D := D) (ci := nFK) (v := .ref (ad 1)) (C := R_FK) (T := T_FK) (N := 4) hx hb hts i_FK hown hK hP 0 rfl rfl 0 (by decide) (hts _ tw_116) (fun _ h9 => h9) rfl d_FK_tableAt_1 ?_
  refine lv_aload_n hx hb d_FK_tableAt_4 rfl (lv_at hl 0 rfl) ?_
  refine va_get (D := D) (ci := nFK) (v := .ref (ad 2)) (C := R_FK) (T := T_FK) (N := 4) hx hb hts i_FK hown hK hP 0 rfl rfl 1 (by decide) (hts _ tw_117) (fun _ h9 => h9) rfl d_FK_tableAt_5 ?_
  refine lv_aload_n hx hb d_FK_tableAt_8 rfl (lv_at hl 0 rfl) ?_
  refine va_get (D := D) (ci := nFK) (v := .int (nI (σ.1 11 0))) (C := R_FK) (T := T_FK) (N := 4) hx hb hts i_FK hown hK hP 0 rfl rfl 3 (by decide) (hts _ tw_119) (fun _ h9 => h9) rfl d_FK_tableAt_9 ?_
  refine k_callR (k_atV (As := [.int (nI (σ.1 11 0))]) hx hb hown hE.1 (K0.w tw_453) (hts _ tw_450) (hts _ tw_451) (hts _ tw_452) (hts _ tw_3) (by decide) np_Pro_rootOf (va_recv hK hP (ci := nPro) (q0 := 2) rfl rfl) rfl d_FK_tableAt_12) (c_Pro_rootOf K0 ad r σ (σ.1 11 0) (by omega)) (hl.1.trans hml.symm) (Nat.le_of_ble_eq_true rfl) ⟨Nat.le_of_ble_eq_true rfl, Nat.le_of_ble_eq_true rfl, Nat.le_of_ble_eq_true rfl, Nat.le_of_ble_eq_true rfl⟩ (fun U hU hW => ⟨hE.go hW hU hS, by rw [hU]; exact hP, hD⟩) ?_
  have ho1 := o6 (σ.1 11 0) (by omega)
  refine lv_iload_n hx hb d_FK_tableAt_15 rfl (lv_at hl 1 rfl) ?_
  refine k_callR (k_atS (As := [.int (nI a)]) hx hb hown hE.1 (K0.w tw_541) rfl k_w9 (hts _ tw_539) (hts _ tw_540) (hts _ tw_1) (by decide) np_FK_tableEntryOf rfl d_FK_tableAt_16) (c_FK_tableEntryOf K0 ad r σ a (by omega)) (hl.1.trans hml.symm) (Nat.le_of_ble_eq_true rfl) ⟨Nat.le_of_ble_eq_true rfl, Nat.le_of_ble_eq_true rfl, Nat.le_of_ble_eq_true rfl, Nat.le_of_ble_eq_true rfl⟩ (fun U hU hW => ⟨hE.go hW hU hS, by rw [hU]; exact hP, hD⟩) ?_
  refine k_st (st' := [.int (nI (a / 16)), .int (nI ((σ.1 6 (σ.1 11 0)) - 1)), .ref (ad 1)]) (by show ([.int (nI (a / 16)), .int (pI (σ.1 6 (σ.1 11 0))), .ref (ad 1)] : List Value) = _; rw [pI_pred (t := (σ.1 6 (σ.1 11 0))) (by omega)]) ?_
  refine k_callR (k_atV (As := [.int (nI ((σ.1 6 (σ.1 11 0)) - 1)), .int (nI (a / 16))]) hx hb hown hE.1 (K0.w tw_302) (hts _ tw_299) (hts _ tw_300) (hts _ tw_301) (hts _ tw_2) (by decide) np_Mem_pageIn (va_recv hK hP (ci := nMem) (q0 := 1) rfl rfl) rfl d_FK_tableAt_19) (c_Mem_pageIn K0 ad r σ ((σ.1 6 (σ.1 11 0)) - 1) (a / 16) (by omega) (by omega)) (hl.1.trans hml.symm) (Nat.le_of_ble_eq_true rfl) ⟨Nat.le_of_ble_eq_true rfl, Nat.le_of_ble_eq_true rfl, Nat.le_of_ble_eq_true rfl, Nat.le_of_ble_eq_true rfl⟩ (fun U hU hW => ⟨hE.go hW hU hS, by rw [hU]; exact hP, hD⟩) ?_
  have ho2 := o2 (((σ.1 6 (σ.1 11 0)) - 1) * 4 + (a / 16)) (by omega)
  refine lv_istore_n (lv' := [(2, .int (pI (σ.1 2 (((σ.1 6 (σ.1 11 0)) - 1) * 4 + (a / 16))))), (0, .ref (ad 0)), (1, .int (nI a))]) hx hb d_FK_tableAt_22 rfl hl (by decide) rfl (fun ls hl => ?_)
  refine lv_iload_n hx hb d_FK_tableAt_23 rfl (lv_at hl 0 rfl) ?_
  refine lv_iconst (v := (pI 0)) hx hb d_FK_tableAt_24 (by decide) ?_
  refine k_neP (tgt := 39) (ok.b2 _ (by omega)) (by omega) hx hb d_FK_tableAt_25 (by decide) (fun h3 => ?_) (fun h3 => ?_)
  · refine lv_iload_n hx hb d_FK_tableAt_39 rfl (lv_at hl 0 rfl) ?_
    exact k_retI hx hb hr hlocks d_FK_tableAt_40 (by first | rfl | (simp [req, tb, te, eIA, eIS, eUO, eNS, h3, beq_false_of_ne h3, bne_iff_ne.mpr h3]; done) | (simp [req, tb, te, eIA, eIS, eUO, eNS, h3, beq_false_of_ne h3, bne_iff_ne.mpr h3]; rfl) | (simp [req, tb, te, eIA, eIS, eUO, eNS, h3, beq_false_of_ne h3, bne_iff_ne.mpr h3]; done) | (simp [req, tb, te, eIA, eIS, eUO, eNS, h3, beq_false_of_ne h3, bne_iff_ne.mpr h3]; rfl) | (simp only [req, tb, te, eIA, eIS, eUO, eNS, h3, beq_false_of_ne h3, bne_iff_ne.mpr h3]; rfl))
  · exact k_throwX x14_0 x14_1 x14_2 x14_5 hx hb K0.tr hown (text := "the address has no table entry") (names := ["java/lang/Exception"]) (Y0 := "java/lang/RuntimeException") (by decide +kernel) (by decide +kernel) (by decide +kernel) (hts _ tw_325) (hts _ tw_12) (K0.str hE sr_292) (K0.own hE oa_284) (hl.1.trans hml.symm) d_FK_tableAt_28 d_FK_tableAt_31 d_FK_tableAt_32 d_FK_tableAt_35 d_FK_tableAt_38 hex hlocks ⟨Nat.le_of_ble_eq_true rfl, Nat.le_of_ble_eq_true rfl, Nat.le_of_ble_eq_true rfl, Nat.le_of_ble_eq_true rfl⟩ (by first | rfl | (simp [req, tb, te, eIA, eIS, eUO, eNS, h3]; done) | (simp [req, tb, te, eIA, eIS, eUO, eNS, h3]; rfl) | (simp [req, tb, te, eIA, eIS, eUO, eNS, beq_iff_eq.mpr h3]; done) | (simp [req, tb, te, eIA, eIS, eUO, eNS, beq_iff_eq.mpr h3]; rfl) | (simp only [req, tb, te, eIA, eIS, eUO, eNS, h3]; rfl))
set_option maxHeartbeats 4000000 in
set_option maxRecDepth 100000 in
theorem c_FK_frameAt {l : Launch} {s0 : State} {a0 : Array Value} {D : va_G} {cI cL : ClassId} (K0 : k0 l s0 a0 D cI cL) (ad : Nat → Nat) (r : va_W) (σ : kS) (a : Nat) (ok : kOk σ) (ha : a < 64) : kMet l y_FK_frameAt (Cond.code y_FK_frameAt b_FK_frameAt 3 (some .int)) (rmL 7) [.ref (ad 0), .int (nI a)] (kPre D vwCl s0 (wC ad cI r) σ) (req (tb σ a != 0) eNS (req (fr σ a != 0) eNS (.ok (some (.int (pI (fr σ a))), ())))) kBr := by
  refine k_of (by decide) (Nat.le_of_ble_eq_true rfl) ?_
  intro p e9 s m below meth c hx hb hr hlocks hown hml hex hpre ls hl
  obtain ⟨hE, hP, hD⟩ := hpre
  obtain ⟨hts, hK⟩ := K0.at (args := ([.ref (ad 0), .int (nI a)] : List Value).toArray) hE
  have hl : lv_has ls 3 [(0, .ref (ad 0)), (1, .int (nI a))] := hl
  have hS : va_S (kA s0) s.heap s.heap [] := va_S.rf
  obtain ⟨o1, o2, o3, o4, o5, o6, o7, o8, o9, o10, o0, ⟨oc1, oc2⟩, oc3, or6⟩ := id ok
  have hr0 : σ.1 6 (σ.1 11 0) ≠ 0 := or6 _ oc2 (by omega)
  have hr1 : σ.1 6 (σ.1 11 0) < 21 := o6 _ oc2
  refine lv_aload_n hx hb d_FK_frameAt_0 rfl (lv_at hl 0 rfl) ?_
  refine va_get (D := D) (ci := nFK) (v := .ref (ad 1)) (C := R_FK) (T := T_FK) (N := 4) hx hb hts i_FK hown hK hP 0 rfl rfl 0 (by decide) (hts _ tw_116) (fun _ h9 => h9) rfl d_FK_frameAt_1 ?_
  refine lv_aload_n hx hb d_FK_frameAt_4 rfl (lv_at hl 0 rfl) ?_
  refine lv_iload_n hx hb d_FK_frameAt_5 rfl (lv_at hl 1 rfl) ?_
  rcases hq1 : (tb σ a != 0) with _ | _
  · exact k_callE (k_atV (As := [.int (nI a)]) hx hb hown hE.1 (K0.w tw_538) (hts _ tw_535) (hts _ tw_537) (hts _ tw_9018) (hts _ tw_1) (by decide) np_FK_tableAt (va_recv hK hP (ci := nFK) (q0 := 0) rfl rfl) rfl d_FK_frameAt_6) (kr_f hq1 (c_FK_tableAt K0 ad r σ a ok (by omega) )) (hl.1.trans hml.symm) (Nat.le_of_ble_eq_true rfl) ⟨Nat.le_of_ble_eq_true rfl, Nat.le_of_ble_eq_true rfl, Nat.le_of_ble_eq_true rfl, Nat.le_of_ble_eq_true rfl⟩ (fun U hU hW => ⟨hE.go hW hU hS, by rw [hU]; exact hP, hD⟩) hex hlocks (by first | rfl | (simp [req, fr, fe, eIA, eIS, eUO, eNS, hq1]; done) | (simp [req, fr, fe, eIA, eIS, eUO, eNS, hq1]; rfl) | (simp [req, fr, fe, eIA, eIS, eUO, eNS, hq1]; done) | (simp [req, fr, fe, eIA, eIS, eUO, eNS, hq1]; rfl) | (simp only [req, fr, fe, eIA, eIS, eUO, eNS, hq1]; rfl))
  · refine k_callR (k_atV (As := [.int (nI a)]) hx hb hown hE.1 (K0.w tw_538) (hts _ tw_535) (hts _ tw_537) (hts _ tw_9018) (hts _ tw_1) (by decide) np_FK_tableAt (va_recv hK hP (ci := nFK) (q0 := 0) rfl rfl) rfl d_FK_frameAt_6) (kr_t hq1 (c_FK_tableAt K0 ad r σ a ok (by omega) )) (hl.1.trans hml.symm) (Nat.le_of_ble_eq_true rfl) ⟨Nat.le_of_ble_eq_true rfl, Nat.le_of_ble_eq_true rfl, Nat.le_of_ble_eq_true rfl, Nat.le_of_ble_eq_true rfl⟩ (fun U hU hW => ⟨hE.go hW hU hS, by rw [hU]; exact hP, hD⟩) ?_
    have hnzt : tb σ a ≠ 0 := by simpa using hq1
    have hbdt := ok.tbl a (by omega)
    refine lv_iload_n hx hb d_FK_frameAt_9 rfl (lv_at hl 1 rfl) ?_
    refine k_callR (k_atS (As := [.int (nI a)]) hx hb hown hE.1 (K0.w tw_545) rfl k_w9 (hts _ tw_543) (hts _ tw_544) (hts _ tw_1) (by decide) np_FK_frameEntryOf rfl d_FK_frameAt_10) (c_FK_frameEntryOf K0 ad r σ a (by omega)) (hl.1.trans hml.symm) (Nat.le_of_ble_eq_true rfl) ⟨Nat.le_of_ble_eq_true rfl, Nat.le_of_ble_eq_true rfl, Nat.le_of_ble_eq_true rfl, Nat.le_of_ble_eq_true rfl⟩ (fun U hU hW => ⟨hE.go hW hU hS, by rw [hU]; exact hP, hD⟩) ?_
    refine k_st (st' := [.int (nI (a / 4 % 4)), .int (nI ((tb σ a) - 1)), .ref (ad 1)]) (by show ([.int (nI (a / 4 % 4)), .int (pI (tb σ a)), .ref (ad 1)] : List Value) = _; rw [pI_pred (t := (tb σ a)) (by omega)]) ?_
    refine k_callR (k_atV (As := [.int (nI ((tb σ a) - 1)), .int (nI (a / 4 % 4))]) hx hb hown hE.1 (K0.w tw_302) (hts _ tw_299) (hts _ tw_300) (hts _ tw_301) (hts _ tw_2) (by decide) np_Mem_pageIn (va_recv hK hP (ci := nMem) (q0 := 1) rfl rfl) rfl d_FK_frameAt_13) (c_Mem_pageIn K0 ad r σ ((tb σ a) - 1) (a / 4 % 4) (by omega) (by omega)) (hl.1.trans hml.symm) (Nat.le_of_ble_eq_true rfl) ⟨Nat.le_of_ble_eq_true rfl, Nat.le_of_ble_eq_true rfl, Nat.le_of_ble_eq_true rfl, Nat.le_of_ble_eq_true rfl⟩ (fun U hU hW => ⟨hE.go hW hU hS, by rw [hU]; exact hP, hD⟩) ?_
    have ho2 := o2 (((tb σ a) - 1) * 4 + (a / 4 % 4)) (by omega)
    refine lv_istore_n (lv' := [(2, .int (pI (σ.1 2 (((tb σ a) - 1) * 4 + (a / 4 % 4))))), (0, .ref (ad 0)), (1, .int (nI a))]) hx hb d_FK_frameAt_16 rfl hl (by decide) rfl (fun ls hl => ?_)
    refine lv_iload_n hx hb d_FK_frameAt_17 rfl (lv_at hl 0 rfl) ?_
    refine lv_iconst (v := (pI 0)) hx hb d_FK_frameAt_18 (by decide) ?_
    refine k_neP (tgt := 33) (ok.b2 _ (by omega)) (by omega) hx hb d_FK_frameAt_19 (by decide) (fun h3 => ?_) (fun h3 => ?_)
    · refine lv_iload_n hx hb d_FK_frameAt_33 rfl (lv_at hl 0 rfl) ?_
      exact k_retI hx hb hr hlocks d_FK_frameAt_34 (by first | rfl | (simp [req, fr, fe, eIA, eIS, eUO, eNS, hq1, h3, beq_false_of_ne h3, bne_iff_ne.mpr h3]; done) | (simp [req, fr, fe, eIA, eIS, eUO, eNS, hq1, h3, beq_false_of_ne h3, bne_iff_ne.mpr h3]; rfl) | (simp [req, fr, fe, eIA, eIS, eUO, eNS, hq1, h3, beq_false_of_ne h3, bne_iff_ne.mpr h3]; done) | (simp [req, fr, fe, eIA, eIS, eUO, eNS, hq1, h3, beq_false_of_ne h3, bne_iff_ne.mpr h3]; rfl) | (simp only [req, fr, fe, eIA, eIS, eUO, eNS, hq1, h3, beq_false_of_ne h3, bne_iff_ne.mpr h3]; rfl))
    · exact k_throwX x14_0 x14_1 x14_2 x14_5 hx hb K0.tr hown (text := "the address has no frame entry") (names := ["java/lang/Exception"]) (Y0 := "java/lang/RuntimeException") (by decide +kernel) (by decide +kernel) (by decide +kernel) (hts _ tw_325) (hts _ tw_12) (K0.str hE sr_294) (K0.own hE oa_284) (hl.1.trans hml.symm) d_FK_frameAt_22 d_FK_frameAt_25 d_FK_frameAt_26 d_FK_frameAt_29 d_FK_frameAt_32 hex hlocks ⟨Nat.le_of_ble_eq_true rfl, Nat.le_of_ble_eq_true rfl, Nat.le_of_ble_eq_true rfl, Nat.le_of_ble_eq_true rfl⟩ (by first | rfl | (simp [req, fr, fe, eIA, eIS, eUO, eNS, hq1, h3]; done) | (simp [req, fr, fe, eIA, eIS, eUO, eNS, hq1, h3]; rfl) | (simp [req, fr, fe, eIA, eIS, eUO, eNS, hq1, beq_iff_eq.mpr h3]; done) | (simp [req, fr, fe, eIA, eIS, eUO, eNS, hq1, beq_iff_eq.mpr h3]; rfl) | (simp only [req, fr, fe, eIA, eIS, eUO, eNS, hq1, h3]; rfl))
set_option maxHeartbeats 4000000 in
set_option maxRecDepth 100000 in
theorem c_FK_frameWithRight {l : Launch} {s0 : State} {a0 : Array Value} {D : va_G} {cI cL : ClassId} (K0 : k0 l s0 a0 D cI cL) (ad : Nat → Nat) (r : va_W) (σ : kS) (a : Nat) (rq : Nat) (ok : kOk σ) (ha : a < 64) : kMet l y_FK_frameWithRight (Cond.code y_FK_frameWithRight b_FK_frameWithRight 6 (some .int)) (rmL 8) [.ref (ad 0), .int (nI a), .int (nI rq)] (kPre D vwCl s0 (wC ad cI r) σ) (wit σ a rq (.ok (some (.int (pI (fr σ a))), ()))) kBr := by
  refine k_of (by decide) (Nat.le_of_ble_eq_true rfl) ?_
  intro p e9 s m below meth c hx hb hr hlocks hown hml hex hpre ls hl
  obtain ⟨hE, hP, hD⟩ := hpre
  obtain ⟨hts, hK⟩ := K0.at (args := ([.ref (ad 0), .int (nI a), .int (nI rq)] : List Value).toArray) hE
  have hl : lv_has ls 6 [(0, .ref (ad 0)), (1, .int (nI a)), (2, .int (nI rq))] := hl
  have hS : va_S (kA s0) s.heap s.heap [] := va_S.rf
  obtain ⟨o1, o2, o3, o4, o5, o6, o7, o8, o9, o10, o0, ⟨oc1, oc2⟩, oc3, or6⟩ := id ok
  have hr0 : σ.1 6 (σ.1 11 0) ≠ 0 := or6 _ oc2 (by omega)
  have hr1 : σ.1 6 (σ.1 11 0) < 21 := o6 _ oc2
  refine lv_aload_n hx hb d_FK_frameWithRight_0 rfl (lv_at hl 0 rfl) ?_
  refine lv_iload_n hx hb d_FK_frameWithRight_1 rfl (lv_at hl 1 rfl) ?_
  rcases hq1 : (tb σ a != 0) with _ | _
  · exact k_callE (k_atV (As := [.int (nI a)]) hx hb hown hE.1 (K0.w tw_534) (hts _ tw_531) (hts _ tw_533) (hts _ tw_9017) (hts _ tw_1) (by decide) np_FK_frameAt (va_recv hK hP (ci := nFK) (q0 := 0) rfl rfl) rfl d_FK_frameWithRight_2) (kr_f hq1 (c_FK_frameAt K0 ad r σ a ok (by omega) )) (hl.1.trans hml.symm) (Nat.le_of_ble_eq_true rfl) ⟨Nat.le_of_ble_eq_true rfl, Nat.le_of_ble_eq_true rfl, Nat.le_of_ble_eq_true rfl, Nat.le_of_ble_eq_true rfl⟩ (fun U hU hW => ⟨hE.go hW hU hS, by rw [hU]; exact hP, hD⟩) hex hlocks (by first | rfl | (simp [wit, req, rgt, te, fe, eIA, eIS, eUO, eNS, hq1]; done) | (simp [wit, req, rgt, te, fe, eIA, eIS, eUO, eNS, hq1]; rfl) | (simp [wit, req, rgt, te, fe, eIA, eIS, eUO, eNS, hq1]; done) | (simp [wit, req, rgt, te, fe, eIA, eIS, eUO, eNS, hq1]; rfl) | (simp only [wit, req, rgt, te, fe, eIA, eIS, eUO, eNS, hq1]; rfl))
  · skip
    rcases hq2 : (fr σ a != 0) with _ | _
    · exact k_callE (k_atV (As := [.int (nI a)]) hx hb hown hE.1 (K0.w tw_534) (hts _ tw_531) (hts _ tw_533) (hts _ tw_9017) (hts _ tw_1) (by decide) np_FK_frameAt (va_recv hK hP (ci := nFK) (q0 := 0) rfl rfl) rfl d_FK_frameWithRight_2) (kr_f hq2 (kr_t hq1 (c_FK_frameAt K0 ad r σ a ok (by omega) ))) (hl.1.trans hml.symm) (Nat.le_of_ble_eq_true rfl) ⟨Nat.le_of_ble_eq_true rfl, Nat.le_of_ble_eq_true rfl, Nat.le_of_ble_eq_true rfl, Nat.le_of_ble_eq_true rfl⟩ (fun U hU hW => ⟨hE.go hW hU hS, by rw [hU]; exact hP, hD⟩) hex hlocks (by first | rfl | (simp [wit, req, rgt, te, fe, eIA, eIS, eUO, eNS, hq1, hq2]; done) | (simp [wit, req, rgt, te, fe, eIA, eIS, eUO, eNS, hq1, hq2]; rfl) | (simp [wit, req, rgt, te, fe, eIA, eIS, eUO, eNS, hq1, hq2]; done) | (simp [wit, req, rgt, te, fe, eIA, eIS, eUO, eNS, hq1, hq2]; rfl) | (simp only [wit, req, rgt, te, fe, eIA, eIS, eUO, eNS, hq1, hq2]; rfl))
    · skip
      refine k_callR (k_atV (As := [.int (nI a)]) hx hb hown hE.1 (K0.w tw_534) (hts _ tw_531) (hts _ tw_533) (hts _ tw_9017) (hts _ tw_1) (by decide) np_FK_frameAt (va_recv hK hP (ci := nFK) (q0 := 0) rfl rfl) rfl d_FK_frameWithRight_2) (kr_t hq2 (kr_t hq1 (c_FK_frameAt K0 ad r σ a ok (by omega) ))) (hl.1.trans hml.symm) (Nat.le_of_ble_eq_true rfl) ⟨Nat.le_of_ble_eq_true rfl, Nat.le_of_ble_eq_true rfl, Nat.le_of_ble_eq_true rfl, Nat.le_of_ble_eq_true rfl⟩ (fun U hU hW => ⟨hE.go hW hU hS, by rw [hU]; exact hP, hD⟩) ?_
      have hnzt : tb σ a ≠ 0 := by simpa using hq1
      have hnzf : fr σ a ≠ 0 := by simpa using hq2
      have hbdt := ok.tbl a (by omega)
      have hbdf := ok.frl a (by omega) hnzt
      refine lv_istore_n (lv' := [(3, .int (pI (fr σ a))), (0, .ref (ad 0)), (1, .int (nI a)), (2, .int (nI rq))]) hx hb d_FK_frameWithRight_5 rfl hl (by decide) rfl (fun ls hl => ?_)
      refine lv_aload_n hx hb d_FK_frameWithRight_6 rfl (lv_at hl 1 rfl) ?_
      refine va_get (D := D) (ci := nFK) (v := .ref (ad 1)) (C := R_FK) (T := T_FK) (N := 4) hx hb hts i_FK hown hK hP 0 rfl rfl 0 (by decide) (hts _ tw_116) (fun _ h9 => h9) rfl d_FK_frameWithRight_7 ?_
      refine lv_aload_n hx hb d_FK_frameWithRight_10 rfl (lv_at hl 1 rfl) ?_
      refine va_get (D := D) (ci := nFK) (v := .ref (ad 2)) (C := R_FK) (T := T_FK) (N := 4) hx hb hts i_FK hown hK hP 0 rfl rfl 1 (by decide) (hts _ tw_117) (fun _ h9 => h9) rfl d_FK_frameWithRight_11 ?_
      refine lv_aload_n hx hb d_FK_frameWithRight_14 rfl (lv_at hl 1 rfl) ?_
      refine va_get (D := D) (ci := nFK) (v := .int (nI (σ.1 11 0))) (C := R_FK) (T := T_FK) (N := 4) hx hb hts i_FK hown hK hP 0 rfl rfl 3 (by decide) (hts _ tw_119) (fun _ h9 => h9) rfl d_FK_frameWithRight_15 ?_
      refine k_callR (k_atV (As := [.int (nI (σ.1 11 0))]) hx hb hown hE.1 (K0.w tw_453) (hts _ tw_450) (hts _ tw_451) (hts _ tw_452) (hts _ tw_3) (by decide) np_Pro_rootOf (va_recv hK hP (ci := nPro) (q0 := 2) rfl rfl) rfl d_FK_frameWithRight_18) (c_Pro_rootOf K0 ad r σ (σ.1 11 0) (by omega)) (hl.1.trans hml.symm) (Nat.le_of_ble_eq_true rfl) ⟨Nat.le_of_ble_eq_true rfl, Nat.le_of_ble_eq_true rfl, Nat.le_of_ble_eq_true rfl, Nat.le_of_ble_eq_true rfl⟩ (fun U hU hW => ⟨hE.go hW hU hS, by rw [hU]; exact hP, hD⟩) ?_
      have ho3 := o6 (σ.1 11 0) (by omega)
      refine lv_iload_n hx hb d_FK_frameWithRight_21 rfl (lv_at hl 2 rfl) ?_
      refine k_callR (k_atS (As := [.int (nI a)]) hx hb hown hE.1 (K0.w tw_541) rfl k_w9 (hts _ tw_539) (hts _ tw_540) (hts _ tw_1) (by decide) np_FK_tableEntryOf rfl d_FK_frameWithRight_22) (c_FK_tableEntryOf K0 ad r σ a (by omega)) (hl.1.trans hml.symm) (Nat.le_of_ble_eq_true rfl) ⟨Nat.le_of_ble_eq_true rfl, Nat.le_of_ble_eq_true rfl, Nat.le_of_ble_eq_true rfl, Nat.le_of_ble_eq_true rfl⟩ (fun U hU hW => ⟨hE.go hW hU hS, by rw [hU]; exact hP, hD⟩) ?_
      refine k_st (st' := [.int (nI (a / 16)), .int (nI ((σ.1 6 (σ.1 11 0)) - 1)), .ref (ad 1)]) (by show ([.int (nI (a / 16)), .int (pI (σ.1 6 (σ.1 11 0))), .ref (ad 1)] : List Value) = _; rw [pI_pred (t := (σ.1 6 (σ.1 11 0))) (by omega)]) ?_
      refine k_callR (k_atV (As := [.int (nI ((σ.1 6 (σ.1 11 0)) - 1)), .int (nI (a / 16))]) hx hb hown hE.1 (K0.w tw_344) (hts _ tw_341) (hts _ tw_342) (hts _ tw_343) (hts _ tw_2) (by decide) np_Mem_rightsIn (va_recv hK hP (ci := nMem) (q0 := 1) rfl rfl) rfl d_FK_frameWithRight_25) (c_Mem_rightsIn K0 ad r σ ((σ.1 6 (σ.1 11 0)) - 1) (a / 16) (by omega) (by omega)) (hl.1.trans hml.symm) (Nat.le_of_ble_eq_true rfl) ⟨Nat.le_of_ble_eq_true rfl, Nat.le_of_ble_eq_true rfl, Nat.le_of_ble_eq_true rfl, Nat.le_of_ble_eq_true rfl⟩ (fun U hU hW => ⟨hE.go hW hU hS, by rw [hU]; exact hP, hD⟩) ?_
      have ho4 := o3 (((σ.1 6 (σ.1 11 0)) - 1) * 4 + (a / 16)) (by omega)
      refine lv_istore (lv' := [(4, .int (nI (σ.1 3 (((σ.1 6 (σ.1 11 0)) - 1) * 4 + (a / 16))))), (3, .int (pI (fr σ a))), (0, .ref (ad 0)), (1, .int (nI a)), (2, .int (nI rq))]) hx hb d_FK_frameWithRight_28 hl (by decide) rfl (fun ls hl => ?_)
      refine lv_aload_n hx hb d_FK_frameWithRight_30 rfl (lv_at hl 2 rfl) ?_
      refine va_get (D := D) (ci := nFK) (v := .ref (ad 1)) (C := R_FK) (T := T_FK) (N := 4) hx hb hts i_FK hown hK hP 0 rfl rfl 0 (by decide) (hts _ tw_116) (fun _ h9 => h9) rfl d_FK_frameWithRight_31 ?_
      refine lv_aload_n hx hb d_FK_frameWithRight_34 rfl (lv_at hl 2 rfl) ?_
      refine lv_iload_n hx hb d_FK_frameWithRight_35 rfl (lv_at hl 3 rfl) ?_
      refine k_callR (k_atV (As := [.int (nI a)]) hx hb hown hE.1 (K0.w tw_538) (hts _ tw_535) (hts _ tw_537) (hts _ tw_9018) (hts _ tw_1) (by decide) np_FK_tableAt (va_recv hK hP (ci := nFK) (q0 := 0) rfl rfl) rfl d_FK_frameWithRight_36) (kr_t hq1 (c_FK_tableAt K0 ad r σ a ok (by omega) )) (hl.1.trans hml.symm) (Nat.le_of_ble_eq_true rfl) ⟨Nat.le_of_ble_eq_true rfl, Nat.le_of_ble_eq_true rfl, Nat.le_of_ble_eq_true rfl, Nat.le_of_ble_eq_true rfl⟩ (fun U hU hW => ⟨hE.go hW hU hS, by rw [hU]; exact hP, hD⟩) ?_
      refine lv_iload_n hx hb d_FK_frameWithRight_39 rfl (lv_at hl 3 rfl) ?_
      refine k_callR (k_atS (As := [.int (nI a)]) hx hb hown hE.1 (K0.w tw_545) rfl k_w9 (hts _ tw_543) (hts _ tw_544) (hts _ tw_1) (by decide) np_FK_frameEntryOf rfl d_FK_frameWithRight_40) (c_FK_frameEntryOf K0 ad r σ a (by omega)) (hl.1.trans hml.symm) (Nat.le_of_ble_eq_true rfl) ⟨Nat.le_of_ble_eq_true rfl, Nat.le_of_ble_eq_true rfl, Nat.le_of_ble_eq_true rfl, Nat.le_of_ble_eq_true rfl⟩ (fun U hU hW => ⟨hE.go hW hU hS, by rw [hU]; exact hP, hD⟩) ?_
      refine k_st (st' := [.int (nI (a / 4 % 4)), .int (nI ((tb σ a) - 1)), .ref (ad 1)]) (by show ([.int (nI (a / 4 % 4)), .int (pI (tb σ a)), .ref (ad 1)] : List Value) = _; rw [pI_pred (t := (tb σ a)) (by omega)]) ?_
      refine k_callR (k_atV (As := [.int (nI ((tb σ a) - 1)), .int (nI (a / 4 % 4))]) hx hb hown hE.1 (K0.w tw_344) (hts _ tw_341) (hts _ tw_342) (hts _ tw_343) (hts _ tw_2) (by decide) np_Mem_rightsIn (va_recv hK hP (ci := nMem) (q0 := 1) rfl rfl) rfl d_FK_frameWithRight_43) (c_Mem_rightsIn K0 ad r σ ((tb σ a) - 1) (a / 4 % 4) (by omega) (by omega)) (hl.1.trans hml.symm) (Nat.le_of_ble_eq_true rfl) ⟨Nat.le_of_ble_eq_true rfl, Nat.le_of_ble_eq_true rfl, Nat.le_of_ble_eq_true rfl, Nat.le_of_ble_eq_true rfl⟩ (fun U hU hW => ⟨hE.go hW hU hS, by rw [hU]; exact hP, hD⟩) ?_
      have ho5 := o3 (((tb σ a) - 1) * 4 + (a / 4 % 4)) (by omega)
      refine lv_istore (lv' := [(5, .int (nI (σ.1 3 (((tb σ a) - 1) * 4 + (a / 4 % 4))))), (4, .int (nI (σ.1 3 (((σ.1 6 (σ.1 11 0)) - 1) * 4 + (a / 16))))), (3, .int (pI (fr σ a))), (0, .ref (ad 0)), (1, .int (nI a)), (2, .int (nI rq))]) hx hb d_FK_frameWithRight_46 hl (by decide) rfl (fun ls hl => ?_)
      refine lv_iload hx hb d_FK_frameWithRight_48 (lv_at hl 1 rfl) ?_
      refine lv_iload hx hb d_FK_frameWithRight_50 (lv_at hl 0 rfl) ?_
      refine k_andN hx hb d_FK_frameWithRight_52 ?_
      refine lv_iload_n hx hb d_FK_frameWithRight_53 rfl (lv_at hl 5 rfl) ?_
      refine k_andN hx hb d_FK_frameWithRight_54 ?_
      refine k_ifN0 (tgt := 69) (Nat.lt_of_le_of_lt (Nat.le_trans Nat.and_le_left Nat.and_le_left) (by omega)) hx hb d_FK_frameWithRight_55 (by decide) (fun h6 => ?_) (fun h6 => ?_)
      · refine lv_iload_n hx hb d_FK_frameWithRight_69 rfl (lv_at hl 2 rfl) ?_
        exact k_retI hx hb hr hlocks d_FK_frameWithRight_70 (by first | rfl | (simp [wit, req, rgt, te, fe, eIA, eIS, eUO, eNS, hq1, hq2, h6, beq_false_of_ne h6, bne_iff_ne.mpr h6]; done) | (simp [wit, req, rgt, te, fe, eIA, eIS, eUO, eNS, hq1, hq2, h6, beq_false_of_ne h6, bne_iff_ne.mpr h6]; rfl) | (simp [wit, req, rgt, te, fe, eIA, eIS, eUO, eNS, hq1, hq2, h6, beq_false_of_ne h6, bne_iff_ne.mpr h6]; done) | (simp [wit, req, rgt, te, fe, eIA, eIS, eUO, eNS, hq1, hq2, h6, beq_false_of_ne h6, bne_iff_ne.mpr h6]; rfl) | (simp only [wit, req, rgt, te, fe, eIA, eIS, eUO, eNS, hq1, hq2, h6, beq_false_of_ne h6, bne_iff_ne.mpr h6]; rfl))
      · exact k_throwW hx hb K0.tr hown (text := "an entry lacks the right") (names := kNames) (by decide +kernel) (by decide +kernel) (hts _ tw_283) (hts _ tw_11) (K0.str hE sr_296) (K0.own hE oa_95) (hl.1.trans hml.symm) d_FK_frameWithRight_58 d_FK_frameWithRight_61 d_FK_frameWithRight_62 d_FK_frameWithRight_65 d_FK_frameWithRight_68 hex hlocks ⟨Nat.le_of_ble_eq_true rfl, Nat.le_of_ble_eq_true rfl, Nat.le_of_ble_eq_true rfl, Nat.le_of_ble_eq_true rfl⟩ (by first | rfl | (simp [wit, req, rgt, te, fe, eIA, eIS, eUO, eNS, hq1, hq2, h6]; done) | (simp [wit, req, rgt, te, fe, eIA, eIS, eUO, eNS, hq1, hq2, h6]; rfl) | (simp [wit, req, rgt, te, fe, eIA, eIS, eUO, eNS, hq1, hq2, beq_iff_eq.mpr h6]; done) | (simp [wit, req, rgt, te, fe, eIA, eIS, eUO, eNS, hq1, hq2, beq_iff_eq.mpr h6]; rfl) | (simp only [wit, req, rgt, te, fe, eIA, eIS, eUO, eNS, hq1, hq2, h6]; rfl))
set_option maxHeartbeats 4000000 in
set_option maxRecDepth 100000 in
theorem c_FK_pipeBehind {l : Launch} {s0 : State} {a0 : Array Value} {D : va_G} {cI cL : ClassId} (K0 : k0 l s0 a0 D cI cL) (ad : Nat → Nat) (r : va_W) (σ : kS) (q : Nat) (dd : Nat) (ok : kOk σ) (hq : q < 6) (hdd : dd < 4) : kMet l y_FK_pipeBehind (Cond.code y_FK_pipeBehind b_FK_pipeBehind 4 (some .int)) (rmL 6) [.ref (ad 0), .int (nI q), .int (nI dd)] (kPre D vwCl s0 (wC ad cI r) σ) (req (σ.1 7 (q * 4 + dd) != 0) eNS (.ok (some (.int (pI (σ.1 7 (q * 4 + dd)))), ()))) kBr := by
  refine k_of (by decide) (Nat.le_of_ble_eq_true rfl) ?_
  intro p e9 s m below meth c hx hb hr hlocks hown hml hex hpre ls hl
  obtain ⟨hE, hP, hD⟩ := hpre
  obtain ⟨hts, hK⟩ := K0.at (args := ([.ref (ad 0), .int (nI q), .int (nI dd)] : List Value).toArray) hE
  have hl : lv_has ls 4 [(0, .ref (ad 0)), (1, .int (nI q)), (2, .int (nI dd))] := hl
  have hS : va_S (kA s0) s.heap s.heap [] := va_S.rf
  obtain ⟨o1, o2, o3, o4, o5, o6, o7, o8, o9, o10, o0, ⟨oc1, oc2⟩, oc3, or6⟩ := id ok
  have hr0 : σ.1 6 (σ.1 11 0) ≠ 0 := or6 _ oc2 (by omega)
  have hr1 : σ.1 6 (σ.1 11 0) < 21 := o6 _ oc2
  refine lv_aload_n hx hb d_FK_pipeBehind_0 rfl (lv_at hl 0 rfl) ?_
  refine va_get (D := D) (ci := nFK) (v := .ref (ad 2)) (C := R_FK) (T := T_FK) (N := 4) hx hb hts i_FK hown hK hP 0 rfl rfl 1 (by decide) (hts _ tw_117) (fun _ h9 => h9) rfl d_FK_pipeBehind_1 ?_
  refine lv_iload_n hx hb d_FK_pipeBehind_4 rfl (lv_at hl 1 rfl) ?_
  refine lv_iload_n hx hb d_FK_pipeBehind_5 rfl (lv_at hl 2 rfl) ?_
  refine k_callR (k_atV (As := [.int (nI q), .int (nI dd)]) hx hb hown hE.1 (K0.w tw_433) (hts _ tw_482) (hts _ tw_431) (hts _ tw_432) (hts _ tw_3) (by decide) np_Pro_pipeOf (va_recv hK hP (ci := nPro) (q0 := 2) rfl rfl) rfl d_FK_pipeBehind_6) (c_Pro_pipeOf K0 ad r σ q dd (by omega) (by omega)) (hl.1.trans hml.symm) (Nat.le_of_ble_eq_true rfl) ⟨Nat.le_of_ble_eq_true rfl, Nat.le_of_ble_eq_true rfl, Nat.le_of_ble_eq_true rfl, Nat.le_of_ble_eq_true rfl⟩ (fun U hU hW => ⟨hE.go hW hU hS, by rw [hU]; exact hP, hD⟩) ?_
  have ho1 := o7 (q * 4 + dd) (by omega)
  refine lv_istore_n (lv' := [(3, .int (pI (σ.1 7 (q * 4 + dd)))), (0, .ref (ad 0)), (1, .int (nI q)), (2, .int (nI dd))]) hx hb d_FK_pipeBehind_9 rfl hl (by decide) rfl (fun ls hl => ?_)
  refine lv_iload_n hx hb d_FK_pipeBehind_10 rfl (lv_at hl 0 rfl) ?_
  refine lv_iconst (v := (pI 0)) hx hb d_FK_pipeBehind_11 (by decide) ?_
  refine k_neP (tgt := 26) (ok.b7 _ (by omega)) (by omega) hx hb d_FK_pipeBehind_12 (by decide) (fun h2 => ?_) (fun h2 => ?_)
  · refine lv_iload_n hx hb d_FK_pipeBehind_26 rfl (lv_at hl 0 rfl) ?_
    exact k_retI hx hb hr hlocks d_FK_pipeBehind_27 (by first | rfl | (simp [req, eIA, eIS, eUO, eNS, h2, beq_false_of_ne h2, bne_iff_ne.mpr h2]; done) | (simp [req, eIA, eIS, eUO, eNS, h2, beq_false_of_ne h2, bne_iff_ne.mpr h2]; rfl) | (simp [req, eIA, eIS, eUO, eNS, h2, beq_false_of_ne h2, bne_iff_ne.mpr h2]; done) | (simp [req, eIA, eIS, eUO, eNS, h2, beq_false_of_ne h2, bne_iff_ne.mpr h2]; rfl) | (simp only [req, eIA, eIS, eUO, eNS, h2, beq_false_of_ne h2, bne_iff_ne.mpr h2]; rfl))
  · exact k_throwX x14_0 x14_1 x14_2 x14_5 hx hb K0.tr hown (text := "there is no such descriptor") (names := ["java/lang/Exception"]) (Y0 := "java/lang/RuntimeException") (by decide +kernel) (by decide +kernel) (by decide +kernel) (hts _ tw_325) (hts _ tw_12) (K0.str hE sr_298) (K0.own hE oa_284) (hl.1.trans hml.symm) d_FK_pipeBehind_15 d_FK_pipeBehind_18 d_FK_pipeBehind_19 d_FK_pipeBehind_22 d_FK_pipeBehind_25 hex hlocks ⟨Nat.le_of_ble_eq_true rfl, Nat.le_of_ble_eq_true rfl, Nat.le_of_ble_eq_true rfl, Nat.le_of_ble_eq_true rfl⟩ (by first | rfl | (simp [req, eIA, eIS, eUO, eNS, h2]; done) | (simp [req, eIA, eIS, eUO, eNS, h2]; rfl) | (simp [req, eIA, eIS, eUO, eNS, beq_iff_eq.mpr h2]; done) | (simp [req, eIA, eIS, eUO, eNS, beq_iff_eq.mpr h2]; rfl) | (simp only [req, eIA, eIS, eUO, eNS, h2]; rfl))
set_option maxHeartbeats 4000000 in
set_option maxRecDepth 100000 in
theorem c_FK_connect {l : Launch} {s0 : State} {a0 : Array Value} {D : va_G} {cI cL : ClassId} (K0 : k0 l s0 a0 D cI cL) (ad : Nat → Nat) (r : va_W) (σ : kS) (q : Nat) (dd : Nat) (i : Nat) (hb7 : ∀ k, k < 24 → σ.1 7 k < 2 ^ 30) (hq : q < 6) (hdd : dd < 4) (hi : i < 3) : kMet l y_FK_connect (Cond.code y_FK_connect b_FK_connect 4 (some .int)) (rmL 1) [.ref (ad 0), .int (nI q), .int (nI dd), .int (nI i)] (kPre D vwCl s0 (wC ad cI r) σ) (.ok (some (.int (nI (cof (st σ 7 (q * 4 + dd) (i + 1)) i))), st σ 7 (q * 4 + dd) (i + 1))) (kBw D vwCl s0 (wC ad cI r)) := by
  refine k_of (by decide) (Nat.le_of_ble_eq_true rfl) ?_
  intro p e9 s m below meth c hx hb hr hlocks hown hml hex hpre ls hl
  obtain ⟨hE, hP, hD⟩ := hpre
  obtain ⟨hts, hK⟩ := K0.at (args := ([.ref (ad 0), .int (nI q), .int (nI dd), .int (nI i)] : List Value).toArray) hE
  have hl : lv_has ls 4 [(0, .ref (ad 0)), (1, .int (nI q)), (2, .int (nI dd)), (3, .int (nI i))] := hl
  have hS : va_S (kA s0) s.heap s.heap [] := va_S.rf
  refine lv_aload_n hx hb d_FK_connect_0 rfl (lv_at hl 0 rfl) ?_
  refine va_get (D := D) (ci := nFK) (v := .ref (ad 2)) (C := R_FK) (T := T_FK) (N := 4) hx hb hts i_FK hown hK hP 0 rfl rfl 1 (by decide) (hts _ tw_117) (fun _ h9 => h9) rfl d_FK_connect_1 ?_
  refine lv_iload_n hx hb d_FK_connect_4 rfl (lv_at hl 1 rfl) ?_
  refine lv_iload_n hx hb d_FK_connect_5 rfl (lv_at hl 2 rfl) ?_
  refine lv_iload_n hx hb d_FK_connect_6 rfl (lv_at hl 3 rfl) ?_
  refine k_st (st' := [.int (pI (i + 1)), .int (nI dd), .int (nI q), .ref (ad 2)]) (by show ([.int (nI i), .int (nI dd), .int (nI q), .ref (ad 2)] : List Value) = _; simp only [pI_succ]) ?_
  refine k_callW (k_atV (As := [.int (nI q), .int (nI dd), .int (pI (i + 1))]) hx hb hown hE.1 (K0.w tw_81) (hts _ tw_497) (hts _ tw_79) (hts _ tw_80) (hts _ tw_3) (by decide) np_Pro_setPipe (va_recv hK hP (ci := nPro) (q0 := 2) rfl rfl) rfl d_FK_connect_7) (c_Pro_setPipe K0 ad r σ q dd (i + 1) (by omega) (by omega)) (hl.1.trans hml.symm) (Nat.le_of_ble_eq_true rfl) ⟨Nat.le_of_ble_eq_true rfl, Nat.le_of_ble_eq_true rfl, Nat.le_of_ble_eq_true rfl, Nat.le_of_ble_eq_true rfl⟩ (fun U hU hW => ⟨hE.go hW hU hS, by rw [hU]; exact hP, hD⟩) hS (fun H locs hP hD hS => ?_)
  obtain ⟨σ1, eσ1⟩ : ∃ z : kS, z = (st σ 7 (q * 4 + dd) (i + 1)) := ⟨_, rfl⟩
  have hP : va_P D vwCl (wC ad cI r σ1) H := by rw [eσ1]; exact hP
  have hD : va_D (kA s0) (wC ad cI r σ1) := by rw [eσ1]; exact hD
  refine lv_aload_n hx hb d_FK_connect_10 rfl (lv_at hl 0 rfl) ?_
  refine va_get (D := D) (ci := nFK) (v := .ref (ad 2)) (C := R_FK) (T := T_FK) (N := 4) hx hb hts i_FK hown hK hP 0 rfl rfl 1 (by decide) (hts _ tw_117) (fun _ h9 => h9) rfl d_FK_connect_11 ?_
  refine lv_iload_n hx hb d_FK_connect_14 rfl (lv_at hl 3 rfl) ?_
  refine k_callR (k_atV (As := [.int (nI i)]) hx hb hown hE.1 (K0.w tw_487) (hts _ tw_484) (hts _ tw_485) (hts _ tw_486) (hts _ tw_3) (by decide) np_Pro_descriptorsOfPipe (va_recv hK hP (ci := nPro) (q0 := 2) rfl rfl) rfl d_FK_connect_15) (c_Pro_descriptorsOfPipe K0 ad r σ1 i (by omega) (by subst eσ1; first | exact hb7 | exact st_b hb7 (by omega))) (hl.1.trans hml.symm) (Nat.le_of_ble_eq_true rfl) ⟨Nat.le_of_ble_eq_true rfl, Nat.le_of_ble_eq_true rfl, Nat.le_of_ble_eq_true rfl, Nat.le_of_ble_eq_true rfl⟩ (fun U hU hW => ⟨hE.go hW hU hS, by rw [hU]; exact hP, hD⟩) ?_
  have hc2 : (cof σ1 i) ≤ 24 := cnt_le _ _
  exact k_retWI hx hb hr hlocks d_FK_connect_18 hP hD hS (by subst eσ1; rfl)
set_option maxHeartbeats 4000000 in
set_option maxRecDepth 100000 in
theorem c_FK_run {l : Launch} {s0 : State} {a0 : Array Value} {D : va_G} {cI cL : ClassId} (K0 : k0 l s0 a0 D cI cL) (ad : Nat → Nat) (r : va_W) (σ : kS) (q : Nat) (hq : q < 6) : kMet l y_FK_run (Cond.code y_FK_run b_FK_run 2 none) (rmL 1) [.ref (ad 0), .int (nI q)] (kPre D vwCl s0 (wC ad cI r) σ) (.ok (none, m_run σ q)) (kBw D vwCl s0 (wC ad cI r)) := by
  refine k_of (by decide) (Nat.le_of_ble_eq_true rfl) ?_
  intro p e9 s m below meth c hx hb hr hlocks hown hml hex hpre ls hl
  obtain ⟨hE, hP, hD⟩ := hpre
  obtain ⟨hts, hK⟩ := K0.at (args := ([.ref (ad 0), .int (nI q)] : List Value).toArray) hE
  have hl : lv_has ls 2 [(0, .ref (ad 0)), (1, .int (nI q))] := hl
  have hS : va_S (kA s0) s.heap s.heap [] := va_S.rf
  refine lv_aload_n hx hb d_FK_run_0 rfl (lv_at hl 0 rfl) ?_
  refine va_get (D := D) (ci := nFK) (v := .ref (ad 2)) (C := R_FK) (T := T_FK) (N := 4) hx hb hts i_FK hown hK hP 0 rfl rfl 1 (by decide) (hts _ tw_117) (fun _ h9 => h9) rfl d_FK_run_1 ?_
  refine lv_iload_n hx hb d_FK_run_4 rfl (lv_at hl 1 rfl) ?_
  refine lv_iconst (v := (nI 3)) hx hb d_FK_run_5 (by decide) ?_
  refine k_callW (k_atV (As := [.int (nI q), .int (nI 3)]) hx hb hown hE.1 (K0.w tw_387) (hts _ tw_384) (hts _ tw_385) (hts _ tw_386) (hts _ tw_3) (by decide) np_Pro_setState (va_recv hK hP (ci := nPro) (q0 := 2) rfl rfl) rfl d_FK_run_6) (c_Pro_setState K0 ad r σ q 3 (by omega)) (hl.1.trans hml.symm) (Nat.le_of_ble_eq_true rfl) ⟨Nat.le_of_ble_eq_true rfl, Nat.le_of_ble_eq_true rfl, Nat.le_of_ble_eq_true rfl, Nat.le_of_ble_eq_true rfl⟩ (fun U hU hW => ⟨hE.go hW hU hS, by rw [hU]; exact hP, hD⟩) hS (fun H locs hP hD hS => ?_)
  obtain ⟨σ1, eσ1⟩ : ∃ z : kS, z = (st σ 4 q 3) := ⟨_, rfl⟩
  have hP : va_P D vwCl (wC ad cI r σ1) H := by rw [eσ1]; exact hP
  have hD : va_D (kA s0) (wC ad cI r σ1) := by rw [eσ1]; exact hD
  refine lv_aload_n hx hb d_FK_run_9 rfl (lv_at hl 0 rfl) ?_
  refine lv_iload_n hx hb d_FK_run_10 rfl (lv_at hl 1 rfl) ?_
  refine va_put (D := D) (ci := nFK) (v := .int (nI q)) (ty := .int) (C := R_FK) (T := T_FK) (N := 4) hx hb hts i_FK ty_FK ty_FK_ok nm_FK hown hK hP hD hS 0 rfl rfl 3 (by decide) (hts _ tw_119) (fun _ h9 => h9) rfl (by decide +kernel) rfl rfl (Nat.le_of_ble_eq_true rfl) d_FK_run_11 (fun H locs hP hD hS => ?_)
  obtain ⟨σ2, eσ2⟩ : ∃ z : kS, z = (st σ1 11 0 q) := ⟨_, rfl⟩
  have hP : va_P D vwCl (wC ad cI r σ2) H := by rw [eσ2]; exact hP
  have hD : va_D (kA s0) (wC ad cI r σ2) := by rw [eσ2]; exact hD
  exact k_retWV hx hb hr hlocks d_FK_run_14 hP hD hS (by subst eσ2 eσ1; rfl)
set_option maxHeartbeats 4000000 in
set_option maxRecDepth 100000 in
theorem c_FK_handOverToNextReady {l : Launch} {s0 : State} {a0 : Array Value} {D : va_G} {cI cL : ClassId} (K0 : k0 l s0 a0 D cI cL) (ad : Nat → Nat) (r : va_W) (σ : kS)  (ok : kOk σ) : kMet l y_FK_handOverToNextReady (Cond.code y_FK_handOverToNextReady b_FK_handOverToNextReady 2 none) (rmL 6) [.ref (ad 0)] (kPre D vwCl s0 (wC ad cI r) σ) (req (nxr σ (σ.1 11 0) != 0) eIS (.ok (none, m_run σ (nxr σ (σ.1 11 0))))) (kBw D vwCl s0 (wC ad cI r)) := by
  refine k_of (by decide) (Nat.le_of_ble_eq_true rfl) ?_
  intro p e9 s m below meth c hx hb hr hlocks hown hml hex hpre ls hl
  obtain ⟨hE, hP, hD⟩ := hpre
  obtain ⟨hts, hK⟩ := K0.at (args := ([.ref (ad 0)] : List Value).toArray) hE
  have hl : lv_has ls 2 [(0, .ref (ad 0))] := hl
  have hS : va_S (kA s0) s.heap s.heap [] := va_S.rf
  obtain ⟨o1, o2, o3, o4, o5, o6, o7, o8, o9, o10, o0, ⟨oc1, oc2⟩, oc3, or6⟩ := id ok
  have hr0 : σ.1 6 (σ.1 11 0) ≠ 0 := or6 _ oc2 (by omega)
  have hr1 : σ.1 6 (σ.1 11 0) < 21 := o6 _ oc2
  refine lv_aload_n hx hb d_FK_handOverToNextReady_0 rfl (lv_at hl 0 rfl) ?_
  refine va_get (D := D) (ci := nFK) (v := .ref (ad 2)) (C := R_FK) (T := T_FK) (N := 4) hx hb hts i_FK hown hK hP 0 rfl rfl 1 (by decide) (hts _ tw_117) (fun _ h9 => h9) rfl d_FK_handOverToNextReady_1 ?_
  refine lv_aload_n hx hb d_FK_handOverToNextReady_4 rfl (lv_at hl 0 rfl) ?_
  refine va_get (D := D) (ci := nFK) (v := .int (nI (σ.1 11 0))) (C := R_FK) (T := T_FK) (N := 4) hx hb hts i_FK hown hK hP 0 rfl rfl 3 (by decide) (hts _ tw_119) (fun _ h9 => h9) rfl d_FK_handOverToNextReady_5 ?_
  refine k_callR (k_atV (As := [.int (nI (σ.1 11 0))]) hx hb hown hE.1 (K0.w tw_419) (hts _ tw_416) (hts _ tw_417) (hts _ tw_418) (hts _ tw_3) (by decide) np_Pro_nextReady (va_recv hK hP (ci := nPro) (q0 := 2) rfl rfl) rfl d_FK_handOverToNextReady_8) (c_Pro_nextReady K0 ad r σ (σ.1 11 0) (by omega) ok.b4) (hl.1.trans hml.symm) (Nat.le_of_ble_eq_true rfl) ⟨Nat.le_of_ble_eq_true rfl, Nat.le_of_ble_eq_true rfl, Nat.le_of_ble_eq_true rfl, Nat.le_of_ble_eq_true rfl⟩ (fun U hU hW => ⟨hE.go hW hU hS, by rw [hU]; exact hP, hD⟩) ?_
  have hnx : nxr σ (σ.1 11 0) < 6 := nxr_lt _ _
  refine lv_istore_n (lv' := [(1, .int (nI (nxr σ (σ.1 11 0)))), (0, .ref (ad 0))]) hx hb d_FK_handOverToNextReady_11 rfl hl (by decide) rfl (fun ls hl => ?_)
  refine lv_iload_n hx hb d_FK_handOverToNextReady_12 rfl (lv_at hl 0 rfl) ?_
  refine k_ifN0 (tgt := 27) (by omega) hx hb d_FK_handOverToNextReady_13 (by decide) (fun h1 => ?_) (fun h1 => ?_)
  · refine lv_aload_n hx hb d_FK_handOverToNextReady_27 rfl (lv_at hl 1 rfl) ?_
    refine lv_iload_n hx hb d_FK_handOverToNextReady_28 rfl (lv_at hl 0 rfl) ?_
    refine k_callW (k_atV (As := [.int (nI (nxr σ (σ.1 11 0)))]) hx hb hown hE.1 (K0.w tw_403) (hts _ tw_400) (hts _ tw_402) (hts _ tw_9008) (hts _ tw_1) (by decide) np_FK_run (va_recv hK hP (ci := nFK) (q0 := 0) rfl rfl) rfl d_FK_handOverToNextReady_29) (c_FK_run K0 ad r σ (nxr σ (σ.1 11 0)) (by omega)) (hl.1.trans hml.symm) (Nat.le_of_ble_eq_true rfl) ⟨Nat.le_of_ble_eq_true rfl, Nat.le_of_ble_eq_true rfl, Nat.le_of_ble_eq_true rfl, Nat.le_of_ble_eq_true rfl⟩ (fun U hU hW => ⟨hE.go hW hU hS, by rw [hU]; exact hP, hD⟩) hS (fun H locs hP hD hS => ?_)
    obtain ⟨σ2, eσ2⟩ : ∃ z : kS, z = (m_run σ (nxr σ (σ.1 11 0))) := ⟨_, rfl⟩
    have hP : va_P D vwCl (wC ad cI r σ2) H := by rw [eσ2]; exact hP
    have hD : va_D (kA s0) (wC ad cI r σ2) := by rw [eσ2]; exact hD
    exact k_retWV hx hb hr hlocks d_FK_handOverToNextReady_32 hP hD hS (by subst eσ2; first | rfl | (simp [req, eIA, eIS, eUO, eNS, h1, beq_false_of_ne h1, bne_iff_ne.mpr h1]; done) | (simp [req, eIA, eIS, eUO, eNS, h1, beq_false_of_ne h1, bne_iff_ne.mpr h1]; rfl) | (simp [req, eIA, eIS, eUO, eNS, h1, beq_false_of_ne h1, bne_iff_ne.mpr h1]; done) | (simp [req, eIA, eIS, eUO, eNS, h1, beq_false_of_ne h1, bne_iff_ne.mpr h1]; rfl) | (simp only [req, eIA, eIS, eUO, eNS, h1, beq_false_of_ne h1, bne_iff_ne.mpr h1]; rfl))
  · exact k_throwW hx hb K0.tr hown (text := "no process is ready to run instead") (names := kNames) (by decide +kernel) (by decide +kernel) (hts _ tw_220) (hts _ tw_10) (K0.str hE sr_303) (K0.own hE oa_57) (hl.1.trans hml.symm) d_FK_handOverToNextReady_16 d_FK_handOverToNextReady_19 d_FK_handOverToNextReady_20 d_FK_handOverToNextReady_23 d_FK_handOverToNextReady_26 hex hlocks ⟨Nat.le_of_ble_eq_true rfl, Nat.le_of_ble_eq_true rfl, Nat.le_of_ble_eq_true rfl, Nat.le_of_ble_eq_true rfl⟩ (by first | rfl | (simp [req, eIA, eIS, eUO, eNS, h1]; done) | (simp [req, eIA, eIS, eUO, eNS, h1]; rfl) | (simp [req, eIA, eIS, eUO, eNS, beq_iff_eq.mpr h1]; done) | (simp [req, eIA, eIS, eUO, eNS, beq_iff_eq.mpr h1]; rfl) | (simp only [req, eIA, eIS, eUO, eNS, h1]; rfl))
set_option maxHeartbeats 4000000 in
set_option maxRecDepth 100000 in
theorem c_FK_intsInOpenPipes {l : Launch} {s0 : State} {a0 : Array Value} {D : va_G} {cI cL : ClassId} (K0 : k0 l s0 a0 D cI cL) (ad : Nat → Nat) (r : va_W) (σ : kS)  (ok : kOk σ) : kMet l y_FK_intsInOpenPipes (Cond.code y_FK_intsInOpenPipes b_FK_intsInOpenPipes 3 (some .int)) (rmL 1) [.ref (ad 0)] (kPre D vwCl s0 (wC ad cI r) σ) (.ok (some (.int (nI (pin σ 3))), ())) kBr := by
  refine k_of (by decide) (Nat.le_of_ble_eq_true rfl) ?_
  intro p e9 s m below meth c hx hb hr hlocks hown hml hex hpre ls hl
  obtain ⟨hE, hP, hD⟩ := hpre
  obtain ⟨hts, hK⟩ := K0.at (args := ([.ref (ad 0)] : List Value).toArray) hE
  have hl : lv_has ls 3 [(0, .ref (ad 0))] := hl
  have hS : va_S (kA s0) s.heap s.heap [] := va_S.rf
  obtain ⟨o1, o2, o3, o4, o5, o6, o7, o8, o9, o10, o0, ⟨oc1, oc2⟩, oc3, or6⟩ := id ok
  have hr0 : σ.1 6 (σ.1 11 0) ≠ 0 := or6 _ oc2 (by omega)
  have hr1 : σ.1 6 (σ.1 11 0) < 21 := o6 _ oc2
  refine lv_iconst (v := (nI 0)) hx hb d_FK_intsInOpenPipes_0 (by decide) ?_
  refine lv_istore_n (lv' := [(1, .int (nI 0)), (0, .ref (ad 0))]) hx hb d_FK_intsInOpenPipes_1 rfl hl (by decide) rfl (fun ls hl => ?_)
  refine lv_iconst (v := (nI 0)) hx hb d_FK_intsInOpenPipes_2 (by decide) ?_
  refine lv_istore_n (lv' := [(2, .int (nI 0)), (1, .int (nI 0)), (0, .ref (ad 0))]) hx hb d_FK_intsInOpenPipes_3 rfl hl (by decide) rfl (fun ls hl => ?_)
  have L : ∀ (n i : Nat), i + n = 3 → ∀ ls : Array Slot, lv_has ls 3 [(2, .int (nI i)), (1, .int (nI (pin σ i))), (0, .ref (ad 0))] → W p l e9 (rmL 1) s m ([.ref (ad 0)] : List Value).toArray below meth c s.heap [] 0 0 (kE below (.ok (some (.int (nI (pin σ 3))), ())) kBr s) (F0 m 4 ls []) := by
    intro n
    induction n with
    | zero =>
      intro i hi ls hl
      obtain rfl : i = 3 := by omega
      refine lv_iload_n hx hb d_FK_intsInOpenPipes_4 rfl (lv_at hl 0 rfl) ?_
      refine lv_iconst (v := (nI 3)) hx hb d_FK_intsInOpenPipes_5 (by decide) ?_
      refine k_geN (tgt := 37) (by decide) (by decide) hx hb d_FK_intsInOpenPipes_6 (by decide) (fun _ => ?_) (fun h9 => absurd h9 (by decide))
      refine lv_iload_n hx hb d_FK_intsInOpenPipes_37 rfl (lv_at hl 1 rfl) ?_
      exact k_retI hx hb hr hlocks d_FK_intsInOpenPipes_38 (by first | rfl | (simp [eIA, eIS, eUO, eNS]; done) | (simp [eIA, eIS, eUO, eNS]; rfl) | (simp [eIA, eIS, eUO, eNS]; done) | (simp [eIA, eIS, eUO, eNS]; rfl) | (simp only [eIA, eIS, eUO, eNS]; rfl))
    | succ n ih =>
      intro i hi ls hl
      have hlt : i < 3 := by omega
      refine lv_iload_n hx hb d_FK_intsInOpenPipes_4 rfl (lv_at hl 0 rfl) ?_
      refine lv_iconst (v := (nI 3)) hx hb d_FK_intsInOpenPipes_5 (by decide) ?_
      refine k_geN (tgt := 37) (by omega) (by omega) hx hb d_FK_intsInOpenPipes_6 (by decide) (fun h9 => absurd h9 (by omega)) (fun _ => ?_)
      refine lv_aload_n hx hb d_FK_intsInOpenPipes_9 rfl (lv_at hl 2 rfl) ?_
      refine va_get (D := D) (ci := nFK) (v := .ref (ad 2)) (C := R_FK) (T := T_FK) (N := 4) hx hb hts i_FK hown hK hP 0 rfl rfl 1 (by decide) (hts _ tw_117) (fun _ h9 => h9) rfl d_FK_intsInOpenPipes_10 ?_
      refine lv_iload_n hx hb d_FK_intsInOpenPipes_13 rfl (lv_at hl 0 rfl) ?_
      refine k_callR (k_atV (As := [.int (nI i)]) hx hb hown hE.1 (K0.w tw_487) (hts _ tw_484) (hts _ tw_485) (hts _ tw_486) (hts _ tw_3) (by decide) np_Pro_descriptorsOfPipe (va_recv hK hP (ci := nPro) (q0 := 2) rfl rfl) rfl d_FK_intsInOpenPipes_14) (c_Pro_descriptorsOfPipe K0 ad r σ i (by omega) ok.b7) (hl.1.trans hml.symm) (Nat.le_of_ble_eq_true rfl) ⟨Nat.le_of_ble_eq_true rfl, Nat.le_of_ble_eq_true rfl, Nat.le_of_ble_eq_true rfl, Nat.le_of_ble_eq_true rfl⟩ (fun U hU hW => ⟨hE.go hW hU hS, by rw [hU]; exact hP, hD⟩) ?_
      have hc1 : (cof σ i) ≤ 24 := cnt_le _ _
      refine k_leN0 (tgt := 31) (by omega) hx hb d_FK_intsInOpenPipes_17 (by decide) (fun h2 => ?_) (fun h2 => ?_)
      · refine lv_iinc (v := (nI (i + 1))) (lv' := [(2, .int (nI (i + 1))), (1, .int (nI (pin σ i))), (0, .ref (ad 0))]) hx hb d_FK_intsInOpenPipes_31 hl (k := 0) rfl (nI_1 _) (by decide) rfl (fun ls hl => ?_)
        refine lv_goto (tgt := 4) hx hb d_FK_intsInOpenPipes_34 (by decide) ?_
        exact ih (i + 1) (by omega) ls (by rw [show pin σ (i + 1) = (pin σ i) from by simp [pin, h2]]; exact lv_sub hl [0, 1, 2] rfl)
      · refine lv_iload_n hx hb d_FK_intsInOpenPipes_20 rfl (lv_at hl 1 rfl) ?_
        refine lv_aload_n hx hb d_FK_intsInOpenPipes_21 rfl (lv_at hl 2 rfl) ?_
        refine va_get (D := D) (ci := nFK) (v := .ref (ad 3)) (C := R_FK) (T := T_FK) (N := 4) hx hb hts i_FK hown hK hP 0 rfl rfl 2 (by decide) (hts _ tw_118) (fun _ h9 => h9) rfl d_FK_intsInOpenPipes_22 ?_
        refine lv_iload_n hx hb d_FK_intsInOpenPipes_25 rfl (lv_at hl 0 rfl) ?_
        refine k_callR (k_atV (As := [.int (nI i)]) hx hb hown hE.1 (K0.w tw_551) (hts _ tw_548) (hts _ tw_549) (hts _ tw_550) (hts _ tw_4) (by decide) np_Pip_held (va_recv hK hP (ci := nPip) (q0 := 3) rfl rfl) rfl d_FK_intsInOpenPipes_26) (c_Pip_held K0 ad r σ i (by omega)) (hl.1.trans hml.symm) (Nat.le_of_ble_eq_true rfl) ⟨Nat.le_of_ble_eq_true rfl, Nat.le_of_ble_eq_true rfl, Nat.le_of_ble_eq_true rfl, Nat.le_of_ble_eq_true rfl⟩ (fun U hU hW => ⟨hE.go hW hU hS, by rw [hU]; exact hP, hD⟩) ?_
        have ho3 := o10 i (by omega)
        refine k_addN hx hb d_FK_intsInOpenPipes_29 ?_
        refine lv_istore_n (lv' := [(1, .int (nI ((pin σ i) + (σ.1 10 i)))), (2, .int (nI i)), (0, .ref (ad 0))]) hx hb d_FK_intsInOpenPipes_30 rfl hl (by decide) rfl (fun ls hl => ?_)
        refine lv_iinc (v := (nI (i + 1))) (lv' := [(2, .int (nI (i + 1))), (1, .int (nI ((pin σ i) + (σ.1 10 i)))), (0, .ref (ad 0))]) hx hb d_FK_intsInOpenPipes_31 hl (k := 1) rfl (nI_1 _) (by decide) rfl (fun ls hl => ?_)
        refine lv_goto (tgt := 4) hx hb d_FK_intsInOpenPipes_34 (by decide) ?_
        exact ih (i + 1) (by omega) ls (by rw [show pin σ (i + 1) = ((pin σ i) + (σ.1 10 i)) from by simp [pin, h2]]; exact lv_sub hl [0, 1, 2] rfl)
  exact L 3 0 (by omega) ls (lv_sub hl [0, 1, 2] rfl)
