/-! While memory and processes are being made. Laid by a program of mine (wip/gen). -/
set_option maxHeartbeats 4000000 in
set_option maxRecDepth 100000 in
theorem c_Mem_setEntryM {l : Launch} {s0 : State} {a0 : Array Value} {D : va_G} {cI cL : ClassId} (K0 : k0 l s0 a0 D cI cL) (ad : Nat → Nat) (r : va_W) (σ : kS) (g : Nat) (en : Nat) (v : Nat) (rr : Nat) (hg : g < 20) (hen : en < 4) : kMet l y_Mem_setEntry (Cond.code y_Mem_setEntry b_Mem_setEntry 5 none) (rmL 0) [.ref (ad 1), .int (nI g), .int (nI en), .int (pI v), .int (nI rr)] (kPre D vwCl s0 (wMr ad cI r) σ) (.ok (none, m_setEntry σ g en v rr)) (kBw D vwCl s0 (wMr ad cI r)) := by
  refine k_of (by decide) (Nat.le_of_ble_eq_true rfl) ?_
  intro p e9 s m below meth c hx hb hr hlocks hown hml hex hpre ls hl
  obtain ⟨hE, hP, hD⟩ := hpre
  obtain ⟨hts, hK⟩ := K0.at (args := ([.ref (ad 1), .int (nI g), .int (nI en), .int (pI v), .int (nI rr)] : List Value).toArray) hE
  have hl : lv_has ls 5 [(0, .ref (ad 1)), (1, .int (nI g)), (2, .int (nI en)), (3, .int (pI v)), (4, .int (nI rr))] := hl
  have hS : va_S (kA s0) s.heap s.heap [] := va_S.rf
  refine lv_aload_n hx hb d_Mem_setEntry_0 rfl (lv_at hl 0 rfl) ?_
  refine va_get (D := D) (ci := nMem) (v := .ref (ad 6)) (C := R_Mem) (T := T_Mem) (N := 5) hx hb hts i_Mem hown hK hP 0 rfl rfl 2 (by decide) (hts _ tw_49) (fun _ h9 => h9) rfl d_Mem_setEntry_1 ?_
  refine lv_iload_n hx hb d_Mem_setEntry_4 rfl (lv_at hl 1 rfl) ?_
  refine lv_iconst (v := (nI 4)) hx hb d_Mem_setEntry_5 (by decide) ?_
  refine k_mulN hx hb d_Mem_setEntry_6 ?_
  refine lv_iload_n hx hb d_Mem_setEntry_7 rfl (lv_at hl 2 rfl) ?_
  refine k_addN hx hb d_Mem_setEntry_8 ?_
  refine lv_iload_n hx hb d_Mem_setEntry_9 rfl (lv_at hl 3 rfl) ?_
  refine k_astP (q0 := 3) (t0 := 0) hx hb hK hP hD hS rfl rfl (by omega) (by decide) d_Mem_setEntry_10 (fun H locs hP hD hS => ?_)
  obtain ⟨σ1, eσ1⟩ : ∃ z : kS, z = (st σ 2 ((g * 4) + en) v) := ⟨_, rfl⟩
  have hP : va_P D vwCl (wMr ad cI r σ1) H := by rw [eσ1]; exact hP
  have hD : va_D (kA s0) (wMr ad cI r σ1) := by rw [eσ1]; exact hD
  refine lv_aload_n hx hb d_Mem_setEntry_11 rfl (lv_at hl 0 rfl) ?_
  refine va_get (D := D) (ci := nMem) (v := .ref (ad 7)) (C := R_Mem) (T := T_Mem) (N := 5) hx hb hts i_Mem hown hK hP 0 rfl rfl 3 (by decide) (hts _ tw_50) (fun _ h9 => h9) rfl d_Mem_setEntry_12 ?_
  refine lv_iload_n hx hb d_Mem_setEntry_15 rfl (lv_at hl 1 rfl) ?_
  refine lv_iconst (v := (nI 4)) hx hb d_Mem_setEntry_16 (by decide) ?_
  refine k_mulN hx hb d_Mem_setEntry_17 ?_
  refine lv_iload_n hx hb d_Mem_setEntry_18 rfl (lv_at hl 2 rfl) ?_
  refine k_addN hx hb d_Mem_setEntry_19 ?_
  refine lv_iload hx hb d_Mem_setEntry_20 (lv_at hl 4 rfl) ?_
  refine k_astN (q0 := 4) (t0 := 0) hx hb hK hP hD hS rfl rfl (by omega) (by decide) d_Mem_setEntry_22 (fun H locs hP hD hS => ?_)
  obtain ⟨σ2, eσ2⟩ : ∃ z : kS, z = (st σ1 3 ((g * 4) + en) rr) := ⟨_, rfl⟩
  have hP : va_P D vwCl (wMr ad cI r σ2) H := by rw [eσ2]; exact hP
  have hD : va_D (kA s0) (wMr ad cI r σ2) := by rw [eσ2]; exact hD
  exact k_retWV hx hb hr hlocks d_Mem_setEntry_23 hP hD hS (by subst eσ2 eσ1; rfl)
set_option maxHeartbeats 4000000 in
set_option maxRecDepth 100000 in
theorem c_Mem_clearEntryM {l : Launch} {s0 : State} {a0 : Array Value} {D : va_G} {cI cL : ClassId} (K0 : k0 l s0 a0 D cI cL) (ad : Nat → Nat) (r : va_W) (σ : kS) (g : Nat) (en : Nat) (hg : g < 20) (hen : en < 4) : kMet l y_Mem_clearEntry (Cond.code y_Mem_clearEntry b_Mem_clearEntry 3 none) (rmL 1) [.ref (ad 1), .int (nI g), .int (nI en)] (kPre D vwCl s0 (wMr ad cI r) σ) (.ok (none, m_clearEntry σ g en)) (kBw D vwCl s0 (wMr ad cI r)) := by
  refine k_of (by decide) (Nat.le_of_ble_eq_true rfl) ?_
  intro p e9 s m below meth c hx hb hr hlocks hown hml hex hpre ls hl
  obtain ⟨hE, hP, hD⟩ := hpre
  obtain ⟨hts, hK⟩ := K0.at (args := ([.ref (ad 1), .int (nI g), .int (nI en)] : List Value).toArray) hE
  have hl : lv_has ls 3 [(0, .ref (ad 1)), (1, .int (nI g)), (2, .int (nI en))] := hl
  have hS : va_S (kA s0) s.heap s.heap [] := va_S.rf
  refine lv_aload_n hx hb d_Mem_clearEntry_0 rfl (lv_at hl 0 rfl) ?_
  refine lv_iload_n hx hb d_Mem_clearEntry_1 rfl (lv_at hl 1 rfl) ?_
  refine lv_iload_n hx hb d_Mem_clearEntry_2 rfl (lv_at hl 2 rfl) ?_
  refine lv_iconst (v := (pI 0)) hx hb d_Mem_clearEntry_3 (by decide) ?_
  refine lv_iconst (v := (nI 0)) hx hb d_Mem_clearEntry_4 (by decide) ?_
  refine k_callW (k_atV (As := [.int (nI g), .int (nI en), .int (pI 0), .int (nI 0)]) hx hb hown hE.1 (K0.w tw_42) (hts _ tw_39) (hts _ tw_40) (hts _ tw_41) (hts _ tw_2) (by decide) np_Mem_setEntry (va_recv hK hP (ci := nMem) (q0 := 0) rfl rfl) rfl d_Mem_clearEntry_5) (c_Mem_setEntryM K0 ad r σ g en 0 0 (by omega) (by omega)) (hl.1.trans hml.symm) (Nat.le_of_ble_eq_true rfl) ⟨Nat.le_of_ble_eq_true rfl, Nat.le_of_ble_eq_true rfl, Nat.le_of_ble_eq_true rfl, Nat.le_of_ble_eq_true rfl⟩ (fun U hU hW => ⟨hE.go hW hU hS, by rw [hU]; exact hP, hD⟩) hS (fun H locs hP hD hS => ?_)
  obtain ⟨σ1, eσ1⟩ : ∃ z : kS, z = (m_setEntry σ g en 0 0) := ⟨_, rfl⟩
  have hP : va_P D vwCl (wMr ad cI r σ1) H := by rw [eσ1]; exact hP
  have hD : va_D (kA s0) (wMr ad cI r σ1) := by rw [eσ1]; exact hD
  exact k_retWV hx hb hr hlocks d_Mem_clearEntry_8 hP hD hS (by subst eσ1; rfl)
set_option maxHeartbeats 4000000 in
set_option maxRecDepth 100000 in
theorem c_Mem_setWordM {l : Launch} {s0 : State} {a0 : Array Value} {D : va_G} {cI cL : ClassId} (K0 : k0 l s0 a0 D cI cL) (ad : Nat → Nat) (r : va_W) (σ : kS) (g : Nat) (cc : Nat) (v : Int32) (hg : g < 20) (hcc : cc < 4) : kMet l y_Mem_setWord (Cond.code y_Mem_setWord b_Mem_setWord 4 none) (rmL 0) [.ref (ad 1), .int (nI g), .int (nI cc), .int v] (kPre D vwCl s0 (wMr ad cI r) σ) (.ok (none, sw σ 0 (g * 4 + cc) v)) (kBw D vwCl s0 (wMr ad cI r)) := by
  refine k_of (by decide) (Nat.le_of_ble_eq_true rfl) ?_
  intro p e9 s m below meth c hx hb hr hlocks hown hml hex hpre ls hl
  obtain ⟨hE, hP, hD⟩ := hpre
  obtain ⟨hts, hK⟩ := K0.at (args := ([.ref (ad 1), .int (nI g), .int (nI cc), .int v] : List Value).toArray) hE
  have hl : lv_has ls 4 [(0, .ref (ad 1)), (1, .int (nI g)), (2, .int (nI cc)), (3, .int v)] := hl
  have hS : va_S (kA s0) s.heap s.heap [] := va_S.rf
  refine lv_aload_n hx hb d_Mem_setWord_0 rfl (lv_at hl 0 rfl) ?_
  refine va_get (D := D) (ci := nMem) (v := .ref (ad 8)) (C := R_Mem) (T := T_Mem) (N := 5) hx hb hts i_Mem hown hK hP 0 rfl rfl 4 (by decide) (hts _ tw_51) (fun _ h9 => h9) rfl d_Mem_setWord_1 ?_
  refine lv_iload_n hx hb d_Mem_setWord_4 rfl (lv_at hl 1 rfl) ?_
  refine lv_iconst (v := (nI 4)) hx hb d_Mem_setWord_5 (by decide) ?_
  refine k_mulN hx hb d_Mem_setWord_6 ?_
  refine lv_iload_n hx hb d_Mem_setWord_7 rfl (lv_at hl 2 rfl) ?_
  refine k_addN hx hb d_Mem_setWord_8 ?_
  refine lv_iload_n hx hb d_Mem_setWord_9 rfl (lv_at hl 3 rfl) ?_
  refine k_astI (q0 := 5) (t0 := 0) hx hb hK hP hD hS rfl rfl (by omega) (by decide) d_Mem_setWord_10 (fun H locs hP hD hS => ?_)
  obtain ⟨σ1, eσ1⟩ : ∃ z : kS, z = (sw σ 0 ((g * 4) + cc) v) := ⟨_, rfl⟩
  have hP : va_P D vwCl (wMr ad cI r σ1) H := by rw [eσ1]; exact hP
  have hD : va_D (kA s0) (wMr ad cI r σ1) := by rw [eσ1]; exact hD
  exact k_retWV hx hb hr hlocks d_Mem_setWord_11 hP hD hS (by subst eσ1; rfl)
set_option maxHeartbeats 4000000 in
set_option maxRecDepth 100000 in
theorem c_Mem_becomeM {l : Launch} {s0 : State} {a0 : Array Value} {D : va_G} {cI cL : ClassId} (K0 : k0 l s0 a0 D cI cL) (ad : Nat → Nat) (r : va_W) (σ : kS) (g : Nat) (kk : Nat) (o : Nat) (hg : g < 20) : kMet l y_Mem_become (Cond.code y_Mem_become b_Mem_become 5 none) (rmL 2) [.ref (ad 1), .int (nI g), .int (nI kk), .int (nI o)] (kPre D vwCl s0 (wMr ad cI r) σ) (.ok (none, m_become σ g kk o)) (kBw D vwCl s0 (wMr ad cI r)) := by
  refine k_of (by decide) (Nat.le_of_ble_eq_true rfl) ?_
  intro p e9 s m below meth c hx hb hr hlocks hown hml hex hpre ls hl
  obtain ⟨hE, hP, hD⟩ := hpre
  obtain ⟨hts, hK⟩ := K0.at (args := ([.ref (ad 1), .int (nI g), .int (nI kk), .int (nI o)] : List Value).toArray) hE
  have hl : lv_has ls 5 [(0, .ref (ad 1)), (1, .int (nI g)), (2, .int (nI kk)), (3, .int (nI o))] := hl
  have hS : va_S (kA s0) s.heap s.heap [] := va_S.rf
  refine lv_aload_n hx hb d_Mem_become_0 rfl (lv_at hl 0 rfl) ?_
  refine va_get (D := D) (ci := nMem) (v := .ref (ad 4)) (C := R_Mem) (T := T_Mem) (N := 5) hx hb hts i_Mem hown hK hP 0 rfl rfl 0 (by decide) (hts _ tw_47) (fun _ h9 => h9) rfl d_Mem_become_1 ?_
  refine lv_iload_n hx hb d_Mem_become_4 rfl (lv_at hl 1 rfl) ?_
  refine lv_iload_n hx hb d_Mem_become_5 rfl (lv_at hl 2 rfl) ?_
  refine k_astN (q0 := 1) (t0 := 0) hx hb hK hP hD hS rfl rfl (by omega) (by decide) d_Mem_become_6 (fun H locs hP hD hS => ?_)
  obtain ⟨σ1, eσ1⟩ : ∃ z : kS, z = (st σ 0 g kk) := ⟨_, rfl⟩
  have hP : va_P D vwCl (wMr ad cI r σ1) H := by rw [eσ1]; exact hP
  have hD : va_D (kA s0) (wMr ad cI r σ1) := by rw [eσ1]; exact hD
  refine lv_aload_n hx hb d_Mem_become_7 rfl (lv_at hl 0 rfl) ?_
  refine va_get (D := D) (ci := nMem) (v := .ref (ad 5)) (C := R_Mem) (T := T_Mem) (N := 5) hx hb hts i_Mem hown hK hP 0 rfl rfl 1 (by decide) (hts _ tw_48) (fun _ h9 => h9) rfl d_Mem_become_8 ?_
  refine lv_iload_n hx hb d_Mem_become_11 rfl (lv_at hl 1 rfl) ?_
  refine lv_iload_n hx hb d_Mem_become_12 rfl (lv_at hl 3 rfl) ?_
  refine k_astN (q0 := 2) (t0 := 0) hx hb hK hP hD hS rfl rfl (by omega) (by decide) d_Mem_become_13 (fun H locs hP hD hS => ?_)
  obtain ⟨σ2, eσ2⟩ : ∃ z : kS, z = (st σ1 1 g o) := ⟨_, rfl⟩
  have hP : va_P D vwCl (wMr ad cI r σ2) H := by rw [eσ2]; exact hP
  have hD : va_D (kA s0) (wMr ad cI r σ2) := by rw [eσ2]; exact hD
  refine lv_iconst (v := (nI 0)) hx hb d_Mem_become_14 (by decide) ?_
  refine lv_istore (lv' := [(4, .int (nI 0)), (0, .ref (ad 1)), (1, .int (nI g)), (2, .int (nI kk)), (3, .int (nI o))]) hx hb d_Mem_become_15 hl (by decide) rfl (fun ls hl => ?_)
  refine lv_iload hx hb d_Mem_become_17 (lv_at hl 0 rfl) ?_
  refine lv_iconst (v := (nI 4)) hx hb d_Mem_become_19 (by decide) ?_
  refine k_geN (tgt := 44) (by decide) (by decide) hx hb d_Mem_become_20 (by decide) (fun h9 => absurd h9 (by decide)) (fun _ => ?_)
  refine lv_aload_n hx hb d_Mem_become_23 rfl (lv_at hl 1 rfl) ?_
  refine lv_iload_n hx hb d_Mem_become_24 rfl (lv_at hl 2 rfl) ?_
  refine lv_iload hx hb d_Mem_become_25 (lv_at hl 0 rfl) ?_
  refine k_callW (k_atV (As := [.int (nI g), .int (nI 0)]) hx hb hown hE.1 (K0.w tw_38) (hts _ tw_35) (hts _ tw_36) (hts _ tw_37) (hts _ tw_2) (by decide) np_Mem_clearEntry (va_recv hK hP (ci := nMem) (q0 := 0) rfl rfl) rfl d_Mem_become_27) (c_Mem_clearEntryM K0 ad r σ2 g 0 (by omega) (by omega)) (hl.1.trans hml.symm) (Nat.le_of_ble_eq_true rfl) ⟨Nat.le_of_ble_eq_true rfl, Nat.le_of_ble_eq_true rfl, Nat.le_of_ble_eq_true rfl, Nat.le_of_ble_eq_true rfl⟩ (fun U hU hW => ⟨hE.go hW hU hS, by rw [hU]; exact hP, hD⟩) hS (fun H locs hP hD hS => ?_)
  obtain ⟨σ3, eσ3⟩ : ∃ z : kS, z = (m_clearEntry σ2 g 0) := ⟨_, rfl⟩
  have hP : va_P D vwCl (wMr ad cI r σ3) H := by rw [eσ3]; exact hP
  have hD : va_D (kA s0) (wMr ad cI r σ3) := by rw [eσ3]; exact hD
  refine lv_aload_n hx hb d_Mem_become_30 rfl (lv_at hl 1 rfl) ?_
  refine lv_iload_n hx hb d_Mem_become_31 rfl (lv_at hl 2 rfl) ?_
  refine lv_iload hx hb d_Mem_become_32 (lv_at hl 0 rfl) ?_
  refine lv_iconst (v := (nI 0)) hx hb d_Mem_become_34 (by decide) ?_
  refine k_callW (k_atV (As := [.int (nI g), .int (nI 0), .int (nI 0)]) hx hb hown hE.1 (K0.w tw_46) (hts _ tw_43) (hts _ tw_44) (hts _ tw_45) (hts _ tw_2) (by decide) np_Mem_setWord (va_recv hK hP (ci := nMem) (q0 := 0) rfl rfl) rfl d_Mem_become_35) (c_Mem_setWordM K0 ad r σ3 g 0 (nI 0) (by omega) (by omega)) (hl.1.trans hml.symm) (Nat.le_of_ble_eq_true rfl) ⟨Nat.le_of_ble_eq_true rfl, Nat.le_of_ble_eq_true rfl, Nat.le_of_ble_eq_true rfl, Nat.le_of_ble_eq_true rfl⟩ (fun U hU hW => ⟨hE.go hW hU hS, by rw [hU]; exact hP, hD⟩) hS (fun H locs hP hD hS => ?_)
  obtain ⟨σ4, eσ4⟩ : ∃ z : kS, z = (sw σ3 0 (g * 4 + 0) (nI 0)) := ⟨_, rfl⟩
  have hP : va_P D vwCl (wMr ad cI r σ4) H := by rw [eσ4]; exact hP
  have hD : va_D (kA s0) (wMr ad cI r σ4) := by rw [eσ4]; exact hD
  refine lv_iinc (v := (nI 1)) (lv' := [(4, .int (nI 1)), (0, .ref (ad 1)), (1, .int (nI g)), (2, .int (nI kk)), (3, .int (nI o))]) hx hb d_Mem_become_38 hl (k := 0) rfl (nI_1 _) (by decide) rfl (fun ls hl => ?_)
  refine lv_goto (tgt := 17) hx hb d_Mem_become_41 (by decide) ?_
  refine lv_iload hx hb d_Mem_become_17 (lv_at hl 0 rfl) ?_
  refine lv_iconst (v := (nI 4)) hx hb d_Mem_become_19 (by decide) ?_
  refine k_geN (tgt := 44) (by decide) (by decide) hx hb d_Mem_become_20 (by decide) (fun h9 => absurd h9 (by decide)) (fun _ => ?_)
  refine lv_aload_n hx hb d_Mem_become_23 rfl (lv_at hl 1 rfl) ?_
  refine lv_iload_n hx hb d_Mem_become_24 rfl (lv_at hl 2 rfl) ?_
  refine lv_iload hx hb d_Mem_become_25 (lv_at hl 0 rfl) ?_
  refine k_callW (k_atV (As := [.int (nI g), .int (nI 1)]) hx hb hown hE.1 (K0.w tw_38) (hts _ tw_35) (hts _ tw_36) (hts _ tw_37) (hts _ tw_2) (by decide) np_Mem_clearEntry (va_recv hK hP (ci := nMem) (q0 := 0) rfl rfl) rfl d_Mem_become_27) (c_Mem_clearEntryM K0 ad r σ4 g 1 (by omega) (by omega)) (hl.1.trans hml.symm) (Nat.le_of_ble_eq_true rfl) ⟨Nat.le_of_ble_eq_true rfl, Nat.le_of_ble_eq_true rfl, Nat.le_of_ble_eq_true rfl, Nat.le_of_ble_eq_true rfl⟩ (fun U hU hW => ⟨hE.go hW hU hS, by rw [hU]; exact hP, hD⟩) hS (fun H locs hP hD hS => ?_)
  obtain ⟨σ5, eσ5⟩ : ∃ z : kS, z = (m_clearEntry σ4 g 1) := ⟨_, rfl⟩
  have hP : va_P D vwCl (wMr ad cI r σ5) H := by rw [eσ5]; exact hP
  have hD : va_D (kA s0) (wMr ad cI r σ5) := by rw [eσ5]; exact hD
  refine lv_aload_n hx hb d_Mem_become_30 rfl (lv_at hl 1 rfl) ?_
  refine lv_iload_n hx hb d_Mem_become_31 rfl (lv_at hl 2 rfl) ?_
  refine lv_iload hx hb d_Mem_become_32 (lv_at hl 0 rfl) ?_
  refine lv_iconst (v := (nI 0)) hx hb d_Mem_become_34 (by decide) ?_
  refine k_callW (k_atV (As := [.int (nI g), .int (nI 1), .int (nI 0)]) hx hb hown hE.1 (K0.w tw_46) (hts _ tw_43) (hts _ tw_44) (hts _ tw_45) (hts _ tw_2) (by decide) np_Mem_setWord (va_recv hK hP (ci := nMem) (q0 := 0) rfl rfl) rfl d_Mem_become_35) (c_Mem_setWordM K0 ad r σ5 g 1 (nI 0) (by omega) (by omega)) (hl.1.trans hml.symm) (Nat.le_of_ble_eq_true rfl) ⟨Nat.le_of_ble_eq_true rfl, Nat.le_of_ble_eq_true rfl, Nat.le_of_ble_eq_true rfl, Nat.le_of_ble_eq_true rfl⟩ (fun U hU hW => ⟨hE.go hW hU hS, by rw [hU]; exact hP, hD⟩) hS (fun H locs hP hD hS => ?_)
  obtain ⟨σ6, eσ6⟩ : ∃ z : kS, z = (sw σ5 0 (g * 4 + 1) (nI 0)) := ⟨_, rfl⟩
  have hP : va_P D vwCl (wMr ad cI r σ6) H := by rw [eσ6]; exact hP
  have hD : va_D (kA s0) (wMr ad cI r σ6) := by rw [eσ6]; exact hD
  refine lv_iinc (v := (nI 2)) (lv' := [(4, .int (nI 2)), (0, .ref (ad 1)), (1, .int (nI g)), (2, .int (nI kk)), (3, .int (nI o))]) hx hb d_Mem_become_38 hl (k := 0) rfl (nI_1 _) (by decide) rfl (fun ls hl => ?_)
  refine lv_goto (tgt := 17) hx hb d_Mem_become_41 (by decide) ?_
  refine lv_iload hx hb d_Mem_become_17 (lv_at hl 0 rfl) ?_
  refine lv_iconst (v := (nI 4)) hx hb d_Mem_become_19 (by decide) ?_
  refine k_geN (tgt := 44) (by decide) (by decide) hx hb d_Mem_become_20 (by decide) (fun h9 => absurd h9 (by decide)) (fun _ => ?_)
  refine lv_aload_n hx hb d_Mem_become_23 rfl (lv_at hl 1 rfl) ?_
  refine lv_iload_n hx hb d_Mem_become_24 rfl (lv_at hl 2 rfl) ?_
  refine lv_iload hx hb d_Mem_become_25 (lv_at hl 0 rfl) ?_
  refine k_callW (k_atV (As := [.int (nI g), .int (nI 2)]) hx hb hown hE.1 (K0.w tw_38) (hts _ tw_35) (hts _ tw_36) (hts _ tw_37) (hts _ tw_2) (by decide) np_Mem_clearEntry (va_recv hK hP (ci := nMem) (q0 := 0) rfl rfl) rfl d_Mem_become_27) (c_Mem_clearEntryM K0 ad r σ6 g 2 (by omega) (by omega)) (hl.1.trans hml.symm) (Nat.le_of_ble_eq_true rfl) ⟨Nat.le_of_ble_eq_true rfl, Nat.le_of_ble_eq_true rfl, Nat.le_of_ble_eq_true rfl, Nat.le_of_ble_eq_true rfl⟩ (fun U hU hW => ⟨hE.go hW hU hS, by rw [hU]; exact hP, hD⟩) hS (fun H locs hP hD hS => ?_)
  obtain ⟨σ7, eσ7⟩ : ∃ z : kS, z = (m_clearEntry σ6 g 2) := ⟨_, rfl⟩
  have hP : va_P D vwCl (wMr ad cI r σ7) H := by rw [eσ7]; exact hP
  have hD : va_D (kA s0) (wMr ad cI r σ7) := by rw [eσ7]; exact hD
  refine lv_aload_n hx hb d_Mem_become_30 rfl (lv_at hl 1 rfl) ?_
  refine lv_iload_n hx hb d_Mem_become_31 rfl (lv_at hl 2 rfl) ?_
  refine lv_iload hx hb d_Mem_become_32 (lv_at hl 0 rfl) ?_
  refine lv_iconst (v := (nI 0)) hx hb d_Mem_become_34 (by decide) ?_
  refine k_callW (k_atV (As := [.int (nI g), .int (nI 2), .int (nI 0)]) hx hb hown hE.1 (K0.w tw_46) (hts _ tw_43) (hts _ tw_44) (hts _ tw_45) (hts _ tw_2) (by decide) np_Mem_setWord (va_recv hK hP (ci := nMem) (q0 := 0) rfl rfl) rfl d_Mem_become_35) (c_Mem_setWordM K0 ad r σ7 g 2 (nI 0) (by omega) (by omega)) (hl.1.trans hml.symm) (Nat.le_of_ble_eq_true rfl) ⟨Nat.le_of_ble_eq_true rfl, Nat.le_of_ble_eq_true rfl, Nat.le_of_ble_eq_true rfl, Nat.le_of_ble_eq_true rfl⟩ (fun U hU hW => ⟨hE.go hW hU hS, by rw [hU]; exact hP, hD⟩) hS (fun H locs hP hD hS => ?_)
  obtain ⟨σ8, eσ8⟩ : ∃ z : kS, z = (sw σ7 0 (g * 4 + 2) (nI 0)) := ⟨_, rfl⟩
  have hP : va_P D vwCl (wMr ad cI r σ8) H := by rw [eσ8]; exact hP
  have hD : va_D (kA s0) (wMr ad cI r σ8) := by rw [eσ8]; exact hD
  refine lv_iinc (v := (nI 3)) (lv' := [(4, .int (nI 3)), (0, .ref (ad 1)), (1, .int (nI g)), (2, .int (nI kk)), (3, .int (nI o))]) hx hb d_Mem_become_38 hl (k := 0) rfl (nI_1 _) (by decide) rfl (fun ls hl => ?_)
  refine lv_goto (tgt := 17) hx hb d_Mem_become_41 (by decide) ?_
  refine lv_iload hx hb d_Mem_become_17 (lv_at hl 0 rfl) ?_
  refine lv_iconst (v := (nI 4)) hx hb d_Mem_become_19 (by decide) ?_
  refine k_geN (tgt := 44) (by decide) (by decide) hx hb d_Mem_become_20 (by decide) (fun h9 => absurd h9 (by decide)) (fun _ => ?_)
  refine lv_aload_n hx hb d_Mem_become_23 rfl (lv_at hl 1 rfl) ?_
  refine lv_iload_n hx hb d_Mem_become_24 rfl (lv_at hl 2 rfl) ?_
  refine lv_iload hx hb d_Mem_become_25 (lv_at hl 0 rfl) ?_
  refine k_callW (k_atV (As := [.int (nI g), .int (nI 3)]) hx hb hown hE.1 (K0.w tw_38) (hts _ tw_35) (hts _ tw_36) (hts _ tw_37) (hts _ tw_2) (by decide) np_Mem_clearEntry (va_recv hK hP (ci := nMem) (q0 := 0) rfl rfl) rfl d_Mem_become_27) (c_Mem_clearEntryM K0 ad r σ8 g 3 (by omega) (by omega)) (hl.1.trans hml.symm) (Nat.le_of_ble_eq_true rfl) ⟨Nat.le_of_ble_eq_true rfl, Nat.le_of_ble_eq_true rfl, Nat.le_of_ble_eq_true rfl, Nat.le_of_ble_eq_true rfl⟩ (fun U hU hW => ⟨hE.go hW hU hS, by rw [hU]; exact hP, hD⟩) hS (fun H locs hP hD hS => ?_)
  obtain ⟨σ9, eσ9⟩ : ∃ z : kS, z = (m_clearEntry σ8 g 3) := ⟨_, rfl⟩
  have hP : va_P D vwCl (wMr ad cI r σ9) H := by rw [eσ9]; exact hP
  have hD : va_D (kA s0) (wMr ad cI r σ9) := by rw [eσ9]; exact hD
  refine lv_aload_n hx hb d_Mem_become_30 rfl (lv_at hl 1 rfl) ?_
  refine lv_iload_n hx hb d_Mem_become_31 rfl (lv_at hl 2 rfl) ?_
  refine lv_iload hx hb d_Mem_become_32 (lv_at hl 0 rfl) ?_
  refine lv_iconst (v := (nI 0)) hx hb d_Mem_become_34 (by decide) ?_
  refine k_callW (k_atV (As := [.int (nI g), .int (nI 3), .int (nI 0)]) hx hb hown hE.1 (K0.w tw_46) (hts _ tw_43) (hts _ tw_44) (hts _ tw_45) (hts _ tw_2) (by decide) np_Mem_setWord (va_recv hK hP (ci := nMem) (q0 := 0) rfl rfl) rfl d_Mem_become_35) (c_Mem_setWordM K0 ad r σ9 g 3 (nI 0) (by omega) (by omega)) (hl.1.trans hml.symm) (Nat.le_of_ble_eq_true rfl) ⟨Nat.le_of_ble_eq_true rfl, Nat.le_of_ble_eq_true rfl, Nat.le_of_ble_eq_true rfl, Nat.le_of_ble_eq_true rfl⟩ (fun U hU hW => ⟨hE.go hW hU hS, by rw [hU]; exact hP, hD⟩) hS (fun H locs hP hD hS => ?_)
  obtain ⟨σ10, eσ10⟩ : ∃ z : kS, z = (sw σ9 0 (g * 4 + 3) (nI 0)) := ⟨_, rfl⟩
  have hP : va_P D vwCl (wMr ad cI r σ10) H := by rw [eσ10]; exact hP
  have hD : va_D (kA s0) (wMr ad cI r σ10) := by rw [eσ10]; exact hD
  refine lv_iinc (v := (nI 4)) (lv' := [(4, .int (nI 4)), (0, .ref (ad 1)), (1, .int (nI g)), (2, .int (nI kk)), (3, .int (nI o))]) hx hb d_Mem_become_38 hl (k := 0) rfl (nI_1 _) (by decide) rfl (fun ls hl => ?_)
  refine lv_goto (tgt := 17) hx hb d_Mem_become_41 (by decide) ?_
  refine lv_iload hx hb d_Mem_become_17 (lv_at hl 0 rfl) ?_
  refine lv_iconst (v := (nI 4)) hx hb d_Mem_become_19 (by decide) ?_
  refine k_geN (tgt := 44) (by decide) (by decide) hx hb d_Mem_become_20 (by decide) (fun _ => ?_) (fun h9 => absurd h9 (by decide))
  exact k_retWV hx hb hr hlocks d_Mem_become_44 hP hD hS (by subst eσ10 eσ9 eσ8 eσ7 eσ6 eσ5 eσ4 eσ3 eσ2 eσ1; rfl)
set_option maxHeartbeats 4000000 in
set_option maxRecDepth 100000 in
theorem c_Mem_setFreeM {l : Launch} {s0 : State} {a0 : Array Value} {D : va_G} {cI cL : ClassId} (K0 : k0 l s0 a0 D cI cL) (ad : Nat → Nat) (r : va_W) (σ : kS) (g : Nat) (hg : g < 20) : kMet l y_Mem_setFree (Cond.code y_Mem_setFree b_Mem_setFree 2 none) (rmL 3) [.ref (ad 1), .int (nI g)] (kPre D vwCl s0 (wMr ad cI r) σ) (.ok (none, m_become σ g 0 0)) (kBw D vwCl s0 (wMr ad cI r)) := by
  refine k_of (by decide) (Nat.le_of_ble_eq_true rfl) ?_
  intro p e9 s m below meth c hx hb hr hlocks hown hml hex hpre ls hl
  obtain ⟨hE, hP, hD⟩ := hpre
  obtain ⟨hts, hK⟩ := K0.at (args := ([.ref (ad 1), .int (nI g)] : List Value).toArray) hE
  have hl : lv_has ls 2 [(0, .ref (ad 1)), (1, .int (nI g))] := hl
  have hS : va_S (kA s0) s.heap s.heap [] := va_S.rf
  refine lv_aload_n hx hb d_Mem_setFree_0 rfl (lv_at hl 0 rfl) ?_
  refine lv_iload_n hx hb d_Mem_setFree_1 rfl (lv_at hl 1 rfl) ?_
  refine lv_iconst (v := (nI 0)) hx hb d_Mem_setFree_2 (by decide) ?_
  refine lv_iconst (v := (nI 0)) hx hb d_Mem_setFree_3 (by decide) ?_
  refine k_callW (k_atV (As := [.int (nI g), .int (nI 0), .int (nI 0)]) hx hb hown hE.1 (K0.w tw_34) (hts _ tw_31) (hts _ tw_32) (hts _ tw_33) (hts _ tw_2) (by decide) np_Mem_become (va_recv hK hP (ci := nMem) (q0 := 0) rfl rfl) rfl d_Mem_setFree_4) (c_Mem_becomeM K0 ad r σ g 0 0 (by omega)) (hl.1.trans hml.symm) (Nat.le_of_ble_eq_true rfl) ⟨Nat.le_of_ble_eq_true rfl, Nat.le_of_ble_eq_true rfl, Nat.le_of_ble_eq_true rfl, Nat.le_of_ble_eq_true rfl⟩ (fun U hU hW => ⟨hE.go hW hU hS, by rw [hU]; exact hP, hD⟩) hS (fun H locs hP hD hS => ?_)
  obtain ⟨σ1, eσ1⟩ : ∃ z : kS, z = (m_become σ g 0 0) := ⟨_, rfl⟩
  have hP : va_P D vwCl (wMr ad cI r σ1) H := by rw [eσ1]; exact hP
  have hD : va_D (kA s0) (wMr ad cI r σ1) := by rw [eσ1]; exact hD
  exact k_retWV hx hb hr hlocks d_Mem_setFree_7 hP hD hS (by subst eσ1; rfl)
set_option maxHeartbeats 4000000 in
set_option maxRecDepth 100000 in
theorem c_Pro_setPipeP {l : Launch} {s0 : State} {a0 : Array Value} {D : va_G} {cI cL : ClassId} (K0 : k0 l s0 a0 D cI cL) (ad : Nat → Nat) (r : va_W) (σ : kS) (q : Nat) (dd : Nat) (v : Nat) (hq : q < 6) (hdd : dd < 4) : kMet l y_Pro_setPipe (Cond.code y_Pro_setPipe b_Pro_setPipe 4 none) (rmL 0) [.ref (ad 2), .int (nI q), .int (nI dd), .int (pI v)] (kPre D vwCl s0 (wPr ad cI r) σ) (.ok (none, st σ 7 (q * 4 + dd) v)) (kBw D vwCl s0 (wPr ad cI r)) := by
  refine k_of (by decide) (Nat.le_of_ble_eq_true rfl) ?_
  intro p e9 s m below meth c hx hb hr hlocks hown hml hex hpre ls hl
  obtain ⟨hE, hP, hD⟩ := hpre
  obtain ⟨hts, hK⟩ := K0.at (args := ([.ref (ad 2), .int (nI q), .int (nI dd), .int (pI v)] : List Value).toArray) hE
  have hl : lv_has ls 4 [(0, .ref (ad 2)), (1, .int (nI q)), (2, .int (nI dd)), (3, .int (pI v))] := hl
  have hS : va_S (kA s0) s.heap s.heap [] := va_S.rf
  refine lv_aload_n hx hb d_Pro_setPipe_0 rfl (lv_at hl 0 rfl) ?_
  refine va_get (D := D) (ci := nPro) (v := .ref (ad 12)) (C := R_Pro) (T := T_Pro) (N := 6) hx hb hts i_Pro hown hK hP 0 rfl rfl 3 (by decide) (hts _ tw_85) (fun _ h9 => h9) rfl d_Pro_setPipe_1 ?_
  refine lv_iload_n hx hb d_Pro_setPipe_4 rfl (lv_at hl 1 rfl) ?_
  refine lv_iconst (v := (nI 4)) hx hb d_Pro_setPipe_5 (by decide) ?_
  refine k_mulN hx hb d_Pro_setPipe_6 ?_
  refine lv_iload_n hx hb d_Pro_setPipe_7 rfl (lv_at hl 2 rfl) ?_
  refine k_addN hx hb d_Pro_setPipe_8 ?_
  refine lv_iload_n hx hb d_Pro_setPipe_9 rfl (lv_at hl 3 rfl) ?_
  refine k_astP (q0 := 4) (t0 := 0) hx hb hK hP hD hS rfl rfl (by omega) (by decide) d_Pro_setPipe_10 (fun H locs hP hD hS => ?_)
  obtain ⟨σ1, eσ1⟩ : ∃ z : kS, z = (st σ 7 ((q * 4) + dd) v) := ⟨_, rfl⟩
  have hP : va_P D vwCl (wPr ad cI r σ1) H := by rw [eσ1]; exact hP
  have hD : va_D (kA s0) (wPr ad cI r σ1) := by rw [eσ1]; exact hD
  exact k_retWV hx hb hr hlocks d_Pro_setPipe_11 hP hD hS (by subst eσ1; rfl)
set_option maxHeartbeats 4000000 in
set_option maxRecDepth 100000 in
theorem c_Pro_beginP {l : Launch} {s0 : State} {a0 : Array Value} {D : va_G} {cI cL : ClassId} (K0 : k0 l s0 a0 D cI cL) (ad : Nat → Nat) (r : va_W) (σ : kS) (q : Nat) (sv : Nat) (pv : Nat) (rv : Nat) (hq : q < 6) : kMet l y_Pro_begin (Cond.code y_Pro_begin b_Pro_begin 6 none) (rmL 1) [.ref (ad 2), .int (nI q), .int (nI sv), .int (nI pv), .int (pI rv)] (kPre D vwCl s0 (wPr ad cI r) σ) (.ok (none, m_begin σ q sv pv rv)) (kBw D vwCl s0 (wPr ad cI r)) := by
  refine k_of (by decide) (Nat.le_of_ble_eq_true rfl) ?_
  intro p e9 s m below meth c hx hb hr hlocks hown hml hex hpre ls hl
  obtain ⟨hE, hP, hD⟩ := hpre
  obtain ⟨hts, hK⟩ := K0.at (args := ([.ref (ad 2), .int (nI q), .int (nI sv), .int (nI pv), .int (pI rv)] : List Value).toArray) hE
  have hl : lv_has ls 6 [(0, .ref (ad 2)), (1, .int (nI q)), (2, .int (nI sv)), (3, .int (nI pv)), (4, .int (pI rv))] := hl
  have hS : va_S (kA s0) s.heap s.heap [] := va_S.rf
  refine lv_aload_n hx hb d_Pro_begin_0 rfl (lv_at hl 0 rfl) ?_
  refine va_get (D := D) (ci := nPro) (v := .ref (ad 9)) (C := R_Pro) (T := T_Pro) (N := 6) hx hb hts i_Pro hown hK hP 0 rfl rfl 0 (by decide) (hts _ tw_82) (fun _ h9 => h9) rfl d_Pro_begin_1 ?_
  refine lv_iload_n hx hb d_Pro_begin_4 rfl (lv_at hl 1 rfl) ?_
  refine lv_iload_n hx hb d_Pro_begin_5 rfl (lv_at hl 2 rfl) ?_
  refine k_astN (q0 := 1) (t0 := 0) hx hb hK hP hD hS rfl rfl (by omega) (by decide) d_Pro_begin_6 (fun H locs hP hD hS => ?_)
  obtain ⟨σ1, eσ1⟩ : ∃ z : kS, z = (st σ 4 q sv) := ⟨_, rfl⟩
  have hP : va_P D vwCl (wPr ad cI r σ1) H := by rw [eσ1]; exact hP
  have hD : va_D (kA s0) (wPr ad cI r σ1) := by rw [eσ1]; exact hD
  refine lv_aload_n hx hb d_Pro_begin_7 rfl (lv_at hl 0 rfl) ?_
  refine va_get (D := D) (ci := nPro) (v := .ref (ad 10)) (C := R_Pro) (T := T_Pro) (N := 6) hx hb hts i_Pro hown hK hP 0 rfl rfl 1 (by decide) (hts _ tw_83) (fun _ h9 => h9) rfl d_Pro_begin_8 ?_
  refine lv_iload_n hx hb d_Pro_begin_11 rfl (lv_at hl 1 rfl) ?_
  refine lv_iload_n hx hb d_Pro_begin_12 rfl (lv_at hl 3 rfl) ?_
  refine k_astN (q0 := 2) (t0 := 0) hx hb hK hP hD hS rfl rfl (by omega) (by decide) d_Pro_begin_13 (fun H locs hP hD hS => ?_)
  obtain ⟨σ2, eσ2⟩ : ∃ z : kS, z = (st σ1 5 q pv) := ⟨_, rfl⟩
  have hP : va_P D vwCl (wPr ad cI r σ2) H := by rw [eσ2]; exact hP
  have hD : va_D (kA s0) (wPr ad cI r σ2) := by rw [eσ2]; exact hD
  refine lv_aload_n hx hb d_Pro_begin_14 rfl (lv_at hl 0 rfl) ?_
  refine va_get (D := D) (ci := nPro) (v := .ref (ad 11)) (C := R_Pro) (T := T_Pro) (N := 6) hx hb hts i_Pro hown hK hP 0 rfl rfl 2 (by decide) (hts _ tw_84) (fun _ h9 => h9) rfl d_Pro_begin_15 ?_
  refine lv_iload_n hx hb d_Pro_begin_18 rfl (lv_at hl 1 rfl) ?_
  refine lv_iload hx hb d_Pro_begin_19 (lv_at hl 4 rfl) ?_
  refine k_astP (q0 := 3) (t0 := 0) hx hb hK hP hD hS rfl rfl (by omega) (by decide) d_Pro_begin_21 (fun H locs hP hD hS => ?_)
  obtain ⟨σ3, eσ3⟩ : ∃ z : kS, z = (st σ2 6 q rv) := ⟨_, rfl⟩
  have hP : va_P D vwCl (wPr ad cI r σ3) H := by rw [eσ3]; exact hP
  have hD : va_D (kA s0) (wPr ad cI r σ3) := by rw [eσ3]; exact hD
  refine lv_iconst (v := (nI 0)) hx hb d_Pro_begin_22 (by decide) ?_
  refine lv_istore (lv' := [(5, .int (nI 0)), (0, .ref (ad 2)), (1, .int (nI q)), (2, .int (nI sv)), (3, .int (nI pv)), (4, .int (pI rv))]) hx hb d_Pro_begin_23 hl (by decide) rfl (fun ls hl => ?_)
  refine lv_iload hx hb d_Pro_begin_25 (lv_at hl 0 rfl) ?_
  refine lv_iconst (v := (nI 4)) hx hb d_Pro_begin_27 (by decide) ?_
  refine k_geN (tgt := 45) (by decide) (by decide) hx hb d_Pro_begin_28 (by decide) (fun h9 => absurd h9 (by decide)) (fun _ => ?_)
  refine lv_aload_n hx hb d_Pro_begin_31 rfl (lv_at hl 1 rfl) ?_
  refine lv_iload_n hx hb d_Pro_begin_32 rfl (lv_at hl 2 rfl) ?_
  refine lv_iload hx hb d_Pro_begin_33 (lv_at hl 0 rfl) ?_
  refine lv_iconst (v := (pI 0)) hx hb d_Pro_begin_35 (by decide) ?_
  refine k_callW (k_atV (As := [.int (nI q), .int (nI 0), .int (pI 0)]) hx hb hown hE.1 (K0.w tw_81) (hts _ tw_78) (hts _ tw_79) (hts _ tw_80) (hts _ tw_3) (by decide) np_Pro_setPipe (va_recv hK hP (ci := nPro) (q0 := 0) rfl rfl) rfl d_Pro_begin_36) (c_Pro_setPipeP K0 ad r σ3 q 0 0 (by omega) (by omega)) (hl.1.trans hml.symm) (Nat.le_of_ble_eq_true rfl) ⟨Nat.le_of_ble_eq_true rfl, Nat.le_of_ble_eq_true rfl, Nat.le_of_ble_eq_true rfl, Nat.le_of_ble_eq_true rfl⟩ (fun U hU hW => ⟨hE.go hW hU hS, by rw [hU]; exact hP, hD⟩) hS (fun H locs hP hD hS => ?_)
  obtain ⟨σ4, eσ4⟩ : ∃ z : kS, z = (st σ3 7 (q * 4 + 0) 0) := ⟨_, rfl⟩
  have hP : va_P D vwCl (wPr ad cI r σ4) H := by rw [eσ4]; exact hP
  have hD : va_D (kA s0) (wPr ad cI r σ4) := by rw [eσ4]; exact hD
  refine lv_iinc (v := (nI 1)) (lv' := [(5, .int (nI 1)), (0, .ref (ad 2)), (1, .int (nI q)), (2, .int (nI sv)), (3, .int (nI pv)), (4, .int (pI rv))]) hx hb d_Pro_begin_39 hl (k := 0) rfl (nI_1 _) (by decide) rfl (fun ls hl => ?_)
  refine lv_goto (tgt := 25) hx hb d_Pro_begin_42 (by decide) ?_
  refine lv_iload hx hb d_Pro_begin_25 (lv_at hl 0 rfl) ?_
  refine lv_iconst (v := (nI 4)) hx hb d_Pro_begin_27 (by decide) ?_
  refine k_geN (tgt := 45) (by decide) (by decide) hx hb d_Pro_begin_28 (by decide) (fun h9 => absurd h9 (by decide)) (fun _ => ?_)
  refine lv_aload_n hx hb d_Pro_begin_31 rfl (lv_at hl 1 rfl) ?_
  refine lv_iload_n hx hb d_Pro_begin_32 rfl (lv_at hl 2 rfl) ?_
  refine lv_iload hx hb d_Pro_begin_33 (lv_at hl 0 rfl) ?_
  refine lv_iconst (v := (pI 0)) hx hb d_Pro_begin_35 (by decide) ?_
  refine k_callW (k_atV (As := [.int (nI q), .int (nI 1), .int (pI 0)]) hx hb hown hE.1 (K0.w tw_81) (hts _ tw_78) (hts _ tw_79) (hts _ tw_80) (hts _ tw_3) (by decide) np_Pro_setPipe (va_recv hK hP (ci := nPro) (q0 := 0) rfl rfl) rfl d_Pro_begin_36) (c_Pro_setPipeP K0 ad r σ4 q 1 0 (by omega) (by omega)) (hl.1.trans hml.symm) (Nat.le_of_ble_eq_true rfl) ⟨Nat.le_of_ble_eq_true rfl, Nat.le_of_ble_eq_true rfl, Nat.le_of_ble_eq_true rfl, Nat.le_of_ble_eq_true rfl⟩ (fun U hU hW => ⟨hE.go hW hU hS, by rw [hU]; exact hP, hD⟩) hS (fun H locs hP hD hS => ?_)
  obtain ⟨σ5, eσ5⟩ : ∃ z : kS, z = (st σ4 7 (q * 4 + 1) 0) := ⟨_, rfl⟩
  have hP : va_P D vwCl (wPr ad cI r σ5) H := by rw [eσ5]; exact hP
  have hD : va_D (kA s0) (wPr ad cI r σ5) := by rw [eσ5]; exact hD
  refine lv_iinc (v := (nI 2)) (lv' := [(5, .int (nI 2)), (0, .ref (ad 2)), (1, .int (nI q)), (2, .int (nI sv)), (3, .int (nI pv)), (4, .int (pI rv))]) hx hb d_Pro_begin_39 hl (k := 0) rfl (nI_1 _) (by decide) rfl (fun ls hl => ?_)
  refine lv_goto (tgt := 25) hx hb d_Pro_begin_42 (by decide) ?_
  refine lv_iload hx hb d_Pro_begin_25 (lv_at hl 0 rfl) ?_
  refine lv_iconst (v := (nI 4)) hx hb d_Pro_begin_27 (by decide) ?_
  refine k_geN (tgt := 45) (by decide) (by decide) hx hb d_Pro_begin_28 (by decide) (fun h9 => absurd h9 (by decide)) (fun _ => ?_)
  refine lv_aload_n hx hb d_Pro_begin_31 rfl (lv_at hl 1 rfl) ?_
  refine lv_iload_n hx hb d_Pro_begin_32 rfl (lv_at hl 2 rfl) ?_
  refine lv_iload hx hb d_Pro_begin_33 (lv_at hl 0 rfl) ?_
  refine lv_iconst (v := (pI 0)) hx hb d_Pro_begin_35 (by decide) ?_
  refine k_callW (k_atV (As := [.int (nI q), .int (nI 2), .int (pI 0)]) hx hb hown hE.1 (K0.w tw_81) (hts _ tw_78) (hts _ tw_79) (hts _ tw_80) (hts _ tw_3) (by decide) np_Pro_setPipe (va_recv hK hP (ci := nPro) (q0 := 0) rfl rfl) rfl d_Pro_begin_36) (c_Pro_setPipeP K0 ad r σ5 q 2 0 (by omega) (by omega)) (hl.1.trans hml.symm) (Nat.le_of_ble_eq_true rfl) ⟨Nat.le_of_ble_eq_true rfl, Nat.le_of_ble_eq_true rfl, Nat.le_of_ble_eq_true rfl, Nat.le_of_ble_eq_true rfl⟩ (fun U hU hW => ⟨hE.go hW hU hS, by rw [hU]; exact hP, hD⟩) hS (fun H locs hP hD hS => ?_)
  obtain ⟨σ6, eσ6⟩ : ∃ z : kS, z = (st σ5 7 (q * 4 + 2) 0) := ⟨_, rfl⟩
  have hP : va_P D vwCl (wPr ad cI r σ6) H := by rw [eσ6]; exact hP
  have hD : va_D (kA s0) (wPr ad cI r σ6) := by rw [eσ6]; exact hD
  refine lv_iinc (v := (nI 3)) (lv' := [(5, .int (nI 3)), (0, .ref (ad 2)), (1, .int (nI q)), (2, .int (nI sv)), (3, .int (nI pv)), (4, .int (pI rv))]) hx hb d_Pro_begin_39 hl (k := 0) rfl (nI_1 _) (by decide) rfl (fun ls hl => ?_)
  refine lv_goto (tgt := 25) hx hb d_Pro_begin_42 (by decide) ?_
  refine lv_iload hx hb d_Pro_begin_25 (lv_at hl 0 rfl) ?_
  refine lv_iconst (v := (nI 4)) hx hb d_Pro_begin_27 (by decide) ?_
  refine k_geN (tgt := 45) (by decide) (by decide) hx hb d_Pro_begin_28 (by decide) (fun h9 => absurd h9 (by decide)) (fun _ => ?_)
  refine lv_aload_n hx hb d_Pro_begin_31 rfl (lv_at hl 1 rfl) ?_
  refine lv_iload_n hx hb d_Pro_begin_32 rfl (lv_at hl 2 rfl) ?_
  refine lv_iload hx hb d_Pro_begin_33 (lv_at hl 0 rfl) ?_
  refine lv_iconst (v := (pI 0)) hx hb d_Pro_begin_35 (by decide) ?_
  refine k_callW (k_atV (As := [.int (nI q), .int (nI 3), .int (pI 0)]) hx hb hown hE.1 (K0.w tw_81) (hts _ tw_78) (hts _ tw_79) (hts _ tw_80) (hts _ tw_3) (by decide) np_Pro_setPipe (va_recv hK hP (ci := nPro) (q0 := 0) rfl rfl) rfl d_Pro_begin_36) (c_Pro_setPipeP K0 ad r σ6 q 3 0 (by omega) (by omega)) (hl.1.trans hml.symm) (Nat.le_of_ble_eq_true rfl) ⟨Nat.le_of_ble_eq_true rfl, Nat.le_of_ble_eq_true rfl, Nat.le_of_ble_eq_true rfl, Nat.le_of_ble_eq_true rfl⟩ (fun U hU hW => ⟨hE.go hW hU hS, by rw [hU]; exact hP, hD⟩) hS (fun H locs hP hD hS => ?_)
  obtain ⟨σ7, eσ7⟩ : ∃ z : kS, z = (st σ6 7 (q * 4 + 3) 0) := ⟨_, rfl⟩
  have hP : va_P D vwCl (wPr ad cI r σ7) H := by rw [eσ7]; exact hP
  have hD : va_D (kA s0) (wPr ad cI r σ7) := by rw [eσ7]; exact hD
  refine lv_iinc (v := (nI 4)) (lv' := [(5, .int (nI 4)), (0, .ref (ad 2)), (1, .int (nI q)), (2, .int (nI sv)), (3, .int (nI pv)), (4, .int (pI rv))]) hx hb d_Pro_begin_39 hl (k := 0) rfl (nI_1 _) (by decide) rfl (fun ls hl => ?_)
  refine lv_goto (tgt := 25) hx hb d_Pro_begin_42 (by decide) ?_
  refine lv_iload hx hb d_Pro_begin_25 (lv_at hl 0 rfl) ?_
  refine lv_iconst (v := (nI 4)) hx hb d_Pro_begin_27 (by decide) ?_
  refine k_geN (tgt := 45) (by decide) (by decide) hx hb d_Pro_begin_28 (by decide) (fun _ => ?_) (fun h9 => absurd h9 (by decide))
  exact k_retWV hx hb hr hlocks d_Pro_begin_45 hP hD hS (by subst eσ7 eσ6 eσ5 eσ4 eσ3 eσ2 eσ1; rfl)
set_option maxHeartbeats 4000000 in
set_option maxRecDepth 100000 in
theorem c_Pro_endP {l : Launch} {s0 : State} {a0 : Array Value} {D : va_G} {cI cL : ClassId} (K0 : k0 l s0 a0 D cI cL) (ad : Nat → Nat) (r : va_W) (σ : kS) (q : Nat) (hq : q < 6) : kMet l y_Pro_end (Cond.code y_Pro_end b_Pro_end 2 none) (rmL 2) [.ref (ad 2), .int (nI q)] (kPre D vwCl s0 (wPr ad cI r) σ) (.ok (none, m_begin σ q 0 0 0)) (kBw D vwCl s0 (wPr ad cI r)) := by
  refine k_of (by decide) (Nat.le_of_ble_eq_true rfl) ?_
  intro p e9 s m below meth c hx hb hr hlocks hown hml hex hpre ls hl
  obtain ⟨hE, hP, hD⟩ := hpre
  obtain ⟨hts, hK⟩ := K0.at (args := ([.ref (ad 2), .int (nI q)] : List Value).toArray) hE
  have hl : lv_has ls 2 [(0, .ref (ad 2)), (1, .int (nI q))] := hl
  have hS : va_S (kA s0) s.heap s.heap [] := va_S.rf
  refine lv_aload_n hx hb d_Pro_end_0 rfl (lv_at hl 0 rfl) ?_
  refine lv_iload_n hx hb d_Pro_end_1 rfl (lv_at hl 1 rfl) ?_
  refine lv_iconst (v := (nI 0)) hx hb d_Pro_end_2 (by decide) ?_
  refine lv_iconst (v := (nI 0)) hx hb d_Pro_end_3 (by decide) ?_
  refine lv_iconst (v := (pI 0)) hx hb d_Pro_end_4 (by decide) ?_
  refine k_callW (k_atV (As := [.int (nI q), .int (nI 0), .int (nI 0), .int (pI 0)]) hx hb hown hE.1 (K0.w tw_77) (hts _ tw_74) (hts _ tw_75) (hts _ tw_76) (hts _ tw_3) (by decide) np_Pro_begin (va_recv hK hP (ci := nPro) (q0 := 0) rfl rfl) rfl d_Pro_end_5) (c_Pro_beginP K0 ad r σ q 0 0 0 (by omega)) (hl.1.trans hml.symm) (Nat.le_of_ble_eq_true rfl) ⟨Nat.le_of_ble_eq_true rfl, Nat.le_of_ble_eq_true rfl, Nat.le_of_ble_eq_true rfl, Nat.le_of_ble_eq_true rfl⟩ (fun U hU hW => ⟨hE.go hW hU hS, by rw [hU]; exact hP, hD⟩) hS (fun H locs hP hD hS => ?_)
  obtain ⟨σ1, eσ1⟩ : ∃ z : kS, z = (m_begin σ q 0 0 0) := ⟨_, rfl⟩
  have hP : va_P D vwCl (wPr ad cI r σ1) H := by rw [eσ1]; exact hP
  have hD : va_D (kA s0) (wPr ad cI r σ1) := by rw [eσ1]; exact hD
  exact k_retWV hx hb hr hlocks d_Pro_end_8 hP hD hS (by subst eσ1; rfl)
