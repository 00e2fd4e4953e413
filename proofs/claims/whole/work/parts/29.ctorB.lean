/-! Constructors of the kernel and the reference. Laid by a program of mine (wip/gen/ctors.py). -/
set_option maxHeartbeats 4000000 in
set_option maxRecDepth 100000 in
theorem c_FK_init {l : Launch} {s0 : State} {a0 : Array Value} {D : va_G} {cI cL : ClassId} (K0 : k0 l s0 a0 D cI cL) (hcI0 : s0.vm.findClass ("[" ++ (FieldType.int).toString) = some cI) (hnest : (Cond.methodLinkNest R_FK 25 y_Pip_init R_FK).before a0 s0 = true) (a : Nat) : kMet l y_FK_init (Cond.code y_FK_init b_FK_init 1 none) { frames := 5, cells := 17, slots := 368, locals := 150 } [.ref a] (fun U => kEnv s0 U ∧ va_P D vwCl ((a, .inr (nFK, [.null, .null, .null, .int 0])) :: []) U.heap ∧ va_D (kA s0) ((a, .inr (nFK, [.null, .null, .null, .int 0])) :: [])) (.ok (none, ())) (kBm D vwCl s0 (fun ad => ad 0 = a) (fun ad => wC ad cI [] iniS) 16 362) := by
  refine k_ofI (by decide) (Nat.le_of_ble_eq_true rfl) ?_
  intro p e9 s m below meth c hx hb hr hlocks hown hml hin hpre ls hl
  obtain ⟨hE, hP, hD⟩ := hpre
  obtain ⟨hts, hK⟩ := K0.at (args := ([.ref a] : List Value).toArray) hE
  have hl : lv_has ls 1 [(0, .ref a)] := hl
  have hS : va_S (kA s0) s.heap s.heap [] := va_S.rf
  have hA : ∀ q, s.heap.size ≤ q → kA s0 q := fun q hq => Nat.le_trans hE.2.1 hq
  have hcI : s.vm.findClass ("[" ++ (FieldType.int).toString) = some cI := by rw [hE.1.alike.findClass]; exact hcI0
  refine lv_aload_n hx hb d_FK_init_0 rfl (lv_at hl 0 rfl) ?_
  refine W.objInit hx hb hown (hts _ tw_18) (hts _ tw_19) (hts _ tw_20) rfl (by rw [hml]; exact hl.1) rfl d_FK_init_1 (Nat.le_of_ble_eq_true rfl) (Nat.le_of_ble_eq_true rfl) ?_
  have hnest1 : (Cond.methodLinkNest R_FK 25 y_Pip_init R_FK).before ([.ref a] : List Value).toArray s = true := k_nest hE.1 hnest
  refine lv_aload_n hx hb d_FK_init_4 rfl (lv_at hl 0 rfl) ?_
  refine va_new (ci := nMem) (fs := [.null, .null, .null, .null, .null]) (C := R_Mem) (T := T_Mem) (N := 5) hx hb hts i_Mem ty_Mem ty_Mem_ok hown (hts _ tw_21) (hts _ tw_22) (hts _ tw_2) hK hP hD hS hA rfl (fun j hj => by rcases (show j = 0 ∨ j = 1 ∨ j = 2 ∨ j = 3 ∨ j = 4 by omega) with rfl | rfl | rfl | rfl | rfl <;> rfl) (Nat.le_of_ble_eq_true rfl) (Nat.le_of_ble_eq_true rfl) d_FK_init_5 (fun qm H hP hD hS => ?_)
  have hP : va_P D vwCl ((qm, .inr (nMem, [.null, .null, .null, .null, .null])) :: [(a, .inr (nFK, [.null, .null, .null, .int 0]))]) H := hP.sub [1, 0] rfl
  have hD : va_D (kA s0) ((qm, .inr (nMem, [.null, .null, .null, .null, .null])) :: [(a, .inr (nFK, [.null, .null, .null, .int 0]))]) := hD.sub [1, 0] rfl rfl
  refine lv_dup hx hb d_FK_init_8 rfl ?_
  refine k_callM (k_atI (As := []) hx hb hown hE.1 (K0.w tw_25) (hts _ tw_23) (hts _ tw_24) (hts _ tw_2) rfl (by decide) np_Mem_init rfl d_FK_init_9) (c_Mem_init K0 hcI0 ([(a, .inr (nFK, [.null, .null, .null, .int 0]))]) qm) (hl.1.trans hml.symm) (Nat.le_of_ble_eq_true rfl) ⟨Nat.le_of_ble_eq_true rfl, Nat.le_of_ble_eq_true rfl, Nat.le_of_ble_eq_true rfl, Nat.le_of_ble_eq_true rfl⟩ (fun U hU hW => ⟨hE.go hW hU hS, by rw [hU]; exact hP, hD⟩) hS (fun ad1 H locs hΦ hPn hDn hSn => ?_)
  subst hΦ
  have hP := hPn
  have hD := hDn
  have hS := hSn
  clear hPn hDn hSn
  refine va_putF (D := D) (fs := [.null, .null, .null, .int 0]) (ci := nFK) (v := .ref (ad1 1)) (ty := .object "FiniteKernel$Memory") (C := R_FK) (T := T_FK) (N := 4) hx hb hts i_FK ty_FK ty_FK_ok nm_FK hown hK hP hD hS 6 rfl rfl 0 (by decide) (hts _ tw_116) (fun _ h9 => h9) rfl hin rfl (by decide +kernel) rfl rfl (Nat.le_of_ble_eq_true rfl) d_FK_init_12 (fun H locs hP hD hS => ?_)
  have hP : va_P D vwCl (wMr ad1 cI [(a, .inr (nFK, [.ref (ad1 1), .null, .null, .int 0]))] zS) H := hP
  have hD : va_D (kA s0) (wMr ad1 cI [(a, .inr (nFK, [.ref (ad1 1), .null, .null, .int 0]))] zS) := hD
  refine lv_aload_n hx hb d_FK_init_15 rfl (lv_at hl 0 rfl) ?_
  refine va_new (ci := nPro) (fs := [.null, .null, .null, .null, .null, .null]) (C := R_Pro) (T := T_Pro) (N := 6) hx hb hts i_Pro ty_Pro ty_Pro_ok hown (hts _ tw_64) (hts _ tw_65) (hts _ tw_3) hK hP hD hS hA rfl (fun j hj => by rcases (show j = 0 ∨ j = 1 ∨ j = 2 ∨ j = 3 ∨ j = 4 ∨ j = 5 by omega) with rfl | rfl | rfl | rfl | rfl | rfl <;> rfl) (Nat.le_of_ble_eq_true rfl) (Nat.le_of_ble_eq_true rfl) d_FK_init_16 (fun qp H hP hD hS => ?_)
  have hP : va_P D vwCl ((qp, .inr (nPro, [.null, .null, .null, .null, .null, .null])) :: wMr ad1 cI [(a, .inr (nFK, [.ref (ad1 1), .null, .null, .int 0]))] zS) H := hP.sub [7, 0, 1, 2, 3, 4, 5, 6] rfl
  have hD : va_D (kA s0) ((qp, .inr (nPro, [.null, .null, .null, .null, .null, .null])) :: wMr ad1 cI [(a, .inr (nFK, [.ref (ad1 1), .null, .null, .int 0]))] zS) := hD.sub [7, 0, 1, 2, 3, 4, 5, 6] rfl rfl
  refine lv_dup hx hb d_FK_init_19 rfl ?_
  refine k_callM (k_atI (As := []) hx hb hown hE.1 (K0.w tw_68) (hts _ tw_66) (hts _ tw_67) (hts _ tw_3) rfl (by decide) np_Pro_init rfl d_FK_init_20) (c_Pro_init K0 hcI0 (wMr ad1 cI [(a, .inr (nFK, [.ref (ad1 1), .null, .null, .int 0]))] zS) qp) (hl.1.trans hml.symm) (Nat.le_of_ble_eq_true rfl) ⟨Nat.le_of_ble_eq_true rfl, Nat.le_of_ble_eq_true rfl, Nat.le_of_ble_eq_true rfl, Nat.le_of_ble_eq_true rfl⟩ (fun U hU hW => ⟨hE.go hW hU hS, by rw [hU]; exact hP, hD⟩) hS (fun ad2 H locs hΦ hPn hDn hSn => ?_)
  subst hΦ
  have hP := hPn
  have hD := hDn
  have hS := hSn
  clear hPn hDn hSn
  refine va_putF (D := D) (fs := [.ref (ad1 1), .null, .null, .int 0]) (ci := nFK) (v := .ref (ad2 2)) (ty := .object "FiniteKernel$Processes") (C := R_FK) (T := T_FK) (N := 4) hx hb hts i_FK ty_FK ty_FK_ok nm_FK hown hK hP hD hS 13 rfl rfl 1 (by decide) (hts _ tw_117) (fun _ h9 => h9) rfl hin rfl (by decide +kernel) rfl rfl (Nat.le_of_ble_eq_true rfl) d_FK_init_23 (fun H locs hP hD hS => ?_)
  have hP : va_P D vwCl (wPr ad2 cI (wMr ad1 cI [(a, .inr (nFK, [.ref (ad1 1), .ref (ad2 2), .null, .int 0]))] zS) zS) H := hP
  have hD : va_D (kA s0) (wPr ad2 cI (wMr ad1 cI [(a, .inr (nFK, [.ref (ad1 1), .ref (ad2 2), .null, .int 0]))] zS) zS) := hD
  refine lv_aload_n hx hb d_FK_init_26 rfl (lv_at hl 0 rfl) ?_
  refine va_new (ci := nPip) (fs := [.null, .null]) (C := R_Pip) (T := T_Pip) (N := 2) hx hb hts i_Pip ty_Pip ty_Pip_ok hown (hts _ tw_101) (hts _ tw_102) (hts _ tw_4) hK hP hD hS hA rfl (fun j hj => by rcases (show j = 0 ∨ j = 1 by omega) with rfl | rfl <;> rfl) (Nat.le_of_ble_eq_true rfl) (Nat.le_of_ble_eq_true rfl) d_FK_init_27 (fun qi H hP hD hS => ?_)
  have hP : va_P D vwCl ((qi, .inr (nPip, [.null, .null])) :: wPr ad2 cI (wMr ad1 cI [(a, .inr (nFK, [.ref (ad1 1), .ref (ad2 2), .null, .int 0]))] zS) zS) H := hP.sub [14, 0, 1, 2, 3, 4, 5, 6, 7, 8, 9, 10, 11, 12, 13] rfl
  have hD : va_D (kA s0) ((qi, .inr (nPip, [.null, .null])) :: wPr ad2 cI (wMr ad1 cI [(a, .inr (nFK, [.ref (ad1 1), .ref (ad2 2), .null, .int 0]))] zS) zS) := hD.sub [14, 0, 1, 2, 3, 4, 5, 6, 7, 8, 9, 10, 11, 12, 13] rfl rfl
  refine lv_dup hx hb d_FK_init_30 rfl ?_
  refine k_callM (k_atIN (As := []) hx hb hown hE.1 (K0.w tw_105) hnest1 (hts _ tw_104) (hts _ tw_4) rfl (by decide) np_Pip_init rfl d_FK_init_31) (c_Pip_init K0 hcI0 (wPr ad2 cI (wMr ad1 cI [(a, .inr (nFK, [.ref (ad1 1), .ref (ad2 2), .null, .int 0]))] zS) zS) qi) (hl.1.trans hml.symm) (Nat.le_of_ble_eq_true rfl) ⟨Nat.le_of_ble_eq_true rfl, Nat.le_of_ble_eq_true rfl, Nat.le_of_ble_eq_true rfl, Nat.le_of_ble_eq_true rfl⟩ (fun U hU hW => ⟨hE.go hW hU hS, by rw [hU]; exact hP, hD⟩) hS (fun ad3 H locs hΦ hPn hDn hSn => ?_)
  subst hΦ
  have hP := hPn
  have hD := hDn
  have hS := hSn
  clear hPn hDn hSn
  refine va_putF (D := D) (fs := [.ref (ad1 1), .ref (ad2 2), .null, .int 0]) (ci := nFK) (v := .ref (ad3 3)) (ty := .object "FiniteKernel$Pipes") (C := R_FK) (T := T_FK) (N := 4) hx hb hts i_FK ty_FK ty_FK_ok nm_FK hown hK hP hD hS 16 rfl rfl 2 (by decide) (hts _ tw_118) (fun _ h9 => h9) rfl hin rfl (by decide +kernel) rfl rfl (Nat.le_of_ble_eq_true rfl) d_FK_init_34 (fun H locs hP hD hS => ?_)
  have hP : va_P D vwCl (wIr ad3 cI (wPr ad2 cI (wMr ad1 cI [(a, .inr (nFK, [.ref (ad1 1), .ref (ad2 2), .ref (ad3 3), .int 0]))] zS) zS) zS) H := hP
  have hD : va_D (kA s0) (wIr ad3 cI (wPr ad2 cI (wMr ad1 cI [(a, .inr (nFK, [.ref (ad1 1), .ref (ad2 2), .ref (ad3 3), .int 0]))] zS) zS) zS) := hD
  refine lv_aload_n hx hb d_FK_init_37 rfl (lv_at hl 0 rfl) ?_
  refine lv_iconst (v := nI 1) hx hb d_FK_init_38 (by decide) ?_
  refine va_put (D := D) (fs := [.ref (ad1 1), .ref (ad2 2), .ref (ad3 3), .int 0]) (ci := nFK) (v := .int (nI 1)) (ty := .int) (C := R_FK) (T := T_FK) (N := 4) hx hb hts i_FK ty_FK ty_FK_ok nm_FK hown hK hP hD hS 16 rfl rfl 3 (by decide) (hts _ tw_119) (fun _ h9 => h9) rfl (by decide +kernel) rfl rfl (Nat.le_of_ble_eq_true rfl) d_FK_init_39 (fun H locs hP hD hS => ?_)
  have hP : va_P D vwCl (wIr ad3 cI (wPr ad2 cI (wMr ad1 cI [(a, .inr (nFK, [.ref (ad1 1), .ref (ad2 2), .ref (ad3 3), .int (nI 1)]))] zS) zS) zS) H := hP
  have hD : va_D (kA s0) (wIr ad3 cI (wPr ad2 cI (wMr ad1 cI [(a, .inr (nFK, [.ref (ad1 1), .ref (ad2 2), .ref (ad3 3), .int (nI 1)]))] zS) zS) zS) := hD
  obtain ⟨ad, had⟩ : ∃ f : Nat → Nat, f = (fun k => match k with | 0 => a | 1 => ad1 1 | 4 => ad1 4 | 5 => ad1 5 | 6 => ad1 6 | 7 => ad1 7 | 8 => ad1 8 | 2 => ad2 2 | 9 => ad2 9 | 10 => ad2 10 | 11 => ad2 11 | 12 => ad2 12 | 13 => ad2 13 | 14 => ad2 14 | k => ad3 k) := ⟨_, rfl⟩
  have hP : va_P D vwCl (wC ad cI [] (st zS 11 0 1)) H := by rw [had]; exact hP.sub [16, 10, 3, 0, 11, 12, 13, 14, 15, 4, 5, 6, 7, 8, 9, 1, 2] rfl
  have hD : va_D (kA s0) (wC ad cI [] (st zS 11 0 1)) := by rw [had]; exact hD.sub [16, 10, 3, 0, 11, 12, 13, 14, 15, 4, 5, 6, 7, 8, 9, 1, 2] rfl rfl
  have ha0 : ad 0 = a := by rw [had]; rfl
  clear had
  have hl : lv_has ls 1 [(0, .ref (ad 0))] := by rw [ha0]; exact hl
  refine lv_aload_n hx hb d_FK_init_42 rfl (lv_at hl 0 rfl) ?_
  refine va_get (D := D) (ci := nFK) (v := .ref (ad 1)) (C := R_FK) (T := T_FK) (N := 4) hx hb hts i_FK hown hK hP 0 rfl rfl 0 (by decide) (hts _ tw_116) (fun _ h9 => h9) rfl d_FK_init_43 ?_
  refine lv_iconst (v := nI 0) hx hb d_FK_init_46 (by decide) ?_
  refine lv_iconst (v := nI 1) hx hb d_FK_init_47 (by decide) ?_
  refine lv_iconst (v := nI 1) hx hb d_FK_init_48 (by decide) ?_
  refine k_callW (k_atV (As := [.int (nI 0), .int (nI 1), .int (nI 1)]) hx hb hown hE.1 (K0.w tw_34) (hts _ tw_114) (hts _ tw_32) (hts _ tw_33) (hts _ tw_2) (by decide) np_Mem_become (va_recv hK hP (ci := nMem) (q0 := 1) rfl rfl) rfl d_FK_init_49) (c_Mem_become K0 ad [] (st zS 11 0 1) 0 1 1 (by omega)) (hl.1.trans hml.symm) (Nat.le_of_ble_eq_true rfl) ⟨Nat.le_of_ble_eq_true rfl, Nat.le_of_ble_eq_true rfl, Nat.le_of_ble_eq_true rfl, Nat.le_of_ble_eq_true rfl⟩ (fun U hU hW => ⟨hE.go hW hU hS, by rw [hU]; exact hP, hD⟩) hS (fun H locs hP hD hS => ?_)
  refine lv_aload_n hx hb d_FK_init_52 rfl (lv_at hl 0 rfl) ?_
  refine va_get (D := D) (ci := nFK) (v := .ref (ad 2)) (C := R_FK) (T := T_FK) (N := 4) hx hb hts i_FK hown hK hP 0 rfl rfl 1 (by decide) (hts _ tw_117) (fun _ h9 => h9) rfl d_FK_init_53 ?_
  refine lv_iconst (v := nI 1) hx hb d_FK_init_56 (by decide) ?_
  refine lv_iconst (v := nI 3) hx hb d_FK_init_57 (by decide) ?_
  refine lv_iconst (v := nI 0) hx hb d_FK_init_58 (by decide) ?_
  refine lv_iconst (v := nI 0) hx hb d_FK_init_59 (by decide) ?_
  refine k_st (st' := [.int (pI (0 + 1)), .int (nI 0), .int (nI 3), .int (nI 1), .ref (ad 2)]) (by show ([.int (nI 0), .int (nI 0), .int (nI 3), .int (nI 1), .ref (ad 2)] : List Value) = _; rw [pI_succ]) ?_
  refine k_callW (k_atV (As := [.int (nI 1), .int (nI 3), .int (nI 0), .int (pI (0 + 1))]) hx hb hown hE.1 (K0.w tw_77) (hts _ tw_115) (hts _ tw_75) (hts _ tw_76) (hts _ tw_3) (by decide) np_Pro_begin (va_recv hK hP (ci := nPro) (q0 := 2) rfl rfl) rfl d_FK_init_60) (c_Pro_begin K0 ad [] (m_become (st zS 11 0 1) 0 1 1) 1 3 0 (0 + 1) (by omega)) (hl.1.trans hml.symm) (Nat.le_of_ble_eq_true rfl) ⟨Nat.le_of_ble_eq_true rfl, Nat.le_of_ble_eq_true rfl, Nat.le_of_ble_eq_true rfl, Nat.le_of_ble_eq_true rfl⟩ (fun U hU hW => ⟨hE.go hW hU hS, by rw [hU]; exact hP, hD⟩) hS (fun H locs hP hD hS => ?_)
  exact k_retM (ad := ad) hx hb hr hlocks d_FK_init_63 ha0 hP hD hS
set_option maxHeartbeats 4000000 in
set_option maxRecDepth 100000 in
theorem c_Mod_init {l : Launch} {s0 : State} {a0 : Array Value} {D : va_G} {cI cL : ClassId} (K0 : k0 l s0 a0 D cI cL) (hcI0 : s0.vm.findClass ("[" ++ (FieldType.int).toString) = some cI) (r : va_W) (a : Nat) : kMet l y_Mod_init (Cond.code y_Mod_init b_Mod_init 2 none) { frames := 2, cells := 12, slots := 343, locals := 60 } [.ref a] (fun U => kEnv s0 U ∧ va_P D vwCl ((a, .inr (nMod, [.int 0, .null, .null, .null, .null, .null, .null, .null, .null, .null, .null, .null, .null, .int 0, .int 0])) :: r) U.heap ∧ va_D (kA s0) ((a, .inr (nMod, [.int 0, .null, .null, .null, .null, .null, .null, .null, .null, .null, .null, .null, .null, .int 0, .int 0])) :: r)) (.ok (none, ())) (kBm D vwCl s0 (fun ad => ad 17 = a) (fun ad => wRr ad cI r iniS) 12 343) := by
  refine k_ofI (by decide) (Nat.le_of_ble_eq_true rfl) ?_
  intro p e9 s m below meth c hx hb hr hlocks hown hml hin hpre ls hl
  obtain ⟨hE, hP, hD⟩ := hpre
  obtain ⟨hts, hK⟩ := K0.at (args := ([.ref a] : List Value).toArray) hE
  have hl : lv_has ls 2 [(0, .ref a)] := hl
  have hS : va_S (kA s0) s.heap s.heap [] := va_S.rf
  have hA : ∀ q, s.heap.size ≤ q → kA s0 q := fun q hq => Nat.le_trans hE.2.1 hq
  have hcI : s.vm.findClass ("[" ++ (FieldType.int).toString) = some cI := by rw [hE.1.alike.findClass]; exact hcI0
  refine lv_aload_n hx hb d_Mod_init_0 rfl (lv_at hl 0 rfl) ?_
  refine W.objInit hx hb hown (hts _ tw_654) (hts _ tw_19) (hts _ tw_20) rfl (by rw [hml]; exact hl.1) rfl d_Mod_init_1 (Nat.le_of_ble_eq_true rfl) (Nat.le_of_ble_eq_true rfl) ?_
  refine lv_aload_n hx hb d_Mod_init_4 rfl (lv_at hl 0 rfl) ?_
  refine lv_bipush (v := nI 6) hx hb d_Mod_init_5 (by decide) ?_
  refine k_newI hx hb (hts _ tw_63) hcI hP hD hS hA (by decide) (Nat.le_of_ble_eq_true rfl) (Nat.le_of_ble_eq_true rfl) d_Mod_init_7 (fun q1 H hP hD hS => ?_)
  have hD : va_D (kA s0) ((a, .inr (nMod, [.int 0, .null, .null, .null, .null, .null, .null, .null, .null, .null, .null, .null, .null, .int 0, .int 0])) :: (q1, .inl (cI, 6, .inl (fun _ => 0))) :: r) := k_pD (List.Perm.cons _ (List.perm_append_singleton _ _)) hD
  have hP : va_P D vwCl ((a, .inr (nMod, [.int 0, .null, .null, .null, .null, .null, .null, .null, .null, .null, .null, .null, .null, .int 0, .int 0])) :: (q1, .inl (cI, 6, .inl (fun _ => 0))) :: r) H := k_pP (List.Perm.cons _ (List.perm_append_singleton _ _)) hP
  refine va_putF (D := D) (ci := nMod) (v := .ref q1) (ty := .array .int) (C := R_Mod) (T := T_Mod) (N := 15) hx hb hts i_Mod ty_Mod ty_Mod_ok nm_Mod hown hK hP hD hS 0 rfl rfl 1 (by decide) (hts _ tw_656) (fun _ h9 => h9) rfl hin rfl (by decide +kernel) rfl rfl (Nat.le_of_ble_eq_true rfl) d_Mod_init_9 (fun H locs hP hD hS => ?_)
  have hP : va_P D vwCl ((a, .inr (nMod, [.int 0, .ref q1, .null, .null, .null, .null, .null, .null, .null, .null, .null, .null, .null, .int 0, .int 0])) :: (q1, .inl (cI, 6, .inl (fun _ => 0))) :: r) H := hP
  have hD : va_D (kA s0) ((a, .inr (nMod, [.int 0, .ref q1, .null, .null, .null, .null, .null, .null, .null, .null, .null, .null, .null, .int 0, .int 0])) :: (q1, .inl (cI, 6, .inl (fun _ => 0))) :: r) := hD
  refine lv_aload_n hx hb d_Mod_init_12 rfl (lv_at hl 0 rfl) ?_
  refine lv_bipush (v := nI 6) hx hb d_Mod_init_13 (by decide) ?_
  refine k_newI hx hb (hts _ tw_63) hcI hP hD hS hA (by decide) (Nat.le_of_ble_eq_true rfl) (Nat.le_of_ble_eq_true rfl) d_Mod_init_15 (fun q2 H hP hD hS => ?_)
  have hD : va_D (kA s0) ((a, .inr (nMod, [.int 0, .ref q1, .null, .null, .null, .null, .null, .null, .null, .null, .null, .null, .null, .int 0, .int 0])) :: (q1, .inl (cI, 6, .inl (fun _ => 0))) :: (q2, .inl (cI, 6, .inl (fun _ => 0))) :: r) := k_pD (List.Perm.cons _ (List.Perm.cons _ (List.perm_append_singleton _ _))) hD
  have hP : va_P D vwCl ((a, .inr (nMod, [.int 0, .ref q1, .null, .null, .null, .null, .null, .null, .null, .null, .null, .null, .null, .int 0, .int 0])) :: (q1, .inl (cI, 6, .inl (fun _ => 0))) :: (q2, .inl (cI, 6, .inl (fun _ => 0))) :: r) H := k_pP (List.Perm.cons _ (List.Perm.cons _ (List.perm_append_singleton _ _))) hP
  refine va_putF (D := D) (ci := nMod) (v := .ref q2) (ty := .array .int) (C := R_Mod) (T := T_Mod) (N := 15) hx hb hts i_Mod ty_Mod ty_Mod_ok nm_Mod hown hK hP hD hS 0 rfl rfl 2 (by decide) (hts _ tw_657) (fun _ h9 => h9) rfl hin rfl (by decide +kernel) rfl rfl (Nat.le_of_ble_eq_true rfl) d_Mod_init_17 (fun H locs hP hD hS => ?_)
  have hP : va_P D vwCl ((a, .inr (nMod, [.int 0, .ref q1, .ref q2, .null, .null, .null, .null, .null, .null, .null, .null, .null, .null, .int 0, .int 0])) :: (q1, .inl (cI, 6, .inl (fun _ => 0))) :: (q2, .inl (cI, 6, .inl (fun _ => 0))) :: r) H := hP
  have hD : va_D (kA s0) ((a, .inr (nMod, [.int 0, .ref q1, .ref q2, .null, .null, .null, .null, .null, .null, .null, .null, .null, .null, .int 0, .int 0])) :: (q1, .inl (cI, 6, .inl (fun _ => 0))) :: (q2, .inl (cI, 6, .inl (fun _ => 0))) :: r) := hD
  refine lv_aload_n hx hb d_Mod_init_20 rfl (lv_at hl 0 rfl) ?_
  refine lv_bipush (v := nI 6) hx hb d_Mod_init_21 (by decide) ?_
  refine k_newI hx hb (hts _ tw_63) hcI hP hD hS hA (by decide) (Nat.le_of_ble_eq_true rfl) (Nat.le_of_ble_eq_true rfl) d_Mod_init_23 (fun q3 H hP hD hS => ?_)
  have hD : va_D (kA s0) ((a, .inr (nMod, [.int 0, .ref q1, .ref q2, .null, .null, .null, .null, .null, .null, .null, .null, .null, .null, .int 0, .int 0])) :: (q1, .inl (cI, 6, .inl (fun _ => 0))) :: (q2, .inl (cI, 6, .inl (fun _ => 0))) :: (q3, .inl (cI, 6, .inl (fun _ => 0))) :: r) := k_pD (List.Perm.cons _ (List.Perm.cons _ (List.Perm.cons _ (List.perm_append_singleton _ _)))) hD
  have hP : va_P D vwCl ((a, .inr (nMod, [.int 0, .ref q1, .ref q2, .null, .null, .null, .null, .null, .null, .null, .null, .null, .null, .int 0, .int 0])) :: (q1, .inl (cI, 6, .inl (fun _ => 0))) :: (q2, .inl (cI, 6, .inl (fun _ => 0))) :: (q3, .inl (cI, 6, .inl (fun _ => 0))) :: r) H := k_pP (List.Perm.cons _ (List.Perm.cons _ (List.Perm.cons _ (List.perm_append_singleton _ _)))) hP
  refine va_putF (D := D) (ci := nMod) (v := .ref q3) (ty := .array .int) (C := R_Mod) (T := T_Mod) (N := 15) hx hb hts i_Mod ty_Mod ty_Mod_ok nm_Mod hown hK hP hD hS 0 rfl rfl 3 (by decide) (hts _ tw_658) (fun _ h9 => h9) rfl hin rfl (by decide +kernel) rfl rfl (Nat.le_of_ble_eq_true rfl) d_Mod_init_25 (fun H locs hP hD hS => ?_)
  have hP : va_P D vwCl ((a, .inr (nMod, [.int 0, .ref q1, .ref q2, .ref q3, .null, .null, .null, .null, .null, .null, .null, .null, .null, .int 0, .int 0])) :: (q1, .inl (cI, 6, .inl (fun _ => 0))) :: (q2, .inl (cI, 6, .inl (fun _ => 0))) :: (q3, .inl (cI, 6, .inl (fun _ => 0))) :: r) H := hP
  have hD : va_D (kA s0) ((a, .inr (nMod, [.int 0, .ref q1, .ref q2, .ref q3, .null, .null, .null, .null, .null, .null, .null, .null, .null, .int 0, .int 0])) :: (q1, .inl (cI, 6, .inl (fun _ => 0))) :: (q2, .inl (cI, 6, .inl (fun _ => 0))) :: (q3, .inl (cI, 6, .inl (fun _ => 0))) :: r) := hD
  refine lv_aload_n hx hb d_Mod_init_28 rfl (lv_at hl 0 rfl) ?_
  refine lv_bipush (v := nI 24) hx hb d_Mod_init_29 (by decide) ?_
  refine k_newI hx hb (hts _ tw_63) hcI hP hD hS hA (by decide) (Nat.le_of_ble_eq_true rfl) (Nat.le_of_ble_eq_true rfl) d_Mod_init_31 (fun q4 H hP hD hS => ?_)
  have hD : va_D (kA s0) ((a, .inr (nMod, [.int 0, .ref q1, .ref q2, .ref q3, .null, .null, .null, .null, .null, .null, .null, .null, .null, .int 0, .int 0])) :: (q1, .inl (cI, 6, .inl (fun _ => 0))) :: (q2, .inl (cI, 6, .inl (fun _ => 0))) :: (q3, .inl (cI, 6, .inl (fun _ => 0))) :: (q4, .inl (cI, 24, .inl (fun _ => 0))) :: r) := k_pD (List.Perm.cons _ (List.Perm.cons _ (List.Perm.cons _ (List.Perm.cons _ (List.perm_append_singleton _ _))))) hD
  have hP : va_P D vwCl ((a, .inr (nMod, [.int 0, .ref q1, .ref q2, .ref q3, .null, .null, .null, .null, .null, .null, .null, .null, .null, .int 0, .int 0])) :: (q1, .inl (cI, 6, .inl (fun _ => 0))) :: (q2, .inl (cI, 6, .inl (fun _ => 0))) :: (q3, .inl (cI, 6, .inl (fun _ => 0))) :: (q4, .inl (cI, 24, .inl (fun _ => 0))) :: r) H := k_pP (List.Perm.cons _ (List.Perm.cons _ (List.Perm.cons _ (List.Perm.cons _ (List.perm_append_singleton _ _))))) hP
  refine va_putF (D := D) (ci := nMod) (v := .ref q4) (ty := .array .int) (C := R_Mod) (T := T_Mod) (N := 15) hx hb hts i_Mod ty_Mod ty_Mod_ok nm_Mod hown hK hP hD hS 0 rfl rfl 4 (by decide) (hts _ tw_659) (fun _ h9 => h9) rfl hin rfl (by decide +kernel) rfl rfl (Nat.le_of_ble_eq_true rfl) d_Mod_init_33 (fun H locs hP hD hS => ?_)
  have hP : va_P D vwCl ((a, .inr (nMod, [.int 0, .ref q1, .ref q2, .ref q3, .ref q4, .null, .null, .null, .null, .null, .null, .null, .null, .int 0, .int 0])) :: (q1, .inl (cI, 6, .inl (fun _ => 0))) :: (q2, .inl (cI, 6, .inl (fun _ => 0))) :: (q3, .inl (cI, 6, .inl (fun _ => 0))) :: (q4, .inl (cI, 24, .inl (fun _ => 0))) :: r) H := hP
  have hD : va_D (kA s0) ((a, .inr (nMod, [.int 0, .ref q1, .ref q2, .ref q3, .ref q4, .null, .null, .null, .null, .null, .null, .null, .null, .int 0, .int 0])) :: (q1, .inl (cI, 6, .inl (fun _ => 0))) :: (q2, .inl (cI, 6, .inl (fun _ => 0))) :: (q3, .inl (cI, 6, .inl (fun _ => 0))) :: (q4, .inl (cI, 24, .inl (fun _ => 0))) :: r) := hD
  refine lv_aload_n hx hb d_Mod_init_36 rfl (lv_at hl 0 rfl) ?_
  refine lv_bipush (v := nI 6) hx hb d_Mod_init_37 (by decide) ?_
  refine k_newI hx hb (hts _ tw_63) hcI hP hD hS hA (by decide) (Nat.le_of_ble_eq_true rfl) (Nat.le_of_ble_eq_true rfl) d_Mod_init_39 (fun q5 H hP hD hS => ?_)
  have hD : va_D (kA s0) ((a, .inr (nMod, [.int 0, .ref q1, .ref q2, .ref q3, .ref q4, .null, .null, .null, .null, .null, .null, .null, .null, .int 0, .int 0])) :: (q1, .inl (cI, 6, .inl (fun _ => 0))) :: (q2, .inl (cI, 6, .inl (fun _ => 0))) :: (q3, .inl (cI, 6, .inl (fun _ => 0))) :: (q4, .inl (cI, 24, .inl (fun _ => 0))) :: (q5, .inl (cI, 6, .inl (fun _ => 0))) :: r) := k_pD (List.Perm.cons _ (List.Perm.cons _ (List.Perm.cons _ (List.Perm.cons _ (List.Perm.cons _ (List.perm_append_singleton _ _)))))) hD
  have hP : va_P D vwCl ((a, .inr (nMod, [.int 0, .ref q1, .ref q2, .ref q3, .ref q4, .null, .null, .null, .null, .null, .null, .null, .null, .int 0, .int 0])) :: (q1, .inl (cI, 6, .inl (fun _ => 0))) :: (q2, .inl (cI, 6, .inl (fun _ => 0))) :: (q3, .inl (cI, 6, .inl (fun _ => 0))) :: (q4, .inl (cI, 24, .inl (fun _ => 0))) :: (q5, .inl (cI, 6, .inl (fun _ => 0))) :: r) H := k_pP (List.Perm.cons _ (List.Perm.cons _ (List.Perm.cons _ (List.Perm.cons _ (List.Perm.cons _ (List.perm_append_singleton _ _)))))) hP
  refine va_putF (D := D) (ci := nMod) (v := .ref q5) (ty := .array .int) (C := R_Mod) (T := T_Mod) (N := 15) hx hb hts i_Mod ty_Mod ty_Mod_ok nm_Mod hown hK hP hD hS 0 rfl rfl 5 (by decide) (hts _ tw_660) (fun _ h9 => h9) rfl hin rfl (by decide +kernel) rfl rfl (Nat.le_of_ble_eq_true rfl) d_Mod_init_41 (fun H locs hP hD hS => ?_)
  have hP : va_P D vwCl ((a, .inr (nMod, [.int 0, .ref q1, .ref q2, .ref q3, .ref q4, .ref q5, .null, .null, .null, .null, .null, .null, .null, .int 0, .int 0])) :: (q1, .inl (cI, 6, .inl (fun _ => 0))) :: (q2, .inl (cI, 6, .inl (fun _ => 0))) :: (q3, .inl (cI, 6, .inl (fun _ => 0))) :: (q4, .inl (cI, 24, .inl (fun _ => 0))) :: (q5, .inl (cI, 6, .inl (fun _ => 0))) :: r) H := hP
  have hD : va_D (kA s0) ((a, .inr (nMod, [.int 0, .ref q1, .ref q2, .ref q3, .ref q4, .ref q5, .null, .null, .null, .null, .null, .null, .null, .int 0, .int 0])) :: (q1, .inl (cI, 6, .inl (fun _ => 0))) :: (q2, .inl (cI, 6, .inl (fun _ => 0))) :: (q3, .inl (cI, 6, .inl (fun _ => 0))) :: (q4, .inl (cI, 24, .inl (fun _ => 0))) :: (q5, .inl (cI, 6, .inl (fun _ => 0))) :: r) := hD
  refine lv_aload_n hx hb d_Mod_init_44 rfl (lv_at hl 0 rfl) ?_
  refine lv_bipush (v := nI 20) hx hb d_Mod_init_45 (by decide) ?_
  refine k_newI hx hb (hts _ tw_63) hcI hP hD hS hA (by decide) (Nat.le_of_ble_eq_true rfl) (Nat.le_of_ble_eq_true rfl) d_Mod_init_47 (fun q6 H hP hD hS => ?_)
  have hD : va_D (kA s0) ((a, .inr (nMod, [.int 0, .ref q1, .ref q2, .ref q3, .ref q4, .ref q5, .null, .null, .null, .null, .null, .null, .null, .int 0, .int 0])) :: (q1, .inl (cI, 6, .inl (fun _ => 0))) :: (q2, .inl (cI, 6, .inl (fun _ => 0))) :: (q3, .inl (cI, 6, .inl (fun _ => 0))) :: (q4, .inl (cI, 24, .inl (fun _ => 0))) :: (q5, .inl (cI, 6, .inl (fun _ => 0))) :: (q6, .inl (cI, 20, .inl (fun _ => 0))) :: r) := k_pD (List.Perm.cons _ (List.Perm.cons _ (List.Perm.cons _ (List.Perm.cons _ (List.Perm.cons _ (List.Perm.cons _ (List.perm_append_singleton _ _))))))) hD
  have hP : va_P D vwCl ((a, .inr (nMod, [.int 0, .ref q1, .ref q2, .ref q3, .ref q4, .ref q5, .null, .null, .null, .null, .null, .null, .null, .int 0, .int 0])) :: (q1, .inl (cI, 6, .inl (fun _ => 0))) :: (q2, .inl (cI, 6, .inl (fun _ => 0))) :: (q3, .inl (cI, 6, .inl (fun _ => 0))) :: (q4, .inl (cI, 24, .inl (fun _ => 0))) :: (q5, .inl (cI, 6, .inl (fun _ => 0))) :: (q6, .inl (cI, 20, .inl (fun _ => 0))) :: r) H := k_pP (List.Perm.cons _ (List.Perm.cons _ (List.Perm.cons _ (List.Perm.cons _ (List.Perm.cons _ (List.Perm.cons _ (List.perm_append_singleton _ _))))))) hP
  refine va_putF (D := D) (ci := nMod) (v := .ref q6) (ty := .array .int) (C := R_Mod) (T := T_Mod) (N := 15) hx hb hts i_Mod ty_Mod ty_Mod_ok nm_Mod hown hK hP hD hS 0 rfl rfl 6 (by decide) (hts _ tw_661) (fun _ h9 => h9) rfl hin rfl (by decide +kernel) rfl rfl (Nat.le_of_ble_eq_true rfl) d_Mod_init_49 (fun H locs hP hD hS => ?_)
  have hP : va_P D vwCl ((a, .inr (nMod, [.int 0, .ref q1, .ref q2, .ref q3, .ref q4, .ref q5, .ref q6, .null, .null, .null, .null, .null, .null, .int 0, .int 0])) :: (q1, .inl (cI, 6, .inl (fun _ => 0))) :: (q2, .inl (cI, 6, .inl (fun _ => 0))) :: (q3, .inl (cI, 6, .inl (fun _ => 0))) :: (q4, .inl (cI, 24, .inl (fun _ => 0))) :: (q5, .inl (cI, 6, .inl (fun _ => 0))) :: (q6, .inl (cI, 20, .inl (fun _ => 0))) :: r) H := hP
  have hD : va_D (kA s0) ((a, .inr (nMod, [.int 0, .ref q1, .ref q2, .ref q3, .ref q4, .ref q5, .ref q6, .null, .null, .null, .null, .null, .null, .int 0, .int 0])) :: (q1, .inl (cI, 6, .inl (fun _ => 0))) :: (q2, .inl (cI, 6, .inl (fun _ => 0))) :: (q3, .inl (cI, 6, .inl (fun _ => 0))) :: (q4, .inl (cI, 24, .inl (fun _ => 0))) :: (q5, .inl (cI, 6, .inl (fun _ => 0))) :: (q6, .inl (cI, 20, .inl (fun _ => 0))) :: r) := hD
  refine lv_aload_n hx hb d_Mod_init_52 rfl (lv_at hl 0 rfl) ?_
  refine lv_bipush (v := nI 20) hx hb d_Mod_init_53 (by decide) ?_
  refine k_newI hx hb (hts _ tw_63) hcI hP hD hS hA (by decide) (Nat.le_of_ble_eq_true rfl) (Nat.le_of_ble_eq_true rfl) d_Mod_init_55 (fun q7 H hP hD hS => ?_)
  have hD : va_D (kA s0) ((a, .inr (nMod, [.int 0, .ref q1, .ref q2, .ref q3, .ref q4, .ref q5, .ref q6, .null, .null, .null, .null, .null, .null, .int 0, .int 0])) :: (q1, .inl (cI, 6, .inl (fun _ => 0))) :: (q2, .inl (cI, 6, .inl (fun _ => 0))) :: (q3, .inl (cI, 6, .inl (fun _ => 0))) :: (q4, .inl (cI, 24, .inl (fun _ => 0))) :: (q5, .inl (cI, 6, .inl (fun _ => 0))) :: (q6, .inl (cI, 20, .inl (fun _ => 0))) :: (q7, .inl (cI, 20, .inl (fun _ => 0))) :: r) := k_pD (List.Perm.cons _ (List.Perm.cons _ (List.Perm.cons _ (List.Perm.cons _ (List.Perm.cons _ (List.Perm.cons _ (List.Perm.cons _ (List.perm_append_singleton _ _)))))))) hD
  have hP : va_P D vwCl ((a, .inr (nMod, [.int 0, .ref q1, .ref q2, .ref q3, .ref q4, .ref q5, .ref q6, .null, .null, .null, .null, .null, .null, .int 0, .int 0])) :: (q1, .inl (cI, 6, .inl (fun _ => 0))) :: (q2, .inl (cI, 6, .inl (fun _ => 0))) :: (q3, .inl (cI, 6, .inl (fun _ => 0))) :: (q4, .inl (cI, 24, .inl (fun _ => 0))) :: (q5, .inl (cI, 6, .inl (fun _ => 0))) :: (q6, .inl (cI, 20, .inl (fun _ => 0))) :: (q7, .inl (cI, 20, .inl (fun _ => 0))) :: r) H := k_pP (List.Perm.cons _ (List.Perm.cons _ (List.Perm.cons _ (List.Perm.cons _ (List.Perm.cons _ (List.Perm.cons _ (List.Perm.cons _ (List.perm_append_singleton _ _)))))))) hP
  refine va_putF (D := D) (ci := nMod) (v := .ref q7) (ty := .array .int) (C := R_Mod) (T := T_Mod) (N := 15) hx hb hts i_Mod ty_Mod ty_Mod_ok nm_Mod hown hK hP hD hS 0 rfl rfl 7 (by decide) (hts _ tw_662) (fun _ h9 => h9) rfl hin rfl (by decide +kernel) rfl rfl (Nat.le_of_ble_eq_true rfl) d_Mod_init_57 (fun H locs hP hD hS => ?_)
  have hP : va_P D vwCl ((a, .inr (nMod, [.int 0, .ref q1, .ref q2, .ref q3, .ref q4, .ref q5, .ref q6, .ref q7, .null, .null, .null, .null, .null, .int 0, .int 0])) :: (q1, .inl (cI, 6, .inl (fun _ => 0))) :: (q2, .inl (cI, 6, .inl (fun _ => 0))) :: (q3, .inl (cI, 6, .inl (fun _ => 0))) :: (q4, .inl (cI, 24, .inl (fun _ => 0))) :: (q5, .inl (cI, 6, .inl (fun _ => 0))) :: (q6, .inl (cI, 20, .inl (fun _ => 0))) :: (q7, .inl (cI, 20, .inl (fun _ => 0))) :: r) H := hP
  have hD : va_D (kA s0) ((a, .inr (nMod, [.int 0, .ref q1, .ref q2, .ref q3, .ref q4, .ref q5, .ref q6, .ref q7, .null, .null, .null, .null, .null, .int 0, .int 0])) :: (q1, .inl (cI, 6, .inl (fun _ => 0))) :: (q2, .inl (cI, 6, .inl (fun _ => 0))) :: (q3, .inl (cI, 6, .inl (fun _ => 0))) :: (q4, .inl (cI, 24, .inl (fun _ => 0))) :: (q5, .inl (cI, 6, .inl (fun _ => 0))) :: (q6, .inl (cI, 20, .inl (fun _ => 0))) :: (q7, .inl (cI, 20, .inl (fun _ => 0))) :: r) := hD
  refine lv_aload_n hx hb d_Mod_init_60 rfl (lv_at hl 0 rfl) ?_
  refine lv_bipush (v := nI 80) hx hb d_Mod_init_61 (by decide) ?_
  refine k_newI hx hb (hts _ tw_63) hcI hP hD hS hA (by decide) (Nat.le_of_ble_eq_true rfl) (Nat.le_of_ble_eq_true rfl) d_Mod_init_63 (fun q8 H hP hD hS => ?_)
  have hD : va_D (kA s0) ((a, .inr (nMod, [.int 0, .ref q1, .ref q2, .ref q3, .ref q4, .ref q5, .ref q6, .ref q7, .null, .null, .null, .null, .null, .int 0, .int 0])) :: (q1, .inl (cI, 6, .inl (fun _ => 0))) :: (q2, .inl (cI, 6, .inl (fun _ => 0))) :: (q3, .inl (cI, 6, .inl (fun _ => 0))) :: (q4, .inl (cI, 24, .inl (fun _ => 0))) :: (q5, .inl (cI, 6, .inl (fun _ => 0))) :: (q6, .inl (cI, 20, .inl (fun _ => 0))) :: (q7, .inl (cI, 20, .inl (fun _ => 0))) :: (q8, .inl (cI, 80, .inl (fun _ => 0))) :: r) := k_pD (List.Perm.cons _ (List.Perm.cons _ (List.Perm.cons _ (List.Perm.cons _ (List.Perm.cons _ (List.Perm.cons _ (List.Perm.cons _ (List.Perm.cons _ (List.perm_append_singleton _ _))))))))) hD
  have hP : va_P D vwCl ((a, .inr (nMod, [.int 0, .ref q1, .ref q2, .ref q3, .ref q4, .ref q5, .ref q6, .ref q7, .null, .null, .null, .null, .null, .int 0, .int 0])) :: (q1, .inl (cI, 6, .inl (fun _ => 0))) :: (q2, .inl (cI, 6, .inl (fun _ => 0))) :: (q3, .inl (cI, 6, .inl (fun _ => 0))) :: (q4, .inl (cI, 24, .inl (fun _ => 0))) :: (q5, .inl (cI, 6, .inl (fun _ => 0))) :: (q6, .inl (cI, 20, .inl (fun _ => 0))) :: (q7, .inl (cI, 20, .inl (fun _ => 0))) :: (q8, .inl (cI, 80, .inl (fun _ => 0))) :: r) H := k_pP (List.Perm.cons _ (List.Perm.cons _ (List.Perm.cons _ (List.Perm.cons _ (List.Perm.cons _ (List.Perm.cons _ (List.Perm.cons _ (List.Perm.cons _ (List.perm_append_singleton _ _))))))))) hP
  refine va_putF (D := D) (ci := nMod) (v := .ref q8) (ty := .array .int) (C := R_Mod) (T := T_Mod) (N := 15) hx hb hts i_Mod ty_Mod ty_Mod_ok nm_Mod hown hK hP hD hS 0 rfl rfl 8 (by decide) (hts _ tw_663) (fun _ h9 => h9) rfl hin rfl (by decide +kernel) rfl rfl (Nat.le_of_ble_eq_true rfl) d_Mod_init_65 (fun H locs hP hD hS => ?_)
  have hP : va_P D vwCl ((a, .inr (nMod, [.int 0, .ref q1, .ref q2, .ref q3, .ref q4, .ref q5, .ref q6, .ref q7, .ref q8, .null, .null, .null, .null, .int 0, .int 0])) :: (q1, .inl (cI, 6, .inl (fun _ => 0))) :: (q2, .inl (cI, 6, .inl (fun _ => 0))) :: (q3, .inl (cI, 6, .inl (fun _ => 0))) :: (q4, .inl (cI, 24, .inl (fun _ => 0))) :: (q5, .inl (cI, 6, .inl (fun _ => 0))) :: (q6, .inl (cI, 20, .inl (fun _ => 0))) :: (q7, .inl (cI, 20, .inl (fun _ => 0))) :: (q8, .inl (cI, 80, .inl (fun _ => 0))) :: r) H := hP
  have hD : va_D (kA s0) ((a, .inr (nMod, [.int 0, .ref q1, .ref q2, .ref q3, .ref q4, .ref q5, .ref q6, .ref q7, .ref q8, .null, .null, .null, .null, .int 0, .int 0])) :: (q1, .inl (cI, 6, .inl (fun _ => 0))) :: (q2, .inl (cI, 6, .inl (fun _ => 0))) :: (q3, .inl (cI, 6, .inl (fun _ => 0))) :: (q4, .inl (cI, 24, .inl (fun _ => 0))) :: (q5, .inl (cI, 6, .inl (fun _ => 0))) :: (q6, .inl (cI, 20, .inl (fun _ => 0))) :: (q7, .inl (cI, 20, .inl (fun _ => 0))) :: (q8, .inl (cI, 80, .inl (fun _ => 0))) :: r) := hD
  refine lv_aload_n hx hb d_Mod_init_68 rfl (lv_at hl 0 rfl) ?_
  refine lv_bipush (v := nI 80) hx hb d_Mod_init_69 (by decide) ?_
  refine k_newI hx hb (hts _ tw_63) hcI hP hD hS hA (by decide) (Nat.le_of_ble_eq_true rfl) (Nat.le_of_ble_eq_true rfl) d_Mod_init_71 (fun q9 H hP hD hS => ?_)
  have hD : va_D (kA s0) ((a, .inr (nMod, [.int 0, .ref q1, .ref q2, .ref q3, .ref q4, .ref q5, .ref q6, .ref q7, .ref q8, .null, .null, .null, .null, .int 0, .int 0])) :: (q1, .inl (cI, 6, .inl (fun _ => 0))) :: (q2, .inl (cI, 6, .inl (fun _ => 0))) :: (q3, .inl (cI, 6, .inl (fun _ => 0))) :: (q4, .inl (cI, 24, .inl (fun _ => 0))) :: (q5, .inl (cI, 6, .inl (fun _ => 0))) :: (q6, .inl (cI, 20, .inl (fun _ => 0))) :: (q7, .inl (cI, 20, .inl (fun _ => 0))) :: (q8, .inl (cI, 80, .inl (fun _ => 0))) :: (q9, .inl (cI, 80, .inl (fun _ => 0))) :: r) := k_pD (List.Perm.cons _ (List.Perm.cons _ (List.Perm.cons _ (List.Perm.cons _ (List.Perm.cons _ (List.Perm.cons _ (List.Perm.cons _ (List.Perm.cons _ (List.Perm.cons _ (List.perm_append_singleton _ _)))))))))) hD
  have hP : va_P D vwCl ((a, .inr (nMod, [.int 0, .ref q1, .ref q2, .ref q3, .ref q4, .ref q5, .ref q6, .ref q7, .ref q8, .null, .null, .null, .null, .int 0, .int 0])) :: (q1, .inl (cI, 6, .inl (fun _ => 0))) :: (q2, .inl (cI, 6, .inl (fun _ => 0))) :: (q3, .inl (cI, 6, .inl (fun _ => 0))) :: (q4, .inl (cI, 24, .inl (fun _ => 0))) :: (q5, .inl (cI, 6, .inl (fun _ => 0))) :: (q6, .inl (cI, 20, .inl (fun _ => 0))) :: (q7, .inl (cI, 20, .inl (fun _ => 0))) :: (q8, .inl (cI, 80, .inl (fun _ => 0))) :: (q9, .inl (cI, 80, .inl (fun _ => 0))) :: r) H := k_pP (List.Perm.cons _ (List.Perm.cons _ (List.Perm.cons _ (List.Perm.cons _ (List.Perm.cons _ (List.Perm.cons _ (List.Perm.cons _ (List.Perm.cons _ (List.Perm.cons _ (List.perm_append_singleton _ _)))))))))) hP
  refine va_putF (D := D) (ci := nMod) (v := .ref q9) (ty := .array .int) (C := R_Mod) (T := T_Mod) (N := 15) hx hb hts i_Mod ty_Mod ty_Mod_ok nm_Mod hown hK hP hD hS 0 rfl rfl 9 (by decide) (hts _ tw_664) (fun _ h9 => h9) rfl hin rfl (by decide +kernel) rfl rfl (Nat.le_of_ble_eq_true rfl) d_Mod_init_73 (fun H locs hP hD hS => ?_)
  have hP : va_P D vwCl ((a, .inr (nMod, [.int 0, .ref q1, .ref q2, .ref q3, .ref q4, .ref q5, .ref q6, .ref q7, .ref q8, .ref q9, .null, .null, .null, .int 0, .int 0])) :: (q1, .inl (cI, 6, .inl (fun _ => 0))) :: (q2, .inl (cI, 6, .inl (fun _ => 0))) :: (q3, .inl (cI, 6, .inl (fun _ => 0))) :: (q4, .inl (cI, 24, .inl (fun _ => 0))) :: (q5, .inl (cI, 6, .inl (fun _ => 0))) :: (q6, .inl (cI, 20, .inl (fun _ => 0))) :: (q7, .inl (cI, 20, .inl (fun _ => 0))) :: (q8, .inl (cI, 80, .inl (fun _ => 0))) :: (q9, .inl (cI, 80, .inl (fun _ => 0))) :: r) H := hP
  have hD : va_D (kA s0) ((a, .inr (nMod, [.int 0, .ref q1, .ref q2, .ref q3, .ref q4, .ref q5, .ref q6, .ref q7, .ref q8, .ref q9, .null, .null, .null, .int 0, .int 0])) :: (q1, .inl (cI, 6, .inl (fun _ => 0))) :: (q2, .inl (cI, 6, .inl (fun _ => 0))) :: (q3, .inl (cI, 6, .inl (fun _ => 0))) :: (q4, .inl (cI, 24, .inl (fun _ => 0))) :: (q5, .inl (cI, 6, .inl (fun _ => 0))) :: (q6, .inl (cI, 20, .inl (fun _ => 0))) :: (q7, .inl (cI, 20, .inl (fun _ => 0))) :: (q8, .inl (cI, 80, .inl (fun _ => 0))) :: (q9, .inl (cI, 80, .inl (fun _ => 0))) :: r) := hD
  refine lv_aload_n hx hb d_Mod_init_76 rfl (lv_at hl 0 rfl) ?_
  refine lv_bipush (v := nI 80) hx hb d_Mod_init_77 (by decide) ?_
  refine k_newI hx hb (hts _ tw_63) hcI hP hD hS hA (by decide) (Nat.le_of_ble_eq_true rfl) (Nat.le_of_ble_eq_true rfl) d_Mod_init_79 (fun q10 H hP hD hS => ?_)
  have hD : va_D (kA s0) ((a, .inr (nMod, [.int 0, .ref q1, .ref q2, .ref q3, .ref q4, .ref q5, .ref q6, .ref q7, .ref q8, .ref q9, .null, .null, .null, .int 0, .int 0])) :: (q1, .inl (cI, 6, .inl (fun _ => 0))) :: (q2, .inl (cI, 6, .inl (fun _ => 0))) :: (q3, .inl (cI, 6, .inl (fun _ => 0))) :: (q4, .inl (cI, 24, .inl (fun _ => 0))) :: (q5, .inl (cI, 6, .inl (fun _ => 0))) :: (q6, .inl (cI, 20, .inl (fun _ => 0))) :: (q7, .inl (cI, 20, .inl (fun _ => 0))) :: (q8, .inl (cI, 80, .inl (fun _ => 0))) :: (q9, .inl (cI, 80, .inl (fun _ => 0))) :: (q10, .inl (cI, 80, .inl (fun _ => 0))) :: r) := k_pD (List.Perm.cons _ (List.Perm.cons _ (List.Perm.cons _ (List.Perm.cons _ (List.Perm.cons _ (List.Perm.cons _ (List.Perm.cons _ (List.Perm.cons _ (List.Perm.cons _ (List.Perm.cons _ (List.perm_append_singleton _ _))))))))))) hD
  have hP : va_P D vwCl ((a, .inr (nMod, [.int 0, .ref q1, .ref q2, .ref q3, .ref q4, .ref q5, .ref q6, .ref q7, .ref q8, .ref q9, .null, .null, .null, .int 0, .int 0])) :: (q1, .inl (cI, 6, .inl (fun _ => 0))) :: (q2, .inl (cI, 6, .inl (fun _ => 0))) :: (q3, .inl (cI, 6, .inl (fun _ => 0))) :: (q4, .inl (cI, 24, .inl (fun _ => 0))) :: (q5, .inl (cI, 6, .inl (fun _ => 0))) :: (q6, .inl (cI, 20, .inl (fun _ => 0))) :: (q7, .inl (cI, 20, .inl (fun _ => 0))) :: (q8, .inl (cI, 80, .inl (fun _ => 0))) :: (q9, .inl (cI, 80, .inl (fun _ => 0))) :: (q10, .inl (cI, 80, .inl (fun _ => 0))) :: r) H := k_pP (List.Perm.cons _ (List.Perm.cons _ (List.Perm.cons _ (List.Perm.cons _ (List.Perm.cons _ (List.Perm.cons _ (List.Perm.cons _ (List.Perm.cons _ (List.Perm.cons _ (List.Perm.cons _ (List.perm_append_singleton _ _))))))))))) hP
  refine va_putF (D := D) (ci := nMod) (v := .ref q10) (ty := .array .int) (C := R_Mod) (T := T_Mod) (N := 15) hx hb hts i_Mod ty_Mod ty_Mod_ok nm_Mod hown hK hP hD hS 0 rfl rfl 10 (by decide) (hts _ tw_665) (fun _ h9 => h9) rfl hin rfl (by decide +kernel) rfl rfl (Nat.le_of_ble_eq_true rfl) d_Mod_init_81 (fun H locs hP hD hS => ?_)
  have hP : va_P D vwCl ((a, .inr (nMod, [.int 0, .ref q1, .ref q2, .ref q3, .ref q4, .ref q5, .ref q6, .ref q7, .ref q8, .ref q9, .ref q10, .null, .null, .int 0, .int 0])) :: (q1, .inl (cI, 6, .inl (fun _ => 0))) :: (q2, .inl (cI, 6, .inl (fun _ => 0))) :: (q3, .inl (cI, 6, .inl (fun _ => 0))) :: (q4, .inl (cI, 24, .inl (fun _ => 0))) :: (q5, .inl (cI, 6, .inl (fun _ => 0))) :: (q6, .inl (cI, 20, .inl (fun _ => 0))) :: (q7, .inl (cI, 20, .inl (fun _ => 0))) :: (q8, .inl (cI, 80, .inl (fun _ => 0))) :: (q9, .inl (cI, 80, .inl (fun _ => 0))) :: (q10, .inl (cI, 80, .inl (fun _ => 0))) :: r) H := hP
  have hD : va_D (kA s0) ((a, .inr (nMod, [.int 0, .ref q1, .ref q2, .ref q3, .ref q4, .ref q5, .ref q6, .ref q7, .ref q8, .ref q9, .ref q10, .null, .null, .int 0, .int 0])) :: (q1, .inl (cI, 6, .inl (fun _ => 0))) :: (q2, .inl (cI, 6, .inl (fun _ => 0))) :: (q3, .inl (cI, 6, .inl (fun _ => 0))) :: (q4, .inl (cI, 24, .inl (fun _ => 0))) :: (q5, .inl (cI, 6, .inl (fun _ => 0))) :: (q6, .inl (cI, 20, .inl (fun _ => 0))) :: (q7, .inl (cI, 20, .inl (fun _ => 0))) :: (q8, .inl (cI, 80, .inl (fun _ => 0))) :: (q9, .inl (cI, 80, .inl (fun _ => 0))) :: (q10, .inl (cI, 80, .inl (fun _ => 0))) :: r) := hD
  refine lv_aload_n hx hb d_Mod_init_84 rfl (lv_at hl 0 rfl) ?_
  refine lv_bipush (v := nI 12) hx hb d_Mod_init_85 (by decide) ?_
  refine k_newI hx hb (hts _ tw_63) hcI hP hD hS hA (by decide) (Nat.le_of_ble_eq_true rfl) (Nat.le_of_ble_eq_true rfl) d_Mod_init_87 (fun q11 H hP hD hS => ?_)
  have hD : va_D (kA s0) ((a, .inr (nMod, [.int 0, .ref q1, .ref q2, .ref q3, .ref q4, .ref q5, .ref q6, .ref q7, .ref q8, .ref q9, .ref q10, .null, .null, .int 0, .int 0])) :: (q1, .inl (cI, 6, .inl (fun _ => 0))) :: (q2, .inl (cI, 6, .inl (fun _ => 0))) :: (q3, .inl (cI, 6, .inl (fun _ => 0))) :: (q4, .inl (cI, 24, .inl (fun _ => 0))) :: (q5, .inl (cI, 6, .inl (fun _ => 0))) :: (q6, .inl (cI, 20, .inl (fun _ => 0))) :: (q7, .inl (cI, 20, .inl (fun _ => 0))) :: (q8, .inl (cI, 80, .inl (fun _ => 0))) :: (q9, .inl (cI, 80, .inl (fun _ => 0))) :: (q10, .inl (cI, 80, .inl (fun _ => 0))) :: (q11, .inl (cI, 12, .inl (fun _ => 0))) :: r) := k_pD (List.Perm.cons _ (List.Perm.cons _ (List.Perm.cons _ (List.Perm.cons _ (List.Perm.cons _ (List.Perm.cons _ (List.Perm.cons _ (List.Perm.cons _ (List.Perm.cons _ (List.Perm.cons _ (List.Perm.cons _ (List.perm_append_singleton _ _)))))))))))) hD
  have hP : va_P D vwCl ((a, .inr (nMod, [.int 0, .ref q1, .ref q2, .ref q3, .ref q4, .ref q5, .ref q6, .ref q7, .ref q8, .ref q9, .ref q10, .null, .null, .int 0, .int 0])) :: (q1, .inl (cI, 6, .inl (fun _ => 0))) :: (q2, .inl (cI, 6, .inl (fun _ => 0))) :: (q3, .inl (cI, 6, .inl (fun _ => 0))) :: (q4, .inl (cI, 24, .inl (fun _ => 0))) :: (q5, .inl (cI, 6, .inl (fun _ => 0))) :: (q6, .inl (cI, 20, .inl (fun _ => 0))) :: (q7, .inl (cI, 20, .inl (fun _ => 0))) :: (q8, .inl (cI, 80, .inl (fun _ => 0))) :: (q9, .inl (cI, 80, .inl (fun _ => 0))) :: (q10, .inl (cI, 80, .inl (fun _ => 0))) :: (q11, .inl (cI, 12, .inl (fun _ => 0))) :: r) H := k_pP (List.Perm.cons _ (List.Perm.cons _ (List.Perm.cons _ (List.Perm.cons _ (List.Perm.cons _ (List.Perm.cons _ (List.Perm.cons _ (List.Perm.cons _ (List.Perm.cons _ (List.Perm.cons _ (List.Perm.cons _ (List.perm_append_singleton _ _)))))))))))) hP
  refine va_putF (D := D) (ci := nMod) (v := .ref q11) (ty := .array .int) (C := R_Mod) (T := T_Mod) (N := 15) hx hb hts i_Mod ty_Mod ty_Mod_ok nm_Mod hown hK hP hD hS 0 rfl rfl 11 (by decide) (hts _ tw_666) (fun _ h9 => h9) rfl hin rfl (by decide +kernel) rfl rfl (Nat.le_of_ble_eq_true rfl) d_Mod_init_89 (fun H locs hP hD hS => ?_)
  have hP : va_P D vwCl ((a, .inr (nMod, [.int 0, .ref q1, .ref q2, .ref q3, .ref q4, .ref q5, .ref q6, .ref q7, .ref q8, .ref q9, .ref q10, .ref q11, .null, .int 0, .int 0])) :: (q1, .inl (cI, 6, .inl (fun _ => 0))) :: (q2, .inl (cI, 6, .inl (fun _ => 0))) :: (q3, .inl (cI, 6, .inl (fun _ => 0))) :: (q4, .inl (cI, 24, .inl (fun _ => 0))) :: (q5, .inl (cI, 6, .inl (fun _ => 0))) :: (q6, .inl (cI, 20, .inl (fun _ => 0))) :: (q7, .inl (cI, 20, .inl (fun _ => 0))) :: (q8, .inl (cI, 80, .inl (fun _ => 0))) :: (q9, .inl (cI, 80, .inl (fun _ => 0))) :: (q10, .inl (cI, 80, .inl (fun _ => 0))) :: (q11, .inl (cI, 12, .inl (fun _ => 0))) :: r) H := hP
  have hD : va_D (kA s0) ((a, .inr (nMod, [.int 0, .ref q1, .ref q2, .ref q3, .ref q4, .ref q5, .ref q6, .ref q7, .ref q8, .ref q9, .ref q10, .ref q11, .null, .int 0, .int 0])) :: (q1, .inl (cI, 6, .inl (fun _ => 0))) :: (q2, .inl (cI, 6, .inl (fun _ => 0))) :: (q3, .inl (cI, 6, .inl (fun _ => 0))) :: (q4, .inl (cI, 24, .inl (fun _ => 0))) :: (q5, .inl (cI, 6, .inl (fun _ => 0))) :: (q6, .inl (cI, 20, .inl (fun _ => 0))) :: (q7, .inl (cI, 20, .inl (fun _ => 0))) :: (q8, .inl (cI, 80, .inl (fun _ => 0))) :: (q9, .inl (cI, 80, .inl (fun _ => 0))) :: (q10, .inl (cI, 80, .inl (fun _ => 0))) :: (q11, .inl (cI, 12, .inl (fun _ => 0))) :: r) := hD
  refine lv_aload_n hx hb d_Mod_init_92 rfl (lv_at hl 0 rfl) ?_
  refine lv_iconst (v := nI 3) hx hb d_Mod_init_93 (by decide) ?_
  refine k_newI hx hb (hts _ tw_63) hcI hP hD hS hA (by decide) (Nat.le_of_ble_eq_true rfl) (Nat.le_of_ble_eq_true rfl) d_Mod_init_94 (fun q12 H hP hD hS => ?_)
  have hD : va_D (kA s0) ((a, .inr (nMod, [.int 0, .ref q1, .ref q2, .ref q3, .ref q4, .ref q5, .ref q6, .ref q7, .ref q8, .ref q9, .ref q10, .ref q11, .null, .int 0, .int 0])) :: (q1, .inl (cI, 6, .inl (fun _ => 0))) :: (q2, .inl (cI, 6, .inl (fun _ => 0))) :: (q3, .inl (cI, 6, .inl (fun _ => 0))) :: (q4, .inl (cI, 24, .inl (fun _ => 0))) :: (q5, .inl (cI, 6, .inl (fun _ => 0))) :: (q6, .inl (cI, 20, .inl (fun _ => 0))) :: (q7, .inl (cI, 20, .inl (fun _ => 0))) :: (q8, .inl (cI, 80, .inl (fun _ => 0))) :: (q9, .inl (cI, 80, .inl (fun _ => 0))) :: (q10, .inl (cI, 80, .inl (fun _ => 0))) :: (q11, .inl (cI, 12, .inl (fun _ => 0))) :: (q12, .inl (cI, 3, .inl (fun _ => 0))) :: r) := k_pD (List.Perm.cons _ (List.Perm.cons _ (List.Perm.cons _ (List.Perm.cons _ (List.Perm.cons _ (List.Perm.cons _ (List.Perm.cons _ (List.Perm.cons _ (List.Perm.cons _ (List.Perm.cons _ (List.Perm.cons _ (List.Perm.cons _ (List.perm_append_singleton _ _))))))))))))) hD
  have hP : va_P D vwCl ((a, .inr (nMod, [.int 0, .ref q1, .ref q2, .ref q3, .ref q4, .ref q5, .ref q6, .ref q7, .ref q8, .ref q9, .ref q10, .ref q11, .null, .int 0, .int 0])) :: (q1, .inl (cI, 6, .inl (fun _ => 0))) :: (q2, .inl (cI, 6, .inl (fun _ => 0))) :: (q3, .inl (cI, 6, .inl (fun _ => 0))) :: (q4, .inl (cI, 24, .inl (fun _ => 0))) :: (q5, .inl (cI, 6, .inl (fun _ => 0))) :: (q6, .inl (cI, 20, .inl (fun _ => 0))) :: (q7, .inl (cI, 20, .inl (fun _ => 0))) :: (q8, .inl (cI, 80, .inl (fun _ => 0))) :: (q9, .inl (cI, 80, .inl (fun _ => 0))) :: (q10, .inl (cI, 80, .inl (fun _ => 0))) :: (q11, .inl (cI, 12, .inl (fun _ => 0))) :: (q12, .inl (cI, 3, .inl (fun _ => 0))) :: r) H := k_pP (List.Perm.cons _ (List.Perm.cons _ (List.Perm.cons _ (List.Perm.cons _ (List.Perm.cons _ (List.Perm.cons _ (List.Perm.cons _ (List.Perm.cons _ (List.Perm.cons _ (List.Perm.cons _ (List.Perm.cons _ (List.Perm.cons _ (List.perm_append_singleton _ _))))))))))))) hP
  refine va_putF (D := D) (ci := nMod) (v := .ref q12) (ty := .array .int) (C := R_Mod) (T := T_Mod) (N := 15) hx hb hts i_Mod ty_Mod ty_Mod_ok nm_Mod hown hK hP hD hS 0 rfl rfl 12 (by decide) (hts _ tw_667) (fun _ h9 => h9) rfl hin rfl (by decide +kernel) rfl rfl (Nat.le_of_ble_eq_true rfl) d_Mod_init_96 (fun H locs hP hD hS => ?_)
  have hP : va_P D vwCl ((a, .inr (nMod, [.int 0, .ref q1, .ref q2, .ref q3, .ref q4, .ref q5, .ref q6, .ref q7, .ref q8, .ref q9, .ref q10, .ref q11, .ref q12, .int 0, .int 0])) :: (q1, .inl (cI, 6, .inl (fun _ => 0))) :: (q2, .inl (cI, 6, .inl (fun _ => 0))) :: (q3, .inl (cI, 6, .inl (fun _ => 0))) :: (q4, .inl (cI, 24, .inl (fun _ => 0))) :: (q5, .inl (cI, 6, .inl (fun _ => 0))) :: (q6, .inl (cI, 20, .inl (fun _ => 0))) :: (q7, .inl (cI, 20, .inl (fun _ => 0))) :: (q8, .inl (cI, 80, .inl (fun _ => 0))) :: (q9, .inl (cI, 80, .inl (fun _ => 0))) :: (q10, .inl (cI, 80, .inl (fun _ => 0))) :: (q11, .inl (cI, 12, .inl (fun _ => 0))) :: (q12, .inl (cI, 3, .inl (fun _ => 0))) :: r) H := hP
  have hD : va_D (kA s0) ((a, .inr (nMod, [.int 0, .ref q1, .ref q2, .ref q3, .ref q4, .ref q5, .ref q6, .ref q7, .ref q8, .ref q9, .ref q10, .ref q11, .ref q12, .int 0, .int 0])) :: (q1, .inl (cI, 6, .inl (fun _ => 0))) :: (q2, .inl (cI, 6, .inl (fun _ => 0))) :: (q3, .inl (cI, 6, .inl (fun _ => 0))) :: (q4, .inl (cI, 24, .inl (fun _ => 0))) :: (q5, .inl (cI, 6, .inl (fun _ => 0))) :: (q6, .inl (cI, 20, .inl (fun _ => 0))) :: (q7, .inl (cI, 20, .inl (fun _ => 0))) :: (q8, .inl (cI, 80, .inl (fun _ => 0))) :: (q9, .inl (cI, 80, .inl (fun _ => 0))) :: (q10, .inl (cI, 80, .inl (fun _ => 0))) :: (q11, .inl (cI, 12, .inl (fun _ => 0))) :: (q12, .inl (cI, 3, .inl (fun _ => 0))) :: r) := hD
  obtain ⟨ad, had⟩ : ∃ f : Nat → Nat, f = (fun k => match k with | 17 => a | 18 => q1 | 19 => q2 | 20 => q3 | 21 => q4 | 22 => q5 | 23 => q6 | 24 => q7 | 25 => q8 | 26 => q9 | 27 => q10 | 28 => q11 | 29 => q12 | _ => 0) := ⟨_, rfl⟩
  have hP := k_ext (q0 := 1) (g := cN (modS.1 4)) hP rfl (fun i _ => (by decide +kernel : (0 : Int32) = nI 0))
  have hD := k_extD (q0 := 1) (e' := .inl (cI, 6, .inl (cN (modS.1 4)))) hD rfl
  have hP := k_ext (q0 := 2) (g := cN (modS.1 5)) hP rfl (fun i _ => (by decide +kernel : (0 : Int32) = nI 0))
  have hD := k_extD (q0 := 2) (e' := .inl (cI, 6, .inl (cN (modS.1 5)))) hD rfl
  have hP := k_ext (q0 := 3) (g := cP (modS.1 6)) hP rfl (fun i _ => (by decide +kernel : (0 : Int32) = pI 1))
  have hD := k_extD (q0 := 3) (e' := .inl (cI, 6, .inl (cP (modS.1 6)))) hD rfl
  have hP := k_ext (q0 := 4) (g := cP (modS.1 7)) hP rfl (fun i _ => (by decide +kernel : (0 : Int32) = pI 1))
  have hD := k_extD (q0 := 4) (e' := .inl (cI, 24, .inl (cP (modS.1 7)))) hD rfl
  have hP := k_ext (q0 := 5) (g := cN (modS.1 8)) hP rfl (fun i _ => (by decide +kernel : (0 : Int32) = nI 0))
  have hD := k_extD (q0 := 5) (e' := .inl (cI, 6, .inl (cN (modS.1 8)))) hD rfl
  have hP := k_ext (q0 := 6) (g := cN (modS.1 0)) hP rfl (fun i _ => (by decide +kernel : (0 : Int32) = nI 0))
  have hD := k_extD (q0 := 6) (e' := .inl (cI, 20, .inl (cN (modS.1 0)))) hD rfl
  have hP := k_ext (q0 := 7) (g := cN (modS.1 1)) hP rfl (fun i _ => (by decide +kernel : (0 : Int32) = nI 0))
  have hD := k_extD (q0 := 7) (e' := .inl (cI, 20, .inl (cN (modS.1 1)))) hD rfl
  have hP := k_ext (q0 := 8) (g := cP (modS.1 2)) hP rfl (fun i _ => (by decide +kernel : (0 : Int32) = pI 1))
  have hD := k_extD (q0 := 8) (e' := .inl (cI, 80, .inl (cP (modS.1 2)))) hD rfl
  have hP := k_ext (q0 := 9) (g := cN (modS.1 3)) hP rfl (fun i _ => (by decide +kernel : (0 : Int32) = nI 0))
  have hD := k_extD (q0 := 9) (e' := .inl (cI, 80, .inl (cN (modS.1 3)))) hD rfl
  have hP := k_ext (q0 := 12) (g := cN (modS.1 10)) hP rfl (fun i _ => (by decide +kernel : (0 : Int32) = nI 0))
  have hD := k_extD (q0 := 12) (e' := .inl (cI, 3, .inl (cN (modS.1 10)))) hD rfl
  have hP : va_P D vwCl (wRr ad cI r modS) H := by rw [had]; exact hP
  have hD : va_D (kA s0) (wRr ad cI r modS) := by rw [had]; exact hD
  have had1 : ad 17 = a := by rw [had]; rfl
  clear had
  have hl : lv_has ls 2 [(0, .ref (ad 17))] := by rw [had1]; exact hl
  generalize haa : ([.ref a] : List Value).toArray = aa at hts ⊢
  obtain ⟨σz, eσz⟩ : ∃ z : kS, z = modS := ⟨_, rfl⟩
  rw [← eσz] at hP hD
  refine lv_aload_n hx hb d_Mod_init_99 rfl (lv_at hl 0 rfl) ?_
  refine lv_iconst (v := (nI 1)) hx hb d_Mod_init_100 (by decide) ?_
  refine va_put (D := D) (ci := nMod) (v := .int (nI 1)) (ty := .int) (C := R_Mod) (T := T_Mod) (N := 15) hx hb hts i_Mod ty_Mod ty_Mod_ok nm_Mod hown hK hP hD hS 0 rfl rfl 13 (by decide) (hts _ tw_668) (fun _ h9 => h9) rfl (by decide +kernel) rfl rfl (Nat.le_of_ble_eq_true rfl) d_Mod_init_101 (fun H locs hP hD hS => ?_)
  obtain ⟨σ1, eσ1⟩ : ∃ z : kS, z = (st σz 11 0 1) := ⟨_, rfl⟩
  have hP : va_P D vwCl (wRr ad cI r σ1) H := by rw [eσ1]; exact hP
  have hD : va_D (kA s0) (wRr ad cI r σ1) := by rw [eσ1]; exact hD
  refine lv_iconst (v := (nI 0)) hx hb d_Mod_init_104 (by decide) ?_
  refine lv_istore_n (lv' := [(1, .int (nI 0)), (0, .ref (ad 17))]) hx hb d_Mod_init_105 rfl hl (by decide) rfl (fun ls hl => ?_)
  have L : ∀ (n i : Nat), 0 ≤ i → i + n = 80 → ∀ (H : Heap) (locs : List Loc) (ls : Array Slot), va_P D vwCl (wRr ad cI r (fl σ1 2 i)) H → va_D (kA s0) (wRr ad cI r (fl σ1 2 i)) → va_S (kA s0) s.heap H locs → lv_has ls 2 [(1, .int (nI i)), (0, .ref (ad 17))] → W p l e9 { frames := 2, cells := 12, slots := 343, locals := 60 } s m aa below meth c H locs 12 343 (kE below (.ok (none, ())) (kBm D vwCl s0 (fun ad => ad 17 = a) (fun ad => wRr ad cI r iniS) 12 343) s) (F0 m 106 ls []) := by
    intro n
    induction n with
    | zero =>
      intro i hi0 hi H locs ls hP hD hS hl
      obtain rfl : i = 80 := by omega
      obtain ⟨σ2, eσ2⟩ : ∃ z : kS, z = (fl σ1 2 80) := ⟨_, rfl⟩
      rw [← eσ2] at hP hD
      refine lv_iload_n hx hb d_Mod_init_106 rfl (lv_at hl 0 rfl) ?_
      refine lv_bipush (v := (nI 80)) hx hb d_Mod_init_107 (by decide) ?_
      refine k_geN (tgt := 125) (by decide) (by decide) hx hb d_Mod_init_109 (by decide) (fun _ => ?_) (fun h9 => absurd h9 (by decide))
      refine lv_iconst (v := (nI 0)) hx hb d_Mod_init_125 (by decide) ?_
      refine lv_istore_n (lv' := [(1, .int (nI 0)), (0, .ref (ad 17))]) hx hb d_Mod_init_126 rfl hl (by decide) rfl (fun ls hl => ?_)
      have L : ∀ (n i : Nat), 0 ≤ i → i + n = 24 → ∀ (H : Heap) (locs : List Loc) (ls : Array Slot), va_P D vwCl (wRr ad cI r (fl σ2 7 i)) H → va_D (kA s0) (wRr ad cI r (fl σ2 7 i)) → va_S (kA s0) s.heap H locs → lv_has ls 2 [(1, .int (nI i)), (0, .ref (ad 17))] → W p l e9 { frames := 2, cells := 12, slots := 343, locals := 60 } s m aa below meth c H locs 12 343 (kE below (.ok (none, ())) (kBm D vwCl s0 (fun ad => ad 17 = a) (fun ad => wRr ad cI r iniS) 12 343) s) (F0 m 127 ls []) := by
        intro n
        induction n with
        | zero =>
          intro i hi0 hi H locs ls hP hD hS hl
          obtain rfl : i = 24 := by omega
          obtain ⟨σ3, eσ3⟩ : ∃ z : kS, z = (fl σ2 7 24) := ⟨_, rfl⟩
          rw [← eσ3] at hP hD
          refine lv_iload_n hx hb d_Mod_init_127 rfl (lv_at hl 0 rfl) ?_
          refine lv_bipush (v := (nI 24)) hx hb d_Mod_init_128 (by decide) ?_
          refine k_geN (tgt := 146) (by decide) (by decide) hx hb d_Mod_init_130 (by decide) (fun _ => ?_) (fun h9 => absurd h9 (by decide))
          refine lv_iconst (v := (nI 0)) hx hb d_Mod_init_146 (by decide) ?_
          refine lv_istore_n (lv' := [(1, .int (nI 0)), (0, .ref (ad 17))]) hx hb d_Mod_init_147 rfl hl (by decide) rfl (fun ls hl => ?_)
          have L : ∀ (n i : Nat), 0 ≤ i → i + n = 6 → ∀ (H : Heap) (locs : List Loc) (ls : Array Slot), va_P D vwCl (wRr ad cI r (fl σ3 6 i)) H → va_D (kA s0) (wRr ad cI r (fl σ3 6 i)) → va_S (kA s0) s.heap H locs → lv_has ls 2 [(1, .int (nI i)), (0, .ref (ad 17))] → W p l e9 { frames := 2, cells := 12, slots := 343, locals := 60 } s m aa below meth c H locs 12 343 (kE below (.ok (none, ())) (kBm D vwCl s0 (fun ad => ad 17 = a) (fun ad => wRr ad cI r iniS) 12 343) s) (F0 m 148 ls []) := by
            intro n
            induction n with
            | zero =>
              intro i hi0 hi H locs ls hP hD hS hl
              obtain rfl : i = 6 := by omega
              obtain ⟨σ4, eσ4⟩ : ∃ z : kS, z = (fl σ3 6 6) := ⟨_, rfl⟩
              rw [← eσ4] at hP hD
              refine lv_iload_n hx hb d_Mod_init_148 rfl (lv_at hl 0 rfl) ?_
              refine lv_bipush (v := (nI 6)) hx hb d_Mod_init_149 (by decide) ?_
              refine k_geN (tgt := 167) (by decide) (by decide) hx hb d_Mod_init_151 (by decide) (fun _ => ?_) (fun h9 => absurd h9 (by decide))
              refine lv_aload_n hx hb d_Mod_init_167 rfl (lv_at hl 1 rfl) ?_
              refine va_get (D := D) (ci := nMod) (v := .ref (ad 18)) (C := R_Mod) (T := T_Mod) (N := 15) hx hb hts i_Mod hown hK hP 0 rfl rfl 1 (by decide) (hts _ tw_656) (fun _ h9 => h9) rfl d_Mod_init_168 ?_
              refine lv_iconst (v := (nI 1)) hx hb d_Mod_init_171 (by decide) ?_
              refine lv_iconst (v := (nI 3)) hx hb d_Mod_init_172 (by decide) ?_
              refine k_astN (q0 := 1) (t0 := 0) hx hb hK hP hD hS rfl rfl (by omega) (by decide) d_Mod_init_173 (fun H locs hP hD hS => ?_)
              obtain ⟨σ5, eσ5⟩ : ∃ z : kS, z = (st σ4 4 1 3) := ⟨_, rfl⟩
              have hP : va_P D vwCl (wRr ad cI r σ5) H := by rw [eσ5]; exact hP
              have hD : va_D (kA s0) (wRr ad cI r σ5) := by rw [eσ5]; exact hD
              refine lv_aload_n hx hb d_Mod_init_174 rfl (lv_at hl 1 rfl) ?_
              refine va_get (D := D) (ci := nMod) (v := .ref (ad 20)) (C := R_Mod) (T := T_Mod) (N := 15) hx hb hts i_Mod hown hK hP 0 rfl rfl 3 (by decide) (hts _ tw_658) (fun _ h9 => h9) rfl d_Mod_init_175 ?_
              refine lv_iconst (v := (nI 1)) hx hb d_Mod_init_178 (by decide) ?_
              refine lv_iconst (v := (nI 0)) hx hb d_Mod_init_179 (by decide) ?_
              refine k_st (st' := [.int (pI (0 + 1)), .int (nI 1), .ref (ad 20)]) (by show ([.int (nI 0), .int (nI 1), .ref (ad 20)] : List Value) = _; rw [pI_succ]) ?_
              refine k_astP (q0 := 3) (t0 := 0) hx hb hK hP hD hS rfl rfl (by omega) (by decide) d_Mod_init_180 (fun H locs hP hD hS => ?_)
              obtain ⟨σ6, eσ6⟩ : ∃ z : kS, z = (st σ5 6 1 (0 + 1)) := ⟨_, rfl⟩
              have hP : va_P D vwCl (wRr ad cI r σ6) H := by rw [eσ6]; exact hP
              have hD : va_D (kA s0) (wRr ad cI r σ6) := by rw [eσ6]; exact hD
              refine lv_aload_n hx hb d_Mod_init_181 rfl (lv_at hl 1 rfl) ?_
              refine va_get (D := D) (ci := nMod) (v := .ref (ad 23)) (C := R_Mod) (T := T_Mod) (N := 15) hx hb hts i_Mod hown hK hP 0 rfl rfl 6 (by decide) (hts _ tw_661) (fun _ h9 => h9) rfl d_Mod_init_182 ?_
              refine lv_iconst (v := (nI 0)) hx hb d_Mod_init_185 (by decide) ?_
              refine lv_iconst (v := (nI 1)) hx hb d_Mod_init_186 (by decide) ?_
              refine k_astN (q0 := 6) (t0 := 0) hx hb hK hP hD hS rfl rfl (by omega) (by decide) d_Mod_init_187 (fun H locs hP hD hS => ?_)
              obtain ⟨σ7, eσ7⟩ : ∃ z : kS, z = (st σ6 0 0 1) := ⟨_, rfl⟩
              have hP : va_P D vwCl (wRr ad cI r σ7) H := by rw [eσ7]; exact hP
              have hD : va_D (kA s0) (wRr ad cI r σ7) := by rw [eσ7]; exact hD
              refine lv_aload_n hx hb d_Mod_init_188 rfl (lv_at hl 1 rfl) ?_
              refine va_get (D := D) (ci := nMod) (v := .ref (ad 24)) (C := R_Mod) (T := T_Mod) (N := 15) hx hb hts i_Mod hown hK hP 0 rfl rfl 7 (by decide) (hts _ tw_662) (fun _ h9 => h9) rfl d_Mod_init_189 ?_
              refine lv_iconst (v := (nI 0)) hx hb d_Mod_init_192 (by decide) ?_
              refine lv_iconst (v := (nI 1)) hx hb d_Mod_init_193 (by decide) ?_
              refine k_astN (q0 := 7) (t0 := 0) hx hb hK hP hD hS rfl rfl (by omega) (by decide) d_Mod_init_194 (fun H locs hP hD hS => ?_)
              obtain ⟨σ8, eσ8⟩ : ∃ z : kS, z = (st σ7 1 0 1) := ⟨_, rfl⟩
              have hP : va_P D vwCl (wRr ad cI r σ8) H := by rw [eσ8]; exact hP
              have hD : va_D (kA s0) (wRr ad cI r σ8) := by rw [eσ8]; exact hD
              obtain ⟨hP, hD⟩ := wRr_ext (τ := iniS) (by subst eσ8 eσ7 eσ6 eσ5 eσ4 eσ3 eσ2 eσ1 eσz; exact modS_fin) hP hD
              exact k_retM (ad := ad) hx hb hr hlocks d_Mod_init_195 had1 hP hD hS
            | succ n ih =>
              intro i hi0 hi H locs ls hP hD hS hl
              have hlt : i < 6 := by omega
              obtain ⟨σ9, eσ9⟩ : ∃ z : kS, z = (fl σ3 6 i) := ⟨_, rfl⟩
              rw [← eσ9] at hP hD
              refine lv_iload_n hx hb d_Mod_init_148 rfl (lv_at hl 0 rfl) ?_
              refine lv_bipush (v := (nI 6)) hx hb d_Mod_init_149 (by decide) ?_
              refine k_geN (tgt := 167) (by omega) (by omega) hx hb d_Mod_init_151 (by decide) (fun h9 => absurd h9 (by omega)) (fun _ => ?_)
              refine lv_aload_n hx hb d_Mod_init_154 rfl (lv_at hl 1 rfl) ?_
              refine va_get (D := D) (ci := nMod) (v := .ref (ad 20)) (C := R_Mod) (T := T_Mod) (N := 15) hx hb hts i_Mod hown hK hP 0 rfl rfl 3 (by decide) (hts _ tw_658) (fun _ h9 => h9) rfl d_Mod_init_155 ?_
              refine lv_iload_n hx hb d_Mod_init_158 rfl (lv_at hl 0 rfl) ?_
              refine lv_iconst (v := (pI 0)) hx hb d_Mod_init_159 (by decide) ?_
              refine k_astP (q0 := 3) (t0 := 0) hx hb hK hP hD hS rfl rfl (by omega) (by decide) d_Mod_init_160 (fun H locs hP hD hS => ?_)
              obtain ⟨σ10, eσ10⟩ : ∃ z : kS, z = (st σ9 6 i 0) := ⟨_, rfl⟩
              have hP : va_P D vwCl (wRr ad cI r σ10) H := by rw [eσ10]; exact hP
              have hD : va_D (kA s0) (wRr ad cI r σ10) := by rw [eσ10]; exact hD
              refine lv_iinc (v := (nI (i + 1))) (lv' := [(1, .int (nI (i + 1))), (0, .ref (ad 17))]) hx hb d_Mod_init_161 hl (k := 0) rfl (nI_1 _) (by decide) rfl (fun ls hl => ?_)
              refine lv_goto (tgt := 148) hx hb d_Mod_init_164 (by decide) ?_
              exact ih (i + 1) (by omega) (by omega) H locs ls (by unfold fl; rw [← eσ9, ← eσ10]; exact hP) (by unfold fl; rw [← eσ9, ← eσ10]; exact hD) hS (by exact lv_sub hl [0, 1] rfl)
          exact L (6 - 0) 0 (by omega) (by omega) H _ ls hP hD hS (lv_sub hl [0, 1] rfl)
        | succ n ih =>
          intro i hi0 hi H locs ls hP hD hS hl
          have hlt : i < 24 := by omega
          obtain ⟨σ11, eσ11⟩ : ∃ z : kS, z = (fl σ2 7 i) := ⟨_, rfl⟩
          rw [← eσ11] at hP hD
          refine lv_iload_n hx hb d_Mod_init_127 rfl (lv_at hl 0 rfl) ?_
          refine lv_bipush (v := (nI 24)) hx hb d_Mod_init_128 (by decide) ?_
          refine k_geN (tgt := 146) (by omega) (by omega) hx hb d_Mod_init_130 (by decide) (fun h9 => absurd h9 (by omega)) (fun _ => ?_)
          refine lv_aload_n hx hb d_Mod_init_133 rfl (lv_at hl 1 rfl) ?_
          refine va_get (D := D) (ci := nMod) (v := .ref (ad 21)) (C := R_Mod) (T := T_Mod) (N := 15) hx hb hts i_Mod hown hK hP 0 rfl rfl 4 (by decide) (hts _ tw_659) (fun _ h9 => h9) rfl d_Mod_init_134 ?_
          refine lv_iload_n hx hb d_Mod_init_137 rfl (lv_at hl 0 rfl) ?_
          refine lv_iconst (v := (pI 0)) hx hb d_Mod_init_138 (by decide) ?_
          refine k_astP (q0 := 4) (t0 := 0) hx hb hK hP hD hS rfl rfl (by omega) (by decide) d_Mod_init_139 (fun H locs hP hD hS => ?_)
          obtain ⟨σ12, eσ12⟩ : ∃ z : kS, z = (st σ11 7 i 0) := ⟨_, rfl⟩
          have hP : va_P D vwCl (wRr ad cI r σ12) H := by rw [eσ12]; exact hP
          have hD : va_D (kA s0) (wRr ad cI r σ12) := by rw [eσ12]; exact hD
          refine lv_iinc (v := (nI (i + 1))) (lv' := [(1, .int (nI (i + 1))), (0, .ref (ad 17))]) hx hb d_Mod_init_140 hl (k := 0) rfl (nI_1 _) (by decide) rfl (fun ls hl => ?_)
          refine lv_goto (tgt := 127) hx hb d_Mod_init_143 (by decide) ?_
          exact ih (i + 1) (by omega) (by omega) H locs ls (by unfold fl; rw [← eσ11, ← eσ12]; exact hP) (by unfold fl; rw [← eσ11, ← eσ12]; exact hD) hS (by exact lv_sub hl [0, 1] rfl)
      exact L (24 - 0) 0 (by omega) (by omega) H _ ls hP hD hS (lv_sub hl [0, 1] rfl)
    | succ n ih =>
      intro i hi0 hi H locs ls hP hD hS hl
      have hlt : i < 80 := by omega
      obtain ⟨σ13, eσ13⟩ : ∃ z : kS, z = (fl σ1 2 i) := ⟨_, rfl⟩
      rw [← eσ13] at hP hD
      refine lv_iload_n hx hb d_Mod_init_106 rfl (lv_at hl 0 rfl) ?_
      refine lv_bipush (v := (nI 80)) hx hb d_Mod_init_107 (by decide) ?_
      refine k_geN (tgt := 125) (by omega) (by omega) hx hb d_Mod_init_109 (by decide) (fun h9 => absurd h9 (by omega)) (fun _ => ?_)
      refine lv_aload_n hx hb d_Mod_init_112 rfl (lv_at hl 1 rfl) ?_
      refine va_get (D := D) (ci := nMod) (v := .ref (ad 25)) (C := R_Mod) (T := T_Mod) (N := 15) hx hb hts i_Mod hown hK hP 0 rfl rfl 8 (by decide) (hts _ tw_663) (fun _ h9 => h9) rfl d_Mod_init_113 ?_
      refine lv_iload_n hx hb d_Mod_init_116 rfl (lv_at hl 0 rfl) ?_
      refine lv_iconst (v := (pI 0)) hx hb d_Mod_init_117 (by decide) ?_
      refine k_astP (q0 := 8) (t0 := 0) hx hb hK hP hD hS rfl rfl (by omega) (by decide) d_Mod_init_118 (fun H locs hP hD hS => ?_)
      obtain ⟨σ14, eσ14⟩ : ∃ z : kS, z = (st σ13 2 i 0) := ⟨_, rfl⟩
      have hP : va_P D vwCl (wRr ad cI r σ14) H := by rw [eσ14]; exact hP
      have hD : va_D (kA s0) (wRr ad cI r σ14) := by rw [eσ14]; exact hD
      refine lv_iinc (v := (nI (i + 1))) (lv' := [(1, .int (nI (i + 1))), (0, .ref (ad 17))]) hx hb d_Mod_init_119 hl (k := 0) rfl (nI_1 _) (by decide) rfl (fun ls hl => ?_)
      refine lv_goto (tgt := 106) hx hb d_Mod_init_122 (by decide) ?_
      exact ih (i + 1) (by omega) (by omega) H locs ls (by unfold fl; rw [← eσ13, ← eσ14]; exact hP) (by unfold fl; rw [← eσ13, ← eσ14]; exact hD) hS (by exact lv_sub hl [0, 1] rfl)
  exact L (80 - 0) 0 (by omega) (by omega) H _ ls hP hD hS (lv_sub hl [0, 1] rfl)
