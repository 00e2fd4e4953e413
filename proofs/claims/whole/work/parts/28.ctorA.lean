/-! Constructors. Laid by a program of mine (wip/gen/ctors.py). -/
set_option maxHeartbeats 4000000 in
set_option maxRecDepth 100000 in
theorem c_Mem_init {l : Launch} {s0 : State} {a0 : Array Value} {D : va_G} {cI cL : ClassId} (K0 : k0 l s0 a0 D cI cL) (hcI0 : s0.vm.findClass ("[" ++ (FieldType.int).toString) = some cI) (r : va_W) (a : Nat) : kMet l y_Mem_init (Cond.code y_Mem_init b_Mem_init 2 none) { frames := 4, cells := 6, slots := 286, locals := 120 } [.ref a] (fun U => kEnv s0 U ∧ va_P D vwCl ((a, .inr (nMem, [.null, .null, .null, .null, .null])) :: r) U.heap ∧ va_D (kA s0) ((a, .inr (nMem, [.null, .null, .null, .null, .null])) :: r)) (.ok (none, ())) (kBm D vwCl s0 (fun ad => ad 1 = a) (fun ad => wMr ad cI r zS) 5 280) := by
  refine k_ofI (by decide) (Nat.le_of_ble_eq_true rfl) ?_
  intro p e9 s m below meth c hx hb hr hlocks hown hml hin hpre ls hl
  obtain ⟨hE, hP, hD⟩ := hpre
  obtain ⟨hts, hK⟩ := K0.at (args := ([.ref a] : List Value).toArray) hE
  have hl : lv_has ls 2 [(0, .ref a)] := hl
  have hS : va_S (kA s0) s.heap s.heap [] := va_S.rf
  have hA : ∀ q, s.heap.size ≤ q → kA s0 q := fun q hq => Nat.le_trans hE.2.1 hq
  have hcI : s.vm.findClass ("[" ++ (FieldType.int).toString) = some cI := by rw [hE.1.alike.findClass]; exact hcI0
  refine lv_aload_n hx hb d_Mem_init_0 rfl (lv_at hl 0 rfl) ?_
  refine W.objInit hx hb hown (hts _ tw_26) (hts _ tw_19) (hts _ tw_20) rfl (by rw [hml]; exact hl.1) rfl d_Mem_init_1 (Nat.le_of_ble_eq_true rfl) (Nat.le_of_ble_eq_true rfl) ?_
  refine lv_aload_n hx hb d_Mem_init_4 rfl (lv_at hl 0 rfl) ?_
  refine lv_bipush (v := nI 20) hx hb d_Mem_init_5 (by decide) ?_
  refine k_newI hx hb (hts _ tw_63) hcI hP hD hS hA (by decide) (Nat.le_of_ble_eq_true rfl) (Nat.le_of_ble_eq_true rfl) d_Mem_init_7 (fun q0 H hP hD hS => ?_)
  have hD : va_D (kA s0) ((a, .inr (nMem, [.null, .null, .null, .null, .null])) :: (q0, .inl (cI, 20, .inl (fun _ => 0))) :: r) := k_pD (List.Perm.cons _ (List.perm_append_singleton _ _)) hD
  have hP : va_P D vwCl ((a, .inr (nMem, [.null, .null, .null, .null, .null])) :: (q0, .inl (cI, 20, .inl (fun _ => 0))) :: r) H := k_pP (List.Perm.cons _ (List.perm_append_singleton _ _)) hP
  refine va_putF (D := D) (ci := nMem) (v := .ref q0) (ty := .array .int) (C := R_Mem) (T := T_Mem) (N := 5) hx hb hts i_Mem ty_Mem ty_Mem_ok nm_Mem hown hK hP hD hS 0 rfl rfl 0 (by decide) (hts _ tw_47) (fun _ h9 => h9) rfl hin rfl (by decide +kernel) rfl rfl (Nat.le_of_ble_eq_true rfl) d_Mem_init_9 (fun H locs hP hD hS => ?_)
  have hP : va_P D vwCl ((a, .inr (nMem, [.ref q0, .null, .null, .null, .null])) :: (q0, .inl (cI, 20, .inl (fun _ => 0))) :: r) H := hP
  have hD : va_D (kA s0) ((a, .inr (nMem, [.ref q0, .null, .null, .null, .null])) :: (q0, .inl (cI, 20, .inl (fun _ => 0))) :: r) := hD
  refine lv_aload_n hx hb d_Mem_init_12 rfl (lv_at hl 0 rfl) ?_
  refine lv_bipush (v := nI 20) hx hb d_Mem_init_13 (by decide) ?_
  refine k_newI hx hb (hts _ tw_63) hcI hP hD hS hA (by decide) (Nat.le_of_ble_eq_true rfl) (Nat.le_of_ble_eq_true rfl) d_Mem_init_15 (fun q1 H hP hD hS => ?_)
  have hD : va_D (kA s0) ((a, .inr (nMem, [.ref q0, .null, .null, .null, .null])) :: (q0, .inl (cI, 20, .inl (fun _ => 0))) :: (q1, .inl (cI, 20, .inl (fun _ => 0))) :: r) := k_pD (List.Perm.cons _ (List.Perm.cons _ (List.perm_append_singleton _ _))) hD
  have hP : va_P D vwCl ((a, .inr (nMem, [.ref q0, .null, .null, .null, .null])) :: (q0, .inl (cI, 20, .inl (fun _ => 0))) :: (q1, .inl (cI, 20, .inl (fun _ => 0))) :: r) H := k_pP (List.Perm.cons _ (List.Perm.cons _ (List.perm_append_singleton _ _))) hP
  refine va_putF (D := D) (ci := nMem) (v := .ref q1) (ty := .array .int) (C := R_Mem) (T := T_Mem) (N := 5) hx hb hts i_Mem ty_Mem ty_Mem_ok nm_Mem hown hK hP hD hS 0 rfl rfl 1 (by decide) (hts _ tw_48) (fun _ h9 => h9) rfl hin rfl (by decide +kernel) rfl rfl (Nat.le_of_ble_eq_true rfl) d_Mem_init_17 (fun H locs hP hD hS => ?_)
  have hP : va_P D vwCl ((a, .inr (nMem, [.ref q0, .ref q1, .null, .null, .null])) :: (q0, .inl (cI, 20, .inl (fun _ => 0))) :: (q1, .inl (cI, 20, .inl (fun _ => 0))) :: r) H := hP
  have hD : va_D (kA s0) ((a, .inr (nMem, [.ref q0, .ref q1, .null, .null, .null])) :: (q0, .inl (cI, 20, .inl (fun _ => 0))) :: (q1, .inl (cI, 20, .inl (fun _ => 0))) :: r) := hD
  refine lv_aload_n hx hb d_Mem_init_20 rfl (lv_at hl 0 rfl) ?_
  refine lv_bipush (v := nI 80) hx hb d_Mem_init_21 (by decide) ?_
  refine k_newI hx hb (hts _ tw_63) hcI hP hD hS hA (by decide) (Nat.le_of_ble_eq_true rfl) (Nat.le_of_ble_eq_true rfl) d_Mem_init_23 (fun q2 H hP hD hS => ?_)
  have hD : va_D (kA s0) ((a, .inr (nMem, [.ref q0, .ref q1, .null, .null, .null])) :: (q0, .inl (cI, 20, .inl (fun _ => 0))) :: (q1, .inl (cI, 20, .inl (fun _ => 0))) :: (q2, .inl (cI, 80, .inl (fun _ => 0))) :: r) := k_pD (List.Perm.cons _ (List.Perm.cons _ (List.Perm.cons _ (List.perm_append_singleton _ _)))) hD
  have hP : va_P D vwCl ((a, .inr (nMem, [.ref q0, .ref q1, .null, .null, .null])) :: (q0, .inl (cI, 20, .inl (fun _ => 0))) :: (q1, .inl (cI, 20, .inl (fun _ => 0))) :: (q2, .inl (cI, 80, .inl (fun _ => 0))) :: r) H := k_pP (List.Perm.cons _ (List.Perm.cons _ (List.Perm.cons _ (List.perm_append_singleton _ _)))) hP
  refine va_putF (D := D) (ci := nMem) (v := .ref q2) (ty := .array .int) (C := R_Mem) (T := T_Mem) (N := 5) hx hb hts i_Mem ty_Mem ty_Mem_ok nm_Mem hown hK hP hD hS 0 rfl rfl 2 (by decide) (hts _ tw_49) (fun _ h9 => h9) rfl hin rfl (by decide +kernel) rfl rfl (Nat.le_of_ble_eq_true rfl) d_Mem_init_25 (fun H locs hP hD hS => ?_)
  have hP : va_P D vwCl ((a, .inr (nMem, [.ref q0, .ref q1, .ref q2, .null, .null])) :: (q0, .inl (cI, 20, .inl (fun _ => 0))) :: (q1, .inl (cI, 20, .inl (fun _ => 0))) :: (q2, .inl (cI, 80, .inl (fun _ => 0))) :: r) H := hP
  have hD : va_D (kA s0) ((a, .inr (nMem, [.ref q0, .ref q1, .ref q2, .null, .null])) :: (q0, .inl (cI, 20, .inl (fun _ => 0))) :: (q1, .inl (cI, 20, .inl (fun _ => 0))) :: (q2, .inl (cI, 80, .inl (fun _ => 0))) :: r) := hD
  refine lv_aload_n hx hb d_Mem_init_28 rfl (lv_at hl 0 rfl) ?_
  refine lv_bipush (v := nI 80) hx hb d_Mem_init_29 (by decide) ?_
  refine k_newI hx hb (hts _ tw_63) hcI hP hD hS hA (by decide) (Nat.le_of_ble_eq_true rfl) (Nat.le_of_ble_eq_true rfl) d_Mem_init_31 (fun q3 H hP hD hS => ?_)
  have hD : va_D (kA s0) ((a, .inr (nMem, [.ref q0, .ref q1, .ref q2, .null, .null])) :: (q0, .inl (cI, 20, .inl (fun _ => 0))) :: (q1, .inl (cI, 20, .inl (fun _ => 0))) :: (q2, .inl (cI, 80, .inl (fun _ => 0))) :: (q3, .inl (cI, 80, .inl (fun _ => 0))) :: r) := k_pD (List.Perm.cons _ (List.Perm.cons _ (List.Perm.cons _ (List.Perm.cons _ (List.perm_append_singleton _ _))))) hD
  have hP : va_P D vwCl ((a, .inr (nMem, [.ref q0, .ref q1, .ref q2, .null, .null])) :: (q0, .inl (cI, 20, .inl (fun _ => 0))) :: (q1, .inl (cI, 20, .inl (fun _ => 0))) :: (q2, .inl (cI, 80, .inl (fun _ => 0))) :: (q3, .inl (cI, 80, .inl (fun _ => 0))) :: r) H := k_pP (List.Perm.cons _ (List.Perm.cons _ (List.Perm.cons _ (List.Perm.cons _ (List.perm_append_singleton _ _))))) hP
  refine va_putF (D := D) (ci := nMem) (v := .ref q3) (ty := .array .int) (C := R_Mem) (T := T_Mem) (N := 5) hx hb hts i_Mem ty_Mem ty_Mem_ok nm_Mem hown hK hP hD hS 0 rfl rfl 3 (by decide) (hts _ tw_50) (fun _ h9 => h9) rfl hin rfl (by decide +kernel) rfl rfl (Nat.le_of_ble_eq_true rfl) d_Mem_init_33 (fun H locs hP hD hS => ?_)
  have hP : va_P D vwCl ((a, .inr (nMem, [.ref q0, .ref q1, .ref q2, .ref q3, .null])) :: (q0, .inl (cI, 20, .inl (fun _ => 0))) :: (q1, .inl (cI, 20, .inl (fun _ => 0))) :: (q2, .inl (cI, 80, .inl (fun _ => 0))) :: (q3, .inl (cI, 80, .inl (fun _ => 0))) :: r) H := hP
  have hD : va_D (kA s0) ((a, .inr (nMem, [.ref q0, .ref q1, .ref q2, .ref q3, .null])) :: (q0, .inl (cI, 20, .inl (fun _ => 0))) :: (q1, .inl (cI, 20, .inl (fun _ => 0))) :: (q2, .inl (cI, 80, .inl (fun _ => 0))) :: (q3, .inl (cI, 80, .inl (fun _ => 0))) :: r) := hD
  refine lv_aload_n hx hb d_Mem_init_36 rfl (lv_at hl 0 rfl) ?_
  refine lv_bipush (v := nI 80) hx hb d_Mem_init_37 (by decide) ?_
  refine k_newI hx hb (hts _ tw_63) hcI hP hD hS hA (by decide) (Nat.le_of_ble_eq_true rfl) (Nat.le_of_ble_eq_true rfl) d_Mem_init_39 (fun q4 H hP hD hS => ?_)
  have hD : va_D (kA s0) ((a, .inr (nMem, [.ref q0, .ref q1, .ref q2, .ref q3, .null])) :: (q0, .inl (cI, 20, .inl (fun _ => 0))) :: (q1, .inl (cI, 20, .inl (fun _ => 0))) :: (q2, .inl (cI, 80, .inl (fun _ => 0))) :: (q3, .inl (cI, 80, .inl (fun _ => 0))) :: (q4, .inl (cI, 80, .inl (fun _ => 0))) :: r) := k_pD (List.Perm.cons _ (List.Perm.cons _ (List.Perm.cons _ (List.Perm.cons _ (List.Perm.cons _ (List.perm_append_singleton _ _)))))) hD
  have hP : va_P D vwCl ((a, .inr (nMem, [.ref q0, .ref q1, .ref q2, .ref q3, .null])) :: (q0, .inl (cI, 20, .inl (fun _ => 0))) :: (q1, .inl (cI, 20, .inl (fun _ => 0))) :: (q2, .inl (cI, 80, .inl (fun _ => 0))) :: (q3, .inl (cI, 80, .inl (fun _ => 0))) :: (q4, .inl (cI, 80, .inl (fun _ => 0))) :: r) H := k_pP (List.Perm.cons _ (List.Perm.cons _ (List.Perm.cons _ (List.Perm.cons _ (List.Perm.cons _ (List.perm_append_singleton _ _)))))) hP
  refine va_putF (D := D) (ci := nMem) (v := .ref q4) (ty := .array .int) (C := R_Mem) (T := T_Mem) (N := 5) hx hb hts i_Mem ty_Mem ty_Mem_ok nm_Mem hown hK hP hD hS 0 rfl rfl 4 (by decide) (hts _ tw_51) (fun _ h9 => h9) rfl hin rfl (by decide +kernel) rfl rfl (Nat.le_of_ble_eq_true rfl) d_Mem_init_41 (fun H locs hP hD hS => ?_)
  have hP : va_P D vwCl ((a, .inr (nMem, [.ref q0, .ref q1, .ref q2, .ref q3, .ref q4])) :: (q0, .inl (cI, 20, .inl (fun _ => 0))) :: (q1, .inl (cI, 20, .inl (fun _ => 0))) :: (q2, .inl (cI, 80, .inl (fun _ => 0))) :: (q3, .inl (cI, 80, .inl (fun _ => 0))) :: (q4, .inl (cI, 80, .inl (fun _ => 0))) :: r) H := hP
  have hD : va_D (kA s0) ((a, .inr (nMem, [.ref q0, .ref q1, .ref q2, .ref q3, .ref q4])) :: (q0, .inl (cI, 20, .inl (fun _ => 0))) :: (q1, .inl (cI, 20, .inl (fun _ => 0))) :: (q2, .inl (cI, 80, .inl (fun _ => 0))) :: (q3, .inl (cI, 80, .inl (fun _ => 0))) :: (q4, .inl (cI, 80, .inl (fun _ => 0))) :: r) := hD
  obtain ⟨ad, had⟩ : ∃ f : Nat → Nat, f = (fun k => match k with | 1 => a | 4 => q0 | 5 => q1 | 6 => q2 | 7 => q3 | 8 => q4 | _ => 0) := ⟨_, rfl⟩
  have hP := k_ext (q0 := 1) (g := cN ((entS 0).1 0)) hP rfl (fun i _ => (by decide +kernel : (0 : Int32) = nI 0))
  have hD := k_extD (q0 := 1) (e' := .inl (cI, 20, .inl (cN ((entS 0).1 0)))) hD rfl
  have hP := k_ext (q0 := 2) (g := cN ((entS 0).1 1)) hP rfl (fun i _ => (by decide +kernel : (0 : Int32) = nI 0))
  have hD := k_extD (q0 := 2) (e' := .inl (cI, 20, .inl (cN ((entS 0).1 1)))) hD rfl
  have hP := k_ext (q0 := 3) (g := cP ((entS 0).1 2)) hP rfl (fun i _ => (by decide +kernel : (0 : Int32) = pI 1))
  have hD := k_extD (q0 := 3) (e' := .inl (cI, 80, .inl (cP ((entS 0).1 2)))) hD rfl
  have hP := k_ext (q0 := 4) (g := cN ((entS 0).1 3)) hP rfl (fun i _ => (by decide +kernel : (0 : Int32) = nI 0))
  have hD := k_extD (q0 := 4) (e' := .inl (cI, 80, .inl (cN ((entS 0).1 3)))) hD rfl
  have hP : va_P D vwCl (wMr ad cI r (entS 0)) H := by rw [had]; exact hP
  have hD : va_D (kA s0) (wMr ad cI r (entS 0)) := by rw [had]; exact hD
  have had1 : ad 1 = a := by rw [had]; rfl
  clear had
  refine lv_iconst (v := nI 0) hx hb d_Mem_init_44 (by decide) ?_
  refine lv_istore_n (lv' := [(1, .int (nI 0)), (0, .ref a)]) hx hb d_Mem_init_45 rfl hl (by decide) rfl (fun ls hl => ?_)
  have L : ∀ (n i : Nat), i + n = 20 → ∀ (H : Heap) (locs : List Loc) (ls : Array Slot), va_P D vwCl (wMr ad cI r (entS i)) H → va_D (kA s0) (wMr ad cI r (entS i)) → va_S (kA s0) s.heap H locs → lv_has ls 2 [(1, .int (nI i)), (0, .ref a)] → W p l e9 { frames := 4, cells := 6, slots := 286, locals := 120 } s m ([.ref a] : List Value).toArray below meth c H locs 5 280 (kE below (.ok (none, ())) (kBm D vwCl s0 (fun ad => ad 1 = a) (fun ad => wMr ad cI r zS) 5 280) s) (F0 m 46 ls []) := by
    intro n
    induction n with
    | zero =>
      intro i hi H locs ls hP hD hS hl
      refine lv_iload_n hx hb d_Mem_init_46 rfl (lv_at hl 0 rfl) ?_
      refine lv_bipush (v := nI 20) hx hb d_Mem_init_47 (by decide) ?_
      obtain rfl : i = 20 := by omega
      refine k_geN (tgt := 63) (by omega) (by omega) hx hb d_Mem_init_49 (by decide) (fun _ => ?_) (fun h9 => absurd h9 (by omega))
      have hP := k_ext (q0 := 3) (g := cP (fun _ => 0)) hP rfl (fun i hi => (show pI ((entS 20).1 2 i) = pI 0 by rw [entS_2 hi]))
      have hD := k_extD (q0 := 3) (e' := .inl (cI, 80, .inl (cP (fun _ => 0)))) hD rfl
      exact k_retM (ad := ad) hx hb hr hlocks d_Mem_init_63 had1 hP hD hS
    | succ n ih =>
      intro i hi H locs ls hP hD hS hl
      refine lv_iload_n hx hb d_Mem_init_46 rfl (lv_at hl 0 rfl) ?_
      refine lv_bipush (v := nI 20) hx hb d_Mem_init_47 (by decide) ?_
      refine k_geN (tgt := 63) (by omega) (by omega) hx hb d_Mem_init_49 (by decide) (fun h9 => absurd h9 (by omega)) (fun _ => ?_)
      refine lv_aload_n hx hb d_Mem_init_52 rfl (lv_at hl 1 rfl) ?_
      refine lv_iload_n hx hb d_Mem_init_53 rfl (lv_at hl 0 rfl) ?_
      refine k_st (st' := [.int (nI i), .ref (ad 1)]) (by rw [had1]) ?_
      refine k_callW (k_atV (As := [.int (nI i)]) hx hb hown hE.1 (K0.w tw_30) (hts _ tw_27) (hts _ tw_28) (hts _ tw_29) (hts _ tw_2) (by decide) np_Mem_setFree (va_recv hK hP (ci := nMem) (q0 := 0) rfl rfl) rfl d_Mem_init_54) (c_Mem_setFreeM K0 ad r (entS i) i (by omega)) (hl.1.trans hml.symm) (Nat.le_of_ble_eq_true rfl) ⟨Nat.le_of_ble_eq_true rfl, Nat.le_of_ble_eq_true rfl, Nat.le_of_ble_eq_true rfl, Nat.le_of_ble_eq_true rfl⟩ (fun U hU hW => ⟨hE.go hW hU hS, by rw [hU]; exact hP, hD⟩) hS (fun H locs hP hD hS => ?_)
      rw [entS_step] at hP hD
      refine lv_iinc (v := nI (i + 1)) (lv' := [(1, .int (nI (i + 1))), (0, .ref a)]) hx hb d_Mem_init_57 hl (k := 0) rfl (nI_1 _) (by decide) rfl (fun ls hl => ?_)
      refine lv_goto (tgt := 46) hx hb d_Mem_init_60 (by decide) ?_
      exact ih (i + 1) (by omega) H locs ls hP hD hS hl
  exact L 20 0 (by omega) H _ ls hP hD hS hl
set_option maxHeartbeats 4000000 in
set_option maxRecDepth 100000 in
theorem c_Pro_init {l : Launch} {s0 : State} {a0 : Array Value} {D : va_G} {cI cL : ClassId} (K0 : k0 l s0 a0 D cI cL) (hcI0 : s0.vm.findClass ("[" ++ (FieldType.int).toString) = some cI) (r : va_W) (a : Nat) : kMet l y_Pro_init (Cond.code y_Pro_init b_Pro_init 2 none) { frames := 4, cells := 7, slots := 60, locals := 120 } [.ref a] (fun U => kEnv s0 U ∧ va_P D vwCl ((a, .inr (nPro, [.null, .null, .null, .null, .null, .null])) :: r) U.heap ∧ va_D (kA s0) ((a, .inr (nPro, [.null, .null, .null, .null, .null, .null])) :: r)) (.ok (none, ())) (kBm D vwCl s0 (fun ad => ad 2 = a) (fun ad => wPr ad cI r zS) 6 54) := by
  refine k_ofI (by decide) (Nat.le_of_ble_eq_true rfl) ?_
  intro p e9 s m below meth c hx hb hr hlocks hown hml hin hpre ls hl
  obtain ⟨hE, hP, hD⟩ := hpre
  obtain ⟨hts, hK⟩ := K0.at (args := ([.ref a] : List Value).toArray) hE
  have hl : lv_has ls 2 [(0, .ref a)] := hl
  have hS : va_S (kA s0) s.heap s.heap [] := va_S.rf
  have hA : ∀ q, s.heap.size ≤ q → kA s0 q := fun q hq => Nat.le_trans hE.2.1 hq
  have hcI : s.vm.findClass ("[" ++ (FieldType.int).toString) = some cI := by rw [hE.1.alike.findClass]; exact hcI0
  refine lv_aload_n hx hb d_Pro_init_0 rfl (lv_at hl 0 rfl) ?_
  refine W.objInit hx hb hown (hts _ tw_69) (hts _ tw_19) (hts _ tw_20) rfl (by rw [hml]; exact hl.1) rfl d_Pro_init_1 (Nat.le_of_ble_eq_true rfl) (Nat.le_of_ble_eq_true rfl) ?_
  refine lv_aload_n hx hb d_Pro_init_4 rfl (lv_at hl 0 rfl) ?_
  refine lv_bipush (v := nI 6) hx hb d_Pro_init_5 (by decide) ?_
  refine k_newI hx hb (hts _ tw_63) hcI hP hD hS hA (by decide) (Nat.le_of_ble_eq_true rfl) (Nat.le_of_ble_eq_true rfl) d_Pro_init_7 (fun q0 H hP hD hS => ?_)
  have hD : va_D (kA s0) ((a, .inr (nPro, [.null, .null, .null, .null, .null, .null])) :: (q0, .inl (cI, 6, .inl (fun _ => 0))) :: r) := k_pD (List.Perm.cons _ (List.perm_append_singleton _ _)) hD
  have hP : va_P D vwCl ((a, .inr (nPro, [.null, .null, .null, .null, .null, .null])) :: (q0, .inl (cI, 6, .inl (fun _ => 0))) :: r) H := k_pP (List.Perm.cons _ (List.perm_append_singleton _ _)) hP
  refine va_putF (D := D) (ci := nPro) (v := .ref q0) (ty := .array .int) (C := R_Pro) (T := T_Pro) (N := 6) hx hb hts i_Pro ty_Pro ty_Pro_ok nm_Pro hown hK hP hD hS 0 rfl rfl 0 (by decide) (hts _ tw_82) (fun _ h9 => h9) rfl hin rfl (by decide +kernel) rfl rfl (Nat.le_of_ble_eq_true rfl) d_Pro_init_9 (fun H locs hP hD hS => ?_)
  have hP : va_P D vwCl ((a, .inr (nPro, [.ref q0, .null, .null, .null, .null, .null])) :: (q0, .inl (cI, 6, .inl (fun _ => 0))) :: r) H := hP
  have hD : va_D (kA s0) ((a, .inr (nPro, [.ref q0, .null, .null, .null, .null, .null])) :: (q0, .inl (cI, 6, .inl (fun _ => 0))) :: r) := hD
  refine lv_aload_n hx hb d_Pro_init_12 rfl (lv_at hl 0 rfl) ?_
  refine lv_bipush (v := nI 6) hx hb d_Pro_init_13 (by decide) ?_
  refine k_newI hx hb (hts _ tw_63) hcI hP hD hS hA (by decide) (Nat.le_of_ble_eq_true rfl) (Nat.le_of_ble_eq_true rfl) d_Pro_init_15 (fun q1 H hP hD hS => ?_)
  have hD : va_D (kA s0) ((a, .inr (nPro, [.ref q0, .null, .null, .null, .null, .null])) :: (q0, .inl (cI, 6, .inl (fun _ => 0))) :: (q1, .inl (cI, 6, .inl (fun _ => 0))) :: r) := k_pD (List.Perm.cons _ (List.Perm.cons _ (List.perm_append_singleton _ _))) hD
  have hP : va_P D vwCl ((a, .inr (nPro, [.ref q0, .null, .null, .null, .null, .null])) :: (q0, .inl (cI, 6, .inl (fun _ => 0))) :: (q1, .inl (cI, 6, .inl (fun _ => 0))) :: r) H := k_pP (List.Perm.cons _ (List.Perm.cons _ (List.perm_append_singleton _ _))) hP
  refine va_putF (D := D) (ci := nPro) (v := .ref q1) (ty := .array .int) (C := R_Pro) (T := T_Pro) (N := 6) hx hb hts i_Pro ty_Pro ty_Pro_ok nm_Pro hown hK hP hD hS 0 rfl rfl 1 (by decide) (hts _ tw_83) (fun _ h9 => h9) rfl hin rfl (by decide +kernel) rfl rfl (Nat.le_of_ble_eq_true rfl) d_Pro_init_17 (fun H locs hP hD hS => ?_)
  have hP : va_P D vwCl ((a, .inr (nPro, [.ref q0, .ref q1, .null, .null, .null, .null])) :: (q0, .inl (cI, 6, .inl (fun _ => 0))) :: (q1, .inl (cI, 6, .inl (fun _ => 0))) :: r) H := hP
  have hD : va_D (kA s0) ((a, .inr (nPro, [.ref q0, .ref q1, .null, .null, .null, .null])) :: (q0, .inl (cI, 6, .inl (fun _ => 0))) :: (q1, .inl (cI, 6, .inl (fun _ => 0))) :: r) := hD
  refine lv_aload_n hx hb d_Pro_init_20 rfl (lv_at hl 0 rfl) ?_
  refine lv_bipush (v := nI 6) hx hb d_Pro_init_21 (by decide) ?_
  refine k_newI hx hb (hts _ tw_63) hcI hP hD hS hA (by decide) (Nat.le_of_ble_eq_true rfl) (Nat.le_of_ble_eq_true rfl) d_Pro_init_23 (fun q2 H hP hD hS => ?_)
  have hD : va_D (kA s0) ((a, .inr (nPro, [.ref q0, .ref q1, .null, .null, .null, .null])) :: (q0, .inl (cI, 6, .inl (fun _ => 0))) :: (q1, .inl (cI, 6, .inl (fun _ => 0))) :: (q2, .inl (cI, 6, .inl (fun _ => 0))) :: r) := k_pD (List.Perm.cons _ (List.Perm.cons _ (List.Perm.cons _ (List.perm_append_singleton _ _)))) hD
  have hP : va_P D vwCl ((a, .inr (nPro, [.ref q0, .ref q1, .null, .null, .null, .null])) :: (q0, .inl (cI, 6, .inl (fun _ => 0))) :: (q1, .inl (cI, 6, .inl (fun _ => 0))) :: (q2, .inl (cI, 6, .inl (fun _ => 0))) :: r) H := k_pP (List.Perm.cons _ (List.Perm.cons _ (List.Perm.cons _ (List.perm_append_singleton _ _)))) hP
  refine va_putF (D := D) (ci := nPro) (v := .ref q2) (ty := .array .int) (C := R_Pro) (T := T_Pro) (N := 6) hx hb hts i_Pro ty_Pro ty_Pro_ok nm_Pro hown hK hP hD hS 0 rfl rfl 2 (by decide) (hts _ tw_84) (fun _ h9 => h9) rfl hin rfl (by decide +kernel) rfl rfl (Nat.le_of_ble_eq_true rfl) d_Pro_init_25 (fun H locs hP hD hS => ?_)
  have hP : va_P D vwCl ((a, .inr (nPro, [.ref q0, .ref q1, .ref q2, .null, .null, .null])) :: (q0, .inl (cI, 6, .inl (fun _ => 0))) :: (q1, .inl (cI, 6, .inl (fun _ => 0))) :: (q2, .inl (cI, 6, .inl (fun _ => 0))) :: r) H := hP
  have hD : va_D (kA s0) ((a, .inr (nPro, [.ref q0, .ref q1, .ref q2, .null, .null, .null])) :: (q0, .inl (cI, 6, .inl (fun _ => 0))) :: (q1, .inl (cI, 6, .inl (fun _ => 0))) :: (q2, .inl (cI, 6, .inl (fun _ => 0))) :: r) := hD
  refine lv_aload_n hx hb d_Pro_init_28 rfl (lv_at hl 0 rfl) ?_
  refine lv_bipush (v := nI 24) hx hb d_Pro_init_29 (by decide) ?_
  refine k_newI hx hb (hts _ tw_63) hcI hP hD hS hA (by decide) (Nat.le_of_ble_eq_true rfl) (Nat.le_of_ble_eq_true rfl) d_Pro_init_31 (fun q3 H hP hD hS => ?_)
  have hD : va_D (kA s0) ((a, .inr (nPro, [.ref q0, .ref q1, .ref q2, .null, .null, .null])) :: (q0, .inl (cI, 6, .inl (fun _ => 0))) :: (q1, .inl (cI, 6, .inl (fun _ => 0))) :: (q2, .inl (cI, 6, .inl (fun _ => 0))) :: (q3, .inl (cI, 24, .inl (fun _ => 0))) :: r) := k_pD (List.Perm.cons _ (List.Perm.cons _ (List.Perm.cons _ (List.Perm.cons _ (List.perm_append_singleton _ _))))) hD
  have hP : va_P D vwCl ((a, .inr (nPro, [.ref q0, .ref q1, .ref q2, .null, .null, .null])) :: (q0, .inl (cI, 6, .inl (fun _ => 0))) :: (q1, .inl (cI, 6, .inl (fun _ => 0))) :: (q2, .inl (cI, 6, .inl (fun _ => 0))) :: (q3, .inl (cI, 24, .inl (fun _ => 0))) :: r) H := k_pP (List.Perm.cons _ (List.Perm.cons _ (List.Perm.cons _ (List.Perm.cons _ (List.perm_append_singleton _ _))))) hP
  refine va_putF (D := D) (ci := nPro) (v := .ref q3) (ty := .array .int) (C := R_Pro) (T := T_Pro) (N := 6) hx hb hts i_Pro ty_Pro ty_Pro_ok nm_Pro hown hK hP hD hS 0 rfl rfl 3 (by decide) (hts _ tw_85) (fun _ h9 => h9) rfl hin rfl (by decide +kernel) rfl rfl (Nat.le_of_ble_eq_true rfl) d_Pro_init_33 (fun H locs hP hD hS => ?_)
  have hP : va_P D vwCl ((a, .inr (nPro, [.ref q0, .ref q1, .ref q2, .ref q3, .null, .null])) :: (q0, .inl (cI, 6, .inl (fun _ => 0))) :: (q1, .inl (cI, 6, .inl (fun _ => 0))) :: (q2, .inl (cI, 6, .inl (fun _ => 0))) :: (q3, .inl (cI, 24, .inl (fun _ => 0))) :: r) H := hP
  have hD : va_D (kA s0) ((a, .inr (nPro, [.ref q0, .ref q1, .ref q2, .ref q3, .null, .null])) :: (q0, .inl (cI, 6, .inl (fun _ => 0))) :: (q1, .inl (cI, 6, .inl (fun _ => 0))) :: (q2, .inl (cI, 6, .inl (fun _ => 0))) :: (q3, .inl (cI, 24, .inl (fun _ => 0))) :: r) := hD
  refine lv_aload_n hx hb d_Pro_init_36 rfl (lv_at hl 0 rfl) ?_
  refine lv_bipush (v := nI 6) hx hb d_Pro_init_37 (by decide) ?_
  refine k_newI hx hb (hts _ tw_63) hcI hP hD hS hA (by decide) (Nat.le_of_ble_eq_true rfl) (Nat.le_of_ble_eq_true rfl) d_Pro_init_39 (fun q4 H hP hD hS => ?_)
  have hD : va_D (kA s0) ((a, .inr (nPro, [.ref q0, .ref q1, .ref q2, .ref q3, .null, .null])) :: (q0, .inl (cI, 6, .inl (fun _ => 0))) :: (q1, .inl (cI, 6, .inl (fun _ => 0))) :: (q2, .inl (cI, 6, .inl (fun _ => 0))) :: (q3, .inl (cI, 24, .inl (fun _ => 0))) :: (q4, .inl (cI, 6, .inl (fun _ => 0))) :: r) := k_pD (List.Perm.cons _ (List.Perm.cons _ (List.Perm.cons _ (List.Perm.cons _ (List.Perm.cons _ (List.perm_append_singleton _ _)))))) hD
  have hP : va_P D vwCl ((a, .inr (nPro, [.ref q0, .ref q1, .ref q2, .ref q3, .null, .null])) :: (q0, .inl (cI, 6, .inl (fun _ => 0))) :: (q1, .inl (cI, 6, .inl (fun _ => 0))) :: (q2, .inl (cI, 6, .inl (fun _ => 0))) :: (q3, .inl (cI, 24, .inl (fun _ => 0))) :: (q4, .inl (cI, 6, .inl (fun _ => 0))) :: r) H := k_pP (List.Perm.cons _ (List.Perm.cons _ (List.Perm.cons _ (List.Perm.cons _ (List.Perm.cons _ (List.perm_append_singleton _ _)))))) hP
  refine va_putF (D := D) (ci := nPro) (v := .ref q4) (ty := .array .int) (C := R_Pro) (T := T_Pro) (N := 6) hx hb hts i_Pro ty_Pro ty_Pro_ok nm_Pro hown hK hP hD hS 0 rfl rfl 4 (by decide) (hts _ tw_86) (fun _ h9 => h9) rfl hin rfl (by decide +kernel) rfl rfl (Nat.le_of_ble_eq_true rfl) d_Pro_init_41 (fun H locs hP hD hS => ?_)
  have hP : va_P D vwCl ((a, .inr (nPro, [.ref q0, .ref q1, .ref q2, .ref q3, .ref q4, .null])) :: (q0, .inl (cI, 6, .inl (fun _ => 0))) :: (q1, .inl (cI, 6, .inl (fun _ => 0))) :: (q2, .inl (cI, 6, .inl (fun _ => 0))) :: (q3, .inl (cI, 24, .inl (fun _ => 0))) :: (q4, .inl (cI, 6, .inl (fun _ => 0))) :: r) H := hP
  have hD : va_D (kA s0) ((a, .inr (nPro, [.ref q0, .ref q1, .ref q2, .ref q3, .ref q4, .null])) :: (q0, .inl (cI, 6, .inl (fun _ => 0))) :: (q1, .inl (cI, 6, .inl (fun _ => 0))) :: (q2, .inl (cI, 6, .inl (fun _ => 0))) :: (q3, .inl (cI, 24, .inl (fun _ => 0))) :: (q4, .inl (cI, 6, .inl (fun _ => 0))) :: r) := hD
  refine lv_aload_n hx hb d_Pro_init_44 rfl (lv_at hl 0 rfl) ?_
  refine lv_bipush (v := nI 6) hx hb d_Pro_init_45 (by decide) ?_
  refine k_newI hx hb (hts _ tw_63) hcI hP hD hS hA (by decide) (Nat.le_of_ble_eq_true rfl) (Nat.le_of_ble_eq_true rfl) d_Pro_init_47 (fun q5 H hP hD hS => ?_)
  have hD : va_D (kA s0) ((a, .inr (nPro, [.ref q0, .ref q1, .ref q2, .ref q3, .ref q4, .null])) :: (q0, .inl (cI, 6, .inl (fun _ => 0))) :: (q1, .inl (cI, 6, .inl (fun _ => 0))) :: (q2, .inl (cI, 6, .inl (fun _ => 0))) :: (q3, .inl (cI, 24, .inl (fun _ => 0))) :: (q4, .inl (cI, 6, .inl (fun _ => 0))) :: (q5, .inl (cI, 6, .inl (fun _ => 0))) :: r) := k_pD (List.Perm.cons _ (List.Perm.cons _ (List.Perm.cons _ (List.Perm.cons _ (List.Perm.cons _ (List.Perm.cons _ (List.perm_append_singleton _ _))))))) hD
  have hP : va_P D vwCl ((a, .inr (nPro, [.ref q0, .ref q1, .ref q2, .ref q3, .ref q4, .null])) :: (q0, .inl (cI, 6, .inl (fun _ => 0))) :: (q1, .inl (cI, 6, .inl (fun _ => 0))) :: (q2, .inl (cI, 6, .inl (fun _ => 0))) :: (q3, .inl (cI, 24, .inl (fun _ => 0))) :: (q4, .inl (cI, 6, .inl (fun _ => 0))) :: (q5, .inl (cI, 6, .inl (fun _ => 0))) :: r) H := k_pP (List.Perm.cons _ (List.Perm.cons _ (List.Perm.cons _ (List.Perm.cons _ (List.Perm.cons _ (List.Perm.cons _ (List.perm_append_singleton _ _))))))) hP
  refine va_putF (D := D) (ci := nPro) (v := .ref q5) (ty := .array .int) (C := R_Pro) (T := T_Pro) (N := 6) hx hb hts i_Pro ty_Pro ty_Pro_ok nm_Pro hown hK hP hD hS 0 rfl rfl 5 (by decide) (hts _ tw_87) (fun _ h9 => h9) rfl hin rfl (by decide +kernel) rfl rfl (Nat.le_of_ble_eq_true rfl) d_Pro_init_49 (fun H locs hP hD hS => ?_)
  have hP : va_P D vwCl ((a, .inr (nPro, [.ref q0, .ref q1, .ref q2, .ref q3, .ref q4, .ref q5])) :: (q0, .inl (cI, 6, .inl (fun _ => 0))) :: (q1, .inl (cI, 6, .inl (fun _ => 0))) :: (q2, .inl (cI, 6, .inl (fun _ => 0))) :: (q3, .inl (cI, 24, .inl (fun _ => 0))) :: (q4, .inl (cI, 6, .inl (fun _ => 0))) :: (q5, .inl (cI, 6, .inl (fun _ => 0))) :: r) H := hP
  have hD : va_D (kA s0) ((a, .inr (nPro, [.ref q0, .ref q1, .ref q2, .ref q3, .ref q4, .ref q5])) :: (q0, .inl (cI, 6, .inl (fun _ => 0))) :: (q1, .inl (cI, 6, .inl (fun _ => 0))) :: (q2, .inl (cI, 6, .inl (fun _ => 0))) :: (q3, .inl (cI, 24, .inl (fun _ => 0))) :: (q4, .inl (cI, 6, .inl (fun _ => 0))) :: (q5, .inl (cI, 6, .inl (fun _ => 0))) :: r) := hD
  obtain ⟨ad, had⟩ : ∃ f : Nat → Nat, f = (fun k => match k with | 2 => a | 9 => q0 | 10 => q1 | 11 => q2 | 12 => q3 | 13 => q4 | 14 => q5 | _ => 0) := ⟨_, rfl⟩
  have hP := k_ext (q0 := 1) (g := cN ((begS 0).1 4)) hP rfl (fun i _ => (by decide +kernel : (0 : Int32) = nI 0))
  have hD := k_extD (q0 := 1) (e' := .inl (cI, 6, .inl (cN ((begS 0).1 4)))) hD rfl
  have hP := k_ext (q0 := 2) (g := cN ((begS 0).1 5)) hP rfl (fun i _ => (by decide +kernel : (0 : Int32) = nI 0))
  have hD := k_extD (q0 := 2) (e' := .inl (cI, 6, .inl (cN ((begS 0).1 5)))) hD rfl
  have hP := k_ext (q0 := 3) (g := cP ((begS 0).1 6)) hP rfl (fun i _ => (by decide +kernel : (0 : Int32) = pI 1))
  have hD := k_extD (q0 := 3) (e' := .inl (cI, 6, .inl (cP ((begS 0).1 6)))) hD rfl
  have hP := k_ext (q0 := 4) (g := cP ((begS 0).1 7)) hP rfl (fun i _ => (by decide +kernel : (0 : Int32) = pI 1))
  have hD := k_extD (q0 := 4) (e' := .inl (cI, 24, .inl (cP ((begS 0).1 7)))) hD rfl
  have hP := k_ext (q0 := 5) (g := cN ((begS 0).1 8)) hP rfl (fun i _ => (by decide +kernel : (0 : Int32) = nI 0))
  have hD := k_extD (q0 := 5) (e' := .inl (cI, 6, .inl (cN ((begS 0).1 8)))) hD rfl
  have hP := k_ext (q0 := 6) (g := cN ((begS 0).1 9)) hP rfl (fun i _ => (by decide +kernel : (0 : Int32) = nI 0))
  have hD := k_extD (q0 := 6) (e' := .inl (cI, 6, .inl (cN ((begS 0).1 9)))) hD rfl
  have hP : va_P D vwCl (wPr ad cI r (begS 0)) H := by rw [had]; exact hP
  have hD : va_D (kA s0) (wPr ad cI r (begS 0)) := by rw [had]; exact hD
  have had1 : ad 2 = a := by rw [had]; rfl
  clear had
  refine lv_iconst (v := nI 0) hx hb d_Pro_init_52 (by decide) ?_
  refine lv_istore_n (lv' := [(1, .int (nI 0)), (0, .ref a)]) hx hb d_Pro_init_53 rfl hl (by decide) rfl (fun ls hl => ?_)
  have L : ∀ (n i : Nat), i + n = 6 → ∀ (H : Heap) (locs : List Loc) (ls : Array Slot), va_P D vwCl (wPr ad cI r (begS i)) H → va_D (kA s0) (wPr ad cI r (begS i)) → va_S (kA s0) s.heap H locs → lv_has ls 2 [(1, .int (nI i)), (0, .ref a)] → W p l e9 { frames := 4, cells := 7, slots := 60, locals := 120 } s m ([.ref a] : List Value).toArray below meth c H locs 6 54 (kE below (.ok (none, ())) (kBm D vwCl s0 (fun ad => ad 2 = a) (fun ad => wPr ad cI r zS) 6 54) s) (F0 m 54 ls []) := by
    intro n
    induction n with
    | zero =>
      intro i hi H locs ls hP hD hS hl
      refine lv_iload_n hx hb d_Pro_init_54 rfl (lv_at hl 0 rfl) ?_
      refine lv_iconst (v := nI 5) hx hb d_Pro_init_55 (by decide) ?_
      obtain rfl : i = 6 := by omega
      refine k_gtN (tgt := 70) (by omega) (by omega) hx hb d_Pro_init_56 (by decide) (fun _ => ?_) (fun h9 => absurd h9 (by omega))
      have hP := k_ext (q0 := 3) (g := cP (fun _ => 0)) hP rfl (fun i hi => (show pI ((begS 6).1 6 i) = pI 0 by rw [begS_6 hi]))
      have hD := k_extD (q0 := 3) (e' := .inl (cI, 6, .inl (cP (fun _ => 0)))) hD rfl
      have hP := k_ext (q0 := 4) (g := cP (fun _ => 0)) hP rfl (fun i hi => (show pI ((begS 6).1 7 i) = pI 0 by rw [begS_7 hi]))
      have hD := k_extD (q0 := 4) (e' := .inl (cI, 24, .inl (cP (fun _ => 0)))) hD rfl
      exact k_retM (ad := ad) hx hb hr hlocks d_Pro_init_70 had1 hP hD hS
    | succ n ih =>
      intro i hi H locs ls hP hD hS hl
      refine lv_iload_n hx hb d_Pro_init_54 rfl (lv_at hl 0 rfl) ?_
      refine lv_iconst (v := nI 5) hx hb d_Pro_init_55 (by decide) ?_
      refine k_gtN (tgt := 70) (by omega) (by omega) hx hb d_Pro_init_56 (by decide) (fun h9 => absurd h9 (by omega)) (fun _ => ?_)
      refine lv_aload_n hx hb d_Pro_init_59 rfl (lv_at hl 1 rfl) ?_
      refine lv_iload_n hx hb d_Pro_init_60 rfl (lv_at hl 0 rfl) ?_
      refine k_st (st' := [.int (nI i), .ref (ad 2)]) (by rw [had1]) ?_
      refine k_callW (k_atV (As := [.int (nI i)]) hx hb hown hE.1 (K0.w tw_73) (hts _ tw_70) (hts _ tw_71) (hts _ tw_72) (hts _ tw_3) (by decide) np_Pro_end (va_recv hK hP (ci := nPro) (q0 := 0) rfl rfl) rfl d_Pro_init_61) (c_Pro_endP K0 ad r (begS i) i (by omega)) (hl.1.trans hml.symm) (Nat.le_of_ble_eq_true rfl) ⟨Nat.le_of_ble_eq_true rfl, Nat.le_of_ble_eq_true rfl, Nat.le_of_ble_eq_true rfl, Nat.le_of_ble_eq_true rfl⟩ (fun U hU hW => ⟨hE.go hW hU hS, by rw [hU]; exact hP, hD⟩) hS (fun H locs hP hD hS => ?_)
      rw [begS_step] at hP hD
      refine lv_iinc (v := nI (i + 1)) (lv' := [(1, .int (nI (i + 1))), (0, .ref a)]) hx hb d_Pro_init_64 hl (k := 0) rfl (nI_1 _) (by decide) rfl (fun ls hl => ?_)
      refine lv_goto (tgt := 54) hx hb d_Pro_init_67 (by decide) ?_
      exact ih (i + 1) (by omega) H locs ls hP hD hS hl
  exact L 6 0 (by omega) H _ ls hP hD hS hl
set_option maxHeartbeats 4000000 in
set_option maxRecDepth 100000 in
theorem c_Pip_init {l : Launch} {s0 : State} {a0 : Array Value} {D : va_G} {cI cL : ClassId} (K0 : k0 l s0 a0 D cI cL) (hcI0 : s0.vm.findClass ("[" ++ (FieldType.int).toString) = some cI) (r : va_W) (a : Nat) : kMet l y_Pip_init (Cond.code y_Pip_init b_Pip_init 1 none) { frames := 4, cells := 2, slots := 15, locals := 120 } [.ref a] (fun U => kEnv s0 U ∧ va_P D vwCl ((a, .inr (nPip, [.null, .null])) :: r) U.heap ∧ va_D (kA s0) ((a, .inr (nPip, [.null, .null])) :: r)) (.ok (none, ())) (kBm D vwCl s0 (fun ad => ad 3 = a) (fun ad => wIr ad cI r zS) 2 15) := by
  refine k_ofI (by decide) (Nat.le_of_ble_eq_true rfl) ?_
  intro p e9 s m below meth c hx hb hr hlocks hown hml hin hpre ls hl
  obtain ⟨hE, hP, hD⟩ := hpre
  obtain ⟨hts, hK⟩ := K0.at (args := ([.ref a] : List Value).toArray) hE
  have hl : lv_has ls 1 [(0, .ref a)] := hl
  have hS : va_S (kA s0) s.heap s.heap [] := va_S.rf
  have hA : ∀ q, s.heap.size ≤ q → kA s0 q := fun q hq => Nat.le_trans hE.2.1 hq
  have hcI : s.vm.findClass ("[" ++ (FieldType.int).toString) = some cI := by rw [hE.1.alike.findClass]; exact hcI0
  refine lv_aload_n hx hb d_Pip_init_0 rfl (lv_at hl 0 rfl) ?_
  refine W.objInit hx hb hown (hts _ tw_106) (hts _ tw_19) (hts _ tw_20) rfl (by rw [hml]; exact hl.1) rfl d_Pip_init_1 (Nat.le_of_ble_eq_true rfl) (Nat.le_of_ble_eq_true rfl) ?_
  refine lv_aload_n hx hb d_Pip_init_4 rfl (lv_at hl 0 rfl) ?_
  refine lv_iconst (v := nI 3) hx hb d_Pip_init_5 (by decide) ?_
  refine k_newI hx hb (hts _ tw_63) hcI hP hD hS hA (by decide) (Nat.le_of_ble_eq_true rfl) (Nat.le_of_ble_eq_true rfl) d_Pip_init_6 (fun q0 H hP hD hS => ?_)
  have hD : va_D (kA s0) ((a, .inr (nPip, [.null, .null])) :: (q0, .inl (cI, 3, .inl (fun _ => 0))) :: r) := k_pD (List.Perm.cons _ (List.perm_append_singleton _ _)) hD
  have hP : va_P D vwCl ((a, .inr (nPip, [.null, .null])) :: (q0, .inl (cI, 3, .inl (fun _ => 0))) :: r) H := k_pP (List.Perm.cons _ (List.perm_append_singleton _ _)) hP
  refine va_putF (D := D) (ci := nPip) (v := .ref q0) (ty := .array .int) (C := R_Pip) (T := T_Pip) (N := 2) hx hb hts i_Pip ty_Pip ty_Pip_ok nm_Pip hown hK hP hD hS 0 rfl rfl 0 (by decide) (hts _ tw_107) (fun _ h9 => h9) rfl hin rfl (by decide +kernel) rfl rfl (Nat.le_of_ble_eq_true rfl) d_Pip_init_8 (fun H locs hP hD hS => ?_)
  have hP : va_P D vwCl ((a, .inr (nPip, [.ref q0, .null])) :: (q0, .inl (cI, 3, .inl (fun _ => 0))) :: r) H := hP
  have hD : va_D (kA s0) ((a, .inr (nPip, [.ref q0, .null])) :: (q0, .inl (cI, 3, .inl (fun _ => 0))) :: r) := hD
  refine lv_aload_n hx hb d_Pip_init_11 rfl (lv_at hl 0 rfl) ?_
  refine lv_bipush (v := nI 12) hx hb d_Pip_init_12 (by decide) ?_
  refine k_newI hx hb (hts _ tw_63) hcI hP hD hS hA (by decide) (Nat.le_of_ble_eq_true rfl) (Nat.le_of_ble_eq_true rfl) d_Pip_init_14 (fun q1 H hP hD hS => ?_)
  have hD : va_D (kA s0) ((a, .inr (nPip, [.ref q0, .null])) :: (q0, .inl (cI, 3, .inl (fun _ => 0))) :: (q1, .inl (cI, 12, .inl (fun _ => 0))) :: r) := k_pD (List.Perm.cons _ (List.Perm.cons _ (List.perm_append_singleton _ _))) hD
  have hP : va_P D vwCl ((a, .inr (nPip, [.ref q0, .null])) :: (q0, .inl (cI, 3, .inl (fun _ => 0))) :: (q1, .inl (cI, 12, .inl (fun _ => 0))) :: r) H := k_pP (List.Perm.cons _ (List.Perm.cons _ (List.perm_append_singleton _ _))) hP
  refine va_putF (D := D) (ci := nPip) (v := .ref q1) (ty := .array .int) (C := R_Pip) (T := T_Pip) (N := 2) hx hb hts i_Pip ty_Pip ty_Pip_ok nm_Pip hown hK hP hD hS 0 rfl rfl 1 (by decide) (hts _ tw_108) (fun _ h9 => h9) rfl hin rfl (by decide +kernel) rfl rfl (Nat.le_of_ble_eq_true rfl) d_Pip_init_16 (fun H locs hP hD hS => ?_)
  have hP : va_P D vwCl ((a, .inr (nPip, [.ref q0, .ref q1])) :: (q0, .inl (cI, 3, .inl (fun _ => 0))) :: (q1, .inl (cI, 12, .inl (fun _ => 0))) :: r) H := hP
  have hD : va_D (kA s0) ((a, .inr (nPip, [.ref q0, .ref q1])) :: (q0, .inl (cI, 3, .inl (fun _ => 0))) :: (q1, .inl (cI, 12, .inl (fun _ => 0))) :: r) := hD
  exact k_retM (ad := (fun k => match k with | 3 => a | 15 => q0 | 16 => q1 | _ => 0)) hx hb hr hlocks d_Pip_init_19 rfl hP hD hS
