/-! THE LAW'S LOOP AND START -/
set_option maxHeartbeats 4000000 in
set_option maxRecDepth 100000 in
/-- at the head of the loop, with 5 j ints of the script read -/
theorem law_loop {p : Program} {l : Launch} {e : Env} {s : State} {m : MethodId} {below : List Frame} {meth : Method} {c : Code} {b L : Nat} {xs : Nat → Int32} {D : va_G} {cI cL : ClassId} {ad : Nat → Nat} (hC : lK p l s m meth c b L xs D cI cL) :
    ∀ n j : Nat, 5 * j ≤ L → L + 1 ≤ j + n → lGo p l e s m below meth c b D cI cL (lw_Z below #[Value.ref b] s) ad (5 * j) 23 (31 + j) (725 + 6 * j) := by
  have hC0 := hC
  obtain ⟨K0, KC, hx, hb, hr, hml, hown, hX, hbl, hlocks, hL⟩ := hC
  have hbA : ¬ kA s b := Nat.not_le.mpr hbl
  have hrc : room_1.cells = 1082 := rfl
  have hrs : room_1.slots = 9079 := rfl
  intro n
  induction n with
  | zero =>
    intro j h1 h2
    exact absurd h2 (by omega)
  | succ n ih =>
    intro j hj hn σ τ oo H locs ls hI
    have hI0 := hI
    obtain ⟨hR, hP, hD, hS, hl⟩ := hI
    have KX : W p l e room_1 s m #[Value.ref b] below meth c H locs (31 + j) (725 + 6 * j) (lw_Z below #[Value.ref b] s) (F0 m 1654 ls []) := by
      refine lv_iconst (v := 1) hx hb d_Law_law_1654 (by decide) ?_
      refine va_forget (fun q hq => hS.2.2 q hq) ?_
      refine W.widen (k := 1082) (n := 9079) (by omega) (by omega) ?_
      exact lw_ret hx hb hr hlocks d_Law_law_1655
    refine lv_iload hx hb d_Law_law_23 (lv_at hl 4 rfl) ?_
    refine lv_aload_n hx hb d_Law_law_25 rfl (lv_at hl 0 rfl) ?_
    refine va_slen hx hb hX hbl hbA hS d_Law_law_26 ?_
    refine lv_iconst (v := nI 5) hx hb d_Law_law_27 (by decide) ?_
    refine lv_isub hx hb d_Law_law_28 ?_
    have hcmp : (Int32.ofNat L - nI 5 < nI (5 * j)) ↔ L < 5 * j + 5 := by
      rw [Int32.lt_iff_toInt_lt, show Int32.ofNat L = nI L from rfl, pk_sub_toInt (by omega) (by omega), nI_toInt (by omega)]
      omega
    refine lv_icmp_gt (tgt := 1654) hx hb d_Law_law_29 (by decide) (fun _ => KX) (fun h9 => ?_)
    have hi : 5 * j + 5 ≤ L := Nat.le_of_not_lt (fun h8 => h9 (hcmp.mpr h8))
    refine lc_switch hC0 hi (by rw [hrc]; omega) (by rw [hrs]; omega) ?_ σ τ oo H locs ls hI0
    intro σ τ oo H locs ls hI
    obtain ⟨hR, hP, hD, hS, hl⟩ := hI
    refine lv_iinc (v := nI (5 * (j + 1))) (lv' := [(4, .int (nI (5 * (j + 1)))), (0, .ref b), (1, .ref (ad 0)), (2, .ref (ad 17)), (3, .ref (ad 30))]) hx hb d_Law_law_1648 hl (k := 4) rfl (by rw [show 5 * (j + 1) = 5 * j + 5 by omega]; exact nI_add _ 5) (by decide) rfl (fun ls hl => ?_)
    refine lv_goto (tgt := 23) hx hb d_Law_law_1651 (by decide) ?_
    refine W.widen (k := 31 + (j + 1)) (n := 725 + 6 * (j + 1)) (by omega) (by omega) ?_
    exact ih (j + 1) (by omega) (by omega) σ τ oo H locs ls ⟨hR, hP, hD, hS, lv_sub hl [1, 2, 3, 4, 0] rfl⟩
section LS
variable {l : Launch} {s : State} {b : Nat}
theorem st_strs1 : ∀ q ∈ kStrs, Cond.stringRef R_FK q.1 q.2 ∈ lw_tbl := by decide +kernel
theorem st_strs2 : ∀ q ∈ kStrs, Cond.exactly (.string R_FK q.1) "java/lang/String" ∈ flatC (Jvm.Cond.and given_1 narrow_1) := by decide +kernel
theorem st_nc : ∀ E ∈ kEx, ∀ F ∈ kEx, E ≠ F → Cond.not (.castable E F) ∈ flatC (Jvm.Cond.and given_1 narrow_1) := by decide +kernel
theorem st_nest : Cond.methodLinkNest R_FK 25 y_Pip_init R_FK ∈ lw_tbl := by decide +kernel
theorem st_l1 : Cond.laysStatic Bundle.tN "UNASSIGNED_STACK" Bundle.steD ∈ lw_tbl := by decide +kernel
theorem st_l2 : Cond.laysStatic Bundle.tN "SUPPRESSED_SENTINEL" Bundle.listD ∈ lw_tbl := by decide +kernel
theorem st_r1 : Cond.isRef (.static Bundle.tN "UNASSIGNED_STACK" Bundle.steD) ∈ flatC (Jvm.Cond.and given_1 narrow_1) := by decide +kernel
theorem st_r2 : Cond.isRef (.static Bundle.tN "SUPPRESSED_SENTINEL" Bundle.listD) ∈ flatC (Jvm.Cond.and given_1 narrow_1) := by decide +kernel
/-- what the Statement gives of the start -/
theorem k0_start (hlt : l.stackTraces = false) (hts0 : ∀ w ∈ lw_tbl, w.before #[Value.ref b] s = true) (hgv : (Jvm.Cond.and given_1 narrow_1).before #[Value.ref b] s = true) :
    ∃ (D : va_G) (cI cL : ClassId), k0 l s #[Value.ref b] D cI cL ∧ s.vm.findClass ("[" ++ (FieldType.int).toString) = some cI ∧ s.vm.findClass ("[" ++ (FieldType.long).toString) = some cL := by
  have hts : ∀ w ∈ kTb, w.before #[Value.ref b] s = true := fun w hw => hts0 w (List.mem_filter.mp hw).1
  have hfl := flat_of_before _ hgv
  obtain ⟨c0, i0, hK0⟩ := u_known (C := R_FK) (T := T_FK) (N := 4) (n := 4) hts i_FK (hts _ tw_14)
  obtain ⟨c1, i1, hK1⟩ := u_known (C := R_Mem) (T := T_Mem) (N := 5) (n := 5) hts i_Mem (hts _ tw_22)
  obtain ⟨c2, i2, hK2⟩ := u_known (C := R_Pro) (T := T_Pro) (N := 6) (n := 6) hts i_Pro (hts _ tw_65)
  obtain ⟨c3, i3, hK3⟩ := u_known (C := R_Pip) (T := T_Pip) (N := 2) (n := 2) hts i_Pip (hts _ tw_102)
  obtain ⟨c4, i4, hK4⟩ := u_known (C := R_Mod) (T := T_Mod) (N := 15) (n := 15) hts i_Mod (hts _ tw_650)
  obtain ⟨cI, kI, compI, hcI, hkI, hkindI⟩ := Cond.arrayClass_spec (hts _ tw_63)
  obtain ⟨cL, kL, compL, hcL, hkL, hkindL⟩ := Cond.arrayClass_spec (hts _ tw_858)
  refine ⟨(fun k => match k with | 0 => c0 | 1 => c1 | 2 => c2 | 3 => c3 | _ => c4, fun k => match k with | 0 => i0 | 1 => i1 | 2 => i2 | 3 => i3 | _ => i4), cI, cL, ⟨hts, ⟨hfl _ st_r1, hfl _ st_r2, hts0 _ st_l1, hts0 _ st_l2⟩, hlt, ?_, ?_, ?_⟩, hcI, hcL⟩
  · intro q hq
    obtain ⟨a, c, cA, kA, q1, -⟩ := Cond.exactly_spec (args := #[Value.ref b]) (first := s) (o := none) (s := s) (idx := []) (t := .string R_FK q.1) (cls := "java/lang/String") (hfl _ (st_strs2 q hq))
    exact ⟨a, vk_R.of (hts0 _ (st_strs1 q hq)) q1⟩
  · intro k q hq
    match k, hq with
    | 0, hq => cases hq; exact hK0
    | 1, hq => cases hq; exact hK1
    | 2, hq => cases hq; exact hK2
    | 3, hq => cases hq; exact hK3
    | 4, hq => cases hq; exact hK4
    | k + 5, hq => simp [vwCl] at hq
  · intro k q hq
    match k, hq with
    | 0, hq => cases hq; exact ⟨fun n z => ⟨fun k h => (by cases h), kI, hkI, compI, hkindI⟩, hcI⟩
    | 1, hq => cases hq; exact ⟨fun n z => ⟨fun k h => (by cases h), kL, hkL, compL, hkindL⟩, hcL⟩
    | k + 2, hq => simp at hq
theorem kNC_start (hgv : (Jvm.Cond.and given_1 narrow_1).before #[Value.ref b] s = true) : kNC s := fun E hE F hF hne => va_Nc.of (flat_of_before _ hgv _ (st_nc E hE F hF hne))
end LS
set_option maxHeartbeats 4000000 in
set_option maxRecDepth 100000 in
/-- from the entry, for every script of at most 2560 ints, the law comes to its end with true -/
theorem whole_start {p : Program} {e : Env} {s : State} {m : MethodId} {below : List Frame} {meth : Method} {c : Code} (l : Launch) (hlt : l.stackTraces = false) {b L : Nat} {xs : Nat → Int32} (hL : L ≤ 2560) (C0 : lw_At p s m meth c b L xs) : W p l e room_1 s m #[Value.ref b] below meth c s.heap [] 0 0 (lw_Z below #[Value.ref b] s) (entryFrame m ([Value.ref b] : List Value).toArray 7) := by
  obtain ⟨hx, hb, hr, hml, hown, hts0, hX, hbl, hlocks, hgv⟩ := C0
  have hown : s.vm.findClass R_Law = some m.cls := hown
  have hb : c.code = b_Law_law := hb
  obtain ⟨D, cI, cL, K0, hcI, hcL⟩ := k0_start hlt hts0 hgv
  have KC : kNC s := kNC_start hgv
  have hC : lK p l s m meth c b L xs D cI cL := ⟨K0, KC, hx, hb, hr, hml, hown, hX, hbl, hlocks, hL⟩
  have hE : kEnv s s := kEnv.refl s
  obtain ⟨hts, hK⟩ := K0.at (args := #[Value.ref b]) hE
  have hA : ∀ q : Nat, s.heap.size ≤ q → kA s q := fun _ h => h
  have hS : va_S (kA s) s.heap s.heap [] := va_S.rf
  have hP : va_P D vwCl [] s.heap := fun k q h => by simp at h
  have hD : va_D (kA s) [] := ⟨fun i j p q h => by simp at h, fun k q h => by simp at h⟩
  have hl := lv_entry ([.ref b]) (n := 7) (Nat.le_of_ble_eq_true rfl)
  rw [lg_entry_eq]
  generalize (lg_sl ([.ref b]) ++ List.replicate (7 - (lg_sl ([.ref b])).length) Slot.unset).toArray = ls at hl ⊢
  have hl : lv_has ls 7 [(0, .ref b)] := hl
  refine va_new (ci := nFK) (fs := [.null, .null, .null, .int 0]) (C := R_FK) (T := T_FK) (N := 4) hx hb hts i_FK ty_FK ty_FK_ok hown (hts _ tw_13) (hts _ tw_14) (hts _ tw_1) hK hP hD hS hA rfl (fun j hj => by rcases (show j = 0 ∨ j = 1 ∨ j = 2 ∨ j = 3 by omega) with rfl | rfl | rfl | rfl <;> rfl) (Nat.le_of_ble_eq_true rfl) (Nat.le_of_ble_eq_true rfl) d_Law_law_0 (fun qf H hP hD hS => ?_)
  have hP : va_P D vwCl ((qf, .inr (nFK, [.null, .null, .null, .int 0])) :: []) H := hP
  have hD : va_D (kA s) ((qf, .inr (nFK, [.null, .null, .null, .int 0])) :: []) := hD
  refine lv_dup hx hb d_Law_law_3 rfl ?_
  refine k_callM (k_atI (As := []) hx hb hown hE.1 (K0.w tw_17) (hts _ tw_15) (hts _ tw_16) (hts _ tw_1) rfl (by decide) np_FK_init rfl d_Law_law_4) (c_FK_init K0 hcI (hts0 _ st_nest) qf) (hl.1.trans hml.symm) (Nat.le_of_ble_eq_true rfl) ⟨Nat.le_of_ble_eq_true rfl, Nat.le_of_ble_eq_true rfl, Nat.le_of_ble_eq_true rfl, Nat.le_of_ble_eq_true rfl⟩ (fun U hU hW => ⟨hE.go hW hU hS, by rw [hU]; exact hP, hD⟩) hS (fun ad1 H locs hΦ hPn hDn hSn => ?_)
  subst hΦ
  have hP := hPn
  have hD := hDn
  have hS := hSn
  clear hPn hDn hSn
  have hP : va_P D vwCl (wC ad1 cI [] iniS) H := hP
  have hD : va_D (kA s) (wC ad1 cI [] iniS) := hD
  refine lv_astore_n (lv' := [(1, .ref (ad1 0)), (0, .ref b)]) hx hb d_Law_law_7 rfl hl (by decide) rfl (fun ls hl => ?_)
  refine va_new (ci := nMod) (fs := [.int 0, .null, .null, .null, .null, .null, .null, .null, .null, .null, .null, .null, .null, .int 0, .int 0]) (C := R_Mod) (T := T_Mod) (N := 15) hx hb hts i_Mod ty_Mod ty_Mod_ok hown (hts _ tw_649) (hts _ tw_650) (hts _ tw_5) hK hP hD hS hA rfl (fun j hj => by rcases (show ∀ j, j < 15 → (j = 0 ∨ j = 1 ∨ j = 2 ∨ j = 3 ∨ j = 4 ∨ j = 5 ∨ j = 6 ∨ j = 7 ∨ j = 8 ∨ j = 9 ∨ j = 10 ∨ j = 11 ∨ j = 12 ∨ j = 13 ∨ j = 14) by decide) j hj with rfl | rfl | rfl | rfl | rfl | rfl | rfl | rfl | rfl | rfl | rfl | rfl | rfl | rfl | rfl <;> rfl) (Nat.le_of_ble_eq_true rfl) (Nat.le_of_ble_eq_true rfl) d_Law_law_8 (fun qm H hP hD hS => ?_)
  have hP : va_P D vwCl ((qm, .inr (nMod, [.int 0, .null, .null, .null, .null, .null, .null, .null, .null, .null, .null, .null, .null, .int 0, .int 0])) :: wC ad1 cI [] iniS) H := hP.sub [17, 0, 1, 2, 3, 4, 5, 6, 7, 8, 9, 10, 11, 12, 13, 14, 15, 16] rfl
  have hD : va_D (kA s) ((qm, .inr (nMod, [.int 0, .null, .null, .null, .null, .null, .null, .null, .null, .null, .null, .null, .null, .int 0, .int 0])) :: wC ad1 cI [] iniS) := hD.sub [17, 0, 1, 2, 3, 4, 5, 6, 7, 8, 9, 10, 11, 12, 13, 14, 15, 16] rfl rfl
  refine lv_dup hx hb d_Law_law_11 rfl ?_
  refine k_callM (k_atI (As := []) hx hb hown hE.1 (K0.w tw_653) (hts _ tw_651) (hts _ tw_652) (hts _ tw_5) rfl (by decide) np_Mod_init rfl d_Law_law_12) (c_Mod_init K0 hcI (wC ad1 cI [] iniS) qm) (hl.1.trans hml.symm) (Nat.le_of_ble_eq_true rfl) ⟨Nat.le_of_ble_eq_true rfl, Nat.le_of_ble_eq_true rfl, Nat.le_of_ble_eq_true rfl, Nat.le_of_ble_eq_true rfl⟩ (fun U hU hW => ⟨hE.go hW hU hS, by rw [hU]; exact hP, hD⟩) hS (fun ad2 H locs hΦ hPn hDn hSn => ?_)
  subst hΦ
  have hP := hPn
  have hD := hDn
  have hS := hSn
  clear hPn hDn hSn
  have hP : va_P D vwCl (wRr ad2 cI (wC ad1 cI [] iniS) iniS) H := hP
  have hD : va_D (kA s) (wRr ad2 cI (wC ad1 cI [] iniS) iniS) := hD
  refine lv_astore_n (lv' := [(2, .ref (ad2 17)), (1, .ref (ad1 0)), (0, .ref b)]) hx hb d_Law_law_15 rfl hl (by decide) rfl (fun ls hl => ?_)
  refine lv_iconst (v := nI 1) hx hb d_Law_law_16 (by decide) ?_
  refine k_newL hx hb (hts _ tw_858) hcL hP hD hS hA (by decide) (Nat.le_of_ble_eq_true rfl) (Nat.le_of_ble_eq_true rfl) d_Law_law_17 (fun qo H hP hD hS => ?_)
  obtain ⟨ad, a0, a17, a30, hP, hD⟩ : ∃ ad : Nat → Nat, ad1 0 = ad 0 ∧ ad2 17 = ad 17 ∧ qo = ad 30 ∧ va_P D vwCl (wL ad cI cL iniS (iniS, 0)) H ∧ va_D (kA s) (wL ad cI cL iniS (iniS, 0)) :=
    ⟨fun k => bif Nat.blt k 17 then ad1 k else bif Nat.blt k 30 then ad2 k else qo, rfl, rfl, rfl, hP.sub [13, 14, 15, 16, 17, 18, 19, 20, 21, 22, 23, 24, 25, 26, 27, 28, 29, 0, 1, 2, 3, 4, 5, 6, 7, 8, 9, 10, 11, 12, 30] rfl, hD.sub [13, 14, 15, 16, 17, 18, 19, 20, 21, 22, 23, 24, 25, 26, 27, 28, 29, 0, 1, 2, 3, 4, 5, 6, 7, 8, 9, 10, 11, 12, 30] rfl rfl⟩
  rw [a0, a17] at hl
  rw [a30]
  refine lv_astore_n (lv' := [(3, .ref (ad 30)), (2, .ref (ad 17)), (1, .ref (ad 0)), (0, .ref b)]) hx hb d_Law_law_19 rfl hl (by decide) rfl (fun ls hl => ?_)
  refine lv_iconst (v := nI 0) hx hb d_Law_law_20 (by decide) ?_
  refine lv_istore (lv' := [(4, .int (nI 0)), (3, .ref (ad 30)), (2, .ref (ad 17)), (1, .ref (ad 0)), (0, .ref b)]) hx hb d_Law_law_21 hl (by decide) rfl (fun ls hl => ?_)
  refine W.widen (k := 31 + 0) (n := 725 + 6 * 0) (by decide) (by decide) ?_
  exact law_loop hC (L + 1) 0 (Nat.zero_le _) (by omega) iniS iniS 0 H _ ls ⟨ini_rel, hP, hD, hS, lv_sub hl [4, 3, 2, 1, 0] rfl⟩
