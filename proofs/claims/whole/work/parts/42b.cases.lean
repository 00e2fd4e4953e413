/-! The law's cases, 2 of 4. Laid by a program of mine (wip/gen/law.py). -/
set_option maxHeartbeats 4000000 in
set_option maxRecDepth 100000 in
theorem lc_start {p : Program} {l : Launch} {e : Env} {s : State} {m : MethodId} {below : List Frame} {meth : Method} {c : Code} {b L : Nat} {xs : Nat → Int32} {D : va_G} {cI cL : ClassId} {Q : State → Prop} {ad : Nat → Nat} (hC : lK p l s m meth c b L xs D cI cL) {i cells slots : Nat} (hi : i + 5 ≤ L) (hce : cells + 2 ≤ room_1.cells) (hsl : slots + 12 ≤ room_1.slots) (kk : lGo p l e s m below meth c b D cI cL Q ad i 1648 (cells + 1) (slots + 6)) : lGo p l e s m below meth c b D cI cL Q ad i 608 cells slots := by
  obtain ⟨K0, KC, hx, hb, hr, hml, hown, hX, hbl, hlocks, hL⟩ := hC
  intro σ τ oo H locs ls hI
  obtain ⟨hR, hP, hD, hS, hl⟩ := hI
  have hE : kEnv s s := kEnv.refl s
  obtain ⟨hts, hK⟩ := K0.at (args := #[Value.ref b]) hE
  have hbA : ¬ kA s b := Nat.not_le.mpr hbl
  have hce1 : cells + 1 ≤ room_1.cells := Nat.le_trans (Nat.le_succ _) hce
  have hsl1 : slots + 6 ≤ room_1.slots := Nat.le_trans (Nat.add_le_add_left (by decide) _) hsl
  have hce2 : cells + 1 + 1 ≤ room_1.cells := hce
  have hsl2 : slots + 6 + 6 ≤ room_1.slots := hsl
  have hag : kAg [eIA, eIS] σ (sp_start σ (xs (i + 1))) (fin (t0 τ) (rs_start (t0 τ) (xs (i + 1)))) := ag_start (τ := t0 τ) (kRel_t hR 0 (nI 0)) (sw_g τ 2 0 (nI 0)) (xs (i + 1))
  obtain ⟨⟨z1, τ1⟩, ez⟩ : ∃ z, z = fin (t0 τ) (rs_start (t0 τ) (xs (i + 1))) := ⟨_, rfl⟩
  rw [← ez] at hag
  have hML := c_Law_start K0 KC ad τ σ oo (xs (i + 1)) hR.1 hag
  obtain ⟨kd, v, u, o2, e1, hz1, hz2, hR1, ho⟩ := kAg_all oo (by decide) hag
  rw [e1] at hML
  subst hz1
  have hMo := c_Mod_start K0 ad u (wO ad cL o2) τ (xs (i + 1)) (kOr_of hR)
  rw [← ez] at hMo
  refine lv_aload_n hx hb d_Law_law_608 rfl (lv_at hl 1 rfl) ?_
  refine lv_aload_n hx hb d_Law_law_609 rfl (lv_at hl 0 rfl) ?_
  refine lv_iload hx hb d_Law_law_610 (lv_at hl 4 rfl) ?_
  refine lv_iconst (v := nI 1) hx hb d_Law_law_612 (by decide) ?_
  refine k_addN hx hb d_Law_law_613 ?_
  refine k_scr hx hb hX hbl hbA hS (show i + 1 < L by omega) hL d_Law_law_614 ?_
  refine lv_aload_n hx hb d_Law_law_615 rfl (lv_at hl 3 rfl) ?_
  refine k_callL (k_atS (As := [.ref (ad 0), .int (xs (i + 1)), .ref (ad 30)]) hx hb hown hE.1 (K0.w tw_378) (by rfl) k_w9H (hts _ tw_376) (hts _ tw_377) (hts _ tw_0) (by decide) np_Law_start rfl d_Law_law_616) hML (hl.1.trans hml.symm) (Nat.le_of_ble_eq_true rfl) ⟨Nat.le_of_ble_eq_true rfl, Nat.le_of_ble_eq_true rfl, hce1, hsl1⟩ (fun U hU hW => ⟨hE.go hW hU hS, by rw [hU]; exact hP, hD⟩) hS (fun H locs hP hD hS => ?_)
  have hP : va_P D vwCl (wX ad cI u (wO ad cL o2) τ) H := hP
  have hD : va_D (kA s) (wX ad cI u (wO ad cL o2) τ) := hD
  refine lv_istore (lv' := [(5, .int (nI kd)), (0, .ref b), (1, .ref (ad 0)), (2, .ref (ad 17)), (3, .ref (ad 30)), (4, .int (nI i))]) hx hb d_Law_law_619 hl (by decide) rfl (fun ls hl => ?_)
  refine lv_aload_n hx hb d_Law_law_621 rfl (lv_at hl 3 rfl) ?_
  refine lv_aload_n hx hb d_Law_law_622 rfl (lv_at hl 1 rfl) ?_
  refine lv_iload hx hb d_Law_law_623 (lv_at hl 5 rfl) ?_
  refine lv_iconst (v := nI 1) hx hb d_Law_law_625 (by decide) ?_
  refine k_addN hx hb d_Law_law_626 ?_
  refine k_scr hx hb hX hbl hbA hS (show i + 1 < L by omega) hL d_Law_law_627 ?_
  refine k_callW (k_atV (As := [.int (xs (i + 1))]) hx hb hown hE.1 (K0.w tw_769) (hts _ tw_766) (hts _ tw_767) (hts _ tw_768) (hts _ tw_5) (by decide) np_Mod_start (va_recv hK hP (ci := nMod) (q0 := 17) rfl rfl) rfl d_Law_law_628) hMo (hl.1.trans hml.symm) (Nat.le_of_ble_eq_true rfl) ⟨Nat.le_of_ble_eq_true rfl, Nat.le_of_ble_eq_true rfl, hce2, hsl2⟩ (fun U hU hW => ⟨hE.go hW hU hS, by rw [hU]; exact hP, hD⟩) hS (fun H locs hP hD hS => ?_)
  refine lv_istore (lv' := [(6, .int v), (5, .int (nI kd)), (0, .ref b), (1, .ref (ad 0)), (2, .ref (ad 17)), (3, .ref (ad 30)), (4, .int (nI i))]) hx hb d_Law_law_631 hl (by decide) rfl (fun ls hl => ?_)
  refine lv_aload_n hx hb d_Law_law_633 rfl (lv_at hl 4 rfl) ?_
  refine k_callR (k_atV (As := []) hx hb hown hE.1 (K0.w tw_704) (hts _ tw_701) (hts _ tw_702) (hts _ tw_703) (hts _ tw_5) (by decide) np_Mod_thrown (va_recv hK hP (ci := nMod) (q0 := 17) rfl rfl) rfl d_Law_law_634) (c_Mod_thrown K0 ad u (wO ad cL o2) τ1) (hl.1.trans hml.symm) (Nat.le_of_ble_eq_true rfl) ⟨Nat.le_of_ble_eq_true rfl, Nat.le_of_ble_eq_true rfl, hce2, hsl2⟩ (fun U hU hW => ⟨hE.go hW hU hS, by rw [hU]; exact hP, hD⟩) ?_
  refine lv_iload hx hb d_Law_law_637 (lv_at hl 1 rfl) ?_
  refine lv_icmp_eq (tgt := 644) hx hb d_Law_law_639 (by decide) (fun _ => ?_) (fun h9 => absurd hz2 h9)
  have KE : W p l e room_1 s m #[Value.ref b] below meth c H locs (cells + 1) (slots + 6) Q (F0 m 661 ls []) := by
    refine lv_goto (tgt := 1648) hx hb d_Law_law_661 (by decide) ?_
    exact kk u τ1 o2 H locs ls ⟨hR1, hP, hD, hS, lv_sub hl [2, 3, 4, 5, 6] rfl⟩
  refine lv_iload hx hb d_Law_law_644 (lv_at hl 1 rfl) ?_
  refine lv_if_ne (tgt := 661) hx hb d_Law_law_646 (by decide) (fun _ => KE) (fun h0 => ?_)
  refine lv_aload_n hx hb d_Law_law_649 rfl (lv_at hl 5 rfl) ?_
  refine lv_iconst (v := nI 0) hx hb d_Law_law_650 (by decide) ?_
  refine va_lald hx hb hK hP 30 1 rfl rfl (vp_in_nI (by decide) (by decide)) d_Law_law_651 ?_
  refine lv_iload hx hb d_Law_law_652 (lv_at hl 0 rfl) ?_
  refine lv_i2l hx hb d_Law_law_654 rfl ?_
  refine W.lcmp hx hb d_Law_law_655 ?_
  refine lv_if_eq (tgt := 661) hx hb d_Law_law_656 (by decide) (fun _ => KE) (fun h9 => absurd ?_ h9)
  have ho1 := ho h0
  subst ho1
  exact k_cmp0 _
set_option maxHeartbeats 4000000 in
set_option maxRecDepth 100000 in
theorem lc_give {p : Program} {l : Launch} {e : Env} {s : State} {m : MethodId} {below : List Frame} {meth : Method} {c : Code} {b L : Nat} {xs : Nat → Int32} {D : va_G} {cI cL : ClassId} {Q : State → Prop} {ad : Nat → Nat} (hC : lK p l s m meth c b L xs D cI cL) {i cells slots : Nat} (hi : i + 5 ≤ L) (hce : cells + 2 ≤ room_1.cells) (hsl : slots + 12 ≤ room_1.slots) (kk : lGo p l e s m below meth c b D cI cL Q ad i 1648 (cells + 1) (slots + 6)) : lGo p l e s m below meth c b D cI cL Q ad i 664 cells slots := by
  obtain ⟨K0, KC, hx, hb, hr, hml, hown, hX, hbl, hlocks, hL⟩ := hC
  intro σ τ oo H locs ls hI
  obtain ⟨hR, hP, hD, hS, hl⟩ := hI
  have hE : kEnv s s := kEnv.refl s
  obtain ⟨hts, hK⟩ := K0.at (args := #[Value.ref b]) hE
  have hbA : ¬ kA s b := Nat.not_le.mpr hbl
  have hce1 : cells + 1 ≤ room_1.cells := Nat.le_trans (Nat.le_succ _) hce
  have hsl1 : slots + 6 ≤ room_1.slots := Nat.le_trans (Nat.add_le_add_left (by decide) _) hsl
  have hce2 : cells + 1 + 1 ≤ room_1.cells := hce
  have hsl2 : slots + 6 + 6 ≤ room_1.slots := hsl
  have hag : kAg [eIA, eIS] σ (sp_give σ (xs (i + 1))) (fin (t0 τ) (rs_give (t0 τ) (xs (i + 1)))) := ag_give (τ := t0 τ) (kRel_t hR 0 (nI 0)) (sw_g τ 2 0 (nI 0)) (xs (i + 1))
  obtain ⟨⟨z1, τ1⟩, ez⟩ : ∃ z, z = fin (t0 τ) (rs_give (t0 τ) (xs (i + 1))) := ⟨_, rfl⟩
  rw [← ez] at hag
  have hML := c_Law_give K0 KC ad τ σ oo (xs (i + 1)) hR.1 hag
  obtain ⟨kd, v, u, o2, e1, hz1, hz2, hR1, ho⟩ := kAg_all oo (by decide) hag
  rw [e1] at hML
  subst hz1
  have hMo := c_Mod_give K0 ad u (wO ad cL o2) τ (xs (i + 1)) (kOr_of hR)
  rw [← ez] at hMo
  refine lv_aload_n hx hb d_Law_law_664 rfl (lv_at hl 1 rfl) ?_
  refine lv_aload_n hx hb d_Law_law_665 rfl (lv_at hl 0 rfl) ?_
  refine lv_iload hx hb d_Law_law_666 (lv_at hl 4 rfl) ?_
  refine lv_iconst (v := nI 1) hx hb d_Law_law_668 (by decide) ?_
  refine k_addN hx hb d_Law_law_669 ?_
  refine k_scr hx hb hX hbl hbA hS (show i + 1 < L by omega) hL d_Law_law_670 ?_
  refine lv_aload_n hx hb d_Law_law_671 rfl (lv_at hl 3 rfl) ?_
  refine k_callL (k_atS (As := [.ref (ad 0), .int (xs (i + 1)), .ref (ad 30)]) hx hb hown hE.1 (K0.w tw_390) (by rfl) k_w9H (hts _ tw_388) (hts _ tw_389) (hts _ tw_0) (by decide) np_Law_give rfl d_Law_law_672) hML (hl.1.trans hml.symm) (Nat.le_of_ble_eq_true rfl) ⟨Nat.le_of_ble_eq_true rfl, Nat.le_of_ble_eq_true rfl, hce1, hsl1⟩ (fun U hU hW => ⟨hE.go hW hU hS, by rw [hU]; exact hP, hD⟩) hS (fun H locs hP hD hS => ?_)
  have hP : va_P D vwCl (wX ad cI u (wO ad cL o2) τ) H := hP
  have hD : va_D (kA s) (wX ad cI u (wO ad cL o2) τ) := hD
  refine lv_istore (lv' := [(5, .int (nI kd)), (0, .ref b), (1, .ref (ad 0)), (2, .ref (ad 17)), (3, .ref (ad 30)), (4, .int (nI i))]) hx hb d_Law_law_675 hl (by decide) rfl (fun ls hl => ?_)
  refine lv_aload_n hx hb d_Law_law_677 rfl (lv_at hl 3 rfl) ?_
  refine lv_aload_n hx hb d_Law_law_678 rfl (lv_at hl 1 rfl) ?_
  refine lv_iload hx hb d_Law_law_679 (lv_at hl 5 rfl) ?_
  refine lv_iconst (v := nI 1) hx hb d_Law_law_681 (by decide) ?_
  refine k_addN hx hb d_Law_law_682 ?_
  refine k_scr hx hb hX hbl hbA hS (show i + 1 < L by omega) hL d_Law_law_683 ?_
  refine k_callW (k_atV (As := [.int (xs (i + 1))]) hx hb hown hE.1 (K0.w tw_773) (hts _ tw_770) (hts _ tw_771) (hts _ tw_772) (hts _ tw_5) (by decide) np_Mod_give (va_recv hK hP (ci := nMod) (q0 := 17) rfl rfl) rfl d_Law_law_684) hMo (hl.1.trans hml.symm) (Nat.le_of_ble_eq_true rfl) ⟨Nat.le_of_ble_eq_true rfl, Nat.le_of_ble_eq_true rfl, hce2, hsl2⟩ (fun U hU hW => ⟨hE.go hW hU hS, by rw [hU]; exact hP, hD⟩) hS (fun H locs hP hD hS => ?_)
  refine lv_istore (lv' := [(6, .int v), (5, .int (nI kd)), (0, .ref b), (1, .ref (ad 0)), (2, .ref (ad 17)), (3, .ref (ad 30)), (4, .int (nI i))]) hx hb d_Law_law_687 hl (by decide) rfl (fun ls hl => ?_)
  refine lv_aload_n hx hb d_Law_law_689 rfl (lv_at hl 4 rfl) ?_
  refine k_callR (k_atV (As := []) hx hb hown hE.1 (K0.w tw_704) (hts _ tw_701) (hts _ tw_702) (hts _ tw_703) (hts _ tw_5) (by decide) np_Mod_thrown (va_recv hK hP (ci := nMod) (q0 := 17) rfl rfl) rfl d_Law_law_690) (c_Mod_thrown K0 ad u (wO ad cL o2) τ1) (hl.1.trans hml.symm) (Nat.le_of_ble_eq_true rfl) ⟨Nat.le_of_ble_eq_true rfl, Nat.le_of_ble_eq_true rfl, hce2, hsl2⟩ (fun U hU hW => ⟨hE.go hW hU hS, by rw [hU]; exact hP, hD⟩) ?_
  refine lv_iload hx hb d_Law_law_693 (lv_at hl 1 rfl) ?_
  refine lv_icmp_eq (tgt := 700) hx hb d_Law_law_695 (by decide) (fun _ => ?_) (fun h9 => absurd hz2 h9)
  have KE : W p l e room_1 s m #[Value.ref b] below meth c H locs (cells + 1) (slots + 6) Q (F0 m 717 ls []) := by
    refine lv_goto (tgt := 1648) hx hb d_Law_law_717 (by decide) ?_
    exact kk u τ1 o2 H locs ls ⟨hR1, hP, hD, hS, lv_sub hl [2, 3, 4, 5, 6] rfl⟩
  refine lv_iload hx hb d_Law_law_700 (lv_at hl 1 rfl) ?_
  refine lv_if_ne (tgt := 717) hx hb d_Law_law_702 (by decide) (fun _ => KE) (fun h0 => ?_)
  refine lv_aload_n hx hb d_Law_law_705 rfl (lv_at hl 5 rfl) ?_
  refine lv_iconst (v := nI 0) hx hb d_Law_law_706 (by decide) ?_
  refine va_lald hx hb hK hP 30 1 rfl rfl (vp_in_nI (by decide) (by decide)) d_Law_law_707 ?_
  refine lv_iload hx hb d_Law_law_708 (lv_at hl 0 rfl) ?_
  refine lv_i2l hx hb d_Law_law_710 rfl ?_
  refine W.lcmp hx hb d_Law_law_711 ?_
  refine lv_if_eq (tgt := 717) hx hb d_Law_law_712 (by decide) (fun _ => KE) (fun h9 => absurd ?_ h9)
  have ho1 := ho h0
  subst ho1
  exact k_cmp0 _
set_option maxHeartbeats 4000000 in
set_option maxRecDepth 100000 in
theorem lc_kill {p : Program} {l : Launch} {e : Env} {s : State} {m : MethodId} {below : List Frame} {meth : Method} {c : Code} {b L : Nat} {xs : Nat → Int32} {D : va_G} {cI cL : ClassId} {Q : State → Prop} {ad : Nat → Nat} (hC : lK p l s m meth c b L xs D cI cL) {i cells slots : Nat} (hi : i + 5 ≤ L) (hce : cells + 2 ≤ room_1.cells) (hsl : slots + 12 ≤ room_1.slots) (kk : lGo p l e s m below meth c b D cI cL Q ad i 1648 (cells + 1) (slots + 6)) : lGo p l e s m below meth c b D cI cL Q ad i 720 cells slots := by
  obtain ⟨K0, KC, hx, hb, hr, hml, hown, hX, hbl, hlocks, hL⟩ := hC
  intro σ τ oo H locs ls hI
  obtain ⟨hR, hP, hD, hS, hl⟩ := hI
  have hE : kEnv s s := kEnv.refl s
  obtain ⟨hts, hK⟩ := K0.at (args := #[Value.ref b]) hE
  have hbA : ¬ kA s b := Nat.not_le.mpr hbl
  have hce1 : cells + 1 ≤ room_1.cells := Nat.le_trans (Nat.le_succ _) hce
  have hsl1 : slots + 6 ≤ room_1.slots := Nat.le_trans (Nat.add_le_add_left (by decide) _) hsl
  have hce2 : cells + 1 + 1 ≤ room_1.cells := hce
  have hsl2 : slots + 6 + 6 ≤ room_1.slots := hsl
  have hag : kAg [eIA, eUO, eIS] σ (sp_kill σ (xs (i + 1))) (fin (t0 τ) (rs_kill (t0 τ) (xs (i + 1)))) := ag_kill (τ := t0 τ) (kRel_t hR 0 (nI 0)) (sw_g τ 2 0 (nI 0)) (xs (i + 1))
  obtain ⟨⟨z1, τ1⟩, ez⟩ : ∃ z, z = fin (t0 τ) (rs_kill (t0 τ) (xs (i + 1))) := ⟨_, rfl⟩
  rw [← ez] at hag
  have hML := c_Law_kill K0 KC ad τ σ oo (xs (i + 1)) hR.1 hag
  obtain ⟨kd, v, u, o2, e1, hz1, hz2, hR1, ho⟩ := kAg_all oo (by decide) hag
  rw [e1] at hML
  subst hz1
  have hMo := c_Mod_kill K0 ad u (wO ad cL o2) τ (xs (i + 1)) (kOr_of hR)
  rw [← ez] at hMo
  refine lv_aload_n hx hb d_Law_law_720 rfl (lv_at hl 1 rfl) ?_
  refine lv_aload_n hx hb d_Law_law_721 rfl (lv_at hl 0 rfl) ?_
  refine lv_iload hx hb d_Law_law_722 (lv_at hl 4 rfl) ?_
  refine lv_iconst (v := nI 1) hx hb d_Law_law_724 (by decide) ?_
  refine k_addN hx hb d_Law_law_725 ?_
  refine k_scr hx hb hX hbl hbA hS (show i + 1 < L by omega) hL d_Law_law_726 ?_
  refine lv_aload_n hx hb d_Law_law_727 rfl (lv_at hl 3 rfl) ?_
  refine k_callL (k_atS (As := [.ref (ad 0), .int (xs (i + 1)), .ref (ad 30)]) hx hb hown hE.1 (K0.w tw_406) (by rfl) k_w9H (hts _ tw_404) (hts _ tw_405) (hts _ tw_0) (by decide) np_Law_kill rfl d_Law_law_728) hML (hl.1.trans hml.symm) (Nat.le_of_ble_eq_true rfl) ⟨Nat.le_of_ble_eq_true rfl, Nat.le_of_ble_eq_true rfl, hce1, hsl1⟩ (fun U hU hW => ⟨hE.go hW hU hS, by rw [hU]; exact hP, hD⟩) hS (fun H locs hP hD hS => ?_)
  have hP : va_P D vwCl (wX ad cI u (wO ad cL o2) τ) H := hP
  have hD : va_D (kA s) (wX ad cI u (wO ad cL o2) τ) := hD
  refine lv_istore (lv' := [(5, .int (nI kd)), (0, .ref b), (1, .ref (ad 0)), (2, .ref (ad 17)), (3, .ref (ad 30)), (4, .int (nI i))]) hx hb d_Law_law_731 hl (by decide) rfl (fun ls hl => ?_)
  refine lv_aload_n hx hb d_Law_law_733 rfl (lv_at hl 3 rfl) ?_
  refine lv_aload_n hx hb d_Law_law_734 rfl (lv_at hl 1 rfl) ?_
  refine lv_iload hx hb d_Law_law_735 (lv_at hl 5 rfl) ?_
  refine lv_iconst (v := nI 1) hx hb d_Law_law_737 (by decide) ?_
  refine k_addN hx hb d_Law_law_738 ?_
  refine k_scr hx hb hX hbl hbA hS (show i + 1 < L by omega) hL d_Law_law_739 ?_
  refine k_callW (k_atV (As := [.int (xs (i + 1))]) hx hb hown hE.1 (K0.w tw_781) (hts _ tw_778) (hts _ tw_779) (hts _ tw_780) (hts _ tw_5) (by decide) np_Mod_kill (va_recv hK hP (ci := nMod) (q0 := 17) rfl rfl) rfl d_Law_law_740) hMo (hl.1.trans hml.symm) (Nat.le_of_ble_eq_true rfl) ⟨Nat.le_of_ble_eq_true rfl, Nat.le_of_ble_eq_true rfl, hce2, hsl2⟩ (fun U hU hW => ⟨hE.go hW hU hS, by rw [hU]; exact hP, hD⟩) hS (fun H locs hP hD hS => ?_)
  refine lv_istore (lv' := [(6, .int v), (5, .int (nI kd)), (0, .ref b), (1, .ref (ad 0)), (2, .ref (ad 17)), (3, .ref (ad 30)), (4, .int (nI i))]) hx hb d_Law_law_743 hl (by decide) rfl (fun ls hl => ?_)
  refine lv_aload_n hx hb d_Law_law_745 rfl (lv_at hl 4 rfl) ?_
  refine k_callR (k_atV (As := []) hx hb hown hE.1 (K0.w tw_704) (hts _ tw_701) (hts _ tw_702) (hts _ tw_703) (hts _ tw_5) (by decide) np_Mod_thrown (va_recv hK hP (ci := nMod) (q0 := 17) rfl rfl) rfl d_Law_law_746) (c_Mod_thrown K0 ad u (wO ad cL o2) τ1) (hl.1.trans hml.symm) (Nat.le_of_ble_eq_true rfl) ⟨Nat.le_of_ble_eq_true rfl, Nat.le_of_ble_eq_true rfl, hce2, hsl2⟩ (fun U hU hW => ⟨hE.go hW hU hS, by rw [hU]; exact hP, hD⟩) ?_
  refine lv_iload hx hb d_Law_law_749 (lv_at hl 1 rfl) ?_
  refine lv_icmp_eq (tgt := 756) hx hb d_Law_law_751 (by decide) (fun _ => ?_) (fun h9 => absurd hz2 h9)
  have KE : W p l e room_1 s m #[Value.ref b] below meth c H locs (cells + 1) (slots + 6) Q (F0 m 773 ls []) := by
    refine lv_goto (tgt := 1648) hx hb d_Law_law_773 (by decide) ?_
    exact kk u τ1 o2 H locs ls ⟨hR1, hP, hD, hS, lv_sub hl [2, 3, 4, 5, 6] rfl⟩
  refine lv_iload hx hb d_Law_law_756 (lv_at hl 1 rfl) ?_
  refine lv_if_ne (tgt := 773) hx hb d_Law_law_758 (by decide) (fun _ => KE) (fun h0 => ?_)
  refine lv_aload_n hx hb d_Law_law_761 rfl (lv_at hl 5 rfl) ?_
  refine lv_iconst (v := nI 0) hx hb d_Law_law_762 (by decide) ?_
  refine va_lald hx hb hK hP 30 1 rfl rfl (vp_in_nI (by decide) (by decide)) d_Law_law_763 ?_
  refine lv_iload hx hb d_Law_law_764 (lv_at hl 0 rfl) ?_
  refine lv_i2l hx hb d_Law_law_766 rfl ?_
  refine W.lcmp hx hb d_Law_law_767 ?_
  refine lv_if_eq (tgt := 773) hx hb d_Law_law_768 (by decide) (fun _ => KE) (fun h9 => absurd ?_ h9)
  have ho1 := ho h0
  subst ho1
  exact k_cmp0 _
set_option maxHeartbeats 4000000 in
set_option maxRecDepth 100000 in
theorem lc_reap {p : Program} {l : Launch} {e : Env} {s : State} {m : MethodId} {below : List Frame} {meth : Method} {c : Code} {b L : Nat} {xs : Nat → Int32} {D : va_G} {cI cL : ClassId} {Q : State → Prop} {ad : Nat → Nat} (hC : lK p l s m meth c b L xs D cI cL) {i cells slots : Nat} (hi : i + 5 ≤ L) (hce : cells + 2 ≤ room_1.cells) (hsl : slots + 12 ≤ room_1.slots) (kk : lGo p l e s m below meth c b D cI cL Q ad i 1648 (cells + 1) (slots + 6)) : lGo p l e s m below meth c b D cI cL Q ad i 776 cells slots := by
  obtain ⟨K0, KC, hx, hb, hr, hml, hown, hX, hbl, hlocks, hL⟩ := hC
  intro σ τ oo H locs ls hI
  obtain ⟨hR, hP, hD, hS, hl⟩ := hI
  have hE : kEnv s s := kEnv.refl s
  obtain ⟨hts, hK⟩ := K0.at (args := #[Value.ref b]) hE
  have hbA : ¬ kA s b := Nat.not_le.mpr hbl
  have hce1 : cells + 1 ≤ room_1.cells := Nat.le_trans (Nat.le_succ _) hce
  have hsl1 : slots + 6 ≤ room_1.slots := Nat.le_trans (Nat.add_le_add_left (by decide) _) hsl
  have hce2 : cells + 1 + 1 ≤ room_1.cells := hce
  have hsl2 : slots + 6 + 6 ≤ room_1.slots := hsl
  have hag : kAg [eIA, eIS] σ (sp_reap σ (xs (i + 1))) (fin (t0 τ) (rs_reap (t0 τ) (xs (i + 1)))) := ag_reap (τ := t0 τ) (kRel_t hR 0 (nI 0)) (sw_g τ 2 0 (nI 0)) (xs (i + 1))
  obtain ⟨⟨z1, τ1⟩, ez⟩ : ∃ z, z = fin (t0 τ) (rs_reap (t0 τ) (xs (i + 1))) := ⟨_, rfl⟩
  rw [← ez] at hag
  have hML := c_Law_reap K0 KC ad τ σ oo (xs (i + 1)) hR.1 hag
  obtain ⟨kd, v, u, o2, e1, hz1, hz2, hR1, ho⟩ := kAg_all oo (by decide) hag
  rw [e1] at hML
  subst hz1
  have hMo := c_Mod_reap K0 ad u (wO ad cL o2) τ (xs (i + 1)) (kOr_of hR)
  rw [← ez] at hMo
  refine lv_aload_n hx hb d_Law_law_776 rfl (lv_at hl 1 rfl) ?_
  refine lv_aload_n hx hb d_Law_law_777 rfl (lv_at hl 0 rfl) ?_
  refine lv_iload hx hb d_Law_law_778 (lv_at hl 4 rfl) ?_
  refine lv_iconst (v := nI 1) hx hb d_Law_law_780 (by decide) ?_
  refine k_addN hx hb d_Law_law_781 ?_
  refine k_scr hx hb hX hbl hbA hS (show i + 1 < L by omega) hL d_Law_law_782 ?_
  refine lv_aload_n hx hb d_Law_law_783 rfl (lv_at hl 3 rfl) ?_
  refine k_callL (k_atS (As := [.ref (ad 0), .int (xs (i + 1)), .ref (ad 30)]) hx hb hown hE.1 (K0.w tw_436) (by rfl) k_w9H (hts _ tw_434) (hts _ tw_435) (hts _ tw_0) (by decide) np_Law_reap rfl d_Law_law_784) hML (hl.1.trans hml.symm) (Nat.le_of_ble_eq_true rfl) ⟨Nat.le_of_ble_eq_true rfl, Nat.le_of_ble_eq_true rfl, hce1, hsl1⟩ (fun U hU hW => ⟨hE.go hW hU hS, by rw [hU]; exact hP, hD⟩) hS (fun H locs hP hD hS => ?_)
  have hP : va_P D vwCl (wX ad cI u (wO ad cL o2) τ) H := hP
  have hD : va_D (kA s) (wX ad cI u (wO ad cL o2) τ) := hD
  refine lv_istore (lv' := [(5, .int (nI kd)), (0, .ref b), (1, .ref (ad 0)), (2, .ref (ad 17)), (3, .ref (ad 30)), (4, .int (nI i))]) hx hb d_Law_law_787 hl (by decide) rfl (fun ls hl => ?_)
  refine lv_aload_n hx hb d_Law_law_789 rfl (lv_at hl 3 rfl) ?_
  refine lv_aload_n hx hb d_Law_law_790 rfl (lv_at hl 1 rfl) ?_
  refine lv_iload hx hb d_Law_law_791 (lv_at hl 5 rfl) ?_
  refine lv_iconst (v := nI 1) hx hb d_Law_law_793 (by decide) ?_
  refine k_addN hx hb d_Law_law_794 ?_
  refine k_scr hx hb hX hbl hbA hS (show i + 1 < L by omega) hL d_Law_law_795 ?_
  refine k_callW (k_atV (As := [.int (xs (i + 1))]) hx hb hown hE.1 (K0.w tw_793) (hts _ tw_790) (hts _ tw_791) (hts _ tw_792) (hts _ tw_5) (by decide) np_Mod_reap (va_recv hK hP (ci := nMod) (q0 := 17) rfl rfl) rfl d_Law_law_796) hMo (hl.1.trans hml.symm) (Nat.le_of_ble_eq_true rfl) ⟨Nat.le_of_ble_eq_true rfl, Nat.le_of_ble_eq_true rfl, hce2, hsl2⟩ (fun U hU hW => ⟨hE.go hW hU hS, by rw [hU]; exact hP, hD⟩) hS (fun H locs hP hD hS => ?_)
  refine lv_istore (lv' := [(6, .int v), (5, .int (nI kd)), (0, .ref b), (1, .ref (ad 0)), (2, .ref (ad 17)), (3, .ref (ad 30)), (4, .int (nI i))]) hx hb d_Law_law_799 hl (by decide) rfl (fun ls hl => ?_)
  refine lv_aload_n hx hb d_Law_law_801 rfl (lv_at hl 4 rfl) ?_
  refine k_callR (k_atV (As := []) hx hb hown hE.1 (K0.w tw_704) (hts _ tw_701) (hts _ tw_702) (hts _ tw_703) (hts _ tw_5) (by decide) np_Mod_thrown (va_recv hK hP (ci := nMod) (q0 := 17) rfl rfl) rfl d_Law_law_802) (c_Mod_thrown K0 ad u (wO ad cL o2) τ1) (hl.1.trans hml.symm) (Nat.le_of_ble_eq_true rfl) ⟨Nat.le_of_ble_eq_true rfl, Nat.le_of_ble_eq_true rfl, hce2, hsl2⟩ (fun U hU hW => ⟨hE.go hW hU hS, by rw [hU]; exact hP, hD⟩) ?_
  refine lv_iload hx hb d_Law_law_805 (lv_at hl 1 rfl) ?_
  refine lv_icmp_eq (tgt := 812) hx hb d_Law_law_807 (by decide) (fun _ => ?_) (fun h9 => absurd hz2 h9)
  have KE : W p l e room_1 s m #[Value.ref b] below meth c H locs (cells + 1) (slots + 6) Q (F0 m 829 ls []) := by
    refine lv_goto (tgt := 1648) hx hb d_Law_law_829 (by decide) ?_
    exact kk u τ1 o2 H locs ls ⟨hR1, hP, hD, hS, lv_sub hl [2, 3, 4, 5, 6] rfl⟩
  refine lv_iload hx hb d_Law_law_812 (lv_at hl 1 rfl) ?_
  refine lv_if_ne (tgt := 829) hx hb d_Law_law_814 (by decide) (fun _ => KE) (fun h0 => ?_)
  refine lv_aload_n hx hb d_Law_law_817 rfl (lv_at hl 5 rfl) ?_
  refine lv_iconst (v := nI 0) hx hb d_Law_law_818 (by decide) ?_
  refine va_lald hx hb hK hP 30 1 rfl rfl (vp_in_nI (by decide) (by decide)) d_Law_law_819 ?_
  refine lv_iload hx hb d_Law_law_820 (lv_at hl 0 rfl) ?_
  refine lv_i2l hx hb d_Law_law_822 rfl ?_
  refine W.lcmp hx hb d_Law_law_823 ?_
  refine lv_if_eq (tgt := 829) hx hb d_Law_law_824 (by decide) (fun _ => KE) (fun h9 => absurd ?_ h9)
  have ho1 := ho h0
  subst ho1
  exact k_cmp0 _
set_option maxHeartbeats 4000000 in
set_option maxRecDepth 100000 in
theorem lc_open {p : Program} {l : Launch} {e : Env} {s : State} {m : MethodId} {below : List Frame} {meth : Method} {c : Code} {b L : Nat} {xs : Nat → Int32} {D : va_G} {cI cL : ClassId} {Q : State → Prop} {ad : Nat → Nat} (hC : lK p l s m meth c b L xs D cI cL) {i cells slots : Nat} (hi : i + 5 ≤ L) (hce : cells + 2 ≤ room_1.cells) (hsl : slots + 12 ≤ room_1.slots) (kk : lGo p l e s m below meth c b D cI cL Q ad i 1648 (cells + 1) (slots + 6)) : lGo p l e s m below meth c b D cI cL Q ad i 832 cells slots := by
  obtain ⟨K0, KC, hx, hb, hr, hml, hown, hX, hbl, hlocks, hL⟩ := hC
  intro σ τ oo H locs ls hI
  obtain ⟨hR, hP, hD, hS, hl⟩ := hI
  have hE : kEnv s s := kEnv.refl s
  obtain ⟨hts, hK⟩ := K0.at (args := #[Value.ref b]) hE
  have hbA : ¬ kA s b := Nat.not_le.mpr hbl
  have hce1 : cells + 1 ≤ room_1.cells := Nat.le_trans (Nat.le_succ _) hce
  have hsl1 : slots + 6 ≤ room_1.slots := Nat.le_trans (Nat.add_le_add_left (by decide) _) hsl
  have hce2 : cells + 1 + 1 ≤ room_1.cells := hce
  have hsl2 : slots + 6 + 6 ≤ room_1.slots := hsl
  have hag : kAg [eIA, eUO, eIS] σ (sp_open σ (xs (i + 1)) (xs (i + 2)) (xs (i + 3))) (fin (t0 τ) (rs_open (t0 τ) (xs (i + 1)) (xs (i + 2)) (xs (i + 3)))) := ag_open (τ := t0 τ) (kRel_t hR 0 (nI 0)) (sw_g τ 2 0 (nI 0)) (xs (i + 1)) (xs (i + 2)) (xs (i + 3))
  obtain ⟨⟨z1, τ1⟩, ez⟩ : ∃ z, z = fin (t0 τ) (rs_open (t0 τ) (xs (i + 1)) (xs (i + 2)) (xs (i + 3))) := ⟨_, rfl⟩
  rw [← ez] at hag
  have hML := c_Law_open K0 KC ad τ σ oo (xs (i + 1)) (xs (i + 2)) (xs (i + 3)) hR.1 hag
  obtain ⟨kd, v, u, o2, e1, hz1, hz2, hR1, ho⟩ := kAg_all oo (by decide) hag
  rw [e1] at hML
  subst hz1
  have hMo := c_Mod_open K0 ad u (wO ad cL o2) τ (xs (i + 1)) (xs (i + 2)) (xs (i + 3)) (kOr_of hR)
  rw [← ez] at hMo
  refine lv_aload_n hx hb d_Law_law_832 rfl (lv_at hl 1 rfl) ?_
  refine lv_aload_n hx hb d_Law_law_833 rfl (lv_at hl 0 rfl) ?_
  refine lv_iload hx hb d_Law_law_834 (lv_at hl 4 rfl) ?_
  refine lv_iconst (v := nI 1) hx hb d_Law_law_836 (by decide) ?_
  refine k_addN hx hb d_Law_law_837 ?_
  refine k_scr hx hb hX hbl hbA hS (show i + 1 < L by omega) hL d_Law_law_838 ?_
  refine lv_aload_n hx hb d_Law_law_839 rfl (lv_at hl 0 rfl) ?_
  refine lv_iload hx hb d_Law_law_840 (lv_at hl 4 rfl) ?_
  refine lv_iconst (v := nI 2) hx hb d_Law_law_842 (by decide) ?_
  refine k_addN hx hb d_Law_law_843 ?_
  refine k_scr hx hb hX hbl hbA hS (show i + 2 < L by omega) hL d_Law_law_844 ?_
  refine lv_aload_n hx hb d_Law_law_845 rfl (lv_at hl 0 rfl) ?_
  refine lv_iload hx hb d_Law_law_846 (lv_at hl 4 rfl) ?_
  refine lv_iconst (v := nI 3) hx hb d_Law_law_848 (by decide) ?_
  refine k_addN hx hb d_Law_law_849 ?_
  refine k_scr hx hb hX hbl hbA hS (show i + 3 < L by omega) hL d_Law_law_850 ?_
  refine lv_aload_n hx hb d_Law_law_851 rfl (lv_at hl 3 rfl) ?_
  refine k_callL (k_atS (As := [.ref (ad 0), .int (xs (i + 1)), .int (xs (i + 2)), .int (xs (i + 3)), .ref (ad 30)]) hx hb hown hE.1 (K0.w tw_462) (by rfl) k_w9H (hts _ tw_460) (hts _ tw_461) (hts _ tw_0) (by decide) np_Law_open rfl d_Law_law_852) hML (hl.1.trans hml.symm) (Nat.le_of_ble_eq_true rfl) ⟨Nat.le_of_ble_eq_true rfl, Nat.le_of_ble_eq_true rfl, hce1, hsl1⟩ (fun U hU hW => ⟨hE.go hW hU hS, by rw [hU]; exact hP, hD⟩) hS (fun H locs hP hD hS => ?_)
  have hP : va_P D vwCl (wX ad cI u (wO ad cL o2) τ) H := hP
  have hD : va_D (kA s) (wX ad cI u (wO ad cL o2) τ) := hD
  refine lv_istore (lv' := [(5, .int (nI kd)), (0, .ref b), (1, .ref (ad 0)), (2, .ref (ad 17)), (3, .ref (ad 30)), (4, .int (nI i))]) hx hb d_Law_law_855 hl (by decide) rfl (fun ls hl => ?_)
  refine lv_aload_n hx hb d_Law_law_857 rfl (lv_at hl 3 rfl) ?_
  refine lv_aload_n hx hb d_Law_law_858 rfl (lv_at hl 1 rfl) ?_
  refine lv_iload hx hb d_Law_law_859 (lv_at hl 5 rfl) ?_
  refine lv_iconst (v := nI 1) hx hb d_Law_law_861 (by decide) ?_
  refine k_addN hx hb d_Law_law_862 ?_
  refine k_scr hx hb hX hbl hbA hS (show i + 1 < L by omega) hL d_Law_law_863 ?_
  refine lv_aload_n hx hb d_Law_law_864 rfl (lv_at hl 1 rfl) ?_
  refine lv_iload hx hb d_Law_law_865 (lv_at hl 5 rfl) ?_
  refine lv_iconst (v := nI 2) hx hb d_Law_law_867 (by decide) ?_
  refine k_addN hx hb d_Law_law_868 ?_
  refine k_scr hx hb hX hbl hbA hS (show i + 2 < L by omega) hL d_Law_law_869 ?_
  refine lv_aload_n hx hb d_Law_law_870 rfl (lv_at hl 1 rfl) ?_
  refine lv_iload hx hb d_Law_law_871 (lv_at hl 5 rfl) ?_
  refine lv_iconst (v := nI 3) hx hb d_Law_law_873 (by decide) ?_
  refine k_addN hx hb d_Law_law_874 ?_
  refine k_scr hx hb hX hbl hbA hS (show i + 3 < L by omega) hL d_Law_law_875 ?_
  refine k_callW (k_atV (As := [.int (xs (i + 1)), .int (xs (i + 2)), .int (xs (i + 3))]) hx hb hown hE.1 (K0.w tw_801) (hts _ tw_798) (hts _ tw_799) (hts _ tw_800) (hts _ tw_5) (by decide) np_Mod_open (va_recv hK hP (ci := nMod) (q0 := 17) rfl rfl) rfl d_Law_law_876) hMo (hl.1.trans hml.symm) (Nat.le_of_ble_eq_true rfl) ⟨Nat.le_of_ble_eq_true rfl, Nat.le_of_ble_eq_true rfl, hce2, hsl2⟩ (fun U hU hW => ⟨hE.go hW hU hS, by rw [hU]; exact hP, hD⟩) hS (fun H locs hP hD hS => ?_)
  refine lv_istore (lv' := [(6, .int v), (5, .int (nI kd)), (0, .ref b), (1, .ref (ad 0)), (2, .ref (ad 17)), (3, .ref (ad 30)), (4, .int (nI i))]) hx hb d_Law_law_879 hl (by decide) rfl (fun ls hl => ?_)
  refine lv_aload_n hx hb d_Law_law_881 rfl (lv_at hl 4 rfl) ?_
  refine k_callR (k_atV (As := []) hx hb hown hE.1 (K0.w tw_704) (hts _ tw_701) (hts _ tw_702) (hts _ tw_703) (hts _ tw_5) (by decide) np_Mod_thrown (va_recv hK hP (ci := nMod) (q0 := 17) rfl rfl) rfl d_Law_law_882) (c_Mod_thrown K0 ad u (wO ad cL o2) τ1) (hl.1.trans hml.symm) (Nat.le_of_ble_eq_true rfl) ⟨Nat.le_of_ble_eq_true rfl, Nat.le_of_ble_eq_true rfl, hce2, hsl2⟩ (fun U hU hW => ⟨hE.go hW hU hS, by rw [hU]; exact hP, hD⟩) ?_
  refine lv_iload hx hb d_Law_law_885 (lv_at hl 1 rfl) ?_
  refine lv_icmp_eq (tgt := 892) hx hb d_Law_law_887 (by decide) (fun _ => ?_) (fun h9 => absurd hz2 h9)
  have KE : W p l e room_1 s m #[Value.ref b] below meth c H locs (cells + 1) (slots + 6) Q (F0 m 909 ls []) := by
    refine lv_goto (tgt := 1648) hx hb d_Law_law_909 (by decide) ?_
    exact kk u τ1 o2 H locs ls ⟨hR1, hP, hD, hS, lv_sub hl [2, 3, 4, 5, 6] rfl⟩
  refine lv_iload hx hb d_Law_law_892 (lv_at hl 1 rfl) ?_
  refine lv_if_ne (tgt := 909) hx hb d_Law_law_894 (by decide) (fun _ => KE) (fun h0 => ?_)
  refine lv_aload_n hx hb d_Law_law_897 rfl (lv_at hl 5 rfl) ?_
  refine lv_iconst (v := nI 0) hx hb d_Law_law_898 (by decide) ?_
  refine va_lald hx hb hK hP 30 1 rfl rfl (vp_in_nI (by decide) (by decide)) d_Law_law_899 ?_
  refine lv_iload hx hb d_Law_law_900 (lv_at hl 0 rfl) ?_
  refine lv_i2l hx hb d_Law_law_902 rfl ?_
  refine W.lcmp hx hb d_Law_law_903 ?_
  refine lv_if_eq (tgt := 909) hx hb d_Law_law_904 (by decide) (fun _ => KE) (fun h9 => absurd ?_ h9)
  have ho1 := ho h0
  subst ho1
  exact k_cmp0 _
set_option maxHeartbeats 4000000 in
set_option maxRecDepth 100000 in
theorem lc_share {p : Program} {l : Launch} {e : Env} {s : State} {m : MethodId} {below : List Frame} {meth : Method} {c : Code} {b L : Nat} {xs : Nat → Int32} {D : va_G} {cI cL : ClassId} {Q : State → Prop} {ad : Nat → Nat} (hC : lK p l s m meth c b L xs D cI cL) {i cells slots : Nat} (hi : i + 5 ≤ L) (hce : cells + 2 ≤ room_1.cells) (hsl : slots + 12 ≤ room_1.slots) (kk : lGo p l e s m below meth c b D cI cL Q ad i 1648 (cells + 1) (slots + 6)) : lGo p l e s m below meth c b D cI cL Q ad i 912 cells slots := by
  obtain ⟨K0, KC, hx, hb, hr, hml, hown, hX, hbl, hlocks, hL⟩ := hC
  intro σ τ oo H locs ls hI
  obtain ⟨hR, hP, hD, hS, hl⟩ := hI
  have hE : kEnv s s := kEnv.refl s
  obtain ⟨hts, hK⟩ := K0.at (args := #[Value.ref b]) hE
  have hbA : ¬ kA s b := Nat.not_le.mpr hbl
  have hce1 : cells + 1 ≤ room_1.cells := Nat.le_trans (Nat.le_succ _) hce
  have hsl1 : slots + 6 ≤ room_1.slots := Nat.le_trans (Nat.add_le_add_left (by decide) _) hsl
  have hce2 : cells + 1 + 1 ≤ room_1.cells := hce
  have hsl2 : slots + 6 + 6 ≤ room_1.slots := hsl
  have hag : kAg [eIA, eUO, eNS, eIS] σ (sp_share σ (xs (i + 1)) (xs (i + 2)) (xs (i + 3))) (fin (t0 τ) (rs_share (t0 τ) (xs (i + 1)) (xs (i + 2)) (xs (i + 3)))) := ag_share (τ := t0 τ) (kRel_t hR 0 (nI 0)) (sw_g τ 2 0 (nI 0)) (xs (i + 1)) (xs (i + 2)) (xs (i + 3))
  obtain ⟨⟨z1, τ1⟩, ez⟩ : ∃ z, z = fin (t0 τ) (rs_share (t0 τ) (xs (i + 1)) (xs (i + 2)) (xs (i + 3))) := ⟨_, rfl⟩
  rw [← ez] at hag
  have hML := c_Law_share K0 KC ad τ σ oo (xs (i + 1)) (xs (i + 2)) (xs (i + 3)) hR.1 hag
  obtain ⟨kd, v, u, o2, e1, hz1, hz2, hR1, ho⟩ := kAg_all oo (by decide) hag
  rw [e1] at hML
  subst hz1
  have hMo := c_Mod_share K0 ad u (wO ad cL o2) τ (xs (i + 1)) (xs (i + 2)) (xs (i + 3)) (kOr_of hR)
  rw [← ez] at hMo
  refine lv_aload_n hx hb d_Law_law_912 rfl (lv_at hl 1 rfl) ?_
  refine lv_aload_n hx hb d_Law_law_913 rfl (lv_at hl 0 rfl) ?_
  refine lv_iload hx hb d_Law_law_914 (lv_at hl 4 rfl) ?_
  refine lv_iconst (v := nI 1) hx hb d_Law_law_916 (by decide) ?_
  refine k_addN hx hb d_Law_law_917 ?_
  refine k_scr hx hb hX hbl hbA hS (show i + 1 < L by omega) hL d_Law_law_918 ?_
  refine lv_aload_n hx hb d_Law_law_919 rfl (lv_at hl 0 rfl) ?_
  refine lv_iload hx hb d_Law_law_920 (lv_at hl 4 rfl) ?_
  refine lv_iconst (v := nI 2) hx hb d_Law_law_922 (by decide) ?_
  refine k_addN hx hb d_Law_law_923 ?_
  refine k_scr hx hb hX hbl hbA hS (show i + 2 < L by omega) hL d_Law_law_924 ?_
  refine lv_aload_n hx hb d_Law_law_925 rfl (lv_at hl 0 rfl) ?_
  refine lv_iload hx hb d_Law_law_926 (lv_at hl 4 rfl) ?_
  refine lv_iconst (v := nI 3) hx hb d_Law_law_928 (by decide) ?_
  refine k_addN hx hb d_Law_law_929 ?_
  refine k_scr hx hb hX hbl hbA hS (show i + 3 < L by omega) hL d_Law_law_930 ?_
  refine lv_aload_n hx hb d_Law_law_931 rfl (lv_at hl 3 rfl) ?_
  refine k_callL (k_atS (As := [.ref (ad 0), .int (xs (i + 1)), .int (xs (i + 2)), .int (xs (i + 3)), .ref (ad 30)]) hx hb hown hE.1 (K0.w tw_500) (by rfl) k_w9H (hts _ tw_498) (hts _ tw_499) (hts _ tw_0) (by decide) np_Law_share rfl d_Law_law_932) hML (hl.1.trans hml.symm) (Nat.le_of_ble_eq_true rfl) ⟨Nat.le_of_ble_eq_true rfl, Nat.le_of_ble_eq_true rfl, hce1, hsl1⟩ (fun U hU hW => ⟨hE.go hW hU hS, by rw [hU]; exact hP, hD⟩) hS (fun H locs hP hD hS => ?_)
  have hP : va_P D vwCl (wX ad cI u (wO ad cL o2) τ) H := hP
  have hD : va_D (kA s) (wX ad cI u (wO ad cL o2) τ) := hD
  refine lv_istore (lv' := [(5, .int (nI kd)), (0, .ref b), (1, .ref (ad 0)), (2, .ref (ad 17)), (3, .ref (ad 30)), (4, .int (nI i))]) hx hb d_Law_law_935 hl (by decide) rfl (fun ls hl => ?_)
  refine lv_aload_n hx hb d_Law_law_937 rfl (lv_at hl 3 rfl) ?_
  refine lv_aload_n hx hb d_Law_law_938 rfl (lv_at hl 1 rfl) ?_
  refine lv_iload hx hb d_Law_law_939 (lv_at hl 5 rfl) ?_
  refine lv_iconst (v := nI 1) hx hb d_Law_law_941 (by decide) ?_
  refine k_addN hx hb d_Law_law_942 ?_
  refine k_scr hx hb hX hbl hbA hS (show i + 1 < L by omega) hL d_Law_law_943 ?_
  refine lv_aload_n hx hb d_Law_law_944 rfl (lv_at hl 1 rfl) ?_
  refine lv_iload hx hb d_Law_law_945 (lv_at hl 5 rfl) ?_
  refine lv_iconst (v := nI 2) hx hb d_Law_law_947 (by decide) ?_
  refine k_addN hx hb d_Law_law_948 ?_
  refine k_scr hx hb hX hbl hbA hS (show i + 2 < L by omega) hL d_Law_law_949 ?_
  refine lv_aload_n hx hb d_Law_law_950 rfl (lv_at hl 1 rfl) ?_
  refine lv_iload hx hb d_Law_law_951 (lv_at hl 5 rfl) ?_
  refine lv_iconst (v := nI 3) hx hb d_Law_law_953 (by decide) ?_
  refine k_addN hx hb d_Law_law_954 ?_
  refine k_scr hx hb hX hbl hbA hS (show i + 3 < L by omega) hL d_Law_law_955 ?_
  refine k_callW (k_atV (As := [.int (xs (i + 1)), .int (xs (i + 2)), .int (xs (i + 3))]) hx hb hown hE.1 (K0.w tw_809) (hts _ tw_806) (hts _ tw_807) (hts _ tw_808) (hts _ tw_5) (by decide) np_Mod_share (va_recv hK hP (ci := nMod) (q0 := 17) rfl rfl) rfl d_Law_law_956) hMo (hl.1.trans hml.symm) (Nat.le_of_ble_eq_true rfl) ⟨Nat.le_of_ble_eq_true rfl, Nat.le_of_ble_eq_true rfl, hce2, hsl2⟩ (fun U hU hW => ⟨hE.go hW hU hS, by rw [hU]; exact hP, hD⟩) hS (fun H locs hP hD hS => ?_)
  refine lv_istore (lv' := [(6, .int v), (5, .int (nI kd)), (0, .ref b), (1, .ref (ad 0)), (2, .ref (ad 17)), (3, .ref (ad 30)), (4, .int (nI i))]) hx hb d_Law_law_959 hl (by decide) rfl (fun ls hl => ?_)
  refine lv_aload_n hx hb d_Law_law_961 rfl (lv_at hl 4 rfl) ?_
  refine k_callR (k_atV (As := []) hx hb hown hE.1 (K0.w tw_704) (hts _ tw_701) (hts _ tw_702) (hts _ tw_703) (hts _ tw_5) (by decide) np_Mod_thrown (va_recv hK hP (ci := nMod) (q0 := 17) rfl rfl) rfl d_Law_law_962) (c_Mod_thrown K0 ad u (wO ad cL o2) τ1) (hl.1.trans hml.symm) (Nat.le_of_ble_eq_true rfl) ⟨Nat.le_of_ble_eq_true rfl, Nat.le_of_ble_eq_true rfl, hce2, hsl2⟩ (fun U hU hW => ⟨hE.go hW hU hS, by rw [hU]; exact hP, hD⟩) ?_
  refine lv_iload hx hb d_Law_law_965 (lv_at hl 1 rfl) ?_
  refine lv_icmp_eq (tgt := 972) hx hb d_Law_law_967 (by decide) (fun _ => ?_) (fun h9 => absurd hz2 h9)
  have KE : W p l e room_1 s m #[Value.ref b] below meth c H locs (cells + 1) (slots + 6) Q (F0 m 989 ls []) := by
    refine lv_goto (tgt := 1648) hx hb d_Law_law_989 (by decide) ?_
    exact kk u τ1 o2 H locs ls ⟨hR1, hP, hD, hS, lv_sub hl [2, 3, 4, 5, 6] rfl⟩
  refine lv_iload hx hb d_Law_law_972 (lv_at hl 1 rfl) ?_
  refine lv_if_ne (tgt := 989) hx hb d_Law_law_974 (by decide) (fun _ => KE) (fun h0 => ?_)
  refine lv_aload_n hx hb d_Law_law_977 rfl (lv_at hl 5 rfl) ?_
  refine lv_iconst (v := nI 0) hx hb d_Law_law_978 (by decide) ?_
  refine va_lald hx hb hK hP 30 1 rfl rfl (vp_in_nI (by decide) (by decide)) d_Law_law_979 ?_
  refine lv_iload hx hb d_Law_law_980 (lv_at hl 0 rfl) ?_
  refine lv_i2l hx hb d_Law_law_982 rfl ?_
  refine W.lcmp hx hb d_Law_law_983 ?_
  refine lv_if_eq (tgt := 989) hx hb d_Law_law_984 (by decide) (fun _ => KE) (fun h9 => absurd ?_ h9)
  have ho1 := ho h0
  subst ho1
  exact k_cmp0 _
