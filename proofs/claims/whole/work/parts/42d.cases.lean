/-! The law's cases, 4 of 4. Laid by a program of mine (wip/gen/law.py). -/
set_option maxHeartbeats 4000000 in
set_option maxRecDepth 100000 in
theorem lc_send {p : Program} {l : Launch} {e : Env} {s : State} {m : MethodId} {below : List Frame} {meth : Method} {c : Code} {b L : Nat} {xs : Nat → Int32} {D : va_G} {cI cL : ClassId} {Q : State → Prop} {ad : Nat → Nat} (hC : lK p l s m meth c b L xs D cI cL) {i cells slots : Nat} (hi : i + 5 ≤ L) (hce : cells + 2 ≤ room_1.cells) (hsl : slots + 12 ≤ room_1.slots) (kk : lGo p l e s m below meth c b D cI cL Q ad i 1648 (cells + 1) (slots + 6)) : lGo p l e s m below meth c b D cI cL Q ad i 1388 cells slots := by
  obtain ⟨K0, KC, hx, hb, hr, hml, hown, hX, hbl, hlocks, hL⟩ := hC
  intro σ τ oo H locs ls hI
  obtain ⟨hR, hP, hD, hS, hl⟩ := hI
  have hE : kEnv s s := kEnv.refl s
  obtain ⟨hts, hK⟩ := K0.at (args := #[Value.ref b]) hE
  have hbA : ¬ kA s b := Nat.not_le.mpr hbl
  have hce1 : cells + 1 ≤ room_1.cells := Nat.le_trans (Nat.le_succ _) hce
  have hsl1 : slots + 6 ≤ room_1.slots := Nat.le_trans (Nat.add_le_add_left (by decide) _) hsl
  have hce2 : cells + 1 + 1 ≤ room_1.cells := hce
  have hsl2 : slots + 6 + 6 ≤ room_1.slots := hsl
  have hag : kAg [eIA, eIS, eNS] σ (sp_send σ (xs (i + 1)) (xs (i + 2))) (fin (t0 τ) (rs_send (t0 τ) (xs (i + 1)) (xs (i + 2)))) := ag_send (τ := t0 τ) (kRel_t hR 0 (nI 0)) (sw_g τ 2 0 (nI 0)) (xs (i + 1)) (xs (i + 2))
  obtain ⟨⟨z1, τ1⟩, ez⟩ : ∃ z, z = fin (t0 τ) (rs_send (t0 τ) (xs (i + 1)) (xs (i + 2))) := ⟨_, rfl⟩
  rw [← ez] at hag
  have hML := c_Law_send K0 KC ad τ σ oo (xs (i + 1)) (xs (i + 2)) hR.1 hag
  obtain ⟨kd, v, u, o2, e1, hz1, hz2, hR1, ho⟩ := kAg_all oo (by decide) hag
  rw [e1] at hML
  subst hz1
  have hMo := c_Mod_send K0 ad u (wO ad cL o2) τ (xs (i + 1)) (xs (i + 2)) (kOr_of hR) (kRel_to hR)
  rw [← ez] at hMo
  refine lv_aload_n hx hb d_Law_law_1388 rfl (lv_at hl 1 rfl) ?_
  refine lv_aload_n hx hb d_Law_law_1389 rfl (lv_at hl 0 rfl) ?_
  refine lv_iload hx hb d_Law_law_1390 (lv_at hl 4 rfl) ?_
  refine lv_iconst (v := nI 1) hx hb d_Law_law_1392 (by decide) ?_
  refine k_addN hx hb d_Law_law_1393 ?_
  refine k_scr hx hb hX hbl hbA hS (show i + 1 < L by omega) hL d_Law_law_1394 ?_
  refine lv_aload_n hx hb d_Law_law_1395 rfl (lv_at hl 0 rfl) ?_
  refine lv_iload hx hb d_Law_law_1396 (lv_at hl 4 rfl) ?_
  refine lv_iconst (v := nI 2) hx hb d_Law_law_1398 (by decide) ?_
  refine k_addN hx hb d_Law_law_1399 ?_
  refine k_scr hx hb hX hbl hbA hS (show i + 2 < L by omega) hL d_Law_law_1400 ?_
  refine lv_aload_n hx hb d_Law_law_1401 rfl (lv_at hl 3 rfl) ?_
  refine k_callL (k_atS (As := [.ref (ad 0), .int (xs (i + 1)), .int (xs (i + 2)), .ref (ad 30)]) hx hb hown hE.1 (K0.w tw_602) (by rfl) k_w9H (hts _ tw_600) (hts _ tw_601) (hts _ tw_0) (by decide) np_Law_send rfl d_Law_law_1402) hML (hl.1.trans hml.symm) (Nat.le_of_ble_eq_true rfl) ⟨Nat.le_of_ble_eq_true rfl, Nat.le_of_ble_eq_true rfl, hce1, hsl1⟩ (fun U hU hW => ⟨hE.go hW hU hS, by rw [hU]; exact hP, hD⟩) hS (fun H locs hP hD hS => ?_)
  have hP : va_P D vwCl (wX ad cI u (wO ad cL o2) τ) H := hP
  have hD : va_D (kA s) (wX ad cI u (wO ad cL o2) τ) := hD
  refine lv_istore (lv' := [(5, .int (nI kd)), (0, .ref b), (1, .ref (ad 0)), (2, .ref (ad 17)), (3, .ref (ad 30)), (4, .int (nI i))]) hx hb d_Law_law_1405 hl (by decide) rfl (fun ls hl => ?_)
  refine lv_aload_n hx hb d_Law_law_1407 rfl (lv_at hl 3 rfl) ?_
  refine lv_aload_n hx hb d_Law_law_1408 rfl (lv_at hl 1 rfl) ?_
  refine lv_iload hx hb d_Law_law_1409 (lv_at hl 5 rfl) ?_
  refine lv_iconst (v := nI 1) hx hb d_Law_law_1411 (by decide) ?_
  refine k_addN hx hb d_Law_law_1412 ?_
  refine k_scr hx hb hX hbl hbA hS (show i + 1 < L by omega) hL d_Law_law_1413 ?_
  refine lv_aload_n hx hb d_Law_law_1414 rfl (lv_at hl 1 rfl) ?_
  refine lv_iload hx hb d_Law_law_1415 (lv_at hl 5 rfl) ?_
  refine lv_iconst (v := nI 2) hx hb d_Law_law_1417 (by decide) ?_
  refine k_addN hx hb d_Law_law_1418 ?_
  refine k_scr hx hb hX hbl hbA hS (show i + 2 < L by omega) hL d_Law_law_1419 ?_
  refine k_callW (k_atV (As := [.int (xs (i + 1)), .int (xs (i + 2))]) hx hb hown hE.1 (K0.w tw_845) (hts _ tw_842) (hts _ tw_843) (hts _ tw_844) (hts _ tw_5) (by decide) np_Mod_send (va_recv hK hP (ci := nMod) (q0 := 17) rfl rfl) rfl d_Law_law_1420) hMo (hl.1.trans hml.symm) (Nat.le_of_ble_eq_true rfl) ⟨Nat.le_of_ble_eq_true rfl, Nat.le_of_ble_eq_true rfl, hce2, hsl2⟩ (fun U hU hW => ⟨hE.go hW hU hS, by rw [hU]; exact hP, hD⟩) hS (fun H locs hP hD hS => ?_)
  refine lv_istore (lv' := [(6, .int v), (5, .int (nI kd)), (0, .ref b), (1, .ref (ad 0)), (2, .ref (ad 17)), (3, .ref (ad 30)), (4, .int (nI i))]) hx hb d_Law_law_1423 hl (by decide) rfl (fun ls hl => ?_)
  refine lv_aload_n hx hb d_Law_law_1425 rfl (lv_at hl 4 rfl) ?_
  refine k_callR (k_atV (As := []) hx hb hown hE.1 (K0.w tw_704) (hts _ tw_701) (hts _ tw_702) (hts _ tw_703) (hts _ tw_5) (by decide) np_Mod_thrown (va_recv hK hP (ci := nMod) (q0 := 17) rfl rfl) rfl d_Law_law_1426) (c_Mod_thrown K0 ad u (wO ad cL o2) τ1) (hl.1.trans hml.symm) (Nat.le_of_ble_eq_true rfl) ⟨Nat.le_of_ble_eq_true rfl, Nat.le_of_ble_eq_true rfl, hce2, hsl2⟩ (fun U hU hW => ⟨hE.go hW hU hS, by rw [hU]; exact hP, hD⟩) ?_
  refine lv_iload hx hb d_Law_law_1429 (lv_at hl 1 rfl) ?_
  refine lv_icmp_eq (tgt := 1436) hx hb d_Law_law_1431 (by decide) (fun _ => ?_) (fun h9 => absurd hz2 h9)
  have KE : W p l e room_1 s m #[Value.ref b] below meth c H locs (cells + 1) (slots + 6) Q (F0 m 1453 ls []) := by
    refine lv_goto (tgt := 1648) hx hb d_Law_law_1453 (by decide) ?_
    exact kk u τ1 o2 H locs ls ⟨hR1, hP, hD, hS, lv_sub hl [2, 3, 4, 5, 6] rfl⟩
  refine lv_iload hx hb d_Law_law_1436 (lv_at hl 1 rfl) ?_
  refine lv_if_ne (tgt := 1453) hx hb d_Law_law_1438 (by decide) (fun _ => KE) (fun h0 => ?_)
  refine lv_aload_n hx hb d_Law_law_1441 rfl (lv_at hl 5 rfl) ?_
  refine lv_iconst (v := nI 0) hx hb d_Law_law_1442 (by decide) ?_
  refine va_lald hx hb hK hP 30 1 rfl rfl (vp_in_nI (by decide) (by decide)) d_Law_law_1443 ?_
  refine lv_iload hx hb d_Law_law_1444 (lv_at hl 0 rfl) ?_
  refine lv_i2l hx hb d_Law_law_1446 rfl ?_
  refine W.lcmp hx hb d_Law_law_1447 ?_
  refine lv_if_eq (tgt := 1453) hx hb d_Law_law_1448 (by decide) (fun _ => KE) (fun h9 => absurd ?_ h9)
  have ho1 := ho h0
  subst ho1
  exact k_cmp0 _
set_option maxHeartbeats 4000000 in
set_option maxRecDepth 100000 in
theorem lc_process {p : Program} {l : Launch} {e : Env} {s : State} {m : MethodId} {below : List Frame} {meth : Method} {c : Code} {b L : Nat} {xs : Nat → Int32} {D : va_G} {cI cL : ClassId} {Q : State → Prop} {ad : Nat → Nat} (hC : lK p l s m meth c b L xs D cI cL) {i cells slots : Nat} (hi : i + 5 ≤ L) (hce : cells + 2 ≤ room_1.cells) (hsl : slots + 12 ≤ room_1.slots) (kk : lGo p l e s m below meth c b D cI cL Q ad i 1648 (cells + 1) (slots + 6)) : lGo p l e s m below meth c b D cI cL Q ad i 1456 cells slots := by
  obtain ⟨K0, KC, hx, hb, hr, hml, hown, hX, hbl, hlocks, hL⟩ := hC
  intro σ τ oo H locs ls hI
  obtain ⟨hR, hP, hD, hS, hl⟩ := hI
  have hE : kEnv s s := kEnv.refl s
  obtain ⟨hts, hK⟩ := K0.at (args := #[Value.ref b]) hE
  have hbA : ¬ kA s b := Nat.not_le.mpr hbl
  have hce1 : cells + 1 ≤ room_1.cells := Nat.le_trans (Nat.le_succ _) hce
  have hsl1 : slots + 6 ≤ room_1.slots := Nat.le_trans (Nat.add_le_add_left (by decide) _) hsl
  have hce2 : cells + 1 + 1 ≤ room_1.cells := hce
  have hsl2 : slots + 6 + 6 ≤ room_1.slots := hsl
  have hag : kAg [eIA] σ (sp_process σ (xs (i + 1)) (xs (i + 2))) (fin (t0 τ) (rs_process (t0 τ) (xs (i + 1)) (xs (i + 2)))) := ag_process (τ := t0 τ) (kRel_t hR 0 (nI 0)) (sw_g τ 2 0 (nI 0)) (xs (i + 1)) (xs (i + 2))
  obtain ⟨⟨z1, τ1⟩, ez⟩ : ∃ z, z = fin (t0 τ) (rs_process (t0 τ) (xs (i + 1)) (xs (i + 2))) := ⟨_, rfl⟩
  rw [← ez] at hag
  have hML := c_Law_process K0 KC ad τ σ oo (xs (i + 1)) (xs (i + 2)) hR.1 hag
  obtain ⟨kd, v, u, o2, e1, hz1, hz2, hR1, ho⟩ := kAg_all oo (by decide) hag
  rw [e1] at hML
  subst hz1
  have hMo := c_Mod_process K0 ad u (wO ad cL o2) τ (xs (i + 1)) (xs (i + 2)) (kOr_of hR)
  rw [← ez] at hMo
  refine lv_aload_n hx hb d_Law_law_1456 rfl (lv_at hl 1 rfl) ?_
  refine lv_aload_n hx hb d_Law_law_1457 rfl (lv_at hl 0 rfl) ?_
  refine lv_iload hx hb d_Law_law_1458 (lv_at hl 4 rfl) ?_
  refine lv_iconst (v := nI 1) hx hb d_Law_law_1460 (by decide) ?_
  refine k_addN hx hb d_Law_law_1461 ?_
  refine k_scr hx hb hX hbl hbA hS (show i + 1 < L by omega) hL d_Law_law_1462 ?_
  refine lv_aload_n hx hb d_Law_law_1463 rfl (lv_at hl 0 rfl) ?_
  refine lv_iload hx hb d_Law_law_1464 (lv_at hl 4 rfl) ?_
  refine lv_iconst (v := nI 2) hx hb d_Law_law_1466 (by decide) ?_
  refine k_addN hx hb d_Law_law_1467 ?_
  refine k_scr hx hb hX hbl hbA hS (show i + 2 < L by omega) hL d_Law_law_1468 ?_
  refine lv_aload_n hx hb d_Law_law_1469 rfl (lv_at hl 3 rfl) ?_
  refine k_callL (k_atS (As := [.ref (ad 0), .int (xs (i + 1)), .int (xs (i + 2)), .ref (ad 30)]) hx hb hown hE.1 (K0.w tw_622) (by rfl) k_w9H (hts _ tw_620) (hts _ tw_621) (hts _ tw_0) (by decide) np_Law_process rfl d_Law_law_1470) hML (hl.1.trans hml.symm) (Nat.le_of_ble_eq_true rfl) ⟨Nat.le_of_ble_eq_true rfl, Nat.le_of_ble_eq_true rfl, hce1, hsl1⟩ (fun U hU hW => ⟨hE.go hW hU hS, by rw [hU]; exact hP, hD⟩) hS (fun H locs hP hD hS => ?_)
  have hP : va_P D vwCl (wX ad cI u (wO ad cL o2) τ) H := hP
  have hD : va_D (kA s) (wX ad cI u (wO ad cL o2) τ) := hD
  refine lv_istore (lv' := [(5, .int (nI kd)), (0, .ref b), (1, .ref (ad 0)), (2, .ref (ad 17)), (3, .ref (ad 30)), (4, .int (nI i))]) hx hb d_Law_law_1473 hl (by decide) rfl (fun ls hl => ?_)
  refine lv_aload_n hx hb d_Law_law_1475 rfl (lv_at hl 3 rfl) ?_
  refine lv_aload_n hx hb d_Law_law_1476 rfl (lv_at hl 1 rfl) ?_
  refine lv_iload hx hb d_Law_law_1477 (lv_at hl 5 rfl) ?_
  refine lv_iconst (v := nI 1) hx hb d_Law_law_1479 (by decide) ?_
  refine k_addN hx hb d_Law_law_1480 ?_
  refine k_scr hx hb hX hbl hbA hS (show i + 1 < L by omega) hL d_Law_law_1481 ?_
  refine lv_aload_n hx hb d_Law_law_1482 rfl (lv_at hl 1 rfl) ?_
  refine lv_iload hx hb d_Law_law_1483 (lv_at hl 5 rfl) ?_
  refine lv_iconst (v := nI 2) hx hb d_Law_law_1485 (by decide) ?_
  refine k_addN hx hb d_Law_law_1486 ?_
  refine k_scr hx hb hX hbl hbA hS (show i + 2 < L by omega) hL d_Law_law_1487 ?_
  refine k_callW (k_atV (As := [.int (xs (i + 1)), .int (xs (i + 2))]) hx hb hown hE.1 (K0.w tw_849) (hts _ tw_846) (hts _ tw_847) (hts _ tw_848) (hts _ tw_5) (by decide) np_Mod_process (va_recv hK hP (ci := nMod) (q0 := 17) rfl rfl) rfl d_Law_law_1488) hMo (hl.1.trans hml.symm) (Nat.le_of_ble_eq_true rfl) ⟨Nat.le_of_ble_eq_true rfl, Nat.le_of_ble_eq_true rfl, hce2, hsl2⟩ (fun U hU hW => ⟨hE.go hW hU hS, by rw [hU]; exact hP, hD⟩) hS (fun H locs hP hD hS => ?_)
  refine lv_istore (lv' := [(6, .int v), (5, .int (nI kd)), (0, .ref b), (1, .ref (ad 0)), (2, .ref (ad 17)), (3, .ref (ad 30)), (4, .int (nI i))]) hx hb d_Law_law_1491 hl (by decide) rfl (fun ls hl => ?_)
  refine lv_aload_n hx hb d_Law_law_1493 rfl (lv_at hl 4 rfl) ?_
  refine k_callR (k_atV (As := []) hx hb hown hE.1 (K0.w tw_704) (hts _ tw_701) (hts _ tw_702) (hts _ tw_703) (hts _ tw_5) (by decide) np_Mod_thrown (va_recv hK hP (ci := nMod) (q0 := 17) rfl rfl) rfl d_Law_law_1494) (c_Mod_thrown K0 ad u (wO ad cL o2) τ1) (hl.1.trans hml.symm) (Nat.le_of_ble_eq_true rfl) ⟨Nat.le_of_ble_eq_true rfl, Nat.le_of_ble_eq_true rfl, hce2, hsl2⟩ (fun U hU hW => ⟨hE.go hW hU hS, by rw [hU]; exact hP, hD⟩) ?_
  refine lv_iload hx hb d_Law_law_1497 (lv_at hl 1 rfl) ?_
  refine lv_icmp_eq (tgt := 1504) hx hb d_Law_law_1499 (by decide) (fun _ => ?_) (fun h9 => absurd hz2 h9)
  have KE : W p l e room_1 s m #[Value.ref b] below meth c H locs (cells + 1) (slots + 6) Q (F0 m 1521 ls []) := by
    refine lv_goto (tgt := 1648) hx hb d_Law_law_1521 (by decide) ?_
    exact kk u τ1 o2 H locs ls ⟨hR1, hP, hD, hS, lv_sub hl [2, 3, 4, 5, 6] rfl⟩
  refine lv_iload hx hb d_Law_law_1504 (lv_at hl 1 rfl) ?_
  refine lv_if_ne (tgt := 1521) hx hb d_Law_law_1506 (by decide) (fun _ => KE) (fun h0 => ?_)
  refine lv_aload_n hx hb d_Law_law_1509 rfl (lv_at hl 5 rfl) ?_
  refine lv_iconst (v := nI 0) hx hb d_Law_law_1510 (by decide) ?_
  refine va_lald hx hb hK hP 30 1 rfl rfl (vp_in_nI (by decide) (by decide)) d_Law_law_1511 ?_
  refine lv_iload hx hb d_Law_law_1512 (lv_at hl 0 rfl) ?_
  refine lv_i2l hx hb d_Law_law_1514 rfl ?_
  refine W.lcmp hx hb d_Law_law_1515 ?_
  refine lv_if_eq (tgt := 1521) hx hb d_Law_law_1516 (by decide) (fun _ => KE) (fun h9 => absurd ?_ h9)
  have ho1 := ho h0
  subst ho1
  exact k_cmp0 _
set_option maxHeartbeats 4000000 in
set_option maxRecDepth 100000 in
theorem lc_page {p : Program} {l : Launch} {e : Env} {s : State} {m : MethodId} {below : List Frame} {meth : Method} {c : Code} {b L : Nat} {xs : Nat → Int32} {D : va_G} {cI cL : ClassId} {Q : State → Prop} {ad : Nat → Nat} (hC : lK p l s m meth c b L xs D cI cL) {i cells slots : Nat} (hi : i + 5 ≤ L) (hce : cells + 2 ≤ room_1.cells) (hsl : slots + 12 ≤ room_1.slots) (kk : lGo p l e s m below meth c b D cI cL Q ad i 1648 (cells + 1) (slots + 6)) : lGo p l e s m below meth c b D cI cL Q ad i 1524 cells slots := by
  obtain ⟨K0, KC, hx, hb, hr, hml, hown, hX, hbl, hlocks, hL⟩ := hC
  intro σ τ oo H locs ls hI
  obtain ⟨hR, hP, hD, hS, hl⟩ := hI
  have hE : kEnv s s := kEnv.refl s
  obtain ⟨hts, hK⟩ := K0.at (args := #[Value.ref b]) hE
  have hbA : ¬ kA s b := Nat.not_le.mpr hbl
  have hce1 : cells + 1 ≤ room_1.cells := Nat.le_trans (Nat.le_succ _) hce
  have hsl1 : slots + 6 ≤ room_1.slots := Nat.le_trans (Nat.add_le_add_left (by decide) _) hsl
  have hce2 : cells + 1 + 1 ≤ room_1.cells := hce
  have hsl2 : slots + 6 + 6 ≤ room_1.slots := hsl
  have hag : kAg [eIA] σ (sp_page σ (xs (i + 1)) (xs (i + 2))) (fin (t0 τ) (rs_page (t0 τ) (xs (i + 1)) (xs (i + 2)))) := ag_page (τ := t0 τ) (kRel_t hR 0 (nI 0)) (sw_g τ 2 0 (nI 0)) (xs (i + 1)) (xs (i + 2))
  obtain ⟨⟨z1, τ1⟩, ez⟩ : ∃ z, z = fin (t0 τ) (rs_page (t0 τ) (xs (i + 1)) (xs (i + 2))) := ⟨_, rfl⟩
  rw [← ez] at hag
  have hML := c_Law_page K0 KC ad τ σ oo (xs (i + 1)) (xs (i + 2)) hR.1 hag
  obtain ⟨kd, v, u, o2, e1, hz1, hz2, hR1, ho⟩ := kAg_all oo (by decide) hag
  rw [e1] at hML
  subst hz1
  have hMo := c_Mod_page K0 ad u (wO ad cL o2) τ (xs (i + 1)) (xs (i + 2)) (kOr_of hR)
  rw [← ez] at hMo
  refine lv_aload_n hx hb d_Law_law_1524 rfl (lv_at hl 1 rfl) ?_
  refine lv_aload_n hx hb d_Law_law_1525 rfl (lv_at hl 0 rfl) ?_
  refine lv_iload hx hb d_Law_law_1526 (lv_at hl 4 rfl) ?_
  refine lv_iconst (v := nI 1) hx hb d_Law_law_1528 (by decide) ?_
  refine k_addN hx hb d_Law_law_1529 ?_
  refine k_scr hx hb hX hbl hbA hS (show i + 1 < L by omega) hL d_Law_law_1530 ?_
  refine lv_aload_n hx hb d_Law_law_1531 rfl (lv_at hl 0 rfl) ?_
  refine lv_iload hx hb d_Law_law_1532 (lv_at hl 4 rfl) ?_
  refine lv_iconst (v := nI 2) hx hb d_Law_law_1534 (by decide) ?_
  refine k_addN hx hb d_Law_law_1535 ?_
  refine k_scr hx hb hX hbl hbA hS (show i + 2 < L by omega) hL d_Law_law_1536 ?_
  refine lv_aload_n hx hb d_Law_law_1537 rfl (lv_at hl 3 rfl) ?_
  refine k_callL (k_atS (As := [.ref (ad 0), .int (xs (i + 1)), .int (xs (i + 2)), .ref (ad 30)]) hx hb hown hE.1 (K0.w tw_629) (by rfl) k_w9H (hts _ tw_627) (hts _ tw_628) (hts _ tw_0) (by decide) np_Law_page rfl d_Law_law_1538) hML (hl.1.trans hml.symm) (Nat.le_of_ble_eq_true rfl) ⟨Nat.le_of_ble_eq_true rfl, Nat.le_of_ble_eq_true rfl, hce1, hsl1⟩ (fun U hU hW => ⟨hE.go hW hU hS, by rw [hU]; exact hP, hD⟩) hS (fun H locs hP hD hS => ?_)
  have hP : va_P D vwCl (wX ad cI u (wO ad cL o2) τ) H := hP
  have hD : va_D (kA s) (wX ad cI u (wO ad cL o2) τ) := hD
  refine lv_istore (lv' := [(5, .int (nI kd)), (0, .ref b), (1, .ref (ad 0)), (2, .ref (ad 17)), (3, .ref (ad 30)), (4, .int (nI i))]) hx hb d_Law_law_1541 hl (by decide) rfl (fun ls hl => ?_)
  refine lv_aload_n hx hb d_Law_law_1543 rfl (lv_at hl 3 rfl) ?_
  refine lv_aload_n hx hb d_Law_law_1544 rfl (lv_at hl 1 rfl) ?_
  refine lv_iload hx hb d_Law_law_1545 (lv_at hl 5 rfl) ?_
  refine lv_iconst (v := nI 1) hx hb d_Law_law_1547 (by decide) ?_
  refine k_addN hx hb d_Law_law_1548 ?_
  refine k_scr hx hb hX hbl hbA hS (show i + 1 < L by omega) hL d_Law_law_1549 ?_
  refine lv_aload_n hx hb d_Law_law_1550 rfl (lv_at hl 1 rfl) ?_
  refine lv_iload hx hb d_Law_law_1551 (lv_at hl 5 rfl) ?_
  refine lv_iconst (v := nI 2) hx hb d_Law_law_1553 (by decide) ?_
  refine k_addN hx hb d_Law_law_1554 ?_
  refine k_scr hx hb hX hbl hbA hS (show i + 2 < L by omega) hL d_Law_law_1555 ?_
  refine k_callW (k_atV (As := [.int (xs (i + 1)), .int (xs (i + 2))]) hx hb hown hE.1 (K0.w tw_853) (hts _ tw_850) (hts _ tw_851) (hts _ tw_852) (hts _ tw_5) (by decide) np_Mod_page (va_recv hK hP (ci := nMod) (q0 := 17) rfl rfl) rfl d_Law_law_1556) hMo (hl.1.trans hml.symm) (Nat.le_of_ble_eq_true rfl) ⟨Nat.le_of_ble_eq_true rfl, Nat.le_of_ble_eq_true rfl, hce2, hsl2⟩ (fun U hU hW => ⟨hE.go hW hU hS, by rw [hU]; exact hP, hD⟩) hS (fun H locs hP hD hS => ?_)
  refine lv_istore (lv' := [(6, .int v), (5, .int (nI kd)), (0, .ref b), (1, .ref (ad 0)), (2, .ref (ad 17)), (3, .ref (ad 30)), (4, .int (nI i))]) hx hb d_Law_law_1559 hl (by decide) rfl (fun ls hl => ?_)
  refine lv_aload_n hx hb d_Law_law_1561 rfl (lv_at hl 4 rfl) ?_
  refine k_callR (k_atV (As := []) hx hb hown hE.1 (K0.w tw_704) (hts _ tw_701) (hts _ tw_702) (hts _ tw_703) (hts _ tw_5) (by decide) np_Mod_thrown (va_recv hK hP (ci := nMod) (q0 := 17) rfl rfl) rfl d_Law_law_1562) (c_Mod_thrown K0 ad u (wO ad cL o2) τ1) (hl.1.trans hml.symm) (Nat.le_of_ble_eq_true rfl) ⟨Nat.le_of_ble_eq_true rfl, Nat.le_of_ble_eq_true rfl, hce2, hsl2⟩ (fun U hU hW => ⟨hE.go hW hU hS, by rw [hU]; exact hP, hD⟩) ?_
  refine lv_iload hx hb d_Law_law_1565 (lv_at hl 1 rfl) ?_
  refine lv_icmp_eq (tgt := 1572) hx hb d_Law_law_1567 (by decide) (fun _ => ?_) (fun h9 => absurd hz2 h9)
  have KE : W p l e room_1 s m #[Value.ref b] below meth c H locs (cells + 1) (slots + 6) Q (F0 m 1589 ls []) := by
    refine lv_goto (tgt := 1648) hx hb d_Law_law_1589 (by decide) ?_
    exact kk u τ1 o2 H locs ls ⟨hR1, hP, hD, hS, lv_sub hl [2, 3, 4, 5, 6] rfl⟩
  refine lv_iload hx hb d_Law_law_1572 (lv_at hl 1 rfl) ?_
  refine lv_if_ne (tgt := 1589) hx hb d_Law_law_1574 (by decide) (fun _ => KE) (fun h0 => ?_)
  refine lv_aload_n hx hb d_Law_law_1577 rfl (lv_at hl 5 rfl) ?_
  refine lv_iconst (v := nI 0) hx hb d_Law_law_1578 (by decide) ?_
  refine va_lald hx hb hK hP 30 1 rfl rfl (vp_in_nI (by decide) (by decide)) d_Law_law_1579 ?_
  refine lv_iload hx hb d_Law_law_1580 (lv_at hl 0 rfl) ?_
  refine lv_i2l hx hb d_Law_law_1582 rfl ?_
  refine W.lcmp hx hb d_Law_law_1583 ?_
  refine lv_if_eq (tgt := 1589) hx hb d_Law_law_1584 (by decide) (fun _ => KE) (fun h9 => absurd ?_ h9)
  have ho1 := ho h0
  subst ho1
  exact k_cmp0 _
set_option maxHeartbeats 4000000 in
set_option maxRecDepth 100000 in
theorem lc_count {p : Program} {l : Launch} {e : Env} {s : State} {m : MethodId} {below : List Frame} {meth : Method} {c : Code} {b L : Nat} {xs : Nat → Int32} {D : va_G} {cI cL : ClassId} {Q : State → Prop} {ad : Nat → Nat} (hC : lK p l s m meth c b L xs D cI cL) {i cells slots : Nat} (hi : i + 5 ≤ L) (hce : cells + 2 ≤ room_1.cells) (hsl : slots + 12 ≤ room_1.slots) (kk : lGo p l e s m below meth c b D cI cL Q ad i 1648 (cells + 1) (slots + 6)) : lGo p l e s m below meth c b D cI cL Q ad i 1592 cells slots := by
  obtain ⟨K0, KC, hx, hb, hr, hml, hown, hX, hbl, hlocks, hL⟩ := hC
  intro σ τ oo H locs ls hI
  obtain ⟨hR, hP, hD, hS, hl⟩ := hI
  have hE : kEnv s s := kEnv.refl s
  obtain ⟨hts, hK⟩ := K0.at (args := #[Value.ref b]) hE
  have hbA : ¬ kA s b := Nat.not_le.mpr hbl
  have hce1 : cells + 1 ≤ room_1.cells := Nat.le_trans (Nat.le_succ _) hce
  have hsl1 : slots + 6 ≤ room_1.slots := Nat.le_trans (Nat.add_le_add_left (by decide) _) hsl
  have hce2 : cells + 1 + 1 ≤ room_1.cells := hce
  have hsl2 : slots + 6 + 6 ≤ room_1.slots := hsl
  have hag : kAg [eIA] σ (sp_count σ (xs (i + 1))) (fin (t0 τ) (rs_count (t0 τ) (xs (i + 1)))) := ag_count (τ := t0 τ) (kRel_t hR 0 (nI 0)) (sw_g τ 2 0 (nI 0)) (xs (i + 1))
  obtain ⟨⟨z1, τ1⟩, ez⟩ : ∃ z, z = fin (t0 τ) (rs_count (t0 τ) (xs (i + 1))) := ⟨_, rfl⟩
  rw [← ez] at hag
  have hML := c_Law_count K0 KC ad τ σ oo (xs (i + 1)) hR.1 hag
  obtain ⟨kd, v, u, o2, e1, hz1, hz2, hR1, ho⟩ := kAg_all oo (by decide) hag
  rw [e1] at hML
  subst hz1
  have hMo := c_Mod_count K0 ad u (wO ad cL o2) τ (xs (i + 1)) (kOr_of hR)
  rw [← ez] at hMo
  refine lv_aload_n hx hb d_Law_law_1592 rfl (lv_at hl 1 rfl) ?_
  refine lv_aload_n hx hb d_Law_law_1593 rfl (lv_at hl 0 rfl) ?_
  refine lv_iload hx hb d_Law_law_1594 (lv_at hl 4 rfl) ?_
  refine lv_iconst (v := nI 1) hx hb d_Law_law_1596 (by decide) ?_
  refine k_addN hx hb d_Law_law_1597 ?_
  refine k_scr hx hb hX hbl hbA hS (show i + 1 < L by omega) hL d_Law_law_1598 ?_
  refine lv_aload_n hx hb d_Law_law_1599 rfl (lv_at hl 3 rfl) ?_
  refine k_callL (k_atS (As := [.ref (ad 0), .int (xs (i + 1)), .ref (ad 30)]) hx hb hown hE.1 (K0.w tw_636) (by rfl) k_w9H (hts _ tw_634) (hts _ tw_635) (hts _ tw_0) (by decide) np_Law_count rfl d_Law_law_1600) hML (hl.1.trans hml.symm) (Nat.le_of_ble_eq_true rfl) ⟨Nat.le_of_ble_eq_true rfl, Nat.le_of_ble_eq_true rfl, hce1, hsl1⟩ (fun U hU hW => ⟨hE.go hW hU hS, by rw [hU]; exact hP, hD⟩) hS (fun H locs hP hD hS => ?_)
  have hP : va_P D vwCl (wX ad cI u (wO ad cL o2) τ) H := hP
  have hD : va_D (kA s) (wX ad cI u (wO ad cL o2) τ) := hD
  refine lv_istore (lv' := [(5, .int (nI kd)), (0, .ref b), (1, .ref (ad 0)), (2, .ref (ad 17)), (3, .ref (ad 30)), (4, .int (nI i))]) hx hb d_Law_law_1603 hl (by decide) rfl (fun ls hl => ?_)
  refine lv_aload_n hx hb d_Law_law_1605 rfl (lv_at hl 3 rfl) ?_
  refine lv_aload_n hx hb d_Law_law_1606 rfl (lv_at hl 1 rfl) ?_
  refine lv_iload hx hb d_Law_law_1607 (lv_at hl 5 rfl) ?_
  refine lv_iconst (v := nI 1) hx hb d_Law_law_1609 (by decide) ?_
  refine k_addN hx hb d_Law_law_1610 ?_
  refine k_scr hx hb hX hbl hbA hS (show i + 1 < L by omega) hL d_Law_law_1611 ?_
  refine k_callW (k_atV (As := [.int (xs (i + 1))]) hx hb hown hE.1 (K0.w tw_857) (hts _ tw_854) (hts _ tw_855) (hts _ tw_856) (hts _ tw_5) (by decide) np_Mod_count (va_recv hK hP (ci := nMod) (q0 := 17) rfl rfl) rfl d_Law_law_1612) hMo (hl.1.trans hml.symm) (Nat.le_of_ble_eq_true rfl) ⟨Nat.le_of_ble_eq_true rfl, Nat.le_of_ble_eq_true rfl, hce2, hsl2⟩ (fun U hU hW => ⟨hE.go hW hU hS, by rw [hU]; exact hP, hD⟩) hS (fun H locs hP hD hS => ?_)
  refine lv_istore (lv' := [(6, .int v), (5, .int (nI kd)), (0, .ref b), (1, .ref (ad 0)), (2, .ref (ad 17)), (3, .ref (ad 30)), (4, .int (nI i))]) hx hb d_Law_law_1615 hl (by decide) rfl (fun ls hl => ?_)
  refine lv_aload_n hx hb d_Law_law_1617 rfl (lv_at hl 4 rfl) ?_
  refine k_callR (k_atV (As := []) hx hb hown hE.1 (K0.w tw_704) (hts _ tw_701) (hts _ tw_702) (hts _ tw_703) (hts _ tw_5) (by decide) np_Mod_thrown (va_recv hK hP (ci := nMod) (q0 := 17) rfl rfl) rfl d_Law_law_1618) (c_Mod_thrown K0 ad u (wO ad cL o2) τ1) (hl.1.trans hml.symm) (Nat.le_of_ble_eq_true rfl) ⟨Nat.le_of_ble_eq_true rfl, Nat.le_of_ble_eq_true rfl, hce2, hsl2⟩ (fun U hU hW => ⟨hE.go hW hU hS, by rw [hU]; exact hP, hD⟩) ?_
  refine lv_iload hx hb d_Law_law_1621 (lv_at hl 1 rfl) ?_
  refine lv_icmp_eq (tgt := 1628) hx hb d_Law_law_1623 (by decide) (fun _ => ?_) (fun h9 => absurd hz2 h9)
  have KE : W p l e room_1 s m #[Value.ref b] below meth c H locs (cells + 1) (slots + 6) Q (F0 m 1645 ls []) := by
    refine lv_goto (tgt := 1648) hx hb d_Law_law_1645 (by decide) ?_
    exact kk u τ1 o2 H locs ls ⟨hR1, hP, hD, hS, lv_sub hl [2, 3, 4, 5, 6] rfl⟩
  refine lv_iload hx hb d_Law_law_1628 (lv_at hl 1 rfl) ?_
  refine lv_if_ne (tgt := 1645) hx hb d_Law_law_1630 (by decide) (fun _ => KE) (fun h0 => ?_)
  refine lv_aload_n hx hb d_Law_law_1633 rfl (lv_at hl 5 rfl) ?_
  refine lv_iconst (v := nI 0) hx hb d_Law_law_1634 (by decide) ?_
  refine va_lald hx hb hK hP 30 1 rfl rfl (vp_in_nI (by decide) (by decide)) d_Law_law_1635 ?_
  refine lv_iload hx hb d_Law_law_1636 (lv_at hl 0 rfl) ?_
  refine lv_i2l hx hb d_Law_law_1638 rfl ?_
  refine W.lcmp hx hb d_Law_law_1639 ?_
  refine lv_if_eq (tgt := 1645) hx hb d_Law_law_1640 (by decide) (fun _ => KE) (fun h9 => absurd ?_ h9)
  have ho1 := ho h0
  subst ho1
  exact k_cmp0 _
