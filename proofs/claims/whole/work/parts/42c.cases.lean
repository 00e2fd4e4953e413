/-! The law's cases, 3 of 4. Laid by a program of mine (wip/gen/law.py). -/
set_option maxHeartbeats 4000000 in
set_option maxRecDepth 100000 in
theorem lc_close {p : Program} {l : Launch} {e : Env} {s : State} {m : MethodId} {below : List Frame} {meth : Method} {c : Code} {b L : Nat} {xs : Nat → Int32} {D : va_G} {cI cL : ClassId} {Q : State → Prop} {ad : Nat → Nat} (hC : lK p l s m meth c b L xs D cI cL) {i cells slots : Nat} (hi : i + 5 ≤ L) (hce : cells + 2 ≤ room_1.cells) (hsl : slots + 12 ≤ room_1.slots) (kk : lGo p l e s m below meth c b D cI cL Q ad i 1648 (cells + 1) (slots + 6)) : lGo p l e s m below meth c b D cI cL Q ad i 992 cells slots := by
  obtain ⟨K0, KC, hx, hb, hr, hml, hown, hX, hbl, hlocks, hL⟩ := hC
  intro σ τ oo H locs ls hI
  obtain ⟨hR, hP, hD, hS, hl⟩ := hI
  have hE : kEnv s s := kEnv.refl s
  obtain ⟨hts, hK⟩ := K0.at (args := #[Value.ref b]) hE
  have hbA : ¬ kA s b := Nat.not_le.mpr hbl
  have hce1 : cells + 1 ≤ room_1.cells := Nat.le_trans (Nat.le_succ _) hce
  have hsl1 : slots + 6 ≤ room_1.slots := Nat.le_trans (Nat.add_le_add_left (by decide) _) hsl
  have hce2 : cells + 1 + 1 ≤ room_1.cells := hce
  have hsl2 : slots + 6 + 6 ≤ room_1.slots := hsl
  have hag : kAg [eIA, eUO, eNS] σ (sp_close σ (xs (i + 1)) (xs (i + 2))) (fin (t0 τ) (rs_close (t0 τ) (xs (i + 1)) (xs (i + 2)))) := ag_close (τ := t0 τ) (kRel_t hR 0 (nI 0)) (sw_g τ 2 0 (nI 0)) (xs (i + 1)) (xs (i + 2))
  obtain ⟨⟨z1, τ1⟩, ez⟩ : ∃ z, z = fin (t0 τ) (rs_close (t0 τ) (xs (i + 1)) (xs (i + 2))) := ⟨_, rfl⟩
  rw [← ez] at hag
  have hML := c_Law_close K0 KC ad τ σ oo (xs (i + 1)) (xs (i + 2)) hR.1 hag
  obtain ⟨kd, v, u, o2, e1, hz1, hz2, hR1, ho⟩ := kAg_all oo (by decide) hag
  rw [e1] at hML
  subst hz1
  have hMo := c_Mod_close K0 ad u (wO ad cL o2) τ (xs (i + 1)) (xs (i + 2)) (kOr_of hR)
  rw [← ez] at hMo
  refine lv_aload_n hx hb d_Law_law_992 rfl (lv_at hl 1 rfl) ?_
  refine lv_aload_n hx hb d_Law_law_993 rfl (lv_at hl 0 rfl) ?_
  refine lv_iload hx hb d_Law_law_994 (lv_at hl 4 rfl) ?_
  refine lv_iconst (v := nI 1) hx hb d_Law_law_996 (by decide) ?_
  refine k_addN hx hb d_Law_law_997 ?_
  refine k_scr hx hb hX hbl hbA hS (show i + 1 < L by omega) hL d_Law_law_998 ?_
  refine lv_aload_n hx hb d_Law_law_999 rfl (lv_at hl 0 rfl) ?_
  refine lv_iload hx hb d_Law_law_1000 (lv_at hl 4 rfl) ?_
  refine lv_iconst (v := nI 2) hx hb d_Law_law_1002 (by decide) ?_
  refine k_addN hx hb d_Law_law_1003 ?_
  refine k_scr hx hb hX hbl hbA hS (show i + 2 < L by omega) hL d_Law_law_1004 ?_
  refine lv_aload_n hx hb d_Law_law_1005 rfl (lv_at hl 3 rfl) ?_
  refine k_callL (k_atS (As := [.ref (ad 0), .int (xs (i + 1)), .int (xs (i + 2)), .ref (ad 30)]) hx hb hown hE.1 (K0.w tw_512) (by rfl) k_w9H (hts _ tw_510) (hts _ tw_511) (hts _ tw_0) (by decide) np_Law_close rfl d_Law_law_1006) hML (hl.1.trans hml.symm) (Nat.le_of_ble_eq_true rfl) ⟨Nat.le_of_ble_eq_true rfl, Nat.le_of_ble_eq_true rfl, hce1, hsl1⟩ (fun U hU hW => ⟨hE.go hW hU hS, by rw [hU]; exact hP, hD⟩) hS (fun H locs hP hD hS => ?_)
  have hP : va_P D vwCl (wX ad cI u (wO ad cL o2) τ) H := hP
  have hD : va_D (kA s) (wX ad cI u (wO ad cL o2) τ) := hD
  refine lv_istore (lv' := [(5, .int (nI kd)), (0, .ref b), (1, .ref (ad 0)), (2, .ref (ad 17)), (3, .ref (ad 30)), (4, .int (nI i))]) hx hb d_Law_law_1009 hl (by decide) rfl (fun ls hl => ?_)
  refine lv_aload_n hx hb d_Law_law_1011 rfl (lv_at hl 3 rfl) ?_
  refine lv_aload_n hx hb d_Law_law_1012 rfl (lv_at hl 1 rfl) ?_
  refine lv_iload hx hb d_Law_law_1013 (lv_at hl 5 rfl) ?_
  refine lv_iconst (v := nI 1) hx hb d_Law_law_1015 (by decide) ?_
  refine k_addN hx hb d_Law_law_1016 ?_
  refine k_scr hx hb hX hbl hbA hS (show i + 1 < L by omega) hL d_Law_law_1017 ?_
  refine lv_aload_n hx hb d_Law_law_1018 rfl (lv_at hl 1 rfl) ?_
  refine lv_iload hx hb d_Law_law_1019 (lv_at hl 5 rfl) ?_
  refine lv_iconst (v := nI 2) hx hb d_Law_law_1021 (by decide) ?_
  refine k_addN hx hb d_Law_law_1022 ?_
  refine k_scr hx hb hX hbl hbA hS (show i + 2 < L by omega) hL d_Law_law_1023 ?_
  refine k_callW (k_atV (As := [.int (xs (i + 1)), .int (xs (i + 2))]) hx hb hown hE.1 (K0.w tw_813) (hts _ tw_810) (hts _ tw_811) (hts _ tw_812) (hts _ tw_5) (by decide) np_Mod_close (va_recv hK hP (ci := nMod) (q0 := 17) rfl rfl) rfl d_Law_law_1024) hMo (hl.1.trans hml.symm) (Nat.le_of_ble_eq_true rfl) ⟨Nat.le_of_ble_eq_true rfl, Nat.le_of_ble_eq_true rfl, hce2, hsl2⟩ (fun U hU hW => ⟨hE.go hW hU hS, by rw [hU]; exact hP, hD⟩) hS (fun H locs hP hD hS => ?_)
  refine lv_istore (lv' := [(6, .int v), (5, .int (nI kd)), (0, .ref b), (1, .ref (ad 0)), (2, .ref (ad 17)), (3, .ref (ad 30)), (4, .int (nI i))]) hx hb d_Law_law_1027 hl (by decide) rfl (fun ls hl => ?_)
  refine lv_aload_n hx hb d_Law_law_1029 rfl (lv_at hl 4 rfl) ?_
  refine k_callR (k_atV (As := []) hx hb hown hE.1 (K0.w tw_704) (hts _ tw_701) (hts _ tw_702) (hts _ tw_703) (hts _ tw_5) (by decide) np_Mod_thrown (va_recv hK hP (ci := nMod) (q0 := 17) rfl rfl) rfl d_Law_law_1030) (c_Mod_thrown K0 ad u (wO ad cL o2) τ1) (hl.1.trans hml.symm) (Nat.le_of_ble_eq_true rfl) ⟨Nat.le_of_ble_eq_true rfl, Nat.le_of_ble_eq_true rfl, hce2, hsl2⟩ (fun U hU hW => ⟨hE.go hW hU hS, by rw [hU]; exact hP, hD⟩) ?_
  refine lv_iload hx hb d_Law_law_1033 (lv_at hl 1 rfl) ?_
  refine lv_icmp_eq (tgt := 1040) hx hb d_Law_law_1035 (by decide) (fun _ => ?_) (fun h9 => absurd hz2 h9)
  have KE : W p l e room_1 s m #[Value.ref b] below meth c H locs (cells + 1) (slots + 6) Q (F0 m 1057 ls []) := by
    refine lv_goto (tgt := 1648) hx hb d_Law_law_1057 (by decide) ?_
    exact kk u τ1 o2 H locs ls ⟨hR1, hP, hD, hS, lv_sub hl [2, 3, 4, 5, 6] rfl⟩
  refine lv_iload hx hb d_Law_law_1040 (lv_at hl 1 rfl) ?_
  refine lv_if_ne (tgt := 1057) hx hb d_Law_law_1042 (by decide) (fun _ => KE) (fun h0 => ?_)
  refine lv_aload_n hx hb d_Law_law_1045 rfl (lv_at hl 5 rfl) ?_
  refine lv_iconst (v := nI 0) hx hb d_Law_law_1046 (by decide) ?_
  refine va_lald hx hb hK hP 30 1 rfl rfl (vp_in_nI (by decide) (by decide)) d_Law_law_1047 ?_
  refine lv_iload hx hb d_Law_law_1048 (lv_at hl 0 rfl) ?_
  refine lv_i2l hx hb d_Law_law_1050 rfl ?_
  refine W.lcmp hx hb d_Law_law_1051 ?_
  refine lv_if_eq (tgt := 1057) hx hb d_Law_law_1052 (by decide) (fun _ => KE) (fun h9 => absurd ?_ h9)
  have ho1 := ho h0
  subst ho1
  exact k_cmp0 _
set_option maxHeartbeats 4000000 in
set_option maxRecDepth 100000 in
theorem lc_put {p : Program} {l : Launch} {e : Env} {s : State} {m : MethodId} {below : List Frame} {meth : Method} {c : Code} {b L : Nat} {xs : Nat → Int32} {D : va_G} {cI cL : ClassId} {Q : State → Prop} {ad : Nat → Nat} (hC : lK p l s m meth c b L xs D cI cL) {i cells slots : Nat} (hi : i + 5 ≤ L) (hce : cells + 2 ≤ room_1.cells) (hsl : slots + 12 ≤ room_1.slots) (kk : lGo p l e s m below meth c b D cI cL Q ad i 1648 (cells + 1) (slots + 6)) : lGo p l e s m below meth c b D cI cL Q ad i 1060 cells slots := by
  obtain ⟨K0, KC, hx, hb, hr, hml, hown, hX, hbl, hlocks, hL⟩ := hC
  intro σ τ oo H locs ls hI
  obtain ⟨hR, hP, hD, hS, hl⟩ := hI
  have hE : kEnv s s := kEnv.refl s
  obtain ⟨hts, hK⟩ := K0.at (args := #[Value.ref b]) hE
  have hbA : ¬ kA s b := Nat.not_le.mpr hbl
  have hce1 : cells + 1 ≤ room_1.cells := Nat.le_trans (Nat.le_succ _) hce
  have hsl1 : slots + 6 ≤ room_1.slots := Nat.le_trans (Nat.add_le_add_left (by decide) _) hsl
  have hce2 : cells + 1 + 1 ≤ room_1.cells := hce
  have hsl2 : slots + 6 + 6 ≤ room_1.slots := hsl
  have hag : kAg [eIA, eNS, eUO, eIS] σ (sp_put σ (xs (i + 1)) (xs (i + 2))) (fin (t0 τ) (rs_put (t0 τ) (xs (i + 1)) (xs (i + 2)))) := ag_put (τ := t0 τ) (kRel_t hR 0 (nI 0)) (sw_g τ 2 0 (nI 0)) (xs (i + 1)) (xs (i + 2))
  obtain ⟨⟨z1, τ1⟩, ez⟩ : ∃ z, z = fin (t0 τ) (rs_put (t0 τ) (xs (i + 1)) (xs (i + 2))) := ⟨_, rfl⟩
  rw [← ez] at hag
  have hML := c_Law_put K0 KC ad τ σ oo (xs (i + 1)) (xs (i + 2)) hR.1 hag
  obtain ⟨kd, v, u, o2, e1, hz1, hz2, hR1, ho⟩ := kAg_all oo (by decide) hag
  rw [e1] at hML
  subst hz1
  have hMo := c_Mod_put K0 ad u (wO ad cL o2) τ (xs (i + 1)) (xs (i + 2)) (kOr_of hR)
  rw [← ez] at hMo
  refine lv_aload_n hx hb d_Law_law_1060 rfl (lv_at hl 1 rfl) ?_
  refine lv_aload_n hx hb d_Law_law_1061 rfl (lv_at hl 0 rfl) ?_
  refine lv_iload hx hb d_Law_law_1062 (lv_at hl 4 rfl) ?_
  refine lv_iconst (v := nI 1) hx hb d_Law_law_1064 (by decide) ?_
  refine k_addN hx hb d_Law_law_1065 ?_
  refine k_scr hx hb hX hbl hbA hS (show i + 1 < L by omega) hL d_Law_law_1066 ?_
  refine lv_aload_n hx hb d_Law_law_1067 rfl (lv_at hl 0 rfl) ?_
  refine lv_iload hx hb d_Law_law_1068 (lv_at hl 4 rfl) ?_
  refine lv_iconst (v := nI 2) hx hb d_Law_law_1070 (by decide) ?_
  refine k_addN hx hb d_Law_law_1071 ?_
  refine k_scr hx hb hX hbl hbA hS (show i + 2 < L by omega) hL d_Law_law_1072 ?_
  refine lv_aload_n hx hb d_Law_law_1073 rfl (lv_at hl 3 rfl) ?_
  refine k_callL (k_atS (As := [.ref (ad 0), .int (xs (i + 1)), .int (xs (i + 2)), .ref (ad 30)]) hx hb hown hE.1 (K0.w tw_519) (by rfl) k_w9H (hts _ tw_517) (hts _ tw_518) (hts _ tw_0) (by decide) np_Law_put rfl d_Law_law_1074) hML (hl.1.trans hml.symm) (Nat.le_of_ble_eq_true rfl) ⟨Nat.le_of_ble_eq_true rfl, Nat.le_of_ble_eq_true rfl, hce1, hsl1⟩ (fun U hU hW => ⟨hE.go hW hU hS, by rw [hU]; exact hP, hD⟩) hS (fun H locs hP hD hS => ?_)
  have hP : va_P D vwCl (wX ad cI u (wO ad cL o2) τ) H := hP
  have hD : va_D (kA s) (wX ad cI u (wO ad cL o2) τ) := hD
  refine lv_istore (lv' := [(5, .int (nI kd)), (0, .ref b), (1, .ref (ad 0)), (2, .ref (ad 17)), (3, .ref (ad 30)), (4, .int (nI i))]) hx hb d_Law_law_1077 hl (by decide) rfl (fun ls hl => ?_)
  refine lv_aload_n hx hb d_Law_law_1079 rfl (lv_at hl 3 rfl) ?_
  refine lv_aload_n hx hb d_Law_law_1080 rfl (lv_at hl 1 rfl) ?_
  refine lv_iload hx hb d_Law_law_1081 (lv_at hl 5 rfl) ?_
  refine lv_iconst (v := nI 1) hx hb d_Law_law_1083 (by decide) ?_
  refine k_addN hx hb d_Law_law_1084 ?_
  refine k_scr hx hb hX hbl hbA hS (show i + 1 < L by omega) hL d_Law_law_1085 ?_
  refine lv_aload_n hx hb d_Law_law_1086 rfl (lv_at hl 1 rfl) ?_
  refine lv_iload hx hb d_Law_law_1087 (lv_at hl 5 rfl) ?_
  refine lv_iconst (v := nI 2) hx hb d_Law_law_1089 (by decide) ?_
  refine k_addN hx hb d_Law_law_1090 ?_
  refine k_scr hx hb hX hbl hbA hS (show i + 2 < L by omega) hL d_Law_law_1091 ?_
  refine k_callW (k_atV (As := [.int (xs (i + 1)), .int (xs (i + 2))]) hx hb hown hE.1 (K0.w tw_817) (hts _ tw_814) (hts _ tw_815) (hts _ tw_816) (hts _ tw_5) (by decide) np_Mod_put (va_recv hK hP (ci := nMod) (q0 := 17) rfl rfl) rfl d_Law_law_1092) hMo (hl.1.trans hml.symm) (Nat.le_of_ble_eq_true rfl) ⟨Nat.le_of_ble_eq_true rfl, Nat.le_of_ble_eq_true rfl, hce2, hsl2⟩ (fun U hU hW => ⟨hE.go hW hU hS, by rw [hU]; exact hP, hD⟩) hS (fun H locs hP hD hS => ?_)
  refine lv_istore (lv' := [(6, .int v), (5, .int (nI kd)), (0, .ref b), (1, .ref (ad 0)), (2, .ref (ad 17)), (3, .ref (ad 30)), (4, .int (nI i))]) hx hb d_Law_law_1095 hl (by decide) rfl (fun ls hl => ?_)
  refine lv_aload_n hx hb d_Law_law_1097 rfl (lv_at hl 4 rfl) ?_
  refine k_callR (k_atV (As := []) hx hb hown hE.1 (K0.w tw_704) (hts _ tw_701) (hts _ tw_702) (hts _ tw_703) (hts _ tw_5) (by decide) np_Mod_thrown (va_recv hK hP (ci := nMod) (q0 := 17) rfl rfl) rfl d_Law_law_1098) (c_Mod_thrown K0 ad u (wO ad cL o2) τ1) (hl.1.trans hml.symm) (Nat.le_of_ble_eq_true rfl) ⟨Nat.le_of_ble_eq_true rfl, Nat.le_of_ble_eq_true rfl, hce2, hsl2⟩ (fun U hU hW => ⟨hE.go hW hU hS, by rw [hU]; exact hP, hD⟩) ?_
  refine lv_iload hx hb d_Law_law_1101 (lv_at hl 1 rfl) ?_
  refine lv_icmp_eq (tgt := 1108) hx hb d_Law_law_1103 (by decide) (fun _ => ?_) (fun h9 => absurd hz2 h9)
  have KE : W p l e room_1 s m #[Value.ref b] below meth c H locs (cells + 1) (slots + 6) Q (F0 m 1125 ls []) := by
    refine lv_goto (tgt := 1648) hx hb d_Law_law_1125 (by decide) ?_
    exact kk u τ1 o2 H locs ls ⟨hR1, hP, hD, hS, lv_sub hl [2, 3, 4, 5, 6] rfl⟩
  refine lv_iload hx hb d_Law_law_1108 (lv_at hl 1 rfl) ?_
  refine lv_if_ne (tgt := 1125) hx hb d_Law_law_1110 (by decide) (fun _ => KE) (fun h0 => ?_)
  refine lv_aload_n hx hb d_Law_law_1113 rfl (lv_at hl 5 rfl) ?_
  refine lv_iconst (v := nI 0) hx hb d_Law_law_1114 (by decide) ?_
  refine va_lald hx hb hK hP 30 1 rfl rfl (vp_in_nI (by decide) (by decide)) d_Law_law_1115 ?_
  refine lv_iload hx hb d_Law_law_1116 (lv_at hl 0 rfl) ?_
  refine lv_i2l hx hb d_Law_law_1118 rfl ?_
  refine W.lcmp hx hb d_Law_law_1119 ?_
  refine lv_if_eq (tgt := 1125) hx hb d_Law_law_1120 (by decide) (fun _ => KE) (fun h9 => absurd ?_ h9)
  have ho1 := ho h0
  subst ho1
  exact k_cmp0 _
set_option maxHeartbeats 4000000 in
set_option maxRecDepth 100000 in
theorem lc_take {p : Program} {l : Launch} {e : Env} {s : State} {m : MethodId} {below : List Frame} {meth : Method} {c : Code} {b L : Nat} {xs : Nat → Int32} {D : va_G} {cI cL : ClassId} {Q : State → Prop} {ad : Nat → Nat} (hC : lK p l s m meth c b L xs D cI cL) {i cells slots : Nat} (hi : i + 5 ≤ L) (hce : cells + 2 ≤ room_1.cells) (hsl : slots + 12 ≤ room_1.slots) (kk : lGo p l e s m below meth c b D cI cL Q ad i 1648 (cells + 1) (slots + 6)) : lGo p l e s m below meth c b D cI cL Q ad i 1128 cells slots := by
  obtain ⟨K0, KC, hx, hb, hr, hml, hown, hX, hbl, hlocks, hL⟩ := hC
  intro σ τ oo H locs ls hI
  obtain ⟨hR, hP, hD, hS, hl⟩ := hI
  have hE : kEnv s s := kEnv.refl s
  obtain ⟨hts, hK⟩ := K0.at (args := #[Value.ref b]) hE
  have hbA : ¬ kA s b := Nat.not_le.mpr hbl
  have hce1 : cells + 1 ≤ room_1.cells := Nat.le_trans (Nat.le_succ _) hce
  have hsl1 : slots + 6 ≤ room_1.slots := Nat.le_trans (Nat.add_le_add_left (by decide) _) hsl
  have hce2 : cells + 1 + 1 ≤ room_1.cells := hce
  have hsl2 : slots + 6 + 6 ≤ room_1.slots := hsl
  have hag : kAg [eIA, eNS, eUO, eIS] σ (sp_take σ (xs (i + 1)) (xs (i + 2))) (fin (t0 τ) (rs_take (t0 τ) (xs (i + 1)) (xs (i + 2)))) := ag_take (τ := t0 τ) (kRel_t hR 0 (nI 0)) (sw_g τ 2 0 (nI 0)) (xs (i + 1)) (xs (i + 2))
  obtain ⟨⟨z1, τ1⟩, ez⟩ : ∃ z, z = fin (t0 τ) (rs_take (t0 τ) (xs (i + 1)) (xs (i + 2))) := ⟨_, rfl⟩
  rw [← ez] at hag
  have hML := c_Law_take K0 KC ad τ σ oo (xs (i + 1)) (xs (i + 2)) hR.1 hag
  obtain ⟨kd, v, u, o2, e1, hz1, hz2, hR1, ho⟩ := kAg_all oo (by decide) hag
  rw [e1] at hML
  subst hz1
  have hMo := c_Mod_take K0 ad u (wO ad cL o2) τ (xs (i + 1)) (xs (i + 2)) (kOr_of hR)
  rw [← ez] at hMo
  refine lv_aload_n hx hb d_Law_law_1128 rfl (lv_at hl 1 rfl) ?_
  refine lv_aload_n hx hb d_Law_law_1129 rfl (lv_at hl 0 rfl) ?_
  refine lv_iload hx hb d_Law_law_1130 (lv_at hl 4 rfl) ?_
  refine lv_iconst (v := nI 1) hx hb d_Law_law_1132 (by decide) ?_
  refine k_addN hx hb d_Law_law_1133 ?_
  refine k_scr hx hb hX hbl hbA hS (show i + 1 < L by omega) hL d_Law_law_1134 ?_
  refine lv_aload_n hx hb d_Law_law_1135 rfl (lv_at hl 0 rfl) ?_
  refine lv_iload hx hb d_Law_law_1136 (lv_at hl 4 rfl) ?_
  refine lv_iconst (v := nI 2) hx hb d_Law_law_1138 (by decide) ?_
  refine k_addN hx hb d_Law_law_1139 ?_
  refine k_scr hx hb hX hbl hbA hS (show i + 2 < L by omega) hL d_Law_law_1140 ?_
  refine lv_aload_n hx hb d_Law_law_1141 rfl (lv_at hl 3 rfl) ?_
  refine k_callL (k_atS (As := [.ref (ad 0), .int (xs (i + 1)), .int (xs (i + 2)), .ref (ad 30)]) hx hb hown hE.1 (K0.w tw_563) (by rfl) k_w9H (hts _ tw_561) (hts _ tw_562) (hts _ tw_0) (by decide) np_Law_take rfl d_Law_law_1142) hML (hl.1.trans hml.symm) (Nat.le_of_ble_eq_true rfl) ⟨Nat.le_of_ble_eq_true rfl, Nat.le_of_ble_eq_true rfl, hce1, hsl1⟩ (fun U hU hW => ⟨hE.go hW hU hS, by rw [hU]; exact hP, hD⟩) hS (fun H locs hP hD hS => ?_)
  have hP : va_P D vwCl (wX ad cI u (wO ad cL o2) τ) H := hP
  have hD : va_D (kA s) (wX ad cI u (wO ad cL o2) τ) := hD
  refine lv_istore (lv' := [(5, .int (nI kd)), (0, .ref b), (1, .ref (ad 0)), (2, .ref (ad 17)), (3, .ref (ad 30)), (4, .int (nI i))]) hx hb d_Law_law_1145 hl (by decide) rfl (fun ls hl => ?_)
  refine lv_aload_n hx hb d_Law_law_1147 rfl (lv_at hl 3 rfl) ?_
  refine lv_aload_n hx hb d_Law_law_1148 rfl (lv_at hl 1 rfl) ?_
  refine lv_iload hx hb d_Law_law_1149 (lv_at hl 5 rfl) ?_
  refine lv_iconst (v := nI 1) hx hb d_Law_law_1151 (by decide) ?_
  refine k_addN hx hb d_Law_law_1152 ?_
  refine k_scr hx hb hX hbl hbA hS (show i + 1 < L by omega) hL d_Law_law_1153 ?_
  refine lv_aload_n hx hb d_Law_law_1154 rfl (lv_at hl 1 rfl) ?_
  refine lv_iload hx hb d_Law_law_1155 (lv_at hl 5 rfl) ?_
  refine lv_iconst (v := nI 2) hx hb d_Law_law_1157 (by decide) ?_
  refine k_addN hx hb d_Law_law_1158 ?_
  refine k_scr hx hb hX hbl hbA hS (show i + 2 < L by omega) hL d_Law_law_1159 ?_
  refine k_callW (k_atV (As := [.int (xs (i + 1)), .int (xs (i + 2))]) hx hb hown hE.1 (K0.w tw_829) (hts _ tw_826) (hts _ tw_827) (hts _ tw_828) (hts _ tw_5) (by decide) np_Mod_take (va_recv hK hP (ci := nMod) (q0 := 17) rfl rfl) rfl d_Law_law_1160) hMo (hl.1.trans hml.symm) (Nat.le_of_ble_eq_true rfl) ⟨Nat.le_of_ble_eq_true rfl, Nat.le_of_ble_eq_true rfl, hce2, hsl2⟩ (fun U hU hW => ⟨hE.go hW hU hS, by rw [hU]; exact hP, hD⟩) hS (fun H locs hP hD hS => ?_)
  refine lv_istore (lv' := [(6, .int v), (5, .int (nI kd)), (0, .ref b), (1, .ref (ad 0)), (2, .ref (ad 17)), (3, .ref (ad 30)), (4, .int (nI i))]) hx hb d_Law_law_1163 hl (by decide) rfl (fun ls hl => ?_)
  refine lv_aload_n hx hb d_Law_law_1165 rfl (lv_at hl 4 rfl) ?_
  refine k_callR (k_atV (As := []) hx hb hown hE.1 (K0.w tw_704) (hts _ tw_701) (hts _ tw_702) (hts _ tw_703) (hts _ tw_5) (by decide) np_Mod_thrown (va_recv hK hP (ci := nMod) (q0 := 17) rfl rfl) rfl d_Law_law_1166) (c_Mod_thrown K0 ad u (wO ad cL o2) τ1) (hl.1.trans hml.symm) (Nat.le_of_ble_eq_true rfl) ⟨Nat.le_of_ble_eq_true rfl, Nat.le_of_ble_eq_true rfl, hce2, hsl2⟩ (fun U hU hW => ⟨hE.go hW hU hS, by rw [hU]; exact hP, hD⟩) ?_
  refine lv_iload hx hb d_Law_law_1169 (lv_at hl 1 rfl) ?_
  refine lv_icmp_eq (tgt := 1176) hx hb d_Law_law_1171 (by decide) (fun _ => ?_) (fun h9 => absurd hz2 h9)
  have KE : W p l e room_1 s m #[Value.ref b] below meth c H locs (cells + 1) (slots + 6) Q (F0 m 1193 ls []) := by
    refine lv_goto (tgt := 1648) hx hb d_Law_law_1193 (by decide) ?_
    exact kk u τ1 o2 H locs ls ⟨hR1, hP, hD, hS, lv_sub hl [2, 3, 4, 5, 6] rfl⟩
  refine lv_iload hx hb d_Law_law_1176 (lv_at hl 1 rfl) ?_
  refine lv_if_ne (tgt := 1193) hx hb d_Law_law_1178 (by decide) (fun _ => KE) (fun h0 => ?_)
  refine lv_aload_n hx hb d_Law_law_1181 rfl (lv_at hl 5 rfl) ?_
  refine lv_iconst (v := nI 0) hx hb d_Law_law_1182 (by decide) ?_
  refine va_lald hx hb hK hP 30 1 rfl rfl (vp_in_nI (by decide) (by decide)) d_Law_law_1183 ?_
  refine lv_iload hx hb d_Law_law_1184 (lv_at hl 0 rfl) ?_
  refine lv_i2l hx hb d_Law_law_1186 rfl ?_
  refine W.lcmp hx hb d_Law_law_1187 ?_
  refine lv_if_eq (tgt := 1193) hx hb d_Law_law_1188 (by decide) (fun _ => KE) (fun h9 => absurd ?_ h9)
  have ho1 := ho h0
  subst ho1
  exact k_cmp0 _
set_option maxHeartbeats 4000000 in
set_option maxRecDepth 100000 in
theorem lc_read {p : Program} {l : Launch} {e : Env} {s : State} {m : MethodId} {below : List Frame} {meth : Method} {c : Code} {b L : Nat} {xs : Nat → Int32} {D : va_G} {cI cL : ClassId} {Q : State → Prop} {ad : Nat → Nat} (hC : lK p l s m meth c b L xs D cI cL) {i cells slots : Nat} (hi : i + 5 ≤ L) (hce : cells + 2 ≤ room_1.cells) (hsl : slots + 12 ≤ room_1.slots) (kk : lGo p l e s m below meth c b D cI cL Q ad i 1648 (cells + 1) (slots + 6)) : lGo p l e s m below meth c b D cI cL Q ad i 1196 cells slots := by
  obtain ⟨K0, KC, hx, hb, hr, hml, hown, hX, hbl, hlocks, hL⟩ := hC
  intro σ τ oo H locs ls hI
  obtain ⟨hR, hP, hD, hS, hl⟩ := hI
  have hE : kEnv s s := kEnv.refl s
  obtain ⟨hts, hK⟩ := K0.at (args := #[Value.ref b]) hE
  have hbA : ¬ kA s b := Nat.not_le.mpr hbl
  have hce1 : cells + 1 ≤ room_1.cells := Nat.le_trans (Nat.le_succ _) hce
  have hsl1 : slots + 6 ≤ room_1.slots := Nat.le_trans (Nat.add_le_add_left (by decide) _) hsl
  have hce2 : cells + 1 + 1 ≤ room_1.cells := hce
  have hsl2 : slots + 6 + 6 ≤ room_1.slots := hsl
  have hag : kAg [eIA, eNS, eUO] σ (sp_read σ (xs (i + 1))) (fin (t0 τ) (rs_read (t0 τ) (xs (i + 1)))) := ag_read (τ := t0 τ) (kRel_t hR 0 (nI 0)) (sw_g τ 2 0 (nI 0)) (xs (i + 1))
  obtain ⟨⟨z1, τ1⟩, ez⟩ : ∃ z, z = fin (t0 τ) (rs_read (t0 τ) (xs (i + 1))) := ⟨_, rfl⟩
  rw [← ez] at hag
  have hML := c_Law_read K0 KC ad τ σ oo (xs (i + 1)) hR.1 hag
  obtain ⟨kd, v, u, o2, e1, hz1, hz2, hR1, ho⟩ := kAg_all oo (by decide) hag
  rw [e1] at hML
  subst hz1
  have hMo := c_Mod_read K0 ad u (wO ad cL o2) τ (xs (i + 1)) (kOr_of hR)
  rw [← ez] at hMo
  refine lv_aload_n hx hb d_Law_law_1196 rfl (lv_at hl 1 rfl) ?_
  refine lv_aload_n hx hb d_Law_law_1197 rfl (lv_at hl 0 rfl) ?_
  refine lv_iload hx hb d_Law_law_1198 (lv_at hl 4 rfl) ?_
  refine lv_iconst (v := nI 1) hx hb d_Law_law_1200 (by decide) ?_
  refine k_addN hx hb d_Law_law_1201 ?_
  refine k_scr hx hb hX hbl hbA hS (show i + 1 < L by omega) hL d_Law_law_1202 ?_
  refine lv_aload_n hx hb d_Law_law_1203 rfl (lv_at hl 3 rfl) ?_
  refine k_callL (k_atS (As := [.ref (ad 0), .int (xs (i + 1)), .ref (ad 30)]) hx hb hown hE.1 (K0.w tw_576) (by rfl) k_w9H (hts _ tw_574) (hts _ tw_575) (hts _ tw_0) (by decide) np_Law_read rfl d_Law_law_1204) hML (hl.1.trans hml.symm) (Nat.le_of_ble_eq_true rfl) ⟨Nat.le_of_ble_eq_true rfl, Nat.le_of_ble_eq_true rfl, hce1, hsl1⟩ (fun U hU hW => ⟨hE.go hW hU hS, by rw [hU]; exact hP, hD⟩) hS (fun H locs hP hD hS => ?_)
  have hP : va_P D vwCl (wX ad cI u (wO ad cL o2) τ) H := hP
  have hD : va_D (kA s) (wX ad cI u (wO ad cL o2) τ) := hD
  refine lv_istore (lv' := [(5, .int (nI kd)), (0, .ref b), (1, .ref (ad 0)), (2, .ref (ad 17)), (3, .ref (ad 30)), (4, .int (nI i))]) hx hb d_Law_law_1207 hl (by decide) rfl (fun ls hl => ?_)
  refine lv_aload_n hx hb d_Law_law_1209 rfl (lv_at hl 3 rfl) ?_
  refine lv_aload_n hx hb d_Law_law_1210 rfl (lv_at hl 1 rfl) ?_
  refine lv_iload hx hb d_Law_law_1211 (lv_at hl 5 rfl) ?_
  refine lv_iconst (v := nI 1) hx hb d_Law_law_1213 (by decide) ?_
  refine k_addN hx hb d_Law_law_1214 ?_
  refine k_scr hx hb hX hbl hbA hS (show i + 1 < L by omega) hL d_Law_law_1215 ?_
  refine k_callW (k_atV (As := [.int (xs (i + 1))]) hx hb hown hE.1 (K0.w tw_833) (hts _ tw_830) (hts _ tw_831) (hts _ tw_832) (hts _ tw_5) (by decide) np_Mod_read (va_recv hK hP (ci := nMod) (q0 := 17) rfl rfl) rfl d_Law_law_1216) hMo (hl.1.trans hml.symm) (Nat.le_of_ble_eq_true rfl) ⟨Nat.le_of_ble_eq_true rfl, Nat.le_of_ble_eq_true rfl, hce2, hsl2⟩ (fun U hU hW => ⟨hE.go hW hU hS, by rw [hU]; exact hP, hD⟩) hS (fun H locs hP hD hS => ?_)
  refine lv_istore (lv' := [(6, .int v), (5, .int (nI kd)), (0, .ref b), (1, .ref (ad 0)), (2, .ref (ad 17)), (3, .ref (ad 30)), (4, .int (nI i))]) hx hb d_Law_law_1219 hl (by decide) rfl (fun ls hl => ?_)
  refine lv_aload_n hx hb d_Law_law_1221 rfl (lv_at hl 4 rfl) ?_
  refine k_callR (k_atV (As := []) hx hb hown hE.1 (K0.w tw_704) (hts _ tw_701) (hts _ tw_702) (hts _ tw_703) (hts _ tw_5) (by decide) np_Mod_thrown (va_recv hK hP (ci := nMod) (q0 := 17) rfl rfl) rfl d_Law_law_1222) (c_Mod_thrown K0 ad u (wO ad cL o2) τ1) (hl.1.trans hml.symm) (Nat.le_of_ble_eq_true rfl) ⟨Nat.le_of_ble_eq_true rfl, Nat.le_of_ble_eq_true rfl, hce2, hsl2⟩ (fun U hU hW => ⟨hE.go hW hU hS, by rw [hU]; exact hP, hD⟩) ?_
  refine lv_iload hx hb d_Law_law_1225 (lv_at hl 1 rfl) ?_
  refine lv_icmp_eq (tgt := 1232) hx hb d_Law_law_1227 (by decide) (fun _ => ?_) (fun h9 => absurd hz2 h9)
  have KE : W p l e room_1 s m #[Value.ref b] below meth c H locs (cells + 1) (slots + 6) Q (F0 m 1249 ls []) := by
    refine lv_goto (tgt := 1648) hx hb d_Law_law_1249 (by decide) ?_
    exact kk u τ1 o2 H locs ls ⟨hR1, hP, hD, hS, lv_sub hl [2, 3, 4, 5, 6] rfl⟩
  refine lv_iload hx hb d_Law_law_1232 (lv_at hl 1 rfl) ?_
  refine lv_if_ne (tgt := 1249) hx hb d_Law_law_1234 (by decide) (fun _ => KE) (fun h0 => ?_)
  refine lv_aload_n hx hb d_Law_law_1237 rfl (lv_at hl 5 rfl) ?_
  refine lv_iconst (v := nI 0) hx hb d_Law_law_1238 (by decide) ?_
  refine va_lald hx hb hK hP 30 1 rfl rfl (vp_in_nI (by decide) (by decide)) d_Law_law_1239 ?_
  refine lv_iload hx hb d_Law_law_1240 (lv_at hl 0 rfl) ?_
  refine lv_i2l hx hb d_Law_law_1242 rfl ?_
  refine W.lcmp hx hb d_Law_law_1243 ?_
  refine lv_if_eq (tgt := 1249) hx hb d_Law_law_1244 (by decide) (fun _ => KE) (fun h9 => absurd ?_ h9)
  have ho1 := ho h0
  subst ho1
  exact k_cmp0 _
set_option maxHeartbeats 4000000 in
set_option maxRecDepth 100000 in
theorem lc_write {p : Program} {l : Launch} {e : Env} {s : State} {m : MethodId} {below : List Frame} {meth : Method} {c : Code} {b L : Nat} {xs : Nat → Int32} {D : va_G} {cI cL : ClassId} {Q : State → Prop} {ad : Nat → Nat} (hC : lK p l s m meth c b L xs D cI cL) {i cells slots : Nat} (hi : i + 5 ≤ L) (hce : cells + 2 ≤ room_1.cells) (hsl : slots + 12 ≤ room_1.slots) (kk : lGo p l e s m below meth c b D cI cL Q ad i 1648 (cells + 1) (slots + 6)) : lGo p l e s m below meth c b D cI cL Q ad i 1252 cells slots := by
  obtain ⟨K0, KC, hx, hb, hr, hml, hown, hX, hbl, hlocks, hL⟩ := hC
  intro σ τ oo H locs ls hI
  obtain ⟨hR, hP, hD, hS, hl⟩ := hI
  have hE : kEnv s s := kEnv.refl s
  obtain ⟨hts, hK⟩ := K0.at (args := #[Value.ref b]) hE
  have hbA : ¬ kA s b := Nat.not_le.mpr hbl
  have hce1 : cells + 1 ≤ room_1.cells := Nat.le_trans (Nat.le_succ _) hce
  have hsl1 : slots + 6 ≤ room_1.slots := Nat.le_trans (Nat.add_le_add_left (by decide) _) hsl
  have hce2 : cells + 1 + 1 ≤ room_1.cells := hce
  have hsl2 : slots + 6 + 6 ≤ room_1.slots := hsl
  have hag : kAg [eIA, eNS, eUO] σ (sp_write σ (xs (i + 1)) (xs (i + 2))) (fin (t0 τ) (rs_write (t0 τ) (xs (i + 1)) (xs (i + 2)))) := ag_write (τ := t0 τ) (kRel_t hR 0 (nI 0)) (sw_g τ 2 0 (nI 0)) (xs (i + 1)) (xs (i + 2))
  obtain ⟨⟨z1, τ1⟩, ez⟩ : ∃ z, z = fin (t0 τ) (rs_write (t0 τ) (xs (i + 1)) (xs (i + 2))) := ⟨_, rfl⟩
  rw [← ez] at hag
  have hML := c_Law_write K0 KC ad τ σ oo (xs (i + 1)) (xs (i + 2)) hR.1 hag
  obtain ⟨kd, v, u, o2, e1, hz1, hz2, hR1, ho⟩ := kAg_all oo (by decide) hag
  rw [e1] at hML
  subst hz1
  have hMo := c_Mod_write K0 ad u (wO ad cL o2) τ (xs (i + 1)) (xs (i + 2)) (kOr_of hR)
  rw [← ez] at hMo
  refine lv_aload_n hx hb d_Law_law_1252 rfl (lv_at hl 1 rfl) ?_
  refine lv_aload_n hx hb d_Law_law_1253 rfl (lv_at hl 0 rfl) ?_
  refine lv_iload hx hb d_Law_law_1254 (lv_at hl 4 rfl) ?_
  refine lv_iconst (v := nI 1) hx hb d_Law_law_1256 (by decide) ?_
  refine k_addN hx hb d_Law_law_1257 ?_
  refine k_scr hx hb hX hbl hbA hS (show i + 1 < L by omega) hL d_Law_law_1258 ?_
  refine lv_aload_n hx hb d_Law_law_1259 rfl (lv_at hl 0 rfl) ?_
  refine lv_iload hx hb d_Law_law_1260 (lv_at hl 4 rfl) ?_
  refine lv_iconst (v := nI 2) hx hb d_Law_law_1262 (by decide) ?_
  refine k_addN hx hb d_Law_law_1263 ?_
  refine k_scr hx hb hX hbl hbA hS (show i + 2 < L by omega) hL d_Law_law_1264 ?_
  refine lv_aload_n hx hb d_Law_law_1265 rfl (lv_at hl 3 rfl) ?_
  refine k_callL (k_atS (As := [.ref (ad 0), .int (xs (i + 1)), .int (xs (i + 2)), .ref (ad 30)]) hx hb hown hE.1 (K0.w tw_583) (by rfl) k_w9H (hts _ tw_581) (hts _ tw_582) (hts _ tw_0) (by decide) np_Law_write rfl d_Law_law_1266) hML (hl.1.trans hml.symm) (Nat.le_of_ble_eq_true rfl) ⟨Nat.le_of_ble_eq_true rfl, Nat.le_of_ble_eq_true rfl, hce1, hsl1⟩ (fun U hU hW => ⟨hE.go hW hU hS, by rw [hU]; exact hP, hD⟩) hS (fun H locs hP hD hS => ?_)
  have hP : va_P D vwCl (wX ad cI u (wO ad cL o2) τ) H := hP
  have hD : va_D (kA s) (wX ad cI u (wO ad cL o2) τ) := hD
  refine lv_istore (lv' := [(5, .int (nI kd)), (0, .ref b), (1, .ref (ad 0)), (2, .ref (ad 17)), (3, .ref (ad 30)), (4, .int (nI i))]) hx hb d_Law_law_1269 hl (by decide) rfl (fun ls hl => ?_)
  refine lv_aload_n hx hb d_Law_law_1271 rfl (lv_at hl 3 rfl) ?_
  refine lv_aload_n hx hb d_Law_law_1272 rfl (lv_at hl 1 rfl) ?_
  refine lv_iload hx hb d_Law_law_1273 (lv_at hl 5 rfl) ?_
  refine lv_iconst (v := nI 1) hx hb d_Law_law_1275 (by decide) ?_
  refine k_addN hx hb d_Law_law_1276 ?_
  refine k_scr hx hb hX hbl hbA hS (show i + 1 < L by omega) hL d_Law_law_1277 ?_
  refine lv_aload_n hx hb d_Law_law_1278 rfl (lv_at hl 1 rfl) ?_
  refine lv_iload hx hb d_Law_law_1279 (lv_at hl 5 rfl) ?_
  refine lv_iconst (v := nI 2) hx hb d_Law_law_1281 (by decide) ?_
  refine k_addN hx hb d_Law_law_1282 ?_
  refine k_scr hx hb hX hbl hbA hS (show i + 2 < L by omega) hL d_Law_law_1283 ?_
  refine k_callW (k_atV (As := [.int (xs (i + 1)), .int (xs (i + 2))]) hx hb hown hE.1 (K0.w tw_837) (hts _ tw_834) (hts _ tw_835) (hts _ tw_836) (hts _ tw_5) (by decide) np_Mod_write (va_recv hK hP (ci := nMod) (q0 := 17) rfl rfl) rfl d_Law_law_1284) hMo (hl.1.trans hml.symm) (Nat.le_of_ble_eq_true rfl) ⟨Nat.le_of_ble_eq_true rfl, Nat.le_of_ble_eq_true rfl, hce2, hsl2⟩ (fun U hU hW => ⟨hE.go hW hU hS, by rw [hU]; exact hP, hD⟩) hS (fun H locs hP hD hS => ?_)
  refine lv_istore (lv' := [(6, .int v), (5, .int (nI kd)), (0, .ref b), (1, .ref (ad 0)), (2, .ref (ad 17)), (3, .ref (ad 30)), (4, .int (nI i))]) hx hb d_Law_law_1287 hl (by decide) rfl (fun ls hl => ?_)
  refine lv_aload_n hx hb d_Law_law_1289 rfl (lv_at hl 4 rfl) ?_
  refine k_callR (k_atV (As := []) hx hb hown hE.1 (K0.w tw_704) (hts _ tw_701) (hts _ tw_702) (hts _ tw_703) (hts _ tw_5) (by decide) np_Mod_thrown (va_recv hK hP (ci := nMod) (q0 := 17) rfl rfl) rfl d_Law_law_1290) (c_Mod_thrown K0 ad u (wO ad cL o2) τ1) (hl.1.trans hml.symm) (Nat.le_of_ble_eq_true rfl) ⟨Nat.le_of_ble_eq_true rfl, Nat.le_of_ble_eq_true rfl, hce2, hsl2⟩ (fun U hU hW => ⟨hE.go hW hU hS, by rw [hU]; exact hP, hD⟩) ?_
  refine lv_iload hx hb d_Law_law_1293 (lv_at hl 1 rfl) ?_
  refine lv_icmp_eq (tgt := 1300) hx hb d_Law_law_1295 (by decide) (fun _ => ?_) (fun h9 => absurd hz2 h9)
  have KE : W p l e room_1 s m #[Value.ref b] below meth c H locs (cells + 1) (slots + 6) Q (F0 m 1317 ls []) := by
    refine lv_goto (tgt := 1648) hx hb d_Law_law_1317 (by decide) ?_
    exact kk u τ1 o2 H locs ls ⟨hR1, hP, hD, hS, lv_sub hl [2, 3, 4, 5, 6] rfl⟩
  refine lv_iload hx hb d_Law_law_1300 (lv_at hl 1 rfl) ?_
  refine lv_if_ne (tgt := 1317) hx hb d_Law_law_1302 (by decide) (fun _ => KE) (fun h0 => ?_)
  refine lv_aload_n hx hb d_Law_law_1305 rfl (lv_at hl 5 rfl) ?_
  refine lv_iconst (v := nI 0) hx hb d_Law_law_1306 (by decide) ?_
  refine va_lald hx hb hK hP 30 1 rfl rfl (vp_in_nI (by decide) (by decide)) d_Law_law_1307 ?_
  refine lv_iload hx hb d_Law_law_1308 (lv_at hl 0 rfl) ?_
  refine lv_i2l hx hb d_Law_law_1310 rfl ?_
  refine W.lcmp hx hb d_Law_law_1311 ?_
  refine lv_if_eq (tgt := 1317) hx hb d_Law_law_1312 (by decide) (fun _ => KE) (fun h9 => absurd ?_ h9)
  have ho1 := ho h0
  subst ho1
  exact k_cmp0 _
set_option maxHeartbeats 4000000 in
set_option maxRecDepth 100000 in
theorem lc_expect {p : Program} {l : Launch} {e : Env} {s : State} {m : MethodId} {below : List Frame} {meth : Method} {c : Code} {b L : Nat} {xs : Nat → Int32} {D : va_G} {cI cL : ClassId} {Q : State → Prop} {ad : Nat → Nat} (hC : lK p l s m meth c b L xs D cI cL) {i cells slots : Nat} (hi : i + 5 ≤ L) (hce : cells + 2 ≤ room_1.cells) (hsl : slots + 12 ≤ room_1.slots) (kk : lGo p l e s m below meth c b D cI cL Q ad i 1648 (cells + 1) (slots + 6)) : lGo p l e s m below meth c b D cI cL Q ad i 1320 cells slots := by
  obtain ⟨K0, KC, hx, hb, hr, hml, hown, hX, hbl, hlocks, hL⟩ := hC
  intro σ τ oo H locs ls hI
  obtain ⟨hR, hP, hD, hS, hl⟩ := hI
  have hE : kEnv s s := kEnv.refl s
  obtain ⟨hts, hK⟩ := K0.at (args := #[Value.ref b]) hE
  have hbA : ¬ kA s b := Nat.not_le.mpr hbl
  have hce1 : cells + 1 ≤ room_1.cells := Nat.le_trans (Nat.le_succ _) hce
  have hsl1 : slots + 6 ≤ room_1.slots := Nat.le_trans (Nat.add_le_add_left (by decide) _) hsl
  have hce2 : cells + 1 + 1 ≤ room_1.cells := hce
  have hsl2 : slots + 6 + 6 ≤ room_1.slots := hsl
  have hag : kAg [eIA, eIS, eNS, eUO] σ (sp_expect σ (xs (i + 1)) (xs (i + 2))) (fin (t0 τ) (rs_expect (t0 τ) (xs (i + 1)) (xs (i + 2)))) := ag_expect (τ := t0 τ) (kRel_t hR 0 (nI 0)) (sw_g τ 2 0 (nI 0)) (xs (i + 1)) (xs (i + 2))
  obtain ⟨⟨z1, τ1⟩, ez⟩ : ∃ z, z = fin (t0 τ) (rs_expect (t0 τ) (xs (i + 1)) (xs (i + 2))) := ⟨_, rfl⟩
  rw [← ez] at hag
  have hML := c_Law_expect K0 KC ad τ σ oo (xs (i + 1)) (xs (i + 2)) hR.1 hag
  obtain ⟨kd, v, u, o2, e1, hz1, hz2, hR1, ho⟩ := kAg_all oo (by decide) hag
  rw [e1] at hML
  subst hz1
  have hMo := c_Mod_expect K0 ad u (wO ad cL o2) τ (xs (i + 1)) (xs (i + 2)) (kOr_of hR)
  rw [← ez] at hMo
  refine lv_aload_n hx hb d_Law_law_1320 rfl (lv_at hl 1 rfl) ?_
  refine lv_aload_n hx hb d_Law_law_1321 rfl (lv_at hl 0 rfl) ?_
  refine lv_iload hx hb d_Law_law_1322 (lv_at hl 4 rfl) ?_
  refine lv_iconst (v := nI 1) hx hb d_Law_law_1324 (by decide) ?_
  refine k_addN hx hb d_Law_law_1325 ?_
  refine k_scr hx hb hX hbl hbA hS (show i + 1 < L by omega) hL d_Law_law_1326 ?_
  refine lv_aload_n hx hb d_Law_law_1327 rfl (lv_at hl 0 rfl) ?_
  refine lv_iload hx hb d_Law_law_1328 (lv_at hl 4 rfl) ?_
  refine lv_iconst (v := nI 2) hx hb d_Law_law_1330 (by decide) ?_
  refine k_addN hx hb d_Law_law_1331 ?_
  refine k_scr hx hb hX hbl hbA hS (show i + 2 < L by omega) hL d_Law_law_1332 ?_
  refine lv_aload_n hx hb d_Law_law_1333 rfl (lv_at hl 3 rfl) ?_
  refine k_callL (k_atS (As := [.ref (ad 0), .int (xs (i + 1)), .int (xs (i + 2)), .ref (ad 30)]) hx hb hown hE.1 (K0.w tw_590) (by rfl) k_w9H (hts _ tw_588) (hts _ tw_589) (hts _ tw_0) (by decide) np_Law_expect rfl d_Law_law_1334) hML (hl.1.trans hml.symm) (Nat.le_of_ble_eq_true rfl) ⟨Nat.le_of_ble_eq_true rfl, Nat.le_of_ble_eq_true rfl, hce1, hsl1⟩ (fun U hU hW => ⟨hE.go hW hU hS, by rw [hU]; exact hP, hD⟩) hS (fun H locs hP hD hS => ?_)
  have hP : va_P D vwCl (wX ad cI u (wO ad cL o2) τ) H := hP
  have hD : va_D (kA s) (wX ad cI u (wO ad cL o2) τ) := hD
  refine lv_istore (lv' := [(5, .int (nI kd)), (0, .ref b), (1, .ref (ad 0)), (2, .ref (ad 17)), (3, .ref (ad 30)), (4, .int (nI i))]) hx hb d_Law_law_1337 hl (by decide) rfl (fun ls hl => ?_)
  refine lv_aload_n hx hb d_Law_law_1339 rfl (lv_at hl 3 rfl) ?_
  refine lv_aload_n hx hb d_Law_law_1340 rfl (lv_at hl 1 rfl) ?_
  refine lv_iload hx hb d_Law_law_1341 (lv_at hl 5 rfl) ?_
  refine lv_iconst (v := nI 1) hx hb d_Law_law_1343 (by decide) ?_
  refine k_addN hx hb d_Law_law_1344 ?_
  refine k_scr hx hb hX hbl hbA hS (show i + 1 < L by omega) hL d_Law_law_1345 ?_
  refine lv_aload_n hx hb d_Law_law_1346 rfl (lv_at hl 1 rfl) ?_
  refine lv_iload hx hb d_Law_law_1347 (lv_at hl 5 rfl) ?_
  refine lv_iconst (v := nI 2) hx hb d_Law_law_1349 (by decide) ?_
  refine k_addN hx hb d_Law_law_1350 ?_
  refine k_scr hx hb hX hbl hbA hS (show i + 2 < L by omega) hL d_Law_law_1351 ?_
  refine k_callW (k_atV (As := [.int (xs (i + 1)), .int (xs (i + 2))]) hx hb hown hE.1 (K0.w tw_841) (hts _ tw_838) (hts _ tw_839) (hts _ tw_840) (hts _ tw_5) (by decide) np_Mod_expect (va_recv hK hP (ci := nMod) (q0 := 17) rfl rfl) rfl d_Law_law_1352) hMo (hl.1.trans hml.symm) (Nat.le_of_ble_eq_true rfl) ⟨Nat.le_of_ble_eq_true rfl, Nat.le_of_ble_eq_true rfl, hce2, hsl2⟩ (fun U hU hW => ⟨hE.go hW hU hS, by rw [hU]; exact hP, hD⟩) hS (fun H locs hP hD hS => ?_)
  refine lv_istore (lv' := [(6, .int v), (5, .int (nI kd)), (0, .ref b), (1, .ref (ad 0)), (2, .ref (ad 17)), (3, .ref (ad 30)), (4, .int (nI i))]) hx hb d_Law_law_1355 hl (by decide) rfl (fun ls hl => ?_)
  refine lv_aload_n hx hb d_Law_law_1357 rfl (lv_at hl 4 rfl) ?_
  refine k_callR (k_atV (As := []) hx hb hown hE.1 (K0.w tw_704) (hts _ tw_701) (hts _ tw_702) (hts _ tw_703) (hts _ tw_5) (by decide) np_Mod_thrown (va_recv hK hP (ci := nMod) (q0 := 17) rfl rfl) rfl d_Law_law_1358) (c_Mod_thrown K0 ad u (wO ad cL o2) τ1) (hl.1.trans hml.symm) (Nat.le_of_ble_eq_true rfl) ⟨Nat.le_of_ble_eq_true rfl, Nat.le_of_ble_eq_true rfl, hce2, hsl2⟩ (fun U hU hW => ⟨hE.go hW hU hS, by rw [hU]; exact hP, hD⟩) ?_
  refine lv_iload hx hb d_Law_law_1361 (lv_at hl 1 rfl) ?_
  refine lv_icmp_eq (tgt := 1368) hx hb d_Law_law_1363 (by decide) (fun _ => ?_) (fun h9 => absurd hz2 h9)
  have KE : W p l e room_1 s m #[Value.ref b] below meth c H locs (cells + 1) (slots + 6) Q (F0 m 1385 ls []) := by
    refine lv_goto (tgt := 1648) hx hb d_Law_law_1385 (by decide) ?_
    exact kk u τ1 o2 H locs ls ⟨hR1, hP, hD, hS, lv_sub hl [2, 3, 4, 5, 6] rfl⟩
  refine lv_iload hx hb d_Law_law_1368 (lv_at hl 1 rfl) ?_
  refine lv_if_ne (tgt := 1385) hx hb d_Law_law_1370 (by decide) (fun _ => KE) (fun h0 => ?_)
  refine lv_aload_n hx hb d_Law_law_1373 rfl (lv_at hl 5 rfl) ?_
  refine lv_iconst (v := nI 0) hx hb d_Law_law_1374 (by decide) ?_
  refine va_lald hx hb hK hP 30 1 rfl rfl (vp_in_nI (by decide) (by decide)) d_Law_law_1375 ?_
  refine lv_iload hx hb d_Law_law_1376 (lv_at hl 0 rfl) ?_
  refine lv_i2l hx hb d_Law_law_1378 rfl ?_
  refine W.lcmp hx hb d_Law_law_1379 ?_
  refine lv_if_eq (tgt := 1385) hx hb d_Law_law_1380 (by decide) (fun _ => KE) (fun h9 => absurd ?_ h9)
  have ho1 := ho h0
  subst ho1
  exact k_cmp0 _
