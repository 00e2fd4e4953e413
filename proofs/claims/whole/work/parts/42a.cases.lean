/-! The law's cases, 1 of 4. Laid by a program of mine (wip/gen/law.py). -/
set_option maxHeartbeats 4000000 in
set_option maxRecDepth 100000 in
theorem lc_spawn {p : Program} {l : Launch} {e : Env} {s : State} {m : MethodId} {below : List Frame} {meth : Method} {c : Code} {b L : Nat} {xs : Nat → Int32} {D : va_G} {cI cL : ClassId} {Q : State → Prop} {ad : Nat → Nat} (hC : lK p l s m meth c b L xs D cI cL) {i cells slots : Nat} (hi : i + 5 ≤ L) (hce : cells + 2 ≤ room_1.cells) (hsl : slots + 12 ≤ room_1.slots) (kk : lGo p l e s m below meth c b D cI cL Q ad i 1648 (cells + 1) (slots + 6)) : lGo p l e s m below meth c b D cI cL Q ad i 140 cells slots := by
  obtain ⟨K0, KC, hx, hb, hr, hml, hown, hX, hbl, hlocks, hL⟩ := hC
  intro σ τ oo H locs ls hI
  obtain ⟨hR, hP, hD, hS, hl⟩ := hI
  have hE : kEnv s s := kEnv.refl s
  obtain ⟨hts, hK⟩ := K0.at (args := #[Value.ref b]) hE
  have hbA : ¬ kA s b := Nat.not_le.mpr hbl
  have hce1 : cells + 1 ≤ room_1.cells := Nat.le_trans (Nat.le_succ _) hce
  have hsl1 : slots + 6 ≤ room_1.slots := Nat.le_trans (Nat.add_le_add_left (by decide) _) hsl
  have hce2 : cells + 1 + 1 ≤ room_1.cells := hce
  have hsl2 : slots + 6 + 6 ≤ room_1.slots := hsl
  have hag : kAg [eIA, eIS] σ (sp_spawn σ (xs (i + 1)) (xs (i + 2))) (fin (t0 τ) (rs_spawn (t0 τ) (xs (i + 1)) (xs (i + 2)))) := ag_spawn (τ := t0 τ) (kRel_t hR 0 (nI 0)) (sw_g τ 2 0 (nI 0)) (xs (i + 1)) (xs (i + 2))
  obtain ⟨⟨z1, τ1⟩, ez⟩ : ∃ z, z = fin (t0 τ) (rs_spawn (t0 τ) (xs (i + 1)) (xs (i + 2))) := ⟨_, rfl⟩
  rw [← ez] at hag
  have hML := c_Law_spawn K0 KC ad τ σ oo (xs (i + 1)) (xs (i + 2)) hR.1 hag
  obtain ⟨kd, v, u, o2, e1, hz1, hz2, hR1, ho⟩ := kAg_all oo (by decide) hag
  rw [e1] at hML
  subst hz1
  have hMo := c_Mod_spawn K0 ad u (wO ad cL o2) τ (xs (i + 1)) (xs (i + 2)) (kOr_of hR)
  rw [← ez] at hMo
  refine lv_aload_n hx hb d_Law_law_140 rfl (lv_at hl 1 rfl) ?_
  refine lv_aload_n hx hb d_Law_law_141 rfl (lv_at hl 0 rfl) ?_
  refine lv_iload hx hb d_Law_law_142 (lv_at hl 4 rfl) ?_
  refine lv_iconst (v := nI 1) hx hb d_Law_law_144 (by decide) ?_
  refine k_addN hx hb d_Law_law_145 ?_
  refine k_scr hx hb hX hbl hbA hS (show i + 1 < L by omega) hL d_Law_law_146 ?_
  refine lv_aload_n hx hb d_Law_law_147 rfl (lv_at hl 0 rfl) ?_
  refine lv_iload hx hb d_Law_law_148 (lv_at hl 4 rfl) ?_
  refine lv_iconst (v := nI 2) hx hb d_Law_law_150 (by decide) ?_
  refine k_addN hx hb d_Law_law_151 ?_
  refine k_scr hx hb hX hbl hbA hS (show i + 2 < L by omega) hL d_Law_law_152 ?_
  refine lv_aload_n hx hb d_Law_law_153 rfl (lv_at hl 3 rfl) ?_
  refine k_callL (k_atS (As := [.ref (ad 0), .int (xs (i + 1)), .int (xs (i + 2)), .ref (ad 30)]) hx hb hown hE.1 (K0.w tw_131) (by rfl) k_w9H (hts _ tw_129) (hts _ tw_130) (hts _ tw_0) (by decide) np_Law_spawn rfl d_Law_law_154) hML (hl.1.trans hml.symm) (Nat.le_of_ble_eq_true rfl) ⟨Nat.le_of_ble_eq_true rfl, Nat.le_of_ble_eq_true rfl, hce1, hsl1⟩ (fun U hU hW => ⟨hE.go hW hU hS, by rw [hU]; exact hP, hD⟩) hS (fun H locs hP hD hS => ?_)
  have hP : va_P D vwCl (wX ad cI u (wO ad cL o2) τ) H := hP
  have hD : va_D (kA s) (wX ad cI u (wO ad cL o2) τ) := hD
  refine lv_istore (lv' := [(5, .int (nI kd)), (0, .ref b), (1, .ref (ad 0)), (2, .ref (ad 17)), (3, .ref (ad 30)), (4, .int (nI i))]) hx hb d_Law_law_157 hl (by decide) rfl (fun ls hl => ?_)
  refine lv_aload_n hx hb d_Law_law_159 rfl (lv_at hl 3 rfl) ?_
  refine lv_aload_n hx hb d_Law_law_160 rfl (lv_at hl 1 rfl) ?_
  refine lv_iload hx hb d_Law_law_161 (lv_at hl 5 rfl) ?_
  refine lv_iconst (v := nI 1) hx hb d_Law_law_163 (by decide) ?_
  refine k_addN hx hb d_Law_law_164 ?_
  refine k_scr hx hb hX hbl hbA hS (show i + 1 < L by omega) hL d_Law_law_165 ?_
  refine lv_aload_n hx hb d_Law_law_166 rfl (lv_at hl 1 rfl) ?_
  refine lv_iload hx hb d_Law_law_167 (lv_at hl 5 rfl) ?_
  refine lv_iconst (v := nI 2) hx hb d_Law_law_169 (by decide) ?_
  refine k_addN hx hb d_Law_law_170 ?_
  refine k_scr hx hb hX hbl hbA hS (show i + 2 < L by omega) hL d_Law_law_171 ?_
  refine k_callW (k_atV (As := [.int (xs (i + 1)), .int (xs (i + 2))]) hx hb hown hE.1 (K0.w tw_708) (hts _ tw_705) (hts _ tw_706) (hts _ tw_707) (hts _ tw_5) (by decide) np_Mod_spawn (va_recv hK hP (ci := nMod) (q0 := 17) rfl rfl) rfl d_Law_law_172) hMo (hl.1.trans hml.symm) (Nat.le_of_ble_eq_true rfl) ⟨Nat.le_of_ble_eq_true rfl, Nat.le_of_ble_eq_true rfl, hce2, hsl2⟩ (fun U hU hW => ⟨hE.go hW hU hS, by rw [hU]; exact hP, hD⟩) hS (fun H locs hP hD hS => ?_)
  refine lv_istore (lv' := [(6, .int v), (5, .int (nI kd)), (0, .ref b), (1, .ref (ad 0)), (2, .ref (ad 17)), (3, .ref (ad 30)), (4, .int (nI i))]) hx hb d_Law_law_175 hl (by decide) rfl (fun ls hl => ?_)
  refine lv_aload_n hx hb d_Law_law_177 rfl (lv_at hl 4 rfl) ?_
  refine k_callR (k_atV (As := []) hx hb hown hE.1 (K0.w tw_704) (hts _ tw_701) (hts _ tw_702) (hts _ tw_703) (hts _ tw_5) (by decide) np_Mod_thrown (va_recv hK hP (ci := nMod) (q0 := 17) rfl rfl) rfl d_Law_law_178) (c_Mod_thrown K0 ad u (wO ad cL o2) τ1) (hl.1.trans hml.symm) (Nat.le_of_ble_eq_true rfl) ⟨Nat.le_of_ble_eq_true rfl, Nat.le_of_ble_eq_true rfl, hce2, hsl2⟩ (fun U hU hW => ⟨hE.go hW hU hS, by rw [hU]; exact hP, hD⟩) ?_
  refine lv_iload hx hb d_Law_law_181 (lv_at hl 1 rfl) ?_
  refine lv_icmp_eq (tgt := 188) hx hb d_Law_law_183 (by decide) (fun _ => ?_) (fun h9 => absurd hz2 h9)
  have KE : W p l e room_1 s m #[Value.ref b] below meth c H locs (cells + 1) (slots + 6) Q (F0 m 205 ls []) := by
    refine lv_goto (tgt := 1648) hx hb d_Law_law_205 (by decide) ?_
    exact kk u τ1 o2 H locs ls ⟨hR1, hP, hD, hS, lv_sub hl [2, 3, 4, 5, 6] rfl⟩
  refine lv_iload hx hb d_Law_law_188 (lv_at hl 1 rfl) ?_
  refine lv_if_ne (tgt := 205) hx hb d_Law_law_190 (by decide) (fun _ => KE) (fun h0 => ?_)
  refine lv_aload_n hx hb d_Law_law_193 rfl (lv_at hl 5 rfl) ?_
  refine lv_iconst (v := nI 0) hx hb d_Law_law_194 (by decide) ?_
  refine va_lald hx hb hK hP 30 1 rfl rfl (vp_in_nI (by decide) (by decide)) d_Law_law_195 ?_
  refine lv_iload hx hb d_Law_law_196 (lv_at hl 0 rfl) ?_
  refine lv_i2l hx hb d_Law_law_198 rfl ?_
  refine W.lcmp hx hb d_Law_law_199 ?_
  refine lv_if_eq (tgt := 205) hx hb d_Law_law_200 (by decide) (fun _ => KE) (fun h9 => absurd ?_ h9)
  have ho1 := ho h0
  subst ho1
  exact k_cmp0 _
set_option maxHeartbeats 4000000 in
set_option maxRecDepth 100000 in
theorem lc_table {p : Program} {l : Launch} {e : Env} {s : State} {m : MethodId} {below : List Frame} {meth : Method} {c : Code} {b L : Nat} {xs : Nat → Int32} {D : va_G} {cI cL : ClassId} {Q : State → Prop} {ad : Nat → Nat} (hC : lK p l s m meth c b L xs D cI cL) {i cells slots : Nat} (hi : i + 5 ≤ L) (hce : cells + 2 ≤ room_1.cells) (hsl : slots + 12 ≤ room_1.slots) (kk : lGo p l e s m below meth c b D cI cL Q ad i 1648 (cells + 1) (slots + 6)) : lGo p l e s m below meth c b D cI cL Q ad i 208 cells slots := by
  obtain ⟨K0, KC, hx, hb, hr, hml, hown, hX, hbl, hlocks, hL⟩ := hC
  intro σ τ oo H locs ls hI
  obtain ⟨hR, hP, hD, hS, hl⟩ := hI
  have hE : kEnv s s := kEnv.refl s
  obtain ⟨hts, hK⟩ := K0.at (args := #[Value.ref b]) hE
  have hbA : ¬ kA s b := Nat.not_le.mpr hbl
  have hce1 : cells + 1 ≤ room_1.cells := Nat.le_trans (Nat.le_succ _) hce
  have hsl1 : slots + 6 ≤ room_1.slots := Nat.le_trans (Nat.add_le_add_left (by decide) _) hsl
  have hce2 : cells + 1 + 1 ≤ room_1.cells := hce
  have hsl2 : slots + 6 + 6 ≤ room_1.slots := hsl
  have hag : kAg [eIA, eUO, eIS] σ (sp_fill 1 σ (xs (i + 1)) (xs (i + 2)) (xs (i + 3)) (xs (i + 4))) (fin (t0 τ) (rs_hang 2 (t0 τ) (xs (i + 1)) (xs (i + 2)) (xs (i + 3)) (xs (i + 4)))) := ag_fill (τ := t0 τ) (kRel_t hR 0 (nI 0)) (sw_g τ 2 0 (nI 0)) (hk := 1) (by decide) (xs (i + 1)) (xs (i + 2)) (xs (i + 3)) (xs (i + 4))
  obtain ⟨⟨z1, τ1⟩, ez⟩ : ∃ z, z = fin (t0 τ) (rs_hang 2 (t0 τ) (xs (i + 1)) (xs (i + 2)) (xs (i + 3)) (xs (i + 4))) := ⟨_, rfl⟩
  rw [← ez] at hag
  have hML := c_Law_table K0 KC ad τ σ oo (xs (i + 1)) (xs (i + 2)) (xs (i + 3)) (xs (i + 4)) hR.1 hag
  obtain ⟨kd, v, u, o2, e1, hz1, hz2, hR1, ho⟩ := kAg_all oo (by decide) hag
  rw [e1] at hML
  subst hz1
  have hMo := c_Mod_table K0 ad u (wO ad cL o2) τ (xs (i + 1)) (xs (i + 2)) (xs (i + 3)) (xs (i + 4)) (kOr_of hR)
  rw [← ez] at hMo
  refine lv_aload_n hx hb d_Law_law_208 rfl (lv_at hl 1 rfl) ?_
  refine lv_aload_n hx hb d_Law_law_209 rfl (lv_at hl 0 rfl) ?_
  refine lv_iload hx hb d_Law_law_210 (lv_at hl 4 rfl) ?_
  refine lv_iconst (v := nI 1) hx hb d_Law_law_212 (by decide) ?_
  refine k_addN hx hb d_Law_law_213 ?_
  refine k_scr hx hb hX hbl hbA hS (show i + 1 < L by omega) hL d_Law_law_214 ?_
  refine lv_aload_n hx hb d_Law_law_215 rfl (lv_at hl 0 rfl) ?_
  refine lv_iload hx hb d_Law_law_216 (lv_at hl 4 rfl) ?_
  refine lv_iconst (v := nI 2) hx hb d_Law_law_218 (by decide) ?_
  refine k_addN hx hb d_Law_law_219 ?_
  refine k_scr hx hb hX hbl hbA hS (show i + 2 < L by omega) hL d_Law_law_220 ?_
  refine lv_aload_n hx hb d_Law_law_221 rfl (lv_at hl 0 rfl) ?_
  refine lv_iload hx hb d_Law_law_222 (lv_at hl 4 rfl) ?_
  refine lv_iconst (v := nI 3) hx hb d_Law_law_224 (by decide) ?_
  refine k_addN hx hb d_Law_law_225 ?_
  refine k_scr hx hb hX hbl hbA hS (show i + 3 < L by omega) hL d_Law_law_226 ?_
  refine lv_aload_n hx hb d_Law_law_227 rfl (lv_at hl 0 rfl) ?_
  refine lv_iload hx hb d_Law_law_228 (lv_at hl 4 rfl) ?_
  refine lv_iconst (v := nI 4) hx hb d_Law_law_230 (by decide) ?_
  refine k_addN hx hb d_Law_law_231 ?_
  refine k_scr hx hb hX hbl hbA hS (show i + 4 < L by omega) hL d_Law_law_232 ?_
  refine lv_aload_n hx hb d_Law_law_233 rfl (lv_at hl 3 rfl) ?_
  refine k_callL (k_atS (As := [.ref (ad 0), .int (xs (i + 1)), .int (xs (i + 2)), .int (xs (i + 3)), .int (xs (i + 4)), .ref (ad 30)]) hx hb hown hE.1 (K0.w tw_247) (by rfl) k_w9H (hts _ tw_245) (hts _ tw_246) (hts _ tw_0) (by decide) np_Law_table rfl d_Law_law_234) hML (hl.1.trans hml.symm) (Nat.le_of_ble_eq_true rfl) ⟨Nat.le_of_ble_eq_true rfl, Nat.le_of_ble_eq_true rfl, hce1, hsl1⟩ (fun U hU hW => ⟨hE.go hW hU hS, by rw [hU]; exact hP, hD⟩) hS (fun H locs hP hD hS => ?_)
  have hP : va_P D vwCl (wX ad cI u (wO ad cL o2) τ) H := hP
  have hD : va_D (kA s) (wX ad cI u (wO ad cL o2) τ) := hD
  refine lv_istore (lv' := [(5, .int (nI kd)), (0, .ref b), (1, .ref (ad 0)), (2, .ref (ad 17)), (3, .ref (ad 30)), (4, .int (nI i))]) hx hb d_Law_law_237 hl (by decide) rfl (fun ls hl => ?_)
  refine lv_aload_n hx hb d_Law_law_239 rfl (lv_at hl 3 rfl) ?_
  refine lv_aload_n hx hb d_Law_law_240 rfl (lv_at hl 1 rfl) ?_
  refine lv_iload hx hb d_Law_law_241 (lv_at hl 5 rfl) ?_
  refine lv_iconst (v := nI 1) hx hb d_Law_law_243 (by decide) ?_
  refine k_addN hx hb d_Law_law_244 ?_
  refine k_scr hx hb hX hbl hbA hS (show i + 1 < L by omega) hL d_Law_law_245 ?_
  refine lv_aload_n hx hb d_Law_law_246 rfl (lv_at hl 1 rfl) ?_
  refine lv_iload hx hb d_Law_law_247 (lv_at hl 5 rfl) ?_
  refine lv_iconst (v := nI 2) hx hb d_Law_law_249 (by decide) ?_
  refine k_addN hx hb d_Law_law_250 ?_
  refine k_scr hx hb hX hbl hbA hS (show i + 2 < L by omega) hL d_Law_law_251 ?_
  refine lv_aload_n hx hb d_Law_law_252 rfl (lv_at hl 1 rfl) ?_
  refine lv_iload hx hb d_Law_law_253 (lv_at hl 5 rfl) ?_
  refine lv_iconst (v := nI 3) hx hb d_Law_law_255 (by decide) ?_
  refine k_addN hx hb d_Law_law_256 ?_
  refine k_scr hx hb hX hbl hbA hS (show i + 3 < L by omega) hL d_Law_law_257 ?_
  refine lv_aload_n hx hb d_Law_law_258 rfl (lv_at hl 1 rfl) ?_
  refine lv_iload hx hb d_Law_law_259 (lv_at hl 5 rfl) ?_
  refine lv_iconst (v := nI 4) hx hb d_Law_law_261 (by decide) ?_
  refine k_addN hx hb d_Law_law_262 ?_
  refine k_scr hx hb hX hbl hbA hS (show i + 4 < L by omega) hL d_Law_law_263 ?_
  refine k_callW (k_atV (As := [.int (xs (i + 1)), .int (xs (i + 2)), .int (xs (i + 3)), .int (xs (i + 4))]) hx hb hown hE.1 (K0.w tw_729) (hts _ tw_726) (hts _ tw_727) (hts _ tw_728) (hts _ tw_5) (by decide) np_Mod_table (va_recv hK hP (ci := nMod) (q0 := 17) rfl rfl) rfl d_Law_law_264) hMo (hl.1.trans hml.symm) (Nat.le_of_ble_eq_true rfl) ⟨Nat.le_of_ble_eq_true rfl, Nat.le_of_ble_eq_true rfl, hce2, hsl2⟩ (fun U hU hW => ⟨hE.go hW hU hS, by rw [hU]; exact hP, hD⟩) hS (fun H locs hP hD hS => ?_)
  refine lv_istore (lv' := [(6, .int v), (5, .int (nI kd)), (0, .ref b), (1, .ref (ad 0)), (2, .ref (ad 17)), (3, .ref (ad 30)), (4, .int (nI i))]) hx hb d_Law_law_267 hl (by decide) rfl (fun ls hl => ?_)
  refine lv_aload_n hx hb d_Law_law_269 rfl (lv_at hl 4 rfl) ?_
  refine k_callR (k_atV (As := []) hx hb hown hE.1 (K0.w tw_704) (hts _ tw_701) (hts _ tw_702) (hts _ tw_703) (hts _ tw_5) (by decide) np_Mod_thrown (va_recv hK hP (ci := nMod) (q0 := 17) rfl rfl) rfl d_Law_law_270) (c_Mod_thrown K0 ad u (wO ad cL o2) τ1) (hl.1.trans hml.symm) (Nat.le_of_ble_eq_true rfl) ⟨Nat.le_of_ble_eq_true rfl, Nat.le_of_ble_eq_true rfl, hce2, hsl2⟩ (fun U hU hW => ⟨hE.go hW hU hS, by rw [hU]; exact hP, hD⟩) ?_
  refine lv_iload hx hb d_Law_law_273 (lv_at hl 1 rfl) ?_
  refine lv_icmp_eq (tgt := 280) hx hb d_Law_law_275 (by decide) (fun _ => ?_) (fun h9 => absurd hz2 h9)
  have KE : W p l e room_1 s m #[Value.ref b] below meth c H locs (cells + 1) (slots + 6) Q (F0 m 297 ls []) := by
    refine lv_goto (tgt := 1648) hx hb d_Law_law_297 (by decide) ?_
    exact kk u τ1 o2 H locs ls ⟨hR1, hP, hD, hS, lv_sub hl [2, 3, 4, 5, 6] rfl⟩
  refine lv_iload hx hb d_Law_law_280 (lv_at hl 1 rfl) ?_
  refine lv_if_ne (tgt := 297) hx hb d_Law_law_282 (by decide) (fun _ => KE) (fun h0 => ?_)
  refine lv_aload_n hx hb d_Law_law_285 rfl (lv_at hl 5 rfl) ?_
  refine lv_iconst (v := nI 0) hx hb d_Law_law_286 (by decide) ?_
  refine va_lald hx hb hK hP 30 1 rfl rfl (vp_in_nI (by decide) (by decide)) d_Law_law_287 ?_
  refine lv_iload hx hb d_Law_law_288 (lv_at hl 0 rfl) ?_
  refine lv_i2l hx hb d_Law_law_290 rfl ?_
  refine W.lcmp hx hb d_Law_law_291 ?_
  refine lv_if_eq (tgt := 297) hx hb d_Law_law_292 (by decide) (fun _ => KE) (fun h9 => absurd ?_ h9)
  have ho1 := ho h0
  subst ho1
  exact k_cmp0 _
set_option maxHeartbeats 4000000 in
set_option maxRecDepth 100000 in
theorem lc_frame {p : Program} {l : Launch} {e : Env} {s : State} {m : MethodId} {below : List Frame} {meth : Method} {c : Code} {b L : Nat} {xs : Nat → Int32} {D : va_G} {cI cL : ClassId} {Q : State → Prop} {ad : Nat → Nat} (hC : lK p l s m meth c b L xs D cI cL) {i cells slots : Nat} (hi : i + 5 ≤ L) (hce : cells + 2 ≤ room_1.cells) (hsl : slots + 12 ≤ room_1.slots) (kk : lGo p l e s m below meth c b D cI cL Q ad i 1648 (cells + 1) (slots + 6)) : lGo p l e s m below meth c b D cI cL Q ad i 300 cells slots := by
  obtain ⟨K0, KC, hx, hb, hr, hml, hown, hX, hbl, hlocks, hL⟩ := hC
  intro σ τ oo H locs ls hI
  obtain ⟨hR, hP, hD, hS, hl⟩ := hI
  have hE : kEnv s s := kEnv.refl s
  obtain ⟨hts, hK⟩ := K0.at (args := #[Value.ref b]) hE
  have hbA : ¬ kA s b := Nat.not_le.mpr hbl
  have hce1 : cells + 1 ≤ room_1.cells := Nat.le_trans (Nat.le_succ _) hce
  have hsl1 : slots + 6 ≤ room_1.slots := Nat.le_trans (Nat.add_le_add_left (by decide) _) hsl
  have hce2 : cells + 1 + 1 ≤ room_1.cells := hce
  have hsl2 : slots + 6 + 6 ≤ room_1.slots := hsl
  have hag : kAg [eIA, eUO, eIS] σ (sp_fill 2 σ (xs (i + 1)) (xs (i + 2)) (xs (i + 3)) (xs (i + 4))) (fin (t0 τ) (rs_hang 3 (t0 τ) (xs (i + 1)) (xs (i + 2)) (xs (i + 3)) (xs (i + 4)))) := ag_fill (τ := t0 τ) (kRel_t hR 0 (nI 0)) (sw_g τ 2 0 (nI 0)) (hk := 2) (by decide) (xs (i + 1)) (xs (i + 2)) (xs (i + 3)) (xs (i + 4))
  obtain ⟨⟨z1, τ1⟩, ez⟩ : ∃ z, z = fin (t0 τ) (rs_hang 3 (t0 τ) (xs (i + 1)) (xs (i + 2)) (xs (i + 3)) (xs (i + 4))) := ⟨_, rfl⟩
  rw [← ez] at hag
  have hML := c_Law_frame K0 KC ad τ σ oo (xs (i + 1)) (xs (i + 2)) (xs (i + 3)) (xs (i + 4)) hR.1 hag
  obtain ⟨kd, v, u, o2, e1, hz1, hz2, hR1, ho⟩ := kAg_all oo (by decide) hag
  rw [e1] at hML
  subst hz1
  have hMo := c_Mod_frame K0 ad u (wO ad cL o2) τ (xs (i + 1)) (xs (i + 2)) (xs (i + 3)) (xs (i + 4)) (kOr_of hR)
  rw [← ez] at hMo
  refine lv_aload_n hx hb d_Law_law_300 rfl (lv_at hl 1 rfl) ?_
  refine lv_aload_n hx hb d_Law_law_301 rfl (lv_at hl 0 rfl) ?_
  refine lv_iload hx hb d_Law_law_302 (lv_at hl 4 rfl) ?_
  refine lv_iconst (v := nI 1) hx hb d_Law_law_304 (by decide) ?_
  refine k_addN hx hb d_Law_law_305 ?_
  refine k_scr hx hb hX hbl hbA hS (show i + 1 < L by omega) hL d_Law_law_306 ?_
  refine lv_aload_n hx hb d_Law_law_307 rfl (lv_at hl 0 rfl) ?_
  refine lv_iload hx hb d_Law_law_308 (lv_at hl 4 rfl) ?_
  refine lv_iconst (v := nI 2) hx hb d_Law_law_310 (by decide) ?_
  refine k_addN hx hb d_Law_law_311 ?_
  refine k_scr hx hb hX hbl hbA hS (show i + 2 < L by omega) hL d_Law_law_312 ?_
  refine lv_aload_n hx hb d_Law_law_313 rfl (lv_at hl 0 rfl) ?_
  refine lv_iload hx hb d_Law_law_314 (lv_at hl 4 rfl) ?_
  refine lv_iconst (v := nI 3) hx hb d_Law_law_316 (by decide) ?_
  refine k_addN hx hb d_Law_law_317 ?_
  refine k_scr hx hb hX hbl hbA hS (show i + 3 < L by omega) hL d_Law_law_318 ?_
  refine lv_aload_n hx hb d_Law_law_319 rfl (lv_at hl 0 rfl) ?_
  refine lv_iload hx hb d_Law_law_320 (lv_at hl 4 rfl) ?_
  refine lv_iconst (v := nI 4) hx hb d_Law_law_322 (by decide) ?_
  refine k_addN hx hb d_Law_law_323 ?_
  refine k_scr hx hb hX hbl hbA hS (show i + 4 < L by omega) hL d_Law_law_324 ?_
  refine lv_aload_n hx hb d_Law_law_325 rfl (lv_at hl 3 rfl) ?_
  refine k_callL (k_atS (As := [.ref (ad 0), .int (xs (i + 1)), .int (xs (i + 2)), .int (xs (i + 3)), .int (xs (i + 4)), .ref (ad 30)]) hx hb hown hE.1 (K0.w tw_307) (by rfl) k_w9H (hts _ tw_305) (hts _ tw_306) (hts _ tw_0) (by decide) np_Law_frame rfl d_Law_law_326) hML (hl.1.trans hml.symm) (Nat.le_of_ble_eq_true rfl) ⟨Nat.le_of_ble_eq_true rfl, Nat.le_of_ble_eq_true rfl, hce1, hsl1⟩ (fun U hU hW => ⟨hE.go hW hU hS, by rw [hU]; exact hP, hD⟩) hS (fun H locs hP hD hS => ?_)
  have hP : va_P D vwCl (wX ad cI u (wO ad cL o2) τ) H := hP
  have hD : va_D (kA s) (wX ad cI u (wO ad cL o2) τ) := hD
  refine lv_istore (lv' := [(5, .int (nI kd)), (0, .ref b), (1, .ref (ad 0)), (2, .ref (ad 17)), (3, .ref (ad 30)), (4, .int (nI i))]) hx hb d_Law_law_329 hl (by decide) rfl (fun ls hl => ?_)
  refine lv_aload_n hx hb d_Law_law_331 rfl (lv_at hl 3 rfl) ?_
  refine lv_aload_n hx hb d_Law_law_332 rfl (lv_at hl 1 rfl) ?_
  refine lv_iload hx hb d_Law_law_333 (lv_at hl 5 rfl) ?_
  refine lv_iconst (v := nI 1) hx hb d_Law_law_335 (by decide) ?_
  refine k_addN hx hb d_Law_law_336 ?_
  refine k_scr hx hb hX hbl hbA hS (show i + 1 < L by omega) hL d_Law_law_337 ?_
  refine lv_aload_n hx hb d_Law_law_338 rfl (lv_at hl 1 rfl) ?_
  refine lv_iload hx hb d_Law_law_339 (lv_at hl 5 rfl) ?_
  refine lv_iconst (v := nI 2) hx hb d_Law_law_341 (by decide) ?_
  refine k_addN hx hb d_Law_law_342 ?_
  refine k_scr hx hb hX hbl hbA hS (show i + 2 < L by omega) hL d_Law_law_343 ?_
  refine lv_aload_n hx hb d_Law_law_344 rfl (lv_at hl 1 rfl) ?_
  refine lv_iload hx hb d_Law_law_345 (lv_at hl 5 rfl) ?_
  refine lv_iconst (v := nI 3) hx hb d_Law_law_347 (by decide) ?_
  refine k_addN hx hb d_Law_law_348 ?_
  refine k_scr hx hb hX hbl hbA hS (show i + 3 < L by omega) hL d_Law_law_349 ?_
  refine lv_aload_n hx hb d_Law_law_350 rfl (lv_at hl 1 rfl) ?_
  refine lv_iload hx hb d_Law_law_351 (lv_at hl 5 rfl) ?_
  refine lv_iconst (v := nI 4) hx hb d_Law_law_353 (by decide) ?_
  refine k_addN hx hb d_Law_law_354 ?_
  refine k_scr hx hb hX hbl hbA hS (show i + 4 < L by omega) hL d_Law_law_355 ?_
  refine k_callW (k_atV (As := [.int (xs (i + 1)), .int (xs (i + 2)), .int (xs (i + 3)), .int (xs (i + 4))]) hx hb hown hE.1 (K0.w tw_745) (hts _ tw_742) (hts _ tw_743) (hts _ tw_744) (hts _ tw_5) (by decide) np_Mod_frame (va_recv hK hP (ci := nMod) (q0 := 17) rfl rfl) rfl d_Law_law_356) hMo (hl.1.trans hml.symm) (Nat.le_of_ble_eq_true rfl) ⟨Nat.le_of_ble_eq_true rfl, Nat.le_of_ble_eq_true rfl, hce2, hsl2⟩ (fun U hU hW => ⟨hE.go hW hU hS, by rw [hU]; exact hP, hD⟩) hS (fun H locs hP hD hS => ?_)
  refine lv_istore (lv' := [(6, .int v), (5, .int (nI kd)), (0, .ref b), (1, .ref (ad 0)), (2, .ref (ad 17)), (3, .ref (ad 30)), (4, .int (nI i))]) hx hb d_Law_law_359 hl (by decide) rfl (fun ls hl => ?_)
  refine lv_aload_n hx hb d_Law_law_361 rfl (lv_at hl 4 rfl) ?_
  refine k_callR (k_atV (As := []) hx hb hown hE.1 (K0.w tw_704) (hts _ tw_701) (hts _ tw_702) (hts _ tw_703) (hts _ tw_5) (by decide) np_Mod_thrown (va_recv hK hP (ci := nMod) (q0 := 17) rfl rfl) rfl d_Law_law_362) (c_Mod_thrown K0 ad u (wO ad cL o2) τ1) (hl.1.trans hml.symm) (Nat.le_of_ble_eq_true rfl) ⟨Nat.le_of_ble_eq_true rfl, Nat.le_of_ble_eq_true rfl, hce2, hsl2⟩ (fun U hU hW => ⟨hE.go hW hU hS, by rw [hU]; exact hP, hD⟩) ?_
  refine lv_iload hx hb d_Law_law_365 (lv_at hl 1 rfl) ?_
  refine lv_icmp_eq (tgt := 372) hx hb d_Law_law_367 (by decide) (fun _ => ?_) (fun h9 => absurd hz2 h9)
  have KE : W p l e room_1 s m #[Value.ref b] below meth c H locs (cells + 1) (slots + 6) Q (F0 m 389 ls []) := by
    refine lv_goto (tgt := 1648) hx hb d_Law_law_389 (by decide) ?_
    exact kk u τ1 o2 H locs ls ⟨hR1, hP, hD, hS, lv_sub hl [2, 3, 4, 5, 6] rfl⟩
  refine lv_iload hx hb d_Law_law_372 (lv_at hl 1 rfl) ?_
  refine lv_if_ne (tgt := 389) hx hb d_Law_law_374 (by decide) (fun _ => KE) (fun h0 => ?_)
  refine lv_aload_n hx hb d_Law_law_377 rfl (lv_at hl 5 rfl) ?_
  refine lv_iconst (v := nI 0) hx hb d_Law_law_378 (by decide) ?_
  refine va_lald hx hb hK hP 30 1 rfl rfl (vp_in_nI (by decide) (by decide)) d_Law_law_379 ?_
  refine lv_iload hx hb d_Law_law_380 (lv_at hl 0 rfl) ?_
  refine lv_i2l hx hb d_Law_law_382 rfl ?_
  refine W.lcmp hx hb d_Law_law_383 ?_
  refine lv_if_eq (tgt := 389) hx hb d_Law_law_384 (by decide) (fun _ => KE) (fun h9 => absurd ?_ h9)
  have ho1 := ho h0
  subst ho1
  exact k_cmp0 _
set_option maxHeartbeats 4000000 in
set_option maxRecDepth 100000 in
theorem lc_protect {p : Program} {l : Launch} {e : Env} {s : State} {m : MethodId} {below : List Frame} {meth : Method} {c : Code} {b L : Nat} {xs : Nat → Int32} {D : va_G} {cI cL : ClassId} {Q : State → Prop} {ad : Nat → Nat} (hC : lK p l s m meth c b L xs D cI cL) {i cells slots : Nat} (hi : i + 5 ≤ L) (hce : cells + 2 ≤ room_1.cells) (hsl : slots + 12 ≤ room_1.slots) (kk : lGo p l e s m below meth c b D cI cL Q ad i 1648 (cells + 1) (slots + 6)) : lGo p l e s m below meth c b D cI cL Q ad i 392 cells slots := by
  obtain ⟨K0, KC, hx, hb, hr, hml, hown, hX, hbl, hlocks, hL⟩ := hC
  intro σ τ oo H locs ls hI
  obtain ⟨hR, hP, hD, hS, hl⟩ := hI
  have hE : kEnv s s := kEnv.refl s
  obtain ⟨hts, hK⟩ := K0.at (args := #[Value.ref b]) hE
  have hbA : ¬ kA s b := Nat.not_le.mpr hbl
  have hce1 : cells + 1 ≤ room_1.cells := Nat.le_trans (Nat.le_succ _) hce
  have hsl1 : slots + 6 ≤ room_1.slots := Nat.le_trans (Nat.add_le_add_left (by decide) _) hsl
  have hce2 : cells + 1 + 1 ≤ room_1.cells := hce
  have hsl2 : slots + 6 + 6 ≤ room_1.slots := hsl
  have hag : kAg [eIA, eUO, eNS] σ (sp_protect σ (xs (i + 1)) (xs (i + 2)) (xs (i + 3))) (fin (t0 τ) (rs_protect (t0 τ) (xs (i + 1)) (xs (i + 2)) (xs (i + 3)))) := ag_protect (τ := t0 τ) (kRel_t hR 0 (nI 0)) (sw_g τ 2 0 (nI 0)) (xs (i + 1)) (xs (i + 2)) (xs (i + 3))
  obtain ⟨⟨z1, τ1⟩, ez⟩ : ∃ z, z = fin (t0 τ) (rs_protect (t0 τ) (xs (i + 1)) (xs (i + 2)) (xs (i + 3))) := ⟨_, rfl⟩
  rw [← ez] at hag
  have hML := c_Law_protect K0 KC ad τ σ oo (xs (i + 1)) (xs (i + 2)) (xs (i + 3)) hR.1 hag
  obtain ⟨kd, v, u, o2, e1, hz1, hz2, hR1, ho⟩ := kAg_all oo (by decide) hag
  rw [e1] at hML
  subst hz1
  have hMo := c_Mod_protect K0 ad u (wO ad cL o2) τ (xs (i + 1)) (xs (i + 2)) (xs (i + 3)) (kOr_of hR)
  rw [← ez] at hMo
  refine lv_aload_n hx hb d_Law_law_392 rfl (lv_at hl 1 rfl) ?_
  refine lv_aload_n hx hb d_Law_law_393 rfl (lv_at hl 0 rfl) ?_
  refine lv_iload hx hb d_Law_law_394 (lv_at hl 4 rfl) ?_
  refine lv_iconst (v := nI 1) hx hb d_Law_law_396 (by decide) ?_
  refine k_addN hx hb d_Law_law_397 ?_
  refine k_scr hx hb hX hbl hbA hS (show i + 1 < L by omega) hL d_Law_law_398 ?_
  refine lv_aload_n hx hb d_Law_law_399 rfl (lv_at hl 0 rfl) ?_
  refine lv_iload hx hb d_Law_law_400 (lv_at hl 4 rfl) ?_
  refine lv_iconst (v := nI 2) hx hb d_Law_law_402 (by decide) ?_
  refine k_addN hx hb d_Law_law_403 ?_
  refine k_scr hx hb hX hbl hbA hS (show i + 2 < L by omega) hL d_Law_law_404 ?_
  refine lv_aload_n hx hb d_Law_law_405 rfl (lv_at hl 0 rfl) ?_
  refine lv_iload hx hb d_Law_law_406 (lv_at hl 4 rfl) ?_
  refine lv_iconst (v := nI 3) hx hb d_Law_law_408 (by decide) ?_
  refine k_addN hx hb d_Law_law_409 ?_
  refine k_scr hx hb hX hbl hbA hS (show i + 3 < L by omega) hL d_Law_law_410 ?_
  refine lv_aload_n hx hb d_Law_law_411 rfl (lv_at hl 3 rfl) ?_
  refine k_callL (k_atS (As := [.ref (ad 0), .int (xs (i + 1)), .int (xs (i + 2)), .int (xs (i + 3)), .ref (ad 30)]) hx hb hown hE.1 (K0.w tw_314) (by rfl) k_w9H (hts _ tw_312) (hts _ tw_313) (hts _ tw_0) (by decide) np_Law_protect rfl d_Law_law_412) hML (hl.1.trans hml.symm) (Nat.le_of_ble_eq_true rfl) ⟨Nat.le_of_ble_eq_true rfl, Nat.le_of_ble_eq_true rfl, hce1, hsl1⟩ (fun U hU hW => ⟨hE.go hW hU hS, by rw [hU]; exact hP, hD⟩) hS (fun H locs hP hD hS => ?_)
  have hP : va_P D vwCl (wX ad cI u (wO ad cL o2) τ) H := hP
  have hD : va_D (kA s) (wX ad cI u (wO ad cL o2) τ) := hD
  refine lv_istore (lv' := [(5, .int (nI kd)), (0, .ref b), (1, .ref (ad 0)), (2, .ref (ad 17)), (3, .ref (ad 30)), (4, .int (nI i))]) hx hb d_Law_law_415 hl (by decide) rfl (fun ls hl => ?_)
  refine lv_aload_n hx hb d_Law_law_417 rfl (lv_at hl 3 rfl) ?_
  refine lv_aload_n hx hb d_Law_law_418 rfl (lv_at hl 1 rfl) ?_
  refine lv_iload hx hb d_Law_law_419 (lv_at hl 5 rfl) ?_
  refine lv_iconst (v := nI 1) hx hb d_Law_law_421 (by decide) ?_
  refine k_addN hx hb d_Law_law_422 ?_
  refine k_scr hx hb hX hbl hbA hS (show i + 1 < L by omega) hL d_Law_law_423 ?_
  refine lv_aload_n hx hb d_Law_law_424 rfl (lv_at hl 1 rfl) ?_
  refine lv_iload hx hb d_Law_law_425 (lv_at hl 5 rfl) ?_
  refine lv_iconst (v := nI 2) hx hb d_Law_law_427 (by decide) ?_
  refine k_addN hx hb d_Law_law_428 ?_
  refine k_scr hx hb hX hbl hbA hS (show i + 2 < L by omega) hL d_Law_law_429 ?_
  refine lv_aload_n hx hb d_Law_law_430 rfl (lv_at hl 1 rfl) ?_
  refine lv_iload hx hb d_Law_law_431 (lv_at hl 5 rfl) ?_
  refine lv_iconst (v := nI 3) hx hb d_Law_law_433 (by decide) ?_
  refine k_addN hx hb d_Law_law_434 ?_
  refine k_scr hx hb hX hbl hbA hS (show i + 3 < L by omega) hL d_Law_law_435 ?_
  refine k_callW (k_atV (As := [.int (xs (i + 1)), .int (xs (i + 2)), .int (xs (i + 3))]) hx hb hown hE.1 (K0.w tw_749) (hts _ tw_746) (hts _ tw_747) (hts _ tw_748) (hts _ tw_5) (by decide) np_Mod_protect (va_recv hK hP (ci := nMod) (q0 := 17) rfl rfl) rfl d_Law_law_436) hMo (hl.1.trans hml.symm) (Nat.le_of_ble_eq_true rfl) ⟨Nat.le_of_ble_eq_true rfl, Nat.le_of_ble_eq_true rfl, hce2, hsl2⟩ (fun U hU hW => ⟨hE.go hW hU hS, by rw [hU]; exact hP, hD⟩) hS (fun H locs hP hD hS => ?_)
  refine lv_istore (lv' := [(6, .int v), (5, .int (nI kd)), (0, .ref b), (1, .ref (ad 0)), (2, .ref (ad 17)), (3, .ref (ad 30)), (4, .int (nI i))]) hx hb d_Law_law_439 hl (by decide) rfl (fun ls hl => ?_)
  refine lv_aload_n hx hb d_Law_law_441 rfl (lv_at hl 4 rfl) ?_
  refine k_callR (k_atV (As := []) hx hb hown hE.1 (K0.w tw_704) (hts _ tw_701) (hts _ tw_702) (hts _ tw_703) (hts _ tw_5) (by decide) np_Mod_thrown (va_recv hK hP (ci := nMod) (q0 := 17) rfl rfl) rfl d_Law_law_442) (c_Mod_thrown K0 ad u (wO ad cL o2) τ1) (hl.1.trans hml.symm) (Nat.le_of_ble_eq_true rfl) ⟨Nat.le_of_ble_eq_true rfl, Nat.le_of_ble_eq_true rfl, hce2, hsl2⟩ (fun U hU hW => ⟨hE.go hW hU hS, by rw [hU]; exact hP, hD⟩) ?_
  refine lv_iload hx hb d_Law_law_445 (lv_at hl 1 rfl) ?_
  refine lv_icmp_eq (tgt := 452) hx hb d_Law_law_447 (by decide) (fun _ => ?_) (fun h9 => absurd hz2 h9)
  have KE : W p l e room_1 s m #[Value.ref b] below meth c H locs (cells + 1) (slots + 6) Q (F0 m 469 ls []) := by
    refine lv_goto (tgt := 1648) hx hb d_Law_law_469 (by decide) ?_
    exact kk u τ1 o2 H locs ls ⟨hR1, hP, hD, hS, lv_sub hl [2, 3, 4, 5, 6] rfl⟩
  refine lv_iload hx hb d_Law_law_452 (lv_at hl 1 rfl) ?_
  refine lv_if_ne (tgt := 469) hx hb d_Law_law_454 (by decide) (fun _ => KE) (fun h0 => ?_)
  refine lv_aload_n hx hb d_Law_law_457 rfl (lv_at hl 5 rfl) ?_
  refine lv_iconst (v := nI 0) hx hb d_Law_law_458 (by decide) ?_
  refine va_lald hx hb hK hP 30 1 rfl rfl (vp_in_nI (by decide) (by decide)) d_Law_law_459 ?_
  refine lv_iload hx hb d_Law_law_460 (lv_at hl 0 rfl) ?_
  refine lv_i2l hx hb d_Law_law_462 rfl ?_
  refine W.lcmp hx hb d_Law_law_463 ?_
  refine lv_if_eq (tgt := 469) hx hb d_Law_law_464 (by decide) (fun _ => KE) (fun h9 => absurd ?_ h9)
  have ho1 := ho h0
  subst ho1
  exact k_cmp0 _
set_option maxHeartbeats 4000000 in
set_option maxRecDepth 100000 in
theorem lc_copy {p : Program} {l : Launch} {e : Env} {s : State} {m : MethodId} {below : List Frame} {meth : Method} {c : Code} {b L : Nat} {xs : Nat → Int32} {D : va_G} {cI cL : ClassId} {Q : State → Prop} {ad : Nat → Nat} (hC : lK p l s m meth c b L xs D cI cL) {i cells slots : Nat} (hi : i + 5 ≤ L) (hce : cells + 2 ≤ room_1.cells) (hsl : slots + 12 ≤ room_1.slots) (kk : lGo p l e s m below meth c b D cI cL Q ad i 1648 (cells + 1) (slots + 6)) : lGo p l e s m below meth c b D cI cL Q ad i 472 cells slots := by
  obtain ⟨K0, KC, hx, hb, hr, hml, hown, hX, hbl, hlocks, hL⟩ := hC
  intro σ τ oo H locs ls hI
  obtain ⟨hR, hP, hD, hS, hl⟩ := hI
  have hE : kEnv s s := kEnv.refl s
  obtain ⟨hts, hK⟩ := K0.at (args := #[Value.ref b]) hE
  have hbA : ¬ kA s b := Nat.not_le.mpr hbl
  have hce1 : cells + 1 ≤ room_1.cells := Nat.le_trans (Nat.le_succ _) hce
  have hsl1 : slots + 6 ≤ room_1.slots := Nat.le_trans (Nat.add_le_add_left (by decide) _) hsl
  have hce2 : cells + 1 + 1 ≤ room_1.cells := hce
  have hsl2 : slots + 6 + 6 ≤ room_1.slots := hsl
  have hag : kAg [eIA, eUO] σ (sp_copy σ (xs (i + 1)) (xs (i + 2))) (fin (t0 τ) (rs_copy (t0 τ) (xs (i + 1)) (xs (i + 2)))) := ag_copy (τ := t0 τ) (kRel_t hR 0 (nI 0)) (sw_g τ 2 0 (nI 0)) (xs (i + 1)) (xs (i + 2))
  obtain ⟨⟨z1, τ1⟩, ez⟩ : ∃ z, z = fin (t0 τ) (rs_copy (t0 τ) (xs (i + 1)) (xs (i + 2))) := ⟨_, rfl⟩
  rw [← ez] at hag
  have hML := c_Law_copy K0 KC ad τ σ oo (xs (i + 1)) (xs (i + 2)) hR.1 hag
  obtain ⟨kd, v, u, o2, e1, hz1, hz2, hR1, ho⟩ := kAg_all oo (by decide) hag
  rw [e1] at hML
  subst hz1
  have hMo := c_Mod_copy K0 ad u (wO ad cL o2) τ (xs (i + 1)) (xs (i + 2)) (kOr_of hR)
  rw [← ez] at hMo
  refine lv_aload_n hx hb d_Law_law_472 rfl (lv_at hl 1 rfl) ?_
  refine lv_aload_n hx hb d_Law_law_473 rfl (lv_at hl 0 rfl) ?_
  refine lv_iload hx hb d_Law_law_474 (lv_at hl 4 rfl) ?_
  refine lv_iconst (v := nI 1) hx hb d_Law_law_476 (by decide) ?_
  refine k_addN hx hb d_Law_law_477 ?_
  refine k_scr hx hb hX hbl hbA hS (show i + 1 < L by omega) hL d_Law_law_478 ?_
  refine lv_aload_n hx hb d_Law_law_479 rfl (lv_at hl 0 rfl) ?_
  refine lv_iload hx hb d_Law_law_480 (lv_at hl 4 rfl) ?_
  refine lv_iconst (v := nI 2) hx hb d_Law_law_482 (by decide) ?_
  refine k_addN hx hb d_Law_law_483 ?_
  refine k_scr hx hb hX hbl hbA hS (show i + 2 < L by omega) hL d_Law_law_484 ?_
  refine lv_aload_n hx hb d_Law_law_485 rfl (lv_at hl 3 rfl) ?_
  refine k_callL (k_atS (As := [.ref (ad 0), .int (xs (i + 1)), .int (xs (i + 2)), .ref (ad 30)]) hx hb hown hE.1 (K0.w tw_347) (by rfl) k_w9H (hts _ tw_345) (hts _ tw_346) (hts _ tw_0) (by decide) np_Law_copy rfl d_Law_law_486) hML (hl.1.trans hml.symm) (Nat.le_of_ble_eq_true rfl) ⟨Nat.le_of_ble_eq_true rfl, Nat.le_of_ble_eq_true rfl, hce1, hsl1⟩ (fun U hU hW => ⟨hE.go hW hU hS, by rw [hU]; exact hP, hD⟩) hS (fun H locs hP hD hS => ?_)
  have hP : va_P D vwCl (wX ad cI u (wO ad cL o2) τ) H := hP
  have hD : va_D (kA s) (wX ad cI u (wO ad cL o2) τ) := hD
  refine lv_istore (lv' := [(5, .int (nI kd)), (0, .ref b), (1, .ref (ad 0)), (2, .ref (ad 17)), (3, .ref (ad 30)), (4, .int (nI i))]) hx hb d_Law_law_489 hl (by decide) rfl (fun ls hl => ?_)
  refine lv_aload_n hx hb d_Law_law_491 rfl (lv_at hl 3 rfl) ?_
  refine lv_aload_n hx hb d_Law_law_492 rfl (lv_at hl 1 rfl) ?_
  refine lv_iload hx hb d_Law_law_493 (lv_at hl 5 rfl) ?_
  refine lv_iconst (v := nI 1) hx hb d_Law_law_495 (by decide) ?_
  refine k_addN hx hb d_Law_law_496 ?_
  refine k_scr hx hb hX hbl hbA hS (show i + 1 < L by omega) hL d_Law_law_497 ?_
  refine lv_aload_n hx hb d_Law_law_498 rfl (lv_at hl 1 rfl) ?_
  refine lv_iload hx hb d_Law_law_499 (lv_at hl 5 rfl) ?_
  refine lv_iconst (v := nI 2) hx hb d_Law_law_501 (by decide) ?_
  refine k_addN hx hb d_Law_law_502 ?_
  refine k_scr hx hb hX hbl hbA hS (show i + 2 < L by omega) hL d_Law_law_503 ?_
  refine k_callW (k_atV (As := [.int (xs (i + 1)), .int (xs (i + 2))]) hx hb hown hE.1 (K0.w tw_757) (hts _ tw_754) (hts _ tw_755) (hts _ tw_756) (hts _ tw_5) (by decide) np_Mod_copy (va_recv hK hP (ci := nMod) (q0 := 17) rfl rfl) rfl d_Law_law_504) hMo (hl.1.trans hml.symm) (Nat.le_of_ble_eq_true rfl) ⟨Nat.le_of_ble_eq_true rfl, Nat.le_of_ble_eq_true rfl, hce2, hsl2⟩ (fun U hU hW => ⟨hE.go hW hU hS, by rw [hU]; exact hP, hD⟩) hS (fun H locs hP hD hS => ?_)
  refine lv_istore (lv' := [(6, .int v), (5, .int (nI kd)), (0, .ref b), (1, .ref (ad 0)), (2, .ref (ad 17)), (3, .ref (ad 30)), (4, .int (nI i))]) hx hb d_Law_law_507 hl (by decide) rfl (fun ls hl => ?_)
  refine lv_aload_n hx hb d_Law_law_509 rfl (lv_at hl 4 rfl) ?_
  refine k_callR (k_atV (As := []) hx hb hown hE.1 (K0.w tw_704) (hts _ tw_701) (hts _ tw_702) (hts _ tw_703) (hts _ tw_5) (by decide) np_Mod_thrown (va_recv hK hP (ci := nMod) (q0 := 17) rfl rfl) rfl d_Law_law_510) (c_Mod_thrown K0 ad u (wO ad cL o2) τ1) (hl.1.trans hml.symm) (Nat.le_of_ble_eq_true rfl) ⟨Nat.le_of_ble_eq_true rfl, Nat.le_of_ble_eq_true rfl, hce2, hsl2⟩ (fun U hU hW => ⟨hE.go hW hU hS, by rw [hU]; exact hP, hD⟩) ?_
  refine lv_iload hx hb d_Law_law_513 (lv_at hl 1 rfl) ?_
  refine lv_icmp_eq (tgt := 520) hx hb d_Law_law_515 (by decide) (fun _ => ?_) (fun h9 => absurd hz2 h9)
  have KE : W p l e room_1 s m #[Value.ref b] below meth c H locs (cells + 1) (slots + 6) Q (F0 m 537 ls []) := by
    refine lv_goto (tgt := 1648) hx hb d_Law_law_537 (by decide) ?_
    exact kk u τ1 o2 H locs ls ⟨hR1, hP, hD, hS, lv_sub hl [2, 3, 4, 5, 6] rfl⟩
  refine lv_iload hx hb d_Law_law_520 (lv_at hl 1 rfl) ?_
  refine lv_if_ne (tgt := 537) hx hb d_Law_law_522 (by decide) (fun _ => KE) (fun h0 => ?_)
  refine lv_aload_n hx hb d_Law_law_525 rfl (lv_at hl 5 rfl) ?_
  refine lv_iconst (v := nI 0) hx hb d_Law_law_526 (by decide) ?_
  refine va_lald hx hb hK hP 30 1 rfl rfl (vp_in_nI (by decide) (by decide)) d_Law_law_527 ?_
  refine lv_iload hx hb d_Law_law_528 (lv_at hl 0 rfl) ?_
  refine lv_i2l hx hb d_Law_law_530 rfl ?_
  refine W.lcmp hx hb d_Law_law_531 ?_
  refine lv_if_eq (tgt := 537) hx hb d_Law_law_532 (by decide) (fun _ => KE) (fun h9 => absurd ?_ h9)
  have ho1 := ho h0
  subst ho1
  exact k_cmp0 _
set_option maxHeartbeats 4000000 in
set_option maxRecDepth 100000 in
theorem lc_release {p : Program} {l : Launch} {e : Env} {s : State} {m : MethodId} {below : List Frame} {meth : Method} {c : Code} {b L : Nat} {xs : Nat → Int32} {D : va_G} {cI cL : ClassId} {Q : State → Prop} {ad : Nat → Nat} (hC : lK p l s m meth c b L xs D cI cL) {i cells slots : Nat} (hi : i + 5 ≤ L) (hce : cells + 2 ≤ room_1.cells) (hsl : slots + 12 ≤ room_1.slots) (kk : lGo p l e s m below meth c b D cI cL Q ad i 1648 (cells + 1) (slots + 6)) : lGo p l e s m below meth c b D cI cL Q ad i 540 cells slots := by
  obtain ⟨K0, KC, hx, hb, hr, hml, hown, hX, hbl, hlocks, hL⟩ := hC
  intro σ τ oo H locs ls hI
  obtain ⟨hR, hP, hD, hS, hl⟩ := hI
  have hE : kEnv s s := kEnv.refl s
  obtain ⟨hts, hK⟩ := K0.at (args := #[Value.ref b]) hE
  have hbA : ¬ kA s b := Nat.not_le.mpr hbl
  have hce1 : cells + 1 ≤ room_1.cells := Nat.le_trans (Nat.le_succ _) hce
  have hsl1 : slots + 6 ≤ room_1.slots := Nat.le_trans (Nat.add_le_add_left (by decide) _) hsl
  have hce2 : cells + 1 + 1 ≤ room_1.cells := hce
  have hsl2 : slots + 6 + 6 ≤ room_1.slots := hsl
  have hag : kAg [eIA, eUO, eNS, eIS] σ (sp_release σ (xs (i + 1)) (xs (i + 2))) (fin (t0 τ) (rs_release (t0 τ) (xs (i + 1)) (xs (i + 2)))) := ag_release (τ := t0 τ) (kRel_t hR 0 (nI 0)) (sw_g τ 2 0 (nI 0)) (xs (i + 1)) (xs (i + 2))
  obtain ⟨⟨z1, τ1⟩, ez⟩ : ∃ z, z = fin (t0 τ) (rs_release (t0 τ) (xs (i + 1)) (xs (i + 2))) := ⟨_, rfl⟩
  rw [← ez] at hag
  have hML := c_Law_release K0 KC ad τ σ oo (xs (i + 1)) (xs (i + 2)) hR.1 hag
  obtain ⟨kd, v, u, o2, e1, hz1, hz2, hR1, ho⟩ := kAg_all oo (by decide) hag
  rw [e1] at hML
  subst hz1
  have hMo := c_Mod_release K0 ad u (wO ad cL o2) τ (xs (i + 1)) (xs (i + 2)) (kOr_of hR)
  rw [← ez] at hMo
  refine lv_aload_n hx hb d_Law_law_540 rfl (lv_at hl 1 rfl) ?_
  refine lv_aload_n hx hb d_Law_law_541 rfl (lv_at hl 0 rfl) ?_
  refine lv_iload hx hb d_Law_law_542 (lv_at hl 4 rfl) ?_
  refine lv_iconst (v := nI 1) hx hb d_Law_law_544 (by decide) ?_
  refine k_addN hx hb d_Law_law_545 ?_
  refine k_scr hx hb hX hbl hbA hS (show i + 1 < L by omega) hL d_Law_law_546 ?_
  refine lv_aload_n hx hb d_Law_law_547 rfl (lv_at hl 0 rfl) ?_
  refine lv_iload hx hb d_Law_law_548 (lv_at hl 4 rfl) ?_
  refine lv_iconst (v := nI 2) hx hb d_Law_law_550 (by decide) ?_
  refine k_addN hx hb d_Law_law_551 ?_
  refine k_scr hx hb hX hbl hbA hS (show i + 2 < L by omega) hL d_Law_law_552 ?_
  refine lv_aload_n hx hb d_Law_law_553 rfl (lv_at hl 3 rfl) ?_
  refine k_callL (k_atS (As := [.ref (ad 0), .int (xs (i + 1)), .int (xs (i + 2)), .ref (ad 30)]) hx hb hown hE.1 (K0.w tw_363) (by rfl) k_w9H (hts _ tw_361) (hts _ tw_362) (hts _ tw_0) (by decide) np_Law_release rfl d_Law_law_554) hML (hl.1.trans hml.symm) (Nat.le_of_ble_eq_true rfl) ⟨Nat.le_of_ble_eq_true rfl, Nat.le_of_ble_eq_true rfl, hce1, hsl1⟩ (fun U hU hW => ⟨hE.go hW hU hS, by rw [hU]; exact hP, hD⟩) hS (fun H locs hP hD hS => ?_)
  have hP : va_P D vwCl (wX ad cI u (wO ad cL o2) τ) H := hP
  have hD : va_D (kA s) (wX ad cI u (wO ad cL o2) τ) := hD
  refine lv_istore (lv' := [(5, .int (nI kd)), (0, .ref b), (1, .ref (ad 0)), (2, .ref (ad 17)), (3, .ref (ad 30)), (4, .int (nI i))]) hx hb d_Law_law_557 hl (by decide) rfl (fun ls hl => ?_)
  refine lv_aload_n hx hb d_Law_law_559 rfl (lv_at hl 3 rfl) ?_
  refine lv_aload_n hx hb d_Law_law_560 rfl (lv_at hl 1 rfl) ?_
  refine lv_iload hx hb d_Law_law_561 (lv_at hl 5 rfl) ?_
  refine lv_iconst (v := nI 1) hx hb d_Law_law_563 (by decide) ?_
  refine k_addN hx hb d_Law_law_564 ?_
  refine k_scr hx hb hX hbl hbA hS (show i + 1 < L by omega) hL d_Law_law_565 ?_
  refine lv_aload_n hx hb d_Law_law_566 rfl (lv_at hl 1 rfl) ?_
  refine lv_iload hx hb d_Law_law_567 (lv_at hl 5 rfl) ?_
  refine lv_iconst (v := nI 2) hx hb d_Law_law_569 (by decide) ?_
  refine k_addN hx hb d_Law_law_570 ?_
  refine k_scr hx hb hX hbl hbA hS (show i + 2 < L by omega) hL d_Law_law_571 ?_
  refine k_callW (k_atV (As := [.int (xs (i + 1)), .int (xs (i + 2))]) hx hb hown hE.1 (K0.w tw_761) (hts _ tw_758) (hts _ tw_759) (hts _ tw_760) (hts _ tw_5) (by decide) np_Mod_release (va_recv hK hP (ci := nMod) (q0 := 17) rfl rfl) rfl d_Law_law_572) hMo (hl.1.trans hml.symm) (Nat.le_of_ble_eq_true rfl) ⟨Nat.le_of_ble_eq_true rfl, Nat.le_of_ble_eq_true rfl, hce2, hsl2⟩ (fun U hU hW => ⟨hE.go hW hU hS, by rw [hU]; exact hP, hD⟩) hS (fun H locs hP hD hS => ?_)
  refine lv_istore (lv' := [(6, .int v), (5, .int (nI kd)), (0, .ref b), (1, .ref (ad 0)), (2, .ref (ad 17)), (3, .ref (ad 30)), (4, .int (nI i))]) hx hb d_Law_law_575 hl (by decide) rfl (fun ls hl => ?_)
  refine lv_aload_n hx hb d_Law_law_577 rfl (lv_at hl 4 rfl) ?_
  refine k_callR (k_atV (As := []) hx hb hown hE.1 (K0.w tw_704) (hts _ tw_701) (hts _ tw_702) (hts _ tw_703) (hts _ tw_5) (by decide) np_Mod_thrown (va_recv hK hP (ci := nMod) (q0 := 17) rfl rfl) rfl d_Law_law_578) (c_Mod_thrown K0 ad u (wO ad cL o2) τ1) (hl.1.trans hml.symm) (Nat.le_of_ble_eq_true rfl) ⟨Nat.le_of_ble_eq_true rfl, Nat.le_of_ble_eq_true rfl, hce2, hsl2⟩ (fun U hU hW => ⟨hE.go hW hU hS, by rw [hU]; exact hP, hD⟩) ?_
  refine lv_iload hx hb d_Law_law_581 (lv_at hl 1 rfl) ?_
  refine lv_icmp_eq (tgt := 588) hx hb d_Law_law_583 (by decide) (fun _ => ?_) (fun h9 => absurd hz2 h9)
  have KE : W p l e room_1 s m #[Value.ref b] below meth c H locs (cells + 1) (slots + 6) Q (F0 m 605 ls []) := by
    refine lv_goto (tgt := 1648) hx hb d_Law_law_605 (by decide) ?_
    exact kk u τ1 o2 H locs ls ⟨hR1, hP, hD, hS, lv_sub hl [2, 3, 4, 5, 6] rfl⟩
  refine lv_iload hx hb d_Law_law_588 (lv_at hl 1 rfl) ?_
  refine lv_if_ne (tgt := 605) hx hb d_Law_law_590 (by decide) (fun _ => KE) (fun h0 => ?_)
  refine lv_aload_n hx hb d_Law_law_593 rfl (lv_at hl 5 rfl) ?_
  refine lv_iconst (v := nI 0) hx hb d_Law_law_594 (by decide) ?_
  refine va_lald hx hb hK hP 30 1 rfl rfl (vp_in_nI (by decide) (by decide)) d_Law_law_595 ?_
  refine lv_iload hx hb d_Law_law_596 (lv_at hl 0 rfl) ?_
  refine lv_i2l hx hb d_Law_law_598 rfl ?_
  refine W.lcmp hx hb d_Law_law_599 ?_
  refine lv_if_eq (tgt := 605) hx hb d_Law_law_600 (by decide) (fun _ => KE) (fun h9 => absurd ?_ h9)
  have ho1 := ho h0
  subst ho1
  exact k_cmp0 _
