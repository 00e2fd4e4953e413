/-! The wrappers. Laid by a program of mine (wip/gen/wraps.py). -/
set_option maxHeartbeats 4000000 in
set_option maxRecDepth 100000 in
theorem c_Law_spawn {l : Launch} {s0 : State} {a0 : Array Value} {D : va_G} {cI cL : ClassId} (K0 : k0 l s0 a0 D cI cL) (KC : kNC s0) (ad : Nat → Nat) (τ σ : kS) (oo : Int64) (x y : Int32) (ok : kOk σ) {zz : Option Value × kS} (hag : kAg [eIA, eIS] σ (sp_spawn σ x y) zz) : kMet l y_Law_spawn (Cond.codeWith y_Law_spawn b_Law_spawn 5 (some .int) [(0, 10, 13, 13), (0, 10, 17, 15)]) (rmL 10) [.ref (ad 0), .int x, .int y, .ref (ad 30)] (kPre D vwCl s0 (wL ad cI cL τ) (σ, oo)) (.ok (lwr [eIA, eIS] (sp_spawn σ x y) σ oo)) (kBl D vwCl s0 (wL ad cI cL τ)) := by
  refine k_ofH (by decide) (Nat.le_of_ble_eq_true rfl) ?_
  intro p e9 s m below meth c hx hb hr hlocks hown hml htab hpre ls hl
  obtain ⟨hE, hP, hD⟩ := hpre
  obtain ⟨hts, hK⟩ := K0.at (args := ([.ref (ad 0), .int x, .int y, .ref (ad 30)] : List Value).toArray) hE
  have hl : lv_has ls 5 [(0, .ref (ad 0)), (1, .int x), (2, .int y), (3, .ref (ad 30))] := hl
  have hS : va_S (kA s0) s.heap s.heap [] := va_S.rf
  refine lv_aload_n hx hb d_Law_spawn_0 rfl (lv_at hl 3 rfl) ?_
  refine lv_iconst (v := nI 0) hx hb d_Law_spawn_1 (by decide) ?_
  refine lv_aload_n hx hb d_Law_spawn_2 rfl (lv_at hl 0 rfl) ?_
  refine lv_iload_n hx hb d_Law_spawn_3 rfl (lv_at hl 1 rfl) ?_
  refine lv_iload_n hx hb d_Law_spawn_4 rfl (lv_at hl 2 rfl) ?_
  have hP : va_P D vwCl (wC ad cI (wR ad cI τ ++ wO ad cL oo) σ) s.heap := hP
  have hD : va_D (kA s0) (wC ad cI (wR ad cI τ ++ wO ad cL oo) σ) := hD
  rcases hsp : sp_spawn σ x y with E | ⟨v, u⟩
  · refine k_call (k_atV (As := [.int x, .int y]) hx hb hown hE.1 (K0.w tw_137) (hts _ tw_134) (hts _ tw_135) (hts _ tw_136) (hts _ tw_1) (by decide) np_FK_spawn (va_recv hK hP (ci := nFK) (q0 := 0) rfl rfl) rfl d_Law_spawn_5) (kq_e hsp (c_FK_spawn K0 ad (wR ad cI τ ++ wO ad cL oo) σ x y ok)) (hl.1.trans hml.symm) (Nat.le_of_ble_eq_true rfl) (Nat.le_of_ble_eq_true rfl) (Nat.le_of_ble_eq_true rfl) (Nat.le_of_ble_eq_true rfl) (Nat.le_of_ble_eq_true rfl) (fun U hU hW => ⟨hE.go hW hU hS, by rw [hU]; exact hP, hD⟩) (fun E9 hE9 st q t e1 hWs hthr => ?_) (fun v u h => by cases h)
    cases hE9
    have hmem := kAg_c hag hsp
    have hP1 := kThr_P hthr e1 hP
    have hS1 : va_S (kA s0) s.heap t.heap [] := kThr_S hthr e1
    rcases (show E = eIA ∨ E = eIS by simpa using hmem) with rfl | rfl
    · refine k_catch hWs hthr (h := 13) (by rw [htab]; exact (kH_hit hown (hts _ tw_132) (hts _ tw_146) (by decide) (by decide))) ?_
      refine lv_astore (lv' := [(4, .ref q), (0, .ref (ad 0)), (1, .int x), (2, .int y), (3, .ref (ad 30))]) hx hb d_Law_spawn_13 hl (by decide) rfl (fun ls hl => ?_)
      refine lv_iconst (v := nI 1) hx hb d_Law_spawn_15 (by decide) ?_
      exact k_retL (u := (σ, oo)) hx hb hr hlocks d_Law_spawn_16 hP1 hD hS1 (by decide) (by decide) (by show Except.ok (some (Value.int (nI (kCo eIA [eIA, eIS] 1))), (σ, oo)) = _; rw [show kCo eIA [eIA, eIS] 1 = 1 by decide])
    · refine k_catch hWs hthr (h := 17) (by rw [htab]; exact (kH_miss hown (hts _ tw_132) (KC.at hE.1 (E := eIS) (F := eIA) (by decide) (by decide) (by decide)) (by decide) (by decide) (kH_hit hown (hts _ tw_133) (hts _ tw_222) (by decide) (by decide)))) ?_
      refine lv_astore (lv' := [(4, .ref q), (0, .ref (ad 0)), (1, .int x), (2, .int y), (3, .ref (ad 30))]) hx hb d_Law_spawn_17 hl (by decide) rfl (fun ls hl => ?_)
      refine lv_iconst (v := nI 2) hx hb d_Law_spawn_19 (by decide) ?_
      exact k_retL (u := (σ, oo)) hx hb hr hlocks d_Law_spawn_20 hP1 hD hS1 (by decide) (by decide) (by show Except.ok (some (Value.int (nI (kCo eIS [eIA, eIS] 1))), (σ, oo)) = _; rw [show kCo eIS [eIA, eIS] 1 = 2 by decide])
  · obtain ⟨v, rfl⟩ := kAg_v hag hsp
    refine k_callW (k_atV (As := [.int x, .int y]) hx hb hown hE.1 (K0.w tw_137) (hts _ tw_134) (hts _ tw_135) (hts _ tw_136) (hts _ tw_1) (by decide) np_FK_spawn (va_recv hK hP (ci := nFK) (q0 := 0) rfl rfl) rfl d_Law_spawn_5) (kq_o hsp (c_FK_spawn K0 ad (wR ad cI τ ++ wO ad cL oo) σ x y ok)) (hl.1.trans hml.symm) (Nat.le_of_ble_eq_true rfl) ⟨Nat.le_of_ble_eq_true rfl, Nat.le_of_ble_eq_true rfl, Nat.le_of_ble_eq_true rfl, Nat.le_of_ble_eq_true rfl⟩ (fun U hU hW => ⟨hE.go hW hU hS, by rw [hU]; exact hP, hD⟩) hS (fun H locs hP hD hS => ?_)
    refine lv_i2l hx hb d_Law_spawn_8 rfl ?_
    refine va_last hx hb hK hP hD hS 30 1 rfl rfl (vp_in_nI (by decide) (by decide)) d_Law_spawn_9 (fun H locs hP hD hS => ?_)
    obtain ⟨hP, hD⟩ := wL_out (ad := ad) (τ := τ) (u := u) (oo := oo) hP hD
    refine lv_goto (tgt := 21) hx hb d_Law_spawn_10 (by decide) ?_
    refine lv_iconst (v := nI 0) hx hb d_Law_spawn_21 (by decide) ?_
    exact k_retL (u := (u, v.toInt64)) hx hb hr hlocks d_Law_spawn_22 hP hD hS (by decide) (by decide) rfl
set_option maxHeartbeats 4000000 in
set_option maxRecDepth 100000 in
theorem c_Law_table {l : Launch} {s0 : State} {a0 : Array Value} {D : va_G} {cI cL : ClassId} (K0 : k0 l s0 a0 D cI cL) (KC : kNC s0) (ad : Nat → Nat) (τ σ : kS) (oo : Int64) (x y z w : Int32) (ok : kOk σ) {zz : Option Value × kS} (hag : kAg [eIA, eUO, eIS] σ (sp_fill 1 σ x y z w) zz) : kMet l y_Law_table (Cond.codeWith y_Law_table b_Law_table 7 (some .int) [(0, 14, 17, 13), (0, 14, 21, 21), (0, 14, 25, 15)]) (rmL 10) [.ref (ad 0), .int x, .int y, .int z, .int w, .ref (ad 30)] (kPre D vwCl s0 (wL ad cI cL τ) (σ, oo)) (.ok (lwr [eIA, eUO, eIS] (sp_fill 1 σ x y z w) σ oo)) (kBl D vwCl s0 (wL ad cI cL τ)) := by
  refine k_ofH (by decide) (Nat.le_of_ble_eq_true rfl) ?_
  intro p e9 s m below meth c hx hb hr hlocks hown hml htab hpre ls hl
  obtain ⟨hE, hP, hD⟩ := hpre
  obtain ⟨hts, hK⟩ := K0.at (args := ([.ref (ad 0), .int x, .int y, .int z, .int w, .ref (ad 30)] : List Value).toArray) hE
  have hl : lv_has ls 7 [(0, .ref (ad 0)), (1, .int x), (2, .int y), (3, .int z), (4, .int w), (5, .ref (ad 30))] := hl
  have hS : va_S (kA s0) s.heap s.heap [] := va_S.rf
  refine lv_aload hx hb d_Law_table_0 (lv_at hl 5 rfl) ?_
  refine lv_iconst (v := nI 0) hx hb d_Law_table_2 (by decide) ?_
  refine lv_aload_n hx hb d_Law_table_3 rfl (lv_at hl 0 rfl) ?_
  refine lv_iload_n hx hb d_Law_table_4 rfl (lv_at hl 1 rfl) ?_
  refine lv_iload_n hx hb d_Law_table_5 rfl (lv_at hl 2 rfl) ?_
  refine lv_iload_n hx hb d_Law_table_6 rfl (lv_at hl 3 rfl) ?_
  refine lv_iload hx hb d_Law_table_7 (lv_at hl 4 rfl) ?_
  have hP : va_P D vwCl (wC ad cI (wR ad cI τ ++ wO ad cL oo) σ) s.heap := hP
  have hD : va_D (kA s0) (wC ad cI (wR ad cI τ ++ wO ad cL oo) σ) := hD
  rcases hsp : sp_fill 1 σ x y z w with E | ⟨v, u⟩
  · refine k_call (k_atV (As := [.int x, .int y, .int z, .int w]) hx hb hown hE.1 (K0.w tw_252) (hts _ tw_249) (hts _ tw_250) (hts _ tw_251) (hts _ tw_1) (by decide) np_FK_table (va_recv hK hP (ci := nFK) (q0 := 0) rfl rfl) rfl d_Law_table_9) (kq_e hsp (c_FK_table K0 ad (wR ad cI τ ++ wO ad cL oo) σ x y z w ok)) (hl.1.trans hml.symm) (Nat.le_of_ble_eq_true rfl) (Nat.le_of_ble_eq_true rfl) (Nat.le_of_ble_eq_true rfl) (Nat.le_of_ble_eq_true rfl) (Nat.le_of_ble_eq_true rfl) (fun U hU hW => ⟨hE.go hW hU hS, by rw [hU]; exact hP, hD⟩) (fun E9 hE9 st q t e1 hWs hthr => ?_) (fun v u h => by cases h)
    cases hE9
    have hmem := kAg_c hag hsp
    have hP1 := kThr_P hthr e1 hP
    have hS1 : va_S (kA s0) s.heap t.heap [] := kThr_S hthr e1
    rcases (show E = eIA ∨ E = eUO ∨ E = eIS by simpa using hmem) with rfl | rfl | rfl
    · refine k_catch hWs hthr (h := 17) (by rw [htab]; exact (kH_hit hown (hts _ tw_132) (hts _ tw_146) (by decide) (by decide))) ?_
      refine lv_astore (lv' := [(6, .ref q), (0, .ref (ad 0)), (1, .int x), (2, .int y), (3, .int z), (4, .int w), (5, .ref (ad 30))]) hx hb d_Law_table_17 hl (by decide) rfl (fun ls hl => ?_)
      refine lv_iconst (v := nI 1) hx hb d_Law_table_19 (by decide) ?_
      exact k_retL (u := (σ, oo)) hx hb hr hlocks d_Law_table_20 hP1 hD hS1 (by decide) (by decide) (by show Except.ok (some (Value.int (nI (kCo eIA [eIA, eUO, eIS] 1))), (σ, oo)) = _; rw [show kCo eIA [eIA, eUO, eIS] 1 = 1 by decide])
    · refine k_catch hWs hthr (h := 21) (by rw [htab]; exact (kH_miss hown (hts _ tw_132) (KC.at hE.1 (E := eUO) (F := eIA) (by decide) (by decide) (by decide)) (by decide) (by decide) (kH_hit hown (hts _ tw_248) (hts _ tw_285) (by decide) (by decide)))) ?_
      refine lv_astore (lv' := [(6, .ref q), (0, .ref (ad 0)), (1, .int x), (2, .int y), (3, .int z), (4, .int w), (5, .ref (ad 30))]) hx hb d_Law_table_21 hl (by decide) rfl (fun ls hl => ?_)
      refine lv_iconst (v := nI 2) hx hb d_Law_table_23 (by decide) ?_
      exact k_retL (u := (σ, oo)) hx hb hr hlocks d_Law_table_24 hP1 hD hS1 (by decide) (by decide) (by show Except.ok (some (Value.int (nI (kCo eUO [eIA, eUO, eIS] 1))), (σ, oo)) = _; rw [show kCo eUO [eIA, eUO, eIS] 1 = 2 by decide])
    · refine k_catch hWs hthr (h := 25) (by rw [htab]; exact (kH_miss hown (hts _ tw_132) (KC.at hE.1 (E := eIS) (F := eIA) (by decide) (by decide) (by decide)) (by decide) (by decide) (kH_miss hown (hts _ tw_248) (KC.at hE.1 (E := eIS) (F := eUO) (by decide) (by decide) (by decide)) (by decide) (by decide) (kH_hit hown (hts _ tw_133) (hts _ tw_222) (by decide) (by decide))))) ?_
      refine lv_astore (lv' := [(6, .ref q), (0, .ref (ad 0)), (1, .int x), (2, .int y), (3, .int z), (4, .int w), (5, .ref (ad 30))]) hx hb d_Law_table_25 hl (by decide) rfl (fun ls hl => ?_)
      refine lv_iconst (v := nI 3) hx hb d_Law_table_27 (by decide) ?_
      exact k_retL (u := (σ, oo)) hx hb hr hlocks d_Law_table_28 hP1 hD hS1 (by decide) (by decide) (by show Except.ok (some (Value.int (nI (kCo eIS [eIA, eUO, eIS] 1))), (σ, oo)) = _; rw [show kCo eIS [eIA, eUO, eIS] 1 = 3 by decide])
  · obtain ⟨v, rfl⟩ := kAg_v hag hsp
    refine k_callW (k_atV (As := [.int x, .int y, .int z, .int w]) hx hb hown hE.1 (K0.w tw_252) (hts _ tw_249) (hts _ tw_250) (hts _ tw_251) (hts _ tw_1) (by decide) np_FK_table (va_recv hK hP (ci := nFK) (q0 := 0) rfl rfl) rfl d_Law_table_9) (kq_o hsp (c_FK_table K0 ad (wR ad cI τ ++ wO ad cL oo) σ x y z w ok)) (hl.1.trans hml.symm) (Nat.le_of_ble_eq_true rfl) ⟨Nat.le_of_ble_eq_true rfl, Nat.le_of_ble_eq_true rfl, Nat.le_of_ble_eq_true rfl, Nat.le_of_ble_eq_true rfl⟩ (fun U hU hW => ⟨hE.go hW hU hS, by rw [hU]; exact hP, hD⟩) hS (fun H locs hP hD hS => ?_)
    refine lv_i2l hx hb d_Law_table_12 rfl ?_
    refine va_last hx hb hK hP hD hS 30 1 rfl rfl (vp_in_nI (by decide) (by decide)) d_Law_table_13 (fun H locs hP hD hS => ?_)
    obtain ⟨hP, hD⟩ := wL_out (ad := ad) (τ := τ) (u := u) (oo := oo) hP hD
    refine lv_goto (tgt := 29) hx hb d_Law_table_14 (by decide) ?_
    refine lv_iconst (v := nI 0) hx hb d_Law_table_29 (by decide) ?_
    exact k_retL (u := (u, v.toInt64)) hx hb hr hlocks d_Law_table_30 hP hD hS (by decide) (by decide) rfl
set_option maxHeartbeats 4000000 in
set_option maxRecDepth 100000 in
theorem c_Law_frame {l : Launch} {s0 : State} {a0 : Array Value} {D : va_G} {cI cL : ClassId} (K0 : k0 l s0 a0 D cI cL) (KC : kNC s0) (ad : Nat → Nat) (τ σ : kS) (oo : Int64) (x y z w : Int32) (ok : kOk σ) {zz : Option Value × kS} (hag : kAg [eIA, eUO, eIS] σ (sp_fill 2 σ x y z w) zz) : kMet l y_Law_frame (Cond.codeWith y_Law_frame b_Law_frame 7 (some .int) [(0, 14, 17, 13), (0, 14, 21, 21), (0, 14, 25, 15)]) (rmL 10) [.ref (ad 0), .int x, .int y, .int z, .int w, .ref (ad 30)] (kPre D vwCl s0 (wL ad cI cL τ) (σ, oo)) (.ok (lwr [eIA, eUO, eIS] (sp_fill 2 σ x y z w) σ oo)) (kBl D vwCl s0 (wL ad cI cL τ)) := by
  refine k_ofH (by decide) (Nat.le_of_ble_eq_true rfl) ?_
  intro p e9 s m below meth c hx hb hr hlocks hown hml htab hpre ls hl
  obtain ⟨hE, hP, hD⟩ := hpre
  obtain ⟨hts, hK⟩ := K0.at (args := ([.ref (ad 0), .int x, .int y, .int z, .int w, .ref (ad 30)] : List Value).toArray) hE
  have hl : lv_has ls 7 [(0, .ref (ad 0)), (1, .int x), (2, .int y), (3, .int z), (4, .int w), (5, .ref (ad 30))] := hl
  have hS : va_S (kA s0) s.heap s.heap [] := va_S.rf
  refine lv_aload hx hb d_Law_frame_0 (lv_at hl 5 rfl) ?_
  refine lv_iconst (v := nI 0) hx hb d_Law_frame_2 (by decide) ?_
  refine lv_aload_n hx hb d_Law_frame_3 rfl (lv_at hl 0 rfl) ?_
  refine lv_iload_n hx hb d_Law_frame_4 rfl (lv_at hl 1 rfl) ?_
  refine lv_iload_n hx hb d_Law_frame_5 rfl (lv_at hl 2 rfl) ?_
  refine lv_iload_n hx hb d_Law_frame_6 rfl (lv_at hl 3 rfl) ?_
  refine lv_iload hx hb d_Law_frame_7 (lv_at hl 4 rfl) ?_
  have hP : va_P D vwCl (wC ad cI (wR ad cI τ ++ wO ad cL oo) σ) s.heap := hP
  have hD : va_D (kA s0) (wC ad cI (wR ad cI τ ++ wO ad cL oo) σ) := hD
  rcases hsp : sp_fill 2 σ x y z w with E | ⟨v, u⟩
  · refine k_call (k_atV (As := [.int x, .int y, .int z, .int w]) hx hb hown hE.1 (K0.w tw_311) (hts _ tw_308) (hts _ tw_309) (hts _ tw_310) (hts _ tw_1) (by decide) np_FK_frame (va_recv hK hP (ci := nFK) (q0 := 0) rfl rfl) rfl d_Law_frame_9) (kq_e hsp (c_FK_frame K0 ad (wR ad cI τ ++ wO ad cL oo) σ x y z w ok)) (hl.1.trans hml.symm) (Nat.le_of_ble_eq_true rfl) (Nat.le_of_ble_eq_true rfl) (Nat.le_of_ble_eq_true rfl) (Nat.le_of_ble_eq_true rfl) (Nat.le_of_ble_eq_true rfl) (fun U hU hW => ⟨hE.go hW hU hS, by rw [hU]; exact hP, hD⟩) (fun E9 hE9 st q t e1 hWs hthr => ?_) (fun v u h => by cases h)
    cases hE9
    have hmem := kAg_c hag hsp
    have hP1 := kThr_P hthr e1 hP
    have hS1 : va_S (kA s0) s.heap t.heap [] := kThr_S hthr e1
    rcases (show E = eIA ∨ E = eUO ∨ E = eIS by simpa using hmem) with rfl | rfl | rfl
    · refine k_catch hWs hthr (h := 17) (by rw [htab]; exact (kH_hit hown (hts _ tw_132) (hts _ tw_146) (by decide) (by decide))) ?_
      refine lv_astore (lv' := [(6, .ref q), (0, .ref (ad 0)), (1, .int x), (2, .int y), (3, .int z), (4, .int w), (5, .ref (ad 30))]) hx hb d_Law_frame_17 hl (by decide) rfl (fun ls hl => ?_)
      refine lv_iconst (v := nI 1) hx hb d_Law_frame_19 (by decide) ?_
      exact k_retL (u := (σ, oo)) hx hb hr hlocks d_Law_frame_20 hP1 hD hS1 (by decide) (by decide) (by show Except.ok (some (Value.int (nI (kCo eIA [eIA, eUO, eIS] 1))), (σ, oo)) = _; rw [show kCo eIA [eIA, eUO, eIS] 1 = 1 by decide])
    · refine k_catch hWs hthr (h := 21) (by rw [htab]; exact (kH_miss hown (hts _ tw_132) (KC.at hE.1 (E := eUO) (F := eIA) (by decide) (by decide) (by decide)) (by decide) (by decide) (kH_hit hown (hts _ tw_248) (hts _ tw_285) (by decide) (by decide)))) ?_
      refine lv_astore (lv' := [(6, .ref q), (0, .ref (ad 0)), (1, .int x), (2, .int y), (3, .int z), (4, .int w), (5, .ref (ad 30))]) hx hb d_Law_frame_21 hl (by decide) rfl (fun ls hl => ?_)
      refine lv_iconst (v := nI 2) hx hb d_Law_frame_23 (by decide) ?_
      exact k_retL (u := (σ, oo)) hx hb hr hlocks d_Law_frame_24 hP1 hD hS1 (by decide) (by decide) (by show Except.ok (some (Value.int (nI (kCo eUO [eIA, eUO, eIS] 1))), (σ, oo)) = _; rw [show kCo eUO [eIA, eUO, eIS] 1 = 2 by decide])
    · refine k_catch hWs hthr (h := 25) (by rw [htab]; exact (kH_miss hown (hts _ tw_132) (KC.at hE.1 (E := eIS) (F := eIA) (by decide) (by decide) (by decide)) (by decide) (by decide) (kH_miss hown (hts _ tw_248) (KC.at hE.1 (E := eIS) (F := eUO) (by decide) (by decide) (by decide)) (by decide) (by decide) (kH_hit hown (hts _ tw_133) (hts _ tw_222) (by decide) (by decide))))) ?_
      refine lv_astore (lv' := [(6, .ref q), (0, .ref (ad 0)), (1, .int x), (2, .int y), (3, .int z), (4, .int w), (5, .ref (ad 30))]) hx hb d_Law_frame_25 hl (by decide) rfl (fun ls hl => ?_)
      refine lv_iconst (v := nI 3) hx hb d_Law_frame_27 (by decide) ?_
      exact k_retL (u := (σ, oo)) hx hb hr hlocks d_Law_frame_28 hP1 hD hS1 (by decide) (by decide) (by show Except.ok (some (Value.int (nI (kCo eIS [eIA, eUO, eIS] 1))), (σ, oo)) = _; rw [show kCo eIS [eIA, eUO, eIS] 1 = 3 by decide])
  · obtain ⟨v, rfl⟩ := kAg_v hag hsp
    refine k_callW (k_atV (As := [.int x, .int y, .int z, .int w]) hx hb hown hE.1 (K0.w tw_311) (hts _ tw_308) (hts _ tw_309) (hts _ tw_310) (hts _ tw_1) (by decide) np_FK_frame (va_recv hK hP (ci := nFK) (q0 := 0) rfl rfl) rfl d_Law_frame_9) (kq_o hsp (c_FK_frame K0 ad (wR ad cI τ ++ wO ad cL oo) σ x y z w ok)) (hl.1.trans hml.symm) (Nat.le_of_ble_eq_true rfl) ⟨Nat.le_of_ble_eq_true rfl, Nat.le_of_ble_eq_true rfl, Nat.le_of_ble_eq_true rfl, Nat.le_of_ble_eq_true rfl⟩ (fun U hU hW => ⟨hE.go hW hU hS, by rw [hU]; exact hP, hD⟩) hS (fun H locs hP hD hS => ?_)
    refine lv_i2l hx hb d_Law_frame_12 rfl ?_
    refine va_last hx hb hK hP hD hS 30 1 rfl rfl (vp_in_nI (by decide) (by decide)) d_Law_frame_13 (fun H locs hP hD hS => ?_)
    obtain ⟨hP, hD⟩ := wL_out (ad := ad) (τ := τ) (u := u) (oo := oo) hP hD
    refine lv_goto (tgt := 29) hx hb d_Law_frame_14 (by decide) ?_
    refine lv_iconst (v := nI 0) hx hb d_Law_frame_29 (by decide) ?_
    exact k_retL (u := (u, v.toInt64)) hx hb hr hlocks d_Law_frame_30 hP hD hS (by decide) (by decide) rfl
set_option maxHeartbeats 4000000 in
set_option maxRecDepth 100000 in
theorem c_Law_protect {l : Launch} {s0 : State} {a0 : Array Value} {D : va_G} {cI cL : ClassId} (K0 : k0 l s0 a0 D cI cL) (KC : kNC s0) (ad : Nat → Nat) (τ σ : kS) (oo : Int64) (x y z : Int32) (ok : kOk σ) {zz : Option Value × kS} (hag : kAg [eIA, eUO, eNS] σ (sp_protect σ x y z) zz) : kMet l y_Law_protect (Cond.codeWith y_Law_protect b_Law_protect 6 (some .int) [(0, 12, 15, 13), (0, 12, 19, 21), (0, 12, 23, 30)]) (rmL 10) [.ref (ad 0), .int x, .int y, .int z, .ref (ad 30)] (kPre D vwCl s0 (wL ad cI cL τ) (σ, oo)) (.ok (lwr [eIA, eUO, eNS] (sp_protect σ x y z) σ oo)) (kBl D vwCl s0 (wL ad cI cL τ)) := by
  refine k_ofH (by decide) (Nat.le_of_ble_eq_true rfl) ?_
  intro p e9 s m below meth c hx hb hr hlocks hown hml htab hpre ls hl
  obtain ⟨hE, hP, hD⟩ := hpre
  obtain ⟨hts, hK⟩ := K0.at (args := ([.ref (ad 0), .int x, .int y, .int z, .ref (ad 30)] : List Value).toArray) hE
  have hl : lv_has ls 6 [(0, .ref (ad 0)), (1, .int x), (2, .int y), (3, .int z), (4, .ref (ad 30))] := hl
  have hS : va_S (kA s0) s.heap s.heap [] := va_S.rf
  refine lv_aload hx hb d_Law_protect_0 (lv_at hl 4 rfl) ?_
  refine lv_iconst (v := nI 0) hx hb d_Law_protect_2 (by decide) ?_
  refine lv_aload_n hx hb d_Law_protect_3 rfl (lv_at hl 0 rfl) ?_
  refine lv_iload_n hx hb d_Law_protect_4 rfl (lv_at hl 1 rfl) ?_
  refine lv_iload_n hx hb d_Law_protect_5 rfl (lv_at hl 2 rfl) ?_
  refine lv_iload_n hx hb d_Law_protect_6 rfl (lv_at hl 3 rfl) ?_
  have hP : va_P D vwCl (wC ad cI (wR ad cI τ ++ wO ad cL oo) σ) s.heap := hP
  have hD : va_D (kA s0) (wC ad cI (wR ad cI τ ++ wO ad cL oo) σ) := hD
  rcases hsp : sp_protect σ x y z with E | ⟨v, u⟩
  · refine k_call (k_atV (As := [.int x, .int y, .int z]) hx hb hown hE.1 (K0.w tw_319) (hts _ tw_316) (hts _ tw_317) (hts _ tw_318) (hts _ tw_1) (by decide) np_FK_protect (va_recv hK hP (ci := nFK) (q0 := 0) rfl rfl) rfl d_Law_protect_7) (kq_e hsp (c_FK_protect K0 ad (wR ad cI τ ++ wO ad cL oo) σ x y z ok)) (hl.1.trans hml.symm) (Nat.le_of_ble_eq_true rfl) (Nat.le_of_ble_eq_true rfl) (Nat.le_of_ble_eq_true rfl) (Nat.le_of_ble_eq_true rfl) (Nat.le_of_ble_eq_true rfl) (fun U hU hW => ⟨hE.go hW hU hS, by rw [hU]; exact hP, hD⟩) (fun E9 hE9 st q t e1 hWs hthr => ?_) (fun v u h => by cases h)
    cases hE9
    have hmem := kAg_c hag hsp
    have hP1 := kThr_P hthr e1 hP
    have hS1 : va_S (kA s0) s.heap t.heap [] := kThr_S hthr e1
    rcases (show E = eIA ∨ E = eUO ∨ E = eNS by simpa using hmem) with rfl | rfl | rfl
    · refine k_catch hWs hthr (h := 15) (by rw [htab]; exact (kH_hit hown (hts _ tw_132) (hts _ tw_146) (by decide) (by decide))) ?_
      refine lv_astore (lv' := [(5, .ref q), (0, .ref (ad 0)), (1, .int x), (2, .int y), (3, .int z), (4, .ref (ad 30))]) hx hb d_Law_protect_15 hl (by decide) rfl (fun ls hl => ?_)
      refine lv_iconst (v := nI 1) hx hb d_Law_protect_17 (by decide) ?_
      exact k_retL (u := (σ, oo)) hx hb hr hlocks d_Law_protect_18 hP1 hD hS1 (by decide) (by decide) (by show Except.ok (some (Value.int (nI (kCo eIA [eIA, eUO, eNS] 1))), (σ, oo)) = _; rw [show kCo eIA [eIA, eUO, eNS] 1 = 1 by decide])
    · refine k_catch hWs hthr (h := 19) (by rw [htab]; exact (kH_miss hown (hts _ tw_132) (KC.at hE.1 (E := eUO) (F := eIA) (by decide) (by decide) (by decide)) (by decide) (by decide) (kH_hit hown (hts _ tw_248) (hts _ tw_285) (by decide) (by decide)))) ?_
      refine lv_astore (lv' := [(5, .ref q), (0, .ref (ad 0)), (1, .int x), (2, .int y), (3, .int z), (4, .ref (ad 30))]) hx hb d_Law_protect_19 hl (by decide) rfl (fun ls hl => ?_)
      refine lv_iconst (v := nI 2) hx hb d_Law_protect_21 (by decide) ?_
      exact k_retL (u := (σ, oo)) hx hb hr hlocks d_Law_protect_22 hP1 hD hS1 (by decide) (by decide) (by show Except.ok (some (Value.int (nI (kCo eUO [eIA, eUO, eNS] 1))), (σ, oo)) = _; rw [show kCo eUO [eIA, eUO, eNS] 1 = 2 by decide])
    · refine k_catch hWs hthr (h := 23) (by rw [htab]; exact (kH_miss hown (hts _ tw_132) (KC.at hE.1 (E := eNS) (F := eIA) (by decide) (by decide) (by decide)) (by decide) (by decide) (kH_miss hown (hts _ tw_248) (KC.at hE.1 (E := eNS) (F := eUO) (by decide) (by decide) (by decide)) (by decide) (by decide) (kH_hit hown (hts _ tw_315) (hts _ tw_327) (by decide) (by decide))))) ?_
      refine lv_astore (lv' := [(5, .ref q), (0, .ref (ad 0)), (1, .int x), (2, .int y), (3, .int z), (4, .ref (ad 30))]) hx hb d_Law_protect_23 hl (by decide) rfl (fun ls hl => ?_)
      refine lv_iconst (v := nI 3) hx hb d_Law_protect_25 (by decide) ?_
      exact k_retL (u := (σ, oo)) hx hb hr hlocks d_Law_protect_26 hP1 hD hS1 (by decide) (by decide) (by show Except.ok (some (Value.int (nI (kCo eNS [eIA, eUO, eNS] 1))), (σ, oo)) = _; rw [show kCo eNS [eIA, eUO, eNS] 1 = 3 by decide])
  · obtain ⟨v, rfl⟩ := kAg_v hag hsp
    refine k_callW (k_atV (As := [.int x, .int y, .int z]) hx hb hown hE.1 (K0.w tw_319) (hts _ tw_316) (hts _ tw_317) (hts _ tw_318) (hts _ tw_1) (by decide) np_FK_protect (va_recv hK hP (ci := nFK) (q0 := 0) rfl rfl) rfl d_Law_protect_7) (kq_o hsp (c_FK_protect K0 ad (wR ad cI τ ++ wO ad cL oo) σ x y z ok)) (hl.1.trans hml.symm) (Nat.le_of_ble_eq_true rfl) ⟨Nat.le_of_ble_eq_true rfl, Nat.le_of_ble_eq_true rfl, Nat.le_of_ble_eq_true rfl, Nat.le_of_ble_eq_true rfl⟩ (fun U hU hW => ⟨hE.go hW hU hS, by rw [hU]; exact hP, hD⟩) hS (fun H locs hP hD hS => ?_)
    refine lv_i2l hx hb d_Law_protect_10 rfl ?_
    refine va_last hx hb hK hP hD hS 30 1 rfl rfl (vp_in_nI (by decide) (by decide)) d_Law_protect_11 (fun H locs hP hD hS => ?_)
    obtain ⟨hP, hD⟩ := wL_out (ad := ad) (τ := τ) (u := u) (oo := oo) hP hD
    refine lv_goto (tgt := 27) hx hb d_Law_protect_12 (by decide) ?_
    refine lv_iconst (v := nI 0) hx hb d_Law_protect_27 (by decide) ?_
    exact k_retL (u := (u, v.toInt64)) hx hb hr hlocks d_Law_protect_28 hP hD hS (by decide) (by decide) rfl
set_option maxHeartbeats 4000000 in
set_option maxRecDepth 100000 in
theorem c_Law_copy {l : Launch} {s0 : State} {a0 : Array Value} {D : va_G} {cI cL : ClassId} (K0 : k0 l s0 a0 D cI cL) (KC : kNC s0) (ad : Nat → Nat) (τ σ : kS) (oo : Int64) (x y : Int32) (ok : kOk σ) {zz : Option Value × kS} (hag : kAg [eIA, eUO] σ (sp_copy σ x y) zz) : kMet l y_Law_copy (Cond.codeWith y_Law_copy b_Law_copy 5 (some .int) [(0, 10, 13, 13), (0, 10, 17, 21)]) (rmL 10) [.ref (ad 0), .int x, .int y, .ref (ad 30)] (kPre D vwCl s0 (wL ad cI cL τ) (σ, oo)) (.ok (lwr [eIA, eUO] (sp_copy σ x y) σ oo)) (kBl D vwCl s0 (wL ad cI cL τ)) := by
  refine k_ofH (by decide) (Nat.le_of_ble_eq_true rfl) ?_
  intro p e9 s m below meth c hx hb hr hlocks hown hml htab hpre ls hl
  obtain ⟨hE, hP, hD⟩ := hpre
  obtain ⟨hts, hK⟩ := K0.at (args := ([.ref (ad 0), .int x, .int y, .ref (ad 30)] : List Value).toArray) hE
  have hl : lv_has ls 5 [(0, .ref (ad 0)), (1, .int x), (2, .int y), (3, .ref (ad 30))] := hl
  have hS : va_S (kA s0) s.heap s.heap [] := va_S.rf
  refine lv_aload_n hx hb d_Law_copy_0 rfl (lv_at hl 3 rfl) ?_
  refine lv_iconst (v := nI 0) hx hb d_Law_copy_1 (by decide) ?_
  refine lv_aload_n hx hb d_Law_copy_2 rfl (lv_at hl 0 rfl) ?_
  refine lv_iload_n hx hb d_Law_copy_3 rfl (lv_at hl 1 rfl) ?_
  refine lv_iload_n hx hb d_Law_copy_4 rfl (lv_at hl 2 rfl) ?_
  have hP : va_P D vwCl (wC ad cI (wR ad cI τ ++ wO ad cL oo) σ) s.heap := hP
  have hD : va_D (kA s0) (wC ad cI (wR ad cI τ ++ wO ad cL oo) σ) := hD
  rcases hsp : sp_copy σ x y with E | ⟨v, u⟩
  · refine k_call (k_atV (As := [.int x, .int y]) hx hb hown hE.1 (K0.w tw_351) (hts _ tw_348) (hts _ tw_349) (hts _ tw_350) (hts _ tw_1) (by decide) np_FK_copy (va_recv hK hP (ci := nFK) (q0 := 0) rfl rfl) rfl d_Law_copy_5) (kq_e hsp (c_FK_copy K0 ad (wR ad cI τ ++ wO ad cL oo) σ x y ok)) (hl.1.trans hml.symm) (Nat.le_of_ble_eq_true rfl) (Nat.le_of_ble_eq_true rfl) (Nat.le_of_ble_eq_true rfl) (Nat.le_of_ble_eq_true rfl) (Nat.le_of_ble_eq_true rfl) (fun U hU hW => ⟨hE.go hW hU hS, by rw [hU]; exact hP, hD⟩) (fun E9 hE9 st q t e1 hWs hthr => ?_) (fun v u h => by cases h)
    cases hE9
    have hmem := kAg_c hag hsp
    have hP1 := kThr_P hthr e1 hP
    have hS1 : va_S (kA s0) s.heap t.heap [] := kThr_S hthr e1
    rcases (show E = eIA ∨ E = eUO by simpa using hmem) with rfl | rfl
    · refine k_catch hWs hthr (h := 13) (by rw [htab]; exact (kH_hit hown (hts _ tw_132) (hts _ tw_146) (by decide) (by decide))) ?_
      refine lv_astore (lv' := [(4, .ref q), (0, .ref (ad 0)), (1, .int x), (2, .int y), (3, .ref (ad 30))]) hx hb d_Law_copy_13 hl (by decide) rfl (fun ls hl => ?_)
      refine lv_iconst (v := nI 1) hx hb d_Law_copy_15 (by decide) ?_
      exact k_retL (u := (σ, oo)) hx hb hr hlocks d_Law_copy_16 hP1 hD hS1 (by decide) (by decide) (by show Except.ok (some (Value.int (nI (kCo eIA [eIA, eUO] 1))), (σ, oo)) = _; rw [show kCo eIA [eIA, eUO] 1 = 1 by decide])
    · refine k_catch hWs hthr (h := 17) (by rw [htab]; exact (kH_miss hown (hts _ tw_132) (KC.at hE.1 (E := eUO) (F := eIA) (by decide) (by decide) (by decide)) (by decide) (by decide) (kH_hit hown (hts _ tw_248) (hts _ tw_285) (by decide) (by decide)))) ?_
      refine lv_astore (lv' := [(4, .ref q), (0, .ref (ad 0)), (1, .int x), (2, .int y), (3, .ref (ad 30))]) hx hb d_Law_copy_17 hl (by decide) rfl (fun ls hl => ?_)
      refine lv_iconst (v := nI 2) hx hb d_Law_copy_19 (by decide) ?_
      exact k_retL (u := (σ, oo)) hx hb hr hlocks d_Law_copy_20 hP1 hD hS1 (by decide) (by decide) (by show Except.ok (some (Value.int (nI (kCo eUO [eIA, eUO] 1))), (σ, oo)) = _; rw [show kCo eUO [eIA, eUO] 1 = 2 by decide])
  · obtain ⟨v, rfl⟩ := kAg_v hag hsp
    refine k_callW (k_atV (As := [.int x, .int y]) hx hb hown hE.1 (K0.w tw_351) (hts _ tw_348) (hts _ tw_349) (hts _ tw_350) (hts _ tw_1) (by decide) np_FK_copy (va_recv hK hP (ci := nFK) (q0 := 0) rfl rfl) rfl d_Law_copy_5) (kq_o hsp (c_FK_copy K0 ad (wR ad cI τ ++ wO ad cL oo) σ x y ok)) (hl.1.trans hml.symm) (Nat.le_of_ble_eq_true rfl) ⟨Nat.le_of_ble_eq_true rfl, Nat.le_of_ble_eq_true rfl, Nat.le_of_ble_eq_true rfl, Nat.le_of_ble_eq_true rfl⟩ (fun U hU hW => ⟨hE.go hW hU hS, by rw [hU]; exact hP, hD⟩) hS (fun H locs hP hD hS => ?_)
    refine lv_i2l hx hb d_Law_copy_8 rfl ?_
    refine va_last hx hb hK hP hD hS 30 1 rfl rfl (vp_in_nI (by decide) (by decide)) d_Law_copy_9 (fun H locs hP hD hS => ?_)
    obtain ⟨hP, hD⟩ := wL_out (ad := ad) (τ := τ) (u := u) (oo := oo) hP hD
    refine lv_goto (tgt := 21) hx hb d_Law_copy_10 (by decide) ?_
    refine lv_iconst (v := nI 0) hx hb d_Law_copy_21 (by decide) ?_
    exact k_retL (u := (u, v.toInt64)) hx hb hr hlocks d_Law_copy_22 hP hD hS (by decide) (by decide) rfl
set_option maxHeartbeats 4000000 in
set_option maxRecDepth 100000 in
theorem c_Law_release {l : Launch} {s0 : State} {a0 : Array Value} {D : va_G} {cI cL : ClassId} (K0 : k0 l s0 a0 D cI cL) (KC : kNC s0) (ad : Nat → Nat) (τ σ : kS) (oo : Int64) (x y : Int32) (ok : kOk σ) {zz : Option Value × kS} (hag : kAg [eIA, eUO, eNS, eIS] σ (sp_release σ x y) zz) : kMet l y_Law_release (Cond.codeWith y_Law_release b_Law_release 5 (some .int) [(0, 10, 13, 13), (0, 10, 17, 21), (0, 10, 21, 30), (0, 10, 25, 15)]) (rmL 10) [.ref (ad 0), .int x, .int y, .ref (ad 30)] (kPre D vwCl s0 (wL ad cI cL τ) (σ, oo)) (.ok (lwr [eIA, eUO, eNS, eIS] (sp_release σ x y) σ oo)) (kBl D vwCl s0 (wL ad cI cL τ)) := by
  refine k_ofH (by decide) (Nat.le_of_ble_eq_true rfl) ?_
  intro p e9 s m below meth c hx hb hr hlocks hown hml htab hpre ls hl
  obtain ⟨hE, hP, hD⟩ := hpre
  obtain ⟨hts, hK⟩ := K0.at (args := ([.ref (ad 0), .int x, .int y, .ref (ad 30)] : List Value).toArray) hE
  have hl : lv_has ls 5 [(0, .ref (ad 0)), (1, .int x), (2, .int y), (3, .ref (ad 30))] := hl
  have hS : va_S (kA s0) s.heap s.heap [] := va_S.rf
  refine lv_aload_n hx hb d_Law_release_0 rfl (lv_at hl 3 rfl) ?_
  refine lv_iconst (v := nI 0) hx hb d_Law_release_1 (by decide) ?_
  refine lv_aload_n hx hb d_Law_release_2 rfl (lv_at hl 0 rfl) ?_
  refine lv_iload_n hx hb d_Law_release_3 rfl (lv_at hl 1 rfl) ?_
  refine lv_iload_n hx hb d_Law_release_4 rfl (lv_at hl 2 rfl) ?_
  have hP : va_P D vwCl (wC ad cI (wR ad cI τ ++ wO ad cL oo) σ) s.heap := hP
  have hD : va_D (kA s0) (wC ad cI (wR ad cI τ ++ wO ad cL oo) σ) := hD
  rcases hsp : sp_release σ x y with E | ⟨v, u⟩
  · refine k_call (k_atV (As := [.int x, .int y]) hx hb hown hE.1 (K0.w tw_367) (hts _ tw_364) (hts _ tw_365) (hts _ tw_366) (hts _ tw_1) (by decide) np_FK_release (va_recv hK hP (ci := nFK) (q0 := 0) rfl rfl) rfl d_Law_release_5) (kq_e hsp (c_FK_release K0 ad (wR ad cI τ ++ wO ad cL oo) σ x y ok)) (hl.1.trans hml.symm) (Nat.le_of_ble_eq_true rfl) (Nat.le_of_ble_eq_true rfl) (Nat.le_of_ble_eq_true rfl) (Nat.le_of_ble_eq_true rfl) (Nat.le_of_ble_eq_true rfl) (fun U hU hW => ⟨hE.go hW hU hS, by rw [hU]; exact hP, hD⟩) (fun E9 hE9 st q t e1 hWs hthr => ?_) (fun v u h => by cases h)
    cases hE9
    have hmem := kAg_c hag hsp
    have hP1 := kThr_P hthr e1 hP
    have hS1 : va_S (kA s0) s.heap t.heap [] := kThr_S hthr e1
    rcases (show E = eIA ∨ E = eUO ∨ E = eNS ∨ E = eIS by simpa using hmem) with rfl | rfl | rfl | rfl
    · refine k_catch hWs hthr (h := 13) (by rw [htab]; exact (kH_hit hown (hts _ tw_132) (hts _ tw_146) (by decide) (by decide))) ?_
      refine lv_astore (lv' := [(4, .ref q), (0, .ref (ad 0)), (1, .int x), (2, .int y), (3, .ref (ad 30))]) hx hb d_Law_release_13 hl (by decide) rfl (fun ls hl => ?_)
      refine lv_iconst (v := nI 1) hx hb d_Law_release_15 (by decide) ?_
      exact k_retL (u := (σ, oo)) hx hb hr hlocks d_Law_release_16 hP1 hD hS1 (by decide) (by decide) (by show Except.ok (some (Value.int (nI (kCo eIA [eIA, eUO, eNS, eIS] 1))), (σ, oo)) = _; rw [show kCo eIA [eIA, eUO, eNS, eIS] 1 = 1 by decide])
    · refine k_catch hWs hthr (h := 17) (by rw [htab]; exact (kH_miss hown (hts _ tw_132) (KC.at hE.1 (E := eUO) (F := eIA) (by decide) (by decide) (by decide)) (by decide) (by decide) (kH_hit hown (hts _ tw_248) (hts _ tw_285) (by decide) (by decide)))) ?_
      refine lv_astore (lv' := [(4, .ref q), (0, .ref (ad 0)), (1, .int x), (2, .int y), (3, .ref (ad 30))]) hx hb d_Law_release_17 hl (by decide) rfl (fun ls hl => ?_)
      refine lv_iconst (v := nI 2) hx hb d_Law_release_19 (by decide) ?_
      exact k_retL (u := (σ, oo)) hx hb hr hlocks d_Law_release_20 hP1 hD hS1 (by decide) (by decide) (by show Except.ok (some (Value.int (nI (kCo eUO [eIA, eUO, eNS, eIS] 1))), (σ, oo)) = _; rw [show kCo eUO [eIA, eUO, eNS, eIS] 1 = 2 by decide])
    · refine k_catch hWs hthr (h := 21) (by rw [htab]; exact (kH_miss hown (hts _ tw_132) (KC.at hE.1 (E := eNS) (F := eIA) (by decide) (by decide) (by decide)) (by decide) (by decide) (kH_miss hown (hts _ tw_248) (KC.at hE.1 (E := eNS) (F := eUO) (by decide) (by decide) (by decide)) (by decide) (by decide) (kH_hit hown (hts _ tw_315) (hts _ tw_327) (by decide) (by decide))))) ?_
      refine lv_astore (lv' := [(4, .ref q), (0, .ref (ad 0)), (1, .int x), (2, .int y), (3, .ref (ad 30))]) hx hb d_Law_release_21 hl (by decide) rfl (fun ls hl => ?_)
      refine lv_iconst (v := nI 3) hx hb d_Law_release_23 (by decide) ?_
      exact k_retL (u := (σ, oo)) hx hb hr hlocks d_Law_release_24 hP1 hD hS1 (by decide) (by decide) (by show Except.ok (some (Value.int (nI (kCo eNS [eIA, eUO, eNS, eIS] 1))), (σ, oo)) = _; rw [show kCo eNS [eIA, eUO, eNS, eIS] 1 = 3 by decide])
    · refine k_catch hWs hthr (h := 25) (by rw [htab]; exact (kH_miss hown (hts _ tw_132) (KC.at hE.1 (E := eIS) (F := eIA) (by decide) (by decide) (by decide)) (by decide) (by decide) (kH_miss hown (hts _ tw_248) (KC.at hE.1 (E := eIS) (F := eUO) (by decide) (by decide) (by decide)) (by decide) (by decide) (kH_miss hown (hts _ tw_315) (KC.at hE.1 (E := eIS) (F := eNS) (by decide) (by decide) (by decide)) (by decide) (by decide) (kH_hit hown (hts _ tw_133) (hts _ tw_222) (by decide) (by decide)))))) ?_
      refine lv_astore (lv' := [(4, .ref q), (0, .ref (ad 0)), (1, .int x), (2, .int y), (3, .ref (ad 30))]) hx hb d_Law_release_25 hl (by decide) rfl (fun ls hl => ?_)
      refine lv_iconst (v := nI 4) hx hb d_Law_release_27 (by decide) ?_
      exact k_retL (u := (σ, oo)) hx hb hr hlocks d_Law_release_28 hP1 hD hS1 (by decide) (by decide) (by show Except.ok (some (Value.int (nI (kCo eIS [eIA, eUO, eNS, eIS] 1))), (σ, oo)) = _; rw [show kCo eIS [eIA, eUO, eNS, eIS] 1 = 4 by decide])
  · obtain ⟨v, rfl⟩ := kAg_v hag hsp
    refine k_callW (k_atV (As := [.int x, .int y]) hx hb hown hE.1 (K0.w tw_367) (hts _ tw_364) (hts _ tw_365) (hts _ tw_366) (hts _ tw_1) (by decide) np_FK_release (va_recv hK hP (ci := nFK) (q0 := 0) rfl rfl) rfl d_Law_release_5) (kq_o hsp (c_FK_release K0 ad (wR ad cI τ ++ wO ad cL oo) σ x y ok)) (hl.1.trans hml.symm) (Nat.le_of_ble_eq_true rfl) ⟨Nat.le_of_ble_eq_true rfl, Nat.le_of_ble_eq_true rfl, Nat.le_of_ble_eq_true rfl, Nat.le_of_ble_eq_true rfl⟩ (fun U hU hW => ⟨hE.go hW hU hS, by rw [hU]; exact hP, hD⟩) hS (fun H locs hP hD hS => ?_)
    refine lv_i2l hx hb d_Law_release_8 rfl ?_
    refine va_last hx hb hK hP hD hS 30 1 rfl rfl (vp_in_nI (by decide) (by decide)) d_Law_release_9 (fun H locs hP hD hS => ?_)
    obtain ⟨hP, hD⟩ := wL_out (ad := ad) (τ := τ) (u := u) (oo := oo) hP hD
    refine lv_goto (tgt := 29) hx hb d_Law_release_10 (by decide) ?_
    refine lv_iconst (v := nI 0) hx hb d_Law_release_29 (by decide) ?_
    exact k_retL (u := (u, v.toInt64)) hx hb hr hlocks d_Law_release_30 hP hD hS (by decide) (by decide) rfl
set_option maxHeartbeats 4000000 in
set_option maxRecDepth 100000 in
theorem c_Law_start {l : Launch} {s0 : State} {a0 : Array Value} {D : va_G} {cI cL : ClassId} (K0 : k0 l s0 a0 D cI cL) (KC : kNC s0) (ad : Nat → Nat) (τ σ : kS) (oo : Int64) (x : Int32) (ok : kOk σ) {zz : Option Value × kS} (hag : kAg [eIA, eIS] σ (sp_start σ x) zz) : kMet l y_Law_start (Cond.codeWith y_Law_start b_Law_start 4 (some .int) [(0, 9, 12, 13), (0, 9, 15, 15)]) (rmL 10) [.ref (ad 0), .int x, .ref (ad 30)] (kPre D vwCl s0 (wL ad cI cL τ) (σ, oo)) (.ok (lwr [eIA, eIS] (sp_start σ x) σ oo)) (kBl D vwCl s0 (wL ad cI cL τ)) := by
  refine k_ofH (by decide) (Nat.le_of_ble_eq_true rfl) ?_
  intro p e9 s m below meth c hx hb hr hlocks hown hml htab hpre ls hl
  obtain ⟨hE, hP, hD⟩ := hpre
  obtain ⟨hts, hK⟩ := K0.at (args := ([.ref (ad 0), .int x, .ref (ad 30)] : List Value).toArray) hE
  have hl : lv_has ls 4 [(0, .ref (ad 0)), (1, .int x), (2, .ref (ad 30))] := hl
  have hS : va_S (kA s0) s.heap s.heap [] := va_S.rf
  refine lv_aload_n hx hb d_Law_start_0 rfl (lv_at hl 2 rfl) ?_
  refine lv_iconst (v := nI 0) hx hb d_Law_start_1 (by decide) ?_
  refine lv_aload_n hx hb d_Law_start_2 rfl (lv_at hl 0 rfl) ?_
  refine lv_iload_n hx hb d_Law_start_3 rfl (lv_at hl 1 rfl) ?_
  have hP : va_P D vwCl (wC ad cI (wR ad cI τ ++ wO ad cL oo) σ) s.heap := hP
  have hD : va_D (kA s0) (wC ad cI (wR ad cI τ ++ wO ad cL oo) σ) := hD
  rcases hsp : sp_start σ x with E | ⟨v, u⟩
  · refine k_call (k_atV (As := [.int x]) hx hb hown hE.1 (K0.w tw_382) (hts _ tw_379) (hts _ tw_380) (hts _ tw_381) (hts _ tw_1) (by decide) np_FK_start (va_recv hK hP (ci := nFK) (q0 := 0) rfl rfl) rfl d_Law_start_4) (kq_e hsp (c_FK_start K0 ad (wR ad cI τ ++ wO ad cL oo) σ x ok)) (hl.1.trans hml.symm) (Nat.le_of_ble_eq_true rfl) (Nat.le_of_ble_eq_true rfl) (Nat.le_of_ble_eq_true rfl) (Nat.le_of_ble_eq_true rfl) (Nat.le_of_ble_eq_true rfl) (fun U hU hW => ⟨hE.go hW hU hS, by rw [hU]; exact hP, hD⟩) (fun E9 hE9 st q t e1 hWs hthr => ?_) (fun v u h => by cases h)
    cases hE9
    have hmem := kAg_c hag hsp
    have hP1 := kThr_P hthr e1 hP
    have hS1 : va_S (kA s0) s.heap t.heap [] := kThr_S hthr e1
    rcases (show E = eIA ∨ E = eIS by simpa using hmem) with rfl | rfl
    · refine k_catch hWs hthr (h := 12) (by rw [htab]; exact (kH_hit hown (hts _ tw_132) (hts _ tw_146) (by decide) (by decide))) ?_
      refine lv_astore_n (lv' := [(3, .ref q), (0, .ref (ad 0)), (1, .int x), (2, .ref (ad 30))]) hx hb d_Law_start_12 rfl hl (by decide) rfl (fun ls hl => ?_)
      refine lv_iconst (v := nI 1) hx hb d_Law_start_13 (by decide) ?_
      exact k_retL (u := (σ, oo)) hx hb hr hlocks d_Law_start_14 hP1 hD hS1 (by decide) (by decide) (by show Except.ok (some (Value.int (nI (kCo eIA [eIA, eIS] 1))), (σ, oo)) = _; rw [show kCo eIA [eIA, eIS] 1 = 1 by decide])
    · refine k_catch hWs hthr (h := 15) (by rw [htab]; exact (kH_miss hown (hts _ tw_132) (KC.at hE.1 (E := eIS) (F := eIA) (by decide) (by decide) (by decide)) (by decide) (by decide) (kH_hit hown (hts _ tw_133) (hts _ tw_222) (by decide) (by decide)))) ?_
      refine lv_astore_n (lv' := [(3, .ref q), (0, .ref (ad 0)), (1, .int x), (2, .ref (ad 30))]) hx hb d_Law_start_15 rfl hl (by decide) rfl (fun ls hl => ?_)
      refine lv_iconst (v := nI 2) hx hb d_Law_start_16 (by decide) ?_
      exact k_retL (u := (σ, oo)) hx hb hr hlocks d_Law_start_17 hP1 hD hS1 (by decide) (by decide) (by show Except.ok (some (Value.int (nI (kCo eIS [eIA, eIS] 1))), (σ, oo)) = _; rw [show kCo eIS [eIA, eIS] 1 = 2 by decide])
  · obtain ⟨v, rfl⟩ := kAg_v hag hsp
    refine k_callW (k_atV (As := [.int x]) hx hb hown hE.1 (K0.w tw_382) (hts _ tw_379) (hts _ tw_380) (hts _ tw_381) (hts _ tw_1) (by decide) np_FK_start (va_recv hK hP (ci := nFK) (q0 := 0) rfl rfl) rfl d_Law_start_4) (kq_o hsp (c_FK_start K0 ad (wR ad cI τ ++ wO ad cL oo) σ x ok)) (hl.1.trans hml.symm) (Nat.le_of_ble_eq_true rfl) ⟨Nat.le_of_ble_eq_true rfl, Nat.le_of_ble_eq_true rfl, Nat.le_of_ble_eq_true rfl, Nat.le_of_ble_eq_true rfl⟩ (fun U hU hW => ⟨hE.go hW hU hS, by rw [hU]; exact hP, hD⟩) hS (fun H locs hP hD hS => ?_)
    refine lv_i2l hx hb d_Law_start_7 rfl ?_
    refine va_last hx hb hK hP hD hS 30 1 rfl rfl (vp_in_nI (by decide) (by decide)) d_Law_start_8 (fun H locs hP hD hS => ?_)
    obtain ⟨hP, hD⟩ := wL_out (ad := ad) (τ := τ) (u := u) (oo := oo) hP hD
    refine lv_goto (tgt := 18) hx hb d_Law_start_9 (by decide) ?_
    refine lv_iconst (v := nI 0) hx hb d_Law_start_18 (by decide) ?_
    exact k_retL (u := (u, v.toInt64)) hx hb hr hlocks d_Law_start_19 hP hD hS (by decide) (by decide) rfl
set_option maxHeartbeats 4000000 in
set_option maxRecDepth 100000 in
theorem c_Law_give {l : Launch} {s0 : State} {a0 : Array Value} {D : va_G} {cI cL : ClassId} (K0 : k0 l s0 a0 D cI cL) (KC : kNC s0) (ad : Nat → Nat) (τ σ : kS) (oo : Int64) (x : Int32) (ok : kOk σ) {zz : Option Value × kS} (hag : kAg [eIA, eIS] σ (sp_give σ x) zz) : kMet l y_Law_give (Cond.codeWith y_Law_give b_Law_give 4 (some .int) [(0, 9, 12, 13), (0, 9, 15, 15)]) (rmL 10) [.ref (ad 0), .int x, .ref (ad 30)] (kPre D vwCl s0 (wL ad cI cL τ) (σ, oo)) (.ok (lwr [eIA, eIS] (sp_give σ x) σ oo)) (kBl D vwCl s0 (wL ad cI cL τ)) := by
  refine k_ofH (by decide) (Nat.le_of_ble_eq_true rfl) ?_
  intro p e9 s m below meth c hx hb hr hlocks hown hml htab hpre ls hl
  obtain ⟨hE, hP, hD⟩ := hpre
  obtain ⟨hts, hK⟩ := K0.at (args := ([.ref (ad 0), .int x, .ref (ad 30)] : List Value).toArray) hE
  have hl : lv_has ls 4 [(0, .ref (ad 0)), (1, .int x), (2, .ref (ad 30))] := hl
  have hS : va_S (kA s0) s.heap s.heap [] := va_S.rf
  refine lv_aload_n hx hb d_Law_give_0 rfl (lv_at hl 2 rfl) ?_
  refine lv_iconst (v := nI 0) hx hb d_Law_give_1 (by decide) ?_
  refine lv_aload_n hx hb d_Law_give_2 rfl (lv_at hl 0 rfl) ?_
  refine lv_iload_n hx hb d_Law_give_3 rfl (lv_at hl 1 rfl) ?_
  have hP : va_P D vwCl (wC ad cI (wR ad cI τ ++ wO ad cL oo) σ) s.heap := hP
  have hD : va_D (kA s0) (wC ad cI (wR ad cI τ ++ wO ad cL oo) σ) := hD
  rcases hsp : sp_give σ x with E | ⟨v, u⟩
  · refine k_call (k_atV (As := [.int x]) hx hb hown hE.1 (K0.w tw_394) (hts _ tw_391) (hts _ tw_392) (hts _ tw_393) (hts _ tw_1) (by decide) np_FK_give (va_recv hK hP (ci := nFK) (q0 := 0) rfl rfl) rfl d_Law_give_4) (kq_e hsp (c_FK_give K0 ad (wR ad cI τ ++ wO ad cL oo) σ x ok)) (hl.1.trans hml.symm) (Nat.le_of_ble_eq_true rfl) (Nat.le_of_ble_eq_true rfl) (Nat.le_of_ble_eq_true rfl) (Nat.le_of_ble_eq_true rfl) (Nat.le_of_ble_eq_true rfl) (fun U hU hW => ⟨hE.go hW hU hS, by rw [hU]; exact hP, hD⟩) (fun E9 hE9 st q t e1 hWs hthr => ?_) (fun v u h => by cases h)
    cases hE9
    have hmem := kAg_c hag hsp
    have hP1 := kThr_P hthr e1 hP
    have hS1 : va_S (kA s0) s.heap t.heap [] := kThr_S hthr e1
    rcases (show E = eIA ∨ E = eIS by simpa using hmem) with rfl | rfl
    · refine k_catch hWs hthr (h := 12) (by rw [htab]; exact (kH_hit hown (hts _ tw_132) (hts _ tw_146) (by decide) (by decide))) ?_
      refine lv_astore_n (lv' := [(3, .ref q), (0, .ref (ad 0)), (1, .int x), (2, .ref (ad 30))]) hx hb d_Law_give_12 rfl hl (by decide) rfl (fun ls hl => ?_)
      refine lv_iconst (v := nI 1) hx hb d_Law_give_13 (by decide) ?_
      exact k_retL (u := (σ, oo)) hx hb hr hlocks d_Law_give_14 hP1 hD hS1 (by decide) (by decide) (by show Except.ok (some (Value.int (nI (kCo eIA [eIA, eIS] 1))), (σ, oo)) = _; rw [show kCo eIA [eIA, eIS] 1 = 1 by decide])
    · refine k_catch hWs hthr (h := 15) (by rw [htab]; exact (kH_miss hown (hts _ tw_132) (KC.at hE.1 (E := eIS) (F := eIA) (by decide) (by decide) (by decide)) (by decide) (by decide) (kH_hit hown (hts _ tw_133) (hts _ tw_222) (by decide) (by decide)))) ?_
      refine lv_astore_n (lv' := [(3, .ref q), (0, .ref (ad 0)), (1, .int x), (2, .ref (ad 30))]) hx hb d_Law_give_15 rfl hl (by decide) rfl (fun ls hl => ?_)
      refine lv_iconst (v := nI 2) hx hb d_Law_give_16 (by decide) ?_
      exact k_retL (u := (σ, oo)) hx hb hr hlocks d_Law_give_17 hP1 hD hS1 (by decide) (by decide) (by show Except.ok (some (Value.int (nI (kCo eIS [eIA, eIS] 1))), (σ, oo)) = _; rw [show kCo eIS [eIA, eIS] 1 = 2 by decide])
  · obtain ⟨v, rfl⟩ := kAg_v hag hsp
    refine k_callW (k_atV (As := [.int x]) hx hb hown hE.1 (K0.w tw_394) (hts _ tw_391) (hts _ tw_392) (hts _ tw_393) (hts _ tw_1) (by decide) np_FK_give (va_recv hK hP (ci := nFK) (q0 := 0) rfl rfl) rfl d_Law_give_4) (kq_o hsp (c_FK_give K0 ad (wR ad cI τ ++ wO ad cL oo) σ x ok)) (hl.1.trans hml.symm) (Nat.le_of_ble_eq_true rfl) ⟨Nat.le_of_ble_eq_true rfl, Nat.le_of_ble_eq_true rfl, Nat.le_of_ble_eq_true rfl, Nat.le_of_ble_eq_true rfl⟩ (fun U hU hW => ⟨hE.go hW hU hS, by rw [hU]; exact hP, hD⟩) hS (fun H locs hP hD hS => ?_)
    refine lv_i2l hx hb d_Law_give_7 rfl ?_
    refine va_last hx hb hK hP hD hS 30 1 rfl rfl (vp_in_nI (by decide) (by decide)) d_Law_give_8 (fun H locs hP hD hS => ?_)
    obtain ⟨hP, hD⟩ := wL_out (ad := ad) (τ := τ) (u := u) (oo := oo) hP hD
    refine lv_goto (tgt := 18) hx hb d_Law_give_9 (by decide) ?_
    refine lv_iconst (v := nI 0) hx hb d_Law_give_18 (by decide) ?_
    exact k_retL (u := (u, v.toInt64)) hx hb hr hlocks d_Law_give_19 hP hD hS (by decide) (by decide) rfl
set_option maxHeartbeats 4000000 in
set_option maxRecDepth 100000 in
theorem c_Law_kill {l : Launch} {s0 : State} {a0 : Array Value} {D : va_G} {cI cL : ClassId} (K0 : k0 l s0 a0 D cI cL) (KC : kNC s0) (ad : Nat → Nat) (τ σ : kS) (oo : Int64) (x : Int32) (ok : kOk σ) {zz : Option Value × kS} (hag : kAg [eIA, eUO, eIS] σ (sp_kill σ x) zz) : kMet l y_Law_kill (Cond.codeWith y_Law_kill b_Law_kill 4 (some .int) [(0, 9, 12, 13), (0, 9, 15, 21), (0, 9, 18, 15)]) (rmL 10) [.ref (ad 0), .int x, .ref (ad 30)] (kPre D vwCl s0 (wL ad cI cL τ) (σ, oo)) (.ok (lwr [eIA, eUO, eIS] (sp_kill σ x) σ oo)) (kBl D vwCl s0 (wL ad cI cL τ)) := by
  refine k_ofH (by decide) (Nat.le_of_ble_eq_true rfl) ?_
  intro p e9 s m below meth c hx hb hr hlocks hown hml htab hpre ls hl
  obtain ⟨hE, hP, hD⟩ := hpre
  obtain ⟨hts, hK⟩ := K0.at (args := ([.ref (ad 0), .int x, .ref (ad 30)] : List Value).toArray) hE
  have hl : lv_has ls 4 [(0, .ref (ad 0)), (1, .int x), (2, .ref (ad 30))] := hl
  have hS : va_S (kA s0) s.heap s.heap [] := va_S.rf
  refine lv_aload_n hx hb d_Law_kill_0 rfl (lv_at hl 2 rfl) ?_
  refine lv_iconst (v := nI 0) hx hb d_Law_kill_1 (by decide) ?_
  refine lv_aload_n hx hb d_Law_kill_2 rfl (lv_at hl 0 rfl) ?_
  refine lv_iload_n hx hb d_Law_kill_3 rfl (lv_at hl 1 rfl) ?_
  have hP : va_P D vwCl (wC ad cI (wR ad cI τ ++ wO ad cL oo) σ) s.heap := hP
  have hD : va_D (kA s0) (wC ad cI (wR ad cI τ ++ wO ad cL oo) σ) := hD
  rcases hsp : sp_kill σ x with E | ⟨v, u⟩
  · refine k_call (k_atV (As := [.int x]) hx hb hown hE.1 (K0.w tw_410) (hts _ tw_407) (hts _ tw_408) (hts _ tw_409) (hts _ tw_1) (by decide) np_FK_kill (va_recv hK hP (ci := nFK) (q0 := 0) rfl rfl) rfl d_Law_kill_4) (kq_e hsp (c_FK_kill K0 ad (wR ad cI τ ++ wO ad cL oo) σ x ok)) (hl.1.trans hml.symm) (Nat.le_of_ble_eq_true rfl) (Nat.le_of_ble_eq_true rfl) (Nat.le_of_ble_eq_true rfl) (Nat.le_of_ble_eq_true rfl) (Nat.le_of_ble_eq_true rfl) (fun U hU hW => ⟨hE.go hW hU hS, by rw [hU]; exact hP, hD⟩) (fun E9 hE9 st q t e1 hWs hthr => ?_) (fun v u h => by cases h)
    cases hE9
    have hmem := kAg_c hag hsp
    have hP1 := kThr_P hthr e1 hP
    have hS1 : va_S (kA s0) s.heap t.heap [] := kThr_S hthr e1
    rcases (show E = eIA ∨ E = eUO ∨ E = eIS by simpa using hmem) with rfl | rfl | rfl
    · refine k_catch hWs hthr (h := 12) (by rw [htab]; exact (kH_hit hown (hts _ tw_132) (hts _ tw_146) (by decide) (by decide))) ?_
      refine lv_astore_n (lv' := [(3, .ref q), (0, .ref (ad 0)), (1, .int x), (2, .ref (ad 30))]) hx hb d_Law_kill_12 rfl hl (by decide) rfl (fun ls hl => ?_)
      refine lv_iconst (v := nI 1) hx hb d_Law_kill_13 (by decide) ?_
      exact k_retL (u := (σ, oo)) hx hb hr hlocks d_Law_kill_14 hP1 hD hS1 (by decide) (by decide) (by show Except.ok (some (Value.int (nI (kCo eIA [eIA, eUO, eIS] 1))), (σ, oo)) = _; rw [show kCo eIA [eIA, eUO, eIS] 1 = 1 by decide])
    · refine k_catch hWs hthr (h := 15) (by rw [htab]; exact (kH_miss hown (hts _ tw_132) (KC.at hE.1 (E := eUO) (F := eIA) (by decide) (by decide) (by decide)) (by decide) (by decide) (kH_hit hown (hts _ tw_248) (hts _ tw_285) (by decide) (by decide)))) ?_
      refine lv_astore_n (lv' := [(3, .ref q), (0, .ref (ad 0)), (1, .int x), (2, .ref (ad 30))]) hx hb d_Law_kill_15 rfl hl (by decide) rfl (fun ls hl => ?_)
      refine lv_iconst (v := nI 2) hx hb d_Law_kill_16 (by decide) ?_
      exact k_retL (u := (σ, oo)) hx hb hr hlocks d_Law_kill_17 hP1 hD hS1 (by decide) (by decide) (by show Except.ok (some (Value.int (nI (kCo eUO [eIA, eUO, eIS] 1))), (σ, oo)) = _; rw [show kCo eUO [eIA, eUO, eIS] 1 = 2 by decide])
    · refine k_catch hWs hthr (h := 18) (by rw [htab]; exact (kH_miss hown (hts _ tw_132) (KC.at hE.1 (E := eIS) (F := eIA) (by decide) (by decide) (by decide)) (by decide) (by decide) (kH_miss hown (hts _ tw_248) (KC.at hE.1 (E := eIS) (F := eUO) (by decide) (by decide) (by decide)) (by decide) (by decide) (kH_hit hown (hts _ tw_133) (hts _ tw_222) (by decide) (by decide))))) ?_
      refine lv_astore_n (lv' := [(3, .ref q), (0, .ref (ad 0)), (1, .int x), (2, .ref (ad 30))]) hx hb d_Law_kill_18 rfl hl (by decide) rfl (fun ls hl => ?_)
      refine lv_iconst (v := nI 3) hx hb d_Law_kill_19 (by decide) ?_
      exact k_retL (u := (σ, oo)) hx hb hr hlocks d_Law_kill_20 hP1 hD hS1 (by decide) (by decide) (by show Except.ok (some (Value.int (nI (kCo eIS [eIA, eUO, eIS] 1))), (σ, oo)) = _; rw [show kCo eIS [eIA, eUO, eIS] 1 = 3 by decide])
  · obtain ⟨v, rfl⟩ := kAg_v hag hsp
    refine k_callW (k_atV (As := [.int x]) hx hb hown hE.1 (K0.w tw_410) (hts _ tw_407) (hts _ tw_408) (hts _ tw_409) (hts _ tw_1) (by decide) np_FK_kill (va_recv hK hP (ci := nFK) (q0 := 0) rfl rfl) rfl d_Law_kill_4) (kq_o hsp (c_FK_kill K0 ad (wR ad cI τ ++ wO ad cL oo) σ x ok)) (hl.1.trans hml.symm) (Nat.le_of_ble_eq_true rfl) ⟨Nat.le_of_ble_eq_true rfl, Nat.le_of_ble_eq_true rfl, Nat.le_of_ble_eq_true rfl, Nat.le_of_ble_eq_true rfl⟩ (fun U hU hW => ⟨hE.go hW hU hS, by rw [hU]; exact hP, hD⟩) hS (fun H locs hP hD hS => ?_)
    refine lv_i2l hx hb d_Law_kill_7 rfl ?_
    refine va_last hx hb hK hP hD hS 30 1 rfl rfl (vp_in_nI (by decide) (by decide)) d_Law_kill_8 (fun H locs hP hD hS => ?_)
    obtain ⟨hP, hD⟩ := wL_out (ad := ad) (τ := τ) (u := u) (oo := oo) hP hD
    refine lv_goto (tgt := 21) hx hb d_Law_kill_9 (by decide) ?_
    refine lv_iconst (v := nI 0) hx hb d_Law_kill_21 (by decide) ?_
    exact k_retL (u := (u, v.toInt64)) hx hb hr hlocks d_Law_kill_22 hP hD hS (by decide) (by decide) rfl
set_option maxHeartbeats 4000000 in
set_option maxRecDepth 100000 in
theorem c_Law_reap {l : Launch} {s0 : State} {a0 : Array Value} {D : va_G} {cI cL : ClassId} (K0 : k0 l s0 a0 D cI cL) (KC : kNC s0) (ad : Nat → Nat) (τ σ : kS) (oo : Int64) (x : Int32) (ok : kOk σ) {zz : Option Value × kS} (hag : kAg [eIA, eIS] σ (sp_reap σ x) zz) : kMet l y_Law_reap (Cond.codeWith y_Law_reap b_Law_reap 4 (some .int) [(0, 9, 12, 13), (0, 9, 15, 15)]) (rmL 10) [.ref (ad 0), .int x, .ref (ad 30)] (kPre D vwCl s0 (wL ad cI cL τ) (σ, oo)) (.ok (lwr [eIA, eIS] (sp_reap σ x) σ oo)) (kBl D vwCl s0 (wL ad cI cL τ)) := by
  refine k_ofH (by decide) (Nat.le_of_ble_eq_true rfl) ?_
  intro p e9 s m below meth c hx hb hr hlocks hown hml htab hpre ls hl
  obtain ⟨hE, hP, hD⟩ := hpre
  obtain ⟨hts, hK⟩ := K0.at (args := ([.ref (ad 0), .int x, .ref (ad 30)] : List Value).toArray) hE
  have hl : lv_has ls 4 [(0, .ref (ad 0)), (1, .int x), (2, .ref (ad 30))] := hl
  have hS : va_S (kA s0) s.heap s.heap [] := va_S.rf
  refine lv_aload_n hx hb d_Law_reap_0 rfl (lv_at hl 2 rfl) ?_
  refine lv_iconst (v := nI 0) hx hb d_Law_reap_1 (by decide) ?_
  refine lv_aload_n hx hb d_Law_reap_2 rfl (lv_at hl 0 rfl) ?_
  refine lv_iload_n hx hb d_Law_reap_3 rfl (lv_at hl 1 rfl) ?_
  have hP : va_P D vwCl (wC ad cI (wR ad cI τ ++ wO ad cL oo) σ) s.heap := hP
  have hD : va_D (kA s0) (wC ad cI (wR ad cI τ ++ wO ad cL oo) σ) := hD
  rcases hsp : sp_reap σ x with E | ⟨v, u⟩
  · refine k_call (k_atV (As := [.int x]) hx hb hown hE.1 (K0.w tw_440) (hts _ tw_437) (hts _ tw_438) (hts _ tw_439) (hts _ tw_1) (by decide) np_FK_reap (va_recv hK hP (ci := nFK) (q0 := 0) rfl rfl) rfl d_Law_reap_4) (kq_e hsp (c_FK_reap K0 ad (wR ad cI τ ++ wO ad cL oo) σ x ok)) (hl.1.trans hml.symm) (Nat.le_of_ble_eq_true rfl) (Nat.le_of_ble_eq_true rfl) (Nat.le_of_ble_eq_true rfl) (Nat.le_of_ble_eq_true rfl) (Nat.le_of_ble_eq_true rfl) (fun U hU hW => ⟨hE.go hW hU hS, by rw [hU]; exact hP, hD⟩) (fun E9 hE9 st q t e1 hWs hthr => ?_) (fun v u h => by cases h)
    cases hE9
    have hmem := kAg_c hag hsp
    have hP1 := kThr_P hthr e1 hP
    have hS1 : va_S (kA s0) s.heap t.heap [] := kThr_S hthr e1
    rcases (show E = eIA ∨ E = eIS by simpa using hmem) with rfl | rfl
    · refine k_catch hWs hthr (h := 12) (by rw [htab]; exact (kH_hit hown (hts _ tw_132) (hts _ tw_146) (by decide) (by decide))) ?_
      refine lv_astore_n (lv' := [(3, .ref q), (0, .ref (ad 0)), (1, .int x), (2, .ref (ad 30))]) hx hb d_Law_reap_12 rfl hl (by decide) rfl (fun ls hl => ?_)
      refine lv_iconst (v := nI 1) hx hb d_Law_reap_13 (by decide) ?_
      exact k_retL (u := (σ, oo)) hx hb hr hlocks d_Law_reap_14 hP1 hD hS1 (by decide) (by decide) (by show Except.ok (some (Value.int (nI (kCo eIA [eIA, eIS] 1))), (σ, oo)) = _; rw [show kCo eIA [eIA, eIS] 1 = 1 by decide])
    · refine k_catch hWs hthr (h := 15) (by rw [htab]; exact (kH_miss hown (hts _ tw_132) (KC.at hE.1 (E := eIS) (F := eIA) (by decide) (by decide) (by decide)) (by decide) (by decide) (kH_hit hown (hts _ tw_133) (hts _ tw_222) (by decide) (by decide)))) ?_
      refine lv_astore_n (lv' := [(3, .ref q), (0, .ref (ad 0)), (1, .int x), (2, .ref (ad 30))]) hx hb d_Law_reap_15 rfl hl (by decide) rfl (fun ls hl => ?_)
      refine lv_iconst (v := nI 2) hx hb d_Law_reap_16 (by decide) ?_
      exact k_retL (u := (σ, oo)) hx hb hr hlocks d_Law_reap_17 hP1 hD hS1 (by decide) (by decide) (by show Except.ok (some (Value.int (nI (kCo eIS [eIA, eIS] 1))), (σ, oo)) = _; rw [show kCo eIS [eIA, eIS] 1 = 2 by decide])
  · obtain ⟨v, rfl⟩ := kAg_v hag hsp
    refine k_callW (k_atV (As := [.int x]) hx hb hown hE.1 (K0.w tw_440) (hts _ tw_437) (hts _ tw_438) (hts _ tw_439) (hts _ tw_1) (by decide) np_FK_reap (va_recv hK hP (ci := nFK) (q0 := 0) rfl rfl) rfl d_Law_reap_4) (kq_o hsp (c_FK_reap K0 ad (wR ad cI τ ++ wO ad cL oo) σ x ok)) (hl.1.trans hml.symm) (Nat.le_of_ble_eq_true rfl) ⟨Nat.le_of_ble_eq_true rfl, Nat.le_of_ble_eq_true rfl, Nat.le_of_ble_eq_true rfl, Nat.le_of_ble_eq_true rfl⟩ (fun U hU hW => ⟨hE.go hW hU hS, by rw [hU]; exact hP, hD⟩) hS (fun H locs hP hD hS => ?_)
    refine lv_i2l hx hb d_Law_reap_7 rfl ?_
    refine va_last hx hb hK hP hD hS 30 1 rfl rfl (vp_in_nI (by decide) (by decide)) d_Law_reap_8 (fun H locs hP hD hS => ?_)
    obtain ⟨hP, hD⟩ := wL_out (ad := ad) (τ := τ) (u := u) (oo := oo) hP hD
    refine lv_goto (tgt := 18) hx hb d_Law_reap_9 (by decide) ?_
    refine lv_iconst (v := nI 0) hx hb d_Law_reap_18 (by decide) ?_
    exact k_retL (u := (u, v.toInt64)) hx hb hr hlocks d_Law_reap_19 hP hD hS (by decide) (by decide) rfl
set_option maxHeartbeats 4000000 in
set_option maxRecDepth 100000 in
theorem c_Law_open {l : Launch} {s0 : State} {a0 : Array Value} {D : va_G} {cI cL : ClassId} (K0 : k0 l s0 a0 D cI cL) (KC : kNC s0) (ad : Nat → Nat) (τ σ : kS) (oo : Int64) (x y z : Int32) (ok : kOk σ) {zz : Option Value × kS} (hag : kAg [eIA, eUO, eIS] σ (sp_open σ x y z) zz) : kMet l y_Law_open (Cond.codeWith y_Law_open b_Law_open 6 (some .int) [(0, 12, 15, 13), (0, 12, 19, 21), (0, 12, 23, 15)]) (rmL 10) [.ref (ad 0), .int x, .int y, .int z, .ref (ad 30)] (kPre D vwCl s0 (wL ad cI cL τ) (σ, oo)) (.ok (lwr [eIA, eUO, eIS] (sp_open σ x y z) σ oo)) (kBl D vwCl s0 (wL ad cI cL τ)) := by
  refine k_ofH (by decide) (Nat.le_of_ble_eq_true rfl) ?_
  intro p e9 s m below meth c hx hb hr hlocks hown hml htab hpre ls hl
  obtain ⟨hE, hP, hD⟩ := hpre
  obtain ⟨hts, hK⟩ := K0.at (args := ([.ref (ad 0), .int x, .int y, .int z, .ref (ad 30)] : List Value).toArray) hE
  have hl : lv_has ls 6 [(0, .ref (ad 0)), (1, .int x), (2, .int y), (3, .int z), (4, .ref (ad 30))] := hl
  have hS : va_S (kA s0) s.heap s.heap [] := va_S.rf
  refine lv_aload hx hb d_Law_open_0 (lv_at hl 4 rfl) ?_
  refine lv_iconst (v := nI 0) hx hb d_Law_open_2 (by decide) ?_
  refine lv_aload_n hx hb d_Law_open_3 rfl (lv_at hl 0 rfl) ?_
  refine lv_iload_n hx hb d_Law_open_4 rfl (lv_at hl 1 rfl) ?_
  refine lv_iload_n hx hb d_Law_open_5 rfl (lv_at hl 2 rfl) ?_
  refine lv_iload_n hx hb d_Law_open_6 rfl (lv_at hl 3 rfl) ?_
  have hP : va_P D vwCl (wC ad cI (wR ad cI τ ++ wO ad cL oo) σ) s.heap := hP
  have hD : va_D (kA s0) (wC ad cI (wR ad cI τ ++ wO ad cL oo) σ) := hD
  rcases hsp : sp_open σ x y z with E | ⟨v, u⟩
  · refine k_call (k_atV (As := [.int x, .int y, .int z]) hx hb hown hE.1 (K0.w tw_466) (hts _ tw_463) (hts _ tw_464) (hts _ tw_465) (hts _ tw_1) (by decide) np_FK_open (va_recv hK hP (ci := nFK) (q0 := 0) rfl rfl) rfl d_Law_open_7) (kq_e hsp (c_FK_open K0 ad (wR ad cI τ ++ wO ad cL oo) σ x y z ok)) (hl.1.trans hml.symm) (Nat.le_of_ble_eq_true rfl) (Nat.le_of_ble_eq_true rfl) (Nat.le_of_ble_eq_true rfl) (Nat.le_of_ble_eq_true rfl) (Nat.le_of_ble_eq_true rfl) (fun U hU hW => ⟨hE.go hW hU hS, by rw [hU]; exact hP, hD⟩) (fun E9 hE9 st q t e1 hWs hthr => ?_) (fun v u h => by cases h)
    cases hE9
    have hmem := kAg_c hag hsp
    have hP1 := kThr_P hthr e1 hP
    have hS1 : va_S (kA s0) s.heap t.heap [] := kThr_S hthr e1
    rcases (show E = eIA ∨ E = eUO ∨ E = eIS by simpa using hmem) with rfl | rfl | rfl
    · refine k_catch hWs hthr (h := 15) (by rw [htab]; exact (kH_hit hown (hts _ tw_132) (hts _ tw_146) (by decide) (by decide))) ?_
      refine lv_astore (lv' := [(5, .ref q), (0, .ref (ad 0)), (1, .int x), (2, .int y), (3, .int z), (4, .ref (ad 30))]) hx hb d_Law_open_15 hl (by decide) rfl (fun ls hl => ?_)
      refine lv_iconst (v := nI 1) hx hb d_Law_open_17 (by decide) ?_
      exact k_retL (u := (σ, oo)) hx hb hr hlocks d_Law_open_18 hP1 hD hS1 (by decide) (by decide) (by show Except.ok (some (Value.int (nI (kCo eIA [eIA, eUO, eIS] 1))), (σ, oo)) = _; rw [show kCo eIA [eIA, eUO, eIS] 1 = 1 by decide])
    · refine k_catch hWs hthr (h := 19) (by rw [htab]; exact (kH_miss hown (hts _ tw_132) (KC.at hE.1 (E := eUO) (F := eIA) (by decide) (by decide) (by decide)) (by decide) (by decide) (kH_hit hown (hts _ tw_248) (hts _ tw_285) (by decide) (by decide)))) ?_
      refine lv_astore (lv' := [(5, .ref q), (0, .ref (ad 0)), (1, .int x), (2, .int y), (3, .int z), (4, .ref (ad 30))]) hx hb d_Law_open_19 hl (by decide) rfl (fun ls hl => ?_)
      refine lv_iconst (v := nI 2) hx hb d_Law_open_21 (by decide) ?_
      exact k_retL (u := (σ, oo)) hx hb hr hlocks d_Law_open_22 hP1 hD hS1 (by decide) (by decide) (by show Except.ok (some (Value.int (nI (kCo eUO [eIA, eUO, eIS] 1))), (σ, oo)) = _; rw [show kCo eUO [eIA, eUO, eIS] 1 = 2 by decide])
    · refine k_catch hWs hthr (h := 23) (by rw [htab]; exact (kH_miss hown (hts _ tw_132) (KC.at hE.1 (E := eIS) (F := eIA) (by decide) (by decide) (by decide)) (by decide) (by decide) (kH_miss hown (hts _ tw_248) (KC.at hE.1 (E := eIS) (F := eUO) (by decide) (by decide) (by decide)) (by decide) (by decide) (kH_hit hown (hts _ tw_133) (hts _ tw_222) (by decide) (by decide))))) ?_
      refine lv_astore (lv' := [(5, .ref q), (0, .ref (ad 0)), (1, .int x), (2, .int y), (3, .int z), (4, .ref (ad 30))]) hx hb d_Law_open_23 hl (by decide) rfl (fun ls hl => ?_)
      refine lv_iconst (v := nI 3) hx hb d_Law_open_25 (by decide) ?_
      exact k_retL (u := (σ, oo)) hx hb hr hlocks d_Law_open_26 hP1 hD hS1 (by decide) (by decide) (by show Except.ok (some (Value.int (nI (kCo eIS [eIA, eUO, eIS] 1))), (σ, oo)) = _; rw [show kCo eIS [eIA, eUO, eIS] 1 = 3 by decide])
  · obtain ⟨v, rfl⟩ := kAg_v hag hsp
    refine k_callW (k_atV (As := [.int x, .int y, .int z]) hx hb hown hE.1 (K0.w tw_466) (hts _ tw_463) (hts _ tw_464) (hts _ tw_465) (hts _ tw_1) (by decide) np_FK_open (va_recv hK hP (ci := nFK) (q0 := 0) rfl rfl) rfl d_Law_open_7) (kq_o hsp (c_FK_open K0 ad (wR ad cI τ ++ wO ad cL oo) σ x y z ok)) (hl.1.trans hml.symm) (Nat.le_of_ble_eq_true rfl) ⟨Nat.le_of_ble_eq_true rfl, Nat.le_of_ble_eq_true rfl, Nat.le_of_ble_eq_true rfl, Nat.le_of_ble_eq_true rfl⟩ (fun U hU hW => ⟨hE.go hW hU hS, by rw [hU]; exact hP, hD⟩) hS (fun H locs hP hD hS => ?_)
    refine lv_i2l hx hb d_Law_open_10 rfl ?_
    refine va_last hx hb hK hP hD hS 30 1 rfl rfl (vp_in_nI (by decide) (by decide)) d_Law_open_11 (fun H locs hP hD hS => ?_)
    obtain ⟨hP, hD⟩ := wL_out (ad := ad) (τ := τ) (u := u) (oo := oo) hP hD
    refine lv_goto (tgt := 27) hx hb d_Law_open_12 (by decide) ?_
    refine lv_iconst (v := nI 0) hx hb d_Law_open_27 (by decide) ?_
    exact k_retL (u := (u, v.toInt64)) hx hb hr hlocks d_Law_open_28 hP hD hS (by decide) (by decide) rfl
set_option maxHeartbeats 4000000 in
set_option maxRecDepth 100000 in
theorem c_Law_share {l : Launch} {s0 : State} {a0 : Array Value} {D : va_G} {cI cL : ClassId} (K0 : k0 l s0 a0 D cI cL) (KC : kNC s0) (ad : Nat → Nat) (τ σ : kS) (oo : Int64) (x y z : Int32) (ok : kOk σ) {zz : Option Value × kS} (hag : kAg [eIA, eUO, eNS, eIS] σ (sp_share σ x y z) zz) : kMet l y_Law_share (Cond.codeWith y_Law_share b_Law_share 6 (some .int) [(0, 12, 15, 13), (0, 12, 19, 21), (0, 12, 23, 30), (0, 12, 27, 15)]) (rmL 10) [.ref (ad 0), .int x, .int y, .int z, .ref (ad 30)] (kPre D vwCl s0 (wL ad cI cL τ) (σ, oo)) (.ok (lwr [eIA, eUO, eNS, eIS] (sp_share σ x y z) σ oo)) (kBl D vwCl s0 (wL ad cI cL τ)) := by
  refine k_ofH (by decide) (Nat.le_of_ble_eq_true rfl) ?_
  intro p e9 s m below meth c hx hb hr hlocks hown hml htab hpre ls hl
  obtain ⟨hE, hP, hD⟩ := hpre
  obtain ⟨hts, hK⟩ := K0.at (args := ([.ref (ad 0), .int x, .int y, .int z, .ref (ad 30)] : List Value).toArray) hE
  have hl : lv_has ls 6 [(0, .ref (ad 0)), (1, .int x), (2, .int y), (3, .int z), (4, .ref (ad 30))] := hl
  have hS : va_S (kA s0) s.heap s.heap [] := va_S.rf
  refine lv_aload hx hb d_Law_share_0 (lv_at hl 4 rfl) ?_
  refine lv_iconst (v := nI 0) hx hb d_Law_share_2 (by decide) ?_
  refine lv_aload_n hx hb d_Law_share_3 rfl (lv_at hl 0 rfl) ?_
  refine lv_iload_n hx hb d_Law_share_4 rfl (lv_at hl 1 rfl) ?_
  refine lv_iload_n hx hb d_Law_share_5 rfl (lv_at hl 2 rfl) ?_
  refine lv_iload_n hx hb d_Law_share_6 rfl (lv_at hl 3 rfl) ?_
  have hP : va_P D vwCl (wC ad cI (wR ad cI τ ++ wO ad cL oo) σ) s.heap := hP
  have hD : va_D (kA s0) (wC ad cI (wR ad cI τ ++ wO ad cL oo) σ) := hD
  rcases hsp : sp_share σ x y z with E | ⟨v, u⟩
  · refine k_call (k_atV (As := [.int x, .int y, .int z]) hx hb hown hE.1 (K0.w tw_504) (hts _ tw_501) (hts _ tw_502) (hts _ tw_503) (hts _ tw_1) (by decide) np_FK_share (va_recv hK hP (ci := nFK) (q0 := 0) rfl rfl) rfl d_Law_share_7) (kq_e hsp (c_FK_share K0 ad (wR ad cI τ ++ wO ad cL oo) σ x y z ok)) (hl.1.trans hml.symm) (Nat.le_of_ble_eq_true rfl) (Nat.le_of_ble_eq_true rfl) (Nat.le_of_ble_eq_true rfl) (Nat.le_of_ble_eq_true rfl) (Nat.le_of_ble_eq_true rfl) (fun U hU hW => ⟨hE.go hW hU hS, by rw [hU]; exact hP, hD⟩) (fun E9 hE9 st q t e1 hWs hthr => ?_) (fun v u h => by cases h)
    cases hE9
    have hmem := kAg_c hag hsp
    have hP1 := kThr_P hthr e1 hP
    have hS1 : va_S (kA s0) s.heap t.heap [] := kThr_S hthr e1
    rcases (show E = eIA ∨ E = eUO ∨ E = eNS ∨ E = eIS by simpa using hmem) with rfl | rfl | rfl | rfl
    · refine k_catch hWs hthr (h := 15) (by rw [htab]; exact (kH_hit hown (hts _ tw_132) (hts _ tw_146) (by decide) (by decide))) ?_
      refine lv_astore (lv' := [(5, .ref q), (0, .ref (ad 0)), (1, .int x), (2, .int y), (3, .int z), (4, .ref (ad 30))]) hx hb d_Law_share_15 hl (by decide) rfl (fun ls hl => ?_)
      refine lv_iconst (v := nI 1) hx hb d_Law_share_17 (by decide) ?_
      exact k_retL (u := (σ, oo)) hx hb hr hlocks d_Law_share_18 hP1 hD hS1 (by decide) (by decide) (by show Except.ok (some (Value.int (nI (kCo eIA [eIA, eUO, eNS, eIS] 1))), (σ, oo)) = _; rw [show kCo eIA [eIA, eUO, eNS, eIS] 1 = 1 by decide])
    · refine k_catch hWs hthr (h := 19) (by rw [htab]; exact (kH_miss hown (hts _ tw_132) (KC.at hE.1 (E := eUO) (F := eIA) (by decide) (by decide) (by decide)) (by decide) (by decide) (kH_hit hown (hts _ tw_248) (hts _ tw_285) (by decide) (by decide)))) ?_
      refine lv_astore (lv' := [(5, .ref q), (0, .ref (ad 0)), (1, .int x), (2, .int y), (3, .int z), (4, .ref (ad 30))]) hx hb d_Law_share_19 hl (by decide) rfl (fun ls hl => ?_)
      refine lv_iconst (v := nI 2) hx hb d_Law_share_21 (by decide) ?_
      exact k_retL (u := (σ, oo)) hx hb hr hlocks d_Law_share_22 hP1 hD hS1 (by decide) (by decide) (by show Except.ok (some (Value.int (nI (kCo eUO [eIA, eUO, eNS, eIS] 1))), (σ, oo)) = _; rw [show kCo eUO [eIA, eUO, eNS, eIS] 1 = 2 by decide])
    · refine k_catch hWs hthr (h := 23) (by rw [htab]; exact (kH_miss hown (hts _ tw_132) (KC.at hE.1 (E := eNS) (F := eIA) (by decide) (by decide) (by decide)) (by decide) (by decide) (kH_miss hown (hts _ tw_248) (KC.at hE.1 (E := eNS) (F := eUO) (by decide) (by decide) (by decide)) (by decide) (by decide) (kH_hit hown (hts _ tw_315) (hts _ tw_327) (by decide) (by decide))))) ?_
      refine lv_astore (lv' := [(5, .ref q), (0, .ref (ad 0)), (1, .int x), (2, .int y), (3, .int z), (4, .ref (ad 30))]) hx hb d_Law_share_23 hl (by decide) rfl (fun ls hl => ?_)
      refine lv_iconst (v := nI 3) hx hb d_Law_share_25 (by decide) ?_
      exact k_retL (u := (σ, oo)) hx hb hr hlocks d_Law_share_26 hP1 hD hS1 (by decide) (by decide) (by show Except.ok (some (Value.int (nI (kCo eNS [eIA, eUO, eNS, eIS] 1))), (σ, oo)) = _; rw [show kCo eNS [eIA, eUO, eNS, eIS] 1 = 3 by decide])
    · refine k_catch hWs hthr (h := 27) (by rw [htab]; exact (kH_miss hown (hts _ tw_132) (KC.at hE.1 (E := eIS) (F := eIA) (by decide) (by decide) (by decide)) (by decide) (by decide) (kH_miss hown (hts _ tw_248) (KC.at hE.1 (E := eIS) (F := eUO) (by decide) (by decide) (by decide)) (by decide) (by decide) (kH_miss hown (hts _ tw_315) (KC.at hE.1 (E := eIS) (F := eNS) (by decide) (by decide) (by decide)) (by decide) (by decide) (kH_hit hown (hts _ tw_133) (hts _ tw_222) (by decide) (by decide)))))) ?_
      refine lv_astore (lv' := [(5, .ref q), (0, .ref (ad 0)), (1, .int x), (2, .int y), (3, .int z), (4, .ref (ad 30))]) hx hb d_Law_share_27 hl (by decide) rfl (fun ls hl => ?_)
      refine lv_iconst (v := nI 4) hx hb d_Law_share_29 (by decide) ?_
      exact k_retL (u := (σ, oo)) hx hb hr hlocks d_Law_share_30 hP1 hD hS1 (by decide) (by decide) (by show Except.ok (some (Value.int (nI (kCo eIS [eIA, eUO, eNS, eIS] 1))), (σ, oo)) = _; rw [show kCo eIS [eIA, eUO, eNS, eIS] 1 = 4 by decide])
  · obtain ⟨v, rfl⟩ := kAg_v hag hsp
    refine k_callW (k_atV (As := [.int x, .int y, .int z]) hx hb hown hE.1 (K0.w tw_504) (hts _ tw_501) (hts _ tw_502) (hts _ tw_503) (hts _ tw_1) (by decide) np_FK_share (va_recv hK hP (ci := nFK) (q0 := 0) rfl rfl) rfl d_Law_share_7) (kq_o hsp (c_FK_share K0 ad (wR ad cI τ ++ wO ad cL oo) σ x y z ok)) (hl.1.trans hml.symm) (Nat.le_of_ble_eq_true rfl) ⟨Nat.le_of_ble_eq_true rfl, Nat.le_of_ble_eq_true rfl, Nat.le_of_ble_eq_true rfl, Nat.le_of_ble_eq_true rfl⟩ (fun U hU hW => ⟨hE.go hW hU hS, by rw [hU]; exact hP, hD⟩) hS (fun H locs hP hD hS => ?_)
    refine lv_i2l hx hb d_Law_share_10 rfl ?_
    refine va_last hx hb hK hP hD hS 30 1 rfl rfl (vp_in_nI (by decide) (by decide)) d_Law_share_11 (fun H locs hP hD hS => ?_)
    obtain ⟨hP, hD⟩ := wL_out (ad := ad) (τ := τ) (u := u) (oo := oo) hP hD
    refine lv_goto (tgt := 31) hx hb d_Law_share_12 (by decide) ?_
    refine lv_iconst (v := nI 0) hx hb d_Law_share_31 (by decide) ?_
    exact k_retL (u := (u, v.toInt64)) hx hb hr hlocks d_Law_share_32 hP hD hS (by decide) (by decide) rfl
set_option maxHeartbeats 4000000 in
set_option maxRecDepth 100000 in
theorem c_Law_close {l : Launch} {s0 : State} {a0 : Array Value} {D : va_G} {cI cL : ClassId} (K0 : k0 l s0 a0 D cI cL) (KC : kNC s0) (ad : Nat → Nat) (τ σ : kS) (oo : Int64) (x y : Int32) (ok : kOk σ) {zz : Option Value × kS} (hag : kAg [eIA, eUO, eNS] σ (sp_close σ x y) zz) : kMet l y_Law_close (Cond.codeWith y_Law_close b_Law_close 5 (some .int) [(0, 10, 13, 13), (0, 10, 17, 21), (0, 10, 21, 30)]) (rmL 10) [.ref (ad 0), .int x, .int y, .ref (ad 30)] (kPre D vwCl s0 (wL ad cI cL τ) (σ, oo)) (.ok (lwr [eIA, eUO, eNS] (sp_close σ x y) σ oo)) (kBl D vwCl s0 (wL ad cI cL τ)) := by
  refine k_ofH (by decide) (Nat.le_of_ble_eq_true rfl) ?_
  intro p e9 s m below meth c hx hb hr hlocks hown hml htab hpre ls hl
  obtain ⟨hE, hP, hD⟩ := hpre
  obtain ⟨hts, hK⟩ := K0.at (args := ([.ref (ad 0), .int x, .int y, .ref (ad 30)] : List Value).toArray) hE
  have hl : lv_has ls 5 [(0, .ref (ad 0)), (1, .int x), (2, .int y), (3, .ref (ad 30))] := hl
  have hS : va_S (kA s0) s.heap s.heap [] := va_S.rf
  refine lv_aload_n hx hb d_Law_close_0 rfl (lv_at hl 3 rfl) ?_
  refine lv_iconst (v := nI 0) hx hb d_Law_close_1 (by decide) ?_
  refine lv_aload_n hx hb d_Law_close_2 rfl (lv_at hl 0 rfl) ?_
  refine lv_iload_n hx hb d_Law_close_3 rfl (lv_at hl 1 rfl) ?_
  refine lv_iload_n hx hb d_Law_close_4 rfl (lv_at hl 2 rfl) ?_
  have hP : va_P D vwCl (wC ad cI (wR ad cI τ ++ wO ad cL oo) σ) s.heap := hP
  have hD : va_D (kA s0) (wC ad cI (wR ad cI τ ++ wO ad cL oo) σ) := hD
  rcases hsp : sp_close σ x y with E | ⟨v, u⟩
  · refine k_call (k_atV (As := [.int x, .int y]) hx hb hown hE.1 (K0.w tw_516) (hts _ tw_513) (hts _ tw_514) (hts _ tw_515) (hts _ tw_1) (by decide) np_FK_close (va_recv hK hP (ci := nFK) (q0 := 0) rfl rfl) rfl d_Law_close_5) (kq_e hsp (c_FK_close K0 ad (wR ad cI τ ++ wO ad cL oo) σ x y ok)) (hl.1.trans hml.symm) (Nat.le_of_ble_eq_true rfl) (Nat.le_of_ble_eq_true rfl) (Nat.le_of_ble_eq_true rfl) (Nat.le_of_ble_eq_true rfl) (Nat.le_of_ble_eq_true rfl) (fun U hU hW => ⟨hE.go hW hU hS, by rw [hU]; exact hP, hD⟩) (fun E9 hE9 st q t e1 hWs hthr => ?_) (fun v u h => by cases h)
    cases hE9
    have hmem := kAg_c hag hsp
    have hP1 := kThr_P hthr e1 hP
    have hS1 : va_S (kA s0) s.heap t.heap [] := kThr_S hthr e1
    rcases (show E = eIA ∨ E = eUO ∨ E = eNS by simpa using hmem) with rfl | rfl | rfl
    · refine k_catch hWs hthr (h := 13) (by rw [htab]; exact (kH_hit hown (hts _ tw_132) (hts _ tw_146) (by decide) (by decide))) ?_
      refine lv_astore (lv' := [(4, .ref q), (0, .ref (ad 0)), (1, .int x), (2, .int y), (3, .ref (ad 30))]) hx hb d_Law_close_13 hl (by decide) rfl (fun ls hl => ?_)
      refine lv_iconst (v := nI 1) hx hb d_Law_close_15 (by decide) ?_
      exact k_retL (u := (σ, oo)) hx hb hr hlocks d_Law_close_16 hP1 hD hS1 (by decide) (by decide) (by show Except.ok (some (Value.int (nI (kCo eIA [eIA, eUO, eNS] 1))), (σ, oo)) = _; rw [show kCo eIA [eIA, eUO, eNS] 1 = 1 by decide])
    · refine k_catch hWs hthr (h := 17) (by rw [htab]; exact (kH_miss hown (hts _ tw_132) (KC.at hE.1 (E := eUO) (F := eIA) (by decide) (by decide) (by decide)) (by decide) (by decide) (kH_hit hown (hts _ tw_248) (hts _ tw_285) (by decide) (by decide)))) ?_
      refine lv_astore (lv' := [(4, .ref q), (0, .ref (ad 0)), (1, .int x), (2, .int y), (3, .ref (ad 30))]) hx hb d_Law_close_17 hl (by decide) rfl (fun ls hl => ?_)
      refine lv_iconst (v := nI 2) hx hb d_Law_close_19 (by decide) ?_
      exact k_retL (u := (σ, oo)) hx hb hr hlocks d_Law_close_20 hP1 hD hS1 (by decide) (by decide) (by show Except.ok (some (Value.int (nI (kCo eUO [eIA, eUO, eNS] 1))), (σ, oo)) = _; rw [show kCo eUO [eIA, eUO, eNS] 1 = 2 by decide])
    · refine k_catch hWs hthr (h := 21) (by rw [htab]; exact (kH_miss hown (hts _ tw_132) (KC.at hE.1 (E := eNS) (F := eIA) (by decide) (by decide) (by decide)) (by decide) (by decide) (kH_miss hown (hts _ tw_248) (KC.at hE.1 (E := eNS) (F := eUO) (by decide) (by decide) (by decide)) (by decide) (by decide) (kH_hit hown (hts _ tw_315) (hts _ tw_327) (by decide) (by decide))))) ?_
      refine lv_astore (lv' := [(4, .ref q), (0, .ref (ad 0)), (1, .int x), (2, .int y), (3, .ref (ad 30))]) hx hb d_Law_close_21 hl (by decide) rfl (fun ls hl => ?_)
      refine lv_iconst (v := nI 3) hx hb d_Law_close_23 (by decide) ?_
      exact k_retL (u := (σ, oo)) hx hb hr hlocks d_Law_close_24 hP1 hD hS1 (by decide) (by decide) (by show Except.ok (some (Value.int (nI (kCo eNS [eIA, eUO, eNS] 1))), (σ, oo)) = _; rw [show kCo eNS [eIA, eUO, eNS] 1 = 3 by decide])
  · obtain ⟨v, rfl⟩ := kAg_v hag hsp
    refine k_callW (k_atV (As := [.int x, .int y]) hx hb hown hE.1 (K0.w tw_516) (hts _ tw_513) (hts _ tw_514) (hts _ tw_515) (hts _ tw_1) (by decide) np_FK_close (va_recv hK hP (ci := nFK) (q0 := 0) rfl rfl) rfl d_Law_close_5) (kq_o hsp (c_FK_close K0 ad (wR ad cI τ ++ wO ad cL oo) σ x y ok)) (hl.1.trans hml.symm) (Nat.le_of_ble_eq_true rfl) ⟨Nat.le_of_ble_eq_true rfl, Nat.le_of_ble_eq_true rfl, Nat.le_of_ble_eq_true rfl, Nat.le_of_ble_eq_true rfl⟩ (fun U hU hW => ⟨hE.go hW hU hS, by rw [hU]; exact hP, hD⟩) hS (fun H locs hP hD hS => ?_)
    refine lv_i2l hx hb d_Law_close_8 rfl ?_
    refine va_last hx hb hK hP hD hS 30 1 rfl rfl (vp_in_nI (by decide) (by decide)) d_Law_close_9 (fun H locs hP hD hS => ?_)
    obtain ⟨hP, hD⟩ := wL_out (ad := ad) (τ := τ) (u := u) (oo := oo) hP hD
    refine lv_goto (tgt := 25) hx hb d_Law_close_10 (by decide) ?_
    refine lv_iconst (v := nI 0) hx hb d_Law_close_25 (by decide) ?_
    exact k_retL (u := (u, v.toInt64)) hx hb hr hlocks d_Law_close_26 hP hD hS (by decide) (by decide) rfl
set_option maxHeartbeats 4000000 in
set_option maxRecDepth 100000 in
theorem c_Law_put {l : Launch} {s0 : State} {a0 : Array Value} {D : va_G} {cI cL : ClassId} (K0 : k0 l s0 a0 D cI cL) (KC : kNC s0) (ad : Nat → Nat) (τ σ : kS) (oo : Int64) (x y : Int32) (ok : kOk σ) {zz : Option Value × kS} (hag : kAg [eIA, eNS, eUO, eIS] σ (sp_put σ x y) zz) : kMet l y_Law_put (Cond.codeWith y_Law_put b_Law_put 5 (some .int) [(0, 10, 13, 13), (0, 10, 17, 30), (0, 10, 21, 21), (0, 10, 25, 15)]) (rmL 10) [.ref (ad 0), .int x, .int y, .ref (ad 30)] (kPre D vwCl s0 (wL ad cI cL τ) (σ, oo)) (.ok (lwr [eIA, eNS, eUO, eIS] (sp_put σ x y) σ oo)) (kBl D vwCl s0 (wL ad cI cL τ)) := by
  refine k_ofH (by decide) (Nat.le_of_ble_eq_true rfl) ?_
  intro p e9 s m below meth c hx hb hr hlocks hown hml htab hpre ls hl
  obtain ⟨hE, hP, hD⟩ := hpre
  obtain ⟨hts, hK⟩ := K0.at (args := ([.ref (ad 0), .int x, .int y, .ref (ad 30)] : List Value).toArray) hE
  have hl : lv_has ls 5 [(0, .ref (ad 0)), (1, .int x), (2, .int y), (3, .ref (ad 30))] := hl
  have hS : va_S (kA s0) s.heap s.heap [] := va_S.rf
  refine lv_aload_n hx hb d_Law_put_0 rfl (lv_at hl 3 rfl) ?_
  refine lv_iconst (v := nI 0) hx hb d_Law_put_1 (by decide) ?_
  refine lv_aload_n hx hb d_Law_put_2 rfl (lv_at hl 0 rfl) ?_
  refine lv_iload_n hx hb d_Law_put_3 rfl (lv_at hl 1 rfl) ?_
  refine lv_iload_n hx hb d_Law_put_4 rfl (lv_at hl 2 rfl) ?_
  have hP : va_P D vwCl (wC ad cI (wR ad cI τ ++ wO ad cL oo) σ) s.heap := hP
  have hD : va_D (kA s0) (wC ad cI (wR ad cI τ ++ wO ad cL oo) σ) := hD
  rcases hsp : sp_put σ x y with E | ⟨v, u⟩
  · refine k_call (k_atV (As := [.int x, .int y]) hx hb hown hE.1 (K0.w tw_523) (hts _ tw_520) (hts _ tw_521) (hts _ tw_522) (hts _ tw_1) (by decide) np_FK_put (va_recv hK hP (ci := nFK) (q0 := 0) rfl rfl) rfl d_Law_put_5) (kq_e hsp (c_FK_put K0 ad (wR ad cI τ ++ wO ad cL oo) σ x y ok)) (hl.1.trans hml.symm) (Nat.le_of_ble_eq_true rfl) (Nat.le_of_ble_eq_true rfl) (Nat.le_of_ble_eq_true rfl) (Nat.le_of_ble_eq_true rfl) (Nat.le_of_ble_eq_true rfl) (fun U hU hW => ⟨hE.go hW hU hS, by rw [hU]; exact hP, hD⟩) (fun E9 hE9 st q t e1 hWs hthr => ?_) (fun v u h => by cases h)
    cases hE9
    have hmem := kAg_c hag hsp
    have hP1 := kThr_P hthr e1 hP
    have hS1 : va_S (kA s0) s.heap t.heap [] := kThr_S hthr e1
    rcases (show E = eIA ∨ E = eNS ∨ E = eUO ∨ E = eIS by simpa using hmem) with rfl | rfl | rfl | rfl
    · refine k_catch hWs hthr (h := 13) (by rw [htab]; exact (kH_hit hown (hts _ tw_132) (hts _ tw_146) (by decide) (by decide))) ?_
      refine lv_astore (lv' := [(4, .ref q), (0, .ref (ad 0)), (1, .int x), (2, .int y), (3, .ref (ad 30))]) hx hb d_Law_put_13 hl (by decide) rfl (fun ls hl => ?_)
      refine lv_iconst (v := nI 1) hx hb d_Law_put_15 (by decide) ?_
      exact k_retL (u := (σ, oo)) hx hb hr hlocks d_Law_put_16 hP1 hD hS1 (by decide) (by decide) (by show Except.ok (some (Value.int (nI (kCo eIA [eIA, eNS, eUO, eIS] 1))), (σ, oo)) = _; rw [show kCo eIA [eIA, eNS, eUO, eIS] 1 = 1 by decide])
    · refine k_catch hWs hthr (h := 17) (by rw [htab]; exact (kH_miss hown (hts _ tw_132) (KC.at hE.1 (E := eNS) (F := eIA) (by decide) (by decide) (by decide)) (by decide) (by decide) (kH_hit hown (hts _ tw_315) (hts _ tw_327) (by decide) (by decide)))) ?_
      refine lv_astore (lv' := [(4, .ref q), (0, .ref (ad 0)), (1, .int x), (2, .int y), (3, .ref (ad 30))]) hx hb d_Law_put_17 hl (by decide) rfl (fun ls hl => ?_)
      refine lv_iconst (v := nI 2) hx hb d_Law_put_19 (by decide) ?_
      exact k_retL (u := (σ, oo)) hx hb hr hlocks d_Law_put_20 hP1 hD hS1 (by decide) (by decide) (by show Except.ok (some (Value.int (nI (kCo eNS [eIA, eNS, eUO, eIS] 1))), (σ, oo)) = _; rw [show kCo eNS [eIA, eNS, eUO, eIS] 1 = 2 by decide])
    · refine k_catch hWs hthr (h := 21) (by rw [htab]; exact (kH_miss hown (hts _ tw_132) (KC.at hE.1 (E := eUO) (F := eIA) (by decide) (by decide) (by decide)) (by decide) (by decide) (kH_miss hown (hts _ tw_315) (KC.at hE.1 (E := eUO) (F := eNS) (by decide) (by decide) (by decide)) (by decide) (by decide) (kH_hit hown (hts _ tw_248) (hts _ tw_285) (by decide) (by decide))))) ?_
      refine lv_astore (lv' := [(4, .ref q), (0, .ref (ad 0)), (1, .int x), (2, .int y), (3, .ref (ad 30))]) hx hb d_Law_put_21 hl (by decide) rfl (fun ls hl => ?_)
      refine lv_iconst (v := nI 3) hx hb d_Law_put_23 (by decide) ?_
      exact k_retL (u := (σ, oo)) hx hb hr hlocks d_Law_put_24 hP1 hD hS1 (by decide) (by decide) (by show Except.ok (some (Value.int (nI (kCo eUO [eIA, eNS, eUO, eIS] 1))), (σ, oo)) = _; rw [show kCo eUO [eIA, eNS, eUO, eIS] 1 = 3 by decide])
    · refine k_catch hWs hthr (h := 25) (by rw [htab]; exact (kH_miss hown (hts _ tw_132) (KC.at hE.1 (E := eIS) (F := eIA) (by decide) (by decide) (by decide)) (by decide) (by decide) (kH_miss hown (hts _ tw_315) (KC.at hE.1 (E := eIS) (F := eNS) (by decide) (by decide) (by decide)) (by decide) (by decide) (kH_miss hown (hts _ tw_248) (KC.at hE.1 (E := eIS) (F := eUO) (by decide) (by decide) (by decide)) (by decide) (by decide) (kH_hit hown (hts _ tw_133) (hts _ tw_222) (by decide) (by decide)))))) ?_
      refine lv_astore (lv' := [(4, .ref q), (0, .ref (ad 0)), (1, .int x), (2, .int y), (3, .ref (ad 30))]) hx hb d_Law_put_25 hl (by decide) rfl (fun ls hl => ?_)
      refine lv_iconst (v := nI 4) hx hb d_Law_put_27 (by decide) ?_
      exact k_retL (u := (σ, oo)) hx hb hr hlocks d_Law_put_28 hP1 hD hS1 (by decide) (by decide) (by show Except.ok (some (Value.int (nI (kCo eIS [eIA, eNS, eUO, eIS] 1))), (σ, oo)) = _; rw [show kCo eIS [eIA, eNS, eUO, eIS] 1 = 4 by decide])
  · obtain ⟨v, rfl⟩ := kAg_v hag hsp
    refine k_callW (k_atV (As := [.int x, .int y]) hx hb hown hE.1 (K0.w tw_523) (hts _ tw_520) (hts _ tw_521) (hts _ tw_522) (hts _ tw_1) (by decide) np_FK_put (va_recv hK hP (ci := nFK) (q0 := 0) rfl rfl) rfl d_Law_put_5) (kq_o hsp (c_FK_put K0 ad (wR ad cI τ ++ wO ad cL oo) σ x y ok)) (hl.1.trans hml.symm) (Nat.le_of_ble_eq_true rfl) ⟨Nat.le_of_ble_eq_true rfl, Nat.le_of_ble_eq_true rfl, Nat.le_of_ble_eq_true rfl, Nat.le_of_ble_eq_true rfl⟩ (fun U hU hW => ⟨hE.go hW hU hS, by rw [hU]; exact hP, hD⟩) hS (fun H locs hP hD hS => ?_)
    refine lv_i2l hx hb d_Law_put_8 rfl ?_
    refine va_last hx hb hK hP hD hS 30 1 rfl rfl (vp_in_nI (by decide) (by decide)) d_Law_put_9 (fun H locs hP hD hS => ?_)
    obtain ⟨hP, hD⟩ := wL_out (ad := ad) (τ := τ) (u := u) (oo := oo) hP hD
    refine lv_goto (tgt := 29) hx hb d_Law_put_10 (by decide) ?_
    refine lv_iconst (v := nI 0) hx hb d_Law_put_29 (by decide) ?_
    exact k_retL (u := (u, v.toInt64)) hx hb hr hlocks d_Law_put_30 hP hD hS (by decide) (by decide) rfl
set_option maxHeartbeats 4000000 in
set_option maxRecDepth 100000 in
theorem c_Law_take {l : Launch} {s0 : State} {a0 : Array Value} {D : va_G} {cI cL : ClassId} (K0 : k0 l s0 a0 D cI cL) (KC : kNC s0) (ad : Nat → Nat) (τ σ : kS) (oo : Int64) (x y : Int32) (ok : kOk σ) {zz : Option Value × kS} (hag : kAg [eIA, eNS, eUO, eIS] σ (sp_take σ x y) zz) : kMet l y_Law_take (Cond.codeWith y_Law_take b_Law_take 5 (some .int) [(0, 10, 13, 13), (0, 10, 17, 30), (0, 10, 21, 21), (0, 10, 25, 15)]) (rmL 10) [.ref (ad 0), .int x, .int y, .ref (ad 30)] (kPre D vwCl s0 (wL ad cI cL τ) (σ, oo)) (.ok (lwr [eIA, eNS, eUO, eIS] (sp_take σ x y) σ oo)) (kBl D vwCl s0 (wL ad cI cL τ)) := by
  refine k_ofH (by decide) (Nat.le_of_ble_eq_true rfl) ?_
  intro p e9 s m below meth c hx hb hr hlocks hown hml htab hpre ls hl
  obtain ⟨hE, hP, hD⟩ := hpre
  obtain ⟨hts, hK⟩ := K0.at (args := ([.ref (ad 0), .int x, .int y, .ref (ad 30)] : List Value).toArray) hE
  have hl : lv_has ls 5 [(0, .ref (ad 0)), (1, .int x), (2, .int y), (3, .ref (ad 30))] := hl
  have hS : va_S (kA s0) s.heap s.heap [] := va_S.rf
  refine lv_aload_n hx hb d_Law_take_0 rfl (lv_at hl 3 rfl) ?_
  refine lv_iconst (v := nI 0) hx hb d_Law_take_1 (by decide) ?_
  refine lv_aload_n hx hb d_Law_take_2 rfl (lv_at hl 0 rfl) ?_
  refine lv_iload_n hx hb d_Law_take_3 rfl (lv_at hl 1 rfl) ?_
  refine lv_iload_n hx hb d_Law_take_4 rfl (lv_at hl 2 rfl) ?_
  have hP : va_P D vwCl (wC ad cI (wR ad cI τ ++ wO ad cL oo) σ) s.heap := hP
  have hD : va_D (kA s0) (wC ad cI (wR ad cI τ ++ wO ad cL oo) σ) := hD
  rcases hsp : sp_take σ x y with E | ⟨v, u⟩
  · refine k_call (k_atV (As := [.int x, .int y]) hx hb hown hE.1 (K0.w tw_567) (hts _ tw_564) (hts _ tw_565) (hts _ tw_566) (hts _ tw_1) (by decide) np_FK_take (va_recv hK hP (ci := nFK) (q0 := 0) rfl rfl) rfl d_Law_take_5) (kq_e hsp (c_FK_take K0 ad (wR ad cI τ ++ wO ad cL oo) σ x y ok)) (hl.1.trans hml.symm) (Nat.le_of_ble_eq_true rfl) (Nat.le_of_ble_eq_true rfl) (Nat.le_of_ble_eq_true rfl) (Nat.le_of_ble_eq_true rfl) (Nat.le_of_ble_eq_true rfl) (fun U hU hW => ⟨hE.go hW hU hS, by rw [hU]; exact hP, hD⟩) (fun E9 hE9 st q t e1 hWs hthr => ?_) (fun v u h => by cases h)
    cases hE9
    have hmem := kAg_c hag hsp
    have hP1 := kThr_P hthr e1 hP
    have hS1 : va_S (kA s0) s.heap t.heap [] := kThr_S hthr e1
    rcases (show E = eIA ∨ E = eNS ∨ E = eUO ∨ E = eIS by simpa using hmem) with rfl | rfl | rfl | rfl
    · refine k_catch hWs hthr (h := 13) (by rw [htab]; exact (kH_hit hown (hts _ tw_132) (hts _ tw_146) (by decide) (by decide))) ?_
      refine lv_astore (lv' := [(4, .ref q), (0, .ref (ad 0)), (1, .int x), (2, .int y), (3, .ref (ad 30))]) hx hb d_Law_take_13 hl (by decide) rfl (fun ls hl => ?_)
      refine lv_iconst (v := nI 1) hx hb d_Law_take_15 (by decide) ?_
      exact k_retL (u := (σ, oo)) hx hb hr hlocks d_Law_take_16 hP1 hD hS1 (by decide) (by decide) (by show Except.ok (some (Value.int (nI (kCo eIA [eIA, eNS, eUO, eIS] 1))), (σ, oo)) = _; rw [show kCo eIA [eIA, eNS, eUO, eIS] 1 = 1 by decide])
    · refine k_catch hWs hthr (h := 17) (by rw [htab]; exact (kH_miss hown (hts _ tw_132) (KC.at hE.1 (E := eNS) (F := eIA) (by decide) (by decide) (by decide)) (by decide) (by decide) (kH_hit hown (hts _ tw_315) (hts _ tw_327) (by decide) (by decide)))) ?_
      refine lv_astore (lv' := [(4, .ref q), (0, .ref (ad 0)), (1, .int x), (2, .int y), (3, .ref (ad 30))]) hx hb d_Law_take_17 hl (by decide) rfl (fun ls hl => ?_)
      refine lv_iconst (v := nI 2) hx hb d_Law_take_19 (by decide) ?_
      exact k_retL (u := (σ, oo)) hx hb hr hlocks d_Law_take_20 hP1 hD hS1 (by decide) (by decide) (by show Except.ok (some (Value.int (nI (kCo eNS [eIA, eNS, eUO, eIS] 1))), (σ, oo)) = _; rw [show kCo eNS [eIA, eNS, eUO, eIS] 1 = 2 by decide])
    · refine k_catch hWs hthr (h := 21) (by rw [htab]; exact (kH_miss hown (hts _ tw_132) (KC.at hE.1 (E := eUO) (F := eIA) (by decide) (by decide) (by decide)) (by decide) (by decide) (kH_miss hown (hts _ tw_315) (KC.at hE.1 (E := eUO) (F := eNS) (by decide) (by decide) (by decide)) (by decide) (by decide) (kH_hit hown (hts _ tw_248) (hts _ tw_285) (by decide) (by decide))))) ?_
      refine lv_astore (lv' := [(4, .ref q), (0, .ref (ad 0)), (1, .int x), (2, .int y), (3, .ref (ad 30))]) hx hb d_Law_take_21 hl (by decide) rfl (fun ls hl => ?_)
      refine lv_iconst (v := nI 3) hx hb d_Law_take_23 (by decide) ?_
      exact k_retL (u := (σ, oo)) hx hb hr hlocks d_Law_take_24 hP1 hD hS1 (by decide) (by decide) (by show Except.ok (some (Value.int (nI (kCo eUO [eIA, eNS, eUO, eIS] 1))), (σ, oo)) = _; rw [show kCo eUO [eIA, eNS, eUO, eIS] 1 = 3 by decide])
    · refine k_catch hWs hthr (h := 25) (by rw [htab]; exact (kH_miss hown (hts _ tw_132) (KC.at hE.1 (E := eIS) (F := eIA) (by decide) (by decide) (by decide)) (by decide) (by decide) (kH_miss hown (hts _ tw_315) (KC.at hE.1 (E := eIS) (F := eNS) (by decide) (by decide) (by decide)) (by decide) (by decide) (kH_miss hown (hts _ tw_248) (KC.at hE.1 (E := eIS) (F := eUO) (by decide) (by decide) (by decide)) (by decide) (by decide) (kH_hit hown (hts _ tw_133) (hts _ tw_222) (by decide) (by decide)))))) ?_
      refine lv_astore (lv' := [(4, .ref q), (0, .ref (ad 0)), (1, .int x), (2, .int y), (3, .ref (ad 30))]) hx hb d_Law_take_25 hl (by decide) rfl (fun ls hl => ?_)
      refine lv_iconst (v := nI 4) hx hb d_Law_take_27 (by decide) ?_
      exact k_retL (u := (σ, oo)) hx hb hr hlocks d_Law_take_28 hP1 hD hS1 (by decide) (by decide) (by show Except.ok (some (Value.int (nI (kCo eIS [eIA, eNS, eUO, eIS] 1))), (σ, oo)) = _; rw [show kCo eIS [eIA, eNS, eUO, eIS] 1 = 4 by decide])
  · obtain ⟨v, rfl⟩ := kAg_v hag hsp
    refine k_callW (k_atV (As := [.int x, .int y]) hx hb hown hE.1 (K0.w tw_567) (hts _ tw_564) (hts _ tw_565) (hts _ tw_566) (hts _ tw_1) (by decide) np_FK_take (va_recv hK hP (ci := nFK) (q0 := 0) rfl rfl) rfl d_Law_take_5) (kq_o hsp (c_FK_take K0 ad (wR ad cI τ ++ wO ad cL oo) σ x y ok)) (hl.1.trans hml.symm) (Nat.le_of_ble_eq_true rfl) ⟨Nat.le_of_ble_eq_true rfl, Nat.le_of_ble_eq_true rfl, Nat.le_of_ble_eq_true rfl, Nat.le_of_ble_eq_true rfl⟩ (fun U hU hW => ⟨hE.go hW hU hS, by rw [hU]; exact hP, hD⟩) hS (fun H locs hP hD hS => ?_)
    refine lv_i2l hx hb d_Law_take_8 rfl ?_
    refine va_last hx hb hK hP hD hS 30 1 rfl rfl (vp_in_nI (by decide) (by decide)) d_Law_take_9 (fun H locs hP hD hS => ?_)
    obtain ⟨hP, hD⟩ := wL_out (ad := ad) (τ := τ) (u := u) (oo := oo) hP hD
    refine lv_goto (tgt := 29) hx hb d_Law_take_10 (by decide) ?_
    refine lv_iconst (v := nI 0) hx hb d_Law_take_29 (by decide) ?_
    exact k_retL (u := (u, v.toInt64)) hx hb hr hlocks d_Law_take_30 hP hD hS (by decide) (by decide) rfl
set_option maxHeartbeats 4000000 in
set_option maxRecDepth 100000 in
theorem c_Law_read {l : Launch} {s0 : State} {a0 : Array Value} {D : va_G} {cI cL : ClassId} (K0 : k0 l s0 a0 D cI cL) (KC : kNC s0) (ad : Nat → Nat) (τ σ : kS) (oo : Int64) (x : Int32) (ok : kOk σ) {zz : Option Value × kS} (hag : kAg [eIA, eNS, eUO] σ (sp_read σ x) zz) : kMet l y_Law_read (Cond.codeWith y_Law_read b_Law_read 4 (some .int) [(0, 9, 12, 13), (0, 9, 15, 30), (0, 9, 18, 21)]) (rmL 10) [.ref (ad 0), .int x, .ref (ad 30)] (kPre D vwCl s0 (wL ad cI cL τ) (σ, oo)) (.ok (lwr [eIA, eNS, eUO] (sp_read σ x) σ oo)) (kBl D vwCl s0 (wL ad cI cL τ)) := by
  refine k_ofH (by decide) (Nat.le_of_ble_eq_true rfl) ?_
  intro p e9 s m below meth c hx hb hr hlocks hown hml htab hpre ls hl
  obtain ⟨hE, hP, hD⟩ := hpre
  obtain ⟨hts, hK⟩ := K0.at (args := ([.ref (ad 0), .int x, .ref (ad 30)] : List Value).toArray) hE
  have hl : lv_has ls 4 [(0, .ref (ad 0)), (1, .int x), (2, .ref (ad 30))] := hl
  have hS : va_S (kA s0) s.heap s.heap [] := va_S.rf
  refine lv_aload_n hx hb d_Law_read_0 rfl (lv_at hl 2 rfl) ?_
  refine lv_iconst (v := nI 0) hx hb d_Law_read_1 (by decide) ?_
  refine lv_aload_n hx hb d_Law_read_2 rfl (lv_at hl 0 rfl) ?_
  refine lv_iload_n hx hb d_Law_read_3 rfl (lv_at hl 1 rfl) ?_
  have hP : va_P D vwCl (wC ad cI (wR ad cI τ ++ wO ad cL oo) σ) s.heap := hP
  have hD : va_D (kA s0) (wC ad cI (wR ad cI τ ++ wO ad cL oo) σ) := hD
  rcases hsp : sp_read σ x with E | ⟨v, u⟩
  · refine k_call (k_atV (As := [.int x]) hx hb hown hE.1 (K0.w tw_580) (hts _ tw_577) (hts _ tw_578) (hts _ tw_579) (hts _ tw_1) (by decide) np_FK_read (va_recv hK hP (ci := nFK) (q0 := 0) rfl rfl) rfl d_Law_read_4) (kq_e hsp (c_FK_read K0 ad (wR ad cI τ ++ wO ad cL oo) σ x ok)) (hl.1.trans hml.symm) (Nat.le_of_ble_eq_true rfl) (Nat.le_of_ble_eq_true rfl) (Nat.le_of_ble_eq_true rfl) (Nat.le_of_ble_eq_true rfl) (Nat.le_of_ble_eq_true rfl) (fun U hU hW => ⟨hE.go hW hU hS, by rw [hU]; exact hP, hD⟩) (fun E9 hE9 st q t e1 hWs hthr => ?_) (fun v u h => by cases h)
    cases hE9
    have hmem := kAg_c hag hsp
    have hP1 := kThr_P hthr e1 hP
    have hS1 : va_S (kA s0) s.heap t.heap [] := kThr_S hthr e1
    rcases (show E = eIA ∨ E = eNS ∨ E = eUO by simpa using hmem) with rfl | rfl | rfl
    · refine k_catch hWs hthr (h := 12) (by rw [htab]; exact (kH_hit hown (hts _ tw_132) (hts _ tw_146) (by decide) (by decide))) ?_
      refine lv_astore_n (lv' := [(3, .ref q), (0, .ref (ad 0)), (1, .int x), (2, .ref (ad 30))]) hx hb d_Law_read_12 rfl hl (by decide) rfl (fun ls hl => ?_)
      refine lv_iconst (v := nI 1) hx hb d_Law_read_13 (by decide) ?_
      exact k_retL (u := (σ, oo)) hx hb hr hlocks d_Law_read_14 hP1 hD hS1 (by decide) (by decide) (by show Except.ok (some (Value.int (nI (kCo eIA [eIA, eNS, eUO] 1))), (σ, oo)) = _; rw [show kCo eIA [eIA, eNS, eUO] 1 = 1 by decide])
    · refine k_catch hWs hthr (h := 15) (by rw [htab]; exact (kH_miss hown (hts _ tw_132) (KC.at hE.1 (E := eNS) (F := eIA) (by decide) (by decide) (by decide)) (by decide) (by decide) (kH_hit hown (hts _ tw_315) (hts _ tw_327) (by decide) (by decide)))) ?_
      refine lv_astore_n (lv' := [(3, .ref q), (0, .ref (ad 0)), (1, .int x), (2, .ref (ad 30))]) hx hb d_Law_read_15 rfl hl (by decide) rfl (fun ls hl => ?_)
      refine lv_iconst (v := nI 2) hx hb d_Law_read_16 (by decide) ?_
      exact k_retL (u := (σ, oo)) hx hb hr hlocks d_Law_read_17 hP1 hD hS1 (by decide) (by decide) (by show Except.ok (some (Value.int (nI (kCo eNS [eIA, eNS, eUO] 1))), (σ, oo)) = _; rw [show kCo eNS [eIA, eNS, eUO] 1 = 2 by decide])
    · refine k_catch hWs hthr (h := 18) (by rw [htab]; exact (kH_miss hown (hts _ tw_132) (KC.at hE.1 (E := eUO) (F := eIA) (by decide) (by decide) (by decide)) (by decide) (by decide) (kH_miss hown (hts _ tw_315) (KC.at hE.1 (E := eUO) (F := eNS) (by decide) (by decide) (by decide)) (by decide) (by decide) (kH_hit hown (hts _ tw_248) (hts _ tw_285) (by decide) (by decide))))) ?_
      refine lv_astore_n (lv' := [(3, .ref q), (0, .ref (ad 0)), (1, .int x), (2, .ref (ad 30))]) hx hb d_Law_read_18 rfl hl (by decide) rfl (fun ls hl => ?_)
      refine lv_iconst (v := nI 3) hx hb d_Law_read_19 (by decide) ?_
      exact k_retL (u := (σ, oo)) hx hb hr hlocks d_Law_read_20 hP1 hD hS1 (by decide) (by decide) (by show Except.ok (some (Value.int (nI (kCo eUO [eIA, eNS, eUO] 1))), (σ, oo)) = _; rw [show kCo eUO [eIA, eNS, eUO] 1 = 3 by decide])
  · obtain ⟨v, rfl⟩ := kAg_v hag hsp
    refine k_callW (k_atV (As := [.int x]) hx hb hown hE.1 (K0.w tw_580) (hts _ tw_577) (hts _ tw_578) (hts _ tw_579) (hts _ tw_1) (by decide) np_FK_read (va_recv hK hP (ci := nFK) (q0 := 0) rfl rfl) rfl d_Law_read_4) (kq_o hsp (c_FK_read K0 ad (wR ad cI τ ++ wO ad cL oo) σ x ok)) (hl.1.trans hml.symm) (Nat.le_of_ble_eq_true rfl) ⟨Nat.le_of_ble_eq_true rfl, Nat.le_of_ble_eq_true rfl, Nat.le_of_ble_eq_true rfl, Nat.le_of_ble_eq_true rfl⟩ (fun U hU hW => ⟨hE.go hW hU hS, by rw [hU]; exact hP, hD⟩) hS (fun H locs hP hD hS => ?_)
    refine lv_i2l hx hb d_Law_read_7 rfl ?_
    refine va_last hx hb hK hP hD hS 30 1 rfl rfl (vp_in_nI (by decide) (by decide)) d_Law_read_8 (fun H locs hP hD hS => ?_)
    obtain ⟨hP, hD⟩ := wL_out (ad := ad) (τ := τ) (u := u) (oo := oo) hP hD
    refine lv_goto (tgt := 21) hx hb d_Law_read_9 (by decide) ?_
    refine lv_iconst (v := nI 0) hx hb d_Law_read_21 (by decide) ?_
    exact k_retL (u := (u, v.toInt64)) hx hb hr hlocks d_Law_read_22 hP hD hS (by decide) (by decide) rfl
set_option maxHeartbeats 4000000 in
set_option maxRecDepth 100000 in
theorem c_Law_write {l : Launch} {s0 : State} {a0 : Array Value} {D : va_G} {cI cL : ClassId} (K0 : k0 l s0 a0 D cI cL) (KC : kNC s0) (ad : Nat → Nat) (τ σ : kS) (oo : Int64) (x y : Int32) (ok : kOk σ) {zz : Option Value × kS} (hag : kAg [eIA, eNS, eUO] σ (sp_write σ x y) zz) : kMet l y_Law_write (Cond.codeWith y_Law_write b_Law_write 5 (some .int) [(0, 10, 13, 13), (0, 10, 17, 30), (0, 10, 21, 21)]) (rmL 10) [.ref (ad 0), .int x, .int y, .ref (ad 30)] (kPre D vwCl s0 (wL ad cI cL τ) (σ, oo)) (.ok (lwr [eIA, eNS, eUO] (sp_write σ x y) σ oo)) (kBl D vwCl s0 (wL ad cI cL τ)) := by
  refine k_ofH (by decide) (Nat.le_of_ble_eq_true rfl) ?_
  intro p e9 s m below meth c hx hb hr hlocks hown hml htab hpre ls hl
  obtain ⟨hE, hP, hD⟩ := hpre
  obtain ⟨hts, hK⟩ := K0.at (args := ([.ref (ad 0), .int x, .int y, .ref (ad 30)] : List Value).toArray) hE
  have hl : lv_has ls 5 [(0, .ref (ad 0)), (1, .int x), (2, .int y), (3, .ref (ad 30))] := hl
  have hS : va_S (kA s0) s.heap s.heap [] := va_S.rf
  refine lv_aload_n hx hb d_Law_write_0 rfl (lv_at hl 3 rfl) ?_
  refine lv_iconst (v := nI 0) hx hb d_Law_write_1 (by decide) ?_
  refine lv_aload_n hx hb d_Law_write_2 rfl (lv_at hl 0 rfl) ?_
  refine lv_iload_n hx hb d_Law_write_3 rfl (lv_at hl 1 rfl) ?_
  refine lv_iload_n hx hb d_Law_write_4 rfl (lv_at hl 2 rfl) ?_
  have hP : va_P D vwCl (wC ad cI (wR ad cI τ ++ wO ad cL oo) σ) s.heap := hP
  have hD : va_D (kA s0) (wC ad cI (wR ad cI τ ++ wO ad cL oo) σ) := hD
  rcases hsp : sp_write σ x y with E | ⟨v, u⟩
  · refine k_call (k_atV (As := [.int x, .int y]) hx hb hown hE.1 (K0.w tw_587) (hts _ tw_584) (hts _ tw_585) (hts _ tw_586) (hts _ tw_1) (by decide) np_FK_write (va_recv hK hP (ci := nFK) (q0 := 0) rfl rfl) rfl d_Law_write_5) (kq_e hsp (c_FK_write K0 ad (wR ad cI τ ++ wO ad cL oo) σ x y ok)) (hl.1.trans hml.symm) (Nat.le_of_ble_eq_true rfl) (Nat.le_of_ble_eq_true rfl) (Nat.le_of_ble_eq_true rfl) (Nat.le_of_ble_eq_true rfl) (Nat.le_of_ble_eq_true rfl) (fun U hU hW => ⟨hE.go hW hU hS, by rw [hU]; exact hP, hD⟩) (fun E9 hE9 st q t e1 hWs hthr => ?_) (fun v u h => by cases h)
    cases hE9
    have hmem := kAg_c hag hsp
    have hP1 := kThr_P hthr e1 hP
    have hS1 : va_S (kA s0) s.heap t.heap [] := kThr_S hthr e1
    rcases (show E = eIA ∨ E = eNS ∨ E = eUO by simpa using hmem) with rfl | rfl | rfl
    · refine k_catch hWs hthr (h := 13) (by rw [htab]; exact (kH_hit hown (hts _ tw_132) (hts _ tw_146) (by decide) (by decide))) ?_
      refine lv_astore (lv' := [(4, .ref q), (0, .ref (ad 0)), (1, .int x), (2, .int y), (3, .ref (ad 30))]) hx hb d_Law_write_13 hl (by decide) rfl (fun ls hl => ?_)
      refine lv_iconst (v := nI 1) hx hb d_Law_write_15 (by decide) ?_
      exact k_retL (u := (σ, oo)) hx hb hr hlocks d_Law_write_16 hP1 hD hS1 (by decide) (by decide) (by show Except.ok (some (Value.int (nI (kCo eIA [eIA, eNS, eUO] 1))), (σ, oo)) = _; rw [show kCo eIA [eIA, eNS, eUO] 1 = 1 by decide])
    · refine k_catch hWs hthr (h := 17) (by rw [htab]; exact (kH_miss hown (hts _ tw_132) (KC.at hE.1 (E := eNS) (F := eIA) (by decide) (by decide) (by decide)) (by decide) (by decide) (kH_hit hown (hts _ tw_315) (hts _ tw_327) (by decide) (by decide)))) ?_
      refine lv_astore (lv' := [(4, .ref q), (0, .ref (ad 0)), (1, .int x), (2, .int y), (3, .ref (ad 30))]) hx hb d_Law_write_17 hl (by decide) rfl (fun ls hl => ?_)
      refine lv_iconst (v := nI 2) hx hb d_Law_write_19 (by decide) ?_
      exact k_retL (u := (σ, oo)) hx hb hr hlocks d_Law_write_20 hP1 hD hS1 (by decide) (by decide) (by show Except.ok (some (Value.int (nI (kCo eNS [eIA, eNS, eUO] 1))), (σ, oo)) = _; rw [show kCo eNS [eIA, eNS, eUO] 1 = 2 by decide])
    · refine k_catch hWs hthr (h := 21) (by rw [htab]; exact (kH_miss hown (hts _ tw_132) (KC.at hE.1 (E := eUO) (F := eIA) (by decide) (by decide) (by decide)) (by decide) (by decide) (kH_miss hown (hts _ tw_315) (KC.at hE.1 (E := eUO) (F := eNS) (by decide) (by decide) (by decide)) (by decide) (by decide) (kH_hit hown (hts _ tw_248) (hts _ tw_285) (by decide) (by decide))))) ?_
      refine lv_astore (lv' := [(4, .ref q), (0, .ref (ad 0)), (1, .int x), (2, .int y), (3, .ref (ad 30))]) hx hb d_Law_write_21 hl (by decide) rfl (fun ls hl => ?_)
      refine lv_iconst (v := nI 3) hx hb d_Law_write_23 (by decide) ?_
      exact k_retL (u := (σ, oo)) hx hb hr hlocks d_Law_write_24 hP1 hD hS1 (by decide) (by decide) (by show Except.ok (some (Value.int (nI (kCo eUO [eIA, eNS, eUO] 1))), (σ, oo)) = _; rw [show kCo eUO [eIA, eNS, eUO] 1 = 3 by decide])
  · obtain ⟨v, rfl⟩ := kAg_v hag hsp
    refine k_callW (k_atV (As := [.int x, .int y]) hx hb hown hE.1 (K0.w tw_587) (hts _ tw_584) (hts _ tw_585) (hts _ tw_586) (hts _ tw_1) (by decide) np_FK_write (va_recv hK hP (ci := nFK) (q0 := 0) rfl rfl) rfl d_Law_write_5) (kq_o hsp (c_FK_write K0 ad (wR ad cI τ ++ wO ad cL oo) σ x y ok)) (hl.1.trans hml.symm) (Nat.le_of_ble_eq_true rfl) ⟨Nat.le_of_ble_eq_true rfl, Nat.le_of_ble_eq_true rfl, Nat.le_of_ble_eq_true rfl, Nat.le_of_ble_eq_true rfl⟩ (fun U hU hW => ⟨hE.go hW hU hS, by rw [hU]; exact hP, hD⟩) hS (fun H locs hP hD hS => ?_)
    refine lv_i2l hx hb d_Law_write_8 rfl ?_
    refine va_last hx hb hK hP hD hS 30 1 rfl rfl (vp_in_nI (by decide) (by decide)) d_Law_write_9 (fun H locs hP hD hS => ?_)
    obtain ⟨hP, hD⟩ := wL_out (ad := ad) (τ := τ) (u := u) (oo := oo) hP hD
    refine lv_goto (tgt := 25) hx hb d_Law_write_10 (by decide) ?_
    refine lv_iconst (v := nI 0) hx hb d_Law_write_25 (by decide) ?_
    exact k_retL (u := (u, v.toInt64)) hx hb hr hlocks d_Law_write_26 hP hD hS (by decide) (by decide) rfl
set_option maxHeartbeats 4000000 in
set_option maxRecDepth 100000 in
theorem c_Law_expect {l : Launch} {s0 : State} {a0 : Array Value} {D : va_G} {cI cL : ClassId} (K0 : k0 l s0 a0 D cI cL) (KC : kNC s0) (ad : Nat → Nat) (τ σ : kS) (oo : Int64) (x y : Int32) (ok : kOk σ) {zz : Option Value × kS} (hag : kAg [eIA, eIS, eNS, eUO] σ (sp_expect σ x y) zz) : kMet l y_Law_expect (Cond.codeWith y_Law_expect b_Law_expect 5 (some .int) [(0, 10, 13, 13), (0, 10, 17, 15), (0, 10, 21, 30), (0, 10, 25, 21)]) (rmL 10) [.ref (ad 0), .int x, .int y, .ref (ad 30)] (kPre D vwCl s0 (wL ad cI cL τ) (σ, oo)) (.ok (lwr [eIA, eIS, eNS, eUO] (sp_expect σ x y) σ oo)) (kBl D vwCl s0 (wL ad cI cL τ)) := by
  refine k_ofH (by decide) (Nat.le_of_ble_eq_true rfl) ?_
  intro p e9 s m below meth c hx hb hr hlocks hown hml htab hpre ls hl
  obtain ⟨hE, hP, hD⟩ := hpre
  obtain ⟨hts, hK⟩ := K0.at (args := ([.ref (ad 0), .int x, .int y, .ref (ad 30)] : List Value).toArray) hE
  have hl : lv_has ls 5 [(0, .ref (ad 0)), (1, .int x), (2, .int y), (3, .ref (ad 30))] := hl
  have hS : va_S (kA s0) s.heap s.heap [] := va_S.rf
  refine lv_aload_n hx hb d_Law_expect_0 rfl (lv_at hl 3 rfl) ?_
  refine lv_iconst (v := nI 0) hx hb d_Law_expect_1 (by decide) ?_
  refine lv_aload_n hx hb d_Law_expect_2 rfl (lv_at hl 0 rfl) ?_
  refine lv_iload_n hx hb d_Law_expect_3 rfl (lv_at hl 1 rfl) ?_
  refine lv_iload_n hx hb d_Law_expect_4 rfl (lv_at hl 2 rfl) ?_
  have hP : va_P D vwCl (wC ad cI (wR ad cI τ ++ wO ad cL oo) σ) s.heap := hP
  have hD : va_D (kA s0) (wC ad cI (wR ad cI τ ++ wO ad cL oo) σ) := hD
  rcases hsp : sp_expect σ x y with E | ⟨v, u⟩
  · refine k_call (k_atV (As := [.int x, .int y]) hx hb hown hE.1 (K0.w tw_594) (hts _ tw_591) (hts _ tw_592) (hts _ tw_593) (hts _ tw_1) (by decide) np_FK_expect (va_recv hK hP (ci := nFK) (q0 := 0) rfl rfl) rfl d_Law_expect_5) (kq_e hsp (c_FK_expect K0 ad (wR ad cI τ ++ wO ad cL oo) σ x y ok)) (hl.1.trans hml.symm) (Nat.le_of_ble_eq_true rfl) (Nat.le_of_ble_eq_true rfl) (Nat.le_of_ble_eq_true rfl) (Nat.le_of_ble_eq_true rfl) (Nat.le_of_ble_eq_true rfl) (fun U hU hW => ⟨hE.go hW hU hS, by rw [hU]; exact hP, hD⟩) (fun E9 hE9 st q t e1 hWs hthr => ?_) (fun v u h => by cases h)
    cases hE9
    have hmem := kAg_c hag hsp
    have hP1 := kThr_P hthr e1 hP
    have hS1 : va_S (kA s0) s.heap t.heap [] := kThr_S hthr e1
    rcases (show E = eIA ∨ E = eIS ∨ E = eNS ∨ E = eUO by simpa using hmem) with rfl | rfl | rfl | rfl
    · refine k_catch hWs hthr (h := 13) (by rw [htab]; exact (kH_hit hown (hts _ tw_132) (hts _ tw_146) (by decide) (by decide))) ?_
      refine lv_astore (lv' := [(4, .ref q), (0, .ref (ad 0)), (1, .int x), (2, .int y), (3, .ref (ad 30))]) hx hb d_Law_expect_13 hl (by decide) rfl (fun ls hl => ?_)
      refine lv_iconst (v := nI 1) hx hb d_Law_expect_15 (by decide) ?_
      exact k_retL (u := (σ, oo)) hx hb hr hlocks d_Law_expect_16 hP1 hD hS1 (by decide) (by decide) (by show Except.ok (some (Value.int (nI (kCo eIA [eIA, eIS, eNS, eUO] 1))), (σ, oo)) = _; rw [show kCo eIA [eIA, eIS, eNS, eUO] 1 = 1 by decide])
    · refine k_catch hWs hthr (h := 17) (by rw [htab]; exact (kH_miss hown (hts _ tw_132) (KC.at hE.1 (E := eIS) (F := eIA) (by decide) (by decide) (by decide)) (by decide) (by decide) (kH_hit hown (hts _ tw_133) (hts _ tw_222) (by decide) (by decide)))) ?_
      refine lv_astore (lv' := [(4, .ref q), (0, .ref (ad 0)), (1, .int x), (2, .int y), (3, .ref (ad 30))]) hx hb d_Law_expect_17 hl (by decide) rfl (fun ls hl => ?_)
      refine lv_iconst (v := nI 2) hx hb d_Law_expect_19 (by decide) ?_
      exact k_retL (u := (σ, oo)) hx hb hr hlocks d_Law_expect_20 hP1 hD hS1 (by decide) (by decide) (by show Except.ok (some (Value.int (nI (kCo eIS [eIA, eIS, eNS, eUO] 1))), (σ, oo)) = _; rw [show kCo eIS [eIA, eIS, eNS, eUO] 1 = 2 by decide])
    · refine k_catch hWs hthr (h := 21) (by rw [htab]; exact (kH_miss hown (hts _ tw_132) (KC.at hE.1 (E := eNS) (F := eIA) (by decide) (by decide) (by decide)) (by decide) (by decide) (kH_miss hown (hts _ tw_133) (KC.at hE.1 (E := eNS) (F := eIS) (by decide) (by decide) (by decide)) (by decide) (by decide) (kH_hit hown (hts _ tw_315) (hts _ tw_327) (by decide) (by decide))))) ?_
      refine lv_astore (lv' := [(4, .ref q), (0, .ref (ad 0)), (1, .int x), (2, .int y), (3, .ref (ad 30))]) hx hb d_Law_expect_21 hl (by decide) rfl (fun ls hl => ?_)
      refine lv_iconst (v := nI 3) hx hb d_Law_expect_23 (by decide) ?_
      exact k_retL (u := (σ, oo)) hx hb hr hlocks d_Law_expect_24 hP1 hD hS1 (by decide) (by decide) (by show Except.ok (some (Value.int (nI (kCo eNS [eIA, eIS, eNS, eUO] 1))), (σ, oo)) = _; rw [show kCo eNS [eIA, eIS, eNS, eUO] 1 = 3 by decide])
    · refine k_catch hWs hthr (h := 25) (by rw [htab]; exact (kH_miss hown (hts _ tw_132) (KC.at hE.1 (E := eUO) (F := eIA) (by decide) (by decide) (by decide)) (by decide) (by decide) (kH_miss hown (hts _ tw_133) (KC.at hE.1 (E := eUO) (F := eIS) (by decide) (by decide) (by decide)) (by decide) (by decide) (kH_miss hown (hts _ tw_315) (KC.at hE.1 (E := eUO) (F := eNS) (by decide) (by decide) (by decide)) (by decide) (by decide) (kH_hit hown (hts _ tw_248) (hts _ tw_285) (by decide) (by decide)))))) ?_
      refine lv_astore (lv' := [(4, .ref q), (0, .ref (ad 0)), (1, .int x), (2, .int y), (3, .ref (ad 30))]) hx hb d_Law_expect_25 hl (by decide) rfl (fun ls hl => ?_)
      refine lv_iconst (v := nI 4) hx hb d_Law_expect_27 (by decide) ?_
      exact k_retL (u := (σ, oo)) hx hb hr hlocks d_Law_expect_28 hP1 hD hS1 (by decide) (by decide) (by show Except.ok (some (Value.int (nI (kCo eUO [eIA, eIS, eNS, eUO] 1))), (σ, oo)) = _; rw [show kCo eUO [eIA, eIS, eNS, eUO] 1 = 4 by decide])
  · obtain ⟨v, rfl⟩ := kAg_v hag hsp
    refine k_callW (k_atV (As := [.int x, .int y]) hx hb hown hE.1 (K0.w tw_594) (hts _ tw_591) (hts _ tw_592) (hts _ tw_593) (hts _ tw_1) (by decide) np_FK_expect (va_recv hK hP (ci := nFK) (q0 := 0) rfl rfl) rfl d_Law_expect_5) (kq_o hsp (c_FK_expect K0 ad (wR ad cI τ ++ wO ad cL oo) σ x y ok)) (hl.1.trans hml.symm) (Nat.le_of_ble_eq_true rfl) ⟨Nat.le_of_ble_eq_true rfl, Nat.le_of_ble_eq_true rfl, Nat.le_of_ble_eq_true rfl, Nat.le_of_ble_eq_true rfl⟩ (fun U hU hW => ⟨hE.go hW hU hS, by rw [hU]; exact hP, hD⟩) hS (fun H locs hP hD hS => ?_)
    refine lv_i2l hx hb d_Law_expect_8 rfl ?_
    refine va_last hx hb hK hP hD hS 30 1 rfl rfl (vp_in_nI (by decide) (by decide)) d_Law_expect_9 (fun H locs hP hD hS => ?_)
    obtain ⟨hP, hD⟩ := wL_out (ad := ad) (τ := τ) (u := u) (oo := oo) hP hD
    refine lv_goto (tgt := 29) hx hb d_Law_expect_10 (by decide) ?_
    refine lv_iconst (v := nI 0) hx hb d_Law_expect_29 (by decide) ?_
    exact k_retL (u := (u, v.toInt64)) hx hb hr hlocks d_Law_expect_30 hP hD hS (by decide) (by decide) rfl
set_option maxHeartbeats 4000000 in
set_option maxRecDepth 100000 in
theorem c_Law_send {l : Launch} {s0 : State} {a0 : Array Value} {D : va_G} {cI cL : ClassId} (K0 : k0 l s0 a0 D cI cL) (KC : kNC s0) (ad : Nat → Nat) (τ σ : kS) (oo : Int64) (x y : Int32) (ok : kOk σ) {zz : Option Value × kS} (hag : kAg [eIA, eIS, eNS] σ (sp_send σ x y) zz) : kMet l y_Law_send (Cond.codeWith y_Law_send b_Law_send 5 (some .int) [(0, 10, 13, 13), (0, 10, 17, 15), (0, 10, 21, 30)]) (rmL 10) [.ref (ad 0), .int x, .int y, .ref (ad 30)] (kPre D vwCl s0 (wL ad cI cL τ) (σ, oo)) (.ok (lwr [eIA, eIS, eNS] (sp_send σ x y) σ oo)) (kBl D vwCl s0 (wL ad cI cL τ)) := by
  refine k_ofH (by decide) (Nat.le_of_ble_eq_true rfl) ?_
  intro p e9 s m below meth c hx hb hr hlocks hown hml htab hpre ls hl
  obtain ⟨hE, hP, hD⟩ := hpre
  obtain ⟨hts, hK⟩ := K0.at (args := ([.ref (ad 0), .int x, .int y, .ref (ad 30)] : List Value).toArray) hE
  have hl : lv_has ls 5 [(0, .ref (ad 0)), (1, .int x), (2, .int y), (3, .ref (ad 30))] := hl
  have hS : va_S (kA s0) s.heap s.heap [] := va_S.rf
  refine lv_aload_n hx hb d_Law_send_0 rfl (lv_at hl 3 rfl) ?_
  refine lv_iconst (v := nI 0) hx hb d_Law_send_1 (by decide) ?_
  refine lv_aload_n hx hb d_Law_send_2 rfl (lv_at hl 0 rfl) ?_
  refine lv_iload_n hx hb d_Law_send_3 rfl (lv_at hl 1 rfl) ?_
  refine lv_iload_n hx hb d_Law_send_4 rfl (lv_at hl 2 rfl) ?_
  have hP : va_P D vwCl (wC ad cI (wR ad cI τ ++ wO ad cL oo) σ) s.heap := hP
  have hD : va_D (kA s0) (wC ad cI (wR ad cI τ ++ wO ad cL oo) σ) := hD
  rcases hsp : sp_send σ x y with E | ⟨v, u⟩
  · refine k_call (k_atV (As := [.int x, .int y]) hx hb hown hE.1 (K0.w tw_606) (hts _ tw_603) (hts _ tw_604) (hts _ tw_605) (hts _ tw_1) (by decide) np_FK_send (va_recv hK hP (ci := nFK) (q0 := 0) rfl rfl) rfl d_Law_send_5) (kq_e hsp (c_FK_send K0 ad (wR ad cI τ ++ wO ad cL oo) σ x y ok)) (hl.1.trans hml.symm) (Nat.le_of_ble_eq_true rfl) (Nat.le_of_ble_eq_true rfl) (Nat.le_of_ble_eq_true rfl) (Nat.le_of_ble_eq_true rfl) (Nat.le_of_ble_eq_true rfl) (fun U hU hW => ⟨hE.go hW hU hS, by rw [hU]; exact hP, hD⟩) (fun E9 hE9 st q t e1 hWs hthr => ?_) (fun v u h => by cases h)
    cases hE9
    have hmem := kAg_c hag hsp
    have hP1 := kThr_P hthr e1 hP
    have hS1 : va_S (kA s0) s.heap t.heap [] := kThr_S hthr e1
    rcases (show E = eIA ∨ E = eIS ∨ E = eNS by simpa using hmem) with rfl | rfl | rfl
    · refine k_catch hWs hthr (h := 13) (by rw [htab]; exact (kH_hit hown (hts _ tw_132) (hts _ tw_146) (by decide) (by decide))) ?_
      refine lv_astore (lv' := [(4, .ref q), (0, .ref (ad 0)), (1, .int x), (2, .int y), (3, .ref (ad 30))]) hx hb d_Law_send_13 hl (by decide) rfl (fun ls hl => ?_)
      refine lv_iconst (v := nI 1) hx hb d_Law_send_15 (by decide) ?_
      exact k_retL (u := (σ, oo)) hx hb hr hlocks d_Law_send_16 hP1 hD hS1 (by decide) (by decide) (by show Except.ok (some (Value.int (nI (kCo eIA [eIA, eIS, eNS] 1))), (σ, oo)) = _; rw [show kCo eIA [eIA, eIS, eNS] 1 = 1 by decide])
    · refine k_catch hWs hthr (h := 17) (by rw [htab]; exact (kH_miss hown (hts _ tw_132) (KC.at hE.1 (E := eIS) (F := eIA) (by decide) (by decide) (by decide)) (by decide) (by decide) (kH_hit hown (hts _ tw_133) (hts _ tw_222) (by decide) (by decide)))) ?_
      refine lv_astore (lv' := [(4, .ref q), (0, .ref (ad 0)), (1, .int x), (2, .int y), (3, .ref (ad 30))]) hx hb d_Law_send_17 hl (by decide) rfl (fun ls hl => ?_)
      refine lv_iconst (v := nI 2) hx hb d_Law_send_19 (by decide) ?_
      exact k_retL (u := (σ, oo)) hx hb hr hlocks d_Law_send_20 hP1 hD hS1 (by decide) (by decide) (by show Except.ok (some (Value.int (nI (kCo eIS [eIA, eIS, eNS] 1))), (σ, oo)) = _; rw [show kCo eIS [eIA, eIS, eNS] 1 = 2 by decide])
    · refine k_catch hWs hthr (h := 21) (by rw [htab]; exact (kH_miss hown (hts _ tw_132) (KC.at hE.1 (E := eNS) (F := eIA) (by decide) (by decide) (by decide)) (by decide) (by decide) (kH_miss hown (hts _ tw_133) (KC.at hE.1 (E := eNS) (F := eIS) (by decide) (by decide) (by decide)) (by decide) (by decide) (kH_hit hown (hts _ tw_315) (hts _ tw_327) (by decide) (by decide))))) ?_
      refine lv_astore (lv' := [(4, .ref q), (0, .ref (ad 0)), (1, .int x), (2, .int y), (3, .ref (ad 30))]) hx hb d_Law_send_21 hl (by decide) rfl (fun ls hl => ?_)
      refine lv_iconst (v := nI 3) hx hb d_Law_send_23 (by decide) ?_
      exact k_retL (u := (σ, oo)) hx hb hr hlocks d_Law_send_24 hP1 hD hS1 (by decide) (by decide) (by show Except.ok (some (Value.int (nI (kCo eNS [eIA, eIS, eNS] 1))), (σ, oo)) = _; rw [show kCo eNS [eIA, eIS, eNS] 1 = 3 by decide])
  · obtain ⟨v, rfl⟩ := kAg_v hag hsp
    refine k_callW (k_atV (As := [.int x, .int y]) hx hb hown hE.1 (K0.w tw_606) (hts _ tw_603) (hts _ tw_604) (hts _ tw_605) (hts _ tw_1) (by decide) np_FK_send (va_recv hK hP (ci := nFK) (q0 := 0) rfl rfl) rfl d_Law_send_5) (kq_o hsp (c_FK_send K0 ad (wR ad cI τ ++ wO ad cL oo) σ x y ok)) (hl.1.trans hml.symm) (Nat.le_of_ble_eq_true rfl) ⟨Nat.le_of_ble_eq_true rfl, Nat.le_of_ble_eq_true rfl, Nat.le_of_ble_eq_true rfl, Nat.le_of_ble_eq_true rfl⟩ (fun U hU hW => ⟨hE.go hW hU hS, by rw [hU]; exact hP, hD⟩) hS (fun H locs hP hD hS => ?_)
    refine lv_i2l hx hb d_Law_send_8 rfl ?_
    refine va_last hx hb hK hP hD hS 30 1 rfl rfl (vp_in_nI (by decide) (by decide)) d_Law_send_9 (fun H locs hP hD hS => ?_)
    obtain ⟨hP, hD⟩ := wL_out (ad := ad) (τ := τ) (u := u) (oo := oo) hP hD
    refine lv_goto (tgt := 25) hx hb d_Law_send_10 (by decide) ?_
    refine lv_iconst (v := nI 0) hx hb d_Law_send_25 (by decide) ?_
    exact k_retL (u := (u, v.toInt64)) hx hb hr hlocks d_Law_send_26 hP hD hS (by decide) (by decide) rfl
set_option maxHeartbeats 4000000 in
set_option maxRecDepth 100000 in
theorem c_Law_process {l : Launch} {s0 : State} {a0 : Array Value} {D : va_G} {cI cL : ClassId} (K0 : k0 l s0 a0 D cI cL) (KC : kNC s0) (ad : Nat → Nat) (τ σ : kS) (oo : Int64) (x y : Int32) (ok : kOk σ) {zz : Option Value × kS} (hag : kAg [eIA] σ (sp_process σ x y) zz) : kMet l y_Law_process (Cond.codeWith y_Law_process b_Law_process 5 (some .int) [(0, 10, 13, 13)]) (rmL 10) [.ref (ad 0), .int x, .int y, .ref (ad 30)] (kPre D vwCl s0 (wL ad cI cL τ) (σ, oo)) (.ok (lwr [eIA] (sp_process σ x y) σ oo)) (kBl D vwCl s0 (wL ad cI cL τ)) := by
  refine k_ofH (by decide) (Nat.le_of_ble_eq_true rfl) ?_
  intro p e9 s m below meth c hx hb hr hlocks hown hml htab hpre ls hl
  obtain ⟨hE, hP, hD⟩ := hpre
  obtain ⟨hts, hK⟩ := K0.at (args := ([.ref (ad 0), .int x, .int y, .ref (ad 30)] : List Value).toArray) hE
  have hl : lv_has ls 5 [(0, .ref (ad 0)), (1, .int x), (2, .int y), (3, .ref (ad 30))] := hl
  have hS : va_S (kA s0) s.heap s.heap [] := va_S.rf
  refine lv_aload_n hx hb d_Law_process_0 rfl (lv_at hl 3 rfl) ?_
  refine lv_iconst (v := nI 0) hx hb d_Law_process_1 (by decide) ?_
  refine lv_aload_n hx hb d_Law_process_2 rfl (lv_at hl 0 rfl) ?_
  refine lv_iload_n hx hb d_Law_process_3 rfl (lv_at hl 1 rfl) ?_
  refine lv_iload_n hx hb d_Law_process_4 rfl (lv_at hl 2 rfl) ?_
  have hP : va_P D vwCl (wC ad cI (wR ad cI τ ++ wO ad cL oo) σ) s.heap := hP
  have hD : va_D (kA s0) (wC ad cI (wR ad cI τ ++ wO ad cL oo) σ) := hD
  rcases hsp : sp_process σ x y with E | ⟨v, u⟩
  · refine k_call (k_atV (As := [.int x, .int y]) hx hb hown hE.1 (K0.w tw_626) (hts _ tw_623) (hts _ tw_624) (hts _ tw_625) (hts _ tw_1) (by decide) np_FK_process (va_recv hK hP (ci := nFK) (q0 := 0) rfl rfl) rfl d_Law_process_5) (kq_e hsp (c_FK_process K0 ad (wR ad cI τ ++ wO ad cL oo) σ x y ok)) (hl.1.trans hml.symm) (Nat.le_of_ble_eq_true rfl) (Nat.le_of_ble_eq_true rfl) (Nat.le_of_ble_eq_true rfl) (Nat.le_of_ble_eq_true rfl) (Nat.le_of_ble_eq_true rfl) (fun U hU hW => ⟨hE.go hW hU hS, by rw [hU]; exact hP, hD⟩) (fun E9 hE9 st q t e1 hWs hthr => ?_) (fun v u h => by cases h)
    cases hE9
    have hmem := kAg_c hag hsp
    have hP1 := kThr_P hthr e1 hP
    have hS1 : va_S (kA s0) s.heap t.heap [] := kThr_S hthr e1
    rcases (show E = eIA by simpa using hmem) with rfl
    · refine k_catch hWs hthr (h := 13) (by rw [htab]; exact (kH_hit hown (hts _ tw_132) (hts _ tw_146) (by decide) (by decide))) ?_
      refine lv_astore (lv' := [(4, .ref q), (0, .ref (ad 0)), (1, .int x), (2, .int y), (3, .ref (ad 30))]) hx hb d_Law_process_13 hl (by decide) rfl (fun ls hl => ?_)
      refine lv_iconst (v := nI 1) hx hb d_Law_process_15 (by decide) ?_
      exact k_retL (u := (σ, oo)) hx hb hr hlocks d_Law_process_16 hP1 hD hS1 (by decide) (by decide) (by show Except.ok (some (Value.int (nI (kCo eIA [eIA] 1))), (σ, oo)) = _; rw [show kCo eIA [eIA] 1 = 1 by decide])
  · obtain ⟨v, rfl⟩ := kAg_v hag hsp
    refine k_callW (k_atV (As := [.int x, .int y]) hx hb hown hE.1 (K0.w tw_626) (hts _ tw_623) (hts _ tw_624) (hts _ tw_625) (hts _ tw_1) (by decide) np_FK_process (va_recv hK hP (ci := nFK) (q0 := 0) rfl rfl) rfl d_Law_process_5) (kq_o hsp (c_FK_process K0 ad (wR ad cI τ ++ wO ad cL oo) σ x y ok)) (hl.1.trans hml.symm) (Nat.le_of_ble_eq_true rfl) ⟨Nat.le_of_ble_eq_true rfl, Nat.le_of_ble_eq_true rfl, Nat.le_of_ble_eq_true rfl, Nat.le_of_ble_eq_true rfl⟩ (fun U hU hW => ⟨hE.go hW hU hS, by rw [hU]; exact hP, hD⟩) hS (fun H locs hP hD hS => ?_)
    refine lv_i2l hx hb d_Law_process_8 rfl ?_
    refine va_last hx hb hK hP hD hS 30 1 rfl rfl (vp_in_nI (by decide) (by decide)) d_Law_process_9 (fun H locs hP hD hS => ?_)
    obtain ⟨hP, hD⟩ := wL_out (ad := ad) (τ := τ) (u := u) (oo := oo) hP hD
    refine lv_goto (tgt := 17) hx hb d_Law_process_10 (by decide) ?_
    refine lv_iconst (v := nI 0) hx hb d_Law_process_17 (by decide) ?_
    exact k_retL (u := (u, v.toInt64)) hx hb hr hlocks d_Law_process_18 hP hD hS (by decide) (by decide) rfl
set_option maxHeartbeats 4000000 in
set_option maxRecDepth 100000 in
theorem c_Law_page {l : Launch} {s0 : State} {a0 : Array Value} {D : va_G} {cI cL : ClassId} (K0 : k0 l s0 a0 D cI cL) (KC : kNC s0) (ad : Nat → Nat) (τ σ : kS) (oo : Int64) (x y : Int32) (ok : kOk σ) {zz : Option Value × kS} (hag : kAg [eIA] σ (sp_page σ x y) zz) : kMet l y_Law_page (Cond.codeWith y_Law_page b_Law_page 5 (some .int) [(0, 10, 13, 13)]) (rmL 10) [.ref (ad 0), .int x, .int y, .ref (ad 30)] (kPre D vwCl s0 (wL ad cI cL τ) (σ, oo)) (.ok (lwr [eIA] (sp_page σ x y) σ oo)) (kBl D vwCl s0 (wL ad cI cL τ)) := by
  refine k_ofH (by decide) (Nat.le_of_ble_eq_true rfl) ?_
  intro p e9 s m below meth c hx hb hr hlocks hown hml htab hpre ls hl
  obtain ⟨hE, hP, hD⟩ := hpre
  obtain ⟨hts, hK⟩ := K0.at (args := ([.ref (ad 0), .int x, .int y, .ref (ad 30)] : List Value).toArray) hE
  have hl : lv_has ls 5 [(0, .ref (ad 0)), (1, .int x), (2, .int y), (3, .ref (ad 30))] := hl
  have hS : va_S (kA s0) s.heap s.heap [] := va_S.rf
  refine lv_aload_n hx hb d_Law_page_0 rfl (lv_at hl 3 rfl) ?_
  refine lv_iconst (v := nI 0) hx hb d_Law_page_1 (by decide) ?_
  refine lv_aload_n hx hb d_Law_page_2 rfl (lv_at hl 0 rfl) ?_
  refine lv_iload_n hx hb d_Law_page_3 rfl (lv_at hl 1 rfl) ?_
  refine lv_iload_n hx hb d_Law_page_4 rfl (lv_at hl 2 rfl) ?_
  have hP : va_P D vwCl (wC ad cI (wR ad cI τ ++ wO ad cL oo) σ) s.heap := hP
  have hD : va_D (kA s0) (wC ad cI (wR ad cI τ ++ wO ad cL oo) σ) := hD
  rcases hsp : sp_page σ x y with E | ⟨v, u⟩
  · refine k_call (k_atV (As := [.int x, .int y]) hx hb hown hE.1 (K0.w tw_633) (hts _ tw_630) (hts _ tw_631) (hts _ tw_632) (hts _ tw_1) (by decide) np_FK_page (va_recv hK hP (ci := nFK) (q0 := 0) rfl rfl) rfl d_Law_page_5) (kq_e hsp (c_FK_page K0 ad (wR ad cI τ ++ wO ad cL oo) σ x y ok)) (hl.1.trans hml.symm) (Nat.le_of_ble_eq_true rfl) (Nat.le_of_ble_eq_true rfl) (Nat.le_of_ble_eq_true rfl) (Nat.le_of_ble_eq_true rfl) (Nat.le_of_ble_eq_true rfl) (fun U hU hW => ⟨hE.go hW hU hS, by rw [hU]; exact hP, hD⟩) (fun E9 hE9 st q t e1 hWs hthr => ?_) (fun v u h => by cases h)
    cases hE9
    have hmem := kAg_c hag hsp
    have hP1 := kThr_P hthr e1 hP
    have hS1 : va_S (kA s0) s.heap t.heap [] := kThr_S hthr e1
    rcases (show E = eIA by simpa using hmem) with rfl
    · refine k_catch hWs hthr (h := 13) (by rw [htab]; exact (kH_hit hown (hts _ tw_132) (hts _ tw_146) (by decide) (by decide))) ?_
      refine lv_astore (lv' := [(4, .ref q), (0, .ref (ad 0)), (1, .int x), (2, .int y), (3, .ref (ad 30))]) hx hb d_Law_page_13 hl (by decide) rfl (fun ls hl => ?_)
      refine lv_iconst (v := nI 1) hx hb d_Law_page_15 (by decide) ?_
      exact k_retL (u := (σ, oo)) hx hb hr hlocks d_Law_page_16 hP1 hD hS1 (by decide) (by decide) (by show Except.ok (some (Value.int (nI (kCo eIA [eIA] 1))), (σ, oo)) = _; rw [show kCo eIA [eIA] 1 = 1 by decide])
  · obtain ⟨v, rfl⟩ := kAg_v hag hsp
    refine k_callW (k_atV (As := [.int x, .int y]) hx hb hown hE.1 (K0.w tw_633) (hts _ tw_630) (hts _ tw_631) (hts _ tw_632) (hts _ tw_1) (by decide) np_FK_page (va_recv hK hP (ci := nFK) (q0 := 0) rfl rfl) rfl d_Law_page_5) (kq_o hsp (c_FK_page K0 ad (wR ad cI τ ++ wO ad cL oo) σ x y ok)) (hl.1.trans hml.symm) (Nat.le_of_ble_eq_true rfl) ⟨Nat.le_of_ble_eq_true rfl, Nat.le_of_ble_eq_true rfl, Nat.le_of_ble_eq_true rfl, Nat.le_of_ble_eq_true rfl⟩ (fun U hU hW => ⟨hE.go hW hU hS, by rw [hU]; exact hP, hD⟩) hS (fun H locs hP hD hS => ?_)
    refine lv_i2l hx hb d_Law_page_8 rfl ?_
    refine va_last hx hb hK hP hD hS 30 1 rfl rfl (vp_in_nI (by decide) (by decide)) d_Law_page_9 (fun H locs hP hD hS => ?_)
    obtain ⟨hP, hD⟩ := wL_out (ad := ad) (τ := τ) (u := u) (oo := oo) hP hD
    refine lv_goto (tgt := 17) hx hb d_Law_page_10 (by decide) ?_
    refine lv_iconst (v := nI 0) hx hb d_Law_page_17 (by decide) ?_
    exact k_retL (u := (u, v.toInt64)) hx hb hr hlocks d_Law_page_18 hP hD hS (by decide) (by decide) rfl
set_option maxHeartbeats 4000000 in
set_option maxRecDepth 100000 in
theorem c_Law_count {l : Launch} {s0 : State} {a0 : Array Value} {D : va_G} {cI cL : ClassId} (K0 : k0 l s0 a0 D cI cL) (KC : kNC s0) (ad : Nat → Nat) (τ σ : kS) (oo : Int64) (x : Int32) (ok : kOk σ) {zz : Option Value × kS} (hag : kAg [eIA] σ (sp_count σ x) zz) : kMet l y_Law_count (Cond.codeWith y_Law_count b_Law_count 4 (some .int) [(0, 9, 12, 13)]) (rmL 10) [.ref (ad 0), .int x, .ref (ad 30)] (kPre D vwCl s0 (wL ad cI cL τ) (σ, oo)) (.ok (lwr [eIA] (sp_count σ x) σ oo)) (kBl D vwCl s0 (wL ad cI cL τ)) := by
  refine k_ofH (by decide) (Nat.le_of_ble_eq_true rfl) ?_
  intro p e9 s m below meth c hx hb hr hlocks hown hml htab hpre ls hl
  obtain ⟨hE, hP, hD⟩ := hpre
  obtain ⟨hts, hK⟩ := K0.at (args := ([.ref (ad 0), .int x, .ref (ad 30)] : List Value).toArray) hE
  have hl : lv_has ls 4 [(0, .ref (ad 0)), (1, .int x), (2, .ref (ad 30))] := hl
  have hS : va_S (kA s0) s.heap s.heap [] := va_S.rf
  refine lv_aload_n hx hb d_Law_count_0 rfl (lv_at hl 2 rfl) ?_
  refine lv_iconst (v := nI 0) hx hb d_Law_count_1 (by decide) ?_
  refine lv_aload_n hx hb d_Law_count_2 rfl (lv_at hl 0 rfl) ?_
  refine lv_iload_n hx hb d_Law_count_3 rfl (lv_at hl 1 rfl) ?_
  have hP : va_P D vwCl (wC ad cI (wR ad cI τ ++ wO ad cL oo) σ) s.heap := hP
  have hD : va_D (kA s0) (wC ad cI (wR ad cI τ ++ wO ad cL oo) σ) := hD
  rcases hsp : sp_count σ x with E | ⟨v, u⟩
  · refine k_call (k_atV (As := [.int x]) hx hb hown hE.1 (K0.w tw_640) (hts _ tw_637) (hts _ tw_638) (hts _ tw_639) (hts _ tw_1) (by decide) np_FK_count (va_recv hK hP (ci := nFK) (q0 := 0) rfl rfl) rfl d_Law_count_4) (kq_e hsp (c_FK_count K0 ad (wR ad cI τ ++ wO ad cL oo) σ x ok)) (hl.1.trans hml.symm) (Nat.le_of_ble_eq_true rfl) (Nat.le_of_ble_eq_true rfl) (Nat.le_of_ble_eq_true rfl) (Nat.le_of_ble_eq_true rfl) (Nat.le_of_ble_eq_true rfl) (fun U hU hW => ⟨hE.go hW hU hS, by rw [hU]; exact hP, hD⟩) (fun E9 hE9 st q t e1 hWs hthr => ?_) (fun v u h => by cases h)
    cases hE9
    have hmem := kAg_c hag hsp
    have hP1 := kThr_P hthr e1 hP
    have hS1 : va_S (kA s0) s.heap t.heap [] := kThr_S hthr e1
    rcases (show E = eIA by simpa using hmem) with rfl
    · refine k_catch hWs hthr (h := 12) (by rw [htab]; exact (kH_hit hown (hts _ tw_132) (hts _ tw_146) (by decide) (by decide))) ?_
      refine lv_astore_n (lv' := [(3, .ref q), (0, .ref (ad 0)), (1, .int x), (2, .ref (ad 30))]) hx hb d_Law_count_12 rfl hl (by decide) rfl (fun ls hl => ?_)
      refine lv_iconst (v := nI 1) hx hb d_Law_count_13 (by decide) ?_
      exact k_retL (u := (σ, oo)) hx hb hr hlocks d_Law_count_14 hP1 hD hS1 (by decide) (by decide) (by show Except.ok (some (Value.int (nI (kCo eIA [eIA] 1))), (σ, oo)) = _; rw [show kCo eIA [eIA] 1 = 1 by decide])
  · obtain ⟨v, rfl⟩ := kAg_v hag hsp
    refine k_callW (k_atV (As := [.int x]) hx hb hown hE.1 (K0.w tw_640) (hts _ tw_637) (hts _ tw_638) (hts _ tw_639) (hts _ tw_1) (by decide) np_FK_count (va_recv hK hP (ci := nFK) (q0 := 0) rfl rfl) rfl d_Law_count_4) (kq_o hsp (c_FK_count K0 ad (wR ad cI τ ++ wO ad cL oo) σ x ok)) (hl.1.trans hml.symm) (Nat.le_of_ble_eq_true rfl) ⟨Nat.le_of_ble_eq_true rfl, Nat.le_of_ble_eq_true rfl, Nat.le_of_ble_eq_true rfl, Nat.le_of_ble_eq_true rfl⟩ (fun U hU hW => ⟨hE.go hW hU hS, by rw [hU]; exact hP, hD⟩) hS (fun H locs hP hD hS => ?_)
    refine lv_i2l hx hb d_Law_count_7 rfl ?_
    refine va_last hx hb hK hP hD hS 30 1 rfl rfl (vp_in_nI (by decide) (by decide)) d_Law_count_8 (fun H locs hP hD hS => ?_)
    obtain ⟨hP, hD⟩ := wL_out (ad := ad) (τ := τ) (u := u) (oo := oo) hP hD
    refine lv_goto (tgt := 15) hx hb d_Law_count_9 (by decide) ?_
    refine lv_iconst (v := nI 0) hx hb d_Law_count_15 (by decide) ?_
    exact k_retL (u := (u, v.toInt64)) hx hb hr hlocks d_Law_count_16 hP hD hS (by decide) (by decide) rfl
