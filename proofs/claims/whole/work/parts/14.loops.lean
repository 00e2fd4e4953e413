/-! The loops that count. Laid by a program of mine (wip/gen). -/
set_option maxHeartbeats 4000000 in
set_option maxRecDepth 100000 in
theorem c_Mem_filledEntries {l : Launch} {s0 : State} {a0 : Array Value} {D : va_G} {cI cL : ClassId} (K0 : k0 l s0 a0 D cI cL) (ad : Nat → Nat) (r : va_W) (σ : kS) (g : Nat) (hg : g < 20) (hb2 : ∀ i, i < 80 → σ.1 2 i < 2 ^ 30) : kMet l y_Mem_filledEntries (Cond.code y_Mem_filledEntries b_Mem_filledEntries 4 (some .int)) (rmL 1) [.ref (ad 1), .int (nI g)] (kPre D vwCl s0 (wC ad cI r) σ) (.ok (some (.int (nI (filled σ g))), ())) kBr := by
  refine k_of (by decide) (Nat.le_of_ble_eq_true rfl) ?_
  intro p e9 s m below meth c hx hb hr hlocks hown hml hex hpre ls hl
  obtain ⟨hE, hP, hD⟩ := hpre
  obtain ⟨hts, hK⟩ := K0.at (args := ([.ref (ad 1), .int (nI g)] : List Value).toArray) hE
  have hl : lv_has ls 4 [(0, .ref (ad 1)), (1, .int (nI g))] := hl
  have hS : va_S (kA s0) s.heap s.heap [] := va_S.rf
  refine lv_iconst (v := (nI 0)) hx hb d_Mem_filledEntries_0 (by decide) ?_
  refine lv_istore_n (lv' := [(2, .int (nI 0)), (0, .ref (ad 1)), (1, .int (nI g))]) hx hb d_Mem_filledEntries_1 rfl hl (by decide) rfl (fun ls hl => ?_)
  refine lv_iconst (v := (nI 0)) hx hb d_Mem_filledEntries_2 (by decide) ?_
  refine lv_istore_n (lv' := [(3, .int (nI 0)), (2, .int (nI 0)), (0, .ref (ad 1)), (1, .int (nI g))]) hx hb d_Mem_filledEntries_3 rfl hl (by decide) rfl (fun ls hl => ?_)
  have L : ∀ (n i : Nat), 0 ≤ i → i + n = 4 → ∀ ls : Array Slot, lv_has ls 4 [(3, .int (nI i)), (2, .int (nI (cnt (fun e => σ.1 2 (g * 4 + e) != 0) i))), (0, .ref (ad 1)), (1, .int (nI g))] → W p l e9 (rmL 1) s m ([.ref (ad 1), .int (nI g)] : List Value).toArray below meth c s.heap [] 0 0 (kE below (.ok (some (.int (nI (filled σ g))), ())) kBr s) (F0 m 4 ls []) := by
    intro n
    induction n with
    | zero =>
      intro i hi0 hi ls hl
      obtain rfl : i = 4 := by omega
      refine lv_iload_n hx hb d_Mem_filledEntries_4 rfl (lv_at hl 0 rfl) ?_
      refine lv_iconst (v := (nI 4)) hx hb d_Mem_filledEntries_5 (by decide) ?_
      refine k_geN (tgt := 28) (by decide) (by decide) hx hb d_Mem_filledEntries_6 (by decide) (fun _ => ?_) (fun h9 => absurd h9 (by decide))
      refine lv_iload_n hx hb d_Mem_filledEntries_28 rfl (lv_at hl 1 rfl) ?_
      exact k_retI hx hb hr hlocks d_Mem_filledEntries_29 (rfl)
    | succ n ih =>
      intro i hi0 hi ls hl
      have hlt : i < 4 := by omega
      refine lv_iload_n hx hb d_Mem_filledEntries_4 rfl (lv_at hl 0 rfl) ?_
      refine lv_iconst (v := (nI 4)) hx hb d_Mem_filledEntries_5 (by decide) ?_
      refine k_geN (tgt := 28) (by omega) (by omega) hx hb d_Mem_filledEntries_6 (by decide) (fun h9 => absurd h9 (by omega)) (fun _ => ?_)
      refine lv_aload_n hx hb d_Mem_filledEntries_9 rfl (lv_at hl 2 rfl) ?_
      refine lv_iload_n hx hb d_Mem_filledEntries_10 rfl (lv_at hl 3 rfl) ?_
      refine lv_iload_n hx hb d_Mem_filledEntries_11 rfl (lv_at hl 0 rfl) ?_
      refine k_callR (k_atV (As := [.int (nI g), .int (nI i)]) hx hb hown hE.1 (K0.w tw_302) (hts _ tw_372) (hts _ tw_300) (hts _ tw_301) (hts _ tw_2) (by decide) np_Mem_pageIn (va_recv hK hP (ci := nMem) (q0 := 1) rfl rfl) rfl d_Mem_filledEntries_12) (c_Mem_pageIn K0 ad r σ g i (by omega) (by omega)) (hl.1.trans hml.symm) (Nat.le_of_ble_eq_true rfl) ⟨Nat.le_of_ble_eq_true rfl, Nat.le_of_ble_eq_true rfl, Nat.le_of_ble_eq_true rfl, Nat.le_of_ble_eq_true rfl⟩ (fun U hU hW => ⟨hE.go hW hU hS, by rw [hU]; exact hP, hD⟩) ?_
      refine lv_iconst (v := (pI 0)) hx hb d_Mem_filledEntries_15 (by decide) ?_
      refine k_eqP (tgt := 22) (hb2 _ (by omega)) (by omega) hx hb d_Mem_filledEntries_16 (by decide) (fun h1 => ?_) (fun h1 => ?_)
      · refine lv_iinc (v := (nI (i + 1))) (lv' := [(3, .int (nI (i + 1))), (2, .int (nI (cnt (fun e => σ.1 2 (g * 4 + e) != 0) i))), (0, .ref (ad 1)), (1, .int (nI g))]) hx hb d_Mem_filledEntries_22 hl (k := 0) rfl (nI_1 _) (by decide) rfl (fun ls hl => ?_)
        refine lv_goto (tgt := 4) hx hb d_Mem_filledEntries_25 (by decide) ?_
        exact ih (i + 1) (by omega) (by omega) ls (by rw [cnt_f (by first | (simp [h1]; done) | (simp [h1]; omega))]; exact lv_sub hl [0, 1, 2, 3] rfl)
      · refine lv_iinc (v := (nI ((cnt (fun e => σ.1 2 (g * 4 + e) != 0) i) + 1))) (lv' := [(2, .int (nI ((cnt (fun e => σ.1 2 (g * 4 + e) != 0) i) + 1))), (3, .int (nI i)), (0, .ref (ad 1)), (1, .int (nI g))]) hx hb d_Mem_filledEntries_19 hl (k := 1) rfl (nI_1 _) (by decide) rfl (fun ls hl => ?_)
        refine lv_iinc (v := (nI (i + 1))) (lv' := [(3, .int (nI (i + 1))), (2, .int (nI ((cnt (fun e => σ.1 2 (g * 4 + e) != 0) i) + 1))), (0, .ref (ad 1)), (1, .int (nI g))]) hx hb d_Mem_filledEntries_22 hl (k := 1) rfl (nI_1 _) (by decide) rfl (fun ls hl => ?_)
        refine lv_goto (tgt := 4) hx hb d_Mem_filledEntries_25 (by decide) ?_
        exact ih (i + 1) (by omega) (by omega) ls (by rw [cnt_t (by first | (simp [h1]; done) | (simp [h1]; omega))]; exact lv_sub hl [0, 1, 2, 3] rfl)
  exact L 4 0 (by omega) (by omega) ls (lv_sub hl [0, 1, 2, 3] rfl)
set_option maxHeartbeats 4000000 in
set_option maxRecDepth 100000 in
theorem c_Mem_pagesOf {l : Launch} {s0 : State} {a0 : Array Value} {D : va_G} {cI cL : ClassId} (K0 : k0 l s0 a0 D cI cL) (ad : Nat → Nat) (r : va_W) (σ : kS) (o : Nat) (ho : o < 2 ^ 30) (hb1 : ∀ i, i < 20 → σ.1 1 i < 2 ^ 30) : kMet l y_Mem_pagesOf (Cond.code y_Mem_pagesOf b_Mem_pagesOf 4 (some .int)) (rmL 0) [.ref (ad 1), .int (nI o)] (kPre D vwCl s0 (wC ad cI r) σ) (.ok (some (.int (nI (owned σ o))), ())) kBr := by
  refine k_of (by decide) (Nat.le_of_ble_eq_true rfl) ?_
  intro p e9 s m below meth c hx hb hr hlocks hown hml hex hpre ls hl
  obtain ⟨hE, hP, hD⟩ := hpre
  obtain ⟨hts, hK⟩ := K0.at (args := ([.ref (ad 1), .int (nI o)] : List Value).toArray) hE
  have hl : lv_has ls 4 [(0, .ref (ad 1)), (1, .int (nI o))] := hl
  have hS : va_S (kA s0) s.heap s.heap [] := va_S.rf
  refine lv_iconst (v := (nI 0)) hx hb d_Mem_pagesOf_0 (by decide) ?_
  refine lv_istore_n (lv' := [(2, .int (nI 0)), (0, .ref (ad 1)), (1, .int (nI o))]) hx hb d_Mem_pagesOf_1 rfl hl (by decide) rfl (fun ls hl => ?_)
  refine lv_iconst (v := (nI 0)) hx hb d_Mem_pagesOf_2 (by decide) ?_
  refine lv_istore_n (lv' := [(3, .int (nI 0)), (2, .int (nI 0)), (0, .ref (ad 1)), (1, .int (nI o))]) hx hb d_Mem_pagesOf_3 rfl hl (by decide) rfl (fun ls hl => ?_)
  have L : ∀ (n i : Nat), 0 ≤ i → i + n = 20 → ∀ ls : Array Slot, lv_has ls 4 [(3, .int (nI i)), (2, .int (nI (cnt (fun g => σ.1 1 g == o) i))), (0, .ref (ad 1)), (1, .int (nI o))] → W p l e9 (rmL 0) s m ([.ref (ad 1), .int (nI o)] : List Value).toArray below meth c s.heap [] 0 0 (kE below (.ok (some (.int (nI (owned σ o))), ())) kBr s) (F0 m 4 ls []) := by
    intro n
    induction n with
    | zero =>
      intro i hi0 hi ls hl
      obtain rfl : i = 20 := by omega
      refine lv_iload_n hx hb d_Mem_pagesOf_4 rfl (lv_at hl 0 rfl) ?_
      refine lv_bipush (v := (nI 20)) hx hb d_Mem_pagesOf_5 (by decide) ?_
      refine k_geN (tgt := 29) (by decide) (by decide) hx hb d_Mem_pagesOf_7 (by decide) (fun _ => ?_) (fun h9 => absurd h9 (by decide))
      refine lv_iload_n hx hb d_Mem_pagesOf_29 rfl (lv_at hl 1 rfl) ?_
      exact k_retI hx hb hr hlocks d_Mem_pagesOf_30 (rfl)
    | succ n ih =>
      intro i hi0 hi ls hl
      have hlt : i < 20 := by omega
      refine lv_iload_n hx hb d_Mem_pagesOf_4 rfl (lv_at hl 0 rfl) ?_
      refine lv_bipush (v := (nI 20)) hx hb d_Mem_pagesOf_5 (by decide) ?_
      refine k_geN (tgt := 29) (by omega) (by omega) hx hb d_Mem_pagesOf_7 (by decide) (fun h9 => absurd h9 (by omega)) (fun _ => ?_)
      refine lv_aload_n hx hb d_Mem_pagesOf_10 rfl (lv_at hl 2 rfl) ?_
      refine va_get (D := D) (ci := nMem) (v := .ref (ad 5)) (C := R_Mem) (T := T_Mem) (N := 5) hx hb hts i_Mem hown hK hP 1 rfl rfl 1 (by decide) (hts _ tw_48) (fun _ h9 => h9) rfl d_Mem_pagesOf_11 ?_
      refine lv_iload_n hx hb d_Mem_pagesOf_14 rfl (lv_at hl 0 rfl) ?_
      refine k_aldN (q0 := 5) (t0 := 0) hx hb hK hP rfl rfl (by omega) (by decide) d_Mem_pagesOf_15 ?_
      refine lv_iload_n hx hb d_Mem_pagesOf_16 rfl (lv_at hl 3 rfl) ?_
      refine k_neN (tgt := 23) (Nat.lt_of_lt_of_le (hb1 _ (by omega)) (by decide)) (by omega) hx hb d_Mem_pagesOf_17 (by decide) (fun h1 => ?_) (fun h1 => ?_)
      · refine lv_iinc (v := (nI (i + 1))) (lv' := [(3, .int (nI (i + 1))), (2, .int (nI (cnt (fun g => σ.1 1 g == o) i))), (0, .ref (ad 1)), (1, .int (nI o))]) hx hb d_Mem_pagesOf_23 hl (k := 0) rfl (nI_1 _) (by decide) rfl (fun ls hl => ?_)
        refine lv_goto (tgt := 4) hx hb d_Mem_pagesOf_26 (by decide) ?_
        exact ih (i + 1) (by omega) (by omega) ls (by rw [cnt_f (by first | (simp [h1]; done) | (simp [h1]; omega))]; exact lv_sub hl [0, 1, 2, 3] rfl)
      · refine lv_iinc (v := (nI ((cnt (fun g => σ.1 1 g == o) i) + 1))) (lv' := [(2, .int (nI ((cnt (fun g => σ.1 1 g == o) i) + 1))), (3, .int (nI i)), (0, .ref (ad 1)), (1, .int (nI o))]) hx hb d_Mem_pagesOf_20 hl (k := 1) rfl (nI_1 _) (by decide) rfl (fun ls hl => ?_)
        refine lv_iinc (v := (nI (i + 1))) (lv' := [(3, .int (nI (i + 1))), (2, .int (nI ((cnt (fun g => σ.1 1 g == o) i) + 1))), (0, .ref (ad 1)), (1, .int (nI o))]) hx hb d_Mem_pagesOf_23 hl (k := 1) rfl (nI_1 _) (by decide) rfl (fun ls hl => ?_)
        refine lv_goto (tgt := 4) hx hb d_Mem_pagesOf_26 (by decide) ?_
        exact ih (i + 1) (by omega) (by omega) ls (by rw [cnt_t (by first | (simp [h1]; done) | (simp [h1]; omega))]; exact lv_sub hl [0, 1, 2, 3] rfl)
  exact L 20 0 (by omega) (by omega) ls (lv_sub hl [0, 1, 2, 3] rfl)
set_option maxHeartbeats 4000000 in
set_option maxRecDepth 100000 in
theorem c_Pro_descriptorsInUse {l : Launch} {s0 : State} {a0 : Array Value} {D : va_G} {cI cL : ClassId} (K0 : k0 l s0 a0 D cI cL) (ad : Nat → Nat) (r : va_W) (σ : kS) (q : Nat) (hq : q < 6) (hb7 : ∀ i, i < 24 → σ.1 7 i < 2 ^ 30) : kMet l y_Pro_descriptorsInUse (Cond.code y_Pro_descriptorsInUse b_Pro_descriptorsInUse 4 (some .int)) (rmL 1) [.ref (ad 2), .int (nI q)] (kPre D vwCl s0 (wC ad cI r) σ) (.ok (some (.int (nI (inuse σ q))), ())) kBr := by
  refine k_of (by decide) (Nat.le_of_ble_eq_true rfl) ?_
  intro p e9 s m below meth c hx hb hr hlocks hown hml hex hpre ls hl
  obtain ⟨hE, hP, hD⟩ := hpre
  obtain ⟨hts, hK⟩ := K0.at (args := ([.ref (ad 2), .int (nI q)] : List Value).toArray) hE
  have hl : lv_has ls 4 [(0, .ref (ad 2)), (1, .int (nI q))] := hl
  have hS : va_S (kA s0) s.heap s.heap [] := va_S.rf
  refine lv_iconst (v := (nI 0)) hx hb d_Pro_descriptorsInUse_0 (by decide) ?_
  refine lv_istore_n (lv' := [(2, .int (nI 0)), (0, .ref (ad 2)), (1, .int (nI q))]) hx hb d_Pro_descriptorsInUse_1 rfl hl (by decide) rfl (fun ls hl => ?_)
  refine lv_iconst (v := (nI 0)) hx hb d_Pro_descriptorsInUse_2 (by decide) ?_
  refine lv_istore_n (lv' := [(3, .int (nI 0)), (2, .int (nI 0)), (0, .ref (ad 2)), (1, .int (nI q))]) hx hb d_Pro_descriptorsInUse_3 rfl hl (by decide) rfl (fun ls hl => ?_)
  have L : ∀ (n i : Nat), 0 ≤ i → i + n = 4 → ∀ ls : Array Slot, lv_has ls 4 [(3, .int (nI i)), (2, .int (nI (cnt (fun d => σ.1 7 (q * 4 + d) != 0) i))), (0, .ref (ad 2)), (1, .int (nI q))] → W p l e9 (rmL 1) s m ([.ref (ad 2), .int (nI q)] : List Value).toArray below meth c s.heap [] 0 0 (kE below (.ok (some (.int (nI (inuse σ q))), ())) kBr s) (F0 m 4 ls []) := by
    intro n
    induction n with
    | zero =>
      intro i hi0 hi ls hl
      obtain rfl : i = 4 := by omega
      refine lv_iload_n hx hb d_Pro_descriptorsInUse_4 rfl (lv_at hl 0 rfl) ?_
      refine lv_iconst (v := (nI 4)) hx hb d_Pro_descriptorsInUse_5 (by decide) ?_
      refine k_geN (tgt := 28) (by decide) (by decide) hx hb d_Pro_descriptorsInUse_6 (by decide) (fun _ => ?_) (fun h9 => absurd h9 (by decide))
      refine lv_iload_n hx hb d_Pro_descriptorsInUse_28 rfl (lv_at hl 1 rfl) ?_
      exact k_retI hx hb hr hlocks d_Pro_descriptorsInUse_29 (rfl)
    | succ n ih =>
      intro i hi0 hi ls hl
      have hlt : i < 4 := by omega
      refine lv_iload_n hx hb d_Pro_descriptorsInUse_4 rfl (lv_at hl 0 rfl) ?_
      refine lv_iconst (v := (nI 4)) hx hb d_Pro_descriptorsInUse_5 (by decide) ?_
      refine k_geN (tgt := 28) (by omega) (by omega) hx hb d_Pro_descriptorsInUse_6 (by decide) (fun h9 => absurd h9 (by omega)) (fun _ => ?_)
      refine lv_aload_n hx hb d_Pro_descriptorsInUse_9 rfl (lv_at hl 2 rfl) ?_
      refine lv_iload_n hx hb d_Pro_descriptorsInUse_10 rfl (lv_at hl 3 rfl) ?_
      refine lv_iload_n hx hb d_Pro_descriptorsInUse_11 rfl (lv_at hl 0 rfl) ?_
      refine k_callR (k_atV (As := [.int (nI q), .int (nI i)]) hx hb hown hE.1 (K0.w tw_433) (hts _ tw_430) (hts _ tw_431) (hts _ tw_432) (hts _ tw_3) (by decide) np_Pro_pipeOf (va_recv hK hP (ci := nPro) (q0 := 2) rfl rfl) rfl d_Pro_descriptorsInUse_12) (c_Pro_pipeOf K0 ad r σ q i (by omega) (by omega)) (hl.1.trans hml.symm) (Nat.le_of_ble_eq_true rfl) ⟨Nat.le_of_ble_eq_true rfl, Nat.le_of_ble_eq_true rfl, Nat.le_of_ble_eq_true rfl, Nat.le_of_ble_eq_true rfl⟩ (fun U hU hW => ⟨hE.go hW hU hS, by rw [hU]; exact hP, hD⟩) ?_
      refine lv_iconst (v := (pI 0)) hx hb d_Pro_descriptorsInUse_15 (by decide) ?_
      refine k_eqP (tgt := 22) (hb7 _ (by omega)) (by omega) hx hb d_Pro_descriptorsInUse_16 (by decide) (fun h1 => ?_) (fun h1 => ?_)
      · refine lv_iinc (v := (nI (i + 1))) (lv' := [(3, .int (nI (i + 1))), (2, .int (nI (cnt (fun d => σ.1 7 (q * 4 + d) != 0) i))), (0, .ref (ad 2)), (1, .int (nI q))]) hx hb d_Pro_descriptorsInUse_22 hl (k := 0) rfl (nI_1 _) (by decide) rfl (fun ls hl => ?_)
        refine lv_goto (tgt := 4) hx hb d_Pro_descriptorsInUse_25 (by decide) ?_
        exact ih (i + 1) (by omega) (by omega) ls (by rw [cnt_f (by first | (simp [h1]; done) | (simp [h1]; omega))]; exact lv_sub hl [0, 1, 2, 3] rfl)
      · refine lv_iinc (v := (nI ((cnt (fun d => σ.1 7 (q * 4 + d) != 0) i) + 1))) (lv' := [(2, .int (nI ((cnt (fun d => σ.1 7 (q * 4 + d) != 0) i) + 1))), (3, .int (nI i)), (0, .ref (ad 2)), (1, .int (nI q))]) hx hb d_Pro_descriptorsInUse_19 hl (k := 1) rfl (nI_1 _) (by decide) rfl (fun ls hl => ?_)
        refine lv_iinc (v := (nI (i + 1))) (lv' := [(3, .int (nI (i + 1))), (2, .int (nI ((cnt (fun d => σ.1 7 (q * 4 + d) != 0) i) + 1))), (0, .ref (ad 2)), (1, .int (nI q))]) hx hb d_Pro_descriptorsInUse_22 hl (k := 1) rfl (nI_1 _) (by decide) rfl (fun ls hl => ?_)
        refine lv_goto (tgt := 4) hx hb d_Pro_descriptorsInUse_25 (by decide) ?_
        exact ih (i + 1) (by omega) (by omega) ls (by rw [cnt_t (by first | (simp [h1]; done) | (simp [h1]; omega))]; exact lv_sub hl [0, 1, 2, 3] rfl)
  exact L 4 0 (by omega) (by omega) ls (lv_sub hl [0, 1, 2, 3] rfl)
set_option maxHeartbeats 4000000 in
set_option maxRecDepth 100000 in
theorem c_Pro_descriptorsOfPipe {l : Launch} {s0 : State} {a0 : Array Value} {D : va_G} {cI cL : ClassId} (K0 : k0 l s0 a0 D cI cL) (ad : Nat → Nat) (r : va_W) (σ : kS) (i9 : Nat) (hi9 : i9 < 2 ^ 20) (hb7 : ∀ i, i < 24 → σ.1 7 i < 2 ^ 30) : kMet l y_Pro_descriptorsOfPipe (Cond.code y_Pro_descriptorsOfPipe b_Pro_descriptorsOfPipe 4 (some .int)) (rmL 0) [.ref (ad 2), .int (nI i9)] (kPre D vwCl s0 (wC ad cI r) σ) (.ok (some (.int (nI (cof σ i9))), ())) kBr := by
  refine k_of (by decide) (Nat.le_of_ble_eq_true rfl) ?_
  intro p e9 s m below meth c hx hb hr hlocks hown hml hex hpre ls hl
  obtain ⟨hE, hP, hD⟩ := hpre
  obtain ⟨hts, hK⟩ := K0.at (args := ([.ref (ad 2), .int (nI i9)] : List Value).toArray) hE
  have hl : lv_has ls 4 [(0, .ref (ad 2)), (1, .int (nI i9))] := hl
  have hS : va_S (kA s0) s.heap s.heap [] := va_S.rf
  refine lv_iconst (v := (nI 0)) hx hb d_Pro_descriptorsOfPipe_0 (by decide) ?_
  refine lv_istore_n (lv' := [(2, .int (nI 0)), (0, .ref (ad 2)), (1, .int (nI i9))]) hx hb d_Pro_descriptorsOfPipe_1 rfl hl (by decide) rfl (fun ls hl => ?_)
  refine lv_iconst (v := (nI 0)) hx hb d_Pro_descriptorsOfPipe_2 (by decide) ?_
  refine lv_istore_n (lv' := [(3, .int (nI 0)), (2, .int (nI 0)), (0, .ref (ad 2)), (1, .int (nI i9))]) hx hb d_Pro_descriptorsOfPipe_3 rfl hl (by decide) rfl (fun ls hl => ?_)
  have L : ∀ (n i : Nat), 0 ≤ i → i + n = 24 → ∀ ls : Array Slot, lv_has ls 4 [(3, .int (nI i)), (2, .int (nI (cnt (fun k => σ.1 7 k == i9 + 1) i))), (0, .ref (ad 2)), (1, .int (nI i9))] → W p l e9 (rmL 0) s m ([.ref (ad 2), .int (nI i9)] : List Value).toArray below meth c s.heap [] 0 0 (kE below (.ok (some (.int (nI (cof σ i9))), ())) kBr s) (F0 m 4 ls []) := by
    intro n
    induction n with
    | zero =>
      intro i hi0 hi ls hl
      obtain rfl : i = 24 := by omega
      refine lv_iload_n hx hb d_Pro_descriptorsOfPipe_4 rfl (lv_at hl 0 rfl) ?_
      refine lv_aload_n hx hb d_Pro_descriptorsOfPipe_5 rfl (lv_at hl 2 rfl) ?_
      refine va_get (D := D) (ci := nPro) (v := .ref (ad 12)) (C := R_Pro) (T := T_Pro) (N := 6) hx hb hts i_Pro hown hK hP 2 rfl rfl 3 (by decide) (hts _ tw_85) (fun _ h9 => h9) rfl d_Pro_descriptorsOfPipe_6 ?_
      refine va_alen (v := nI 24) hx hb hK hP 12 0 rfl rfl rfl d_Pro_descriptorsOfPipe_9 ?_
      refine k_geN (tgt := 32) (by decide) (by decide) hx hb d_Pro_descriptorsOfPipe_10 (by decide) (fun _ => ?_) (fun h9 => absurd h9 (by decide))
      refine lv_iload_n hx hb d_Pro_descriptorsOfPipe_32 rfl (lv_at hl 1 rfl) ?_
      exact k_retI hx hb hr hlocks d_Pro_descriptorsOfPipe_33 (rfl)
    | succ n ih =>
      intro i hi0 hi ls hl
      have hlt : i < 24 := by omega
      refine lv_iload_n hx hb d_Pro_descriptorsOfPipe_4 rfl (lv_at hl 0 rfl) ?_
      refine lv_aload_n hx hb d_Pro_descriptorsOfPipe_5 rfl (lv_at hl 2 rfl) ?_
      refine va_get (D := D) (ci := nPro) (v := .ref (ad 12)) (C := R_Pro) (T := T_Pro) (N := 6) hx hb hts i_Pro hown hK hP 2 rfl rfl 3 (by decide) (hts _ tw_85) (fun _ h9 => h9) rfl d_Pro_descriptorsOfPipe_6 ?_
      refine va_alen (v := nI 24) hx hb hK hP 12 0 rfl rfl rfl d_Pro_descriptorsOfPipe_9 ?_
      refine k_geN (tgt := 32) (by omega) (by omega) hx hb d_Pro_descriptorsOfPipe_10 (by decide) (fun h9 => absurd h9 (by omega)) (fun _ => ?_)
      refine lv_aload_n hx hb d_Pro_descriptorsOfPipe_13 rfl (lv_at hl 2 rfl) ?_
      refine va_get (D := D) (ci := nPro) (v := .ref (ad 12)) (C := R_Pro) (T := T_Pro) (N := 6) hx hb hts i_Pro hown hK hP 2 rfl rfl 3 (by decide) (hts _ tw_85) (fun _ h9 => h9) rfl d_Pro_descriptorsOfPipe_14 ?_
      refine lv_iload_n hx hb d_Pro_descriptorsOfPipe_17 rfl (lv_at hl 0 rfl) ?_
      refine k_aldP (q0 := 12) (t0 := 0) hx hb hK hP rfl rfl (by omega) (by decide) d_Pro_descriptorsOfPipe_18 ?_
      refine lv_iload_n hx hb d_Pro_descriptorsOfPipe_19 rfl (lv_at hl 3 rfl) ?_
      refine k_st (st' := [.int (pI (i9 + 1)), .int (pI (σ.1 7 i))]) (by rw [pI_succ]) ?_
      refine k_neP (tgt := 26) (hb7 _ (by omega)) (by omega) hx hb d_Pro_descriptorsOfPipe_20 (by decide) (fun h1 => ?_) (fun h1 => ?_)
      · refine lv_iinc (v := (nI (i + 1))) (lv' := [(3, .int (nI (i + 1))), (2, .int (nI (cnt (fun k => σ.1 7 k == i9 + 1) i))), (0, .ref (ad 2)), (1, .int (nI i9))]) hx hb d_Pro_descriptorsOfPipe_26 hl (k := 0) rfl (nI_1 _) (by decide) rfl (fun ls hl => ?_)
        refine lv_goto (tgt := 4) hx hb d_Pro_descriptorsOfPipe_29 (by decide) ?_
        exact ih (i + 1) (by omega) (by omega) ls (by rw [cnt_f (by first | (simp [h1]; done) | (simp [h1]; omega))]; exact lv_sub hl [0, 1, 2, 3] rfl)
      · refine lv_iinc (v := (nI ((cnt (fun k => σ.1 7 k == i9 + 1) i) + 1))) (lv' := [(2, .int (nI ((cnt (fun k => σ.1 7 k == i9 + 1) i) + 1))), (3, .int (nI i)), (0, .ref (ad 2)), (1, .int (nI i9))]) hx hb d_Pro_descriptorsOfPipe_23 hl (k := 1) rfl (nI_1 _) (by decide) rfl (fun ls hl => ?_)
        refine lv_iinc (v := (nI (i + 1))) (lv' := [(3, .int (nI (i + 1))), (2, .int (nI ((cnt (fun k => σ.1 7 k == i9 + 1) i) + 1))), (0, .ref (ad 2)), (1, .int (nI i9))]) hx hb d_Pro_descriptorsOfPipe_26 hl (k := 1) rfl (nI_1 _) (by decide) rfl (fun ls hl => ?_)
        refine lv_goto (tgt := 4) hx hb d_Pro_descriptorsOfPipe_29 (by decide) ?_
        exact ih (i + 1) (by omega) (by omega) ls (by rw [cnt_t (by first | (simp [h1]; done) | (simp [h1]; omega))]; exact lv_sub hl [0, 1, 2, 3] rfl)
  exact L 24 0 (by omega) (by omega) ls (lv_sub hl [0, 1, 2, 3] rfl)
set_option maxHeartbeats 4000000 in
set_option maxRecDepth 100000 in
theorem c_Pro_notFree {l : Launch} {s0 : State} {a0 : Array Value} {D : va_G} {cI cL : ClassId} (K0 : k0 l s0 a0 D cI cL) (ad : Nat → Nat) (r : va_W) (σ : kS)  (hb4 : ∀ i, i < 6 → σ.1 4 i < 2 ^ 30) : kMet l y_Pro_notFree (Cond.code y_Pro_notFree b_Pro_notFree 3 (some .int)) (rmL 0) [.ref (ad 2)] (kPre D vwCl s0 (wC ad cI r) σ) (.ok (some (.int (nI (live σ))), ())) kBr := by
  refine k_of (by decide) (Nat.le_of_ble_eq_true rfl) ?_
  intro p e9 s m below meth c hx hb hr hlocks hown hml hex hpre ls hl
  obtain ⟨hE, hP, hD⟩ := hpre
  obtain ⟨hts, hK⟩ := K0.at (args := ([.ref (ad 2)] : List Value).toArray) hE
  have hl : lv_has ls 3 [(0, .ref (ad 2))] := hl
  have hS : va_S (kA s0) s.heap s.heap [] := va_S.rf
  refine lv_iconst (v := (nI 0)) hx hb d_Pro_notFree_0 (by decide) ?_
  refine lv_istore_n (lv' := [(1, .int (nI 0)), (0, .ref (ad 2))]) hx hb d_Pro_notFree_1 rfl hl (by decide) rfl (fun ls hl => ?_)
  refine lv_iconst (v := (nI 1)) hx hb d_Pro_notFree_2 (by decide) ?_
  refine lv_istore_n (lv' := [(2, .int (nI 1)), (1, .int (nI 0)), (0, .ref (ad 2))]) hx hb d_Pro_notFree_3 rfl hl (by decide) rfl (fun ls hl => ?_)
  have L : ∀ (n i : Nat), 1 ≤ i → i + n = 6 → ∀ ls : Array Slot, lv_has ls 3 [(2, .int (nI i)), (1, .int (nI (cnt (fun i => i != 0 && σ.1 4 i != 0) i))), (0, .ref (ad 2))] → W p l e9 (rmL 0) s m ([.ref (ad 2)] : List Value).toArray below meth c s.heap [] 0 0 (kE below (.ok (some (.int (nI (live σ))), ())) kBr s) (F0 m 4 ls []) := by
    intro n
    induction n with
    | zero =>
      intro i hi0 hi ls hl
      obtain rfl : i = 6 := by omega
      refine lv_iload_n hx hb d_Pro_notFree_4 rfl (lv_at hl 0 rfl) ?_
      refine lv_iconst (v := (nI 5)) hx hb d_Pro_notFree_5 (by decide) ?_
      refine k_gtN (tgt := 27) (by decide) (by decide) hx hb d_Pro_notFree_6 (by decide) (fun _ => ?_) (fun h9 => absurd h9 (by decide))
      refine lv_iload_n hx hb d_Pro_notFree_27 rfl (lv_at hl 1 rfl) ?_
      exact k_retI hx hb hr hlocks d_Pro_notFree_28 (rfl)
    | succ n ih =>
      intro i hi0 hi ls hl
      have hlt : i < 6 := by omega
      refine lv_iload_n hx hb d_Pro_notFree_4 rfl (lv_at hl 0 rfl) ?_
      refine lv_iconst (v := (nI 5)) hx hb d_Pro_notFree_5 (by decide) ?_
      refine k_gtN (tgt := 27) (by omega) (by omega) hx hb d_Pro_notFree_6 (by decide) (fun h9 => absurd h9 (by omega)) (fun _ => ?_)
      refine lv_aload_n hx hb d_Pro_notFree_9 rfl (lv_at hl 2 rfl) ?_
      refine va_get (D := D) (ci := nPro) (v := .ref (ad 9)) (C := R_Pro) (T := T_Pro) (N := 6) hx hb hts i_Pro hown hK hP 2 rfl rfl 0 (by decide) (hts _ tw_82) (fun _ h9 => h9) rfl d_Pro_notFree_10 ?_
      refine lv_iload_n hx hb d_Pro_notFree_13 rfl (lv_at hl 0 rfl) ?_
      refine k_aldN (q0 := 9) (t0 := 0) hx hb hK hP rfl rfl (by omega) (by decide) d_Pro_notFree_14 ?_
      refine k_if0 (tgt := 21) (Nat.lt_of_lt_of_le (hb4 _ (by omega)) (by decide)) hx hb d_Pro_notFree_15 (by decide) (fun h1 => ?_) (fun h1 => ?_)
      · refine lv_iinc (v := (nI (i + 1))) (lv' := [(2, .int (nI (i + 1))), (1, .int (nI (cnt (fun i => i != 0 && σ.1 4 i != 0) i))), (0, .ref (ad 2))]) hx hb d_Pro_notFree_21 hl (k := 0) rfl (nI_1 _) (by decide) rfl (fun ls hl => ?_)
        refine lv_goto (tgt := 4) hx hb d_Pro_notFree_24 (by decide) ?_
        exact ih (i + 1) (by omega) (by omega) ls (by rw [cnt_f (by first | (simp [h1]; done) | (simp [h1]; omega))]; exact lv_sub hl [0, 1, 2] rfl)
      · refine lv_iinc (v := (nI ((cnt (fun i => i != 0 && σ.1 4 i != 0) i) + 1))) (lv' := [(1, .int (nI ((cnt (fun i => i != 0 && σ.1 4 i != 0) i) + 1))), (2, .int (nI i)), (0, .ref (ad 2))]) hx hb d_Pro_notFree_18 hl (k := 1) rfl (nI_1 _) (by decide) rfl (fun ls hl => ?_)
        refine lv_iinc (v := (nI (i + 1))) (lv' := [(2, .int (nI (i + 1))), (1, .int (nI ((cnt (fun i => i != 0 && σ.1 4 i != 0) i) + 1))), (0, .ref (ad 2))]) hx hb d_Pro_notFree_21 hl (k := 1) rfl (nI_1 _) (by decide) rfl (fun ls hl => ?_)
        refine lv_goto (tgt := 4) hx hb d_Pro_notFree_24 (by decide) ?_
        exact ih (i + 1) (by omega) (by omega) ls (by rw [cnt_t (by first | (simp [h1]; done) | (simp [h1]; omega))]; exact lv_sub hl [0, 1, 2] rfl)
  exact L 5 1 (by omega) (by omega) ls (lv_sub hl [0, 1, 2] rfl)
