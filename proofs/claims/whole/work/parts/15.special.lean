/-! The loops that write. Laid by a program of mine (wip/gen). -/
set_option maxHeartbeats 4000000 in
set_option maxRecDepth 100000 in
theorem c_Pro_nextReady {l : Launch} {s0 : State} {a0 : Array Value} {D : va_G} {cI cL : ClassId} (K0 : k0 l s0 a0 D cI cL) (ad : Nat → Nat) (r : va_W) (σ : kS) (q : Nat) (hq : q < 6) (hb4 : ∀ i, i < 6 → σ.1 4 i < 2 ^ 30) : kMet l y_Pro_nextReady (Cond.code y_Pro_nextReady b_Pro_nextReady 4 (some .int)) (rmL 0) [.ref (ad 2), .int (nI q)] (kPre D vwCl s0 (wC ad cI r) σ) (.ok (some (.int (nI (nxr σ q))), ())) kBr := by
  refine k_of (by decide) (Nat.le_of_ble_eq_true rfl) ?_
  intro p e9 s m below meth c hx hb hr hlocks hown hml hex hpre ls hl
  obtain ⟨hE, hP, hD⟩ := hpre
  obtain ⟨hts, hK⟩ := K0.at (args := ([.ref (ad 2), .int (nI q)] : List Value).toArray) hE
  have hl : lv_has ls 4 [(0, .ref (ad 2)), (1, .int (nI q))] := hl
  have hS : va_S (kA s0) s.heap s.heap [] := va_S.rf
  refine lv_iconst (v := (nI 0)) hx hb d_Pro_nextReady_0 (by decide) ?_
  refine lv_istore_n (lv' := [(2, .int (nI 0)), (0, .ref (ad 2)), (1, .int (nI q))]) hx hb d_Pro_nextReady_1 rfl hl (by decide) rfl (fun ls hl => ?_)
  refine lv_iload_n hx hb d_Pro_nextReady_2 rfl (lv_at hl 0 rfl) ?_
  refine lv_iconst (v := (nI 5)) hx hb d_Pro_nextReady_3 (by decide) ?_
  refine k_geN (tgt := 33) (by decide) (by decide) hx hb d_Pro_nextReady_4 (by decide) (fun h9 => absurd h9 (by decide)) (fun _ => ?_)
  refine lv_iload_n hx hb d_Pro_nextReady_7 rfl (lv_at hl 2 rfl) ?_
  refine lv_iload_n hx hb d_Pro_nextReady_8 rfl (lv_at hl 0 rfl) ?_
  refine k_addN hx hb d_Pro_nextReady_9 ?_
  refine lv_iconst (v := (nI 5)) hx hb d_Pro_nextReady_10 (by decide) ?_
  refine k_remN (by omega) (by omega) (by omega) hx hb d_Pro_nextReady_11 ?_
  refine lv_iconst (v := (nI 1)) hx hb d_Pro_nextReady_12 (by decide) ?_
  refine k_addN hx hb d_Pro_nextReady_13 ?_
  refine lv_istore_n (lv' := [(3, .int (nI (((q + 0) % 5) + 1))), (2, .int (nI 0)), (0, .ref (ad 2)), (1, .int (nI q))]) hx hb d_Pro_nextReady_14 rfl hl (by decide) rfl (fun ls hl => ?_)
  refine lv_aload_n hx hb d_Pro_nextReady_15 rfl (lv_at hl 2 rfl) ?_
  refine va_get (D := D) (ci := nPro) (v := .ref (ad 9)) (C := R_Pro) (T := T_Pro) (N := 6) hx hb hts i_Pro hown hK hP 2 rfl rfl 0 (by decide) (hts _ tw_82) (fun _ h9 => h9) rfl d_Pro_nextReady_16 ?_
  refine lv_iload_n hx hb d_Pro_nextReady_19 rfl (lv_at hl 0 rfl) ?_
  refine k_aldN (q0 := 9) (t0 := 0) hx hb hK hP rfl rfl (by omega) (by decide) d_Pro_nextReady_20 ?_
  refine lv_iconst (v := (nI 2)) hx hb d_Pro_nextReady_21 (by decide) ?_
  refine k_neN (tgt := 27) (Nat.lt_of_lt_of_le (hb4 _ (by omega)) (by decide)) (by omega) hx hb d_Pro_nextReady_22 (by decide) (fun h1 => ?_) (fun h1 => ?_)
  · refine lv_iinc (v := (nI 1)) (lv' := [(2, .int (nI 1)), (3, .int (nI (((q + 0) % 5) + 1))), (0, .ref (ad 2)), (1, .int (nI q))]) hx hb d_Pro_nextReady_27 hl (k := 1) rfl (nI_1 _) (by decide) rfl (fun ls hl => ?_)
    refine lv_goto (tgt := 2) hx hb d_Pro_nextReady_30 (by decide) ?_
    refine lv_iload_n hx hb d_Pro_nextReady_2 rfl (lv_at hl 0 rfl) ?_
    refine lv_iconst (v := (nI 5)) hx hb d_Pro_nextReady_3 (by decide) ?_
    refine k_geN (tgt := 33) (by decide) (by decide) hx hb d_Pro_nextReady_4 (by decide) (fun h9 => absurd h9 (by decide)) (fun _ => ?_)
    refine lv_iload_n hx hb d_Pro_nextReady_7 rfl (lv_at hl 3 rfl) ?_
    refine lv_iload_n hx hb d_Pro_nextReady_8 rfl (lv_at hl 0 rfl) ?_
    refine k_addN hx hb d_Pro_nextReady_9 ?_
    refine lv_iconst (v := (nI 5)) hx hb d_Pro_nextReady_10 (by decide) ?_
    refine k_remN (by omega) (by omega) (by omega) hx hb d_Pro_nextReady_11 ?_
    refine lv_iconst (v := (nI 1)) hx hb d_Pro_nextReady_12 (by decide) ?_
    refine k_addN hx hb d_Pro_nextReady_13 ?_
    refine lv_istore_n (lv' := [(3, .int (nI (((q + 1) % 5) + 1))), (2, .int (nI 1)), (0, .ref (ad 2)), (1, .int (nI q))]) hx hb d_Pro_nextReady_14 rfl hl (by decide) rfl (fun ls hl => ?_)
    refine lv_aload_n hx hb d_Pro_nextReady_15 rfl (lv_at hl 2 rfl) ?_
    refine va_get (D := D) (ci := nPro) (v := .ref (ad 9)) (C := R_Pro) (T := T_Pro) (N := 6) hx hb hts i_Pro hown hK hP 2 rfl rfl 0 (by decide) (hts _ tw_82) (fun _ h9 => h9) rfl d_Pro_nextReady_16 ?_
    refine lv_iload_n hx hb d_Pro_nextReady_19 rfl (lv_at hl 0 rfl) ?_
    refine k_aldN (q0 := 9) (t0 := 0) hx hb hK hP rfl rfl (by omega) (by decide) d_Pro_nextReady_20 ?_
    refine lv_iconst (v := (nI 2)) hx hb d_Pro_nextReady_21 (by decide) ?_
    refine k_neN (tgt := 27) (Nat.lt_of_lt_of_le (hb4 _ (by omega)) (by decide)) (by omega) hx hb d_Pro_nextReady_22 (by decide) (fun h2 => ?_) (fun h2 => ?_)
    · refine lv_iinc (v := (nI 2)) (lv' := [(2, .int (nI 2)), (3, .int (nI (((q + 1) % 5) + 1))), (0, .ref (ad 2)), (1, .int (nI q))]) hx hb d_Pro_nextReady_27 hl (k := 1) rfl (nI_1 _) (by decide) rfl (fun ls hl => ?_)
      refine lv_goto (tgt := 2) hx hb d_Pro_nextReady_30 (by decide) ?_
      refine lv_iload_n hx hb d_Pro_nextReady_2 rfl (lv_at hl 0 rfl) ?_
      refine lv_iconst (v := (nI 5)) hx hb d_Pro_nextReady_3 (by decide) ?_
      refine k_geN (tgt := 33) (by decide) (by decide) hx hb d_Pro_nextReady_4 (by decide) (fun h9 => absurd h9 (by decide)) (fun _ => ?_)
      refine lv_iload_n hx hb d_Pro_nextReady_7 rfl (lv_at hl 3 rfl) ?_
      refine lv_iload_n hx hb d_Pro_nextReady_8 rfl (lv_at hl 0 rfl) ?_
      refine k_addN hx hb d_Pro_nextReady_9 ?_
      refine lv_iconst (v := (nI 5)) hx hb d_Pro_nextReady_10 (by decide) ?_
      refine k_remN (by omega) (by omega) (by omega) hx hb d_Pro_nextReady_11 ?_
      refine lv_iconst (v := (nI 1)) hx hb d_Pro_nextReady_12 (by decide) ?_
      refine k_addN hx hb d_Pro_nextReady_13 ?_
      refine lv_istore_n (lv' := [(3, .int (nI (((q + 2) % 5) + 1))), (2, .int (nI 2)), (0, .ref (ad 2)), (1, .int (nI q))]) hx hb d_Pro_nextReady_14 rfl hl (by decide) rfl (fun ls hl => ?_)
      refine lv_aload_n hx hb d_Pro_nextReady_15 rfl (lv_at hl 2 rfl) ?_
      refine va_get (D := D) (ci := nPro) (v := .ref (ad 9)) (C := R_Pro) (T := T_Pro) (N := 6) hx hb hts i_Pro hown hK hP 2 rfl rfl 0 (by decide) (hts _ tw_82) (fun _ h9 => h9) rfl d_Pro_nextReady_16 ?_
      refine lv_iload_n hx hb d_Pro_nextReady_19 rfl (lv_at hl 0 rfl) ?_
      refine k_aldN (q0 := 9) (t0 := 0) hx hb hK hP rfl rfl (by omega) (by decide) d_Pro_nextReady_20 ?_
      refine lv_iconst (v := (nI 2)) hx hb d_Pro_nextReady_21 (by decide) ?_
      refine k_neN (tgt := 27) (Nat.lt_of_lt_of_le (hb4 _ (by omega)) (by decide)) (by omega) hx hb d_Pro_nextReady_22 (by decide) (fun h3 => ?_) (fun h3 => ?_)
      · refine lv_iinc (v := (nI 3)) (lv' := [(2, .int (nI 3)), (3, .int (nI (((q + 2) % 5) + 1))), (0, .ref (ad 2)), (1, .int (nI q))]) hx hb d_Pro_nextReady_27 hl (k := 1) rfl (nI_1 _) (by decide) rfl (fun ls hl => ?_)
        refine lv_goto (tgt := 2) hx hb d_Pro_nextReady_30 (by decide) ?_
        refine lv_iload_n hx hb d_Pro_nextReady_2 rfl (lv_at hl 0 rfl) ?_
        refine lv_iconst (v := (nI 5)) hx hb d_Pro_nextReady_3 (by decide) ?_
        refine k_geN (tgt := 33) (by decide) (by decide) hx hb d_Pro_nextReady_4 (by decide) (fun h9 => absurd h9 (by decide)) (fun _ => ?_)
        refine lv_iload_n hx hb d_Pro_nextReady_7 rfl (lv_at hl 3 rfl) ?_
        refine lv_iload_n hx hb d_Pro_nextReady_8 rfl (lv_at hl 0 rfl) ?_
        refine k_addN hx hb d_Pro_nextReady_9 ?_
        refine lv_iconst (v := (nI 5)) hx hb d_Pro_nextReady_10 (by decide) ?_
        refine k_remN (by omega) (by omega) (by omega) hx hb d_Pro_nextReady_11 ?_
        refine lv_iconst (v := (nI 1)) hx hb d_Pro_nextReady_12 (by decide) ?_
        refine k_addN hx hb d_Pro_nextReady_13 ?_
        refine lv_istore_n (lv' := [(3, .int (nI (((q + 3) % 5) + 1))), (2, .int (nI 3)), (0, .ref (ad 2)), (1, .int (nI q))]) hx hb d_Pro_nextReady_14 rfl hl (by decide) rfl (fun ls hl => ?_)
        refine lv_aload_n hx hb d_Pro_nextReady_15 rfl (lv_at hl 2 rfl) ?_
        refine va_get (D := D) (ci := nPro) (v := .ref (ad 9)) (C := R_Pro) (T := T_Pro) (N := 6) hx hb hts i_Pro hown hK hP 2 rfl rfl 0 (by decide) (hts _ tw_82) (fun _ h9 => h9) rfl d_Pro_nextReady_16 ?_
        refine lv_iload_n hx hb d_Pro_nextReady_19 rfl (lv_at hl 0 rfl) ?_
        refine k_aldN (q0 := 9) (t0 := 0) hx hb hK hP rfl rfl (by omega) (by decide) d_Pro_nextReady_20 ?_
        refine lv_iconst (v := (nI 2)) hx hb d_Pro_nextReady_21 (by decide) ?_
        refine k_neN (tgt := 27) (Nat.lt_of_lt_of_le (hb4 _ (by omega)) (by decide)) (by omega) hx hb d_Pro_nextReady_22 (by decide) (fun h4 => ?_) (fun h4 => ?_)
        · refine lv_iinc (v := (nI 4)) (lv' := [(2, .int (nI 4)), (3, .int (nI (((q + 3) % 5) + 1))), (0, .ref (ad 2)), (1, .int (nI q))]) hx hb d_Pro_nextReady_27 hl (k := 1) rfl (nI_1 _) (by decide) rfl (fun ls hl => ?_)
          refine lv_goto (tgt := 2) hx hb d_Pro_nextReady_30 (by decide) ?_
          refine lv_iload_n hx hb d_Pro_nextReady_2 rfl (lv_at hl 0 rfl) ?_
          refine lv_iconst (v := (nI 5)) hx hb d_Pro_nextReady_3 (by decide) ?_
          refine k_geN (tgt := 33) (by decide) (by decide) hx hb d_Pro_nextReady_4 (by decide) (fun h9 => absurd h9 (by decide)) (fun _ => ?_)
          refine lv_iload_n hx hb d_Pro_nextReady_7 rfl (lv_at hl 3 rfl) ?_
          refine lv_iload_n hx hb d_Pro_nextReady_8 rfl (lv_at hl 0 rfl) ?_
          refine k_addN hx hb d_Pro_nextReady_9 ?_
          refine lv_iconst (v := (nI 5)) hx hb d_Pro_nextReady_10 (by decide) ?_
          refine k_remN (by omega) (by omega) (by omega) hx hb d_Pro_nextReady_11 ?_
          refine lv_iconst (v := (nI 1)) hx hb d_Pro_nextReady_12 (by decide) ?_
          refine k_addN hx hb d_Pro_nextReady_13 ?_
          refine lv_istore_n (lv' := [(3, .int (nI (((q + 4) % 5) + 1))), (2, .int (nI 4)), (0, .ref (ad 2)), (1, .int (nI q))]) hx hb d_Pro_nextReady_14 rfl hl (by decide) rfl (fun ls hl => ?_)
          refine lv_aload_n hx hb d_Pro_nextReady_15 rfl (lv_at hl 2 rfl) ?_
          refine va_get (D := D) (ci := nPro) (v := .ref (ad 9)) (C := R_Pro) (T := T_Pro) (N := 6) hx hb hts i_Pro hown hK hP 2 rfl rfl 0 (by decide) (hts _ tw_82) (fun _ h9 => h9) rfl d_Pro_nextReady_16 ?_
          refine lv_iload_n hx hb d_Pro_nextReady_19 rfl (lv_at hl 0 rfl) ?_
          refine k_aldN (q0 := 9) (t0 := 0) hx hb hK hP rfl rfl (by omega) (by decide) d_Pro_nextReady_20 ?_
          refine lv_iconst (v := (nI 2)) hx hb d_Pro_nextReady_21 (by decide) ?_
          refine k_neN (tgt := 27) (Nat.lt_of_lt_of_le (hb4 _ (by omega)) (by decide)) (by omega) hx hb d_Pro_nextReady_22 (by decide) (fun h5 => ?_) (fun h5 => ?_)
          · refine lv_iinc (v := (nI 5)) (lv' := [(2, .int (nI 5)), (3, .int (nI (((q + 4) % 5) + 1))), (0, .ref (ad 2)), (1, .int (nI q))]) hx hb d_Pro_nextReady_27 hl (k := 1) rfl (nI_1 _) (by decide) rfl (fun ls hl => ?_)
            refine lv_goto (tgt := 2) hx hb d_Pro_nextReady_30 (by decide) ?_
            refine lv_iload_n hx hb d_Pro_nextReady_2 rfl (lv_at hl 0 rfl) ?_
            refine lv_iconst (v := (nI 5)) hx hb d_Pro_nextReady_3 (by decide) ?_
            refine k_geN (tgt := 33) (by decide) (by decide) hx hb d_Pro_nextReady_4 (by decide) (fun _ => ?_) (fun h9 => absurd h9 (by decide))
            refine lv_iconst (v := (nI 0)) hx hb d_Pro_nextReady_33 (by decide) ?_
            exact k_retI hx hb hr hlocks d_Pro_nextReady_34 (by unfold nxr; first | rw [if_neg h1, if_neg h2, if_neg h3, if_neg h4, if_pos h5] | rw [if_neg h1, if_neg h2, if_neg h3, if_neg h4, if_neg h5])
          · refine lv_iload_n hx hb d_Pro_nextReady_25 rfl (lv_at hl 0 rfl) ?_
            exact k_retI hx hb hr hlocks d_Pro_nextReady_26 (by unfold nxr; first | rw [if_neg h1, if_neg h2, if_neg h3, if_neg h4, if_pos h5] | rw [if_neg h1, if_neg h2, if_neg h3, if_neg h4, if_neg h5])
        · refine lv_iload_n hx hb d_Pro_nextReady_25 rfl (lv_at hl 0 rfl) ?_
          exact k_retI hx hb hr hlocks d_Pro_nextReady_26 (by unfold nxr; first | rw [if_neg h1, if_neg h2, if_neg h3, if_pos h4] | rw [if_neg h1, if_neg h2, if_neg h3, if_neg h4])
      · refine lv_iload_n hx hb d_Pro_nextReady_25 rfl (lv_at hl 0 rfl) ?_
        exact k_retI hx hb hr hlocks d_Pro_nextReady_26 (by unfold nxr; first | rw [if_neg h1, if_neg h2, if_pos h3] | rw [if_neg h1, if_neg h2, if_neg h3])
    · refine lv_iload_n hx hb d_Pro_nextReady_25 rfl (lv_at hl 0 rfl) ?_
      exact k_retI hx hb hr hlocks d_Pro_nextReady_26 (by unfold nxr; first | rw [if_neg h1, if_pos h2] | rw [if_neg h1, if_neg h2])
  · refine lv_iload_n hx hb d_Pro_nextReady_25 rfl (lv_at hl 0 rfl) ?_
    exact k_retI hx hb hr hlocks d_Pro_nextReady_26 (by unfold nxr; first | rw [if_pos h1] | rw [if_neg h1])
set_option maxHeartbeats 4000000 in
set_option maxRecDepth 100000 in
theorem c_Pro_moveChildren {l : Launch} {s0 : State} {a0 : Array Value} {D : va_G} {cI cL : ClassId} (K0 : k0 l s0 a0 D cI cL) (ad : Nat → Nat) (r : va_W) (σ : kS) (q : Nat) (hq : q < 6) (hb5 : ∀ i, i < 6 → σ.1 5 i < 2 ^ 30) : kMet l y_Pro_moveChildren (Cond.code y_Pro_moveChildren b_Pro_moveChildren 5 (some .int)) (rmL 0) [.ref (ad 2), .int (nI q), .int (nI 1)] (kPre D vwCl s0 (wC ad cI r) σ) (.ok (some (.int (nI (mvn σ q 6))), mv σ q 6)) (kBw D vwCl s0 (wC ad cI r)) := by
  refine k_of (by decide) (Nat.le_of_ble_eq_true rfl) ?_
  intro p e9 s m below meth c hx hb hr hlocks hown hml hex hpre ls hl
  obtain ⟨hE, hP, hD⟩ := hpre
  obtain ⟨hts, hK⟩ := K0.at (args := ([.ref (ad 2), .int (nI q), .int (nI 1)] : List Value).toArray) hE
  have hl : lv_has ls 5 [(0, .ref (ad 2)), (1, .int (nI q)), (2, .int (nI 1))] := hl
  have hS : va_S (kA s0) s.heap s.heap [] := va_S.rf
  refine lv_iconst (v := (nI 0)) hx hb d_Pro_moveChildren_0 (by decide) ?_
  refine lv_istore_n (lv' := [(3, .int (nI 0)), (0, .ref (ad 2)), (1, .int (nI q)), (2, .int (nI 1))]) hx hb d_Pro_moveChildren_1 rfl hl (by decide) rfl (fun ls hl => ?_)
  refine lv_iconst (v := (nI 1)) hx hb d_Pro_moveChildren_2 (by decide) ?_
  refine lv_istore (lv' := [(4, .int (nI 1)), (3, .int (nI 0)), (0, .ref (ad 2)), (1, .int (nI q)), (2, .int (nI 1))]) hx hb d_Pro_moveChildren_3 hl (by decide) rfl (fun ls hl => ?_)
  have L : ∀ (n i : Nat), 1 ≤ i → i + n = 6 → ∀ (H : Heap) (locs : List Loc) (ls : Array Slot), va_P D vwCl (wC ad cI r (mv σ q i)) H → va_D (kA s0) (wC ad cI r (mv σ q i)) → va_S (kA s0) s.heap H locs → lv_has ls 5 [(4, .int (nI i)), (3, .int (nI (mvn σ q i))), (0, .ref (ad 2)), (1, .int (nI q)), (2, .int (nI 1))] → W p l e9 (rmL 0) s m ([.ref (ad 2), .int (nI q), .int (nI 1)] : List Value).toArray below meth c H locs 0 0 (kE below (.ok (some (.int (nI (mvn σ q 6))), mv σ q 6)) (kBw D vwCl s0 (wC ad cI r)) s) (F0 m 5 ls []) := by
    intro n
    induction n with
    | zero =>
      intro i hi0 hi H locs ls hP hD hS hl
      obtain rfl : i = 6 := by omega
      obtain ⟨σ1, eσ1⟩ : ∃ z : kS, z = (mv σ q 6) := ⟨_, rfl⟩
      rw [← eσ1] at hP hD
      have hv : ∀ k, k < 6 → σ1.1 5 k < 2 ^ 30 := by rw [eσ1]; exact mv_b5 q hb5 _
      refine lv_iload hx hb d_Pro_moveChildren_5 (lv_at hl 0 rfl) ?_
      refine lv_iconst (v := (nI 5)) hx hb d_Pro_moveChildren_7 (by decide) ?_
      refine k_gtN (tgt := 39) (by decide) (by decide) hx hb d_Pro_moveChildren_8 (by decide) (fun _ => ?_) (fun h9 => absurd h9 (by decide))
      refine lv_iload_n hx hb d_Pro_moveChildren_39 rfl (lv_at hl 1 rfl) ?_
      exact k_retWI hx hb hr hlocks d_Pro_moveChildren_40 hP hD hS (by rw [eσ1])
    | succ n ih =>
      intro i hi0 hi H locs ls hP hD hS hl
      have hlt : i < 6 := by omega
      obtain ⟨σ2, eσ2⟩ : ∃ z : kS, z = (mv σ q i) := ⟨_, rfl⟩
      rw [← eσ2] at hP hD
      have hv : ∀ k, k < 6 → σ2.1 5 k < 2 ^ 30 := by rw [eσ2]; exact mv_b5 q hb5 _
      refine lv_iload hx hb d_Pro_moveChildren_5 (lv_at hl 0 rfl) ?_
      refine lv_iconst (v := (nI 5)) hx hb d_Pro_moveChildren_7 (by decide) ?_
      refine k_gtN (tgt := 39) (by omega) (by omega) hx hb d_Pro_moveChildren_8 (by decide) (fun h9 => absurd h9 (by omega)) (fun _ => ?_)
      refine lv_aload_n hx hb d_Pro_moveChildren_11 rfl (lv_at hl 2 rfl) ?_
      refine va_get (D := D) (ci := nPro) (v := .ref (ad 10)) (C := R_Pro) (T := T_Pro) (N := 6) hx hb hts i_Pro hown hK hP 2 rfl rfl 1 (by decide) (hts _ tw_83) (fun _ h9 => h9) rfl d_Pro_moveChildren_12 ?_
      refine lv_iload hx hb d_Pro_moveChildren_15 (lv_at hl 0 rfl) ?_
      refine k_aldN (q0 := 10) (t0 := 0) hx hb hK hP rfl rfl (by omega) (by decide) d_Pro_moveChildren_17 ?_
      refine lv_iload_n hx hb d_Pro_moveChildren_18 rfl (lv_at hl 3 rfl) ?_
      refine k_neN (tgt := 33) (Nat.lt_of_lt_of_le (hv _ (by omega)) (by decide)) (by omega) hx hb d_Pro_moveChildren_19 (by decide) (fun h3 => ?_) (fun h3 => ?_)
      · refine lv_iinc (v := (nI (i + 1))) (lv' := [(4, .int (nI (i + 1))), (3, .int (nI (mvn σ q i))), (0, .ref (ad 2)), (1, .int (nI q)), (2, .int (nI 1))]) hx hb d_Pro_moveChildren_33 hl (k := 0) rfl (nI_1 _) (by decide) rfl (fun ls hl => ?_)
        refine lv_goto (tgt := 5) hx hb d_Pro_moveChildren_36 (by decide) ?_
        exact ih (i + 1) (by omega) (by omega) H locs ls (by rw [(mv_f (by rw [← eσ2]; exact h3)).1, ← eσ2]; exact hP) (by rw [(mv_f (by rw [← eσ2]; exact h3)).1, ← eσ2]; exact hD) hS (by rw [(mv_f (by rw [← eσ2]; exact h3)).2]; exact lv_sub hl [0, 1, 2, 3, 4] rfl)
      · refine lv_aload_n hx hb d_Pro_moveChildren_22 rfl (lv_at hl 2 rfl) ?_
        refine va_get (D := D) (ci := nPro) (v := .ref (ad 10)) (C := R_Pro) (T := T_Pro) (N := 6) hx hb hts i_Pro hown hK hP 2 rfl rfl 1 (by decide) (hts _ tw_83) (fun _ h9 => h9) rfl d_Pro_moveChildren_23 ?_
        refine lv_iload hx hb d_Pro_moveChildren_26 (lv_at hl 0 rfl) ?_
        refine lv_iload_n hx hb d_Pro_moveChildren_28 rfl (lv_at hl 4 rfl) ?_
        refine k_astN (q0 := 10) (t0 := 0) hx hb hK hP hD hS rfl rfl (by omega) (by decide) d_Pro_moveChildren_29 (fun H locs hP hD hS => ?_)
        obtain ⟨σ4, eσ4⟩ : ∃ z : kS, z = (st σ2 5 i 1) := ⟨_, rfl⟩
        have hP : va_P D vwCl (wC ad cI r σ4) H := by rw [eσ4]; exact hP
        have hD : va_D (kA s0) (wC ad cI r σ4) := by rw [eσ4]; exact hD
        refine lv_iinc (v := (nI ((mvn σ q i) + 1))) (lv' := [(3, .int (nI ((mvn σ q i) + 1))), (4, .int (nI i)), (0, .ref (ad 2)), (1, .int (nI q)), (2, .int (nI 1))]) hx hb d_Pro_moveChildren_30 hl (k := 1) rfl (nI_1 _) (by decide) rfl (fun ls hl => ?_)
        refine lv_iinc (v := (nI (i + 1))) (lv' := [(4, .int (nI (i + 1))), (3, .int (nI ((mvn σ q i) + 1))), (0, .ref (ad 2)), (1, .int (nI q)), (2, .int (nI 1))]) hx hb d_Pro_moveChildren_33 hl (k := 1) rfl (nI_1 _) (by decide) rfl (fun ls hl => ?_)
        refine lv_goto (tgt := 5) hx hb d_Pro_moveChildren_36 (by decide) ?_
        exact ih (i + 1) (by omega) (by omega) H locs ls (by rw [(mv_t (by omega) (by rw [← eσ2]; exact h3)).1, ← eσ2, ← eσ4]; exact hP) (by rw [(mv_t (by omega) (by rw [← eσ2]; exact h3)).1, ← eσ2, ← eσ4]; exact hD) hS (by rw [(mv_t (by omega) (by rw [← eσ2]; exact h3)).2]; exact lv_sub hl [0, 1, 2, 3, 4] rfl)
  exact L (6 - 1) 1 (by omega) (by omega) s.heap _ ls hP hD hS (lv_sub hl [0, 1, 2, 3, 4] rfl)
set_option maxHeartbeats 4000000 in
set_option maxRecDepth 100000 in
theorem c_Mem_copyWords {l : Launch} {s0 : State} {a0 : Array Value} {D : va_G} {cI cL : ClassId} (K0 : k0 l s0 a0 D cI cL) (ad : Nat → Nat) (r : va_W) (σ : kS) (g : Nat) (h : Nat) (hg : g < 20) (hh : h < 20) : kMet l y_Mem_copyWords (Cond.code y_Mem_copyWords b_Mem_copyWords 4 none) (rmL 1) [.ref (ad 1), .int (nI g), .int (nI h)] (kPre D vwCl s0 (wC ad cI r) σ) (.ok (none, m_copy σ g h)) (kBw D vwCl s0 (wC ad cI r)) := by
  refine k_of (by decide) (Nat.le_of_ble_eq_true rfl) ?_
  intro p e9 s m below meth c hx hb hr hlocks hown hml hex hpre ls hl
  obtain ⟨hE, hP, hD⟩ := hpre
  obtain ⟨hts, hK⟩ := K0.at (args := ([.ref (ad 1), .int (nI g), .int (nI h)] : List Value).toArray) hE
  have hl : lv_has ls 4 [(0, .ref (ad 1)), (1, .int (nI g)), (2, .int (nI h))] := hl
  have hS : va_S (kA s0) s.heap s.heap [] := va_S.rf
  refine lv_iconst (v := (nI 0)) hx hb d_Mem_copyWords_0 (by decide) ?_
  refine lv_istore_n (lv' := [(3, .int (nI 0)), (0, .ref (ad 1)), (1, .int (nI g)), (2, .int (nI h))]) hx hb d_Mem_copyWords_1 rfl hl (by decide) rfl (fun ls hl => ?_)
  refine lv_iload_n hx hb d_Mem_copyWords_2 rfl (lv_at hl 0 rfl) ?_
  refine lv_iconst (v := (nI 4)) hx hb d_Mem_copyWords_3 (by decide) ?_
  refine k_geN (tgt := 25) (by decide) (by decide) hx hb d_Mem_copyWords_4 (by decide) (fun h9 => absurd h9 (by decide)) (fun _ => ?_)
  refine lv_aload_n hx hb d_Mem_copyWords_7 rfl (lv_at hl 1 rfl) ?_
  refine lv_iload_n hx hb d_Mem_copyWords_8 rfl (lv_at hl 3 rfl) ?_
  refine lv_iload_n hx hb d_Mem_copyWords_9 rfl (lv_at hl 0 rfl) ?_
  refine lv_aload_n hx hb d_Mem_copyWords_10 rfl (lv_at hl 1 rfl) ?_
  refine lv_iload_n hx hb d_Mem_copyWords_11 rfl (lv_at hl 2 rfl) ?_
  refine lv_iload_n hx hb d_Mem_copyWords_12 rfl (lv_at hl 0 rfl) ?_
  refine k_callR (k_atV (As := [.int (nI g), .int (nI 0)]) hx hb hown hE.1 (K0.w tw_360) (hts _ tw_357) (hts _ tw_358) (hts _ tw_359) (hts _ tw_2) (by decide) np_Mem_word (va_recv hK hP (ci := nMem) (q0 := 1) rfl rfl) rfl d_Mem_copyWords_13) (c_Mem_word K0 ad r σ g 0 (by omega) (by omega)) (hl.1.trans hml.symm) (Nat.le_of_ble_eq_true rfl) ⟨Nat.le_of_ble_eq_true rfl, Nat.le_of_ble_eq_true rfl, Nat.le_of_ble_eq_true rfl, Nat.le_of_ble_eq_true rfl⟩ (fun U hU hW => ⟨hE.go hW hU hS, by rw [hU]; exact hP, hD⟩) ?_
  refine k_callW (k_atV (As := [.int (nI h), .int (nI 0), .int (σ.2 0 (g * 4 + 0))]) hx hb hown hE.1 (K0.w tw_46) (hts _ tw_43) (hts _ tw_44) (hts _ tw_45) (hts _ tw_2) (by decide) np_Mem_setWord (va_recv hK hP (ci := nMem) (q0 := 1) rfl rfl) rfl d_Mem_copyWords_16) (c_Mem_setWord K0 ad r σ h 0 (σ.2 0 (g * 4 + 0)) (by omega) (by omega)) (hl.1.trans hml.symm) (Nat.le_of_ble_eq_true rfl) ⟨Nat.le_of_ble_eq_true rfl, Nat.le_of_ble_eq_true rfl, Nat.le_of_ble_eq_true rfl, Nat.le_of_ble_eq_true rfl⟩ (fun U hU hW => ⟨hE.go hW hU hS, by rw [hU]; exact hP, hD⟩) hS (fun H locs hP hD hS => ?_)
  obtain ⟨σ1, eσ1⟩ : ∃ z : kS, z = (sw σ 0 (h * 4 + 0) (σ.2 0 (g * 4 + 0))) := ⟨_, rfl⟩
  have hP : va_P D vwCl (wC ad cI r σ1) H := by rw [eσ1]; exact hP
  have hD : va_D (kA s0) (wC ad cI r σ1) := by rw [eσ1]; exact hD
  refine lv_iinc (v := (nI 1)) (lv' := [(3, .int (nI 1)), (0, .ref (ad 1)), (1, .int (nI g)), (2, .int (nI h))]) hx hb d_Mem_copyWords_19 hl (k := 0) rfl (nI_1 _) (by decide) rfl (fun ls hl => ?_)
  refine lv_goto (tgt := 2) hx hb d_Mem_copyWords_22 (by decide) ?_
  refine lv_iload_n hx hb d_Mem_copyWords_2 rfl (lv_at hl 0 rfl) ?_
  refine lv_iconst (v := (nI 4)) hx hb d_Mem_copyWords_3 (by decide) ?_
  refine k_geN (tgt := 25) (by decide) (by decide) hx hb d_Mem_copyWords_4 (by decide) (fun h9 => absurd h9 (by decide)) (fun _ => ?_)
  refine lv_aload_n hx hb d_Mem_copyWords_7 rfl (lv_at hl 1 rfl) ?_
  refine lv_iload_n hx hb d_Mem_copyWords_8 rfl (lv_at hl 3 rfl) ?_
  refine lv_iload_n hx hb d_Mem_copyWords_9 rfl (lv_at hl 0 rfl) ?_
  refine lv_aload_n hx hb d_Mem_copyWords_10 rfl (lv_at hl 1 rfl) ?_
  refine lv_iload_n hx hb d_Mem_copyWords_11 rfl (lv_at hl 2 rfl) ?_
  refine lv_iload_n hx hb d_Mem_copyWords_12 rfl (lv_at hl 0 rfl) ?_
  refine k_callR (k_atV (As := [.int (nI g), .int (nI 1)]) hx hb hown hE.1 (K0.w tw_360) (hts _ tw_357) (hts _ tw_358) (hts _ tw_359) (hts _ tw_2) (by decide) np_Mem_word (va_recv hK hP (ci := nMem) (q0 := 1) rfl rfl) rfl d_Mem_copyWords_13) (c_Mem_word K0 ad r σ1 g 1 (by omega) (by omega)) (hl.1.trans hml.symm) (Nat.le_of_ble_eq_true rfl) ⟨Nat.le_of_ble_eq_true rfl, Nat.le_of_ble_eq_true rfl, Nat.le_of_ble_eq_true rfl, Nat.le_of_ble_eq_true rfl⟩ (fun U hU hW => ⟨hE.go hW hU hS, by rw [hU]; exact hP, hD⟩) ?_
  refine k_callW (k_atV (As := [.int (nI h), .int (nI 1), .int (σ1.2 0 (g * 4 + 1))]) hx hb hown hE.1 (K0.w tw_46) (hts _ tw_43) (hts _ tw_44) (hts _ tw_45) (hts _ tw_2) (by decide) np_Mem_setWord (va_recv hK hP (ci := nMem) (q0 := 1) rfl rfl) rfl d_Mem_copyWords_16) (c_Mem_setWord K0 ad r σ1 h 1 (σ1.2 0 (g * 4 + 1)) (by omega) (by omega)) (hl.1.trans hml.symm) (Nat.le_of_ble_eq_true rfl) ⟨Nat.le_of_ble_eq_true rfl, Nat.le_of_ble_eq_true rfl, Nat.le_of_ble_eq_true rfl, Nat.le_of_ble_eq_true rfl⟩ (fun U hU hW => ⟨hE.go hW hU hS, by rw [hU]; exact hP, hD⟩) hS (fun H locs hP hD hS => ?_)
  obtain ⟨σ2, eσ2⟩ : ∃ z : kS, z = (sw σ1 0 (h * 4 + 1) (σ1.2 0 (g * 4 + 1))) := ⟨_, rfl⟩
  have hP : va_P D vwCl (wC ad cI r σ2) H := by rw [eσ2]; exact hP
  have hD : va_D (kA s0) (wC ad cI r σ2) := by rw [eσ2]; exact hD
  refine lv_iinc (v := (nI 2)) (lv' := [(3, .int (nI 2)), (0, .ref (ad 1)), (1, .int (nI g)), (2, .int (nI h))]) hx hb d_Mem_copyWords_19 hl (k := 0) rfl (nI_1 _) (by decide) rfl (fun ls hl => ?_)
  refine lv_goto (tgt := 2) hx hb d_Mem_copyWords_22 (by decide) ?_
  refine lv_iload_n hx hb d_Mem_copyWords_2 rfl (lv_at hl 0 rfl) ?_
  refine lv_iconst (v := (nI 4)) hx hb d_Mem_copyWords_3 (by decide) ?_
  refine k_geN (tgt := 25) (by decide) (by decide) hx hb d_Mem_copyWords_4 (by decide) (fun h9 => absurd h9 (by decide)) (fun _ => ?_)
  refine lv_aload_n hx hb d_Mem_copyWords_7 rfl (lv_at hl 1 rfl) ?_
  refine lv_iload_n hx hb d_Mem_copyWords_8 rfl (lv_at hl 3 rfl) ?_
  refine lv_iload_n hx hb d_Mem_copyWords_9 rfl (lv_at hl 0 rfl) ?_
  refine lv_aload_n hx hb d_Mem_copyWords_10 rfl (lv_at hl 1 rfl) ?_
  refine lv_iload_n hx hb d_Mem_copyWords_11 rfl (lv_at hl 2 rfl) ?_
  refine lv_iload_n hx hb d_Mem_copyWords_12 rfl (lv_at hl 0 rfl) ?_
  refine k_callR (k_atV (As := [.int (nI g), .int (nI 2)]) hx hb hown hE.1 (K0.w tw_360) (hts _ tw_357) (hts _ tw_358) (hts _ tw_359) (hts _ tw_2) (by decide) np_Mem_word (va_recv hK hP (ci := nMem) (q0 := 1) rfl rfl) rfl d_Mem_copyWords_13) (c_Mem_word K0 ad r σ2 g 2 (by omega) (by omega)) (hl.1.trans hml.symm) (Nat.le_of_ble_eq_true rfl) ⟨Nat.le_of_ble_eq_true rfl, Nat.le_of_ble_eq_true rfl, Nat.le_of_ble_eq_true rfl, Nat.le_of_ble_eq_true rfl⟩ (fun U hU hW => ⟨hE.go hW hU hS, by rw [hU]; exact hP, hD⟩) ?_
  refine k_callW (k_atV (As := [.int (nI h), .int (nI 2), .int (σ2.2 0 (g * 4 + 2))]) hx hb hown hE.1 (K0.w tw_46) (hts _ tw_43) (hts _ tw_44) (hts _ tw_45) (hts _ tw_2) (by decide) np_Mem_setWord (va_recv hK hP (ci := nMem) (q0 := 1) rfl rfl) rfl d_Mem_copyWords_16) (c_Mem_setWord K0 ad r σ2 h 2 (σ2.2 0 (g * 4 + 2)) (by omega) (by omega)) (hl.1.trans hml.symm) (Nat.le_of_ble_eq_true rfl) ⟨Nat.le_of_ble_eq_true rfl, Nat.le_of_ble_eq_true rfl, Nat.le_of_ble_eq_true rfl, Nat.le_of_ble_eq_true rfl⟩ (fun U hU hW => ⟨hE.go hW hU hS, by rw [hU]; exact hP, hD⟩) hS (fun H locs hP hD hS => ?_)
  obtain ⟨σ3, eσ3⟩ : ∃ z : kS, z = (sw σ2 0 (h * 4 + 2) (σ2.2 0 (g * 4 + 2))) := ⟨_, rfl⟩
  have hP : va_P D vwCl (wC ad cI r σ3) H := by rw [eσ3]; exact hP
  have hD : va_D (kA s0) (wC ad cI r σ3) := by rw [eσ3]; exact hD
  refine lv_iinc (v := (nI 3)) (lv' := [(3, .int (nI 3)), (0, .ref (ad 1)), (1, .int (nI g)), (2, .int (nI h))]) hx hb d_Mem_copyWords_19 hl (k := 0) rfl (nI_1 _) (by decide) rfl (fun ls hl => ?_)
  refine lv_goto (tgt := 2) hx hb d_Mem_copyWords_22 (by decide) ?_
  refine lv_iload_n hx hb d_Mem_copyWords_2 rfl (lv_at hl 0 rfl) ?_
  refine lv_iconst (v := (nI 4)) hx hb d_Mem_copyWords_3 (by decide) ?_
  refine k_geN (tgt := 25) (by decide) (by decide) hx hb d_Mem_copyWords_4 (by decide) (fun h9 => absurd h9 (by decide)) (fun _ => ?_)
  refine lv_aload_n hx hb d_Mem_copyWords_7 rfl (lv_at hl 1 rfl) ?_
  refine lv_iload_n hx hb d_Mem_copyWords_8 rfl (lv_at hl 3 rfl) ?_
  refine lv_iload_n hx hb d_Mem_copyWords_9 rfl (lv_at hl 0 rfl) ?_
  refine lv_aload_n hx hb d_Mem_copyWords_10 rfl (lv_at hl 1 rfl) ?_
  refine lv_iload_n hx hb d_Mem_copyWords_11 rfl (lv_at hl 2 rfl) ?_
  refine lv_iload_n hx hb d_Mem_copyWords_12 rfl (lv_at hl 0 rfl) ?_
  refine k_callR (k_atV (As := [.int (nI g), .int (nI 3)]) hx hb hown hE.1 (K0.w tw_360) (hts _ tw_357) (hts _ tw_358) (hts _ tw_359) (hts _ tw_2) (by decide) np_Mem_word (va_recv hK hP (ci := nMem) (q0 := 1) rfl rfl) rfl d_Mem_copyWords_13) (c_Mem_word K0 ad r σ3 g 3 (by omega) (by omega)) (hl.1.trans hml.symm) (Nat.le_of_ble_eq_true rfl) ⟨Nat.le_of_ble_eq_true rfl, Nat.le_of_ble_eq_true rfl, Nat.le_of_ble_eq_true rfl, Nat.le_of_ble_eq_true rfl⟩ (fun U hU hW => ⟨hE.go hW hU hS, by rw [hU]; exact hP, hD⟩) ?_
  refine k_callW (k_atV (As := [.int (nI h), .int (nI 3), .int (σ3.2 0 (g * 4 + 3))]) hx hb hown hE.1 (K0.w tw_46) (hts _ tw_43) (hts _ tw_44) (hts _ tw_45) (hts _ tw_2) (by decide) np_Mem_setWord (va_recv hK hP (ci := nMem) (q0 := 1) rfl rfl) rfl d_Mem_copyWords_16) (c_Mem_setWord K0 ad r σ3 h 3 (σ3.2 0 (g * 4 + 3)) (by omega) (by omega)) (hl.1.trans hml.symm) (Nat.le_of_ble_eq_true rfl) ⟨Nat.le_of_ble_eq_true rfl, Nat.le_of_ble_eq_true rfl, Nat.le_of_ble_eq_true rfl, Nat.le_of_ble_eq_true rfl⟩ (fun U hU hW => ⟨hE.go hW hU hS, by rw [hU]; exact hP, hD⟩) hS (fun H locs hP hD hS => ?_)
  obtain ⟨σ4, eσ4⟩ : ∃ z : kS, z = (sw σ3 0 (h * 4 + 3) (σ3.2 0 (g * 4 + 3))) := ⟨_, rfl⟩
  have hP : va_P D vwCl (wC ad cI r σ4) H := by rw [eσ4]; exact hP
  have hD : va_D (kA s0) (wC ad cI r σ4) := by rw [eσ4]; exact hD
  refine lv_iinc (v := (nI 4)) (lv' := [(3, .int (nI 4)), (0, .ref (ad 1)), (1, .int (nI g)), (2, .int (nI h))]) hx hb d_Mem_copyWords_19 hl (k := 0) rfl (nI_1 _) (by decide) rfl (fun ls hl => ?_)
  refine lv_goto (tgt := 2) hx hb d_Mem_copyWords_22 (by decide) ?_
  refine lv_iload_n hx hb d_Mem_copyWords_2 rfl (lv_at hl 0 rfl) ?_
  refine lv_iconst (v := (nI 4)) hx hb d_Mem_copyWords_3 (by decide) ?_
  refine k_geN (tgt := 25) (by decide) (by decide) hx hb d_Mem_copyWords_4 (by decide) (fun _ => ?_) (fun h9 => absurd h9 (by decide))
  exact k_retWV hx hb hr hlocks d_Mem_copyWords_25 hP hD hS (by subst eσ4 eσ3 eσ2 eσ1; rfl)
set_option maxHeartbeats 4000000 in
set_option maxRecDepth 100000 in
theorem c_Pip_removeFirst {l : Launch} {s0 : State} {a0 : Array Value} {D : va_G} {cI cL : ClassId} (K0 : k0 l s0 a0 D cI cL) (ad : Nat → Nat) (r : va_W) (σ : kS) (u : Nat) (hu : u < 3) (hz : σ.1 10 u < 5) (hz0 : σ.1 10 u ≠ 0) : kMet l y_Pip_removeFirst (Cond.code y_Pip_removeFirst b_Pip_removeFirst 4 (some .int)) (rmL 0) [.ref (ad 3), .int (nI u)] (kPre D vwCl s0 (wC ad cI r) σ) (.ok (some (.int (σ.2 1 (u * 4))), m_rem σ u)) (kBw D vwCl s0 (wC ad cI r)) := by
  refine k_of (by decide) (Nat.le_of_ble_eq_true rfl) ?_
  intro p e9 s m below meth c hx hb hr hlocks hown hml hex hpre ls hl
  obtain ⟨hE, hP, hD⟩ := hpre
  obtain ⟨hts, hK⟩ := K0.at (args := ([.ref (ad 3), .int (nI u)] : List Value).toArray) hE
  have hl : lv_has ls 4 [(0, .ref (ad 3)), (1, .int (nI u))] := hl
  have hS : va_S (kA s0) s.heap s.heap [] := va_S.rf
  refine lv_aload_n hx hb d_Pip_removeFirst_0 rfl (lv_at hl 0 rfl) ?_
  refine va_get (D := D) (ci := nPip) (v := .ref (ad 16)) (C := R_Pip) (T := T_Pip) (N := 2) hx hb hts i_Pip hown hK hP 3 rfl rfl 1 (by decide) (hts _ tw_108) (fun _ h9 => h9) rfl d_Pip_removeFirst_1 ?_
  refine lv_iload_n hx hb d_Pip_removeFirst_4 rfl (lv_at hl 1 rfl) ?_
  refine lv_iconst (v := (nI 4)) hx hb d_Pip_removeFirst_5 (by decide) ?_
  refine k_mulN hx hb d_Pip_removeFirst_6 ?_
  refine k_aldI (q0 := 16) (t0 := 0) hx hb hK hP rfl rfl (by omega) (by decide) d_Pip_removeFirst_7 ?_
  refine lv_istore_n (lv' := [(2, .int (σ.2 1 (u * 4))), (0, .ref (ad 3)), (1, .int (nI u))]) hx hb d_Pip_removeFirst_8 rfl hl (by decide) rfl (fun ls hl => ?_)
  refine lv_aload_n hx hb d_Pip_removeFirst_9 rfl (lv_at hl 1 rfl) ?_
  refine va_get (D := D) (ci := nPip) (v := .ref (ad 15)) (C := R_Pip) (T := T_Pip) (N := 2) hx hb hts i_Pip hown hK hP 3 rfl rfl 0 (by decide) (hts _ tw_107) (fun _ h9 => h9) rfl d_Pip_removeFirst_10 ?_
  refine lv_iload_n hx hb d_Pip_removeFirst_13 rfl (lv_at hl 2 rfl) ?_
  refine lv_dup2_11 hx hb d_Pip_removeFirst_14 rfl rfl ?_
  refine k_aldN (q0 := 15) (t0 := 0) hx hb hK hP rfl rfl (by omega) (by decide) d_Pip_removeFirst_15 ?_
  refine lv_iconst (v := (nI 1)) hx hb d_Pip_removeFirst_16 (by decide) ?_
  refine k_subN (by omega) hx hb d_Pip_removeFirst_17 ?_
  refine k_astN (q0 := 15) (t0 := 0) hx hb hK hP hD hS rfl rfl (by omega) (by decide) d_Pip_removeFirst_18 (fun H locs hP hD hS => ?_)
  obtain ⟨σ1, eσ1⟩ : ∃ z : kS, z = (st σ 10 u ((σ.1 10 u) - 1)) := ⟨_, rfl⟩
  have hP : va_P D vwCl (wC ad cI r σ1) H := by rw [eσ1]; exact hP
  have hD : va_D (kA s0) (wC ad cI r σ1) := by rw [eσ1]; exact hD
  refine lv_iconst (v := (nI 0)) hx hb d_Pip_removeFirst_19 (by decide) ?_
  refine lv_istore_n (lv' := [(3, .int (nI 0)), (2, .int (σ.2 1 (u * 4))), (0, .ref (ad 3)), (1, .int (nI u))]) hx hb d_Pip_removeFirst_20 rfl hl (by decide) rfl (fun ls hl => ?_)
  have L : ∀ (n i : Nat), 0 ≤ i → i + n = (σ.1 10 u - 1) → ∀ (H : Heap) (locs : List Loc) (ls : Array Slot), va_P D vwCl (wC ad cI r (sh σ1 u i)) H → va_D (kA s0) (wC ad cI r (sh σ1 u i)) → va_S (kA s0) s.heap H locs → lv_has ls 4 [(3, .int (nI i)), (2, .int (σ.2 1 (u * 4))), (0, .ref (ad 3)), (1, .int (nI u))] → W p l e9 (rmL 0) s m ([.ref (ad 3), .int (nI u)] : List Value).toArray below meth c H locs 0 0 (kE below (.ok (some (.int (σ.2 1 (u * 4))), m_rem σ u)) (kBw D vwCl s0 (wC ad cI r)) s) (F0 m 21 ls []) := by
    intro n
    induction n with
    | zero =>
      intro i hi0 hi H locs ls hP hD hS hl
      obtain rfl : i = (σ.1 10 u - 1) := by omega
      obtain ⟨σ2, eσ2⟩ : ∃ z : kS, z = (sh σ1 u (σ.1 10 u - 1)) := ⟨_, rfl⟩
      rw [← eσ2] at hP hD
      have hv : σ2.1 10 u = σ.1 10 u - 1 := by rw [eσ2, sh_1, eσ1]; simp [st, va_up]
      refine lv_iload_n hx hb d_Pip_removeFirst_21 rfl (lv_at hl 0 rfl) ?_
      refine lv_aload_n hx hb d_Pip_removeFirst_22 rfl (lv_at hl 2 rfl) ?_
      refine va_get (D := D) (ci := nPip) (v := .ref (ad 15)) (C := R_Pip) (T := T_Pip) (N := 2) hx hb hts i_Pip hown hK hP 3 rfl rfl 0 (by decide) (hts _ tw_107) (fun _ h9 => h9) rfl d_Pip_removeFirst_23 ?_
      refine lv_iload_n hx hb d_Pip_removeFirst_26 rfl (lv_at hl 3 rfl) ?_
      refine k_aldN (q0 := 15) (t0 := 0) hx hb hK hP rfl rfl (by omega) (by decide) d_Pip_removeFirst_27 ?_
      refine k_geN (tgt := 59) (by omega) (by omega) hx hb d_Pip_removeFirst_28 (by decide) (fun _ => ?_) (fun h9 => absurd h9 (by omega))
      refine lv_iload_n hx hb d_Pip_removeFirst_59 rfl (lv_at hl 1 rfl) ?_
      exact k_retWI hx hb hr hlocks d_Pip_removeFirst_60 hP hD hS (by rw [eσ2, eσ1]; rfl)
    | succ n ih =>
      intro i hi0 hi H locs ls hP hD hS hl
      have hlt : i < (σ.1 10 u - 1) := by omega
      obtain ⟨σ3, eσ3⟩ : ∃ z : kS, z = (sh σ1 u i) := ⟨_, rfl⟩
      rw [← eσ3] at hP hD
      have hv : σ3.1 10 u = σ.1 10 u - 1 := by rw [eσ3, sh_1, eσ1]; simp [st, va_up]
      refine lv_iload_n hx hb d_Pip_removeFirst_21 rfl (lv_at hl 0 rfl) ?_
      refine lv_aload_n hx hb d_Pip_removeFirst_22 rfl (lv_at hl 2 rfl) ?_
      refine va_get (D := D) (ci := nPip) (v := .ref (ad 15)) (C := R_Pip) (T := T_Pip) (N := 2) hx hb hts i_Pip hown hK hP 3 rfl rfl 0 (by decide) (hts _ tw_107) (fun _ h9 => h9) rfl d_Pip_removeFirst_23 ?_
      refine lv_iload_n hx hb d_Pip_removeFirst_26 rfl (lv_at hl 3 rfl) ?_
      refine k_aldN (q0 := 15) (t0 := 0) hx hb hK hP rfl rfl (by omega) (by decide) d_Pip_removeFirst_27 ?_
      refine k_geN (tgt := 59) (by omega) (by omega) hx hb d_Pip_removeFirst_28 (by decide) (fun h9 => absurd h9 (by omega)) (fun _ => ?_)
      refine lv_aload_n hx hb d_Pip_removeFirst_31 rfl (lv_at hl 2 rfl) ?_
      refine va_get (D := D) (ci := nPip) (v := .ref (ad 16)) (C := R_Pip) (T := T_Pip) (N := 2) hx hb hts i_Pip hown hK hP 3 rfl rfl 1 (by decide) (hts _ tw_108) (fun _ h9 => h9) rfl d_Pip_removeFirst_32 ?_
      refine lv_iload_n hx hb d_Pip_removeFirst_35 rfl (lv_at hl 3 rfl) ?_
      refine lv_iconst (v := (nI 4)) hx hb d_Pip_removeFirst_36 (by decide) ?_
      refine k_mulN hx hb d_Pip_removeFirst_37 ?_
      refine lv_iload_n hx hb d_Pip_removeFirst_38 rfl (lv_at hl 0 rfl) ?_
      refine k_addN hx hb d_Pip_removeFirst_39 ?_
      refine lv_aload_n hx hb d_Pip_removeFirst_40 rfl (lv_at hl 2 rfl) ?_
      refine va_get (D := D) (ci := nPip) (v := .ref (ad 16)) (C := R_Pip) (T := T_Pip) (N := 2) hx hb hts i_Pip hown hK hP 3 rfl rfl 1 (by decide) (hts _ tw_108) (fun _ h9 => h9) rfl d_Pip_removeFirst_41 ?_
      refine lv_iload_n hx hb d_Pip_removeFirst_44 rfl (lv_at hl 3 rfl) ?_
      refine lv_iconst (v := (nI 4)) hx hb d_Pip_removeFirst_45 (by decide) ?_
      refine k_mulN hx hb d_Pip_removeFirst_46 ?_
      refine lv_iload_n hx hb d_Pip_removeFirst_47 rfl (lv_at hl 0 rfl) ?_
      refine k_addN hx hb d_Pip_removeFirst_48 ?_
      refine lv_iconst (v := (nI 1)) hx hb d_Pip_removeFirst_49 (by decide) ?_
      refine k_addN hx hb d_Pip_removeFirst_50 ?_
      refine k_aldI (q0 := 16) (t0 := 0) hx hb hK hP rfl rfl (by omega) (by decide) d_Pip_removeFirst_51 ?_
      refine k_astI (q0 := 16) (t0 := 0) hx hb hK hP hD hS rfl rfl (by omega) (by decide) d_Pip_removeFirst_52 (fun H locs hP hD hS => ?_)
      obtain ⟨σ4, eσ4⟩ : ∃ z : kS, z = (sw σ3 1 ((u * 4) + i) (σ3.2 1 (((u * 4) + i) + 1))) := ⟨_, rfl⟩
      have hP : va_P D vwCl (wC ad cI r σ4) H := by rw [eσ4]; exact hP
      have hD : va_D (kA s0) (wC ad cI r σ4) := by rw [eσ4]; exact hD
      refine lv_iinc (v := (nI (i + 1))) (lv' := [(3, .int (nI (i + 1))), (2, .int (σ.2 1 (u * 4))), (0, .ref (ad 3)), (1, .int (nI u))]) hx hb d_Pip_removeFirst_53 hl (k := 0) rfl (nI_1 _) (by decide) rfl (fun ls hl => ?_)
      refine lv_goto (tgt := 21) hx hb d_Pip_removeFirst_56 (by decide) ?_
      exact ih (i + 1) (by omega) (by omega) H locs ls (by unfold sh; rw [← eσ3, ← eσ4]; exact hP) (by unfold sh; rw [← eσ3, ← eσ4]; exact hD) hS (by exact lv_sub hl [0, 1, 2, 3] rfl)
  exact L ((σ.1 10 u - 1) - 0) 0 (by omega) (by omega) H _ ls hP hD hS (lv_sub hl [0, 1, 2, 3] rfl)
