/-! The reference: a number within two others. -/
set_option maxHeartbeats 4000000 in
set_option maxRecDepth 100000 in
theorem c_Mod_in {l : Launch} {s0 : State} {a0 : Array Value} {D : va_G} {cI cL : ClassId} (K0 : k0 l s0 a0 D cI cL) (ad : Nat → Nat) (κ : kS) (o : va_W) (σ : kS) (x : Int32) (lo hi : Nat) (h1 : lo < 2 ^ 30) (h2 : hi < 2 ^ 30) : kMet l y_Mod_in (Cond.code y_Mod_in b_Mod_in 3 (some .boolean)) (rmL 0) [.int x, .int (nI lo), .int (nI hi)] (kPre D vwCl s0 (wX ad cI κ o) σ) (.ok (some (.int (nI (b2n (rg x lo hi).isSome))), ())) kBr := by
  refine k_of (by decide) (Nat.le_of_ble_eq_true rfl) ?_
  intro p e9 s m below meth c hx hb hr hlocks hown hml hex hpre ls hl
  have hl : lv_has ls 3 [(0, .int x), (1, .int (nI lo)), (2, .int (nI hi))] := hl
  refine lv_iload_n hx hb d_Mod_in_0 rfl (lv_at hl 0 rfl) ?_
  refine lv_iload_n hx hb d_Mod_in_1 rfl (lv_at hl 1 rfl) ?_
  have k0 : rg x lo hi = none → W p l e9 (rmL 0) s m ([.int x, .int (nI lo), .int (nI hi)] : List Value).toArray below meth c s.heap [] 0 0 (kE below (.ok (some (.int (nI (b2n (rg x lo hi).isSome))), ())) kBr s) (F0 m 14 ls []) := fun hn => by
    refine lv_iconst (v := nI 0) hx hb d_Mod_in_14 (by decide) ?_
    exact k_retZ hx hb hr hlocks (by decide) d_Mod_in_15 (by rw [hn]; rfl)
  refine lv_icmp_lt (tgt := 14) hx hb d_Mod_in_2 (by decide) (fun h => k0 (rg_lo h1 h)) (fun ha => ?_)
  refine lv_iload_n hx hb d_Mod_in_5 rfl (lv_at hl 0 rfl) ?_
  refine lv_iload_n hx hb d_Mod_in_6 rfl (lv_at hl 2 rfl) ?_
  refine lv_icmp_gt (tgt := 14) hx hb d_Mod_in_7 (by decide) (fun h => k0 (rg_hi h2 (by simpa using h))) (fun h => ?_)
  obtain ⟨q, hq⟩ := rg_of h1 h2 ha (by simpa using h)
  refine lv_iconst (v := nI 1) hx hb d_Mod_in_10 (by decide) ?_
  refine lv_goto (tgt := 15) hx hb d_Mod_in_11 (by decide) ?_
  exact k_retZ hx hb hr hlocks (by decide) d_Mod_in_15 (by rw [hq]; rfl)
