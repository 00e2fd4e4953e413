/-! A number within two others, or IllegalArgumentException. -/
set_option maxHeartbeats 4000000 in
set_option maxRecDepth 100000 in
theorem c_FK_checkWithin {l : Launch} {s0 : State} {a0 : Array Value} {D : va_G} {cI cL : ClassId} (K0 : k0 l s0 a0 D cI cL) (ad : Nat → Nat) (r : va_W) (σ : kS) (x : Int32) (lo hi : Nat) (h1 : lo < 2 ^ 30) (h2 : hi < 2 ^ 30) : kMet l y_FK_checkWithin (Cond.code y_FK_checkWithin b_FK_checkWithin 3 none) (rmL 6) [.int x, .int (nI lo), .int (nI hi)] (kPre D vwCl s0 (wC ad cI r) σ) (inr x lo hi fun _ => .ok (none, ())) kBr := by
  refine k_of (by decide) (Nat.le_of_ble_eq_true rfl) ?_
  intro p e9 s m below meth c hx hb hr hlocks hown hml hex hpre ls hl
  obtain ⟨hE, hP, hD⟩ := hpre
  obtain ⟨hts, hK⟩ := K0.at (args := ([.int x, .int (nI lo), .int (nI hi)] : List Value).toArray) hE
  have hl : lv_has ls 3 [(0, .int x), (1, .int (nI lo)), (2, .int (nI hi))] := hl
  refine lv_iload_n hx hb d_FK_checkWithin_0 rfl (lv_at hl 0 rfl) ?_
  refine lv_iload_n hx hb d_FK_checkWithin_1 rfl (lv_at hl 1 rfl) ?_
  have kthrow : rg x lo hi = none → W p l e9 (rmL 6) s m ([.int x, .int (nI lo), .int (nI hi)] : List Value).toArray below meth c s.heap [] 0 0 (kE below (inr x lo hi fun _ => .ok (none, ())) kBr s) (F0 m 10 ls []) := fun hn =>
    k_throwW hx hb K0.tr hown (text := "a number is out of range") (names := kNames) (by decide +kernel) (by decide +kernel) (hts _ tw_144) (hts _ tw_9) (K0.str hE sr_261) (K0.own hE oa_263) (hl.1.trans hml.symm) d_FK_checkWithin_10 d_FK_checkWithin_13 d_FK_checkWithin_14 d_FK_checkWithin_17 d_FK_checkWithin_20 hex hlocks ⟨Nat.le_of_ble_eq_true rfl, Nat.le_of_ble_eq_true rfl, Nat.le_of_ble_eq_true rfl, Nat.le_of_ble_eq_true rfl⟩ (inr_n hn)
  refine lv_icmp_lt (tgt := 10) hx hb d_FK_checkWithin_2 (by decide) (fun h => kthrow (rg_lo h1 h)) (fun ha => ?_)
  refine lv_iload_n hx hb d_FK_checkWithin_5 rfl (lv_at hl 0 rfl) ?_
  refine lv_iload_n hx hb d_FK_checkWithin_6 rfl (lv_at hl 2 rfl) ?_
  refine lv_icmp_le (tgt := 21) hx hb d_FK_checkWithin_7 (by decide) (fun h => ?_) (fun h => kthrow (rg_hi h2 h))
  obtain ⟨q, hq⟩ := rg_of h1 h2 ha h
  exact k_retV hx hb hr hlocks d_FK_checkWithin_21 (inr_s hq)
