/-! The law's switch. Laid by a program of mine (wip/gen/law.py). -/
set_option maxHeartbeats 4000000 in
set_option maxRecDepth 100000 in
theorem lc_switch {p : Program} {l : Launch} {e : Env} {s : State} {m : MethodId} {below : List Frame} {meth : Method} {c : Code} {b L : Nat} {xs : Nat → Int32} {D : va_G} {cI cL : ClassId} {Q : State → Prop} {ad : Nat → Nat} (hC : lK p l s m meth c b L xs D cI cL) {i cells slots : Nat} (hi : i + 5 ≤ L) (hce : cells + 2 ≤ room_1.cells) (hsl : slots + 12 ≤ room_1.slots) (kk : lGo p l e s m below meth c b D cI cL Q ad i 1648 (cells + 1) (slots + 6)) : lGo p l e s m below meth c b D cI cL Q ad i 32 cells slots := by
  have hC0 := hC
  obtain ⟨K0, KC, hx, hb, hr, hml, hown, hX, hbl, hlocks, hL⟩ := hC
  intro σ τ oo H locs ls hI
  have hI0 := hI
  obtain ⟨hR, hP, hD, hS, hl⟩ := hI
  have hbA : ¬ kA s b := Nat.not_le.mpr hbl
  refine lv_aload_n hx hb d_Law_law_32 rfl (lv_at hl 0 rfl) ?_
  refine lv_iload hx hb d_Law_law_33 (lv_at hl 4 rfl) ?_
  refine k_scr hx hb hX hbl hbA hS (show i < L by omega) hL d_Law_law_35 ?_
  refine lv_bipush (v := nI 31) hx hb d_Law_law_36 (by decide) ?_
  refine lv_iand hx hb d_Law_law_38 ?_
  obtain ⟨n, hn, en⟩ := pk_andE (xs i) (m := nI 31) 5 (by decide +kernel)
  rw [en]
  rcases Nat.lt_or_ge n 22 with h22 | h22
  · rcases (show ∀ n, n < 22 → (n = 0 ∨ n = 1 ∨ n = 2 ∨ n = 3 ∨ n = 4 ∨ n = 5 ∨ n = 6 ∨ n = 7 ∨ n = 8 ∨ n = 9 ∨ n = 10 ∨ n = 11 ∨ n = 12 ∨ n = 13 ∨ n = 14 ∨ n = 15 ∨ n = 16 ∨ n = 17 ∨ n = 18 ∨ n = 19 ∨ n = 20 ∨ n = 21) by decide) n h22 with rfl | rfl | rfl | rfl | rfl | rfl | rfl | rfl | rfl | rfl | rfl | rfl | rfl | rfl | rfl | rfl | rfl | rfl | rfl | rfl | rfl | rfl
    · exact lv_tableIn (off := 101) (tgt := 140) hx hb d_Law_law_39 (by decide +kernel) (by decide +kernel) (by decide +kernel) (by decide) (lc_spawn hC0 hi hce hsl kk σ τ oo H locs ls hI0)
    · exact lv_tableIn (off := 169) (tgt := 208) hx hb d_Law_law_39 (by decide +kernel) (by decide +kernel) (by decide +kernel) (by decide) (lc_table hC0 hi hce hsl kk σ τ oo H locs ls hI0)
    · exact lv_tableIn (off := 261) (tgt := 300) hx hb d_Law_law_39 (by decide +kernel) (by decide +kernel) (by decide +kernel) (by decide) (lc_frame hC0 hi hce hsl kk σ τ oo H locs ls hI0)
    · exact lv_tableIn (off := 353) (tgt := 392) hx hb d_Law_law_39 (by decide +kernel) (by decide +kernel) (by decide +kernel) (by decide) (lc_protect hC0 hi hce hsl kk σ τ oo H locs ls hI0)
    · exact lv_tableIn (off := 433) (tgt := 472) hx hb d_Law_law_39 (by decide +kernel) (by decide +kernel) (by decide +kernel) (by decide) (lc_copy hC0 hi hce hsl kk σ τ oo H locs ls hI0)
    · exact lv_tableIn (off := 501) (tgt := 540) hx hb d_Law_law_39 (by decide +kernel) (by decide +kernel) (by decide +kernel) (by decide) (lc_release hC0 hi hce hsl kk σ τ oo H locs ls hI0)
    · exact lv_tableIn (off := 569) (tgt := 608) hx hb d_Law_law_39 (by decide +kernel) (by decide +kernel) (by decide +kernel) (by decide) (lc_start hC0 hi hce hsl kk σ τ oo H locs ls hI0)
    · exact lv_tableIn (off := 625) (tgt := 664) hx hb d_Law_law_39 (by decide +kernel) (by decide +kernel) (by decide +kernel) (by decide) (lc_give hC0 hi hce hsl kk σ τ oo H locs ls hI0)
    · exact lv_tableIn (off := 681) (tgt := 720) hx hb d_Law_law_39 (by decide +kernel) (by decide +kernel) (by decide +kernel) (by decide) (lc_kill hC0 hi hce hsl kk σ τ oo H locs ls hI0)
    · exact lv_tableIn (off := 737) (tgt := 776) hx hb d_Law_law_39 (by decide +kernel) (by decide +kernel) (by decide +kernel) (by decide) (lc_reap hC0 hi hce hsl kk σ τ oo H locs ls hI0)
    · exact lv_tableIn (off := 793) (tgt := 832) hx hb d_Law_law_39 (by decide +kernel) (by decide +kernel) (by decide +kernel) (by decide) (lc_open hC0 hi hce hsl kk σ τ oo H locs ls hI0)
    · exact lv_tableIn (off := 873) (tgt := 912) hx hb d_Law_law_39 (by decide +kernel) (by decide +kernel) (by decide +kernel) (by decide) (lc_share hC0 hi hce hsl kk σ τ oo H locs ls hI0)
    · exact lv_tableIn (off := 953) (tgt := 992) hx hb d_Law_law_39 (by decide +kernel) (by decide +kernel) (by decide +kernel) (by decide) (lc_close hC0 hi hce hsl kk σ τ oo H locs ls hI0)
    · exact lv_tableIn (off := 1021) (tgt := 1060) hx hb d_Law_law_39 (by decide +kernel) (by decide +kernel) (by decide +kernel) (by decide) (lc_put hC0 hi hce hsl kk σ τ oo H locs ls hI0)
    · exact lv_tableIn (off := 1089) (tgt := 1128) hx hb d_Law_law_39 (by decide +kernel) (by decide +kernel) (by decide +kernel) (by decide) (lc_take hC0 hi hce hsl kk σ τ oo H locs ls hI0)
    · exact lv_tableIn (off := 1157) (tgt := 1196) hx hb d_Law_law_39 (by decide +kernel) (by decide +kernel) (by decide +kernel) (by decide) (lc_read hC0 hi hce hsl kk σ τ oo H locs ls hI0)
    · exact lv_tableIn (off := 1213) (tgt := 1252) hx hb d_Law_law_39 (by decide +kernel) (by decide +kernel) (by decide +kernel) (by decide) (lc_write hC0 hi hce hsl kk σ τ oo H locs ls hI0)
    · exact lv_tableIn (off := 1281) (tgt := 1320) hx hb d_Law_law_39 (by decide +kernel) (by decide +kernel) (by decide +kernel) (by decide) (lc_expect hC0 hi hce hsl kk σ τ oo H locs ls hI0)
    · exact lv_tableIn (off := 1349) (tgt := 1388) hx hb d_Law_law_39 (by decide +kernel) (by decide +kernel) (by decide +kernel) (by decide) (lc_send hC0 hi hce hsl kk σ τ oo H locs ls hI0)
    · exact lv_tableIn (off := 1417) (tgt := 1456) hx hb d_Law_law_39 (by decide +kernel) (by decide +kernel) (by decide +kernel) (by decide) (lc_process hC0 hi hce hsl kk σ τ oo H locs ls hI0)
    · exact lv_tableIn (off := 1485) (tgt := 1524) hx hb d_Law_law_39 (by decide +kernel) (by decide +kernel) (by decide +kernel) (by decide) (lc_page hC0 hi hce hsl kk σ τ oo H locs ls hI0)
    · exact lv_tableIn (off := 1553) (tgt := 1592) hx hb d_Law_law_39 (by decide +kernel) (by decide +kernel) (by decide +kernel) (by decide) (lc_count hC0 hi hce hsl kk σ τ oo H locs ls hI0)
  · refine lv_tableOut (tgt := 1648) hx hb d_Law_law_39 (Or.inr (by rw [nI_toInt (by omega)]; omega)) (by decide) ?_
    exact W.widen (Nat.le_add_right _ _) (Nat.le_add_right _ _) (kk σ τ oo H locs ls hI0)
