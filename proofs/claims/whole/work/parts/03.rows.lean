/-! Numbers and rows: ints that are naturals (nI), naturals less one (pI), raw ints; arrays of them. -/
def pI (n : Nat) : Int32 := nI n - 1
theorem pI_succ (n : Nat) : pI (n + 1) = nI n := nI_pred n
theorem pI_0 : pI 0 = -1 := by decide +kernel
theorem pI_toInt {n : Nat} (h : n < 2 ^ 30) : (pI n).toInt = (n : Int) - 1 := by
  cases n with
  | zero => decide +kernel
  | succ k => rw [pI_succ, nI_toInt (by omega)]; omega
theorem pI_inj {a b : Nat} (ha : a < 2 ^ 30) (hb : b < 2 ^ 30) : pI a = pI b ↔ a = b := by
  constructor
  · intro h
    have h1 := congrArg Int32.toInt h
    rw [pI_toInt ha, pI_toInt hb] at h1
    omega
  · intro h; rw [h]
theorem pI_nI {a b : Nat} (ha : a < 2 ^ 30) (hb : b + 1 < 2 ^ 30) : pI a = nI b ↔ a = b + 1 := by
  rw [← pI_succ]; exact pI_inj ha hb
def cN (g : Nat → Nat) : Nat → Int32 := fun i => nI (g i)
def cP (g : Nat → Nat) : Nat → Int32 := fun i => pI (g i)
theorem cN_up (g : Nat → Nat) (j v : Nat) : upd (cN g) j (nI v) = cN (va_up g j v) := by
  funext i
  simp only [upd, cN, va_up]
  split <;> rfl
theorem cP_up (g : Nat → Nat) (j v : Nat) : upd (cP g) j (pI v) = cP (va_up g j v) := by
  funext i
  simp only [upd, cP, va_up]
  split <;> rfl
theorem cI_up (g : Nat → Int32) (j : Nat) (v : Int32) : upd g j v = va_up g j v := rfl
/-- an int that lies in lo .. hi, as a natural -/
def rg (x : Int32) (lo hi : Nat) : Option Nat := if (lo : Int) ≤ x.toInt ∧ x.toInt ≤ (hi : Int) then some x.toNatClampNeg else none
theorem rg_some {x : Int32} {lo hi p : Nat} (h : rg x lo hi = some p) : x = nI p ∧ lo ≤ p ∧ p ≤ hi ∧ p < 2 ^ 31 := by
  unfold rg at h
  split at h
  · next hc =>
    have hnn : ¬ x < 0 := by
      rw [Int32.lt_iff_toInt_lt]
      show ¬ x.toInt < 0
      omega
    obtain ⟨j, hj, rfl⟩ := nI_of hnn
    rw [nI_clamp hj] at h
    cases h
    rw [nI_toInt hj] at hc
    exact ⟨rfl, by omega, by omega, hj⟩
  · cases h
theorem rg_nI {p lo hi : Nat} (h : p < 2 ^ 31) : rg (nI p) lo hi = if lo ≤ p ∧ p ≤ hi then some p else none := by
  unfold rg
  rw [nI_toInt h, nI_clamp h]
  by_cases hc : lo ≤ p ∧ p ≤ hi
  · rw [if_pos hc, if_pos (by omega)]
  · rw [if_neg hc, if_neg (by omega)]
theorem rg_none {x : Int32} {lo hi : Nat} (h : rg x lo hi = none) : x.toInt < (lo : Int) ∨ (hi : Int) < x.toInt := by
  unfold rg at h
  split at h
  · cases h
  · omega
section KQ
variable {p : Program} {l : Launch} {e : Env} {R : Room} {s : State} {m : MethodId} {args : Array Value} {below : List Frame} {meth : Method} {c : Code} {H : Heap} {locs : List Loc} {cells slots : Nat} {Q : State → Prop}
variable {cc : ByteArray} {pc : Nat} {ls : Array Slot} {rest : List Value} {D : va_G} {cl : List vw_C} {A : Nat → Prop} {a : Nat} {tys : List (ClassId × FieldType)} {ws : va_W} {H0 : Heap}
theorem k_st {st st' : List Value} (h : st = st') (k : W p l e R s m args below meth c H locs cells slots Q (F0 m pc ls st')) : W p l e R s m args below meth c H locs cells slots Q (F0 m pc ls st) := by rw [h]; exact k
theorem k_addN {x y : Nat} (hx : p.tables.exec = Jvm.exec) (hb : c.code = cc) (hd : decode cc pc = .ok (.iadd, 1)) (k : W p l e R s m args below meth c H locs cells slots Q (F0 m (pc + 1) ls (.int (nI (x + y)) :: rest))) : W p l e R s m args below meth c H locs cells slots Q (F0 m pc ls (.int (nI y) :: .int (nI x) :: rest)) :=
  lv_iadd hx hb hd (by rw [nI_add]; exact k)
theorem k_mulN {x y : Nat} (hx : p.tables.exec = Jvm.exec) (hb : c.code = cc) (hd : decode cc pc = .ok (.imul, 1)) (k : W p l e R s m args below meth c H locs cells slots Q (F0 m (pc + 1) ls (.int (nI (x * y)) :: rest))) : W p l e R s m args below meth c H locs cells slots Q (F0 m pc ls (.int (nI y) :: .int (nI x) :: rest)) :=
  lv_imul hx hb hd (by rw [pk_mul]; exact k)
theorem k_mulC {x y : Nat} (hx : p.tables.exec = Jvm.exec) (hb : c.code = cc) (hd : decode cc pc = .ok (.imul, 1)) (k : W p l e R s m args below meth c H locs cells slots Q (F0 m (pc + 1) ls (.int (nI (y * x)) :: rest))) : W p l e R s m args below meth c H locs cells slots Q (F0 m pc ls (.int (nI y) :: .int (nI x) :: rest)) :=
  k_mulN hx hb hd (by rw [Nat.mul_comm]; exact k)
theorem k_subN {x y : Nat} (h : y ≤ x) (hx : p.tables.exec = Jvm.exec) (hb : c.code = cc) (hd : decode cc pc = .ok (.isub, 1)) (k : W p l e R s m args below meth c H locs cells slots Q (F0 m (pc + 1) ls (.int (nI (x - y)) :: rest))) : W p l e R s m args below meth c H locs cells slots Q (F0 m pc ls (.int (nI y) :: .int (nI x) :: rest)) :=
  lv_isub hx hb hd (by rw [pk_sub h]; exact k)
theorem k_divN {x y : Nat} (h1 : x < 2 ^ 31) (h2 : 0 < y) (h3 : y < 2 ^ 31) (hx : p.tables.exec = Jvm.exec) (hb : c.code = cc) (hd : decode cc pc = .ok (.idiv, 1)) (k : W p l e R s m args below meth c H locs cells slots Q (F0 m (pc + 1) ls (.int (nI (x / y)) :: rest))) : W p l e R s m args below meth c H locs cells slots Q (F0 m pc ls (.int (nI y) :: .int (nI x) :: rest)) :=
  lv_idiv hx hb hd (nI_ne0 h2 h3) (by rw [pk_div h1 h2 h3]; exact k)
theorem k_remN {x y : Nat} (h1 : x < 2 ^ 31) (h2 : 0 < y) (h3 : y < 2 ^ 31) (hx : p.tables.exec = Jvm.exec) (hb : c.code = cc) (hd : decode cc pc = .ok (.irem, 1)) (k : W p l e R s m args below meth c H locs cells slots Q (F0 m (pc + 1) ls (.int (nI (x % y)) :: rest))) : W p l e R s m args below meth c H locs cells slots Q (F0 m pc ls (.int (nI y) :: .int (nI x) :: rest)) :=
  lv_irem hx hb hd (nI_ne0 h2 h3) (by rw [pk_rem h1 h2 h3]; exact k)
theorem k_nxand (a b : Nat) : nI a &&& nI b = nI (a &&& b) := by
  apply Int32.toBitVec_inj.mp
  show BitVec.ofNat 32 a &&& BitVec.ofNat 32 b = BitVec.ofNat 32 (a &&& b)
  apply BitVec.eq_of_toNat_eq
  simp [BitVec.toNat_and, Nat.and_mod_two_pow]
theorem k_andN {x y : Nat} (hx : p.tables.exec = Jvm.exec) (hb : c.code = cc) (hd : decode cc pc = .ok (.iand, 1)) (k : W p l e R s m args below meth c H locs cells slots Q (F0 m (pc + 1) ls (.int (nI (x &&& y)) :: rest))) : W p l e R s m args below meth c H locs cells slots Q (F0 m pc ls (.int (nI y) :: .int (nI x) :: rest)) :=
  lv_iand hx hb hd (by rw [k_nxand]; exact k)
/-! loads and stores -/
theorem k_aldN {q0 t0 : Nat} {cA : ClassId} {n j : Nat} {g : Nat → Nat} (hx : p.tables.exec = Jvm.exec) (hb : c.code = cc) (hK : va_K D cl tys s) (hP : va_P D cl ws H) (ha : ws[q0]? = some (a, .inl (cA, n, .inl (cN g)))) (ht : tys[t0]? = some (cA, .int)) (hj : j < n) (hn : n < 2 ^ 31) (hd : decode cc pc = .ok (.iaload, 1))
    (k : W p l e R s m args below meth c H locs cells slots Q (F0 m (pc + 1) ls (.int (nI (g j)) :: rest))) : W p l e R s m args below meth c H locs cells slots Q (F0 m pc ls (.int (nI j) :: .ref a :: rest)) :=
  va_iald hx hb hK hP q0 t0 ha ht (vp_in_nI hj hn) hd (by rw [nI_clamp (Nat.lt_trans hj hn)]; exact k)
theorem k_aldP {q0 t0 : Nat} {cA : ClassId} {n j : Nat} {g : Nat → Nat} (hx : p.tables.exec = Jvm.exec) (hb : c.code = cc) (hK : va_K D cl tys s) (hP : va_P D cl ws H) (ha : ws[q0]? = some (a, .inl (cA, n, .inl (cP g)))) (ht : tys[t0]? = some (cA, .int)) (hj : j < n) (hn : n < 2 ^ 31) (hd : decode cc pc = .ok (.iaload, 1))
    (k : W p l e R s m args below meth c H locs cells slots Q (F0 m (pc + 1) ls (.int (pI (g j)) :: rest))) : W p l e R s m args below meth c H locs cells slots Q (F0 m pc ls (.int (nI j) :: .ref a :: rest)) :=
  va_iald hx hb hK hP q0 t0 ha ht (vp_in_nI hj hn) hd (by rw [nI_clamp (Nat.lt_trans hj hn)]; exact k)
theorem k_aldI {q0 t0 : Nat} {cA : ClassId} {n j : Nat} {g : Nat → Int32} (hx : p.tables.exec = Jvm.exec) (hb : c.code = cc) (hK : va_K D cl tys s) (hP : va_P D cl ws H) (ha : ws[q0]? = some (a, .inl (cA, n, .inl g))) (ht : tys[t0]? = some (cA, .int)) (hj : j < n) (hn : n < 2 ^ 31) (hd : decode cc pc = .ok (.iaload, 1))
    (k : W p l e R s m args below meth c H locs cells slots Q (F0 m (pc + 1) ls (.int (g j) :: rest))) : W p l e R s m args below meth c H locs cells slots Q (F0 m pc ls (.int (nI j) :: .ref a :: rest)) :=
  va_iald hx hb hK hP q0 t0 ha ht (vp_in_nI hj hn) hd (by rw [nI_clamp (Nat.lt_trans hj hn)]; exact k)
theorem k_astN {q0 t0 : Nat} {cA : ClassId} {n j v : Nat} {g : Nat → Nat} (hx : p.tables.exec = Jvm.exec) (hb : c.code = cc) (hK : va_K D cl tys s) (hP : va_P D cl ws H) (hD : va_D A ws) (hS : va_S A H0 H locs) (ha : ws[q0]? = some (a, .inl (cA, n, .inl (cN g)))) (ht : tys[t0]? = some (cA, .int)) (hj : j < n) (hn : n < 2 ^ 31) (hd : decode cc pc = .ok (.iastore, 1))
    (k : ∀ (H1 : Heap) (locs1 : List Loc), va_P D cl (ws.set q0 (a, .inl (cA, n, .inl (cN (va_up g j v))))) H1 → va_D A (ws.set q0 (a, .inl (cA, n, .inl (cN (va_up g j v))))) → va_S A H0 H1 locs1 → W p l e R s m args below meth c H1 locs1 cells slots Q (F0 m (pc + 1) ls rest)) : W p l e R s m args below meth c H locs cells slots Q (F0 m pc ls (.int (nI v) :: .int (nI j) :: .ref a :: rest)) :=
  va_iast hx hb hK hP hD hS q0 t0 ha ht (vp_in_nI hj hn) hd (fun H1 locs1 h1 h2 h3 => by
    rw [nI_clamp (Nat.lt_trans hj hn), cN_up] at h1 h2
    exact k H1 locs1 h1 h2 h3)
theorem k_astP {q0 t0 : Nat} {cA : ClassId} {n j v : Nat} {g : Nat → Nat} (hx : p.tables.exec = Jvm.exec) (hb : c.code = cc) (hK : va_K D cl tys s) (hP : va_P D cl ws H) (hD : va_D A ws) (hS : va_S A H0 H locs) (ha : ws[q0]? = some (a, .inl (cA, n, .inl (cP g)))) (ht : tys[t0]? = some (cA, .int)) (hj : j < n) (hn : n < 2 ^ 31) (hd : decode cc pc = .ok (.iastore, 1))
    (k : ∀ (H1 : Heap) (locs1 : List Loc), va_P D cl (ws.set q0 (a, .inl (cA, n, .inl (cP (va_up g j v))))) H1 → va_D A (ws.set q0 (a, .inl (cA, n, .inl (cP (va_up g j v))))) → va_S A H0 H1 locs1 → W p l e R s m args below meth c H1 locs1 cells slots Q (F0 m (pc + 1) ls rest)) : W p l e R s m args below meth c H locs cells slots Q (F0 m pc ls (.int (pI v) :: .int (nI j) :: .ref a :: rest)) :=
  va_iast hx hb hK hP hD hS q0 t0 ha ht (vp_in_nI hj hn) hd (fun H1 locs1 h1 h2 h3 => by
    rw [nI_clamp (Nat.lt_trans hj hn), cP_up] at h1 h2
    exact k H1 locs1 h1 h2 h3)
theorem k_astI {q0 t0 : Nat} {cA : ClassId} {n j : Nat} {v : Int32} {g : Nat → Int32} (hx : p.tables.exec = Jvm.exec) (hb : c.code = cc) (hK : va_K D cl tys s) (hP : va_P D cl ws H) (hD : va_D A ws) (hS : va_S A H0 H locs) (ha : ws[q0]? = some (a, .inl (cA, n, .inl g))) (ht : tys[t0]? = some (cA, .int)) (hj : j < n) (hn : n < 2 ^ 31) (hd : decode cc pc = .ok (.iastore, 1))
    (k : ∀ (H1 : Heap) (locs1 : List Loc), va_P D cl (ws.set q0 (a, .inl (cA, n, .inl (va_up g j v)))) H1 → va_D A (ws.set q0 (a, .inl (cA, n, .inl (va_up g j v)))) → va_S A H0 H1 locs1 → W p l e R s m args below meth c H1 locs1 cells slots Q (F0 m (pc + 1) ls rest)) : W p l e R s m args below meth c H locs cells slots Q (F0 m pc ls (.int v :: .int (nI j) :: .ref a :: rest)) :=
  va_iast hx hb hK hP hD hS q0 t0 ha ht (vp_in_nI hj hn) hd (fun H1 locs1 h1 h2 h3 => by
    rw [nI_clamp (Nat.lt_trans hj hn)] at h1 h2
    exact k H1 locs1 h1 h2 h3)
/-! branches on naturals -/
theorem k_eqN {x y tgt : Nat} {off : Int} (h1 : x < 2 ^ 31) (h2 : y < 2 ^ 31) (hx : p.tables.exec = Jvm.exec) (hb : c.code = cc) (hd : decode cc pc = .ok (.if_icmp .eq off, 3)) (ht : (pc : Int) + off = (tgt : Int))
    (kt : x = y → W p l e R s m args below meth c H locs cells slots Q (F0 m tgt ls rest)) (kf : x ≠ y → W p l e R s m args below meth c H locs cells slots Q (F0 m (pc + 3) ls rest)) : W p l e R s m args below meth c H locs cells slots Q (F0 m pc ls (.int (nI y) :: .int (nI x) :: rest)) :=
  lv_icmp_eq hx hb hd ht (fun h => kt ((nI_eq h1 h2).mp h)) (fun h => kf (fun h9 => h (by rw [h9])))
theorem k_neN {x y tgt : Nat} {off : Int} (h1 : x < 2 ^ 31) (h2 : y < 2 ^ 31) (hx : p.tables.exec = Jvm.exec) (hb : c.code = cc) (hd : decode cc pc = .ok (.if_icmp .ne off, 3)) (ht : (pc : Int) + off = (tgt : Int))
    (kt : x ≠ y → W p l e R s m args below meth c H locs cells slots Q (F0 m tgt ls rest)) (kf : x = y → W p l e R s m args below meth c H locs cells slots Q (F0 m (pc + 3) ls rest)) : W p l e R s m args below meth c H locs cells slots Q (F0 m pc ls (.int (nI y) :: .int (nI x) :: rest)) :=
  lv_icmp_ne hx hb hd ht (fun h => kt (fun h9 => h (by rw [h9]))) (fun h => kf ((nI_eq h1 h2).mp h))
theorem k_eqP {x y tgt : Nat} {off : Int} (h1 : x < 2 ^ 30) (h2 : y < 2 ^ 30) (hx : p.tables.exec = Jvm.exec) (hb : c.code = cc) (hd : decode cc pc = .ok (.if_icmp .eq off, 3)) (ht : (pc : Int) + off = (tgt : Int))
    (kt : x = y → W p l e R s m args below meth c H locs cells slots Q (F0 m tgt ls rest)) (kf : x ≠ y → W p l e R s m args below meth c H locs cells slots Q (F0 m (pc + 3) ls rest)) : W p l e R s m args below meth c H locs cells slots Q (F0 m pc ls (.int (pI y) :: .int (pI x) :: rest)) :=
  lv_icmp_eq hx hb hd ht (fun h => kt ((pI_inj h1 h2).mp h)) (fun h => kf (fun h9 => h (by rw [h9])))
theorem k_neP {x y tgt : Nat} {off : Int} (h1 : x < 2 ^ 30) (h2 : y < 2 ^ 30) (hx : p.tables.exec = Jvm.exec) (hb : c.code = cc) (hd : decode cc pc = .ok (.if_icmp .ne off, 3)) (ht : (pc : Int) + off = (tgt : Int))
    (kt : x ≠ y → W p l e R s m args below meth c H locs cells slots Q (F0 m tgt ls rest)) (kf : x = y → W p l e R s m args below meth c H locs cells slots Q (F0 m (pc + 3) ls rest)) : W p l e R s m args below meth c H locs cells slots Q (F0 m pc ls (.int (pI y) :: .int (pI x) :: rest)) :=
  lv_icmp_ne hx hb hd ht (fun h => kt (fun h9 => h (by rw [h9]))) (fun h => kf ((pI_inj h1 h2).mp h))
theorem k_ltN {x y tgt : Nat} {off : Int} (h1 : x < 2 ^ 31) (h2 : y < 2 ^ 31) (hx : p.tables.exec = Jvm.exec) (hb : c.code = cc) (hd : decode cc pc = .ok (.if_icmp .lt off, 3)) (ht : (pc : Int) + off = (tgt : Int))
    (kt : x < y → W p l e R s m args below meth c H locs cells slots Q (F0 m tgt ls rest)) (kf : y ≤ x → W p l e R s m args below meth c H locs cells slots Q (F0 m (pc + 3) ls rest)) : W p l e R s m args below meth c H locs cells slots Q (F0 m pc ls (.int (nI y) :: .int (nI x) :: rest)) :=
  lv_icmp_lt hx hb hd ht (fun h => kt ((nI_ltI h1 h2).mp h)) (fun h => kf (Nat.le_of_not_lt (fun h9 => h ((nI_ltI h1 h2).mpr h9))))
theorem k_geN {x y tgt : Nat} {off : Int} (h1 : x < 2 ^ 31) (h2 : y < 2 ^ 31) (hx : p.tables.exec = Jvm.exec) (hb : c.code = cc) (hd : decode cc pc = .ok (.if_icmp .ge off, 3)) (ht : (pc : Int) + off = (tgt : Int))
    (kt : y ≤ x → W p l e R s m args below meth c H locs cells slots Q (F0 m tgt ls rest)) (kf : x < y → W p l e R s m args below meth c H locs cells slots Q (F0 m (pc + 3) ls rest)) : W p l e R s m args below meth c H locs cells slots Q (F0 m pc ls (.int (nI y) :: .int (nI x) :: rest)) :=
  lv_icmp_ge hx hb hd ht (fun h => kt ((nI_leI h2 h1).mp h)) (fun h => kf (Nat.lt_of_not_le (fun h9 => h ((nI_leI h2 h1).mpr h9))))
theorem k_gtN {x y tgt : Nat} {off : Int} (h1 : x < 2 ^ 31) (h2 : y < 2 ^ 31) (hx : p.tables.exec = Jvm.exec) (hb : c.code = cc) (hd : decode cc pc = .ok (.if_icmp .gt off, 3)) (ht : (pc : Int) + off = (tgt : Int))
    (kt : y < x → W p l e R s m args below meth c H locs cells slots Q (F0 m tgt ls rest)) (kf : x ≤ y → W p l e R s m args below meth c H locs cells slots Q (F0 m (pc + 3) ls rest)) : W p l e R s m args below meth c H locs cells slots Q (F0 m pc ls (.int (nI y) :: .int (nI x) :: rest)) :=
  lv_icmp_gt hx hb hd ht (fun h => kt ((nI_ltI h2 h1).mp h)) (fun h => kf (Nat.le_of_not_lt (fun h9 => h ((nI_ltI h2 h1).mpr h9))))
theorem k_leN {x y tgt : Nat} {off : Int} (h1 : x < 2 ^ 31) (h2 : y < 2 ^ 31) (hx : p.tables.exec = Jvm.exec) (hb : c.code = cc) (hd : decode cc pc = .ok (.if_icmp .le off, 3)) (ht : (pc : Int) + off = (tgt : Int))
    (kt : x ≤ y → W p l e R s m args below meth c H locs cells slots Q (F0 m tgt ls rest)) (kf : y < x → W p l e R s m args below meth c H locs cells slots Q (F0 m (pc + 3) ls rest)) : W p l e R s m args below meth c H locs cells slots Q (F0 m pc ls (.int (nI y) :: .int (nI x) :: rest)) :=
  lv_icmp_le hx hb hd ht (fun h => kt ((nI_leI h1 h2).mp h)) (fun h => kf (Nat.lt_of_not_le (fun h9 => h ((nI_leI h1 h2).mpr h9))))
theorem k_if0 {x tgt : Nat} {off : Int} (h1 : x < 2 ^ 31) (hx : p.tables.exec = Jvm.exec) (hb : c.code = cc) (hd : decode cc pc = .ok (.ifCond .eq off, 3)) (ht : (pc : Int) + off = (tgt : Int))
    (kt : x = 0 → W p l e R s m args below meth c H locs cells slots Q (F0 m tgt ls rest)) (kf : x ≠ 0 → W p l e R s m args below meth c H locs cells slots Q (F0 m (pc + 3) ls rest)) : W p l e R s m args below meth c H locs cells slots Q (F0 m pc ls (.int (nI x) :: rest)) :=
  lv_if_eq hx hb hd ht (fun h => kt ((nI_eq h1 (by omega)).mp h)) (fun h => kf (fun h9 => h (by rw [h9]; rfl)))
theorem k_ifN0 {x tgt : Nat} {off : Int} (h1 : x < 2 ^ 31) (hx : p.tables.exec = Jvm.exec) (hb : c.code = cc) (hd : decode cc pc = .ok (.ifCond .ne off, 3)) (ht : (pc : Int) + off = (tgt : Int))
    (kt : x ≠ 0 → W p l e R s m args below meth c H locs cells slots Q (F0 m tgt ls rest)) (kf : x = 0 → W p l e R s m args below meth c H locs cells slots Q (F0 m (pc + 3) ls rest)) : W p l e R s m args below meth c H locs cells slots Q (F0 m pc ls (.int (nI x) :: rest)) :=
  lv_if_ne hx hb hd ht (fun h => kt (fun h9 => h (by rw [h9]; rfl))) (fun h => kf ((nI_eq h1 (by omega)).mp h))
/-- iflt, ifge of a natural less one -/
theorem k_ltP0 {x tgt : Nat} {off : Int} (h1 : x < 2 ^ 30) (hx : p.tables.exec = Jvm.exec) (hb : c.code = cc) (hd : decode cc pc = .ok (.ifCond .lt off, 3)) (ht : (pc : Int) + off = (tgt : Int))
    (kt : x = 0 → W p l e R s m args below meth c H locs cells slots Q (F0 m tgt ls rest)) (kf : x ≠ 0 → W p l e R s m args below meth c H locs cells slots Q (F0 m (pc + 3) ls rest)) : W p l e R s m args below meth c H locs cells slots Q (F0 m pc ls (.int (pI x) :: rest)) :=
  lv_if_lt hx hb hd ht (fun h => kt (by
      rw [Int32.lt_iff_toInt_lt, pI_toInt h1] at h
      have h0 : (0 : Int32).toInt = 0 := by decide +kernel
      omega)) (fun h => kf (fun h9 => h (by subst h9; decide +kernel)))
theorem k_geP0 {x tgt : Nat} {off : Int} (h1 : x < 2 ^ 30) (hx : p.tables.exec = Jvm.exec) (hb : c.code = cc) (hd : decode cc pc = .ok (.ifCond .ge off, 3)) (ht : (pc : Int) + off = (tgt : Int))
    (kt : x ≠ 0 → W p l e R s m args below meth c H locs cells slots Q (F0 m tgt ls rest)) (kf : x = 0 → W p l e R s m args below meth c H locs cells slots Q (F0 m (pc + 3) ls rest)) : W p l e R s m args below meth c H locs cells slots Q (F0 m pc ls (.int (pI x) :: rest)) :=
  lv_if_ge hx hb hd ht (fun h => kt (fun h9 => by
      subst h9
      exact absurd h (by decide +kernel))) (fun h => kf (by
      rcases Nat.eq_zero_or_pos x with h9 | h9
      · exact h9
      · exact absurd (by
          rw [Int32.le_iff_toInt_le, pI_toInt h1]
          have h0 : (0 : Int32).toInt = 0 := by decide +kernel
          omega) h))
/-- ifle, ifgt of a natural -/
theorem k_leN0 {x tgt : Nat} {off : Int} (h1 : x < 2 ^ 31) (hx : p.tables.exec = Jvm.exec) (hb : c.code = cc) (hd : decode cc pc = .ok (.ifCond .le off, 3)) (ht : (pc : Int) + off = (tgt : Int))
    (kt : x = 0 → W p l e R s m args below meth c H locs cells slots Q (F0 m tgt ls rest)) (kf : x ≠ 0 → W p l e R s m args below meth c H locs cells slots Q (F0 m (pc + 3) ls rest)) : W p l e R s m args below meth c H locs cells slots Q (F0 m pc ls (.int (nI x) :: rest)) :=
  lv_if_le hx hb hd ht (fun h => kt (by
      rcases Nat.eq_zero_or_pos x with h9 | h9
      · exact h9
      · exact absurd h (nI_nle h9 h1))) (fun h => kf (fun h9 => h (by subst h9; decide +kernel)))
theorem k_gtN0 {x tgt : Nat} {off : Int} (h1 : x < 2 ^ 31) (hx : p.tables.exec = Jvm.exec) (hb : c.code = cc) (hd : decode cc pc = .ok (.ifCond .gt off, 3)) (ht : (pc : Int) + off = (tgt : Int))
    (kt : x ≠ 0 → W p l e R s m args below meth c H locs cells slots Q (F0 m tgt ls rest)) (kf : x = 0 → W p l e R s m args below meth c H locs cells slots Q (F0 m (pc + 3) ls rest)) : W p l e R s m args below meth c H locs cells slots Q (F0 m pc ls (.int (nI x) :: rest)) :=
  lv_if_gt hx hb hd ht (fun h => kt (fun h9 => by
      subst h9
      exact absurd h (by decide +kernel))) (fun h => kf (by
      rcases Nat.eq_zero_or_pos x with h9 | h9
      · exact h9
      · exact absurd (by
          rw [show (0 : Int32) = nI 0 from rfl]
          exact nI_lt h9 h1) h))
end KQ
