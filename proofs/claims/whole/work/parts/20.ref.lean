/-! WHAT THE REFERENCE'S CALLS DO: a code (0: none) in σ.2 2 0, an answer, the state behind it -/
def wX (ad : Nat → Nat) (cI : ClassId) (κ : kS) (o : va_W) (σ : kS) : va_W := wC ad cI (wR ad cI σ ++ o) κ
abbrev kF : Type := Except Nat (Option Value × kS)
def fin (σ : kS) (r : kF) : Option Value × kS := match r with
  | .ok z => z
  | .error c => (some (.int (nI 0)), sw σ 2 0 (nI c))
def inn {α : Type} (x : Int32) (lo hi : Nat) (k : Nat → Except Nat α) : Except Nat α := match rg x lo hi with
  | some p => k p
  | none => .error 1
def rqn {α : Type} (c : Bool) (E : Nat) (k : Except Nat α) : Except Nat α := match c with
  | true => k
  | false => .error E
def t0 (σ : kS) : kS := sw σ 2 0 (nI 0)
def rmine (σ : kS) (p : Nat) : Bool := p == σ.1 11 0 || ((σ.1 4 p == 1 || σ.1 4 p == 5) && σ.1 5 p == σ.1 11 0)
def rpage (σ : kS) (g k : Nat) : Bool := σ.1 0 g == k && rmine σ (σ.1 1 g)
def rhold (σ : kS) (g : Nat) : Bool := rpage σ g 1 || rpage σ g 2
def rown (σ : kS) (q : Nat) : Nat := cnt (fun g => σ.1 0 g != 0 && σ.1 1 g == q) 20
def rcof (σ : kS) (i : Nat) : Nat := cnt (fun k => decide (4 ≤ k) && σ.1 7 k == i + 1) 24
def rOkV (n : Nat) (σ : kS) : kF := .ok (some (.int (nI n)), σ)
def rs_spawn (σ : kS) (x y : Int32) : kF := inn x 1 5 fun p => inn y 0 19 fun g => rqn (σ.1 4 p == 0 && σ.1 0 g == 0) 2 <| rOkV 1 (m_become (st (st (st σ 4 p 1) 5 p (σ.1 11 0)) 6 p (g + 1)) g 1 p)
def rs_hang (hk : Nat) (σ : kS) (x y z w : Int32) : kF := inn x 0 19 fun h => inn y 0 3 fun en => inn z 0 19 fun g => inn w 1 3 fun rr => rqn (rpage σ h (hk - 1)) 2 <| rqn (σ.1 0 g == 0 && σ.1 2 (h * 4 + en) == 0) 3 <| rOkV 1 (st (st (m_become σ g hk (σ.1 1 h)) 2 (h * 4 + en) (g + 1)) 3 (h * 4 + en) rr)
def rs_protect (σ : kS) (x y z : Int32) : kF := inn x 0 19 fun g => inn y 0 3 fun en => inn z 1 3 fun rr => rqn (rhold σ g) 2 <| rqn (σ.1 2 (g * 4 + en) != 0) 3 <| rOkV (σ.1 3 (g * 4 + en)) (st σ 3 (g * 4 + en) rr)
def rs_copy (σ : kS) (x y : Int32) : kF := inn x 0 19 fun g => inn y 0 19 fun h => rqn (rpage σ g 3 && rpage σ h 3) 2 <| rOkV 1 (m_copy σ g h)
def rs_release (σ : kS) (x y : Int32) : kF := inn x 0 19 fun g => inn y 0 3 fun en => rqn (rhold σ g) 2 <| rqn (σ.1 2 (g * 4 + en) != 0) 3 <| rqn (!(σ.1 0 (σ.1 2 (g * 4 + en) - 1) == 2 && filled σ (σ.1 2 (g * 4 + en) - 1) != 0)) 4 <| rOkV (σ.1 2 (g * 4 + en) - 1) (st (m_become σ (σ.1 2 (g * 4 + en) - 1) 0 0) 2 (g * 4 + en) 0)
def rs_start (σ : kS) (x : Int32) : kF := inn x 1 5 fun p => rqn (σ.1 4 p == 1 && σ.1 5 p == σ.1 11 0) 2 <| rOkV 1 (st σ 4 p 2)
def r_hand (σ : kS) (p l : Nat) : kS := st (st (st σ 4 (σ.1 11 0) l) 4 p 3) 11 0 p
def rs_give (σ : kS) (x : Int32) : kF := inn x 1 5 fun p => rqn (σ.1 4 p == 2) 2 <| rOkV (σ.1 11 0) (r_hand σ p 2)
def rnx (σ : kS) (p : Nat) : Nat := if σ.1 4 ((p - 1 + 1) % 5 + 1) = 2 then (p - 1 + 1) % 5 + 1 else if σ.1 4 ((p - 1 + 2) % 5 + 1) = 2 then (p - 1 + 2) % 5 + 1 else if σ.1 4 ((p - 1 + 3) % 5 + 1) = 2 then (p - 1 + 3) % 5 + 1 else if σ.1 4 ((p - 1 + 4) % 5 + 1) = 2 then (p - 1 + 4) % 5 + 1 else if σ.1 4 ((p - 1 + 5) % 5 + 1) = 2 then (p - 1 + 5) % 5 + 1 else 0
def rs_kill (σ : kS) (x : Int32) : kF := inn x 1 5 fun p => rqn (p != 1) 2 <| rqn ((p == σ.1 11 0 || σ.1 5 p == σ.1 11 0) && σ.1 4 p != 0 && σ.1 4 p != 5) 3 <| match (p == σ.1 11 0) with
  | true => rqn (rnx σ p != 0) 3 <| rOkV (inuse (st (r_hand σ (rnx σ p) 5) 4 p 5) p) (st (r_hand σ (rnx σ p) 5) 4 p 5)
  | false => rOkV (inuse (st σ 4 p 5) p) (st σ 4 p 5)
/-- the children of p go to process 1, but for the free -/
def rv (σ : kS) (p : Nat) : Nat → kS
  | 0 => σ
  | n + 1 => if n ≠ 0 ∧ (rv σ p n).1 4 n ≠ 0 ∧ (rv σ p n).1 5 n = p then st (rv σ p n) 5 n 1 else rv σ p n
def rvn (σ : kS) (p : Nat) : Nat → Nat
  | 0 => 0
  | n + 1 => rvn σ p n + (if n ≠ 0 ∧ (rv σ p n).1 4 n ≠ 0 ∧ (rv σ p n).1 5 n = p then 1 else 0)
def rs_reap (σ : kS) (x : Int32) : kF := inn x 1 5 fun p => rqn (σ.1 4 p == 5 && σ.1 5 p == σ.1 11 0 && decide (rown σ p ≤ 1) && filled σ (σ.1 6 p - 1) == 0 && inuse σ p == 0) 2 <| rOkV (rvn σ p 6) (st (st (st (m_become (rv σ p 6) ((rv σ p 6).1 6 p - 1) 0 0) 4 p 0) 5 p 0) 6 p 0)
def rs_open (σ : kS) (x y z : Int32) : kF := inn x 1 5 fun p => inn y 0 3 fun d => inn z 0 2 fun i => rqn (rmine σ p) 2 <| rqn (σ.1 7 (p * 4 + d) == 0 && rcof σ i == 0) 3 <| rOkV 1 (st (st σ 7 (p * 4 + d) (i + 1)) 10 i 0)
def rs_share (σ : kS) (x y z : Int32) : kF := inn x 0 3 fun o => inn y 1 5 fun p => inn z 0 3 fun d => rqn (rmine σ p) 2 <| rqn (σ.1 7 (σ.1 11 0 * 4 + o) != 0) 3 <| rqn (σ.1 7 (p * 4 + d) == 0) 4 <| rOkV (rcof (st σ 7 (p * 4 + d) (σ.1 7 (σ.1 11 0 * 4 + o))) (σ.1 7 (σ.1 11 0 * 4 + o) - 1)) (st σ 7 (p * 4 + d) (σ.1 7 (σ.1 11 0 * 4 + o)))
def rs_close (σ : kS) (x y : Int32) : kF := inn x 1 5 fun p => inn y 0 3 fun d => rqn (rmine σ p) 2 <| rqn (σ.1 7 (p * 4 + d) != 0) 3 <| rOkV (rcof (st σ 7 (p * 4 + d) 0) (σ.1 7 (p * 4 + d) - 1)) (st σ 7 (p * 4 + d) 0)
/-- the frame entry of an address of p: its place and one, or 0 -/
def rfe (σ : kS) (p a : Nat) : Nat := if σ.1 2 ((σ.1 6 p - 1) * 4 + a / 16) = 0 then 0 else (σ.1 2 ((σ.1 6 p - 1) * 4 + a / 16) - 1) * 4 + a / 4 % 4 + 1
def wr (σ : kS) (n : Nat) : kS := sw σ 2 1 (nI n)
def rrg (σ : kS) (a q : Nat) : Nat := σ.1 3 (rfe σ (σ.1 11 0) a - 1) &&& σ.1 3 ((σ.1 6 (σ.1 11 0) - 1) * 4 + a / 16) &&& q
/-- walk: a word's place and one, or 0; what is left in 'wrong' -/
def rwk (σ : kS) (a q : Nat) : Nat × kS := if rfe σ (σ.1 11 0) a = 0 then (0, wr σ 2) else if σ.1 2 (rfe σ (σ.1 11 0) a - 1) = 0 then (0, wr σ 2) else if rrg σ a q = 0 then (0, wr (wr σ 2) 3) else ((σ.1 2 (rfe σ (σ.1 11 0) a - 1) - 1) * 4 + a % 4 + 1, wr (wr (wr σ 2) 3) 0)
def rw_ {α : Type} (x : Nat × kS) (f : Nat → kS → α) : α := f x.1 x.2
def rz_put (z : Nat × kS) (i : Nat) : kF := if z.1 = 0 then .ok (some (.int (nI 0)), sw z.2 2 0 (z.2.2 2 1)) else if z.2.1 10 i = 4 then .ok (some (.int (nI 0)), sw z.2 2 0 (nI 4)) else rOkV (z.2.1 10 i + 1) (st (sw z.2 1 (i * 4 + z.2.1 10 i) (z.2.2 0 (z.1 - 1))) 10 i (z.2.1 10 i + 1))
def rs_put (σ : kS) (x y : Int32) : kF := inn x 0 3 fun d => inn y 0 63 fun a => rqn (σ.1 7 (σ.1 11 0 * 4 + d) != 0) 2 <| rz_put (rwk σ a 1) (σ.1 7 (σ.1 11 0 * 4 + d) - 1)
/-- what is always so of the reference's places -/
def kOr (σ : kS) : Prop := (∀ g, g < 20 → σ.1 1 g < 6) ∧ (∀ i, i < 80 → σ.1 2 i < 21) ∧ (∀ i, i < 80 → σ.1 3 i < 4) ∧ (∀ p, p < 6 → σ.1 4 p < 6) ∧ (∀ p, p < 6 → σ.1 5 p < 6) ∧ (∀ p, p < 6 → σ.1 6 p < 21) ∧ (∀ i, i < 24 → σ.1 7 i < 4) ∧ (∀ p, p < 6 → σ.1 8 p < 64) ∧ (∀ i, i < 3 → σ.1 10 i < 5) ∧ (∀ g, g < 20 → σ.1 0 g < 4) ∧ (1 ≤ σ.1 11 0 ∧ σ.1 11 0 < 6) ∧ σ.1 4 (σ.1 11 0) = 3 ∧ (∀ p, p < 6 → σ.1 4 p ≠ 0 → σ.1 6 p ≠ 0)
theorem kOr.b1 {σ : kS} (ok : kOr σ) : ∀ i, i < 20 → σ.1 1 i < 2 ^ 30 := fun i hi => Nat.lt_of_lt_of_le (ok.1 i hi) (by decide)
theorem kOr.b2 {σ : kS} (ok : kOr σ) : ∀ i, i < 80 → σ.1 2 i < 2 ^ 30 := fun i hi => Nat.lt_of_lt_of_le (ok.2.1 i hi) (by decide)
theorem kOr.b4 {σ : kS} (ok : kOr σ) : ∀ i, i < 6 → σ.1 4 i < 2 ^ 30 := fun i hi => Nat.lt_of_lt_of_le (ok.2.2.2.1 i hi) (by decide)
theorem kOr.b5 {σ : kS} (ok : kOr σ) : ∀ i, i < 6 → σ.1 5 i < 2 ^ 30 := fun i hi => Nat.lt_of_lt_of_le (ok.2.2.2.2.1 i hi) (by decide)
theorem kOr.b7 {σ : kS} (ok : kOr σ) : ∀ i, i < 24 → σ.1 7 i < 2 ^ 30 := fun i hi => Nat.lt_of_lt_of_le (ok.2.2.2.2.2.2.1 i hi) (by decide)
theorem kOr.b10 {σ : kS} (ok : kOr σ) : ∀ i, i < 3 → σ.1 10 i < 2 ^ 30 := fun i hi => Nat.lt_of_lt_of_le (ok.2.2.2.2.2.2.2.2.1 i hi) (by decide)
theorem kOr.b0 {σ : kS} (ok : kOr σ) : ∀ i, i < 20 → σ.1 0 i < 2 ^ 30 := fun i hi => Nat.lt_of_lt_of_le (ok.2.2.2.2.2.2.2.2.2.1 i hi) (by decide)
theorem kz_s {l : Launch} {y : MethodName} {w : Cond} {rm : Room} {as : List Value} {Pre : State → Prop} {x : Int32} {lo hi p : Nat} (h : rg x lo hi = some p) (hM : kMet l y w rm as Pre (.ok (some (.int (nI (b2n (rg x lo hi).isSome))), ())) kBr) : kMet l y w rm as Pre (.ok (some (.int (nI 1)), ())) kBr := by rw [h] at hM; exact hM
theorem kz_n {l : Launch} {y : MethodName} {w : Cond} {rm : Room} {as : List Value} {Pre : State → Prop} {x : Int32} {lo hi : Nat} (h : rg x lo hi = none) (hM : kMet l y w rm as Pre (.ok (some (.int (nI (b2n (rg x lo hi).isSome))), ())) kBr) : kMet l y w rm as Pre (.ok (some (.int (nI 0)), ())) kBr := by rw [h] at hM; exact hM
def rz_takeS (z : Nat × kS) (i : Nat) : kS := sh (st (sw z.2 0 (z.1 - 1) (z.2.2 1 (i * 4))) 10 i (z.2.1 10 i - 1)) i (z.2.1 10 i - 1)
def rz_take (z : Nat × kS) (i : Nat) : kF := if z.1 = 0 then .ok (some (.int (nI 0)), sw z.2 2 0 (z.2.2 2 1)) else if z.2.1 10 i = 0 then .ok (some (.int (nI 0)), sw z.2 2 0 (nI 4)) else .ok (some (.int ((rz_takeS z i).2 0 (z.1 - 1))), rz_takeS z i)
def rs_take (σ : kS) (x y : Int32) : kF := inn x 0 3 fun d => inn y 0 63 fun a => rqn (σ.1 7 (σ.1 11 0 * 4 + d) != 0) 2 <| rz_take (rwk σ a 2) (σ.1 7 (σ.1 11 0 * 4 + d) - 1)
def rz_read (z : Nat × kS) : kF := if z.1 = 0 then .ok (some (.int (nI 0)), sw z.2 2 0 (z.2.2 2 1)) else .ok (some (.int (z.2.2 0 (z.1 - 1))), z.2)
def rs_read (σ : kS) (y : Int32) : kF := inn y 0 63 fun a => rz_read (rwk σ a 1)
def rz_write (z : Nat × kS) (v : Int32) : kF := if z.1 = 0 then .ok (some (.int (nI 0)), sw z.2 2 0 (z.2.2 2 1)) else .ok (some (.int (z.2.2 0 (z.1 - 1))), sw z.2 0 (z.1 - 1) v)
def rs_write (σ : kS) (y v : Int32) : kF := inn y 0 63 fun a => rz_write (rwk σ a 2) v
def rs_expect (σ : kS) (x y : Int32) : kF := inn x 1 5 fun p => inn y 0 63 fun a => rqn (σ.1 4 p == 2) 2 <| rqn (rfe σ (σ.1 11 0) a != 0) 3 <| rqn (σ.1 2 (rfe σ (σ.1 11 0) a - 1) == 0) 4 <| rOkV p (r_hand (st σ 8 (σ.1 11 0) a) p 4)
def rs_send (σ : kS) (x y : Int32) : kF := inn x 1 5 fun p => inn y 0 63 fun a => rqn (σ.1 4 p == 4) 2 <| rqn (rfe σ (σ.1 11 0) a != 0 && σ.1 2 (rfe σ (σ.1 11 0) a - 1) != 0) 3 <| rOkV (σ.1 2 (rfe σ (σ.1 11 0) a - 1) - 1) (st (st (st (st (st σ 2 (rfe σ p (σ.1 8 p) - 1) (σ.1 2 (rfe σ (σ.1 11 0) a - 1))) 3 (rfe σ p (σ.1 8 p) - 1) (σ.1 3 (rfe σ (σ.1 11 0) a - 1))) 2 (rfe σ (σ.1 11 0) a - 1) 0) 1 (σ.1 2 (rfe σ (σ.1 11 0) a - 1) - 1) p) 4 p 2)
def rs_process (σ : kS) (x y : Int32) : kF := inn x 1 5 fun p => inn y 0 4 fun k => match k with
  | 0 => rOkV (σ.1 4 p) σ
  | 1 => rOkV (σ.1 5 p) σ
  | 2 => .ok (some (.int (pI (σ.1 6 p))), σ)
  | 3 => rOkV (rown σ p) σ
  | _ => rOkV (inuse σ p) σ
def rs_page (σ : kS) (x y : Int32) : kF := inn x 0 19 fun g => inn y 0 2 fun k => match k with
  | 0 => rOkV (σ.1 0 g) σ
  | 1 => rOkV (σ.1 1 g) σ
  | _ => rOkV (filled σ g) σ
def rfree (σ : kS) : Nat := cnt (fun g => σ.1 0 g == 0) 20
def rlive (σ : kS) : Nat := cnt (fun i => i != 0 && σ.1 4 i != 0) 6
def rpin (σ : kS) : Nat → Nat
  | 0 => 0
  | n + 1 => rpin σ n + (if rcof σ n = 0 then 0 else σ.1 10 n)
def rs_count (σ : kS) (y : Int32) : kF := inn y 0 3 fun k => match k with
  | 0 => rOkV (σ.1 11 0) σ
  | 1 => rOkV (rfree σ) σ
  | 2 => rOkV (rlive σ) σ
  | _ => rOkV (rpin σ 3) σ
theorem rnx_lt (σ : kS) (p : Nat) : rnx σ p < 6 := by
  unfold rnx
  repeat' split
  all_goals omega
theorem rfe_lt {σ : kS} {p a : Nat} (h : ∀ i, i < 80 → σ.1 2 i < 21) (hr : σ.1 6 p < 21) (ha : a < 64) : rfe σ p a < 81 := by
  have h1 := h ((σ.1 6 p - 1) * 4 + a / 16) (by omega)
  unfold rfe
  split <;> omega
