/-! WHAT THE CLASS'S CALLS ANSWER, as functions of the state: an exception's class, or an int and the state behind it -/
def eIA : String := "java/lang/IllegalArgumentException"
def eIS : String := "java/lang/IllegalStateException"
def eUO : String := "java/lang/UnsupportedOperationException"
def eNS : String := "java/util/NoSuchElementException"
abbrev kV : Type := Except String (Option Value × Unit)
abbrev kX : Type := Except String (Option Value × kS)
def rOk (n : Nat) (σ : kS) : kX := .ok (some (.int (nI n)), σ)
/-- a number in a range, or IllegalArgumentException -/
def inr {α : Type} (x : Int32) (lo hi : Nat) (k : Nat → Except String α) : Except String α := match rg x lo hi with
  | some p => k p
  | none => .error eIA
/-- c, or an exception -/
def req {α : Type} (c : Bool) (E : String) (k : Except String α) : Except String α := match c with
  | true => k
  | false => .error E
theorem req_t {α : Type} {c : Bool} {E : String} {k : Except String α} (h : c = true) : req c E k = k := by subst h; rfl
theorem req_f {α : Type} {c : Bool} {E : String} {k : Except String α} (h : c = false) : req c E k = .error E := by subst h; rfl
theorem inr_s {α : Type} {x : Int32} {lo hi p : Nat} {k : Nat → Except String α} (h : rg x lo hi = some p) : inr x lo hi k = k p := by unfold inr; rw [h]
theorem inr_n {α : Type} {x : Int32} {lo hi : Nat} {k : Nat → Except String α} (h : rg x lo hi = none) : inr x lo hi k = .error eIA := by unfold inr; rw [h]
def b2n (b : Bool) : Nat := match b with
  | true => 1
  | false => 0
theorem pI_pred {t : Nat} (h : t ≠ 0) : pI t = nI (t - 1) := by
  cases t with
  | zero => exact absurd rfl h
  | succ k => exact pI_succ k
theorem kb_t {l : Launch} {y : MethodName} {w : Cond} {rm : Room} {as : List Value} {Pre : State → Prop} {b : Bool} (h : b = true) (hM : kMet l y w rm as Pre (.ok (some (.int (nI (b2n b))), ())) kBr) : kMet l y w rm as Pre (.ok (some (.int (nI 1)), ())) kBr := by subst h; exact hM
theorem kb_f {l : Launch} {y : MethodName} {w : Cond} {rm : Room} {as : List Value} {Pre : State → Prop} {b : Bool} (h : b = false) (hM : kMet l y w rm as Pre (.ok (some (.int (nI (b2n b))), ())) kBr) : kMet l y w rm as Pre (.ok (some (.int (nI 0)), ())) kBr := by subst h; exact hM
theorem kr_t {S : Type} {B : S → State → State → Prop} {l : Launch} {y : MethodName} {w : Cond} {rm : Room} {as : List Value} {Pre : State → Prop} {c : Bool} {E : String} {k : Except String (Option Value × S)} (h : c = true) (hM : kMet l y w rm as Pre (req c E k) B) : kMet l y w rm as Pre k B := by subst h; exact hM
theorem kr_f {S : Type} {B : S → State → State → Prop} {l : Launch} {y : MethodName} {w : Cond} {rm : Room} {as : List Value} {Pre : State → Prop} {c : Bool} {E : String} {k : Except String (Option Value × S)} (h : c = false) (hM : kMet l y w rm as Pre (req c E k) B) : kMet l y w rm as Pre (.error E) B := by subst h; exact hM
theorem kn_s {S : Type} {B : S → State → State → Prop} {l : Launch} {y : MethodName} {w : Cond} {rm : Room} {as : List Value} {Pre : State → Prop} {x : Int32} {lo hi p : Nat} {k : Nat → Except String (Option Value × S)} (h : rg x lo hi = some p) (hM : kMet l y w rm as Pre (inr x lo hi k) B) : kMet l y w rm as Pre (k p) B := by rw [inr_s h] at hM; exact hM
theorem kn_n {S : Type} {B : S → State → State → Prop} {l : Launch} {y : MethodName} {w : Cond} {rm : Room} {as : List Value} {Pre : State → Prop} {x : Int32} {lo hi : Nat} {k : Nat → Except String (Option Value × S)} (h : rg x lo hi = none) (hM : kMet l y w rm as Pre (inr x lo hi k) B) : kMet l y w rm as Pre (.error eIA) B := by rw [inr_n h] at hM; exact hM
def sp_spawn (σ : kS) (x y : Int32) : kX := inr x 1 5 fun p => inr y 0 19 fun g => req (σ.1 4 p == 0) eIS <| req (σ.1 0 g == 0) eIS <| rOk 1 (m_begin (m_become σ g 1 p) p 1 (σ.1 11 0) (g + 1))
/-- hk: the holder's kind, 1 or 2 -/
def sp_fill (hk : Nat) (σ : kS) (x y z w : Int32) : kX := inr x 0 19 fun h => inr y 0 3 fun en => inr z 0 19 fun g => inr w 1 3 fun rr => req (mpage σ h hk) eUO <| req (σ.1 0 g == 0) eIS <| req (σ.1 2 (h * 4 + en) == 0) eIS <| rOk 1 (m_setEntry (m_become σ g (hk + 1) (σ.1 1 h)) h en (g + 1) rr)
def mhold (σ : kS) (g : Nat) : Bool := mpage σ g 1 || mpage σ g 2
def sp_protect (σ : kS) (x y z : Int32) : kX := inr x 0 19 fun g => inr y 0 3 fun en => inr z 1 3 fun rr => req (mhold σ g) eUO <| req (σ.1 2 (g * 4 + en) != 0) eNS <| rOk (σ.1 3 (g * 4 + en)) (m_setEntry σ g en (σ.1 2 (g * 4 + en)) rr)
def cp (σ : kS) (g h : Nat) : Nat → kS
  | 0 => σ
  | n + 1 => sw (cp σ g h n) 0 (h * 4 + n) ((cp σ g h n).2 0 (g * 4 + n))
def m_copy (σ : kS) (g h : Nat) : kS := cp σ g h 4
def sp_copy (σ : kS) (x y : Int32) : kX := inr x 0 19 fun g => inr y 0 19 fun h => req (mpage σ g 3 && mpage σ h 3) eUO <| rOk 1 (m_copy σ g h)
def sp_release (σ : kS) (x y : Int32) : kX := inr x 0 19 fun g => inr y 0 3 fun en => req (mhold σ g) eUO <| req (σ.1 2 (g * 4 + en) != 0) eNS <| req (filled σ (σ.1 2 (g * 4 + en) - 1) == 0) eIS <| rOk (σ.1 2 (g * 4 + en) - 1) (m_become (m_clearEntry σ g en) (σ.1 2 (g * 4 + en) - 1) 0 0)
def sp_start (σ : kS) (x : Int32) : kX := inr x 1 5 fun p => req (mchild σ p 1) eIS <| rOk 1 (st σ 4 p 2)
def m_run (σ : kS) (p : Nat) : kS := st (st σ 4 p 3) 11 0 p
def sp_give (σ : kS) (x : Int32) : kX := inr x 1 5 fun p => req (σ.1 4 p == 2) eIS <| rOk (σ.1 11 0) (m_run (st σ 4 (σ.1 11 0) 2) p)
/-- the next ready process behind p: 0 if none -/
def nxr (σ : kS) (p : Nat) : Nat := if σ.1 4 ((p + 0) % 5 + 1) = 2 then (p + 0) % 5 + 1 else if σ.1 4 ((p + 1) % 5 + 1) = 2 then (p + 1) % 5 + 1 else if σ.1 4 ((p + 2) % 5 + 1) = 2 then (p + 2) % 5 + 1 else if σ.1 4 ((p + 3) % 5 + 1) = 2 then (p + 3) % 5 + 1 else if σ.1 4 ((p + 4) % 5 + 1) = 2 then (p + 4) % 5 + 1 else 0
def sp_kill (σ : kS) (x : Int32) : kX := inr x 1 5 fun p => req (p != 1) eUO <| match (p == σ.1 11 0) with
  | true => req (nxr σ (σ.1 11 0) != 0) eIS <| rOk (inuse (st (m_run σ (nxr σ (σ.1 11 0))) 4 p 5) p) (st (m_run σ (nxr σ (σ.1 11 0))) 4 p 5)
  | false => req (mlive σ p) eIS <| rOk (inuse (st σ 4 p 5) p) (st σ 4 p 5)
def mhas (σ : kS) (p : Nat) : Bool := decide (1 < owned σ p) || filled σ (σ.1 6 p - 1) != 0 || inuse σ p != 0
/-- the children of p go to process 1 -/
def mv (σ : kS) (p : Nat) : Nat → kS
  | 0 => σ
  | n + 1 => if n ≠ 0 ∧ (mv σ p n).1 5 n = p then st (mv σ p n) 5 n 1 else mv σ p n
def mvn (σ : kS) (p : Nat) : Nat → Nat
  | 0 => 0
  | n + 1 => mvn σ p n + (if n ≠ 0 ∧ (mv σ p n).1 5 n = p then 1 else 0)
def sp_reap (σ : kS) (x : Int32) : kX := inr x 1 5 fun p => req (mchild σ p 5) eIS <| req (!mhas σ p) eIS <| rOk (mvn (m_begin (m_become σ (σ.1 6 p - 1) 0 0) p 0 0 0) p 6) (mv (m_begin (m_become σ (σ.1 6 p - 1) 0 0) p 0 0 0) p 6)
def sp_open (σ : kS) (x y z : Int32) : kX := inr x 1 5 fun p => inr y 0 3 fun d => inr z 0 2 fun i => req (mine σ p) eUO <| req (σ.1 7 (p * 4 + d) == 0) eIS <| req (cof σ i == 0) eIS <| rOk (cof (st (st σ 10 i 0) 7 (p * 4 + d) (i + 1)) i) (st (st σ 10 i 0) 7 (p * 4 + d) (i + 1))
def sp_share (σ : kS) (x y z : Int32) : kX := inr x 0 3 fun o => inr y 1 5 fun p => inr z 0 3 fun d => req (mine σ p) eUO <| req (σ.1 7 (σ.1 11 0 * 4 + o) != 0) eNS <| req (σ.1 7 (p * 4 + d) == 0) eIS <| rOk (cof (st σ 7 (p * 4 + d) (σ.1 7 (σ.1 11 0 * 4 + o) - 1 + 1)) (σ.1 7 (σ.1 11 0 * 4 + o) - 1)) (st σ 7 (p * 4 + d) (σ.1 7 (σ.1 11 0 * 4 + o) - 1 + 1))
def sp_close (σ : kS) (x y : Int32) : kX := inr x 1 5 fun p => inr y 0 3 fun d => req (mine σ p) eUO <| req (σ.1 7 (p * 4 + d) != 0) eNS <| rOk (cof (st σ 7 (p * 4 + d) 0) (σ.1 7 (p * 4 + d) - 1)) (st σ 7 (p * 4 + d) 0)
/-- the table entry, the frame entry of an address of the caller; the frame with a right -/
def te (σ : kS) (a : Nat) : Nat := (σ.1 6 (σ.1 11 0) - 1) * 4 + a / 16
def tb (σ : kS) (a : Nat) : Nat := σ.1 2 (te σ a)
def fe (σ : kS) (a : Nat) : Nat := (tb σ a - 1) * 4 + a / 4 % 4
def fr (σ : kS) (a : Nat) : Nat := σ.1 2 (fe σ a)
def rgt (σ : kS) (a q : Nat) : Nat := σ.1 3 (te σ a) &&& σ.1 3 (fe σ a) &&& q
def wit {α : Type} (σ : kS) (a q : Nat) (k : Except String α) : Except String α := req (tb σ a != 0) eNS <| req (fr σ a != 0) eNS <| req (rgt σ a q != 0) eUO k
def wd (σ : kS) (a : Nat) : Nat := (fr σ a - 1) * 4 + a % 4
def sp_put (σ : kS) (x y : Int32) : kX := inr x 0 3 fun d => inr y 0 63 fun a => req (σ.1 7 (σ.1 11 0 * 4 + d) != 0) eNS <| wit σ a 1 <| req (σ.1 10 (σ.1 7 (σ.1 11 0 * 4 + d) - 1) != 4) eIS <| rOk (σ.1 10 (σ.1 7 (σ.1 11 0 * 4 + d) - 1) + 1) (st (sw σ 1 ((σ.1 7 (σ.1 11 0 * 4 + d) - 1) * 4 + σ.1 10 (σ.1 7 (σ.1 11 0 * 4 + d) - 1)) (σ.2 0 (wd σ a))) 10 (σ.1 7 (σ.1 11 0 * 4 + d) - 1) (σ.1 10 (σ.1 7 (σ.1 11 0 * 4 + d) - 1) + 1))
/-- the ints of pipe i, from place 0 to n, one place down -/
def sh (σ : kS) (i : Nat) : Nat → kS
  | 0 => σ
  | n + 1 => sw (sh σ i n) 1 (i * 4 + n) ((sh σ i n).2 1 (i * 4 + n + 1))
def m_rem (σ : kS) (i : Nat) : kS := sh (st σ 10 i (σ.1 10 i - 1)) i (σ.1 10 i - 1)
def sp_take (σ : kS) (x y : Int32) : kX := inr x 0 3 fun d => inr y 0 63 fun a => req (σ.1 7 (σ.1 11 0 * 4 + d) != 0) eNS <| wit σ a 2 <| req (σ.1 10 (σ.1 7 (σ.1 11 0 * 4 + d) - 1) != 0) eIS <| .ok (some (.int (σ.2 1 ((σ.1 7 (σ.1 11 0 * 4 + d) - 1) * 4))), sw (m_rem σ (σ.1 7 (σ.1 11 0 * 4 + d) - 1)) 0 (wd σ a) (σ.2 1 ((σ.1 7 (σ.1 11 0 * 4 + d) - 1) * 4)))
def sp_read (σ : kS) (y : Int32) : kX := inr y 0 63 fun a => wit σ a 1 <| .ok (some (.int (σ.2 0 (wd σ a))), σ)
def sp_write (σ : kS) (y v : Int32) : kX := inr y 0 63 fun a => wit σ a 2 <| .ok (some (.int (σ.2 0 (wd σ a))), sw σ 0 (wd σ a) v)
def sp_expect (σ : kS) (x y : Int32) : kX := inr x 1 5 fun p => inr y 0 63 fun a => req (σ.1 4 p == 2) eIS <| req (tb σ a != 0) eNS <| req (fr σ a == 0) eUO <| rOk p (m_run (st (st (st σ 4 (σ.1 11 0) 4) 8 (σ.1 11 0) (tb σ a - 1)) 9 (σ.1 11 0) (a / 4 % 4)) p)
def sp_send (σ : kS) (x y : Int32) : kX := inr x 1 5 fun p => inr y 0 63 fun a => req (σ.1 4 p == 4) eIS <| req (tb σ a != 0) eNS <| req (fr σ a != 0) eNS <| rOk (fr σ a - 1) (st (st (m_setEntry (m_clearEntry σ (tb σ a - 1) (a / 4 % 4)) (σ.1 8 p) (σ.1 9 p) (fr σ a) (σ.1 3 (fe σ a))) 1 (fr σ a - 1) p) 4 p 2)
def sp_process (σ : kS) (x y : Int32) : kX := inr x 1 5 fun p => inr y 0 4 fun k => match k with
  | 0 => rOk (σ.1 4 p) σ
  | 1 => rOk (σ.1 5 p) σ
  | 2 => .ok (some (.int (pI (σ.1 6 p))), σ)
  | 3 => rOk (owned σ p) σ
  | _ => rOk (inuse σ p) σ
def sp_page (σ : kS) (x y : Int32) : kX := inr x 0 19 fun g => inr y 0 2 fun k => match k with
  | 0 => rOk (σ.1 0 g) σ
  | 1 => rOk (σ.1 1 g) σ
  | _ => rOk (filled σ g) σ
def pin (σ : kS) : Nat → Nat
  | 0 => 0
  | n + 1 => pin σ n + (if cof σ n = 0 then 0 else σ.1 10 n)
def sp_count (σ : kS) (y : Int32) : kX := inr y 0 3 fun k => match k with
  | 0 => rOk (σ.1 11 0) σ
  | 1 => rOk (owned σ 0) σ
  | 2 => rOk (live σ) σ
  | _ => rOk (pin σ 3) σ
theorem te_lt {σ : kS} (ok : kOk σ) (a : Nat) (ha : a < 64) : te σ a < 80 := by
  have h := ok.2.2.2.2.2.1 (σ.1 11 0) ok.2.2.2.2.2.2.2.2.2.2.2.1.2
  unfold te
  omega
theorem kOk.tbl {σ : kS} (ok : kOk σ) (a : Nat) (ha : a < 64) : tb σ a < 21 := ok.2.1 _ (te_lt ok a ha)
theorem fe_lt {σ : kS} (ok : kOk σ) (a : Nat) (ha : a < 64) : fe σ a < 80 := by
  have h := ok.tbl a ha
  unfold fe
  omega
theorem kOk.frl {σ : kS} (ok : kOk σ) (a : Nat) (ha : a < 64) (_ : tb σ a ≠ 0) : fr σ a < 21 := ok.2.1 _ (fe_lt ok a ha)
theorem mv_t {σ : kS} {p n : Nat} (h0 : n ≠ 0) (h : (mv σ p n).1 5 n = p) : mv σ p (n + 1) = st (mv σ p n) 5 n 1 ∧ mvn σ p (n + 1) = mvn σ p n + 1 := by
  constructor
  · simp [mv, h0, h]
  · simp [mvn, h0, h]
theorem mv_f {σ : kS} {p n : Nat} (h : (mv σ p n).1 5 n ≠ p) : mv σ p (n + 1) = mv σ p n ∧ mvn σ p (n + 1) = mvn σ p n := by
  constructor
  · simp [mv, h]
  · simp [mvn, h]
theorem mv_b5 {σ : kS} (p : Nat) (hb : ∀ i, i < 6 → σ.1 5 i < 2 ^ 30) : ∀ n i, i < 6 → (mv σ p n).1 5 i < 2 ^ 30
  | 0, i, hi => hb i hi
  | n + 1, i, hi => by
    have h1 := mv_b5 p hb n i hi
    unfold mv
    split
    · show va_up ((mv σ p n).1 5) n 1 i < _
      unfold va_up
      split
      · decide
      · exact h1
    · exact h1
theorem sh_1 (σ : kS) (i : Nat) : ∀ n, (sh σ i n).1 = σ.1
  | 0 => rfl
  | n + 1 => sh_1 σ i n
theorem nxr_lt (σ : kS) (p : Nat) : nxr σ p < 6 := by
  unfold nxr
  repeat' split
  all_goals omega
theorem kq_e {S : Type} {B : S → State → State → Prop} {l : Launch} {y : MethodName} {w : Cond} {rm : Room} {as : List Value} {Pre : State → Prop} {r0 : Except String (Option Value × S)} {E : String} (h : r0 = .error E) (hM : kMet l y w rm as Pre r0 B) : kMet l y w rm as Pre (.error E) B := by subst h; exact hM
theorem kq_o {S : Type} {B : S → State → State → Prop} {l : Launch} {y : MethodName} {w : Cond} {rm : Room} {as : List Value} {Pre : State → Prop} {r0 : Except String (Option Value × S)} {v : Option Value} {u : S} (h : r0 = .ok (v, u)) (hM : kMet l y w rm as Pre r0 B) : kMet l y w rm as Pre (.ok (v, u)) B := by subst h; exact hM
theorem inr_ok {α : Type} {x : Int32} {lo hi : Nat} {k : Nat → Except String α} {z : α} (h : inr x lo hi k = .ok z) : ∃ p, rg x lo hi = some p ∧ k p = .ok z := by
  unfold inr at h
  split at h
  · next p hp => exact ⟨p, hp, h⟩
  · cases h
theorem req_ok {α : Type} {c : Bool} {E : String} {k : Except String α} {z : α} (h : req c E k = .ok z) : c = true ∧ k = .ok z := by
  cases c
  · cases h
  · exact ⟨rfl, h⟩
theorem sp_fill_v {hk : Nat} {σ : kS} {x y z w : Int32} {v : Option Value} {u : kS} (h : sp_fill hk σ x y z w = .ok (v, u)) : v = some (.int (nI 1)) := by
  unfold sp_fill at h
  obtain ⟨_, -, h⟩ := inr_ok h
  obtain ⟨_, -, h⟩ := inr_ok h
  obtain ⟨_, -, h⟩ := inr_ok h
  obtain ⟨_, -, h⟩ := inr_ok h
  obtain ⟨-, h⟩ := req_ok h
  obtain ⟨-, h⟩ := req_ok h
  obtain ⟨-, h⟩ := req_ok h
  cases h
  rfl
theorem b5_begin {σ : kS} (ok : kOk σ) {g p : Nat} : ∀ i, i < 6 → (m_begin (m_become σ g 0 0) p 0 0 0).1 5 i < 2 ^ 30 := by
  intro i hi
  show va_up (σ.1 5) p 0 i < _
  unfold va_up
  split
  · decide
  · exact ok.b5 i hi
theorem rg_of {x : Int32} {lo hi : Nat} (h1 : lo < 2 ^ 30) (h2 : hi < 2 ^ 30) (ha : ¬ x < nI lo) (hb : x ≤ nI hi) : ∃ p, rg x lo hi = some p := by
  rw [Int32.lt_iff_toInt_lt, nI_toInt (by omega)] at ha
  rw [Int32.le_iff_toInt_le, nI_toInt (by omega)] at hb
  exact ⟨_, by unfold rg; rw [if_pos (by omega)]⟩
theorem rg_lo {x : Int32} {lo hi : Nat} (h1 : lo < 2 ^ 30) (ha : x < nI lo) : rg x lo hi = none := by
  rw [Int32.lt_iff_toInt_lt, nI_toInt (by omega)] at ha
  unfold rg
  rw [if_neg (by omega)]
theorem rg_hi {x : Int32} {lo hi : Nat} (h2 : hi < 2 ^ 30) (hb : ¬ x ≤ nI hi) : rg x lo hi = none := by
  rw [Int32.le_iff_toInt_le, nI_toInt (by omega)] at hb
  unfold rg
  rw [if_neg (by omega)]
