/-! WHAT IS GIVEN AT THE LAW'S START s0, and how it is read later in the run -/
theorem k_lays {C n d : String} {a0 args : Array Value} {s0 U : State} (h : (Cond.laysStatic C n d).before a0 s0 = true) (hE : kEnv s0 U) : (Cond.laysStatic C n d).before args U = true := by
  obtain ⟨c, k, i, f, a, cell, hc, hi, hst, ha, hcell, hs, hcls, hlt, hty⟩ := Cond.laysStatic_spec h
  have hc' : U.vm.findClass C = some c := by rw [hE.1.alike.findClass]; exact hc
  obtain ⟨k', hi', he⟩ := State.fieldFound?_setVm hE.1.alike hi
  have hi2 : U.fieldFound? C n d = some (c, k', i, f) := hi'
  have ha' : k'.statics = some a := by rw [he]; exact ha
  have hty' : k'.staticTypes[f.slot]? = some f.type := by rw [he]; exact hty
  have hcell' : U.heap[a]? = some cell := by rw [hE.2.2 a (Array.getElem?_eq_some_iff.mp hcell).1]; exact hcell
  simp [Cond.before, Cond.holds, Cond.value, hc', hi2, hst, ha', hcell', hs, hcls, hlt, hty']
theorem k_isRef {C n d : String} {a0 args : Array Value} {s0 U : State} (h : (Cond.laysStatic C n d).before a0 s0 = true) (hr : (Cond.isRef (.static C n d)).before a0 s0 = true) (hE : kEnv s0 U) : (Cond.isRef (.static C n d)).before args U = true := by
  obtain ⟨c, k, i, f, a, cell, hc, hi, hst, ha, hcell, hs, hcls, hlt, hty⟩ := Cond.laysStatic_spec h
  obtain ⟨k', hi', he⟩ := State.fieldFound?_setVm hE.1.alike hi
  have hi2 : U.fieldFound? C n d = some (c, k', i, f) := hi'
  have ha' : k'.statics = some a := by rw [he]; exact ha
  have hcell' : U.heap[a]? = some cell := by rw [hE.2.2 a (Array.getElem?_eq_some_iff.mp hcell).1]; exact hcell
  have e0 : (Term.static C n d).eval a0 s0 none [] s0 = cell.slots[f.slot]? := by simp [Term.eval, State.fieldNamed?, hi, hst, ha, hcell, hs]
  have e1 : (Term.static C n d).eval args U none [] U = cell.slots[f.slot]? := by simp [Term.eval, State.fieldNamed?, hi2, hst, ha', hcell', hs]
  simp only [Cond.before, Cond.holds, Cond.value, e0] at hr
  simp only [Cond.before, Cond.holds, Cond.value, e1]
  exact hr
/-- the rooms: a method of level L calls methods of lower levels -/
abbrev rmL (L : Nat) : Room := { frames := L, cells := 1, slots := 6, locals := 30 * L }
/-- the words of a throw that speak of the heap -/
def kHp (w : Cond) : Bool := decide (w = .isRef (.static Bundle.tN "UNASSIGNED_STACK" Bundle.steD)) || decide (w = .isRef (.static Bundle.tN "SUPPRESSED_SENTINEL" Bundle.listD)) || decide (w = .laysStatic Bundle.tN "UNASSIGNED_STACK" Bundle.steD) || decide (w = .laysStatic Bundle.tN "SUPPRESSED_SENTINEL" Bundle.listD)
/-- the four words at s0, and Throwable's statics -/
def kTh (a0 : Array Value) (s0 : State) : Prop := (Cond.isRef (.static Bundle.tN "UNASSIGNED_STACK" Bundle.steD)).before a0 s0 = true ∧ (Cond.isRef (.static Bundle.tN "SUPPRESSED_SENTINEL" Bundle.listD)).before a0 s0 = true ∧ (Cond.laysStatic Bundle.tN "UNASSIGNED_STACK" Bundle.steD).before a0 s0 = true ∧ (Cond.laysStatic Bundle.tN "SUPPRESSED_SENTINEL" Bundle.listD).before a0 s0 = true
theorem k_own {a0 args : Array Value} {s0 s : State} {Ts L : List Cond} (hT : ∀ w ∈ Ts, w.before a0 s0 = true) (hth : kTh a0 s0) (hE : kEnv s0 s) (hin : ∀ w ∈ L.filter (fun w => !kHp w), w ∈ Ts ∧ kGood w = true) : ∀ w ∈ L, w.before args s = true := by
  intro w hw
  cases hk : kHp w with
  | false =>
    obtain ⟨h1, h2⟩ := hin w (List.mem_filter.mpr ⟨hw, by simp [hk]⟩)
    exact kGood_at h2 hE.1 (hT w h1)
  | true =>
    obtain ⟨r1, r2, l1, l2⟩ := hth
    simp only [kHp, Bool.or_eq_true, decide_eq_true_eq] at hk
    rcases hk with ((rfl | rfl) | rfl) | rfl
    · exact k_isRef l1 r1 hE
    · exact k_isRef l2 r2 hE
    · exact k_lays l1 hE
    · exact k_lays l2 hE
def kStrs : List (Nat × String) := [(261, "a number is out of range"), (55, "the process is not free"), (271, "the page is not free"), (285, "the holder is of another kind or not the caller's"), (287, "the entry is not empty"), (278, "the page is no root or table of the caller's"), (282, "the entry is empty"), (93, "one of the pages is no frame of the caller's"), (102, "the table still has an entry"), (113, "the process is no embryo of the caller's"), (269, "the process is not ready"), (124, "process 1 can't be killed"), (303, "no process is ready to run instead"), (133, "the process is not the caller or a living child of it"), (138, "the process is no zombie of the caller's"), (143, "the zombie still holds a page or a descriptor"), (267, "the process is not the caller's"), (276, "the descriptor is in use"), (169, "the pipe is open already"), (298, "there is no such descriptor"), (292, "the address has no table entry"), (294, "the address has no frame entry"), (296, "an entry lacks the right"), (193, "the pipe is full"), (204, "the pipe is empty"), (218, "the frame entry is not empty"), (223, "the process is not waiting")]
theorem sr_261 : ((261, "a number is out of range") : Nat × String) ∈ kStrs := List.mem_of_getElem? (i := 0) rfl
theorem sr_55 : ((55, "the process is not free") : Nat × String) ∈ kStrs := List.mem_of_getElem? (i := 1) rfl
theorem sr_271 : ((271, "the page is not free") : Nat × String) ∈ kStrs := List.mem_of_getElem? (i := 2) rfl
theorem sr_285 : ((285, "the holder is of another kind or not the caller's") : Nat × String) ∈ kStrs := List.mem_of_getElem? (i := 3) rfl
theorem sr_287 : ((287, "the entry is not empty") : Nat × String) ∈ kStrs := List.mem_of_getElem? (i := 4) rfl
theorem sr_278 : ((278, "the page is no root or table of the caller's") : Nat × String) ∈ kStrs := List.mem_of_getElem? (i := 5) rfl
theorem sr_282 : ((282, "the entry is empty") : Nat × String) ∈ kStrs := List.mem_of_getElem? (i := 6) rfl
theorem sr_93 : ((93, "one of the pages is no frame of the caller's") : Nat × String) ∈ kStrs := List.mem_of_getElem? (i := 7) rfl
theorem sr_102 : ((102, "the table still has an entry") : Nat × String) ∈ kStrs := List.mem_of_getElem? (i := 8) rfl
theorem sr_113 : ((113, "the process is no embryo of the caller's") : Nat × String) ∈ kStrs := List.mem_of_getElem? (i := 9) rfl
theorem sr_269 : ((269, "the process is not ready") : Nat × String) ∈ kStrs := List.mem_of_getElem? (i := 10) rfl
theorem sr_124 : ((124, "process 1 can't be killed") : Nat × String) ∈ kStrs := List.mem_of_getElem? (i := 11) rfl
theorem sr_303 : ((303, "no process is ready to run instead") : Nat × String) ∈ kStrs := List.mem_of_getElem? (i := 12) rfl
theorem sr_133 : ((133, "the process is not the caller or a living child of it") : Nat × String) ∈ kStrs := List.mem_of_getElem? (i := 13) rfl
theorem sr_138 : ((138, "the process is no zombie of the caller's") : Nat × String) ∈ kStrs := List.mem_of_getElem? (i := 14) rfl
theorem sr_143 : ((143, "the zombie still holds a page or a descriptor") : Nat × String) ∈ kStrs := List.mem_of_getElem? (i := 15) rfl
theorem sr_267 : ((267, "the process is not the caller's") : Nat × String) ∈ kStrs := List.mem_of_getElem? (i := 16) rfl
theorem sr_276 : ((276, "the descriptor is in use") : Nat × String) ∈ kStrs := List.mem_of_getElem? (i := 17) rfl
theorem sr_169 : ((169, "the pipe is open already") : Nat × String) ∈ kStrs := List.mem_of_getElem? (i := 18) rfl
theorem sr_298 : ((298, "there is no such descriptor") : Nat × String) ∈ kStrs := List.mem_of_getElem? (i := 19) rfl
theorem sr_292 : ((292, "the address has no table entry") : Nat × String) ∈ kStrs := List.mem_of_getElem? (i := 20) rfl
theorem sr_294 : ((294, "the address has no frame entry") : Nat × String) ∈ kStrs := List.mem_of_getElem? (i := 21) rfl
theorem sr_296 : ((296, "an entry lacks the right") : Nat × String) ∈ kStrs := List.mem_of_getElem? (i := 22) rfl
theorem sr_193 : ((193, "the pipe is full") : Nat × String) ∈ kStrs := List.mem_of_getElem? (i := 23) rfl
theorem sr_204 : ((204, "the pipe is empty") : Nat × String) ∈ kStrs := List.mem_of_getElem? (i := 24) rfl
theorem sr_218 : ((218, "the frame entry is not empty") : Nat × String) ∈ kStrs := List.mem_of_getElem? (i := 25) rfl
theorem sr_223 : ((223, "the process is not waiting") : Nat × String) ∈ kStrs := List.mem_of_getElem? (i := 26) rfl
abbrev kNames : List String := ["java/lang/RuntimeException", "java/lang/Exception"]
theorem oa_263 : ∀ w ∈ (Bundle.ownAtoms R_FK 263 "java/lang/IllegalArgumentException" kNames).filter (fun w => !kHp w), w ∈ kTb := by decide +kernel

theorem oa_57 : ∀ w ∈ (Bundle.ownAtoms R_FK 57 "java/lang/IllegalStateException" kNames).filter (fun w => !kHp w), w ∈ kTb := by decide +kernel
theorem oa_95 : ∀ w ∈ (Bundle.ownAtoms R_FK 95 "java/lang/UnsupportedOperationException" kNames).filter (fun w => !kHp w), w ∈ kTb := by decide +kernel
theorem oa_284 : ∀ w ∈ (kxAtoms R_FK 284 "java/util/NoSuchElementException" 13 prog_14_method_4_code "java/lang/RuntimeException" ["java/lang/Exception"]).filter (fun w => !kHp w), w ∈ kTb := by decide +kernel
theorem x14_0 : decode prog_14_method_4_code 0 = .ok (.aload_n 0, 1) := by decide +kernel
theorem x14_1 : decode prog_14_method_4_code 1 = .ok (.aload_n 1, 1) := by decide +kernel
theorem x14_2 : decode prog_14_method_4_code 2 = .ok (.invokespecial 13, 3) := by decide +kernel
theorem x14_5 : decode prog_14_method_4_code 5 = .ok (.return_, 1) := by decide +kernel
/-- what is given at the law's start -/
def k0 (l : Launch) (s0 : State) (a0 : Array Value) (D : va_G) (cI cL : ClassId) : Prop := (∀ w ∈ kTb, w.before a0 s0 = true) ∧ kTh a0 s0 ∧ l.stackTraces = false ∧ (∀ q ∈ kStrs, ∃ sa, vk_R R_FK q.1 q.2 sa s0) ∧ va_K D vwCl [(cI, .int), (cL, .long)] s0
theorem kTb_good {w : Cond} (h : w ∈ kTb) : kGood w = true := (List.mem_filter.mp h).2
section KS
variable {l : Launch} {s0 s : State} {a0 args : Array Value} {D : va_G} {cI cL : ClassId}
theorem k0.w (K : k0 l s0 a0 D cI cL) {w : Cond} (h : w ∈ kTb) : w.before a0 s0 = true := K.1 w h
theorem k0.at (K : k0 l s0 a0 D cI cL) (hE : kEnv s0 s) : (∀ w ∈ kTb, w.before args s = true) ∧ va_K D vwCl [(cI, .int), (cL, .long)] s :=
  ⟨fun w hw => kGood_at (kTb_good hw) hE.1 (K.1 w hw), K.2.2.2.2.moved hE.1.alike⟩
theorem k0.tr (K : k0 l s0 a0 D cI cL) : l.stackTraces = false := K.2.2.1
theorem k0.str (K : k0 l s0 a0 D cI cL) (hE : kEnv s0 s) {k : Nat} {tx : String} (h : ((k, tx) : Nat × String) ∈ kStrs) : ∃ sa, vk_R R_FK k tx sa s := by
  obtain ⟨sa, h1⟩ := K.2.2.2.1 _ h
  exact ⟨sa, vk_R.warm hE.1 h1⟩
theorem k0.own (K : k0 l s0 a0 D cI cL) (hE : kEnv s0 s) {L : List Cond} (h : ∀ w ∈ L.filter (fun w => !kHp w), w ∈ kTb) : ∀ w ∈ L, w.before args s = true := k_own K.1 K.2.1 hE (fun w hw => ⟨h w hw, kTb_good (h w hw)⟩)
end KS
