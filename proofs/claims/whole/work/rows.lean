section
/-! Names: printed by a program of mine (wip/gen/names.py) out of the class files' listing; ahead of them the skeleton's PART A. -/
/-- a private method of a class that the tables say can be made, by its rows of tables_1 -/
def lw_okq (q : MethodName × Nat) : Prop := (q.1.cls ≠ "java/lang/invoke/MethodHandle" ∧ q.1.cls ≠ "java/lang/invoke/VarHandle") ∧ Cond.instantiable q.1.cls q.2 ∈ tables_1 ∧ Cond.privateMethod q.1 ∈ tables_1 ∧ Cond.instanceMethod q.1 ∈ tables_1
theorem lw_p0 : lw_okq (⟨"java/lang/Throwable", "fillInStackTrace", "(I)Ljava/lang/Throwable;"⟩, 6) := ⟨⟨by decide +kernel, by decide +kernel⟩, List.mem_of_getElem? (i := 184) (by decide +kernel), List.mem_of_getElem? (i := 182) (by decide +kernel), List.mem_of_getElem? (i := 183) (by decide +kernel)⟩
theorem lw_p1 : lw_okq (⟨"FiniteKernel", "checkPageIsFree", "(I)V"⟩, 4) := ⟨⟨by decide +kernel, by decide +kernel⟩, List.mem_of_getElem? (i := 14) (by decide +kernel), List.mem_of_getElem? (i := 237) (by decide +kernel), List.mem_of_getElem? (i := 238) (by decide +kernel)⟩
theorem lw_p2 : lw_okq (⟨"FiniteKernel", "fillEntry", "(IIIII)I"⟩, 4) := ⟨⟨by decide +kernel, by decide +kernel⟩, List.mem_of_getElem? (i := 14) (by decide +kernel), List.mem_of_getElem? (i := 254) (by decide +kernel), List.mem_of_getElem? (i := 255) (by decide +kernel)⟩
theorem lw_p3 : lw_okq (⟨"FiniteKernel", "isMyPage", "(II)Z"⟩, 4) := ⟨⟨by decide +kernel, by decide +kernel⟩, List.mem_of_getElem? (i := 14) (by decide +kernel), List.mem_of_getElem? (i := 264) (by decide +kernel), List.mem_of_getElem? (i := 265) (by decide +kernel)⟩
theorem lw_p4 : lw_okq (⟨"FiniteKernel", "isMine", "(I)Z"⟩, 4) := ⟨⟨by decide +kernel, by decide +kernel⟩, List.mem_of_getElem? (i := 14) (by decide +kernel), List.mem_of_getElem? (i := 272) (by decide +kernel), List.mem_of_getElem? (i := 273) (by decide +kernel)⟩
theorem lw_p5 : lw_okq (⟨"FiniteKernel", "isMyChild", "(II)Z"⟩, 4) := ⟨⟨by decide +kernel, by decide +kernel⟩, List.mem_of_getElem? (i := 14) (by decide +kernel), List.mem_of_getElem? (i := 276) (by decide +kernel), List.mem_of_getElem? (i := 277) (by decide +kernel)⟩
theorem lw_p6 : lw_okq (⟨"FiniteKernel", "checkMyEntryIsFilled", "(II)V"⟩, 4) := ⟨⟨by decide +kernel, by decide +kernel⟩, List.mem_of_getElem? (i := 14) (by decide +kernel), List.mem_of_getElem? (i := 321) (by decide +kernel), List.mem_of_getElem? (i := 322) (by decide +kernel)⟩
theorem lw_p7 : lw_okq (⟨"FiniteKernel", "checkIsReady", "(I)V"⟩, 4) := ⟨⟨by decide +kernel, by decide +kernel⟩, List.mem_of_getElem? (i := 14) (by decide +kernel), List.mem_of_getElem? (i := 396) (by decide +kernel), List.mem_of_getElem? (i := 397) (by decide +kernel)⟩
theorem lw_p8 : lw_okq (⟨"FiniteKernel", "run", "(I)V"⟩, 4) := ⟨⟨by decide +kernel, by decide +kernel⟩, List.mem_of_getElem? (i := 14) (by decide +kernel), List.mem_of_getElem? (i := 401) (by decide +kernel), List.mem_of_getElem? (i := 402) (by decide +kernel)⟩
theorem lw_p9 : lw_okq (⟨"FiniteKernel", "handOverToNextReady", "()V"⟩, 4) := ⟨⟨by decide +kernel, by decide +kernel⟩, List.mem_of_getElem? (i := 14) (by decide +kernel), List.mem_of_getElem? (i := 413) (by decide +kernel), List.mem_of_getElem? (i := 414) (by decide +kernel)⟩
theorem lw_p10 : lw_okq (⟨"FiniteKernel", "isMyLivingChild", "(I)Z"⟩, 4) := ⟨⟨by decide +kernel, by decide +kernel⟩, List.mem_of_getElem? (i := 14) (by decide +kernel), List.mem_of_getElem? (i := 422) (by decide +kernel), List.mem_of_getElem? (i := 423) (by decide +kernel)⟩
theorem lw_p11 : lw_okq (⟨"FiniteKernel", "holdsMoreThanRoot", "(I)Z"⟩, 4) := ⟨⟨by decide +kernel, by decide +kernel⟩, List.mem_of_getElem? (i := 14) (by decide +kernel), List.mem_of_getElem? (i := 443) (by decide +kernel), List.mem_of_getElem? (i := 444) (by decide +kernel)⟩
theorem lw_p12 : lw_okq (⟨"FiniteKernel", "checkIsMine", "(I)V"⟩, 4) := ⟨⟨by decide +kernel, by decide +kernel⟩, List.mem_of_getElem? (i := 14) (by decide +kernel), List.mem_of_getElem? (i := 474) (by decide +kernel), List.mem_of_getElem? (i := 475) (by decide +kernel)⟩
theorem lw_p13 : lw_okq (⟨"FiniteKernel", "checkDescriptorIsUnused", "(II)V"⟩, 4) := ⟨⟨by decide +kernel, by decide +kernel⟩, List.mem_of_getElem? (i := 14) (by decide +kernel), List.mem_of_getElem? (i := 479) (by decide +kernel), List.mem_of_getElem? (i := 480) (by decide +kernel)⟩
theorem lw_p14 : lw_okq (⟨"FiniteKernel", "connect", "(III)I"⟩, 4) := ⟨⟨by decide +kernel, by decide +kernel⟩, List.mem_of_getElem? (i := 14) (by decide +kernel), List.mem_of_getElem? (i := 494) (by decide +kernel), List.mem_of_getElem? (i := 495) (by decide +kernel)⟩
theorem lw_p15 : lw_okq (⟨"FiniteKernel", "pipeBehind", "(II)I"⟩, 4) := ⟨⟨by decide +kernel, by decide +kernel⟩, List.mem_of_getElem? (i := 14) (by decide +kernel), List.mem_of_getElem? (i := 506) (by decide +kernel), List.mem_of_getElem? (i := 507) (by decide +kernel)⟩
def lw_privs_1 : List (MethodName × Nat) := [(⟨"java/lang/Throwable", "fillInStackTrace", "(I)Ljava/lang/Throwable;"⟩, 6), (⟨"FiniteKernel", "checkPageIsFree", "(I)V"⟩, 4), (⟨"FiniteKernel", "fillEntry", "(IIIII)I"⟩, 4), (⟨"FiniteKernel", "isMyPage", "(II)Z"⟩, 4), (⟨"FiniteKernel", "isMine", "(I)Z"⟩, 4), (⟨"FiniteKernel", "isMyChild", "(II)Z"⟩, 4), (⟨"FiniteKernel", "checkMyEntryIsFilled", "(II)V"⟩, 4), (⟨"FiniteKernel", "checkIsReady", "(I)V"⟩, 4), (⟨"FiniteKernel", "run", "(I)V"⟩, 4), (⟨"FiniteKernel", "handOverToNextReady", "()V"⟩, 4), (⟨"FiniteKernel", "isMyLivingChild", "(I)Z"⟩, 4), (⟨"FiniteKernel", "holdsMoreThanRoot", "(I)Z"⟩, 4), (⟨"FiniteKernel", "checkIsMine", "(I)V"⟩, 4), (⟨"FiniteKernel", "checkDescriptorIsUnused", "(II)V"⟩, 4), (⟨"FiniteKernel", "connect", "(III)I"⟩, 4), (⟨"FiniteKernel", "pipeBehind", "(II)I"⟩, 4)]
theorem lw_r1 : ∀ q ∈ lw_privs_1, lw_okq q := List.forall_mem_cons.mpr ⟨lw_p0, List.forall_mem_cons.mpr ⟨lw_p1, List.forall_mem_cons.mpr ⟨lw_p2, List.forall_mem_cons.mpr ⟨lw_p3, List.forall_mem_cons.mpr ⟨lw_p4, List.forall_mem_cons.mpr ⟨lw_p5, List.forall_mem_cons.mpr ⟨lw_p6, List.forall_mem_cons.mpr ⟨lw_p7, List.forall_mem_cons.mpr ⟨lw_p8, List.forall_mem_cons.mpr ⟨lw_p9, List.forall_mem_cons.mpr ⟨lw_p10, List.forall_mem_cons.mpr ⟨lw_p11, List.forall_mem_cons.mpr ⟨lw_p12, List.forall_mem_cons.mpr ⟨lw_p13, List.forall_mem_cons.mpr ⟨lw_p14, List.forall_mem_cons.mpr ⟨lw_p15, fun _ h => absurd h List.not_mem_nil⟩⟩⟩⟩⟩⟩⟩⟩⟩⟩⟩⟩⟩⟩⟩⟩
theorem lw_p16 : lw_okq (⟨"FiniteKernel", "frameWithRight", "(II)I"⟩, 4) := ⟨⟨by decide +kernel, by decide +kernel⟩, List.mem_of_getElem? (i := 14) (by decide +kernel), List.mem_of_getElem? (i := 528) (by decide +kernel), List.mem_of_getElem? (i := 529) (by decide +kernel)⟩
theorem lw_p17 : lw_okq (⟨"FiniteKernel", "frameAt", "(I)I"⟩, 4) := ⟨⟨by decide +kernel, by decide +kernel⟩, List.mem_of_getElem? (i := 14) (by decide +kernel), List.mem_of_getElem? (i := 532) (by decide +kernel), List.mem_of_getElem? (i := 533) (by decide +kernel)⟩
theorem lw_p18 : lw_okq (⟨"FiniteKernel", "tableAt", "(I)I"⟩, 4) := ⟨⟨by decide +kernel, by decide +kernel⟩, List.mem_of_getElem? (i := 14) (by decide +kernel), List.mem_of_getElem? (i := 536) (by decide +kernel), List.mem_of_getElem? (i := 537) (by decide +kernel)⟩
theorem lw_p19 : lw_okq (⟨"FiniteKernel", "intsInOpenPipes", "()I"⟩, 4) := ⟨⟨by decide +kernel, by decide +kernel⟩, List.mem_of_getElem? (i := 14) (by decide +kernel), List.mem_of_getElem? (i := 646) (by decide +kernel), List.mem_of_getElem? (i := 647) (by decide +kernel)⟩
theorem lw_p20 : lw_okq (⟨"FiniteKernelModel", "raise", "(I)I"⟩, 15) := ⟨⟨by decide +kernel, by decide +kernel⟩, List.mem_of_getElem? (i := 650) (by decide +kernel), List.mem_of_getElem? (i := 719) (by decide +kernel), List.mem_of_getElem? (i := 720) (by decide +kernel)⟩
theorem lw_p21 : lw_okq (⟨"FiniteKernelModel", "become", "(III)V"⟩, 15) := ⟨⟨by decide +kernel, by decide +kernel⟩, List.mem_of_getElem? (i := 650) (by decide +kernel), List.mem_of_getElem? (i := 723) (by decide +kernel), List.mem_of_getElem? (i := 724) (by decide +kernel)⟩
theorem lw_p22 : lw_okq (⟨"FiniteKernelModel", "hang", "(IIIII)I"⟩, 15) := ⟨⟨by decide +kernel, by decide +kernel⟩, List.mem_of_getElem? (i := 650) (by decide +kernel), List.mem_of_getElem? (i := 731) (by decide +kernel), List.mem_of_getElem? (i := 732) (by decide +kernel)⟩
theorem lw_p23 : lw_okq (⟨"FiniteKernelModel", "minePage", "(II)Z"⟩, 15) := ⟨⟨by decide +kernel, by decide +kernel⟩, List.mem_of_getElem? (i := 650) (by decide +kernel), List.mem_of_getElem? (i := 735) (by decide +kernel), List.mem_of_getElem? (i := 736) (by decide +kernel)⟩
theorem lw_p24 : lw_okq (⟨"FiniteKernelModel", "mine", "(I)Z"⟩, 15) := ⟨⟨by decide +kernel, by decide +kernel⟩, List.mem_of_getElem? (i := 650) (by decide +kernel), List.mem_of_getElem? (i := 739) (by decide +kernel), List.mem_of_getElem? (i := 740) (by decide +kernel)⟩
theorem lw_p25 : lw_okq (⟨"FiniteKernelModel", "holder", "(I)Z"⟩, 15) := ⟨⟨by decide +kernel, by decide +kernel⟩, List.mem_of_getElem? (i := 650) (by decide +kernel), List.mem_of_getElem? (i := 751) (by decide +kernel), List.mem_of_getElem? (i := 752) (by decide +kernel)⟩
theorem lw_p26 : lw_okq (⟨"FiniteKernelModel", "filled", "(I)I"⟩, 15) := ⟨⟨by decide +kernel, by decide +kernel⟩, List.mem_of_getElem? (i := 650) (by decide +kernel), List.mem_of_getElem? (i := 763) (by decide +kernel), List.mem_of_getElem? (i := 764) (by decide +kernel)⟩
theorem lw_p27 : lw_okq (⟨"FiniteKernelModel", "hand", "(II)I"⟩, 15) := ⟨⟨by decide +kernel, by decide +kernel⟩, List.mem_of_getElem? (i := 650) (by decide +kernel), List.mem_of_getElem? (i := 775) (by decide +kernel), List.mem_of_getElem? (i := 776) (by decide +kernel)⟩
theorem lw_p28 : lw_okq (⟨"FiniteKernelModel", "nextReady", "(I)I"⟩, 15) := ⟨⟨by decide +kernel, by decide +kernel⟩, List.mem_of_getElem? (i := 650) (by decide +kernel), List.mem_of_getElem? (i := 783) (by decide +kernel), List.mem_of_getElem? (i := 784) (by decide +kernel)⟩
theorem lw_p29 : lw_okq (⟨"FiniteKernelModel", "descriptors", "(I)I"⟩, 15) := ⟨⟨by decide +kernel, by decide +kernel⟩, List.mem_of_getElem? (i := 650) (by decide +kernel), List.mem_of_getElem? (i := 787) (by decide +kernel), List.mem_of_getElem? (i := 788) (by decide +kernel)⟩
theorem lw_p30 : lw_okq (⟨"FiniteKernelModel", "owned", "(I)I"⟩, 15) := ⟨⟨by decide +kernel, by decide +kernel⟩, List.mem_of_getElem? (i := 650) (by decide +kernel), List.mem_of_getElem? (i := 795) (by decide +kernel), List.mem_of_getElem? (i := 796) (by decide +kernel)⟩
theorem lw_p31 : lw_okq (⟨"FiniteKernelModel", "countOf", "(I)I"⟩, 15) := ⟨⟨by decide +kernel, by decide +kernel⟩, List.mem_of_getElem? (i := 650) (by decide +kernel), List.mem_of_getElem? (i := 803) (by decide +kernel), List.mem_of_getElem? (i := 804) (by decide +kernel)⟩
def lw_privs_2 : List (MethodName × Nat) := [(⟨"FiniteKernel", "frameWithRight", "(II)I"⟩, 4), (⟨"FiniteKernel", "frameAt", "(I)I"⟩, 4), (⟨"FiniteKernel", "tableAt", "(I)I"⟩, 4), (⟨"FiniteKernel", "intsInOpenPipes", "()I"⟩, 4), (⟨"FiniteKernelModel", "raise", "(I)I"⟩, 15), (⟨"FiniteKernelModel", "become", "(III)V"⟩, 15), (⟨"FiniteKernelModel", "hang", "(IIIII)I"⟩, 15), (⟨"FiniteKernelModel", "minePage", "(II)Z"⟩, 15), (⟨"FiniteKernelModel", "mine", "(I)Z"⟩, 15), (⟨"FiniteKernelModel", "holder", "(I)Z"⟩, 15), (⟨"FiniteKernelModel", "filled", "(I)I"⟩, 15), (⟨"FiniteKernelModel", "hand", "(II)I"⟩, 15), (⟨"FiniteKernelModel", "nextReady", "(I)I"⟩, 15), (⟨"FiniteKernelModel", "descriptors", "(I)I"⟩, 15), (⟨"FiniteKernelModel", "owned", "(I)I"⟩, 15), (⟨"FiniteKernelModel", "countOf", "(I)I"⟩, 15)]
theorem lw_r2 : ∀ q ∈ lw_privs_2, lw_okq q := List.forall_mem_cons.mpr ⟨lw_p16, List.forall_mem_cons.mpr ⟨lw_p17, List.forall_mem_cons.mpr ⟨lw_p18, List.forall_mem_cons.mpr ⟨lw_p19, List.forall_mem_cons.mpr ⟨lw_p20, List.forall_mem_cons.mpr ⟨lw_p21, List.forall_mem_cons.mpr ⟨lw_p22, List.forall_mem_cons.mpr ⟨lw_p23, List.forall_mem_cons.mpr ⟨lw_p24, List.forall_mem_cons.mpr ⟨lw_p25, List.forall_mem_cons.mpr ⟨lw_p26, List.forall_mem_cons.mpr ⟨lw_p27, List.forall_mem_cons.mpr ⟨lw_p28, List.forall_mem_cons.mpr ⟨lw_p29, List.forall_mem_cons.mpr ⟨lw_p30, List.forall_mem_cons.mpr ⟨lw_p31, fun _ h => absurd h List.not_mem_nil⟩⟩⟩⟩⟩⟩⟩⟩⟩⟩⟩⟩⟩⟩⟩⟩
theorem lw_p32 : lw_okq (⟨"FiniteKernelModel", "walk", "(II)I"⟩, 15) := ⟨⟨by decide +kernel, by decide +kernel⟩, List.mem_of_getElem? (i := 650) (by decide +kernel), List.mem_of_getElem? (i := 819) (by decide +kernel), List.mem_of_getElem? (i := 820) (by decide +kernel)⟩
theorem lw_p33 : lw_okq (⟨"FiniteKernelModel", "frameEntry", "(II)I"⟩, 15) := ⟨⟨by decide +kernel, by decide +kernel⟩, List.mem_of_getElem? (i := 650) (by decide +kernel), List.mem_of_getElem? (i := 823) (by decide +kernel), List.mem_of_getElem? (i := 824) (by decide +kernel)⟩
def lw_privs_3 : List (MethodName × Nat) := [(⟨"FiniteKernelModel", "walk", "(II)I"⟩, 15), (⟨"FiniteKernelModel", "frameEntry", "(II)I"⟩, 15)]
theorem lw_r3 : ∀ q ∈ lw_privs_3, lw_okq q := List.forall_mem_cons.mpr ⟨lw_p32, List.forall_mem_cons.mpr ⟨lw_p33, fun _ h => absurd h List.not_mem_nil⟩⟩
def lw_privs : List (MethodName × Nat) := lw_privs_1 ++ (lw_privs_2 ++ (lw_privs_3))
def lw_tbl : List Cond := k2_sels lw_privs ++ tables_1
theorem lw_privs_ok : ∀ q ∈ lw_privs, lw_okq q := by
  show ∀ q ∈ lw_privs_1 ++ (lw_privs_2 ++ (lw_privs_3)), lw_okq q
  exact List.forall_mem_append.mpr ⟨lw_r1, List.forall_mem_append.mpr ⟨lw_r2, lw_r3⟩⟩

def R_FK : String := "FiniteKernel"
def R_Mem : String := "FiniteKernel$Memory"
def R_Pro : String := "FiniteKernel$Processes"
def R_Pip : String := "FiniteKernel$Pipes"
def R_Mod : String := "FiniteKernelModel"
def R_Law : String := "FiniteKernelLaw"
def T_FK : u_T := fun k => match k with
  | 0 => ("FiniteKernel", "memory", "LFiniteKernel$Memory;", true)
  | 1 => ("FiniteKernel", "processes", "LFiniteKernel$Processes;", true)
  | 2 => ("FiniteKernel", "pipes", "LFiniteKernel$Pipes;", true)
  | _ => ("FiniteKernel", "caller", "I", false)
def ty_FK : Nat → FieldType := fun k => match k with
  | 0 => .object "FiniteKernel$Memory"
  | 1 => .object "FiniteKernel$Processes"
  | 2 => .object "FiniteKernel$Pipes"
  | _ => .int
theorem nm_FK : ∀ a, a < 4 → ∀ b, b < 4 → a ≠ b → (T_FK a).2.1 ≠ (T_FK b).2.1 := by decide +kernel
theorem ty_FK_ok : ∀ k, k < 4 → parseFieldDescriptor (T_FK k).2.2.1 = some (ty_FK k) := by decide +kernel
def T_Mem : u_T := fun k => match k with
  | 0 => ("FiniteKernel$Memory", "kinds", "[I", true)
  | 1 => ("FiniteKernel$Memory", "owners", "[I", true)
  | 2 => ("FiniteKernel$Memory", "entryPages", "[I", true)
  | 3 => ("FiniteKernel$Memory", "entryRights", "[I", true)
  | _ => ("FiniteKernel$Memory", "words", "[I", true)
def ty_Mem : Nat → FieldType := fun k => match k with
  | 0 => .array .int
  | 1 => .array .int
  | 2 => .array .int
  | 3 => .array .int
  | _ => .array .int
theorem nm_Mem : ∀ a, a < 5 → ∀ b, b < 5 → a ≠ b → (T_Mem a).2.1 ≠ (T_Mem b).2.1 := by decide +kernel
theorem ty_Mem_ok : ∀ k, k < 5 → parseFieldDescriptor (T_Mem k).2.2.1 = some (ty_Mem k) := by decide +kernel
def T_Pro : u_T := fun k => match k with
  | 0 => ("FiniteKernel$Processes", "states", "[I", true)
  | 1 => ("FiniteKernel$Processes", "parents", "[I", true)
  | 2 => ("FiniteKernel$Processes", "roots", "[I", true)
  | 3 => ("FiniteKernel$Processes", "descriptors", "[I", true)
  | 4 => ("FiniteKernel$Processes", "awaitedTables", "[I", true)
  | _ => ("FiniteKernel$Processes", "awaitedEntries", "[I", true)
def ty_Pro : Nat → FieldType := fun k => match k with
  | 0 => .array .int
  | 1 => .array .int
  | 2 => .array .int
  | 3 => .array .int
  | 4 => .array .int
  | _ => .array .int
theorem nm_Pro : ∀ a, a < 6 → ∀ b, b < 6 → a ≠ b → (T_Pro a).2.1 ≠ (T_Pro b).2.1 := by decide +kernel
theorem ty_Pro_ok : ∀ k, k < 6 → parseFieldDescriptor (T_Pro k).2.2.1 = some (ty_Pro k) := by decide +kernel
def T_Pip : u_T := fun k => match k with
  | 0 => ("FiniteKernel$Pipes", "sizes", "[I", true)
  | _ => ("FiniteKernel$Pipes", "ints", "[I", true)
def ty_Pip : Nat → FieldType := fun k => match k with
  | 0 => .array .int
  | _ => .array .int
theorem nm_Pip : ∀ a, a < 2 → ∀ b, b < 2 → a ≠ b → (T_Pip a).2.1 ≠ (T_Pip b).2.1 := by decide +kernel
theorem ty_Pip_ok : ∀ k, k < 2 → parseFieldDescriptor (T_Pip k).2.2.1 = some (ty_Pip k) := by decide +kernel
def T_Mod : u_T := fun k => match k with
  | 0 => ("FiniteKernelModel", "thrown", "I", false)
  | 1 => ("FiniteKernelModel", "state", "[I", true)
  | 2 => ("FiniteKernelModel", "parent", "[I", true)
  | 3 => ("FiniteKernelModel", "root", "[I", true)
  | 4 => ("FiniteKernelModel", "descriptor", "[I", true)
  | 5 => ("FiniteKernelModel", "expects", "[I", true)
  | 6 => ("FiniteKernelModel", "kind", "[I", true)
  | 7 => ("FiniteKernelModel", "owner", "[I", true)
  | 8 => ("FiniteKernelModel", "entry", "[I", true)
  | 9 => ("FiniteKernelModel", "rights", "[I", true)
  | 10 => ("FiniteKernelModel", "word", "[I", true)
  | 11 => ("FiniteKernelModel", "pipe", "[I", true)
  | 12 => ("FiniteKernelModel", "held", "[I", true)
  | 13 => ("FiniteKernelModel", "caller", "I", false)
  | _ => ("FiniteKernelModel", "wrong", "I", false)
def ty_Mod : Nat → FieldType := fun k => match k with
  | 0 => .int
  | 1 => .array .int
  | 2 => .array .int
  | 3 => .array .int
  | 4 => .array .int
  | 5 => .array .int
  | 6 => .array .int
  | 7 => .array .int
  | 8 => .array .int
  | 9 => .array .int
  | 10 => .array .int
  | 11 => .array .int
  | 12 => .array .int
  | 13 => .int
  | _ => .int
theorem nm_Mod : ∀ a, a < 15 → ∀ b, b < 15 → a ≠ b → (T_Mod a).2.1 ≠ (T_Mod b).2.1 := by decide +kernel
theorem ty_Mod_ok : ∀ k, k < 15 → parseFieldDescriptor (T_Mod k).2.2.1 = some (ty_Mod k) := by decide +kernel
abbrev b_FK_init : ByteArray := prog_1_method_1_code
def y_FK_init : MethodName := ⟨R_FK, "<init>", "()V"⟩
abbrev b_Mem_init : ByteArray := prog_2_method_1_code
def y_Mem_init : MethodName := ⟨R_Mem, "<init>", "()V"⟩
abbrev b_Mem_setFree : ByteArray := prog_2_method_3_code
def y_Mem_setFree : MethodName := ⟨R_Mem, "setFree", "(I)V"⟩
abbrev b_Mem_become : ByteArray := prog_2_method_2_code
def y_Mem_become : MethodName := ⟨R_Mem, "become", "(III)V"⟩
abbrev b_Mem_clearEntry : ByteArray := prog_2_method_10_code
def y_Mem_clearEntry : MethodName := ⟨R_Mem, "clearEntry", "(II)V"⟩
abbrev b_Mem_setEntry : ByteArray := prog_2_method_9_code
def y_Mem_setEntry : MethodName := ⟨R_Mem, "setEntry", "(IIII)V"⟩
abbrev b_Mem_setWord : ByteArray := prog_2_method_14_code
def y_Mem_setWord : MethodName := ⟨R_Mem, "setWord", "(III)V"⟩
abbrev b_Pro_init : ByteArray := prog_4_method_1_code
def y_Pro_init : MethodName := ⟨R_Pro, "<init>", "()V"⟩
abbrev b_Pro_end : ByteArray := prog_4_method_3_code
def y_Pro_end : MethodName := ⟨R_Pro, "end", "(I)V"⟩
abbrev b_Pro_begin : ByteArray := prog_4_method_2_code
def y_Pro_begin : MethodName := ⟨R_Pro, "begin", "(IIII)V"⟩
abbrev b_Pro_setPipe : ByteArray := prog_4_method_15_code
def y_Pro_setPipe : MethodName := ⟨R_Pro, "setPipe", "(III)V"⟩
abbrev b_Pip_init : ByteArray := prog_3_method_1_code
def y_Pip_init : MethodName := ⟨R_Pip, "<init>", "()V"⟩
abbrev b_Law_spawn : ByteArray := method_3_code
def y_Law_spawn : MethodName := ⟨R_Law, "spawn", "(LFiniteKernel;II[J)I"⟩
abbrev b_FK_spawn : ByteArray := prog_1_method_2_code
def y_FK_spawn : MethodName := ⟨R_FK, "spawn", "(II)I"⟩
abbrev b_FK_checkProcess : ByteArray := prog_1_method_25_code
def y_FK_checkProcess : MethodName := ⟨R_FK, "checkProcess", "(I)V"⟩
abbrev b_FK_checkWithin : ByteArray := prog_1_method_24_code
def y_FK_checkWithin : MethodName := ⟨R_FK, "checkWithin", "(III)V"⟩
abbrev b_FK_checkPage : ByteArray := prog_1_method_26_code
def y_FK_checkPage : MethodName := ⟨R_FK, "checkPage", "(I)V"⟩
abbrev b_Pro_stateOf : ByteArray := prog_4_method_4_code
def y_Pro_stateOf : MethodName := ⟨R_Pro, "stateOf", "(I)I"⟩
abbrev b_FK_checkPageIsFree : ByteArray := prog_1_method_42_code
def y_FK_checkPageIsFree : MethodName := ⟨R_FK, "checkPageIsFree", "(I)V"⟩
abbrev b_Mem_kindOf : ByteArray := prog_2_method_4_code
def y_Mem_kindOf : MethodName := ⟨R_Mem, "kindOf", "(I)I"⟩
abbrev b_Law_table : ByteArray := method_4_code
def y_Law_table : MethodName := ⟨R_Law, "table", "(LFiniteKernel;IIII[J)I"⟩
abbrev b_FK_table : ByteArray := prog_1_method_3_code
def y_FK_table : MethodName := ⟨R_FK, "table", "(IIII)I"⟩
abbrev b_FK_fillEntry : ByteArray := prog_1_method_45_code
def y_FK_fillEntry : MethodName := ⟨R_FK, "fillEntry", "(IIIII)I"⟩
abbrev b_FK_checkEntry : ByteArray := prog_1_method_27_code
def y_FK_checkEntry : MethodName := ⟨R_FK, "checkEntry", "(I)V"⟩
abbrev b_FK_checkRights : ByteArray := prog_1_method_28_code
def y_FK_checkRights : MethodName := ⟨R_FK, "checkRights", "(I)V"⟩
abbrev b_FK_isMyPage : ByteArray := prog_1_method_38_code
def y_FK_isMyPage : MethodName := ⟨R_FK, "isMyPage", "(II)Z"⟩
abbrev b_Mem_ownerOf : ByteArray := prog_2_method_5_code
def y_Mem_ownerOf : MethodName := ⟨R_Mem, "ownerOf", "(I)I"⟩
abbrev b_FK_isMine : ByteArray := prog_1_method_35_code
def y_FK_isMine : MethodName := ⟨R_FK, "isMine", "(I)Z"⟩
abbrev b_FK_isMyChild : ByteArray := prog_1_method_36_code
def y_FK_isMyChild : MethodName := ⟨R_FK, "isMyChild", "(II)Z"⟩
abbrev b_Pro_parentOf : ByteArray := prog_4_method_6_code
def y_Pro_parentOf : MethodName := ⟨R_Pro, "parentOf", "(I)I"⟩
abbrev b_Mem_pageIn : ByteArray := prog_2_method_7_code
def y_Mem_pageIn : MethodName := ⟨R_Mem, "pageIn", "(II)I"⟩
abbrev b_Law_frame : ByteArray := method_5_code
def y_Law_frame : MethodName := ⟨R_Law, "frame", "(LFiniteKernel;IIII[J)I"⟩
abbrev b_FK_frame : ByteArray := prog_1_method_4_code
def y_FK_frame : MethodName := ⟨R_FK, "frame", "(IIII)I"⟩
abbrev b_Law_protect : ByteArray := method_6_code
def y_Law_protect : MethodName := ⟨R_Law, "protect", "(LFiniteKernel;III[J)I"⟩
abbrev b_FK_protect : ByteArray := prog_1_method_5_code
def y_FK_protect : MethodName := ⟨R_FK, "protect", "(III)I"⟩
abbrev b_FK_checkMyEntryIsFilled : ByteArray := prog_1_method_44_code
def y_FK_checkMyEntryIsFilled : MethodName := ⟨R_FK, "checkMyEntryIsFilled", "(II)V"⟩
abbrev b_Mem_rightsIn : ByteArray := prog_2_method_8_code
def y_Mem_rightsIn : MethodName := ⟨R_Mem, "rightsIn", "(II)I"⟩
abbrev b_Law_copy : ByteArray := method_7_code
def y_Law_copy : MethodName := ⟨R_Law, "copy", "(LFiniteKernel;II[J)I"⟩
abbrev b_FK_copy : ByteArray := prog_1_method_6_code
def y_FK_copy : MethodName := ⟨R_FK, "copy", "(II)I"⟩
abbrev b_Mem_copyWords : ByteArray := prog_2_method_15_code
def y_Mem_copyWords : MethodName := ⟨R_Mem, "copyWords", "(II)V"⟩
abbrev b_Mem_word : ByteArray := prog_2_method_13_code
def y_Mem_word : MethodName := ⟨R_Mem, "word", "(II)I"⟩
abbrev b_Law_release : ByteArray := method_8_code
def y_Law_release : MethodName := ⟨R_Law, "release", "(LFiniteKernel;II[J)I"⟩
abbrev b_FK_release : ByteArray := prog_1_method_7_code
def y_FK_release : MethodName := ⟨R_FK, "release", "(II)I"⟩
abbrev b_Mem_filledEntries : ByteArray := prog_2_method_11_code
def y_Mem_filledEntries : MethodName := ⟨R_Mem, "filledEntries", "(I)I"⟩
abbrev b_Law_start : ByteArray := method_9_code
def y_Law_start : MethodName := ⟨R_Law, "start", "(LFiniteKernel;I[J)I"⟩
abbrev b_FK_start : ByteArray := prog_1_method_8_code
def y_FK_start : MethodName := ⟨R_FK, "start", "(I)I"⟩
abbrev b_Pro_setState : ByteArray := prog_4_method_5_code
def y_Pro_setState : MethodName := ⟨R_Pro, "setState", "(II)V"⟩
abbrev b_Law_give : ByteArray := method_10_code
def y_Law_give : MethodName := ⟨R_Law, "give", "(LFiniteKernel;I[J)I"⟩
abbrev b_FK_give : ByteArray := prog_1_method_9_code
def y_FK_give : MethodName := ⟨R_FK, "give", "(I)I"⟩
abbrev b_FK_checkIsReady : ByteArray := prog_1_method_41_code
def y_FK_checkIsReady : MethodName := ⟨R_FK, "checkIsReady", "(I)V"⟩
abbrev b_FK_run : ByteArray := prog_1_method_51_code
def y_FK_run : MethodName := ⟨R_FK, "run", "(I)V"⟩
abbrev b_Law_kill : ByteArray := method_11_code
def y_Law_kill : MethodName := ⟨R_Law, "kill", "(LFiniteKernel;I[J)I"⟩
abbrev b_FK_kill : ByteArray := prog_1_method_10_code
def y_FK_kill : MethodName := ⟨R_FK, "kill", "(I)I"⟩
abbrev b_FK_handOverToNextReady : ByteArray := prog_1_method_52_code
def y_FK_handOverToNextReady : MethodName := ⟨R_FK, "handOverToNextReady", "()V"⟩
abbrev b_Pro_nextReady : ByteArray := prog_4_method_11_code
def y_Pro_nextReady : MethodName := ⟨R_Pro, "nextReady", "(I)I"⟩
abbrev b_FK_isMyLivingChild : ByteArray := prog_1_method_37_code
def y_FK_isMyLivingChild : MethodName := ⟨R_FK, "isMyLivingChild", "(I)Z"⟩
abbrev b_Pro_descriptorsInUse : ByteArray := prog_4_method_16_code
def y_Pro_descriptorsInUse : MethodName := ⟨R_Pro, "descriptorsInUse", "(I)I"⟩
abbrev b_Pro_pipeOf : ByteArray := prog_4_method_14_code
def y_Pro_pipeOf : MethodName := ⟨R_Pro, "pipeOf", "(II)I"⟩
abbrev b_Law_reap : ByteArray := method_12_code
def y_Law_reap : MethodName := ⟨R_Law, "reap", "(LFiniteKernel;I[J)I"⟩
abbrev b_FK_reap : ByteArray := prog_1_method_11_code
def y_FK_reap : MethodName := ⟨R_FK, "reap", "(I)I"⟩
abbrev b_FK_holdsMoreThanRoot : ByteArray := prog_1_method_39_code
def y_FK_holdsMoreThanRoot : MethodName := ⟨R_FK, "holdsMoreThanRoot", "(I)Z"⟩
abbrev b_Mem_pagesOf : ByteArray := prog_2_method_12_code
def y_Mem_pagesOf : MethodName := ⟨R_Mem, "pagesOf", "(I)I"⟩
abbrev b_Pro_rootOf : ByteArray := prog_4_method_7_code
def y_Pro_rootOf : MethodName := ⟨R_Pro, "rootOf", "(I)I"⟩
abbrev b_Pro_moveChildren : ByteArray := prog_4_method_12_code
def y_Pro_moveChildren : MethodName := ⟨R_Pro, "moveChildren", "(II)I"⟩
abbrev b_Law_open : ByteArray := method_13_code
def y_Law_open : MethodName := ⟨R_Law, "open", "(LFiniteKernel;III[J)I"⟩
abbrev b_FK_open : ByteArray := prog_1_method_12_code
def y_FK_open : MethodName := ⟨R_FK, "open", "(III)I"⟩
abbrev b_FK_checkDescriptor : ByteArray := prog_1_method_29_code
def y_FK_checkDescriptor : MethodName := ⟨R_FK, "checkDescriptor", "(I)V"⟩
abbrev b_FK_checkPipe : ByteArray := prog_1_method_30_code
def y_FK_checkPipe : MethodName := ⟨R_FK, "checkPipe", "(I)V"⟩
abbrev b_FK_checkIsMine : ByteArray := prog_1_method_40_code
def y_FK_checkIsMine : MethodName := ⟨R_FK, "checkIsMine", "(I)V"⟩
abbrev b_FK_checkDescriptorIsUnused : ByteArray := prog_1_method_43_code
def y_FK_checkDescriptorIsUnused : MethodName := ⟨R_FK, "checkDescriptorIsUnused", "(II)V"⟩
abbrev b_Pro_descriptorsOfPipe : ByteArray := prog_4_method_17_code
def y_Pro_descriptorsOfPipe : MethodName := ⟨R_Pro, "descriptorsOfPipe", "(I)I"⟩
abbrev b_Pip_makeEmpty : ByteArray := prog_3_method_2_code
def y_Pip_makeEmpty : MethodName := ⟨R_Pip, "makeEmpty", "(I)V"⟩
abbrev b_FK_connect : ByteArray := prog_1_method_50_code
def y_FK_connect : MethodName := ⟨R_FK, "connect", "(III)I"⟩
abbrev b_Law_share : ByteArray := method_14_code
def y_Law_share : MethodName := ⟨R_Law, "share", "(LFiniteKernel;III[J)I"⟩
abbrev b_FK_share : ByteArray := prog_1_method_13_code
def y_FK_share : MethodName := ⟨R_FK, "share", "(III)I"⟩
abbrev b_FK_pipeBehind : ByteArray := prog_1_method_49_code
def y_FK_pipeBehind : MethodName := ⟨R_FK, "pipeBehind", "(II)I"⟩
abbrev b_Law_close : ByteArray := method_15_code
def y_Law_close : MethodName := ⟨R_Law, "close", "(LFiniteKernel;II[J)I"⟩
abbrev b_FK_close : ByteArray := prog_1_method_14_code
def y_FK_close : MethodName := ⟨R_FK, "close", "(II)I"⟩
abbrev b_Law_put : ByteArray := method_16_code
def y_Law_put : MethodName := ⟨R_Law, "put", "(LFiniteKernel;II[J)I"⟩
abbrev b_FK_put : ByteArray := prog_1_method_15_code
def y_FK_put : MethodName := ⟨R_FK, "put", "(II)I"⟩
abbrev b_FK_checkAddress : ByteArray := prog_1_method_31_code
def y_FK_checkAddress : MethodName := ⟨R_FK, "checkAddress", "(I)V"⟩
abbrev b_FK_frameWithRight : ByteArray := prog_1_method_48_code
def y_FK_frameWithRight : MethodName := ⟨R_FK, "frameWithRight", "(II)I"⟩
abbrev b_FK_frameAt : ByteArray := prog_1_method_47_code
def y_FK_frameAt : MethodName := ⟨R_FK, "frameAt", "(I)I"⟩
abbrev b_FK_tableAt : ByteArray := prog_1_method_46_code
def y_FK_tableAt : MethodName := ⟨R_FK, "tableAt", "(I)I"⟩
abbrev b_FK_tableEntryOf : ByteArray := prog_1_method_32_code
def y_FK_tableEntryOf : MethodName := ⟨R_FK, "tableEntryOf", "(I)I"⟩
abbrev b_FK_frameEntryOf : ByteArray := prog_1_method_33_code
def y_FK_frameEntryOf : MethodName := ⟨R_FK, "frameEntryOf", "(I)I"⟩
abbrev b_Pip_held : ByteArray := prog_3_method_3_code
def y_Pip_held : MethodName := ⟨R_Pip, "held", "(I)I"⟩
abbrev b_FK_wordOf : ByteArray := prog_1_method_34_code
def y_FK_wordOf : MethodName := ⟨R_FK, "wordOf", "(I)I"⟩
abbrev b_Pip_append : ByteArray := prog_3_method_4_code
def y_Pip_append : MethodName := ⟨R_Pip, "append", "(II)V"⟩
abbrev b_Law_take : ByteArray := method_17_code
def y_Law_take : MethodName := ⟨R_Law, "take", "(LFiniteKernel;II[J)I"⟩
abbrev b_FK_take : ByteArray := prog_1_method_16_code
def y_FK_take : MethodName := ⟨R_FK, "take", "(II)I"⟩
abbrev b_Pip_removeFirst : ByteArray := prog_3_method_5_code
def y_Pip_removeFirst : MethodName := ⟨R_Pip, "removeFirst", "(I)I"⟩
abbrev b_Law_read : ByteArray := method_18_code
def y_Law_read : MethodName := ⟨R_Law, "read", "(LFiniteKernel;I[J)I"⟩
abbrev b_FK_read : ByteArray := prog_1_method_17_code
def y_FK_read : MethodName := ⟨R_FK, "read", "(I)I"⟩
abbrev b_Law_write : ByteArray := method_19_code
def y_Law_write : MethodName := ⟨R_Law, "write", "(LFiniteKernel;II[J)I"⟩
abbrev b_FK_write : ByteArray := prog_1_method_18_code
def y_FK_write : MethodName := ⟨R_FK, "write", "(II)I"⟩
abbrev b_Law_expect : ByteArray := method_20_code
def y_Law_expect : MethodName := ⟨R_Law, "expect", "(LFiniteKernel;II[J)I"⟩
abbrev b_FK_expect : ByteArray := prog_1_method_19_code
def y_FK_expect : MethodName := ⟨R_FK, "expect", "(II)I"⟩
abbrev b_Pro_await : ByteArray := prog_4_method_8_code
def y_Pro_await : MethodName := ⟨R_Pro, "await", "(III)V"⟩
abbrev b_Law_send : ByteArray := method_21_code
def y_Law_send : MethodName := ⟨R_Law, "send", "(LFiniteKernel;II[J)I"⟩
abbrev b_FK_send : ByteArray := prog_1_method_20_code
def y_FK_send : MethodName := ⟨R_FK, "send", "(II)I"⟩
abbrev b_Pro_awaitedTable : ByteArray := prog_4_method_9_code
def y_Pro_awaitedTable : MethodName := ⟨R_Pro, "awaitedTable", "(I)I"⟩
abbrev b_Pro_awaitedEntry : ByteArray := prog_4_method_10_code
def y_Pro_awaitedEntry : MethodName := ⟨R_Pro, "awaitedEntry", "(I)I"⟩
abbrev b_Mem_setOwner : ByteArray := prog_2_method_6_code
def y_Mem_setOwner : MethodName := ⟨R_Mem, "setOwner", "(II)V"⟩
abbrev b_Law_process : ByteArray := method_22_code
def y_Law_process : MethodName := ⟨R_Law, "process", "(LFiniteKernel;II[J)I"⟩
abbrev b_FK_process : ByteArray := prog_1_method_21_code
def y_FK_process : MethodName := ⟨R_FK, "process", "(II)I"⟩
abbrev b_Law_page : ByteArray := method_23_code
def y_Law_page : MethodName := ⟨R_Law, "page", "(LFiniteKernel;II[J)I"⟩
abbrev b_FK_page : ByteArray := prog_1_method_22_code
def y_FK_page : MethodName := ⟨R_FK, "page", "(II)I"⟩
abbrev b_Law_count : ByteArray := method_24_code
def y_Law_count : MethodName := ⟨R_Law, "count", "(LFiniteKernel;I[J)I"⟩
abbrev b_FK_count : ByteArray := prog_1_method_23_code
def y_FK_count : MethodName := ⟨R_FK, "count", "(I)I"⟩
abbrev b_Pro_notFree : ByteArray := prog_4_method_13_code
def y_Pro_notFree : MethodName := ⟨R_Pro, "notFree", "()I"⟩
abbrev b_FK_intsInOpenPipes : ByteArray := prog_1_method_53_code
def y_FK_intsInOpenPipes : MethodName := ⟨R_FK, "intsInOpenPipes", "()I"⟩
abbrev b_Mod_init : ByteArray := prog_6_method_1_code
def y_Mod_init : MethodName := ⟨R_Mod, "<init>", "()V"⟩
abbrev b_Mod_thrown : ByteArray := prog_6_method_2_code
def y_Mod_thrown : MethodName := ⟨R_Mod, "thrown", "()I"⟩
abbrev b_Mod_spawn : ByteArray := prog_6_method_11_code
def y_Mod_spawn : MethodName := ⟨R_Mod, "spawn", "(II)I"⟩
abbrev b_Mod_isProcess : ByteArray := prog_6_method_5_code
def y_Mod_isProcess : MethodName := ⟨R_Mod, "isProcess", "(I)Z"⟩
abbrev b_Mod_in : ByteArray := prog_6_method_4_code
def y_Mod_in : MethodName := ⟨R_Mod, "in", "(III)Z"⟩
abbrev b_Mod_isPage : ByteArray := prog_6_method_6_code
def y_Mod_isPage : MethodName := ⟨R_Mod, "isPage", "(I)Z"⟩
abbrev b_Mod_raise : ByteArray := prog_6_method_3_code
def y_Mod_raise : MethodName := ⟨R_Mod, "raise", "(I)I"⟩
abbrev b_Mod_become : ByteArray := prog_6_method_9_code
def y_Mod_become : MethodName := ⟨R_Mod, "become", "(III)V"⟩
abbrev b_Mod_table : ByteArray := prog_6_method_13_code
def y_Mod_table : MethodName := ⟨R_Mod, "table", "(IIII)I"⟩
abbrev b_Mod_hang : ByteArray := prog_6_method_12_code
def y_Mod_hang : MethodName := ⟨R_Mod, "hang", "(IIIII)I"⟩
abbrev b_Mod_minePage : ByteArray := prog_6_method_8_code
def y_Mod_minePage : MethodName := ⟨R_Mod, "minePage", "(II)Z"⟩
abbrev b_Mod_mine : ByteArray := prog_6_method_7_code
def y_Mod_mine : MethodName := ⟨R_Mod, "mine", "(I)Z"⟩
abbrev b_Mod_frame : ByteArray := prog_6_method_14_code
def y_Mod_frame : MethodName := ⟨R_Mod, "frame", "(IIII)I"⟩
abbrev b_Mod_protect : ByteArray := prog_6_method_16_code
def y_Mod_protect : MethodName := ⟨R_Mod, "protect", "(III)I"⟩
abbrev b_Mod_holder : ByteArray := prog_6_method_15_code
def y_Mod_holder : MethodName := ⟨R_Mod, "holder", "(I)Z"⟩
abbrev b_Mod_copy : ByteArray := prog_6_method_17_code
def y_Mod_copy : MethodName := ⟨R_Mod, "copy", "(II)I"⟩
abbrev b_Mod_release : ByteArray := prog_6_method_18_code
def y_Mod_release : MethodName := ⟨R_Mod, "release", "(II)I"⟩
abbrev b_Mod_filled : ByteArray := prog_6_method_10_code
def y_Mod_filled : MethodName := ⟨R_Mod, "filled", "(I)I"⟩
abbrev b_Mod_start : ByteArray := prog_6_method_19_code
def y_Mod_start : MethodName := ⟨R_Mod, "start", "(I)I"⟩
abbrev b_Mod_give : ByteArray := prog_6_method_21_code
def y_Mod_give : MethodName := ⟨R_Mod, "give", "(I)I"⟩
abbrev b_Mod_hand : ByteArray := prog_6_method_20_code
def y_Mod_hand : MethodName := ⟨R_Mod, "hand", "(II)I"⟩
abbrev b_Mod_kill : ByteArray := prog_6_method_24_code
def y_Mod_kill : MethodName := ⟨R_Mod, "kill", "(I)I"⟩
abbrev b_Mod_nextReady : ByteArray := prog_6_method_23_code
def y_Mod_nextReady : MethodName := ⟨R_Mod, "nextReady", "(I)I"⟩
abbrev b_Mod_descriptors : ByteArray := prog_6_method_22_code
def y_Mod_descriptors : MethodName := ⟨R_Mod, "descriptors", "(I)I"⟩
abbrev b_Mod_reap : ByteArray := prog_6_method_26_code
def y_Mod_reap : MethodName := ⟨R_Mod, "reap", "(I)I"⟩
abbrev b_Mod_owned : ByteArray := prog_6_method_25_code
def y_Mod_owned : MethodName := ⟨R_Mod, "owned", "(I)I"⟩
abbrev b_Mod_open : ByteArray := prog_6_method_28_code
def y_Mod_open : MethodName := ⟨R_Mod, "open", "(III)I"⟩
abbrev b_Mod_countOf : ByteArray := prog_6_method_27_code
def y_Mod_countOf : MethodName := ⟨R_Mod, "countOf", "(I)I"⟩
abbrev b_Mod_share : ByteArray := prog_6_method_29_code
def y_Mod_share : MethodName := ⟨R_Mod, "share", "(III)I"⟩
abbrev b_Mod_close : ByteArray := prog_6_method_30_code
def y_Mod_close : MethodName := ⟨R_Mod, "close", "(II)I"⟩
abbrev b_Mod_put : ByteArray := prog_6_method_33_code
def y_Mod_put : MethodName := ⟨R_Mod, "put", "(II)I"⟩
abbrev b_Mod_walk : ByteArray := prog_6_method_32_code
def y_Mod_walk : MethodName := ⟨R_Mod, "walk", "(II)I"⟩
abbrev b_Mod_frameEntry : ByteArray := prog_6_method_31_code
def y_Mod_frameEntry : MethodName := ⟨R_Mod, "frameEntry", "(II)I"⟩
abbrev b_Mod_take : ByteArray := prog_6_method_34_code
def y_Mod_take : MethodName := ⟨R_Mod, "take", "(II)I"⟩
abbrev b_Mod_read : ByteArray := prog_6_method_35_code
def y_Mod_read : MethodName := ⟨R_Mod, "read", "(I)I"⟩
abbrev b_Mod_write : ByteArray := prog_6_method_36_code
def y_Mod_write : MethodName := ⟨R_Mod, "write", "(II)I"⟩
abbrev b_Mod_expect : ByteArray := prog_6_method_37_code
def y_Mod_expect : MethodName := ⟨R_Mod, "expect", "(II)I"⟩
abbrev b_Mod_send : ByteArray := prog_6_method_38_code
def y_Mod_send : MethodName := ⟨R_Mod, "send", "(II)I"⟩
abbrev b_Mod_process : ByteArray := prog_6_method_39_code
def y_Mod_process : MethodName := ⟨R_Mod, "process", "(II)I"⟩
abbrev b_Mod_page : ByteArray := prog_6_method_40_code
def y_Mod_page : MethodName := ⟨R_Mod, "page", "(II)I"⟩
abbrev b_Mod_count : ByteArray := prog_6_method_41_code
def y_Mod_count : MethodName := ⟨R_Mod, "count", "(I)I"⟩
abbrev b_Law_law : ByteArray := code
def y_Law_law : MethodName := ⟨R_Law, "law", "([I)Z"⟩
abbrev vwCl : List vw_C := [(R_FK, T_FK, 4), (R_Mem, T_Mem, 5), (R_Pro, T_Pro, 6), (R_Pip, T_Pip, 2), (R_Mod, T_Mod, 15)]
abbrev nFK : Nat := 0
abbrev nMem : Nat := 1
abbrev nPro : Nat := 2
abbrev nPip : Nat := 3
abbrev nMod : Nat := 4
end
section
/-! THE LAYER: contracts of methods that return or throw, all of them over one start s0 of the law. A contract speaks of one word of the tables alone, the method's code; every other word is read off s0 by kEnv. -/
section KL
/-- the words that stay as the tables grow warmer, and that the tables alone decide -/
def kGood (w : Cond) : Bool := (w.onTables && w.keepsCast) || (match w with | .arrayClass _ => true | .not (.castable ..) => true | _ => false)
theorem kGood_at {a a' : Array Value} {s0 U : State} {w : Cond} (hg : kGood w = true) (hW : s0.WarmedH U.vm) (h : w.before a s0 = true) : w.before a' U = true := by
  have hS : s0.Shifted U.vm := State.Shifted.of_warmed hW
  have key : w.keepsCast = true ∨ ∃ ty, w = .arrayClass ty := by
    simp only [kGood, Bool.or_eq_true, Bool.and_eq_true] at hg
    rcases hg with hg | hg
    · exact Or.inl hg.2
    · revert hg
      split
      · intro _; exact Or.inr ⟨_, rfl⟩
      · intro _; exact Or.inl (by simp [Cond.keepsCast, Cond.castAtom])
      · intro h9; cases h9
  have h1 : w.before a (s0.setVm U.vm) = true := by
    rcases key with hk | ⟨ty, rfl⟩
    · exact Cond.before_shiftedCast hS w hk h
    · exact Cond.before_shiftedFace hS _ rfl h
  have h2 : w.before a' (U.setVm U.vm) = w.before a (s0.setVm U.vm) := by
    simp only [kGood, Bool.or_eq_true, Bool.and_eq_true] at hg
    rcases hg with hg | hg
    · exact Cond.onTables_vm _ w hg.1
    · revert hg
      split
      · intro _; rfl
      · intro _; rfl
      · intro h9; cases h9
  rw [State.setVm_self] at h2
  rw [h2]; exact h1
/-- U stands in a run that began at s0: the tables are warmer, the old cells are as they were -/
def kEnv (s0 U : State) : Prop := s0.WarmedH U.vm ∧ s0.heap.size ≤ U.heap.size ∧ ∀ a : Nat, a < s0.heap.size → U.heap[a]? = s0.heap[a]?
/-- the part of the heap that the run may change -/
def kA (s0 : State) : Nat → Prop := fun q => s0.heap.size ≤ q
theorem kEnv.refl (s0 : State) : kEnv s0 s0 := ⟨State.WarmedH.refl s0, Nat.le_refl _, fun _ _ => rfl⟩
theorem kEnv.go {s0 s U : State} {H : Heap} {locs : List Loc} (h : kEnv s0 s) (hW : s.WarmedH U.vm) (hU : U.heap = H) (hS : va_S (kA s0) s.heap H locs) : kEnv s0 U :=
  ⟨State.WarmedH.trans h.1 hW, by rw [hU]; exact Nat.le_trans h.2.1 hS.1, fun a ha => by
    rw [hU, hS.2.1 a (Nat.lt_of_lt_of_le ha h.2.1) (Nat.not_le.mpr ha)]
    exact h.2.2 a ha⟩
theorem kEnv.same {s0 s U : State} (h : kEnv s0 s) (hW : s.WarmedH U.vm) (hU : U.heap = s.heap) : kEnv s0 U := h.go hW hU va_S.rf
theorem kEnv.calling {s0 U : State} (h : kEnv s0 U) (g : JFrame) (mk : MethodId) (a : Array Value) : kEnv s0 (U.calling g mk a) := h
/-- what has moved between st and t -/
def kFr (st t : State) (mc ms : Nat) (free : Addr → Prop) : Prop :=
  ∃ L : List Loc, st.WarmedH t.vm ∧ st.sameButNew ({ t with vm := st.vm } : State) L mc ms ∧ ∀ q ∈ L, free q.base
/-- q has been thrown: a new object of the class E; nothing that was there has changed -/
def kThr (E : String) (st : State) (q : Addr) (t : State) : Prop :=
  ∃ ce : Cell, t.heap[q]? = some ce ∧ ce.vm = .none ∧ st.vm.findClass E = some ce.cls ∧ st.heap.size ≤ t.heap.size ∧ (∀ a : Nat, a < st.heap.size → t.heap[a]? = st.heap[a]?) ∧ kFr st t 1 6 (fun _ => False)
/-- the end of a method whose answer is res: B u st t of what it leaves behind -/
def kQ {S : Type} (res : Except String (Option Value × S)) (B : S → State → State → Prop) (st : State) (o : Outcome) (t : State) : Prop :=
  match res with
  | .ok (v, u) => o = .returned v ∧ B u st t
  | .error E => ∃ q, o = .threw q ∧ kThr E st q t
def kMet {S : Type} (l : Launch) (y : MethodName) (w : Cond) (rm : Room) (as : List Value) (Pre : State → Prop) (res : Except String (Option Value × S)) (B : S → State → State → Prop) : Prop :=
  MetFree l y (headSpec [w] rm) (va_Pc as Pre) (fun _ _ _ _ _ => True) (fun _ st o t => kQ res B st o t)
/-- what a body owes -/
def kE {S : Type} (below : List Frame) (res : Except String (Option Value × S)) (B : S → State → State → Prop) (s : State) : State → Prop := fun t =>
  ∃ o, t.status = .running ∧ Ended t below o ∧ kQ res B s o t
/-- a reader's end: the heap is as it was -/
def kBr (_ : Unit) (st t : State) : Prop := t.heap = st.heap ∧ kFr st t 0 0 (fun _ => False)
/-- a writer's end: the world of u -/
def kBw {S : Type} (D : va_G) (cl : List vw_C) (s0 : State) (wf : S → va_W) (u : S) (st t : State) : Prop :=
  va_P D cl (wf u) t.heap ∧ va_D (kA s0) (wf u) ∧ va_F (kA s0) st t ∧ kFr st t 0 0 (kA s0)
/-- the start of every method -/
def kPre {S : Type} (D : va_G) (cl : List vw_C) (s0 : State) (wf : S → va_W) (x : S) (U : State) : Prop := kEnv s0 U ∧ va_P D cl (wf x) U.heap ∧ va_D (kA s0) (wf x)
theorem kPre.blind {S : Type} {D : va_G} {cl : List vw_C} {s0 : State} {wf : S → va_W} {x : S} {U : State} (h : kPre D cl s0 wf x U) (g : JFrame) (mk : MethodId) (a : Array Value) : kPre D cl s0 wf x (U.calling g mk a) := h
end KL
section KB
variable {l : Launch}
/-- a body without handlers -/
theorem k_of {S : Type} {y : MethodName} {cc : ByteArray} {maxL : Nat} {ret : Option FieldType} {rm : Room} {as : List Value} {Pre : State → Prop} {res : Except String (Option Value × S)} {B : S → State → State → Prop}
    (hy : plainName y.cls = true) (hle : (lg_sl as).length ≤ maxL)
    (body : ∀ (p : Program) (e : Env) (s : State) (m : MethodId) (below : List Frame) (meth : Method) (c : Code), p.tables.exec = Jvm.exec → c.code = cc → meth.sig.returnType = ret → meth.locks = false → s.vm.findClass y.cls = some m.cls → c.maxLocals = maxL → (∀ x ∈ c.exceptionTable.toList, False) → Pre s →
      ∀ ls : Array Slot, lv_has ls maxL (lv_args 0 as) → W p l e rm s m as.toArray below meth c s.heap [] 0 0 (kE below res B s) (F0 m 0 ls [])) :
    kMet l y (Cond.code y cc maxL ret) rm as Pre res B := by
  refine MetFree.of_bodyS (code := cc) (maxLocals := maxL) (ret := ret) hy ?_ ?_
  · intro args s m h hn
    obtain ⟨meth, c, h1, h2, h3, h4, h5, h6, -, -⟩ := Cond.code_spec hn (atoms_spec (ws := [Cond.code y cc maxL ret]) h _ List.mem_cons_self)
    exact ⟨meth, c, h1, h2, h3, h4, h5, h6⟩
  · intro p e s m args below meth c s₁ B0 hml hP _
    obtain ⟨rfl, hP⟩ := hP
    have hh0 : s₁.heap = s.heap := by rw [B0.state]; rfl
    have ht : ∀ x ∈ c.exceptionTable.toList, False := by
      obtain ⟨meth9, c9, h1, h2, -, -, -, -, h7, -⟩ := Cond.code_spec B0.named (atoms_spec (ws := [Cond.code y cc maxL ret]) B0.pre _ List.mem_cons_self)
      cases Option.some.inj (h1.symm.trans B0.method)
      cases Option.some.inj (h2.symm.trans (Stand.of_body B0).code)
      intro x hx
      rw [Array.isEmpty_iff.mp h7] at hx
      cases hx
    have hl := lv_entry as (n := maxL) hle
    have K := body p e s m below meth c B0.exec B0.bytes B0.returns B0.notSynchronized (findClass_of_methodNamed B0.named) hml ht hP _ hl
    rw [← lg_entry_eq] at K
    obtain ⟨t, a1, o, b1, b2, b3⟩ := K s₁ hh0 (Stand.of_body B0)
    exact ⟨t, o, a1, b1, b2, b3⟩
/-- a body with handlers -/
theorem k_ofH {S : Type} {y : MethodName} {cc : ByteArray} {maxL : Nat} {ret : Option FieldType} {hh : List (Nat × Nat × Nat × Nat)} {rm : Room} {as : List Value} {Pre : State → Prop} {res : Except String (Option Value × S)} {B : S → State → State → Prop}
    (hy : plainName y.cls = true) (hle : (lg_sl as).length ≤ maxL)
    (body : ∀ (p : Program) (e : Env) (s : State) (m : MethodId) (below : List Frame) (meth : Method) (c : Code), p.tables.exec = Jvm.exec → c.code = cc → meth.sig.returnType = ret → meth.locks = false → s.vm.findClass y.cls = some m.cls → c.maxLocals = maxL → c.exceptionTable.toList = tableOf hh → Pre s →
      ∀ ls : Array Slot, lv_has ls maxL (lv_args 0 as) → W p l e rm s m as.toArray below meth c s.heap [] 0 0 (kE below res B s) (F0 m 0 ls [])) :
    kMet l y (Cond.codeWith y cc maxL ret hh) rm as Pre res B := by
  refine MetFree.of_bodyS (code := cc) (maxLocals := maxL) (ret := ret) hy ?_ ?_
  · intro args s m h hn
    obtain ⟨m9, meth, c, hn9, h1, h2, h3, h4, -, h5, h6, -⟩ := Cond.codeWith_spec (atoms_spec (ws := [Cond.codeWith y cc maxL ret hh]) h _ List.mem_cons_self)
    cases hn.symm.trans hn9
    exact ⟨meth, c, h1, h2, h3, h4, h5, h6⟩
  · intro p e s m args below meth c s₁ B0 hml hP _
    obtain ⟨rfl, hP⟩ := hP
    have hh0 : s₁.heap = s.heap := by rw [B0.state]; rfl
    have ht : c.exceptionTable.toList = tableOf hh := by
      obtain ⟨m9, meth9, c9, hn9, h1, h2, -, -, h6, -⟩ := Cond.codeWith_spec (atoms_spec (ws := [Cond.codeWith y cc maxL ret hh]) B0.pre _ List.mem_cons_self)
      cases Option.some.inj (hn9.symm.trans B0.named)
      cases Option.some.inj (h1.symm.trans B0.method)
      cases Option.some.inj (h2.symm.trans (Stand.of_body B0).code)
      rw [← h6, table_eq]
    have hl := lv_entry as (n := maxL) hle
    have K := body p e s m below meth c B0.exec B0.bytes B0.returns B0.notSynchronized (findClass_of_methodNamed B0.named) hml ht hP _ hl
    rw [← lg_entry_eq] at K
    obtain ⟨t, a1, o, b1, b2, b3⟩ := K s₁ hh0 (Stand.of_body B0)
    exact ⟨t, o, a1, b1, b2, b3⟩
end KB
section KC
variable {p : Program} {l : Launch} {e : Env} {R : Room} {s : State} {m : MethodId} {args : Array Value} {below : List Frame} {meth : Method} {c : Code} {T : State} {H : Heap} {locs : List Loc} {cells slots : Nat} {Q : State → Prop}
/-- the walk's frame g, with q thrown over it -/
def kW (p : Program) (l : Launch) (e : Env) (R : Room) (s : State) (m : MethodId) (args : Array Value) (below : List Frame) (meth : Method) (c : Code) (H : Heap) (locs : List Loc) (cells slots : Nat) (Q : State → Prop) (g : JFrame) (q : Addr) : Prop :=
  ∀ T : State, T.heap = H → Stand p l e R s m args below meth c T locs cells slots → ∃ t, Steps p.tables e below ((T.setTop g).pushFrame (.throwing q)) t ∧ Q t
/-- AT THE INVOCATION of a method with a contract: it comes back, or what it throws lies over the frame -/
theorem k_in {S : Type} {y : MethodName} {w : Cond} {rm : Room} {as : List Value} {Pre : State → Prop} {res : Except String (Option Value × S)} {B : S → State → State → Prop} {maxL : Nat}
    (X : Stand p l e R s m args below meth c T locs cells slots) (hM : kMet l y w rm as Pre res B) {g : JFrame} (hg : g.method = m) (hsize : g.locals.size = c.maxLocals) {ig : Instr} {len : Nat} (hdg : decode c.code g.pc = .ok (ig, len))
    (hW : 2 * g.monitorRoom + (g.stack.map fun v => v.category).sum ≤ 8) {mk : MethodId} {methY : Method} {cY : Code} (hn : T.methodNamed? y = some mk) (hmY : T.vm.method? mk = some methY) (hcY : methY.code = some cY) (hlY : cY.maxLocals = maxL)
    (hw : w.before as.toArray T = true) (hini : (Cond.initialized y.cls).before as.toArray T = true)
    (hfr : rm.frames + 1 ≤ R.frames) (hlo : 8 + (maxL + 11) + rm.locals ≤ R.locals) (hce : cells + rm.cells ≤ R.cells) (hsl : slots + rm.slots ≤ R.slots) (hP : ∀ U : State, U.heap = T.heap → U.vm = T.vm → Pre U) :
    ∃ (st : State) (o : Outcome) (t : State), st.heap = T.heap ∧ st.vm = T.vm ∧ kQ res B st o t ∧
      (∀ (L : List Loc) (mc ms : Nat), st.WarmedH t.vm → st.sameButNew ({ t with vm := st.vm } : State) L mc ms → ∃ T' : State, Stand p l e R s m args below meth c T' (locs ++ L) (cells + mc) (slots + ms) ∧ T'.heap = t.heap ∧ T'.vm = t.vm ∧
        match o with
        | .returned v => Steps p.tables e below (doInvoke e (T.setTop g) [] mk as.toArray).1 (T'.setTop { g with pc := g.pc + len, stack := v.toList ++ g.stack })
        | .threw q => Steps p.tables e below (doInvoke e (T.setTop g) [] mk as.toArray).1 ((T'.setTop g).pushFrame (.throwing q))) := by
  obtain ⟨kY, hkY, -⟩ := className_of_methodNamed hn
  have hinitY : kY.init = .initialized := Cond.initialized_spec (findClass_of_methodNamed hn) hkY hini
  have h : At T g.method c below := by rw [hg]; exact X.here
  have happ : (headSpec [w] rm).appliesLoose y e.platform (T.calling g mk as.toArray) = true :=
    Spec.appliesLoose_calling (g := g) h hdg hn hkY hinitY
      (X.room_calling (g := g) (R' := rm) hsize hmY hcY hfr (by rw [hlY]; omega) hce hsl) (atoms_intro fun w' hw' => by
        cases List.mem_singleton.mp hw'
        exact hw)
  obtain ⟨mid, hmid⟩ := h.above
  have hfr9 : (T.setTop g).frames = (.java g :: mid) ++ below := by rw [State.frames_setTop' g h.top, hmid]; rfl
  obtain ⟨o, t, hsteps, -, hend, hq⟩ := Steps.callFree hM p X.admits X.cas X.clock (acts := []) hfr9 happ ⟨rfl, hP _ rfl rfl⟩ trivial
  rw [State.frames_setTop' g h.top, X.tail] at hend
  refine ⟨T.calling g mk as.toArray, o, t, rfl, rfl, hq, ?_⟩
  intro L mc ms hW2 hsm
  cases o with
  | returned v =>
    obtain ⟨T', X', -, -, ht⟩ := X.outOf hg hdg (mk := mk) (a := as.toArray) hend hW2 hsm
    refine ⟨T', X', ?_, ?_, ?_⟩
    · rw [ht]; first | rfl | simp [State.setTop, State.modifyTopJava]
    · rw [ht]; first | rfl | simp [State.setTop, State.modifyTopJava]
    · show Steps p.tables e below _ _
      rw [← ht]; exact hsteps
  | threw q =>
    obtain ⟨T', X', -, -, ht⟩ := X.outOfThrown hg (mk := mk) (a := as.toArray) hend hW2 hsm
    refine ⟨T', X', ?_, ?_, ?_⟩
    · rw [ht]; exact (Stand.throwing_heap T' g q).symm
    · rw [ht]; exact (Stand.throwing_vm T' g q).symm
    · show Steps p.tables e below _ _
      rw [← ht]; exact hsteps
/-- what a call site has brought the machine to -/
def kAt (p : Program) (l : Launch) (e : Env) (R : Room) (s : State) (m : MethodId) (args : Array Value) (below : List Frame) (meth : Method) (c : Code) (H : Heap) (locs : List Loc) (cells slots : Nat) (y : MethodName) (w : Cond) (as : List Value) (maxL : Nat) (g : JFrame) (rest : List Value) : Prop :=
  ∀ T : State, T.heap = H → Stand p l e R s m args below meth c T locs cells slots → ∃ (vm₁ : Vm) (mk : MethodId) (methY : Method) (cY : Code) (ig : Instr), Stand p l e R s m args below meth c (T.setVm vm₁) locs cells slots ∧ decode c.code g.pc = .ok (ig, 3) ∧
    (T.setVm vm₁).methodNamed? y = some mk ∧ (T.setVm vm₁).vm.method? mk = some methY ∧ methY.code = some cY ∧ cY.maxLocals = maxL ∧ w.before as.toArray (T.setVm vm₁) = true ∧ (Cond.initialized y.cls).before as.toArray (T.setVm vm₁) = true ∧
    ∀ target, Steps p.tables e below (doInvoke e ((T.setVm vm₁).setTop { g with stack := rest }) [] mk as.toArray).1 target → Steps p.tables e below (T.setTop g) target
/-- a call: kx: it throws; kk: it comes back -/
theorem k_call {S : Type} {y : MethodName} {w : Cond} {rm : Room} {as : List Value} {Pre : State → Prop} {res : Except String (Option Value × S)} {B : S → State → State → Prop} {maxL : Nat} {pc : Nat} {ls : Array Slot} {st0 rest : List Value}
    (hA : kAt p l e R s m args below meth c H locs cells slots y w as maxL (F0 m pc ls st0) rest) (hM : kMet l y w rm as Pre res B) (hsize : ls.size = c.maxLocals) (hW : (rest.map fun v => v.category).sum ≤ 8)
    (hfr : rm.frames + 1 ≤ R.frames) (hlo : 8 + (maxL + 11) + rm.locals ≤ R.locals) (hce : cells + rm.cells ≤ R.cells) (hsl : slots + rm.slots ≤ R.slots) (hP : ∀ U : State, U.heap = H → s.WarmedH U.vm → Pre U)
    (kx : ∀ (E : String), res = .error E → ∀ (st : State) (q : Addr) (t : State), st.heap = H → s.WarmedH st.vm → kThr E st q t → kW p l e R s m args below meth c t.heap locs (cells + 1) (slots + 6) Q (F0 m pc ls rest) q)
    (kk : ∀ (v : Option Value) (u : S), res = .ok (v, u) → ∀ (st t : State), st.heap = H → s.WarmedH st.vm → B u st t → ∃ (mc ms : Nat) (L : List Loc), st.WarmedH t.vm ∧ st.sameButNew ({ t with vm := st.vm } : State) L mc ms ∧ W p l e R s m args below meth c t.heap (locs ++ L) (cells + mc) (slots + ms) Q (F0 m (pc + 3) ls (v.toList ++ rest))) :
    W p l e R s m args below meth c H locs cells slots Q (F0 m pc ls st0) := by
  intro T hT X
  obtain ⟨vm₁, mk, methY, cY, ig, X1, hdg, hn, hmY, hcY, hlY, hw, hini, hgo⟩ := hA T hT X
  obtain ⟨st, o, t, e1, e2, hq, hout⟩ := k_in X1 hM (g := { F0 m pc ls st0 with stack := rest }) rfl hsize hdg (lv_room (m := m) (pc := pc) (ls := ls) (rest := rest) hW) hn hmY hcY hlY hw hini hfr hlo hce hsl
    (fun U h1 h2 => hP U (h1.trans hT) (by rw [h2]; exact X1.warmed))
  have e3 : st.heap = H := e1.trans hT
  have hWs : s.WarmedH st.vm := by rw [e2]; exact X1.warmed
  revert hq
  unfold kQ
  cases hres : res with
  | error E =>
    rintro ⟨q, rfl, hthr⟩
    obtain ⟨ce, h1, h2, h3, h4, h5, L, hW2, hsm, hL⟩ := id hthr
    obtain ⟨T', X', q1, q2, hst⟩ := hout L 1 6 hW2 hsm
    have X2 := Stand.forget (extra := L) X' (fun z hz => (hL z hz).elim)
    obtain ⟨t2, a1, b1⟩ := kx E hres st q t e3 hWs hthr T' q1 X2
    exact ⟨t2, (hgo _ hst).trans a1, b1⟩
  | ok r =>
    obtain ⟨v, u⟩ := r
    rintro ⟨rfl, hB⟩
    obtain ⟨mc, ms, L, hW2, hsm, hk⟩ := kk v u hres st t e3 hWs hB
    obtain ⟨T', X', q1, q2, hst⟩ := hout L mc ms hW2 hsm
    obtain ⟨t2, a1, b1⟩ := hk T' q1 X'
    exact ⟨t2, (hgo _ hst).trans a1, b1⟩
end KC
section KD
variable {p : Program} {l : Launch} {e : Env} {R : Room} {s : State} {m : MethodId} {args : Array Value} {below : List Frame} {meth : Method} {c : Code} {T : State} {H : Heap} {locs : List Loc} {cells slots : Nat} {Q : State → Prop}
/-- invokevirtual on an object whose class is the method's own -/
theorem k_atV {own : String} {index maxL : Nat} {y : MethodName} {bytes : ByteArray} {ret : Option FieldType} {cc : ByteArray} {b : Nat} {As rest st0 : List Value} {pc : Nat} {ls : Array Slot} {a0 : Array Value} {s0 : State}
    (hx : p.tables.exec = Jvm.exec) (hb : c.code = cc) (hown : s.vm.findClass own = some m.cls) (hE : s0.WarmedH s.vm)
    (hcode : (Cond.code y bytes maxL ret).before a0 s0 = true) (hlink : (Cond.methodLink own index y).before args s = true) (hinst : (Cond.instanceMethod y).before args s = true) (hsel : (Cond.selects y.cls y y).before args s = true) (hini : (Cond.initialized y.cls).before args s = true)
    (hy : y.cls ≠ "java/lang/invoke/MethodHandle" ∧ y.cls ≠ "java/lang/invoke/VarHandle") (hlen : (parseMethodDescriptor y.desc).map (fun d => d.parameters.length) = some As.length)
    (hrec : ∃ cellB : Cell, H[b]? = some cellB ∧ cellB.vm.isStatics = false ∧ s.vm.findClass y.cls = some cellB.cls) (hst : st0 = As.reverse ++ .ref b :: rest) (hdg : decode cc pc = .ok (.invokevirtual index, 3)) :
    kAt p l e R s m args below meth c H locs cells slots y (Cond.code y bytes maxL ret) (.ref b :: As) maxL (F0 m pc ls st0) rest := by
  intro T hT X
  have hcode1 : (Cond.code y bytes maxL ret).before args s = true := kGood_at (by rfl) hE hcode
  obtain ⟨mk, methM, hnamed, hmethM, hstM, habM⟩ := Cond.instanceMethod_spec hinst
  obtain ⟨methM', cM, hmethM', hcM, -, hlM, -, -, -, hsigM⟩ := Cond.code_spec hnamed hcode1
  cases hmethM.symm.trans hmethM'
  obtain ⟨cellB, hcB, hoB, hclB⟩ := hrec
  obtain ⟨c2, r2, m2, q1, q2, q3, q4, kP, hkP, hkPi⟩ := Cond.selects_spec hsel
  cases hclB.symm.trans q1
  cases (State.methodFound?_of_named hnamed hy).symm.trans q2
  cases hnamed.symm.trans q3
  have hselP : selectMethod e.platform s.vm cellB.cls mk = .method mk := by rw [Launch.admits_selectMethod X.admits]; exact q4
  have hl9 : As.length = methM.sig.parameters.length := by
    rw [hsigM] at hlen
    exact (Option.some.inj hlen).symm
  have hdg' : decode c.code pc = .ok (.invokevirtual index, 3) := by rw [hb]; exact hdg
  obtain ⟨vm₁, X₁, hstep⟩ := X.invokevirtual hx hown hlink hnamed hmethM hstM hkP hkPi hy (a := b) (cell := cellB) (by rw [hT]; exact hcB)
    (fun z h => by rw [h] at hoB; cases hoB) hselP hmethM habM hkP hkPi (g := F0 m pc ls st0) rfl (argsL := As) (rest := rest) hl9 hst hdg'
  refine ⟨vm₁, mk, methM, cM, _, X₁, hdg', X₁.named hnamed, ?_, hcM, hlM, ?_, ?_, fun target h => hstep target fun acts => ?_⟩
  · rw [X₁.warmed.alike.method?]; exact hmethM
  · exact kGood_at (by rfl) X₁.warmed hcode1
  · exact kGood_at (by rfl) X₁.warmed hini
  · rw [doInvoke_state]; exact h
/-- invokestatic, of a method without handlers (w a code word) or with (codeWith) -/
theorem k_atS {own : String} {index maxL : Nat} {y : MethodName} {w : Cond} {cc : ByteArray} {As rest st0 : List Value} {pc : Nat} {ls : Array Slot} {a0 : Array Value} {s0 : State}
    (hx : p.tables.exec = Jvm.exec) (hb : c.code = cc) (hown : s.vm.findClass own = some m.cls) (hE : s0.WarmedH s.vm)
    (hcode : w.before a0 s0 = true) (hg9 : kGood w = true) (hw9 : ∀ (args : Array Value) (s : State), w.before args s = true → ∃ (mk : MethodId) (methM : Method) (cM : Code), s.methodNamed? y = some mk ∧ s.vm.method? mk = some methM ∧ methM.code = some cM ∧ cM.maxLocals = maxL ∧ parseMethodDescriptor y.desc = some methM.sig)
    (hlink : (Cond.methodLink own index y).before args s = true) (hsta : (Cond.static y).before args s = true) (hini : (Cond.initialized y.cls).before args s = true)
    (hy : y.cls ≠ "java/lang/invoke/MethodHandle" ∧ y.cls ≠ "java/lang/invoke/VarHandle") (hlen : (parseMethodDescriptor y.desc).map (fun d => d.parameters.length) = some As.length)
    (hst : st0 = As.reverse ++ rest) (hdg : decode cc pc = .ok (.invokestatic index, 3)) :
    kAt p l e R s m args below meth c H locs cells slots y w As maxL (F0 m pc ls st0) rest := by
  intro T hT X
  have hcode1 : w.before args s = true := kGood_at hg9 hE hcode
  obtain ⟨mk, methM, cM, hnamed, hmethM, hcM, hlM, hsigM⟩ := hw9 _ _ hcode1
  have hstM : methM.isStatic = true := Cond.static_spec hnamed hmethM hsta
  obtain ⟨kM, hkM, -⟩ := className_of_methodNamed hnamed
  have hinitM : kM.init = .initialized := Cond.initialized_spec (findClass_of_methodNamed hnamed) hkM hini
  have hl9 : As.length = methM.sig.parameters.length := by
    rw [hsigM] at hlen
    exact (Option.some.inj hlen).symm
  have hdg' : decode c.code pc = .ok (.invokestatic index, 3) := by rw [hb]; exact hdg
  obtain ⟨vm₁, X₁, hstep⟩ := X.invokestatic hx hown hlink hnamed hmethM hstM hkM hinitM hy (g := F0 m pc ls st0) rfl (argsL := As) (rest := rest) hl9 hst hdg'
  refine ⟨vm₁, mk, methM, cM, _, X₁, hdg', X₁.named hnamed, ?_, hcM, hlM, ?_, ?_, fun target h => hstep target fun acts => ?_⟩
  · rw [X₁.warmed.alike.method?]; exact hmethM
  · exact kGood_at hg9 X₁.warmed hcode1
  · exact kGood_at (by rfl) X₁.warmed hini
  · rw [doInvoke_state]; exact h
theorem k_w9 {y : MethodName} {bytes : ByteArray} {maxL : Nat} {ret : Option FieldType} (args : Array Value) (s : State) (h : (Cond.code y bytes maxL ret).before args s = true) : ∃ (mk : MethodId) (methM : Method) (cM : Code), s.methodNamed? y = some mk ∧ s.vm.method? mk = some methM ∧ methM.code = some cM ∧ cM.maxLocals = maxL ∧ parseMethodDescriptor y.desc = some methM.sig := by
  obtain ⟨mk, hn⟩ := Cond.named_of_code h
  obtain ⟨methM, cM, h1, h2, -, h4, -, -, -, h8⟩ := Cond.code_spec hn h
  exact ⟨mk, methM, cM, hn, h1, h2, h4, h8⟩
/-- what is thrown over a frame without handlers leaves the method: nothing was written or made before -/
theorem k_out {S : Type} {res : Except String (Option Value × S)} {B : S → State → State → Prop} {E : String} {pc : Nat} {ls : Array Slot} {rest : List Value} (hout : ∀ x ∈ c.exceptionTable.toList, False) (hlocks : meth.locks = false) (hres : res = .error E)
    {st : State} {q : Addr} {t : State} (h0 : st.heap = s.heap) (hW : s.WarmedH st.vm) (hT : kThr E st q t) :
    kW p l e R s m args below meth c t.heap [] (0 + 1) (0 + 6) (kE below res B s) (F0 m pc ls rest) q := by
  intro T hTh X
  obtain ⟨ce, h1, h2, h3, h4, h5, -⟩ := hT
  obtain ⟨st1, hrun, hend, hW1, hsm⟩ := X.leaveThrown q (g := F0 m pc ls rest) rfl rfl rfl (fun x hx => (hout x hx).elim) hlocks
  refine ⟨_, st1, .threw q, hrun, hend, ?_⟩
  unfold kQ
  rw [hres]
  refine ⟨q, rfl, ce, ?_, h2, ?_, ?_, ?_, [], hW1, hsm, fun z hz => nomatch hz⟩
  · show T.heap[q]? = some ce
    rw [hTh]; exact h1
  · rw [← hW.alike.findClass]; exact h3
  · show s.heap.size ≤ T.heap.size
    rw [hTh, ← h0]; exact h4
  · intro a ha
    show T.heap[a]? = s.heap[a]?
    rw [hTh, h5 a (by rw [h0]; exact ha), h0]
/-- the rows of a table, for what is thrown: which handler takes it -/
def kHand (pl : Platform) (s : State) (d : ClassId) (pc : Nat) (thrown : ClassId) : List ExceptionTableEntry → Nat → Prop
  | [], _ => False
  | x :: t, h => (covers x pc = false ∧ kHand pl s d pc thrown t h) ∨ (covers x pc = true ∧ x.catchType ≠ 0 ∧ ∃ k : ClassId, s.vm.ClassLinks pl d x.catchType k ∧ ((s.vm.assignable thrown k = true ∧ x.handlerPc = h) ∨ (s.vm.assignable thrown k = false ∧ kHand pl s d pc thrown t h)))
theorem k_search {e : Env} {s : State} {f : JFrame} {a : Addr} {cell : Cell} (hobj : ∀ k, cell.vm ≠ .statics k) (hk0 : ∃ k, s.vm.classes[cell.cls]? = some k) {h : Nat} :
    ∀ (es : List ExceptionTableEntry) (U : State), s.WarmedH U.vm → U.heap[a]? = some cell → kHand e.platform s f.method.cls f.pc cell.cls es h →
      ∃ vm', s.WarmedH vm' ∧ ∀ (Q : Handler → Pre) (E : CtlPost) (d : Bool) (acts : List Action), wp (findHandler.go f a es) Q E e d acts U ↔ Q (.found h) d acts (U.setVm vm') := by
  obtain ⟨k0, hk0⟩ := hk0
  intro es
  induction es with
  | nil => intro U _ _ hh; exact hh.elim
  | cons x t ih =>
    intro U hW hcell hh
    rcases hh with ⟨hno, hh⟩ | ⟨hx, h0, k, hl, hh⟩
    · obtain ⟨vm', hW', hq⟩ := ih U hW hcell hh
      exact ⟨vm', hW', fun Q E d acts => by rw [W.findHandler_go_skip hno]; exact hq Q E d acts⟩
    · obtain ⟨dk, _, _, kt, hd, _, _, _, _, hkt, _, hopen⟩ := hl.here
      have hW1 : s.WarmedH (U.vm.noted f.method.cls x.catchType (.cls k)) := hW.noted hd hopen (State.rightAt_cls hl)
      obtain ⟨k1', hk1', -⟩ := hW1.alike.2.2 _ _ hk0
      obtain ⟨k2', hk2', -⟩ := hW1.alike.2.2 _ _ hkt
      have hx' := hx
      simp only [covers] at hx'
      obtain ⟨ha, ht⟩ := (resolveClass_links e.toSetting (hW.classLinks hl)).op (op := VmOp.resolveClass f.method.cls x.catchType) rfl
      rcases hh with ⟨hfit, rfl⟩ | ⟨hfit, hh⟩
      · have hfit' : (U.vm.noted f.method.cls x.catchType (.cls k)).assignable cell.cls k = true := by rw [hW1.alike.assignable]; exact hfit
        refine ⟨_, hW1, fun Q E d acts => ?_⟩
        simp [findHandler.go, hx', h0, ha, ht, hcell, hobj, hk1', hk2', hfit', VmOp.dirties, VmOp.acts]
      · have hfit' : (U.vm.noted f.method.cls x.catchType (.cls k)).assignable cell.cls k = false := by rw [hW1.alike.assignable]; exact hfit
        obtain ⟨vm', hW', hq⟩ := ih (U.setVm (U.vm.noted f.method.cls x.catchType (.cls k))) hW1 hcell hh
        refine ⟨vm', hW', fun Q E d acts => ?_⟩
        rw [← show (U.setVm (U.vm.noted f.method.cls x.catchType (.cls k))).setVm vm' = U.setVm vm' from rfl, ← hq Q E d acts]
        simp [findHandler.go, hx', h0, ha, ht, hcell, hobj, hk1', hk2', hfit', VmOp.dirties, VmOp.acts]
/-- what is thrown over a frame with handlers goes on at the handler that takes it -/
theorem k_catch {E : String} {h pc : Nat} {ls : Array Slot} {rest : List Value} {st : State} {q : Addr} {t : State} (hW : s.WarmedH st.vm) (hT : kThr E st q t)
    (hh : ∀ k : ClassId, s.vm.findClass E = some k → ∀ pl : Platform, pl.magicAccessors = ({} : Platform).magicAccessors → kHand pl s m.cls pc k c.exceptionTable.toList h)
    (kk : W p l e R s m args below meth c t.heap locs cells slots Q (F0 m h ls [.ref q])) : kW p l e R s m args below meth c t.heap locs cells slots Q (F0 m pc ls rest) q := by
  intro T hTh X
  obtain ⟨ce, h1, h2, h3, -⟩ := hT
  have h3' : s.vm.findClass E = some ce.cls := by rw [← hW.alike.findClass]; exact h3
  have hpl : e.platform.magicAccessors = ({} : Platform).magicAccessors := by rw [X.admits.platform]
  have hk0 : ∃ k, s.vm.classes[ce.cls]? = some k := Vm.classAt_of_findClass h3'
  have hobj : ∀ k, ce.vm ≠ .statics k := fun k hk => by rw [h2] at hk; cases hk
  obtain ⟨vm', hW', hq⟩ := k_search (e := e) (f := F0 m pc ls rest) (a := q) hobj hk0 c.exceptionTable.toList ((T.setTop (F0 m pc ls rest)).pushFrame (.throwing q)) (by rw [Stand.throwing_vm]; exact X.warmed) (by rw [Stand.throwing_heap, hTh]; exact h1) (hh _ h3' _ hpl)
  obtain ⟨t2, a1, b1⟩ := kk (T.setVm vm') hTh (X.noted hW')
  refine ⟨t2, ?_, b1⟩
  have hAt : At T (F0 m pc ls rest).method c below := X.here
  obtain ⟨hgo, hw⟩ := hAt.throwing q
  refine Steps.head hgo hw ?_
  have hm9 : ((T.setTop (F0 m pc ls rest)).pushFrame (.throwing q)).vm.method? m = some meth := by rw [Stand.throwing_vm]; exact X.method'
  have hstep : (stepThrowing e ((T.setTop (F0 m pc ls rest)).pushFrame (.throwing q)) q (.java (F0 m pc ls rest) :: T.frames.tail)).Is ((((T.setTop (F0 m pc ls rest)).pushFrame (.throwing q)).setVm vm').setFrames (.java { F0 m pc ls rest with pc := h, stack := [.ref q] } :: T.frames.tail)) [] := by
    simp only [stepThrowing, searchFrame, vmDo]
    generalize hr : Sem.go _ e false [] ((T.setTop (F0 m pc ls rest)).pushFrame (.throwing q)) = r9
    obtain ⟨as, rfl, ha⟩ := Sem.eq_ok_of hr (a := Handler.found h) (s' := ((T.setTop (F0 m pc ls rest)).pushFrame (.throwing q)).setVm vm') (acts' := []) (by
      have hf : ∀ (Q : Handler → Pre) (E : CtlPost) (d : Bool) (acts : List Action), wp (findHandler (F0 m pc ls rest) q) Q E e d acts ((T.setTop (F0 m pc ls rest)).pushFrame (.throwing q)) ↔ wp (findHandler.go (F0 m pc ls rest) q c.exceptionTable.toList) Q E e d acts ((T.setTop (F0 m pc ls rest)).pushFrame (.throwing q)) := fun _ _ _ _ => W.findHandler_eq hm9 X.code
      simp [hf, hq])
    exact ⟨rfl, ha⟩
  rw [stepThread_throwing (frames_entered hAt.top _), hstep.1]
  obtain ⟨g₀, hr⟩ := X.frames_eq
  have e9 : (((T.setTop (F0 m pc ls rest)).pushFrame (.throwing q)).setVm vm').setFrames (.java { F0 m pc ls rest with pc := h, stack := [.ref q] } :: T.frames.tail) = (T.setVm vm').setTop (F0 m h ls [.ref q]) := by
    have hr' : (T.setVm vm').frames = .java g₀ :: below := hr
    rw [State.setTop_of_frames _ hr', X.tail, State.pushFrame, State.setTop_of_frames _ hr]
    have h1 : ∀ (F : List Frame) (u : State), (u.setFrames F).setVm vm' = (u.setVm vm').setFrames F := fun _ _ => rfl
    rw [h1, State.setFrames_setFrames, h1, State.setFrames_setFrames]
  rw [e9]
  exact a1
end KD
theorem k_same {s U : State} {k n : Nat} (h : s.sameButNew ({ U with vm := s.vm } : State) [] k n) : s.heap.size ≤ U.heap.size ∧ ∀ a : Nat, a < s.heap.size → U.heap[a]? = s.heap[a]? := by
  obtain ⟨-, h2, -, -, -, h6⟩ := h
  refine ⟨h2, fun a ha => ?_⟩
  obtain ⟨c', e1, e2, -, e4⟩ := h6 a _ (Array.getElem?_eq_getElem ha)
  have hs : c'.slots = (s.heap[a]).slots := Array.ext_getElem? fun i => e4 i (fun hz => nomatch hz)
  have h9 : c' = s.heap[a] := by rw [e2, hs]
  have e5 : U.heap[a]? = some c' := e1
  rw [e5, h9, Array.getElem?_eq_getElem ha]
section KR
variable {p : Program} {l : Launch} {e : Env} {R : Room} {s : State} {m : MethodId} {args : Array Value} {below : List Frame} {meth : Method} {c : Code} {T : State} {H : Heap} {locs : List Loc} {cells slots : Nat} {Q : State → Prop}
theorem k_end {S : Type} {res : Except String (Option Value × S)} {B : S → State → State → Prop} {v : Option Value} {u : S} {free : Addr → Prop} {g : JFrame} (hres : res = .ok (v, u))
    (hW : W p l e R s m args below meth c H locs cells slots (MQ below (fun _ _ o t => o = .returned v ∧ t.heap = H) args s cells slots free) g)
    (hB : ∀ t : State, t.heap = H → kFr s t cells slots free → B u s t) : W p l e R s m args below meth c H locs cells slots (kE below res B s) g := by
  intro T hT X
  obtain ⟨t, a1, o, b1, b2, ⟨b3, b4⟩, L, ⟨-, b5, b6⟩, b7⟩ := hW T hT X
  refine ⟨t, a1, o, b1, b2, ?_⟩
  unfold kQ
  rw [hres]
  exact ⟨b3, hB t b4 ⟨L, b5, b6, b7⟩⟩
/-- a reader answers an int -/
theorem k_retI {res : Except String (Option Value × Unit)} {v : Int32} {cc : ByteArray} {pc : Nat} {ls : Array Slot} (hx : p.tables.exec = Jvm.exec) (hb : c.code = cc) (hr : meth.sig.returnType = some .int) (hlocks : meth.locks = false) (hdg : decode cc pc = .ok (.ireturn, 1)) (hres : res = .ok (some (.int v), ())) :
    W p l e R s m args below meth c s.heap [] 0 0 (kE below res kBr s) (F0 m pc ls [.int v]) :=
  k_end hres (W.iret hx hb hr (free := fun _ => False) (fun t ht _ => ⟨rfl, ht⟩) (fun q h => absurd h List.not_mem_nil) hdg hlocks) (fun t ht hf => ⟨ht, hf⟩)
theorem k_retZ {res : Except String (Option Value × Unit)} {v : Int32} {cc : ByteArray} {pc : Nat} {ls : Array Slot} (hx : p.tables.exec = Jvm.exec) (hb : c.code = cc) (hr : meth.sig.returnType = some .boolean) (hlocks : meth.locks = false) (hn : narrow .boolean (.int v) = .int v) (hdg : decode cc pc = .ok (.ireturn, 1)) (hres : res = .ok (some (.int v), ())) :
    W p l e R s m args below meth c s.heap [] 0 0 (kE below res kBr s) (F0 m pc ls [.int v]) :=
  k_end hres (W.zret hx hb hr hn (free := fun _ => False) (fun t ht _ => ⟨rfl, ht⟩) (fun q h => absurd h List.not_mem_nil) hdg hlocks) (fun t ht hf => ⟨ht, hf⟩)
theorem k_retV {res : Except String (Option Value × Unit)} {cc : ByteArray} {pc : Nat} {ls : Array Slot} (hx : p.tables.exec = Jvm.exec) (hb : c.code = cc) (hr : meth.sig.returnType = none) (hlocks : meth.locks = false) (hdg : decode cc pc = .ok (.return_, 1)) (hres : res = .ok (none, ())) :
    W p l e R s m args below meth c s.heap [] 0 0 (kE below res kBr s) (F0 m pc ls []) :=
  k_end hres (W.vret hx hb hr (free := fun _ => False) (fun t ht _ => ⟨rfl, ht⟩) (fun q h => absurd h List.not_mem_nil) hdg hlocks) (fun t ht hf => ⟨ht, hf⟩)
/-- a writer's ends -/
theorem k_retWI {S : Type} {D : va_G} {cl : List vw_C} {s0 : State} {wf : S → va_W} {u : S} {res : Except String (Option Value × S)} {v : Int32} {cc : ByteArray} {pc : Nat} {ls : Array Slot} (hx : p.tables.exec = Jvm.exec) (hb : c.code = cc) (hr : meth.sig.returnType = some .int) (hlocks : meth.locks = false) (hdg : decode cc pc = .ok (.ireturn, 1))
    (hP : va_P D cl (wf u) H) (hD : va_D (kA s0) (wf u)) (hS : va_S (kA s0) s.heap H locs) (hres : res = .ok (some (.int v), u)) :
    W p l e R s m args below meth c H locs 0 0 (kE below res (kBw D cl s0 wf) s) (F0 m pc ls [.int v]) :=
  k_end hres (W.iret hx hb hr (free := kA s0) (fun t ht _ => ⟨rfl, ht⟩) hS.2.2 hdg hlocks) (fun t ht hf => ⟨by rw [ht]; exact hP, hD, hS.F ht, hf⟩)
theorem k_retWV {S : Type} {D : va_G} {cl : List vw_C} {s0 : State} {wf : S → va_W} {u : S} {res : Except String (Option Value × S)} {cc : ByteArray} {pc : Nat} {ls : Array Slot} (hx : p.tables.exec = Jvm.exec) (hb : c.code = cc) (hr : meth.sig.returnType = none) (hlocks : meth.locks = false) (hdg : decode cc pc = .ok (.return_, 1))
    (hP : va_P D cl (wf u) H) (hD : va_D (kA s0) (wf u)) (hS : va_S (kA s0) s.heap H locs) (hres : res = .ok (none, u)) :
    W p l e R s m args below meth c H locs 0 0 (kE below res (kBw D cl s0 wf) s) (F0 m pc ls []) :=
  k_end hres (W.vret hx hb hr (free := kA s0) (fun t ht _ => ⟨rfl, ht⟩) hS.2.2 hdg hlocks) (fun t ht hf => ⟨by rw [ht]; exact hP, hD, hS.F ht, hf⟩)
/-- a call of a reader that can't throw: nothing moves -/
theorem k_callR {y : MethodName} {w : Cond} {rm : Room} {as : List Value} {Pre : State → Prop} {v : Option Value} {maxL : Nat} {pc : Nat} {ls : Array Slot} {st0 rest : List Value}
    (hA : kAt p l e R s m args below meth c H locs cells slots y w as maxL (F0 m pc ls st0) rest) (hM : kMet l y w rm as Pre (.ok (v, ())) kBr) (hsize : ls.size = c.maxLocals) (hW : (rest.map fun v => v.category).sum ≤ 8)
    (hR : rm.frames + 1 ≤ R.frames ∧ 8 + (maxL + 11) + rm.locals ≤ R.locals ∧ cells + rm.cells ≤ R.cells ∧ slots + rm.slots ≤ R.slots) (hP : ∀ U : State, U.heap = H → s.WarmedH U.vm → Pre U)
    (kk : W p l e R s m args below meth c H locs cells slots Q (F0 m (pc + 3) ls (v.toList ++ rest))) : W p l e R s m args below meth c H locs cells slots Q (F0 m pc ls st0) := by
  refine k_call hA hM hsize hW hR.1 hR.2.1 hR.2.2.1 hR.2.2.2 hP (fun E h => by cases h) ?_
  rintro v' u h st t e1 hWs ⟨e2, L, hW2, hsm, hL⟩
  cases h
  refine ⟨0, 0, L, hW2, hsm, ?_⟩
  rw [e2, e1]
  intro T hT X
  exact kk T hT (Stand.forget (extra := L) X (fun z hz => (hL z hz).elim))
/-- a call of a writer that can't throw -/
theorem k_callW {S : Type} {D : va_G} {cl : List vw_C} {s0 : State} {wf : S → va_W} {u : S} {y : MethodName} {w : Cond} {rm : Room} {as : List Value} {Pre : State → Prop} {v : Option Value} {maxL : Nat} {pc : Nat} {ls : Array Slot} {st0 rest : List Value}
    (hA : kAt p l e R s m args below meth c H locs cells slots y w as maxL (F0 m pc ls st0) rest) (hM : kMet l y w rm as Pre (.ok (v, u)) (kBw D cl s0 wf)) (hsize : ls.size = c.maxLocals) (hW : (rest.map fun v => v.category).sum ≤ 8)
    (hR : rm.frames + 1 ≤ R.frames ∧ 8 + (maxL + 11) + rm.locals ≤ R.locals ∧ cells + rm.cells ≤ R.cells ∧ slots + rm.slots ≤ R.slots) (hP : ∀ U : State, U.heap = H → s.WarmedH U.vm → Pre U) {H0 : Heap} (hS : va_S (kA s0) H0 H locs)
    (kk : ∀ (H1 : Heap) (locs1 : List Loc), va_P D cl (wf u) H1 → va_D (kA s0) (wf u) → va_S (kA s0) H0 H1 locs1 → W p l e R s m args below meth c H1 locs1 cells slots Q (F0 m (pc + 3) ls (v.toList ++ rest))) : W p l e R s m args below meth c H locs cells slots Q (F0 m pc ls st0) := by
  refine k_call hA hM hsize hW hR.1 hR.2.1 hR.2.2.1 hR.2.2.2 hP (fun E h => by cases h) ?_
  rintro v' u' h st t e1 hWs ⟨b1, b2, b3, L, hW2, hsm, hL⟩
  cases h
  refine ⟨0, 0, L, hW2, hsm, kk t.heap (locs ++ L) b1 b2 ⟨?_, ?_, ?_⟩⟩
  · exact Nat.le_trans hS.1 (by rw [← e1]; exact b3.1)
  · intro q h1 h2
    rw [b3.2 q (by rw [e1]; exact Nat.lt_of_lt_of_le h1 hS.1) h2, e1]
    exact hS.2.1 q h1 h2
  · intro z hz
    rcases List.mem_append.mp hz with h9 | h9
    · exact hS.2.2 z h9
    · exact hL z h9
/-- a call that throws, from a method without handlers that has moved nothing -/
theorem k_callE {S0 : Type} {res0 : Except String (Option Value × S0)} {B0 : S0 → State → State → Prop} {S : Type} {B : S → State → State → Prop} {y : MethodName} {w : Cond} {rm : Room} {as : List Value} {Pre : State → Prop} {E : String} {maxL : Nat} {pc : Nat} {ls : Array Slot} {st0 rest : List Value}
    (hA : kAt p l e R s m args below meth c s.heap [] 0 0 y w as maxL (F0 m pc ls st0) rest) (hM : kMet l y w rm as Pre (.error E) B) (hsize : ls.size = c.maxLocals) (hW : (rest.map fun v => v.category).sum ≤ 8)
    (hR : rm.frames + 1 ≤ R.frames ∧ 8 + (maxL + 11) + rm.locals ≤ R.locals ∧ 0 + rm.cells ≤ R.cells ∧ 0 + rm.slots ≤ R.slots) (hP : ∀ U : State, U.heap = s.heap → s.WarmedH U.vm → Pre U)
    (hout : ∀ x ∈ c.exceptionTable.toList, False) (hlocks : meth.locks = false) (hE : res0 = .error E) : W p l e R s m args below meth c s.heap [] 0 0 (kE below res0 B0 s) (F0 m pc ls st0) := by
  refine k_call hA hM hsize hW hR.1 hR.2.1 hR.2.2.1 hR.2.2.2 hP (fun E' h st q t e1 hWs hthr => ?_) (fun v u h => by cases h)
  cases h
  exact k_out hout hlocks hE e1 hWs hthr
/-- 'throw new E("text")' from a method without handlers that has moved nothing; n: the length of the instruction that loads the text -/
theorem k_thr {S : Type} {res : Except String (Option Value × S)} {B : S → State → State → Prop} {cc : ByteArray} {pc : Nat} {ls : Array Slot} {rest : List Value} {own cls : String} {names : List String} {ik ic sa n : Nat}
    (hexec : p.tables.exec = Jvm.exec) (hb : c.code = cc) (hl : l.stackTraces = false) (hown : s.vm.findClass own = some m.cls) (hcls : Bundle.fit cls = true) (hnames : ∀ n ∈ names, Bundle.fit n = true)
    (hk : (Cond.classLink own ik cls).before args s = true) (hini : (Cond.initialized cls).before args s = true) (hat : ∀ w ∈ Bundle.ownAtoms own ic cls names, w.before args s = true)
    (hsize : ls.size = c.maxLocals) (d0 : decode cc pc = .ok (.new ik, 3)) (d3 : decode cc (pc + 3) = .ok (.dup, 1)) (d6 : decode cc (pc + 4 + n) = .ok (.invokespecial ic, 3)) (d9 : decode cc (pc + 4 + n + 3) = .ok (.athrow, 1))
    (hld : ∀ (H1 : Heap) (Q : State → Prop) (st : List Value), W p l e R s m args below meth c H1 [] (0 + 1) (0 + 6) Q (F0 m (pc + 4 + n) ls (.ref sa :: st)) → W p l e R s m args below meth c H1 [] (0 + 1) (0 + 6) Q (F0 m (pc + 4) ls st))
    (hout : ∀ x ∈ c.exceptionTable.toList, False) (hlocks : meth.locks = false)
    (hR : names.length + 3 < R.frames ∧ (rest.map fun v => v.category).sum + (13 * (names.length + 1) + 43) ≤ R.locals ∧ 0 + 1 ≤ R.cells ∧ 0 + 6 ≤ R.slots) (hres : res = .error cls) :
    W p l e R s m args below meth c s.heap [] 0 0 (kE below res B s) (F0 m pc ls rest) := by
  intro T hT X
  have htr : e.platform.stackTraces = false := (show e.platform.stackTraces = l.stackTraces by rw [X.admits.platform]).trans hl
  have hins : (Cond.instantiable cls 6).before args s = true := hat _ (by simp [Bundle.ownAtoms])
  obtain ⟨vm₁, cX, kX, hfX, hkX, -, -, X1, st1⟩ := X.newCold hexec (own := own) (C := cls) (index := ik) (n := 6) hown hk hins hini (g := F0 m pc ls rest) rfl (by rw [hb]; exact d0) hR.2.2.1 hR.2.2.2
  generalize hT1 : (T.setVm vm₁).pushCell { cls := cX, slots := kX.instanceTypes.map defaultValue, vm := .none } = T1 at X1 st1
  have hcell : T1.heap[T.heap.size]? = some (freshCell cX kX) := by rw [← hT1]; exact State.heap_pushCell_size _ _
  have hcat : (Value.ref T.heap.size).category = 1 := rfl
  have key : W p l e R s m args below meth c T1.heap [] (0 + 1) (0 + 6) (kE below res B s) (F0 m (pc + 3) ls (.ref T.heap.size :: rest)) := by
    refine lv_dup hexec hb d3 rfl ?_
    refine hld _ _ _ ?_
    intro T2 hT2 X2
    obtain ⟨U, hsteps, hrun, hend, hW, hsame, ce, hce, hO⟩ := X2.ctorThrowS hexec htr (own := own) (cls := cls) (names := names) (ic := ic) hown hcls hnames hat (fun x hx => nomatch hx) hfX hkX (by rw [hT2]; exact hcell) (by rw [hT]; exact Nat.le_refl _) (msg := .ref sa) rfl
      (g := F0 m (pc + 4 + n) ls (.ref sa :: .ref T.heap.size :: .ref T.heap.size :: rest)) rfl hsize rfl rfl (rest := rest) rfl
      (by rw [hb]; exact d6) (by rw [hb]; exact d9) (fun x hx => (hout x hx).elim) hR.1 (by have h9 := hR.2.1; simp only [List.map_cons, List.sum_cons, hcat]; show 2 * 0 + _ + _ ≤ _; omega) hlocks
    refine ⟨U, hsteps, .threw T.heap.size, hrun, hend, ?_⟩
    unfold kQ
    rw [hres]
    exact ⟨_, rfl, ce, hce, hO.vm, hO.cls, (k_same hsame).1, (k_same hsame).2, [], hW, hsame, fun z hz => nomatch hz⟩
  obtain ⟨t, a1, b1⟩ := key T1 rfl X1
  exact ⟨t, st1 _ a1, b1⟩
theorem k_throw {S : Type} {res : Except String (Option Value × S)} {B : S → State → State → Prop} {cc : ByteArray} {pc : Nat} {ls : Array Slot} {rest : List Value} {own cls text : String} {names : List String} {ik is ic : Nat}
    (hexec : p.tables.exec = Jvm.exec) (hb : c.code = cc) (hl : l.stackTraces = false) (hown : s.vm.findClass own = some m.cls) (hcls : Bundle.fit cls = true) (hnames : ∀ n ∈ names, Bundle.fit n = true)
    (hk : (Cond.classLink own ik cls).before args s = true) (hini : (Cond.initialized cls).before args s = true) (hstr : ∃ sa, vk_R own is text sa s) (hat : ∀ w ∈ Bundle.ownAtoms own ic cls names, w.before args s = true)
    (hsize : ls.size = c.maxLocals) (d0 : decode cc pc = .ok (.new ik, 3)) (d3 : decode cc (pc + 3) = .ok (.dup, 1)) (d4 : decode cc (pc + 4) = .ok (.ldc is, 2)) (d6 : decode cc (pc + 6) = .ok (.invokespecial ic, 3)) (d9 : decode cc (pc + 9) = .ok (.athrow, 1))
    (hout : ∀ x ∈ c.exceptionTable.toList, False) (hlocks : meth.locks = false)
    (hR : names.length + 3 < R.frames ∧ (rest.map fun v => v.category).sum + (13 * (names.length + 1) + 43) ≤ R.locals ∧ 0 + 1 ≤ R.cells ∧ 0 + 6 ≤ R.slots) (hres : res = .error cls) :
    W p l e R s m args below meth c s.heap [] 0 0 (kE below res B s) (F0 m pc ls rest) := by
  obtain ⟨sa, hstr⟩ := hstr
  exact k_thr (n := 2) (sa := sa) hexec hb hl hown hcls hnames hk hini hat hsize d0 d3 d6 d9 (fun H1 Q st k => va_ldcS hexec hb hown hstr d4 k) hout hlocks hR hres
theorem k_throwW {S : Type} {res : Except String (Option Value × S)} {B : S → State → State → Prop} {cc : ByteArray} {pc : Nat} {ls : Array Slot} {rest : List Value} {own cls text : String} {names : List String} {ik is ic : Nat}
    (hexec : p.tables.exec = Jvm.exec) (hb : c.code = cc) (hl : l.stackTraces = false) (hown : s.vm.findClass own = some m.cls) (hcls : Bundle.fit cls = true) (hnames : ∀ n ∈ names, Bundle.fit n = true)
    (hk : (Cond.classLink own ik cls).before args s = true) (hini : (Cond.initialized cls).before args s = true) (hstr : ∃ sa, vk_R own is text sa s) (hat : ∀ w ∈ Bundle.ownAtoms own ic cls names, w.before args s = true)
    (hsize : ls.size = c.maxLocals) (d0 : decode cc pc = .ok (.new ik, 3)) (d3 : decode cc (pc + 3) = .ok (.dup, 1)) (d4 : decode cc (pc + 4) = .ok (.ldc_w is, 3)) (d6 : decode cc (pc + 7) = .ok (.invokespecial ic, 3)) (d9 : decode cc (pc + 10) = .ok (.athrow, 1))
    (hout : ∀ x ∈ c.exceptionTable.toList, False) (hlocks : meth.locks = false)
    (hR : names.length + 3 < R.frames ∧ (rest.map fun v => v.category).sum + (13 * (names.length + 1) + 43) ≤ R.locals ∧ 0 + 1 ≤ R.cells ∧ 0 + 6 ≤ R.slots) (hres : res = .error cls) :
    W p l e R s m args below meth c s.heap [] 0 0 (kE below res B s) (F0 m pc ls rest) := by
  obtain ⟨sa, hstr⟩ := hstr
  refine k_thr (n := 3) (sa := sa) hexec hb hl hown hcls hnames hk hini hat hsize d0 d3 d6 d9 (fun H1 Q st k => ?_) hout hlocks hR hres
  intro T hT X
  obtain ⟨t, a1, b1⟩ := k T hT X
  exact ⟨t, X.ldcStringW hexec (own := own) (text := text) (index := is) (a := sa) hown hstr.1 hstr.2 (g := F0 m (pc + 4) ls st) rfl (by rw [hb]; exact d4) t a1, b1⟩
end KR
end
section
/-! Numbers and rows: ints that are naturals (nI), naturals less one (pI), raw ints; arrays of them. -/
def pI (n : Nat) : Int32 := nI n - 1
theorem pI_succ (n : Nat) : pI (n + 1) = nI n := nI_pred n
theorem pI_0 : pI 0 = -1 := by decide +kernel
theorem pI_toInt {n : Nat} (h : n < 2 ^ 30) : (pI n).toInt = (n : Int) - 1 := by
  cases n with
  | zero => decide +kernel
  | succ k => rw [pI_succ, nI_toInt (by omega)]; omega
theorem pI_inj {a b : Nat} (ha : a < 2 ^ 30) (hb : b < 2 ^ 30) : pI a = pI b ↔ a = b := by
  constructor
  · intro h
    have h1 := congrArg Int32.toInt h
    rw [pI_toInt ha, pI_toInt hb] at h1
    omega
  · intro h; rw [h]
theorem pI_nI {a b : Nat} (ha : a < 2 ^ 30) (hb : b + 1 < 2 ^ 30) : pI a = nI b ↔ a = b + 1 := by
  rw [← pI_succ]; exact pI_inj ha hb
def cN (g : Nat → Nat) : Nat → Int32 := fun i => nI (g i)
def cP (g : Nat → Nat) : Nat → Int32 := fun i => pI (g i)
theorem cN_up (g : Nat → Nat) (j v : Nat) : upd (cN g) j (nI v) = cN (va_up g j v) := by
  funext i
  simp only [upd, cN, va_up]
  split <;> rfl
theorem cP_up (g : Nat → Nat) (j v : Nat) : upd (cP g) j (pI v) = cP (va_up g j v) := by
  funext i
  simp only [upd, cP, va_up]
  split <;> rfl
theorem cI_up (g : Nat → Int32) (j : Nat) (v : Int32) : upd g j v = va_up g j v := rfl
/-- an int that lies in lo .. hi, as a natural -/
def rg (x : Int32) (lo hi : Nat) : Option Nat := if (lo : Int) ≤ x.toInt ∧ x.toInt ≤ (hi : Int) then some x.toNatClampNeg else none
theorem rg_some {x : Int32} {lo hi p : Nat} (h : rg x lo hi = some p) : x = nI p ∧ lo ≤ p ∧ p ≤ hi ∧ p < 2 ^ 31 := by
  unfold rg at h
  split at h
  · next hc =>
    have hnn : ¬ x < 0 := by
      rw [Int32.lt_iff_toInt_lt]
      show ¬ x.toInt < 0
      omega
    obtain ⟨j, hj, rfl⟩ := nI_of hnn
    rw [nI_clamp hj] at h
    cases h
    rw [nI_toInt hj] at hc
    exact ⟨rfl, by omega, by omega, hj⟩
  · cases h
theorem rg_nI {p lo hi : Nat} (h : p < 2 ^ 31) : rg (nI p) lo hi = if lo ≤ p ∧ p ≤ hi then some p else none := by
  unfold rg
  rw [nI_toInt h, nI_clamp h]
  by_cases hc : lo ≤ p ∧ p ≤ hi
  · rw [if_pos hc, if_pos (by omega)]
  · rw [if_neg hc, if_neg (by omega)]
theorem rg_none {x : Int32} {lo hi : Nat} (h : rg x lo hi = none) : x.toInt < (lo : Int) ∨ (hi : Int) < x.toInt := by
  unfold rg at h
  split at h
  · cases h
  · omega
section KQ
variable {p : Program} {l : Launch} {e : Env} {R : Room} {s : State} {m : MethodId} {args : Array Value} {below : List Frame} {meth : Method} {c : Code} {H : Heap} {locs : List Loc} {cells slots : Nat} {Q : State → Prop}
variable {cc : ByteArray} {pc : Nat} {ls : Array Slot} {rest : List Value} {D : va_G} {cl : List vw_C} {A : Nat → Prop} {a : Nat} {tys : List (ClassId × FieldType)} {ws : va_W} {H0 : Heap}
theorem k_st {st st' : List Value} (h : st = st') (k : W p l e R s m args below meth c H locs cells slots Q (F0 m pc ls st')) : W p l e R s m args below meth c H locs cells slots Q (F0 m pc ls st) := by rw [h]; exact k
theorem k_addN {x y : Nat} (hx : p.tables.exec = Jvm.exec) (hb : c.code = cc) (hd : decode cc pc = .ok (.iadd, 1)) (k : W p l e R s m args below meth c H locs cells slots Q (F0 m (pc + 1) ls (.int (nI (x + y)) :: rest))) : W p l e R s m args below meth c H locs cells slots Q (F0 m pc ls (.int (nI y) :: .int (nI x) :: rest)) :=
  lv_iadd hx hb hd (by rw [nI_add]; exact k)
theorem k_mulN {x y : Nat} (hx : p.tables.exec = Jvm.exec) (hb : c.code = cc) (hd : decode cc pc = .ok (.imul, 1)) (k : W p l e R s m args below meth c H locs cells slots Q (F0 m (pc + 1) ls (.int (nI (x * y)) :: rest))) : W p l e R s m args below meth c H locs cells slots Q (F0 m pc ls (.int (nI y) :: .int (nI x) :: rest)) :=
  lv_imul hx hb hd (by rw [pk_mul]; exact k)
theorem k_mulC {x y : Nat} (hx : p.tables.exec = Jvm.exec) (hb : c.code = cc) (hd : decode cc pc = .ok (.imul, 1)) (k : W p l e R s m args below meth c H locs cells slots Q (F0 m (pc + 1) ls (.int (nI (y * x)) :: rest))) : W p l e R s m args below meth c H locs cells slots Q (F0 m pc ls (.int (nI y) :: .int (nI x) :: rest)) :=
  k_mulN hx hb hd (by rw [Nat.mul_comm]; exact k)
theorem k_subN {x y : Nat} (h : y ≤ x) (hx : p.tables.exec = Jvm.exec) (hb : c.code = cc) (hd : decode cc pc = .ok (.isub, 1)) (k : W p l e R s m args below meth c H locs cells slots Q (F0 m (pc + 1) ls (.int (nI (x - y)) :: rest))) : W p l e R s m args below meth c H locs cells slots Q (F0 m pc ls (.int (nI y) :: .int (nI x) :: rest)) :=
  lv_isub hx hb hd (by rw [pk_sub h]; exact k)
theorem k_divN {x y : Nat} (h1 : x < 2 ^ 31) (h2 : 0 < y) (h3 : y < 2 ^ 31) (hx : p.tables.exec = Jvm.exec) (hb : c.code = cc) (hd : decode cc pc = .ok (.idiv, 1)) (k : W p l e R s m args below meth c H locs cells slots Q (F0 m (pc + 1) ls (.int (nI (x / y)) :: rest))) : W p l e R s m args below meth c H locs cells slots Q (F0 m pc ls (.int (nI y) :: .int (nI x) :: rest)) :=
  lv_idiv hx hb hd (nI_ne0 h2 h3) (by rw [pk_div h1 h2 h3]; exact k)
theorem k_remN {x y : Nat} (h1 : x < 2 ^ 31) (h2 : 0 < y) (h3 : y < 2 ^ 31) (hx : p.tables.exec = Jvm.exec) (hb : c.code = cc) (hd : decode cc pc = .ok (.irem, 1)) (k : W p l e R s m args below meth c H locs cells slots Q (F0 m (pc + 1) ls (.int (nI (x % y)) :: rest))) : W p l e R s m args below meth c H locs cells slots Q (F0 m pc ls (.int (nI y) :: .int (nI x) :: rest)) :=
  lv_irem hx hb hd (nI_ne0 h2 h3) (by rw [pk_rem h1 h2 h3]; exact k)
theorem k_nxand (a b : Nat) : nI a &&& nI b = nI (a &&& b) := by
  apply Int32.toBitVec_inj.mp
  show BitVec.ofNat 32 a &&& BitVec.ofNat 32 b = BitVec.ofNat 32 (a &&& b)
  apply BitVec.eq_of_toNat_eq
  simp [BitVec.toNat_and, Nat.and_mod_two_pow]
theorem k_andN {x y : Nat} (hx : p.tables.exec = Jvm.exec) (hb : c.code = cc) (hd : decode cc pc = .ok (.iand, 1)) (k : W p l e R s m args below meth c H locs cells slots Q (F0 m (pc + 1) ls (.int (nI (x &&& y)) :: rest))) : W p l e R s m args below meth c H locs cells slots Q (F0 m pc ls (.int (nI y) :: .int (nI x) :: rest)) :=
  lv_iand hx hb hd (by rw [k_nxand]; exact k)
/-! loads and stores -/
theorem k_aldN {q0 t0 : Nat} {cA : ClassId} {n j : Nat} {g : Nat → Nat} (hx : p.tables.exec = Jvm.exec) (hb : c.code = cc) (hK : va_K D cl tys s) (hP : va_P D cl ws H) (ha : ws[q0]? = some (a, .inl (cA, n, .inl (cN g)))) (ht : tys[t0]? = some (cA, .int)) (hj : j < n) (hn : n < 2 ^ 31) (hd : decode cc pc = .ok (.iaload, 1))
    (k : W p l e R s m args below meth c H locs cells slots Q (F0 m (pc + 1) ls (.int (nI (g j)) :: rest))) : W p l e R s m args below meth c H locs cells slots Q (F0 m pc ls (.int (nI j) :: .ref a :: rest)) :=
  va_iald hx hb hK hP q0 t0 ha ht (vp_in_nI hj hn) hd (by rw [nI_clamp (Nat.lt_trans hj hn)]; exact k)
theorem k_aldP {q0 t0 : Nat} {cA : ClassId} {n j : Nat} {g : Nat → Nat} (hx : p.tables.exec = Jvm.exec) (hb : c.code = cc) (hK : va_K D cl tys s) (hP : va_P D cl ws H) (ha : ws[q0]? = some (a, .inl (cA, n, .inl (cP g)))) (ht : tys[t0]? = some (cA, .int)) (hj : j < n) (hn : n < 2 ^ 31) (hd : decode cc pc = .ok (.iaload, 1))
    (k : W p l e R s m args below meth c H locs cells slots Q (F0 m (pc + 1) ls (.int (pI (g j)) :: rest))) : W p l e R s m args below meth c H locs cells slots Q (F0 m pc ls (.int (nI j) :: .ref a :: rest)) :=
  va_iald hx hb hK hP q0 t0 ha ht (vp_in_nI hj hn) hd (by rw [nI_clamp (Nat.lt_trans hj hn)]; exact k)
theorem k_aldI {q0 t0 : Nat} {cA : ClassId} {n j : Nat} {g : Nat → Int32} (hx : p.tables.exec = Jvm.exec) (hb : c.code = cc) (hK : va_K D cl tys s) (hP : va_P D cl ws H) (ha : ws[q0]? = some (a, .inl (cA, n, .inl g))) (ht : tys[t0]? = some (cA, .int)) (hj : j < n) (hn : n < 2 ^ 31) (hd : decode cc pc = .ok (.iaload, 1))
    (k : W p l e R s m args below meth c H locs cells slots Q (F0 m (pc + 1) ls (.int (g j) :: rest))) : W p l e R s m args below meth c H locs cells slots Q (F0 m pc ls (.int (nI j) :: .ref a :: rest)) :=
  va_iald hx hb hK hP q0 t0 ha ht (vp_in_nI hj hn) hd (by rw [nI_clamp (Nat.lt_trans hj hn)]; exact k)
theorem k_astN {q0 t0 : Nat} {cA : ClassId} {n j v : Nat} {g : Nat → Nat} (hx : p.tables.exec = Jvm.exec) (hb : c.code = cc) (hK : va_K D cl tys s) (hP : va_P D cl ws H) (hD : va_D A ws) (hS : va_S A H0 H locs) (ha : ws[q0]? = some (a, .inl (cA, n, .inl (cN g)))) (ht : tys[t0]? = some (cA, .int)) (hj : j < n) (hn : n < 2 ^ 31) (hd : decode cc pc = .ok (.iastore, 1))
    (k : ∀ (H1 : Heap) (locs1 : List Loc), va_P D cl (ws.set q0 (a, .inl (cA, n, .inl (cN (va_up g j v))))) H1 → va_D A (ws.set q0 (a, .inl (cA, n, .inl (cN (va_up g j v))))) → va_S A H0 H1 locs1 → W p l e R s m args below meth c H1 locs1 cells slots Q (F0 m (pc + 1) ls rest)) : W p l e R s m args below meth c H locs cells slots Q (F0 m pc ls (.int (nI v) :: .int (nI j) :: .ref a :: rest)) :=
  va_iast hx hb hK hP hD hS q0 t0 ha ht (vp_in_nI hj hn) hd (fun H1 locs1 h1 h2 h3 => by
    rw [nI_clamp (Nat.lt_trans hj hn), cN_up] at h1 h2
    exact k H1 locs1 h1 h2 h3)
theorem k_astP {q0 t0 : Nat} {cA : ClassId} {n j v : Nat} {g : Nat → Nat} (hx : p.tables.exec = Jvm.exec) (hb : c.code = cc) (hK : va_K D cl tys s) (hP : va_P D cl ws H) (hD : va_D A ws) (hS : va_S A H0 H locs) (ha : ws[q0]? = some (a, .inl (cA, n, .inl (cP g)))) (ht : tys[t0]? = some (cA, .int)) (hj : j < n) (hn : n < 2 ^ 31) (hd : decode cc pc = .ok (.iastore, 1))
    (k : ∀ (H1 : Heap) (locs1 : List Loc), va_P D cl (ws.set q0 (a, .inl (cA, n, .inl (cP (va_up g j v))))) H1 → va_D A (ws.set q0 (a, .inl (cA, n, .inl (cP (va_up g j v))))) → va_S A H0 H1 locs1 → W p l e R s m args below meth c H1 locs1 cells slots Q (F0 m (pc + 1) ls rest)) : W p l e R s m args below meth c H locs cells slots Q (F0 m pc ls (.int (pI v) :: .int (nI j) :: .ref a :: rest)) :=
  va_iast hx hb hK hP hD hS q0 t0 ha ht (vp_in_nI hj hn) hd (fun H1 locs1 h1 h2 h3 => by
    rw [nI_clamp (Nat.lt_trans hj hn), cP_up] at h1 h2
    exact k H1 locs1 h1 h2 h3)
theorem k_astI {q0 t0 : Nat} {cA : ClassId} {n j : Nat} {v : Int32} {g : Nat → Int32} (hx : p.tables.exec = Jvm.exec) (hb : c.code = cc) (hK : va_K D cl tys s) (hP : va_P D cl ws H) (hD : va_D A ws) (hS : va_S A H0 H locs) (ha : ws[q0]? = some (a, .inl (cA, n, .inl g))) (ht : tys[t0]? = some (cA, .int)) (hj : j < n) (hn : n < 2 ^ 31) (hd : decode cc pc = .ok (.iastore, 1))
    (k : ∀ (H1 : Heap) (locs1 : List Loc), va_P D cl (ws.set q0 (a, .inl (cA, n, .inl (va_up g j v)))) H1 → va_D A (ws.set q0 (a, .inl (cA, n, .inl (va_up g j v)))) → va_S A H0 H1 locs1 → W p l e R s m args below meth c H1 locs1 cells slots Q (F0 m (pc + 1) ls rest)) : W p l e R s m args below meth c H locs cells slots Q (F0 m pc ls (.int v :: .int (nI j) :: .ref a :: rest)) :=
  va_iast hx hb hK hP hD hS q0 t0 ha ht (vp_in_nI hj hn) hd (fun H1 locs1 h1 h2 h3 => by
    rw [nI_clamp (Nat.lt_trans hj hn)] at h1 h2
    exact k H1 locs1 h1 h2 h3)
/-! branches on naturals -/
theorem k_eqN {x y tgt : Nat} {off : Int} (h1 : x < 2 ^ 31) (h2 : y < 2 ^ 31) (hx : p.tables.exec = Jvm.exec) (hb : c.code = cc) (hd : decode cc pc = .ok (.if_icmp .eq off, 3)) (ht : (pc : Int) + off = (tgt : Int))
    (kt : x = y → W p l e R s m args below meth c H locs cells slots Q (F0 m tgt ls rest)) (kf : x ≠ y → W p l e R s m args below meth c H locs cells slots Q (F0 m (pc + 3) ls rest)) : W p l e R s m args below meth c H locs cells slots Q (F0 m pc ls (.int (nI y) :: .int (nI x) :: rest)) :=
  lv_icmp_eq hx hb hd ht (fun h => kt ((nI_eq h1 h2).mp h)) (fun h => kf (fun h9 => h (by rw [h9])))
theorem k_neN {x y tgt : Nat} {off : Int} (h1 : x < 2 ^ 31) (h2 : y < 2 ^ 31) (hx : p.tables.exec = Jvm.exec) (hb : c.code = cc) (hd : decode cc pc = .ok (.if_icmp .ne off, 3)) (ht : (pc : Int) + off = (tgt : Int))
    (kt : x ≠ y → W p l e R s m args below meth c H locs cells slots Q (F0 m tgt ls rest)) (kf : x = y → W p l e R s m args below meth c H locs cells slots Q (F0 m (pc + 3) ls rest)) : W p l e R s m args below meth c H locs cells slots Q (F0 m pc ls (.int (nI y) :: .int (nI x) :: rest)) :=
  lv_icmp_ne hx hb hd ht (fun h => kt (fun h9 => h (by rw [h9]))) (fun h => kf ((nI_eq h1 h2).mp h))
theorem k_eqP {x y tgt : Nat} {off : Int} (h1 : x < 2 ^ 30) (h2 : y < 2 ^ 30) (hx : p.tables.exec = Jvm.exec) (hb : c.code = cc) (hd : decode cc pc = .ok (.if_icmp .eq off, 3)) (ht : (pc : Int) + off = (tgt : Int))
    (kt : x = y → W p l e R s m args below meth c H locs cells slots Q (F0 m tgt ls rest)) (kf : x ≠ y → W p l e R s m args below meth c H locs cells slots Q (F0 m (pc + 3) ls rest)) : W p l e R s m args below meth c H locs cells slots Q (F0 m pc ls (.int (pI y) :: .int (pI x) :: rest)) :=
  lv_icmp_eq hx hb hd ht (fun h => kt ((pI_inj h1 h2).mp h)) (fun h => kf (fun h9 => h (by rw [h9])))
theorem k_neP {x y tgt : Nat} {off : Int} (h1 : x < 2 ^ 30) (h2 : y < 2 ^ 30) (hx : p.tables.exec = Jvm.exec) (hb : c.code = cc) (hd : decode cc pc = .ok (.if_icmp .ne off, 3)) (ht : (pc : Int) + off = (tgt : Int))
    (kt : x ≠ y → W p l e R s m args below meth c H locs cells slots Q (F0 m tgt ls rest)) (kf : x = y → W p l e R s m args below meth c H locs cells slots Q (F0 m (pc + 3) ls rest)) : W p l e R s m args below meth c H locs cells slots Q (F0 m pc ls (.int (pI y) :: .int (pI x) :: rest)) :=
  lv_icmp_ne hx hb hd ht (fun h => kt (fun h9 => h (by rw [h9]))) (fun h => kf ((pI_inj h1 h2).mp h))
theorem k_ltN {x y tgt : Nat} {off : Int} (h1 : x < 2 ^ 31) (h2 : y < 2 ^ 31) (hx : p.tables.exec = Jvm.exec) (hb : c.code = cc) (hd : decode cc pc = .ok (.if_icmp .lt off, 3)) (ht : (pc : Int) + off = (tgt : Int))
    (kt : x < y → W p l e R s m args below meth c H locs cells slots Q (F0 m tgt ls rest)) (kf : y ≤ x → W p l e R s m args below meth c H locs cells slots Q (F0 m (pc + 3) ls rest)) : W p l e R s m args below meth c H locs cells slots Q (F0 m pc ls (.int (nI y) :: .int (nI x) :: rest)) :=
  lv_icmp_lt hx hb hd ht (fun h => kt ((nI_ltI h1 h2).mp h)) (fun h => kf (Nat.le_of_not_lt (fun h9 => h ((nI_ltI h1 h2).mpr h9))))
theorem k_geN {x y tgt : Nat} {off : Int} (h1 : x < 2 ^ 31) (h2 : y < 2 ^ 31) (hx : p.tables.exec = Jvm.exec) (hb : c.code = cc) (hd : decode cc pc = .ok (.if_icmp .ge off, 3)) (ht : (pc : Int) + off = (tgt : Int))
    (kt : y ≤ x → W p l e R s m args below meth c H locs cells slots Q (F0 m tgt ls rest)) (kf : x < y → W p l e R s m args below meth c H locs cells slots Q (F0 m (pc + 3) ls rest)) : W p l e R s m args below meth c H locs cells slots Q (F0 m pc ls (.int (nI y) :: .int (nI x) :: rest)) :=
  lv_icmp_ge hx hb hd ht (fun h => kt ((nI_leI h2 h1).mp h)) (fun h => kf (Nat.lt_of_not_le (fun h9 => h ((nI_leI h2 h1).mpr h9))))
theorem k_gtN {x y tgt : Nat} {off : Int} (h1 : x < 2 ^ 31) (h2 : y < 2 ^ 31) (hx : p.tables.exec = Jvm.exec) (hb : c.code = cc) (hd : decode cc pc = .ok (.if_icmp .gt off, 3)) (ht : (pc : Int) + off = (tgt : Int))
    (kt : y < x → W p l e R s m args below meth c H locs cells slots Q (F0 m tgt ls rest)) (kf : x ≤ y → W p l e R s m args below meth c H locs cells slots Q (F0 m (pc + 3) ls rest)) : W p l e R s m args below meth c H locs cells slots Q (F0 m pc ls (.int (nI y) :: .int (nI x) :: rest)) :=
  lv_icmp_gt hx hb hd ht (fun h => kt ((nI_ltI h2 h1).mp h)) (fun h => kf (Nat.le_of_not_lt (fun h9 => h ((nI_ltI h2 h1).mpr h9))))
theorem k_leN {x y tgt : Nat} {off : Int} (h1 : x < 2 ^ 31) (h2 : y < 2 ^ 31) (hx : p.tables.exec = Jvm.exec) (hb : c.code = cc) (hd : decode cc pc = .ok (.if_icmp .le off, 3)) (ht : (pc : Int) + off = (tgt : Int))
    (kt : x ≤ y → W p l e R s m args below meth c H locs cells slots Q (F0 m tgt ls rest)) (kf : y < x → W p l e R s m args below meth c H locs cells slots Q (F0 m (pc + 3) ls rest)) : W p l e R s m args below meth c H locs cells slots Q (F0 m pc ls (.int (nI y) :: .int (nI x) :: rest)) :=
  lv_icmp_le hx hb hd ht (fun h => kt ((nI_leI h1 h2).mp h)) (fun h => kf (Nat.lt_of_not_le (fun h9 => h ((nI_leI h1 h2).mpr h9))))
theorem k_if0 {x tgt : Nat} {off : Int} (h1 : x < 2 ^ 31) (hx : p.tables.exec = Jvm.exec) (hb : c.code = cc) (hd : decode cc pc = .ok (.ifCond .eq off, 3)) (ht : (pc : Int) + off = (tgt : Int))
    (kt : x = 0 → W p l e R s m args below meth c H locs cells slots Q (F0 m tgt ls rest)) (kf : x ≠ 0 → W p l e R s m args below meth c H locs cells slots Q (F0 m (pc + 3) ls rest)) : W p l e R s m args below meth c H locs cells slots Q (F0 m pc ls (.int (nI x) :: rest)) :=
  lv_if_eq hx hb hd ht (fun h => kt ((nI_eq h1 (by omega)).mp h)) (fun h => kf (fun h9 => h (by rw [h9]; rfl)))
theorem k_ifN0 {x tgt : Nat} {off : Int} (h1 : x < 2 ^ 31) (hx : p.tables.exec = Jvm.exec) (hb : c.code = cc) (hd : decode cc pc = .ok (.ifCond .ne off, 3)) (ht : (pc : Int) + off = (tgt : Int))
    (kt : x ≠ 0 → W p l e R s m args below meth c H locs cells slots Q (F0 m tgt ls rest)) (kf : x = 0 → W p l e R s m args below meth c H locs cells slots Q (F0 m (pc + 3) ls rest)) : W p l e R s m args below meth c H locs cells slots Q (F0 m pc ls (.int (nI x) :: rest)) :=
  lv_if_ne hx hb hd ht (fun h => kt (fun h9 => h (by rw [h9]; rfl))) (fun h => kf ((nI_eq h1 (by omega)).mp h))
/-- iflt, ifge of a natural less one -/
theorem k_ltP0 {x tgt : Nat} {off : Int} (h1 : x < 2 ^ 30) (hx : p.tables.exec = Jvm.exec) (hb : c.code = cc) (hd : decode cc pc = .ok (.ifCond .lt off, 3)) (ht : (pc : Int) + off = (tgt : Int))
    (kt : x = 0 → W p l e R s m args below meth c H locs cells slots Q (F0 m tgt ls rest)) (kf : x ≠ 0 → W p l e R s m args below meth c H locs cells slots Q (F0 m (pc + 3) ls rest)) : W p l e R s m args below meth c H locs cells slots Q (F0 m pc ls (.int (pI x) :: rest)) :=
  lv_if_lt hx hb hd ht (fun h => kt (by
      rw [Int32.lt_iff_toInt_lt, pI_toInt h1] at h
      have h0 : (0 : Int32).toInt = 0 := by decide +kernel
      omega)) (fun h => kf (fun h9 => h (by subst h9; decide +kernel)))
theorem k_geP0 {x tgt : Nat} {off : Int} (h1 : x < 2 ^ 30) (hx : p.tables.exec = Jvm.exec) (hb : c.code = cc) (hd : decode cc pc = .ok (.ifCond .ge off, 3)) (ht : (pc : Int) + off = (tgt : Int))
    (kt : x ≠ 0 → W p l e R s m args below meth c H locs cells slots Q (F0 m tgt ls rest)) (kf : x = 0 → W p l e R s m args below meth c H locs cells slots Q (F0 m (pc + 3) ls rest)) : W p l e R s m args below meth c H locs cells slots Q (F0 m pc ls (.int (pI x) :: rest)) :=
  lv_if_ge hx hb hd ht (fun h => kt (fun h9 => by
      subst h9
      exact absurd h (by decide +kernel))) (fun h => kf (by
      rcases Nat.eq_zero_or_pos x with h9 | h9
      · exact h9
      · exact absurd (by
          rw [Int32.le_iff_toInt_le, pI_toInt h1]
          have h0 : (0 : Int32).toInt = 0 := by decide +kernel
          omega) h))
/-- ifle, ifgt of a natural -/
theorem k_leN0 {x tgt : Nat} {off : Int} (h1 : x < 2 ^ 31) (hx : p.tables.exec = Jvm.exec) (hb : c.code = cc) (hd : decode cc pc = .ok (.ifCond .le off, 3)) (ht : (pc : Int) + off = (tgt : Int))
    (kt : x = 0 → W p l e R s m args below meth c H locs cells slots Q (F0 m tgt ls rest)) (kf : x ≠ 0 → W p l e R s m args below meth c H locs cells slots Q (F0 m (pc + 3) ls rest)) : W p l e R s m args below meth c H locs cells slots Q (F0 m pc ls (.int (nI x) :: rest)) :=
  lv_if_le hx hb hd ht (fun h => kt (by
      rcases Nat.eq_zero_or_pos x with h9 | h9
      · exact h9
      · exact absurd h (nI_nle h9 h1))) (fun h => kf (fun h9 => h (by subst h9; decide +kernel)))
theorem k_gtN0 {x tgt : Nat} {off : Int} (h1 : x < 2 ^ 31) (hx : p.tables.exec = Jvm.exec) (hb : c.code = cc) (hd : decode cc pc = .ok (.ifCond .gt off, 3)) (ht : (pc : Int) + off = (tgt : Int))
    (kt : x ≠ 0 → W p l e R s m args below meth c H locs cells slots Q (F0 m tgt ls rest)) (kf : x = 0 → W p l e R s m args below meth c H locs cells slots Q (F0 m (pc + 3) ls rest)) : W p l e R s m args below meth c H locs cells slots Q (F0 m pc ls (.int (nI x) :: rest)) :=
  lv_if_gt hx hb hd ht (fun h => kt (fun h9 => by
      subst h9
      exact absurd h (by decide +kernel))) (fun h => kf (by
      rcases Nat.eq_zero_or_pos x with h9 | h9
      · exact h9
      · exact absurd (by
          rw [show (0 : Int32) = nI 0 from rfl]
          exact nI_lt h9 h1) h))
end KQ
end
section
/-! A throw whose class reaches its superclass's constructor at another place of its pool than 7 (NoSuchElementException: 13). The road is that of the library's Stand.ctorThrowS, with the first link of the chain of any index, and less said of the cell. -/
def kxAtoms (own : String) (ic : Nat) (X : String) (ix : Nat) (rx : ByteArray) (Y : String) (r : List String) : List Cond :=
  Bundle.throwableAtoms ++ (Bundle.throwableSAtoms ++ (Bundle.passSAtoms X Y ix rx ++ (Bundle.chainSAtoms Y r ++
  [.methodLink own ic (Bundle.initS X), .instantiable X 6, .selects X Bundle.tFill0 Bundle.tFill0, .selects X Bundle.tFill Bundle.tFill,
   .lays X Bundle.tN "cause" "Ljava/lang/Throwable;", .lays X Bundle.tN "stackTrace" Bundle.steD, .lays X Bundle.tN "suppressedExceptions" Bundle.listD, .lays X Bundle.tN "detailMessage" "Ljava/lang/String;",
   .isRef (.static Bundle.tN "UNASSIGNED_STACK" Bundle.steD), .isRef (.static Bundle.tN "SUPPRESSED_SENTINEL" Bundle.listD),
   .fieldLink Bundle.tN 198 Bundle.tN "backtrace" "Ljava/lang/Object;", .lays Bundle.tN Bundle.tN "backtrace" "Ljava/lang/Object;", .lays X Bundle.tN "backtrace" "Ljava/lang/Object;"])))
section KX
variable {p : Program} {l : Launch} {e : Env} {R : Room} {s : State} {m₀ : MethodId} {args : Array Value} {below : List Frame} {meth : Method} {c : Code} {V : State} {locs : List Loc} {cells slots : Nat}
set_option maxHeartbeats 1000000 in
theorem k_ctorX (X : Stand p l e R s m₀ args below meth c V locs cells slots) (hexec : p.tables.exec = Jvm.exec) (htr : e.platform.stackTraces = false) {own cls Y0 : String} {names : List String} {ic ix : Nat} {rx : ByteArray}
    (x0 : decode rx 0 = .ok (.aload_n 0, 1)) (x1 : decode rx 1 = .ok (.aload_n 1, 1)) (x2 : decode rx 2 = .ok (.invokespecial ix, 3)) (x5 : decode rx 5 = .ok (.return_, 1))
    (hown : s.vm.findClass own = some m₀.cls) (hcls : Bundle.fit cls = true) (hY0 : Bundle.fit Y0 = true) (hnames : ∀ n ∈ names, Bundle.fit n = true)
    (h : ∀ a ∈ kxAtoms own ic cls ix rx Y0 names, a.before args s = true)
    (hlocs : ∀ x ∈ locs, ∀ cell, s.heap[x.base]? = some cell → cell.vm.isStatics = false)
    {a : Addr} {cX : ClassId} {kX : Class} (hfoundX : s.vm.findClass cls = some cX) (hkX : s.vm.classes[cX]? = some kX) (hcell : V.heap[a]? = some (freshCell cX kX)) (hnew : s.heap.size ≤ a)
    {msg : Value} (hmsg : msg.isRef = true)
    {g : JFrame} (hg : g.method = m₀) (hsize : g.locals.size = c.maxLocals) (hlocked : g.locked = none) (hentered : g.entered = []) {rest : List Value} (hstack : g.stack = msg :: .ref a :: .ref a :: rest)
    (hd6 : decode c.code g.pc = .ok (.invokespecial ic, 3)) (hd9 : decode c.code (g.pc + 3) = .ok (.athrow, 1)) (hout : ∀ x ∈ c.exceptionTable.toList, covers x (g.pc + 3) = false)
    (hRframes : names.length + 1 + 3 < R.frames) (hRlocals : 2 * g.monitorRoom + ((Value.ref a :: rest).map fun v => v.category).sum + (13 * (names.length + 1 + 1) + 42) ≤ R.locals) (hlocks : meth.locks = false) :
    ∃ U : State, Steps p.tables e below (V.setTop g) U ∧ U.status = .running ∧ Ended U below (.threw a) ∧ s.WarmedH U.vm ∧ s.sameButNew ({ U with vm := s.vm } : State) locs cells slots ∧
      ∃ ce, U.heap[a]? = some ce ∧ ce.vm = .none ∧ s.vm.findClass cls = some ce.cls := by
  have howns : e.platform.frameOwnsMonitors = true := by rw [X.admits.platform]
  have hfin : e.platform.finalization = false := by rw [X.admits.platform]
  have hpl : e.platform.magicAccessors = ({} : Platform).magicAccessors := by rw [X.admits.platform]
  have k : ∀ x, x ∈ kxAtoms own ic cls ix rx Y0 names → x.holds args s none s [] = true := fun x hx => h x hx
  obtain ⟨T, Z0, L, -, Y⟩ := ThrowableC.of_atoms (args := args) howns hfin hpl (fun x hx => h x (by simp [kxAtoms, hx]))
  obtain ⟨Z, M, LZ, LM, hnZ⟩ := Init0T.ofS_atoms (args := args) hpl L Y (fun x hx => h x (by simp [kxAtoms, hx]))
  obtain ⟨P1, L1, hP1m, hP1s⟩ := PassC.ofS_atoms (args := args) (s := s) hpl (X := cls) (Y := Y0) (Bundle.fit_spec hcls).1 (Bundle.fit_spec hY0).2 x0 x1 x2 x5 (fun x hx => h x (by simp [kxAtoms, hx]))
  obtain ⟨P2, Ps, hlen, L2, hL, hP2m, hlink1, hlink⟩ := Bundle.chainS (args := args) hpl hnZ names Y0 hY0 hnames (fun x hx => h x (by simp [kxAtoms, hx]))
  have hsup : P1.sup = P2.m := Option.some.inj (hP1s.symm.trans hP2m)
  have hfound : s.vm.findClass cls = some P1.m.cls := findClass_of_methodNamed hP1m
  cases Option.some.inj (hfoundX.symm.trans hfound)
  obtain ⟨c1, kX', hc1, hk, hord, -, -, hn6⟩ := Cond.instantiable_spec (k (.instantiable cls 6) (by simp [kxAtoms]))
  cases Option.some.inj (hc1.symm.trans hfound)
  cases Option.some.inj (hkX.symm.trans hk)
  have hsel : ∀ (y : MethodName) (mm : MethodId), Cond.selects cls y y ∈ kxAtoms own ic cls ix rx Y0 names → y.cls ≠ "java/lang/invoke/MethodHandle" ∧ y.cls ≠ "java/lang/invoke/VarHandle" → s.methodNamed? y = some mm → selectMethod e.platform s.vm P1.m.cls mm = .method mm := by
    intro y mm hin hne hnm
    obtain ⟨c2, r2, m2, q1, q2, q3, q4, -⟩ := Cond.selects_spec (k _ hin)
    cases Option.some.inj (q1.symm.trans hfound)
    cases Option.some.inj (q2.symm.trans (State.methodFound?_of_named hnm hne))
    cases Option.some.inj (q3.symm.trans hnm)
    rw [Launch.admits_selectMethod X.admits]; exact q4
  have hsel0 := hsel Bundle.tFill0 T.fill0 (by simp [kxAtoms]) (by decide) Y.fill0
  have hselF := hsel Bundle.tFill T.fill (by simp [kxAtoms]) (by decide) Y.fill
  obtain ⟨cellS0, hcS0, hiss⟩ := Y.statics
  obtain ⟨u0, hu0⟩ := Cond.staticRefV Y.unassigned L.unassignedStatic L.statics hcS0 hiss (k (.isRef (.static Bundle.tN "UNASSIGNED_STACK" Bundle.steD)) (by simp [kxAtoms]))
  obtain ⟨sen, hsen⟩ := Cond.staticRefV Y.sentinel L.sentinelStatic L.statics hcS0 hiss (k (.isRef (.static Bundle.tN "SUPPRESSED_SENTINEL" Bundle.listD)) (by simp [kxAtoms]))
  obtain ⟨ci198, i198, fB, hk198, hg198, ha198, hsB, -, hnB, htB, hffB⟩ := Cond.ownField (t := .object "java/lang/Object") Y.found L.cls (by decide +kernel) (k (.fieldLink Bundle.tN 198 Bundle.tN "backtrace" "Ljava/lang/Object;") (by simp [kxAtoms])) (k (.lays Bundle.tN Bundle.tN "backtrace" "Ljava/lang/Object;") (by simp [kxAtoms])) e.platform hpl
  obtain ⟨cellS, hcS', heS, -, hkeep⟩ := X.same.2.2.2.2.2 T.aS cellS0 hcS0
  have hcellS : V.heap[T.aS]? = some cellS := hcS'
  have hout' : ∀ i, (⟨T.aS, i⟩ : Loc) ∉ locs := fun i hmem => by
    have := hlocs _ hmem cellS0 hcS0
    rw [hiss] at this; cases this
  have hknownS : cellS.vm ≠ .unknown := by
    rw [heS]; intro hu
    rw [show cellS0.vm = .unknown from hu] at hiss
    cases hiss
  have hneS : T.aS ≠ a := Nat.ne_of_lt (Nat.lt_of_lt_of_le (Array.getElem?_eq_some_iff.mp hcS0).1 hnew)
  obtain ⟨iM, hffM⟩ := Y.msg
  obtain ⟨tyC, dC, hdC, hdnC⟩ := Cond.laysAt hfound hk Y.cause (k (.lays cls Bundle.tN "cause" "Ljava/lang/Throwable;") (by simp [kxAtoms]))
  obtain ⟨tyS, dS, hdS, hdnS⟩ := Cond.laysAt hfound hk Y.stack (k (.lays cls Bundle.tN "stackTrace" Bundle.steD) (by simp [kxAtoms]))
  obtain ⟨tyP, dP, hdP, hdnP⟩ := Cond.laysAt hfound hk Y.supp (k (.lays cls Bundle.tN "suppressedExceptions" Bundle.listD) (by simp [kxAtoms]))
  obtain ⟨tyM, dM, hdM, hdnM⟩ := Cond.laysAt hfound hk hffM (k (.lays cls Bundle.tN "detailMessage" "Ljava/lang/String;") (by simp [kxAtoms]))
  obtain ⟨tyB, dB, hdB, hdnB⟩ := Cond.laysAt hfound hk hffB (k (.lays cls Bundle.tN "backtrace" "Ljava/lang/Object;") (by simp [kxAtoms]))
  have bC := Cond.laysApart hdB hdC hdnB hdnC (by rw [hnB, Y.causeName]; decide)
  have bS := Cond.laysApart hdB hdS hdnB hdnS (by rw [hnB, Y.stackName]; decide)
  have bP := Cond.laysApart hdB hdP hdnB hdnP (by rw [hnB, Y.suppName]; decide)
  have hskip : SkipFacts T e.platform s (fun u => u) u0 ((preparedCellV T.toThrowableT (freshCell P1.m.cls kX) a u0 sen).withEntry V.cur) :=
    ⟨{ ci198 := ci198, i198 := i198, fBack := fB }, ⟨hk198, hg198, ha198, hsB⟩, by
      have h9 := fresh_default (c := P1.m.cls) tyB
      rw [htB] at h9
      simpa [preparedCellV, Cell.setSlot, Cell.withEntry, Array.getElem?_setIfInBounds, bC, bS, bP, bC.symm, bS.symm, bP.symm, defaultValue] using h9, fun _ _ => rfl⟩
  obtain ⟨tm, methC, cdC, kC, vm₁, hnC, -, -, -, -, -, -, -, hW₁, st1⟩ := Steps.initColdS (tb := p.tables) (e := e) (below := below) (s := s) (U := V) X.here hexec X.warmed hpl hown (t := Bundle.initS cls) rfl rfl (Bundle.fit_spec hcls).2
    (k (.methodLink own ic (Bundle.initS cls)) (by simp [kxAtoms])) (h (.instanceMethod (Bundle.initS cls)) (by simp [kxAtoms, Bundle.passSAtoms])) (bytes := rx) (maxL := 2) (h (.code (Bundle.initS cls) rx 2 none) (by simp [kxAtoms, Bundle.passSAtoms]))
    (f := g) hg (a := a) (msg := msg) (rest := .ref a :: rest) hstack hd6
  cases Option.some.inj (hnC.symm.trans hP1m)
  have X₁ := X.noted hW₁
  obtain ⟨vm₂, X₂, st2⟩ := X₁.ctorMessageOffV hexec (g := { g with stack := .ref a :: rest }) hg hsize T L Z LZ M LM (P1 :: P2 :: Ps)
    (fun P hP => by
      rcases List.mem_cons.mp hP with rfl | hP
      · exact L1
      rcases List.mem_cons.mp hP with rfl | hP
      · exact L2
      · exact hL P hP) ⟨hsup, hlink1, hlink⟩ (u0 := u0) (sen := sen) (self := a) hmsg (cell := freshCell P1.m.cls kX) (cellS := cellS)
    hcell (fun _ => by simp) (by simp) rfl rfl hsel0 hselF hcellS hneS hknownS (by rw [hkeep _ (hout' _)]; exact hu0) (by rw [hkeep _ (hout' _)]; exact hsen)
    (Takes.of_laid hk hord tyC (by rw [Y.causeType]; rfl)) (Takes.of_laid hk hord tyS (by rw [Y.stackType]; exact fits_refV_array _ u0)) (Takes.of_laid hk hord tyP (by rw [Y.suppType]; exact fits_refV_object _ sen))
    (Takes.of_laid hk hord tyM (by rw [Y.msgType]; exact fits_refV_object _ ⟨msg, hmsg⟩)) Y.objLocals hskip htr [] hd6
    (by simp only [List.length_cons, hlen]; omega) (by simp only [List.length_cons, hlen]; exact hRlocals)
  obtain ⟨hwalk, hrun, hended, hWU, hsame⟩ := X₂.athrowLeaves hexec (g := { g with stack := .ref a :: rest, pc := g.pc + 3 }) hg hlocked hentered hout (a := a) (rest := rest) rfl hd9 (hlocks := hlocks)
  have hlt : a < ((V.setVm vm₁).setVm vm₂).heap.size := (Array.getElem?_eq_some_iff.mp hcell).1
  have hU := heapAt_setCell_self (s := (V.setVm vm₁).setVm vm₂) (plainBareV T.toThrowableT (freshCell P1.m.cls kX) a u0 sen msg) hlt
  refine ⟨_, st1 _ (fun acts => ?_), hrun, hended, hWU, hsame.weaken (fun y hy hlt' => ?_) (Nat.le_refl _) (Nat.le_refl _), _, hU, rfl, hfound⟩
  · rw [doInvoke_state]
    exact st2 _ hwalk
  · rcases List.mem_append.mp hy with h1 | h1
    · exact h1
    · exfalso
      have hb : y.base = a := by
        simp only [List.mem_cons, List.not_mem_nil, or_false] at h1
        rcases h1 with rfl | rfl | rfl | rfl | rfl <;> rfl
      rw [hb] at hlt'
      exact Nat.not_lt.mpr hnew hlt'
end KX
section KY
variable {p : Program} {l : Launch} {e : Env} {R : Room} {s : State} {m : MethodId} {args : Array Value} {below : List Frame} {meth : Method} {c : Code} {T : State} {H : Heap} {locs : List Loc} {cells slots : Nat} {Q : State → Prop}
theorem k_throwX {S : Type} {res : Except String (Option Value × S)} {B : S → State → State → Prop} {cc : ByteArray} {pc : Nat} {ls : Array Slot} {rest : List Value} {own cls Y0 text : String} {names : List String} {ik is ic ix : Nat} {rx : ByteArray}
    (x0 : decode rx 0 = .ok (.aload_n 0, 1)) (x1 : decode rx 1 = .ok (.aload_n 1, 1)) (x2 : decode rx 2 = .ok (.invokespecial ix, 3)) (x5 : decode rx 5 = .ok (.return_, 1))
    (hexec : p.tables.exec = Jvm.exec) (hb : c.code = cc) (hl : l.stackTraces = false) (hown : s.vm.findClass own = some m.cls) (hcls : Bundle.fit cls = true) (hY0 : Bundle.fit Y0 = true) (hnames : ∀ n ∈ names, Bundle.fit n = true)
    (hk : (Cond.classLink own ik cls).before args s = true) (hini : (Cond.initialized cls).before args s = true) (hstr : ∃ sa, vk_R own is text sa s) (hat : ∀ w ∈ kxAtoms own ic cls ix rx Y0 names, w.before args s = true)
    (hsize : ls.size = c.maxLocals) (d0 : decode cc pc = .ok (.new ik, 3)) (d3 : decode cc (pc + 3) = .ok (.dup, 1)) (d4 : decode cc (pc + 4) = .ok (.ldc_w is, 3)) (d6 : decode cc (pc + 7) = .ok (.invokespecial ic, 3)) (d9 : decode cc (pc + 10) = .ok (.athrow, 1))
    (hout : ∀ x ∈ c.exceptionTable.toList, False) (hlocks : meth.locks = false)
    (hR : names.length + 1 + 3 < R.frames ∧ (rest.map fun v => v.category).sum + (13 * (names.length + 1 + 1) + 43) ≤ R.locals ∧ 0 + 1 ≤ R.cells ∧ 0 + 6 ≤ R.slots) (hres : res = .error cls) :
    W p l e R s m args below meth c s.heap [] 0 0 (kE below res B s) (F0 m pc ls rest) := by
  obtain ⟨sa, hstr⟩ := hstr
  intro T hT X
  have htr : e.platform.stackTraces = false := (show e.platform.stackTraces = l.stackTraces by rw [X.admits.platform]).trans hl
  have hins : (Cond.instantiable cls 6).before args s = true := hat _ (by simp [kxAtoms])
  obtain ⟨vm₁, cX, kX, hfX, hkX, -, -, X1, st1⟩ := X.newCold hexec (own := own) (C := cls) (index := ik) (n := 6) hown hk hins hini (g := F0 m pc ls rest) rfl (by rw [hb]; exact d0) hR.2.2.1 hR.2.2.2
  generalize hT1 : (T.setVm vm₁).pushCell { cls := cX, slots := kX.instanceTypes.map defaultValue, vm := .none } = T1 at X1 st1
  have hcell : T1.heap[T.heap.size]? = some (freshCell cX kX) := by rw [← hT1]; exact State.heap_pushCell_size _ _
  have hcat : (Value.ref T.heap.size).category = 1 := rfl
  have key : W p l e R s m args below meth c T1.heap [] (0 + 1) (0 + 6) (kE below res B s) (F0 m (pc + 3) ls (.ref T.heap.size :: rest)) := by
    refine lv_dup hexec hb d3 rfl ?_
    have key2 : W p l e R s m args below meth c T1.heap [] (0 + 1) (0 + 6) (kE below res B s) (F0 m (pc + 7) ls (.ref sa :: .ref T.heap.size :: .ref T.heap.size :: rest)) := by
      intro T2 hT2 X2
      obtain ⟨U, hsteps, hrun, hend, hW, hsame, ce, hce, hvm, hcl⟩ := k_ctorX X2 hexec htr x0 x1 x2 x5 (own := own) (cls := cls) (names := names) (ic := ic) hown hcls hY0 hnames hat (fun x hx => nomatch hx) hfX hkX (by rw [hT2]; exact hcell) (by rw [hT]; exact Nat.le_refl _) (msg := .ref sa) rfl
        (g := F0 m (pc + 7) ls (.ref sa :: .ref T.heap.size :: .ref T.heap.size :: rest)) rfl hsize rfl rfl (rest := rest) rfl
        (by rw [hb]; exact d6) (by rw [hb]; exact d9) (fun x hx => (hout x hx).elim) hR.1 (by have h9 := hR.2.1; simp only [List.map_cons, List.sum_cons, hcat]; show 2 * 0 + _ + _ ≤ _; omega) hlocks
      refine ⟨U, hsteps, .threw T.heap.size, hrun, hend, ?_⟩
      unfold kQ
      rw [hres]
      exact ⟨_, rfl, ce, hce, hvm, hcl, (k_same hsame).1, (k_same hsame).2, [], hW, hsame, fun z hz => nomatch hz⟩
    intro T2 hT2 X2
    obtain ⟨t, a1, b1⟩ := key2 T2 hT2 X2
    exact ⟨t, X2.ldcStringW hexec (own := own) (text := text) (index := is) (a := sa) hown hstr.1 hstr.2 (g := F0 m (pc + 4) ls (.ref T.heap.size :: .ref T.heap.size :: rest)) rfl (by rw [hb]; exact d4) t a1, b1⟩
  obtain ⟨t, a1, b1⟩ := key T1 rfl X1
  exact ⟨t, st1 _ a1, b1⟩
end KY
end
section
/-! The tables' words by their places. -/
def kTb : List Cond := lw_tbl.filter kGood
theorem k_m1 {w : Cond} (i : Nat) (h : tables_1_1[i]? = some w) (hg : kGood w = true) : w ∈ kTb := by
  have h9 : w ∈ tables_1_1 := List.mem_of_getElem? h
  exact List.mem_filter.mpr ⟨List.mem_append_right _ (show w ∈ tables_1 from List.mem_append_left _ h9), hg⟩
theorem k_m2 {w : Cond} (i : Nat) (h : tables_1_2[i]? = some w) (hg : kGood w = true) : w ∈ kTb := by
  have h9 : w ∈ tables_1_2 := List.mem_of_getElem? h
  exact List.mem_filter.mpr ⟨List.mem_append_right _ (show w ∈ tables_1 from List.mem_append_right _ (List.mem_append_left _ h9)), hg⟩
theorem k_m3 {w : Cond} (i : Nat) (h : tables_1_3[i]? = some w) (hg : kGood w = true) : w ∈ kTb := by
  have h9 : w ∈ tables_1_3 := List.mem_of_getElem? h
  exact List.mem_filter.mpr ⟨List.mem_append_right _ (show w ∈ tables_1 from List.mem_append_right _ (List.mem_append_right _ (List.mem_append_left _ h9))), hg⟩
theorem k_m4 {w : Cond} (i : Nat) (h : tables_1_4[i]? = some w) (hg : kGood w = true) : w ∈ kTb := by
  have h9 : w ∈ tables_1_4 := List.mem_of_getElem? h
  exact List.mem_filter.mpr ⟨List.mem_append_right _ (show w ∈ tables_1 from List.mem_append_right _ (List.mem_append_right _ (List.mem_append_right _ (h9)))), hg⟩
theorem k_mp {w : Cond} (i : Nat) (h : (k2_sels lw_privs)[i]? = some w) (hg : kGood w = true) : w ∈ kTb := List.mem_filter.mpr ⟨List.mem_append_left _ (List.mem_of_getElem? h), hg⟩
theorem tw_0 : Cond.initialized R_Law ∈ kTb := k_m1 0 rfl (by decide +kernel)
theorem tw_1 : Cond.initialized R_FK ∈ kTb := k_m1 1 rfl (by decide +kernel)
theorem tw_2 : Cond.initialized R_Mem ∈ kTb := k_m1 2 rfl (by decide +kernel)
theorem tw_3 : Cond.initialized R_Pro ∈ kTb := k_m1 3 rfl (by decide +kernel)
theorem tw_4 : Cond.initialized R_Pip ∈ kTb := k_m1 4 rfl (by decide +kernel)
theorem tw_5 : Cond.initialized R_Mod ∈ kTb := k_m1 5 rfl (by decide +kernel)
theorem tw_6 : Cond.initialized "java/lang/Throwable" ∈ kTb := k_m1 6 rfl (by decide +kernel)
theorem tw_7 : Cond.initialized "java/lang/Exception" ∈ kTb := k_m1 7 rfl (by decide +kernel)
theorem tw_8 : Cond.initialized "java/lang/RuntimeException" ∈ kTb := k_m1 8 rfl (by decide +kernel)
theorem tw_9 : Cond.initialized "java/lang/IllegalArgumentException" ∈ kTb := k_m1 9 rfl (by decide +kernel)
theorem tw_10 : Cond.initialized "java/lang/IllegalStateException" ∈ kTb := k_m1 10 rfl (by decide +kernel)
theorem tw_11 : Cond.initialized "java/lang/UnsupportedOperationException" ∈ kTb := k_m1 11 rfl (by decide +kernel)
theorem tw_12 : Cond.initialized "java/util/NoSuchElementException" ∈ kTb := k_m1 12 rfl (by decide +kernel)
theorem tw_13 : Cond.classLink R_Law 8 R_FK ∈ kTb := k_m1 13 rfl (by decide +kernel)
theorem tw_14 : Cond.instantiable R_FK 4 ∈ kTb := k_m1 14 rfl (by decide +kernel)
theorem tw_15 : Cond.methodLink R_Law 87 y_FK_init ∈ kTb := k_m1 15 rfl (by decide +kernel)
theorem tw_16 : Cond.instanceMethod y_FK_init ∈ kTb := k_m1 16 rfl (by decide +kernel)
theorem tw_17 : Cond.code y_FK_init b_FK_init 1 none ∈ kTb := k_m1 17 rfl (by decide +kernel)
theorem tw_18 : Cond.methodLink R_FK 1 (⟨"java/lang/Object", "<init>", "()V"⟩ : MethodName) ∈ kTb := k_m1 18 rfl (by decide +kernel)
theorem tw_19 : Cond.instanceMethod (⟨"java/lang/Object", "<init>", "()V"⟩ : MethodName) ∈ kTb := k_m1 19 rfl (by decide +kernel)
theorem tw_20 : Cond.code (⟨"java/lang/Object", "<init>", "()V"⟩ : MethodName) object_method_1_code 1 none ∈ kTb := k_m1 20 rfl (by decide +kernel)
theorem tw_21 : Cond.classLink R_FK 7 R_Mem ∈ kTb := k_m1 21 rfl (by decide +kernel)
theorem tw_22 : Cond.instantiable R_Mem 5 ∈ kTb := k_m1 22 rfl (by decide +kernel)
theorem tw_23 : Cond.methodLink R_FK 9 y_Mem_init ∈ kTb := k_m1 23 rfl (by decide +kernel)
theorem tw_24 : Cond.instanceMethod y_Mem_init ∈ kTb := k_m1 24 rfl (by decide +kernel)
theorem tw_25 : Cond.code y_Mem_init b_Mem_init 2 none ∈ kTb := k_m1 25 rfl (by decide +kernel)
theorem tw_26 : Cond.methodLink R_Mem 3 (⟨"java/lang/Object", "<init>", "()V"⟩ : MethodName) ∈ kTb := k_m1 26 rfl (by decide +kernel)
theorem tw_27 : Cond.methodLink R_Mem 27 y_Mem_setFree ∈ kTb := k_m1 27 rfl (by decide +kernel)
theorem tw_28 : Cond.instanceMethod y_Mem_setFree ∈ kTb := k_m1 28 rfl (by decide +kernel)
theorem tw_29 : Cond.selects y_Mem_setFree.cls y_Mem_setFree y_Mem_setFree ∈ kTb := k_m1 29 rfl (by decide +kernel)
theorem tw_30 : Cond.code y_Mem_setFree b_Mem_setFree 2 none ∈ kTb := k_m1 30 rfl (by decide +kernel)
theorem tw_31 : Cond.methodLink R_Mem 39 y_Mem_become ∈ kTb := k_m1 31 rfl (by decide +kernel)
theorem tw_32 : Cond.instanceMethod y_Mem_become ∈ kTb := k_m1 32 rfl (by decide +kernel)
theorem tw_33 : Cond.selects y_Mem_become.cls y_Mem_become y_Mem_become ∈ kTb := k_m1 33 rfl (by decide +kernel)
theorem tw_34 : Cond.code y_Mem_become b_Mem_become 5 none ∈ kTb := k_m1 34 rfl (by decide +kernel)
theorem tw_35 : Cond.methodLink R_Mem 31 y_Mem_clearEntry ∈ kTb := k_m1 35 rfl (by decide +kernel)
theorem tw_36 : Cond.instanceMethod y_Mem_clearEntry ∈ kTb := k_m1 36 rfl (by decide +kernel)
theorem tw_37 : Cond.selects y_Mem_clearEntry.cls y_Mem_clearEntry y_Mem_clearEntry ∈ kTb := k_m1 37 rfl (by decide +kernel)
theorem tw_38 : Cond.code y_Mem_clearEntry b_Mem_clearEntry 3 none ∈ kTb := k_m1 38 rfl (by decide +kernel)
theorem tw_39 : Cond.methodLink R_Mem 42 y_Mem_setEntry ∈ kTb := k_m1 39 rfl (by decide +kernel)
theorem tw_40 : Cond.instanceMethod y_Mem_setEntry ∈ kTb := k_m1 40 rfl (by decide +kernel)
theorem tw_41 : Cond.selects y_Mem_setEntry.cls y_Mem_setEntry y_Mem_setEntry ∈ kTb := k_m1 41 rfl (by decide +kernel)
theorem tw_42 : Cond.code y_Mem_setEntry b_Mem_setEntry 5 none ∈ kTb := k_m1 42 rfl (by decide +kernel)
theorem tw_43 : Cond.methodLink R_Mem 35 y_Mem_setWord ∈ kTb := k_m1 43 rfl (by decide +kernel)
theorem tw_44 : Cond.instanceMethod y_Mem_setWord ∈ kTb := k_m1 44 rfl (by decide +kernel)
theorem tw_45 : Cond.selects y_Mem_setWord.cls y_Mem_setWord y_Mem_setWord ∈ kTb := k_m1 45 rfl (by decide +kernel)
theorem tw_46 : Cond.code y_Mem_setWord b_Mem_setWord 4 none ∈ kTb := k_m1 46 rfl (by decide +kernel)
theorem tw_47 : Cond.fieldLink R_Mem 9 R_Mem "kinds" "[I" ∈ kTb := k_m1 47 rfl (by decide +kernel)
theorem tw_48 : Cond.fieldLink R_Mem 15 R_Mem "owners" "[I" ∈ kTb := k_m1 48 rfl (by decide +kernel)
theorem tw_49 : Cond.fieldLink R_Mem 18 R_Mem "entryPages" "[I" ∈ kTb := k_m1 49 rfl (by decide +kernel)
theorem tw_50 : Cond.fieldLink R_Mem 21 R_Mem "entryRights" "[I" ∈ kTb := k_m1 50 rfl (by decide +kernel)
theorem tw_51 : Cond.fieldLink R_Mem 24 R_Mem "words" "[I" ∈ kTb := k_m1 51 rfl (by decide +kernel)
theorem tw_52 : Cond.laysFinal R_Mem R_Mem "kinds" "[I" ∈ kTb := k_m1 52 rfl (by decide +kernel)
theorem tw_53 : Cond.soleField R_Mem "kinds" ∈ kTb := k_m1 53 rfl (by decide +kernel)
theorem tw_54 : Cond.laysFinal R_Mem R_Mem "owners" "[I" ∈ kTb := k_m1 54 rfl (by decide +kernel)
theorem tw_55 : Cond.soleField R_Mem "owners" ∈ kTb := k_m1 55 rfl (by decide +kernel)
theorem tw_56 : Cond.laysFinal R_Mem R_Mem "entryPages" "[I" ∈ kTb := k_m1 56 rfl (by decide +kernel)
theorem tw_57 : Cond.soleField R_Mem "entryPages" ∈ kTb := k_m1 57 rfl (by decide +kernel)
theorem tw_58 : Cond.laysFinal R_Mem R_Mem "entryRights" "[I" ∈ kTb := k_m1 58 rfl (by decide +kernel)
theorem tw_59 : Cond.soleField R_Mem "entryRights" ∈ kTb := k_m1 59 rfl (by decide +kernel)
theorem tw_60 : Cond.laysFinal R_Mem R_Mem "words" "[I" ∈ kTb := k_m1 60 rfl (by decide +kernel)
theorem tw_61 : Cond.soleField R_Mem "words" ∈ kTb := k_m1 61 rfl (by decide +kernel)
theorem tw_62 : Cond.superclass R_Mem "java/lang/Object" ∈ kTb := k_m1 62 rfl (by decide +kernel)
theorem tw_63 : Cond.arrayClass Jvm.ClassFile.FieldType.int ∈ kTb := k_m1 63 rfl (by decide +kernel)
theorem tw_64 : Cond.classLink R_FK 16 R_Pro ∈ kTb := k_m1 64 rfl (by decide +kernel)
theorem tw_65 : Cond.instantiable R_Pro 6 ∈ kTb := k_m1 65 rfl (by decide +kernel)
theorem tw_66 : Cond.methodLink R_FK 18 y_Pro_init ∈ kTb := k_m1 66 rfl (by decide +kernel)
theorem tw_67 : Cond.instanceMethod y_Pro_init ∈ kTb := k_m1 67 rfl (by decide +kernel)
theorem tw_68 : Cond.code y_Pro_init b_Pro_init 2 none ∈ kTb := k_m1 68 rfl (by decide +kernel)
theorem tw_69 : Cond.methodLink R_Pro 3 (⟨"java/lang/Object", "<init>", "()V"⟩ : MethodName) ∈ kTb := k_m1 69 rfl (by decide +kernel)
theorem tw_70 : Cond.methodLink R_Pro 30 y_Pro_end ∈ kTb := k_m1 70 rfl (by decide +kernel)
theorem tw_71 : Cond.instanceMethod y_Pro_end ∈ kTb := k_m1 71 rfl (by decide +kernel)
theorem tw_72 : Cond.selects y_Pro_end.cls y_Pro_end y_Pro_end ∈ kTb := k_m1 72 rfl (by decide +kernel)
theorem tw_73 : Cond.code y_Pro_end b_Pro_end 2 none ∈ kTb := k_m1 73 rfl (by decide +kernel)
theorem tw_74 : Cond.methodLink R_Pro 38 y_Pro_begin ∈ kTb := k_m1 74 rfl (by decide +kernel)
theorem tw_75 : Cond.instanceMethod y_Pro_begin ∈ kTb := k_m1 75 rfl (by decide +kernel)
theorem tw_76 : Cond.selects y_Pro_begin.cls y_Pro_begin y_Pro_begin ∈ kTb := k_m1 76 rfl (by decide +kernel)
theorem tw_77 : Cond.code y_Pro_begin b_Pro_begin 6 none ∈ kTb := k_m1 77 rfl (by decide +kernel)
theorem tw_78 : Cond.methodLink R_Pro 34 y_Pro_setPipe ∈ kTb := k_m1 78 rfl (by decide +kernel)
theorem tw_79 : Cond.instanceMethod y_Pro_setPipe ∈ kTb := k_m1 79 rfl (by decide +kernel)
theorem tw_80 : Cond.selects y_Pro_setPipe.cls y_Pro_setPipe y_Pro_setPipe ∈ kTb := k_m1 80 rfl (by decide +kernel)
theorem tw_81 : Cond.code y_Pro_setPipe b_Pro_setPipe 4 none ∈ kTb := k_m1 81 rfl (by decide +kernel)
theorem tw_82 : Cond.fieldLink R_Pro 9 R_Pro "states" "[I" ∈ kTb := k_m1 82 rfl (by decide +kernel)
theorem tw_83 : Cond.fieldLink R_Pro 15 R_Pro "parents" "[I" ∈ kTb := k_m1 83 rfl (by decide +kernel)
theorem tw_84 : Cond.fieldLink R_Pro 18 R_Pro "roots" "[I" ∈ kTb := k_m1 84 rfl (by decide +kernel)
theorem tw_85 : Cond.fieldLink R_Pro 21 R_Pro "descriptors" "[I" ∈ kTb := k_m1 85 rfl (by decide +kernel)
theorem tw_86 : Cond.fieldLink R_Pro 24 R_Pro "awaitedTables" "[I" ∈ kTb := k_m1 86 rfl (by decide +kernel)
theorem tw_87 : Cond.fieldLink R_Pro 27 R_Pro "awaitedEntries" "[I" ∈ kTb := k_m1 87 rfl (by decide +kernel)
theorem tw_88 : Cond.laysFinal R_Pro R_Pro "states" "[I" ∈ kTb := k_m1 88 rfl (by decide +kernel)
theorem tw_89 : Cond.soleField R_Pro "states" ∈ kTb := k_m1 89 rfl (by decide +kernel)
theorem tw_90 : Cond.laysFinal R_Pro R_Pro "parents" "[I" ∈ kTb := k_m1 90 rfl (by decide +kernel)
theorem tw_91 : Cond.soleField R_Pro "parents" ∈ kTb := k_m1 91 rfl (by decide +kernel)
theorem tw_92 : Cond.laysFinal R_Pro R_Pro "roots" "[I" ∈ kTb := k_m1 92 rfl (by decide +kernel)
theorem tw_93 : Cond.soleField R_Pro "roots" ∈ kTb := k_m1 93 rfl (by decide +kernel)
theorem tw_94 : Cond.laysFinal R_Pro R_Pro "descriptors" "[I" ∈ kTb := k_m1 94 rfl (by decide +kernel)
theorem tw_95 : Cond.soleField R_Pro "descriptors" ∈ kTb := k_m1 95 rfl (by decide +kernel)
theorem tw_96 : Cond.laysFinal R_Pro R_Pro "awaitedTables" "[I" ∈ kTb := k_m1 96 rfl (by decide +kernel)
theorem tw_97 : Cond.soleField R_Pro "awaitedTables" ∈ kTb := k_m1 97 rfl (by decide +kernel)
theorem tw_98 : Cond.laysFinal R_Pro R_Pro "awaitedEntries" "[I" ∈ kTb := k_m1 98 rfl (by decide +kernel)
theorem tw_99 : Cond.soleField R_Pro "awaitedEntries" ∈ kTb := k_m1 99 rfl (by decide +kernel)
theorem tw_100 : Cond.superclass R_Pro "java/lang/Object" ∈ kTb := k_m1 100 rfl (by decide +kernel)
theorem tw_101 : Cond.classLink R_FK 23 R_Pip ∈ kTb := k_m1 101 rfl (by decide +kernel)
theorem tw_102 : Cond.instantiable R_Pip 2 ∈ kTb := k_m1 102 rfl (by decide +kernel)
theorem tw_104 : Cond.instanceMethod y_Pip_init ∈ kTb := k_m1 104 rfl (by decide +kernel)
theorem tw_105 : Cond.code y_Pip_init b_Pip_init 1 none ∈ kTb := k_m1 105 rfl (by decide +kernel)
theorem tw_106 : Cond.methodLink R_Pip 3 (⟨"java/lang/Object", "<init>", "()V"⟩ : MethodName) ∈ kTb := k_m1 106 rfl (by decide +kernel)
theorem tw_107 : Cond.fieldLink R_Pip 9 R_Pip "sizes" "[I" ∈ kTb := k_m1 107 rfl (by decide +kernel)
theorem tw_108 : Cond.fieldLink R_Pip 15 R_Pip "ints" "[I" ∈ kTb := k_m1 108 rfl (by decide +kernel)
theorem tw_109 : Cond.laysFinal R_Pip R_Pip "sizes" "[I" ∈ kTb := k_m1 109 rfl (by decide +kernel)
theorem tw_110 : Cond.soleField R_Pip "sizes" ∈ kTb := k_m1 110 rfl (by decide +kernel)
theorem tw_111 : Cond.laysFinal R_Pip R_Pip "ints" "[I" ∈ kTb := k_m1 111 rfl (by decide +kernel)
theorem tw_112 : Cond.soleField R_Pip "ints" ∈ kTb := k_m1 112 rfl (by decide +kernel)
theorem tw_113 : Cond.superclass R_Pip "java/lang/Object" ∈ kTb := k_m1 113 rfl (by decide +kernel)
theorem tw_114 : Cond.methodLink R_FK 34 y_Mem_become ∈ kTb := k_m1 114 rfl (by decide +kernel)
theorem tw_115 : Cond.methodLink R_FK 38 y_Pro_begin ∈ kTb := k_m1 115 rfl (by decide +kernel)
theorem tw_116 : Cond.fieldLink R_FK 10 R_FK "memory" "LFiniteKernel$Memory;" ∈ kTb := k_m1 116 rfl (by decide +kernel)
theorem tw_117 : Cond.fieldLink R_FK 19 R_FK "processes" "LFiniteKernel$Processes;" ∈ kTb := k_m1 117 rfl (by decide +kernel)
theorem tw_118 : Cond.fieldLink R_FK 26 R_FK "pipes" "LFiniteKernel$Pipes;" ∈ kTb := k_m1 118 rfl (by decide +kernel)
theorem tw_119 : Cond.fieldLink R_FK 30 R_FK "caller" "I" ∈ kTb := k_m1 119 rfl (by decide +kernel)
theorem tw_120 : Cond.laysFinal R_FK R_FK "memory" "LFiniteKernel$Memory;" ∈ kTb := k_m1 120 rfl (by decide +kernel)
theorem tw_121 : Cond.soleField R_FK "memory" ∈ kTb := k_m1 121 rfl (by decide +kernel)
theorem tw_122 : Cond.laysFinal R_FK R_FK "processes" "LFiniteKernel$Processes;" ∈ kTb := k_m1 122 rfl (by decide +kernel)
theorem tw_123 : Cond.soleField R_FK "processes" ∈ kTb := k_m1 123 rfl (by decide +kernel)
theorem tw_124 : Cond.laysFinal R_FK R_FK "pipes" "LFiniteKernel$Pipes;" ∈ kTb := k_m1 124 rfl (by decide +kernel)
theorem tw_125 : Cond.soleField R_FK "pipes" ∈ kTb := k_m1 125 rfl (by decide +kernel)
theorem tw_126 : Cond.lays R_FK R_FK "caller" "I" ∈ kTb := k_m1 126 rfl (by decide +kernel)
theorem tw_127 : Cond.soleField R_FK "caller" ∈ kTb := k_m1 127 rfl (by decide +kernel)
theorem tw_128 : Cond.superclass R_FK "java/lang/Object" ∈ kTb := k_m1 128 rfl (by decide +kernel)
theorem tw_129 : Cond.methodLink R_Law 91 y_Law_spawn ∈ kTb := k_m1 129 rfl (by decide +kernel)
theorem tw_130 : Cond.static y_Law_spawn ∈ kTb := k_m1 130 rfl (by decide +kernel)
theorem tw_131 : Cond.codeWith y_Law_spawn b_Law_spawn 5 (some .int) [(0, 10, 13, 13), (0, 10, 17, 15)] ∈ kTb := k_m1 131 rfl (by decide +kernel)
theorem tw_132 : Cond.classLink R_Law 13 "java/lang/IllegalArgumentException" ∈ kTb := k_m1 132 rfl (by decide +kernel)
theorem tw_133 : Cond.classLink R_Law 15 "java/lang/IllegalStateException" ∈ kTb := k_m1 133 rfl (by decide +kernel)
theorem tw_134 : Cond.methodLink R_Law 7 y_FK_spawn ∈ kTb := k_m1 134 rfl (by decide +kernel)
theorem tw_135 : Cond.instanceMethod y_FK_spawn ∈ kTb := k_m1 135 rfl (by decide +kernel)
theorem tw_136 : Cond.selects y_FK_spawn.cls y_FK_spawn y_FK_spawn ∈ kTb := k_m1 136 rfl (by decide +kernel)
theorem tw_137 : Cond.code y_FK_spawn b_FK_spawn 3 (some .int) ∈ kTb := k_m1 137 rfl (by decide +kernel)
theorem tw_138 : Cond.methodLink R_FK 42 y_FK_checkProcess ∈ kTb := k_m1 138 rfl (by decide +kernel)
theorem tw_139 : Cond.static y_FK_checkProcess ∈ kTb := k_m1 139 rfl (by decide +kernel)
theorem tw_140 : Cond.code y_FK_checkProcess b_FK_checkProcess 1 none ∈ kTb := k_m1 140 rfl (by decide +kernel)
theorem tw_141 : Cond.methodLink R_FK 237 y_FK_checkWithin ∈ kTb := k_m1 141 rfl (by decide +kernel)
theorem tw_142 : Cond.static y_FK_checkWithin ∈ kTb := k_m1 142 rfl (by decide +kernel)
theorem tw_143 : Cond.code y_FK_checkWithin b_FK_checkWithin 3 none ∈ kTb := k_m1 143 rfl (by decide +kernel)
theorem tw_144 : Cond.classLink R_FK 259 "java/lang/IllegalArgumentException" ∈ kTb := k_m1 144 rfl (by decide +kernel)
theorem tw_145 : Cond.instantiable "java/lang/IllegalArgumentException" 6 ∈ kTb := k_m1 145 rfl (by decide +kernel)
theorem tw_146 : Cond.castable "java/lang/IllegalArgumentException" "java/lang/IllegalArgumentException" ∈ kTb := k_m1 146 rfl (by decide +kernel)
theorem tw_147 : Cond.declares (⟨"java/lang/RuntimeException", "<init>", "()V"⟩ : MethodName) ∈ kTb := k_m1 147 rfl (by decide +kernel)
theorem tw_148 : Cond.declares (⟨"java/lang/RuntimeException", "<init>", "(Ljava/lang/String;)V"⟩ : MethodName) ∈ kTb := k_m1 148 rfl (by decide +kernel)
theorem tw_149 : Cond.declares (⟨"java/lang/Exception", "<init>", "()V"⟩ : MethodName) ∈ kTb := k_m1 149 rfl (by decide +kernel)
theorem tw_150 : Cond.declares (⟨"java/lang/Exception", "<init>", "(Ljava/lang/String;)V"⟩ : MethodName) ∈ kTb := k_m1 150 rfl (by decide +kernel)
theorem tw_151 : Cond.declares (⟨"java/lang/Throwable", "<init>", "()V"⟩ : MethodName) ∈ kTb := k_m1 151 rfl (by decide +kernel)
theorem tw_152 : Cond.declares (⟨"java/lang/Throwable", "<init>", "(Ljava/lang/String;)V"⟩ : MethodName) ∈ kTb := k_m1 152 rfl (by decide +kernel)
theorem tw_153 : Cond.selects "java/lang/IllegalArgumentException" (⟨"java/lang/Throwable", "fillInStackTrace", "(I)Ljava/lang/Throwable;"⟩ : MethodName) (⟨"java/lang/Throwable", "fillInStackTrace", "(I)Ljava/lang/Throwable;"⟩ : MethodName) ∈ kTb := k_m1 153 rfl (by decide +kernel)
theorem tw_154 : Cond.selects "java/lang/IllegalArgumentException" (⟨"java/lang/Throwable", "fillInStackTrace", "()Ljava/lang/Throwable;"⟩ : MethodName) (⟨"java/lang/Throwable", "fillInStackTrace", "()Ljava/lang/Throwable;"⟩ : MethodName) ∈ kTb := k_m1 154 rfl (by decide +kernel)
theorem tw_155 : Cond.lays "java/lang/IllegalArgumentException" "java/lang/Throwable" "cause" "Ljava/lang/Throwable;" ∈ kTb := k_m1 155 rfl (by decide +kernel)
theorem tw_156 : Cond.lays "java/lang/Throwable" "java/lang/Throwable" "cause" "Ljava/lang/Throwable;" ∈ kTb := k_m1 156 rfl (by decide +kernel)
theorem tw_157 : Cond.lays "java/lang/IllegalArgumentException" "java/lang/Throwable" "stackTrace" "[Ljava/lang/StackTraceElement;" ∈ kTb := k_m1 157 rfl (by decide +kernel)
theorem tw_158 : Cond.lays "java/lang/Throwable" "java/lang/Throwable" "stackTrace" "[Ljava/lang/StackTraceElement;" ∈ kTb := k_m1 158 rfl (by decide +kernel)
theorem tw_159 : Cond.lays "java/lang/IllegalArgumentException" "java/lang/Throwable" "suppressedExceptions" "Ljava/util/List;" ∈ kTb := k_m1 159 rfl (by decide +kernel)
theorem tw_160 : Cond.lays "java/lang/Throwable" "java/lang/Throwable" "suppressedExceptions" "Ljava/util/List;" ∈ kTb := k_m1 160 rfl (by decide +kernel)
theorem tw_161 : Cond.lays "java/lang/IllegalArgumentException" "java/lang/Throwable" "detailMessage" "Ljava/lang/String;" ∈ kTb := k_m1 161 rfl (by decide +kernel)
theorem tw_162 : Cond.lays "java/lang/Throwable" "java/lang/Throwable" "detailMessage" "Ljava/lang/String;" ∈ kTb := k_m1 162 rfl (by decide +kernel)
theorem tw_163 : Cond.lays "java/lang/IllegalArgumentException" "java/lang/Throwable" "backtrace" "Ljava/lang/Object;" ∈ kTb := k_m1 163 rfl (by decide +kernel)
theorem tw_164 : Cond.lays "java/lang/Throwable" "java/lang/Throwable" "backtrace" "Ljava/lang/Object;" ∈ kTb := k_m1 164 rfl (by decide +kernel)
theorem tw_165 : Cond.fieldLink "java/lang/Throwable" 198 "java/lang/Throwable" "backtrace" "Ljava/lang/Object;" ∈ kTb := k_m1 165 rfl (by decide +kernel)
theorem tw_166 : Cond.superclass "java/lang/Throwable" "java/lang/Object" ∈ kTb := k_m1 166 rfl (by decide +kernel)
theorem tw_167 : Cond.instanceMethod (⟨"java/lang/Throwable", "<init>", "()V"⟩ : MethodName) ∈ kTb := k_m1 167 rfl (by decide +kernel)
theorem tw_168 : Cond.code (⟨"java/lang/Throwable", "<init>", "()V"⟩ : MethodName) prog_12_method_1_code 1 none ∈ kTb := k_m1 168 rfl (by decide +kernel)
theorem tw_169 : Cond.methodLink "java/lang/Throwable" 1 (⟨"java/lang/Object", "<init>", "()V"⟩ : MethodName) ∈ kTb := k_m1 169 rfl (by decide +kernel)
theorem tw_170 : Cond.fieldLink "java/lang/Throwable" 13 "java/lang/Throwable" "UNASSIGNED_STACK" "[Ljava/lang/StackTraceElement;" ∈ kTb := k_m1 170 rfl (by decide +kernel)
theorem tw_172 : Cond.fieldLink "java/lang/Throwable" 20 "java/lang/Throwable" "SUPPRESSED_SENTINEL" "Ljava/util/List;" ∈ kTb := k_m1 172 rfl (by decide +kernel)
theorem tw_174 : Cond.methodLink "java/lang/Throwable" 27 (⟨"java/lang/Throwable", "fillInStackTrace", "()Ljava/lang/Throwable;"⟩ : MethodName) ∈ kTb := k_m1 174 rfl (by decide +kernel)
theorem tw_175 : Cond.instanceMethod (⟨"java/lang/Throwable", "fillInStackTrace", "()Ljava/lang/Throwable;"⟩ : MethodName) ∈ kTb := k_m1 175 rfl (by decide +kernel)
theorem tw_176 : Cond.sameMethod "java/lang/Throwable" "java/lang/Throwable" "fillInStackTrace" "()Ljava/lang/Throwable;" ∈ kTb := k_m1 176 rfl (by decide +kernel)
theorem tw_177 : Cond.selects "java/lang/IllegalStateException" (⟨"java/lang/Throwable", "fillInStackTrace", "()Ljava/lang/Throwable;"⟩ : MethodName) (⟨"java/lang/Throwable", "fillInStackTrace", "()Ljava/lang/Throwable;"⟩ : MethodName) ∈ kTb := k_m1 177 rfl (by decide +kernel)
theorem tw_178 : Cond.selects "java/lang/UnsupportedOperationException" (⟨"java/lang/Throwable", "fillInStackTrace", "()Ljava/lang/Throwable;"⟩ : MethodName) (⟨"java/lang/Throwable", "fillInStackTrace", "()Ljava/lang/Throwable;"⟩ : MethodName) ∈ kTb := k_m1 178 rfl (by decide +kernel)
theorem tw_179 : Cond.selects "java/util/NoSuchElementException" (⟨"java/lang/Throwable", "fillInStackTrace", "()Ljava/lang/Throwable;"⟩ : MethodName) (⟨"java/lang/Throwable", "fillInStackTrace", "()Ljava/lang/Throwable;"⟩ : MethodName) ∈ kTb := k_m1 179 rfl (by decide +kernel)
theorem tw_180 : Cond.codeSync (⟨"java/lang/Throwable", "fillInStackTrace", "()Ljava/lang/Throwable;"⟩ : MethodName) prog_12_method_18_code 1 (Option.some (Jvm.ClassFile.FieldType.object "java/lang/Throwable")) ∈ kTb := k_m1 180 rfl (by decide +kernel)
theorem tw_181 : Cond.methodLink "java/lang/Throwable" 202 (⟨"java/lang/Throwable", "fillInStackTrace", "(I)Ljava/lang/Throwable;"⟩ : MethodName) ∈ kTb := k_m1 181 rfl (by decide +kernel)
theorem tw_182 : Cond.privateMethod (⟨"java/lang/Throwable", "fillInStackTrace", "(I)Ljava/lang/Throwable;"⟩ : MethodName) ∈ kTb := k_m1 182 rfl (by decide +kernel)
theorem tw_183 : Cond.instanceMethod (⟨"java/lang/Throwable", "fillInStackTrace", "(I)Ljava/lang/Throwable;"⟩ : MethodName) ∈ kTb := k_m1 183 rfl (by decide +kernel)
theorem tw_184 : Cond.instantiable "java/lang/Throwable" 6 ∈ kTb := k_m1 184 rfl (by decide +kernel)
theorem tw_185 : Cond.native (⟨"java/lang/Throwable", "fillInStackTrace", "(I)Ljava/lang/Throwable;"⟩ : MethodName) ∈ kTb := k_m1 185 rfl (by decide +kernel)
theorem tw_187 : Cond.methodLink R_FK 263 (⟨"java/lang/IllegalArgumentException", "<init>", "(Ljava/lang/String;)V"⟩ : MethodName) ∈ kTb := k_m1 187 rfl (by decide +kernel)
theorem tw_188 : Cond.instanceMethod (⟨"java/lang/IllegalArgumentException", "<init>", "(Ljava/lang/String;)V"⟩ : MethodName) ∈ kTb := k_m1 188 rfl (by decide +kernel)
theorem tw_189 : Cond.code (⟨"java/lang/IllegalArgumentException", "<init>", "(Ljava/lang/String;)V"⟩ : MethodName) prog_8_method_2_code 2 none ∈ kTb := k_m1 189 rfl (by decide +kernel)
theorem tw_190 : Cond.methodLink "java/lang/IllegalArgumentException" 7 (⟨"java/lang/RuntimeException", "<init>", "(Ljava/lang/String;)V"⟩ : MethodName) ∈ kTb := k_m1 190 rfl (by decide +kernel)
theorem tw_191 : Cond.instanceMethod (⟨"java/lang/RuntimeException", "<init>", "(Ljava/lang/String;)V"⟩ : MethodName) ∈ kTb := k_m1 191 rfl (by decide +kernel)
theorem tw_192 : Cond.code (⟨"java/lang/RuntimeException", "<init>", "(Ljava/lang/String;)V"⟩ : MethodName) prog_10_method_2_code 2 none ∈ kTb := k_m1 192 rfl (by decide +kernel)
theorem tw_193 : Cond.methodLink "java/lang/RuntimeException" 7 (⟨"java/lang/Exception", "<init>", "(Ljava/lang/String;)V"⟩ : MethodName) ∈ kTb := k_m1 193 rfl (by decide +kernel)
theorem tw_194 : Cond.instanceMethod (⟨"java/lang/Exception", "<init>", "(Ljava/lang/String;)V"⟩ : MethodName) ∈ kTb := k_m1 194 rfl (by decide +kernel)
theorem tw_195 : Cond.code (⟨"java/lang/Exception", "<init>", "(Ljava/lang/String;)V"⟩ : MethodName) prog_7_method_2_code 2 none ∈ kTb := k_m1 195 rfl (by decide +kernel)
theorem tw_196 : Cond.methodLink "java/lang/Exception" 7 (⟨"java/lang/Throwable", "<init>", "(Ljava/lang/String;)V"⟩ : MethodName) ∈ kTb := k_m1 196 rfl (by decide +kernel)
theorem tw_197 : Cond.instanceMethod (⟨"java/lang/Throwable", "<init>", "(Ljava/lang/String;)V"⟩ : MethodName) ∈ kTb := k_m1 197 rfl (by decide +kernel)
theorem tw_198 : Cond.code (⟨"java/lang/Throwable", "<init>", "(Ljava/lang/String;)V"⟩ : MethodName) prog_12_method_2_code 2 none ∈ kTb := k_m1 198 rfl (by decide +kernel)
theorem tw_200 : Cond.fieldLink "java/lang/Throwable" 31 "java/lang/Throwable" "detailMessage" "Ljava/lang/String;" ∈ kTb := k_m1 200 rfl (by decide +kernel)
theorem tw_201 : Cond.fieldLink "java/lang/Throwable" 7 "java/lang/Throwable" "cause" "Ljava/lang/Throwable;" ∈ kTb := k_m1 201 rfl (by decide +kernel)
theorem tw_202 : Cond.fieldLink "java/lang/Throwable" 17 "java/lang/Throwable" "stackTrace" "[Ljava/lang/StackTraceElement;" ∈ kTb := k_m1 202 rfl (by decide +kernel)
theorem tw_203 : Cond.fieldLink "java/lang/Throwable" 24 "java/lang/Throwable" "suppressedExceptions" "Ljava/util/List;" ∈ kTb := k_m1 203 rfl (by decide +kernel)
theorem tw_204 : Cond.soleField "java/lang/Throwable" "backtrace" ∈ kTb := k_m1 204 rfl (by decide +kernel)
theorem tw_205 : Cond.soleField "java/lang/Throwable" "detailMessage" ∈ kTb := k_m1 205 rfl (by decide +kernel)
theorem tw_206 : Cond.soleField "java/lang/Throwable" "cause" ∈ kTb := k_m1 206 rfl (by decide +kernel)
theorem tw_207 : Cond.soleField "java/lang/Throwable" "stackTrace" ∈ kTb := k_m1 207 rfl (by decide +kernel)
theorem tw_208 : Cond.lays "java/lang/IllegalArgumentException" "java/lang/Throwable" "depth" "I" ∈ kTb := k_m1 208 rfl (by decide +kernel)
theorem tw_209 : Cond.soleField "java/lang/Throwable" "depth" ∈ kTb := k_m1 209 rfl (by decide +kernel)
theorem tw_210 : Cond.soleField "java/lang/Throwable" "suppressedExceptions" ∈ kTb := k_m1 210 rfl (by decide +kernel)
theorem tw_211 : Cond.superclass "java/lang/IllegalArgumentException" "java/lang/RuntimeException" ∈ kTb := k_m1 211 rfl (by decide +kernel)
theorem tw_212 : Cond.arrayClass Jvm.ClassFile.FieldType.byte ∈ kTb := k_m1 212 rfl (by decide +kernel)
theorem tw_213 : Cond.methodLink R_FK 46 y_FK_checkPage ∈ kTb := k_m1 213 rfl (by decide +kernel)
theorem tw_214 : Cond.static y_FK_checkPage ∈ kTb := k_m1 214 rfl (by decide +kernel)
theorem tw_215 : Cond.code y_FK_checkPage b_FK_checkPage 1 none ∈ kTb := k_m1 215 rfl (by decide +kernel)
theorem tw_216 : Cond.methodLink R_FK 49 y_Pro_stateOf ∈ kTb := k_m1 216 rfl (by decide +kernel)
theorem tw_217 : Cond.instanceMethod y_Pro_stateOf ∈ kTb := k_m1 217 rfl (by decide +kernel)
theorem tw_218 : Cond.selects y_Pro_stateOf.cls y_Pro_stateOf y_Pro_stateOf ∈ kTb := k_m1 218 rfl (by decide +kernel)
theorem tw_219 : Cond.code y_Pro_stateOf b_Pro_stateOf 2 (some .int) ∈ kTb := k_m1 219 rfl (by decide +kernel)
theorem tw_220 : Cond.classLink R_FK 53 "java/lang/IllegalStateException" ∈ kTb := k_m1 220 rfl (by decide +kernel)
theorem tw_221 : Cond.instantiable "java/lang/IllegalStateException" 6 ∈ kTb := k_m1 221 rfl (by decide +kernel)
theorem tw_222 : Cond.castable "java/lang/IllegalStateException" "java/lang/IllegalStateException" ∈ kTb := k_m1 222 rfl (by decide +kernel)
theorem tw_223 : Cond.selects "java/lang/IllegalStateException" (⟨"java/lang/Throwable", "fillInStackTrace", "(I)Ljava/lang/Throwable;"⟩ : MethodName) (⟨"java/lang/Throwable", "fillInStackTrace", "(I)Ljava/lang/Throwable;"⟩ : MethodName) ∈ kTb := k_m1 223 rfl (by decide +kernel)
theorem tw_224 : Cond.lays "java/lang/IllegalStateException" "java/lang/Throwable" "cause" "Ljava/lang/Throwable;" ∈ kTb := k_m1 224 rfl (by decide +kernel)
theorem tw_225 : Cond.lays "java/lang/IllegalStateException" "java/lang/Throwable" "stackTrace" "[Ljava/lang/StackTraceElement;" ∈ kTb := k_m1 225 rfl (by decide +kernel)
theorem tw_226 : Cond.lays "java/lang/IllegalStateException" "java/lang/Throwable" "suppressedExceptions" "Ljava/util/List;" ∈ kTb := k_m1 226 rfl (by decide +kernel)
theorem tw_227 : Cond.lays "java/lang/IllegalStateException" "java/lang/Throwable" "detailMessage" "Ljava/lang/String;" ∈ kTb := k_m1 227 rfl (by decide +kernel)
theorem tw_228 : Cond.lays "java/lang/IllegalStateException" "java/lang/Throwable" "backtrace" "Ljava/lang/Object;" ∈ kTb := k_m1 228 rfl (by decide +kernel)
theorem tw_230 : Cond.methodLink R_FK 57 (⟨"java/lang/IllegalStateException", "<init>", "(Ljava/lang/String;)V"⟩ : MethodName) ∈ kTb := k_m1 230 rfl (by decide +kernel)
theorem tw_231 : Cond.instanceMethod (⟨"java/lang/IllegalStateException", "<init>", "(Ljava/lang/String;)V"⟩ : MethodName) ∈ kTb := k_m1 231 rfl (by decide +kernel)
theorem tw_232 : Cond.code (⟨"java/lang/IllegalStateException", "<init>", "(Ljava/lang/String;)V"⟩ : MethodName) prog_9_method_2_code 2 none ∈ kTb := k_m1 232 rfl (by decide +kernel)
theorem tw_233 : Cond.methodLink "java/lang/IllegalStateException" 7 (⟨"java/lang/RuntimeException", "<init>", "(Ljava/lang/String;)V"⟩ : MethodName) ∈ kTb := k_m1 233 rfl (by decide +kernel)
theorem tw_234 : Cond.lays "java/lang/IllegalStateException" "java/lang/Throwable" "depth" "I" ∈ kTb := k_m1 234 rfl (by decide +kernel)
theorem tw_235 : Cond.superclass "java/lang/IllegalStateException" "java/lang/RuntimeException" ∈ kTb := k_m1 235 rfl (by decide +kernel)
theorem tw_236 : Cond.methodLink R_FK 60 y_FK_checkPageIsFree ∈ kTb := k_m1 236 rfl (by decide +kernel)
theorem tw_237 : Cond.privateMethod y_FK_checkPageIsFree ∈ kTb := k_m1 237 rfl (by decide +kernel)
theorem tw_238 : Cond.instanceMethod y_FK_checkPageIsFree ∈ kTb := k_m1 238 rfl (by decide +kernel)
theorem tw_239 : Cond.code y_FK_checkPageIsFree b_FK_checkPageIsFree 2 none ∈ kTb := k_m1 239 rfl (by decide +kernel)
theorem tw_240 : Cond.methodLink R_FK 246 y_Mem_kindOf ∈ kTb := k_m2 0 rfl (by decide +kernel)
theorem tw_241 : Cond.instanceMethod y_Mem_kindOf ∈ kTb := k_m2 1 rfl (by decide +kernel)
theorem tw_242 : Cond.selects y_Mem_kindOf.cls y_Mem_kindOf y_Mem_kindOf ∈ kTb := k_m2 2 rfl (by decide +kernel)
theorem tw_243 : Cond.code y_Mem_kindOf b_Mem_kindOf 2 (some .int) ∈ kTb := k_m2 3 rfl (by decide +kernel)
theorem tw_245 : Cond.methodLink R_Law 101 y_Law_table ∈ kTb := k_m2 5 rfl (by decide +kernel)
theorem tw_246 : Cond.static y_Law_table ∈ kTb := k_m2 6 rfl (by decide +kernel)
theorem tw_247 : Cond.codeWith y_Law_table b_Law_table 7 (some .int) [(0, 14, 17, 13), (0, 14, 21, 21), (0, 14, 25, 15)] ∈ kTb := k_m2 7 rfl (by decide +kernel)
theorem tw_248 : Cond.classLink R_Law 21 "java/lang/UnsupportedOperationException" ∈ kTb := k_m2 8 rfl (by decide +kernel)
theorem tw_249 : Cond.methodLink R_Law 17 y_FK_table ∈ kTb := k_m2 9 rfl (by decide +kernel)
theorem tw_250 : Cond.instanceMethod y_FK_table ∈ kTb := k_m2 10 rfl (by decide +kernel)
theorem tw_251 : Cond.selects y_FK_table.cls y_FK_table y_FK_table ∈ kTb := k_m2 11 rfl (by decide +kernel)
theorem tw_252 : Cond.code y_FK_table b_FK_table 5 (some .int) ∈ kTb := k_m2 12 rfl (by decide +kernel)
theorem tw_253 : Cond.methodLink R_FK 63 y_FK_fillEntry ∈ kTb := k_m2 13 rfl (by decide +kernel)
theorem tw_254 : Cond.privateMethod y_FK_fillEntry ∈ kTb := k_m2 14 rfl (by decide +kernel)
theorem tw_255 : Cond.instanceMethod y_FK_fillEntry ∈ kTb := k_m2 15 rfl (by decide +kernel)
theorem tw_256 : Cond.code y_FK_fillEntry b_FK_fillEntry 7 (some .int) ∈ kTb := k_m2 16 rfl (by decide +kernel)
theorem tw_257 : Cond.methodLink R_FK 67 y_FK_checkEntry ∈ kTb := k_m2 17 rfl (by decide +kernel)
theorem tw_258 : Cond.static y_FK_checkEntry ∈ kTb := k_m2 18 rfl (by decide +kernel)
theorem tw_259 : Cond.code y_FK_checkEntry b_FK_checkEntry 1 none ∈ kTb := k_m2 19 rfl (by decide +kernel)
theorem tw_260 : Cond.methodLink R_FK 70 y_FK_checkRights ∈ kTb := k_m2 20 rfl (by decide +kernel)
theorem tw_261 : Cond.static y_FK_checkRights ∈ kTb := k_m2 21 rfl (by decide +kernel)
theorem tw_262 : Cond.code y_FK_checkRights b_FK_checkRights 1 none ∈ kTb := k_m2 22 rfl (by decide +kernel)
theorem tw_263 : Cond.methodLink R_FK 87 y_FK_isMyPage ∈ kTb := k_m2 23 rfl (by decide +kernel)
theorem tw_264 : Cond.privateMethod y_FK_isMyPage ∈ kTb := k_m2 24 rfl (by decide +kernel)
theorem tw_265 : Cond.instanceMethod y_FK_isMyPage ∈ kTb := k_m2 25 rfl (by decide +kernel)
theorem tw_266 : Cond.code y_FK_isMyPage b_FK_isMyPage 3 (some .boolean) ∈ kTb := k_m2 26 rfl (by decide +kernel)
theorem tw_267 : Cond.methodLink R_FK 249 y_Mem_ownerOf ∈ kTb := k_m2 27 rfl (by decide +kernel)
theorem tw_268 : Cond.instanceMethod y_Mem_ownerOf ∈ kTb := k_m2 28 rfl (by decide +kernel)
theorem tw_269 : Cond.selects y_Mem_ownerOf.cls y_Mem_ownerOf y_Mem_ownerOf ∈ kTb := k_m2 29 rfl (by decide +kernel)
theorem tw_270 : Cond.code y_Mem_ownerOf b_Mem_ownerOf 2 (some .int) ∈ kTb := k_m2 30 rfl (by decide +kernel)
theorem tw_271 : Cond.methodLink R_FK 264 y_FK_isMine ∈ kTb := k_m2 31 rfl (by decide +kernel)
theorem tw_272 : Cond.privateMethod y_FK_isMine ∈ kTb := k_m2 32 rfl (by decide +kernel)
theorem tw_273 : Cond.instanceMethod y_FK_isMine ∈ kTb := k_m2 33 rfl (by decide +kernel)
theorem tw_274 : Cond.code y_FK_isMine b_FK_isMine 2 (some .boolean) ∈ kTb := k_m2 34 rfl (by decide +kernel)
theorem tw_275 : Cond.methodLink R_FK 110 y_FK_isMyChild ∈ kTb := k_m2 35 rfl (by decide +kernel)
theorem tw_276 : Cond.privateMethod y_FK_isMyChild ∈ kTb := k_m2 36 rfl (by decide +kernel)
theorem tw_277 : Cond.instanceMethod y_FK_isMyChild ∈ kTb := k_m2 37 rfl (by decide +kernel)
theorem tw_278 : Cond.code y_FK_isMyChild b_FK_isMyChild 3 (some .boolean) ∈ kTb := k_m2 38 rfl (by decide +kernel)
theorem tw_279 : Cond.methodLink R_FK 240 y_Pro_parentOf ∈ kTb := k_m2 39 rfl (by decide +kernel)
theorem tw_280 : Cond.instanceMethod y_Pro_parentOf ∈ kTb := k_m2 40 rfl (by decide +kernel)
theorem tw_281 : Cond.selects y_Pro_parentOf.cls y_Pro_parentOf y_Pro_parentOf ∈ kTb := k_m2 41 rfl (by decide +kernel)
theorem tw_282 : Cond.code y_Pro_parentOf b_Pro_parentOf 2 (some .int) ∈ kTb := k_m2 42 rfl (by decide +kernel)
theorem tw_283 : Cond.classLink R_FK 91 "java/lang/UnsupportedOperationException" ∈ kTb := k_m2 43 rfl (by decide +kernel)
theorem tw_284 : Cond.instantiable "java/lang/UnsupportedOperationException" 6 ∈ kTb := k_m2 44 rfl (by decide +kernel)
theorem tw_285 : Cond.castable "java/lang/UnsupportedOperationException" "java/lang/UnsupportedOperationException" ∈ kTb := k_m2 45 rfl (by decide +kernel)
theorem tw_286 : Cond.selects "java/lang/UnsupportedOperationException" (⟨"java/lang/Throwable", "fillInStackTrace", "(I)Ljava/lang/Throwable;"⟩ : MethodName) (⟨"java/lang/Throwable", "fillInStackTrace", "(I)Ljava/lang/Throwable;"⟩ : MethodName) ∈ kTb := k_m2 46 rfl (by decide +kernel)
theorem tw_287 : Cond.lays "java/lang/UnsupportedOperationException" "java/lang/Throwable" "cause" "Ljava/lang/Throwable;" ∈ kTb := k_m2 47 rfl (by decide +kernel)
theorem tw_288 : Cond.lays "java/lang/UnsupportedOperationException" "java/lang/Throwable" "stackTrace" "[Ljava/lang/StackTraceElement;" ∈ kTb := k_m2 48 rfl (by decide +kernel)
theorem tw_289 : Cond.lays "java/lang/UnsupportedOperationException" "java/lang/Throwable" "suppressedExceptions" "Ljava/util/List;" ∈ kTb := k_m2 49 rfl (by decide +kernel)
theorem tw_290 : Cond.lays "java/lang/UnsupportedOperationException" "java/lang/Throwable" "detailMessage" "Ljava/lang/String;" ∈ kTb := k_m2 50 rfl (by decide +kernel)
theorem tw_291 : Cond.lays "java/lang/UnsupportedOperationException" "java/lang/Throwable" "backtrace" "Ljava/lang/Object;" ∈ kTb := k_m2 51 rfl (by decide +kernel)
theorem tw_293 : Cond.methodLink R_FK 95 (⟨"java/lang/UnsupportedOperationException", "<init>", "(Ljava/lang/String;)V"⟩ : MethodName) ∈ kTb := k_m2 53 rfl (by decide +kernel)
theorem tw_294 : Cond.instanceMethod (⟨"java/lang/UnsupportedOperationException", "<init>", "(Ljava/lang/String;)V"⟩ : MethodName) ∈ kTb := k_m2 54 rfl (by decide +kernel)
theorem tw_295 : Cond.code (⟨"java/lang/UnsupportedOperationException", "<init>", "(Ljava/lang/String;)V"⟩ : MethodName) prog_13_method_2_code 2 none ∈ kTb := k_m2 55 rfl (by decide +kernel)
theorem tw_296 : Cond.methodLink "java/lang/UnsupportedOperationException" 7 (⟨"java/lang/RuntimeException", "<init>", "(Ljava/lang/String;)V"⟩ : MethodName) ∈ kTb := k_m2 56 rfl (by decide +kernel)
theorem tw_297 : Cond.lays "java/lang/UnsupportedOperationException" "java/lang/Throwable" "depth" "I" ∈ kTb := k_m2 57 rfl (by decide +kernel)
theorem tw_298 : Cond.superclass "java/lang/UnsupportedOperationException" "java/lang/RuntimeException" ∈ kTb := k_m2 58 rfl (by decide +kernel)
theorem tw_299 : Cond.methodLink R_FK 81 y_Mem_pageIn ∈ kTb := k_m2 59 rfl (by decide +kernel)
theorem tw_300 : Cond.instanceMethod y_Mem_pageIn ∈ kTb := k_m2 60 rfl (by decide +kernel)
theorem tw_301 : Cond.selects y_Mem_pageIn.cls y_Mem_pageIn y_Mem_pageIn ∈ kTb := k_m2 61 rfl (by decide +kernel)
theorem tw_302 : Cond.code y_Mem_pageIn b_Mem_pageIn 3 (some .int) ∈ kTb := k_m2 62 rfl (by decide +kernel)
theorem tw_304 : Cond.methodLink R_FK 84 y_Mem_setEntry ∈ kTb := k_m2 64 rfl (by decide +kernel)
theorem tw_305 : Cond.methodLink R_Law 105 y_Law_frame ∈ kTb := k_m2 65 rfl (by decide +kernel)
theorem tw_306 : Cond.static y_Law_frame ∈ kTb := k_m2 66 rfl (by decide +kernel)
theorem tw_307 : Cond.codeWith y_Law_frame b_Law_frame 7 (some .int) [(0, 14, 17, 13), (0, 14, 21, 21), (0, 14, 25, 15)] ∈ kTb := k_m2 67 rfl (by decide +kernel)
theorem tw_308 : Cond.methodLink R_Law 23 y_FK_frame ∈ kTb := k_m2 68 rfl (by decide +kernel)
theorem tw_309 : Cond.instanceMethod y_FK_frame ∈ kTb := k_m2 69 rfl (by decide +kernel)
theorem tw_310 : Cond.selects y_FK_frame.cls y_FK_frame y_FK_frame ∈ kTb := k_m2 70 rfl (by decide +kernel)
theorem tw_311 : Cond.code y_FK_frame b_FK_frame 5 (some .int) ∈ kTb := k_m2 71 rfl (by decide +kernel)
theorem tw_312 : Cond.methodLink R_Law 108 y_Law_protect ∈ kTb := k_m2 72 rfl (by decide +kernel)
theorem tw_313 : Cond.static y_Law_protect ∈ kTb := k_m2 73 rfl (by decide +kernel)
theorem tw_314 : Cond.codeWith y_Law_protect b_Law_protect 6 (some .int) [(0, 12, 15, 13), (0, 12, 19, 21), (0, 12, 23, 30)] ∈ kTb := k_m2 74 rfl (by decide +kernel)
theorem tw_315 : Cond.classLink R_Law 30 "java/util/NoSuchElementException" ∈ kTb := k_m2 75 rfl (by decide +kernel)
theorem tw_316 : Cond.methodLink R_Law 26 y_FK_protect ∈ kTb := k_m2 76 rfl (by decide +kernel)
theorem tw_317 : Cond.instanceMethod y_FK_protect ∈ kTb := k_m2 77 rfl (by decide +kernel)
theorem tw_318 : Cond.selects y_FK_protect.cls y_FK_protect y_FK_protect ∈ kTb := k_m2 78 rfl (by decide +kernel)
theorem tw_319 : Cond.code y_FK_protect b_FK_protect 5 (some .int) ∈ kTb := k_m2 79 rfl (by decide +kernel)
theorem tw_320 : Cond.methodLink R_FK 73 y_FK_checkMyEntryIsFilled ∈ kTb := k_m2 80 rfl (by decide +kernel)
theorem tw_321 : Cond.privateMethod y_FK_checkMyEntryIsFilled ∈ kTb := k_m2 81 rfl (by decide +kernel)
theorem tw_322 : Cond.instanceMethod y_FK_checkMyEntryIsFilled ∈ kTb := k_m2 82 rfl (by decide +kernel)
theorem tw_323 : Cond.code y_FK_checkMyEntryIsFilled b_FK_checkMyEntryIsFilled 3 none ∈ kTb := k_m2 83 rfl (by decide +kernel)
theorem tw_325 : Cond.classLink R_FK 280 "java/util/NoSuchElementException" ∈ kTb := k_m2 85 rfl (by decide +kernel)
theorem tw_326 : Cond.instantiable "java/util/NoSuchElementException" 6 ∈ kTb := k_m2 86 rfl (by decide +kernel)
theorem tw_327 : Cond.castable "java/util/NoSuchElementException" "java/util/NoSuchElementException" ∈ kTb := k_m2 87 rfl (by decide +kernel)
theorem tw_328 : Cond.selects "java/util/NoSuchElementException" (⟨"java/lang/Throwable", "fillInStackTrace", "(I)Ljava/lang/Throwable;"⟩ : MethodName) (⟨"java/lang/Throwable", "fillInStackTrace", "(I)Ljava/lang/Throwable;"⟩ : MethodName) ∈ kTb := k_m2 88 rfl (by decide +kernel)
theorem tw_329 : Cond.lays "java/util/NoSuchElementException" "java/lang/Throwable" "cause" "Ljava/lang/Throwable;" ∈ kTb := k_m2 89 rfl (by decide +kernel)
theorem tw_330 : Cond.lays "java/util/NoSuchElementException" "java/lang/Throwable" "stackTrace" "[Ljava/lang/StackTraceElement;" ∈ kTb := k_m2 90 rfl (by decide +kernel)
theorem tw_331 : Cond.lays "java/util/NoSuchElementException" "java/lang/Throwable" "suppressedExceptions" "Ljava/util/List;" ∈ kTb := k_m2 91 rfl (by decide +kernel)
theorem tw_332 : Cond.lays "java/util/NoSuchElementException" "java/lang/Throwable" "detailMessage" "Ljava/lang/String;" ∈ kTb := k_m2 92 rfl (by decide +kernel)
theorem tw_333 : Cond.lays "java/util/NoSuchElementException" "java/lang/Throwable" "backtrace" "Ljava/lang/Object;" ∈ kTb := k_m2 93 rfl (by decide +kernel)
theorem tw_335 : Cond.methodLink R_FK 284 (⟨"java/util/NoSuchElementException", "<init>", "(Ljava/lang/String;)V"⟩ : MethodName) ∈ kTb := k_m2 95 rfl (by decide +kernel)
theorem tw_336 : Cond.instanceMethod (⟨"java/util/NoSuchElementException", "<init>", "(Ljava/lang/String;)V"⟩ : MethodName) ∈ kTb := k_m2 96 rfl (by decide +kernel)
theorem tw_337 : Cond.code (⟨"java/util/NoSuchElementException", "<init>", "(Ljava/lang/String;)V"⟩ : MethodName) prog_14_method_4_code 2 none ∈ kTb := k_m2 97 rfl (by decide +kernel)
theorem tw_338 : Cond.methodLink "java/util/NoSuchElementException" 13 (⟨"java/lang/RuntimeException", "<init>", "(Ljava/lang/String;)V"⟩ : MethodName) ∈ kTb := k_m2 98 rfl (by decide +kernel)
theorem tw_339 : Cond.lays "java/util/NoSuchElementException" "java/lang/Throwable" "depth" "I" ∈ kTb := k_m2 99 rfl (by decide +kernel)
theorem tw_340 : Cond.superclass "java/util/NoSuchElementException" "java/lang/RuntimeException" ∈ kTb := k_m2 100 rfl (by decide +kernel)
theorem tw_341 : Cond.methodLink R_FK 77 y_Mem_rightsIn ∈ kTb := k_m2 101 rfl (by decide +kernel)
theorem tw_342 : Cond.instanceMethod y_Mem_rightsIn ∈ kTb := k_m2 102 rfl (by decide +kernel)
theorem tw_343 : Cond.selects y_Mem_rightsIn.cls y_Mem_rightsIn y_Mem_rightsIn ∈ kTb := k_m2 103 rfl (by decide +kernel)
theorem tw_344 : Cond.code y_Mem_rightsIn b_Mem_rightsIn 3 (some .int) ∈ kTb := k_m2 104 rfl (by decide +kernel)
theorem tw_345 : Cond.methodLink R_Law 112 y_Law_copy ∈ kTb := k_m2 105 rfl (by decide +kernel)
theorem tw_346 : Cond.static y_Law_copy ∈ kTb := k_m2 106 rfl (by decide +kernel)
theorem tw_347 : Cond.codeWith y_Law_copy b_Law_copy 5 (some .int) [(0, 10, 13, 13), (0, 10, 17, 21)] ∈ kTb := k_m2 107 rfl (by decide +kernel)
theorem tw_348 : Cond.methodLink R_Law 32 y_FK_copy ∈ kTb := k_m2 108 rfl (by decide +kernel)
theorem tw_349 : Cond.instanceMethod y_FK_copy ∈ kTb := k_m2 109 rfl (by decide +kernel)
theorem tw_350 : Cond.selects y_FK_copy.cls y_FK_copy y_FK_copy ∈ kTb := k_m2 110 rfl (by decide +kernel)
theorem tw_351 : Cond.code y_FK_copy b_FK_copy 3 (some .int) ∈ kTb := k_m2 111 rfl (by decide +kernel)
theorem tw_353 : Cond.methodLink R_FK 96 y_Mem_copyWords ∈ kTb := k_m2 113 rfl (by decide +kernel)
theorem tw_354 : Cond.instanceMethod y_Mem_copyWords ∈ kTb := k_m2 114 rfl (by decide +kernel)
theorem tw_355 : Cond.selects y_Mem_copyWords.cls y_Mem_copyWords y_Mem_copyWords ∈ kTb := k_m2 115 rfl (by decide +kernel)
theorem tw_356 : Cond.code y_Mem_copyWords b_Mem_copyWords 4 none ∈ kTb := k_m2 116 rfl (by decide +kernel)
theorem tw_357 : Cond.methodLink R_Mem 50 y_Mem_word ∈ kTb := k_m2 117 rfl (by decide +kernel)
theorem tw_358 : Cond.instanceMethod y_Mem_word ∈ kTb := k_m2 118 rfl (by decide +kernel)
theorem tw_359 : Cond.selects y_Mem_word.cls y_Mem_word y_Mem_word ∈ kTb := k_m2 119 rfl (by decide +kernel)
theorem tw_360 : Cond.code y_Mem_word b_Mem_word 3 (some .int) ∈ kTb := k_m2 120 rfl (by decide +kernel)
theorem tw_361 : Cond.methodLink R_Law 115 y_Law_release ∈ kTb := k_m2 121 rfl (by decide +kernel)
theorem tw_362 : Cond.static y_Law_release ∈ kTb := k_m2 122 rfl (by decide +kernel)
theorem tw_363 : Cond.codeWith y_Law_release b_Law_release 5 (some .int) [(0, 10, 13, 13), (0, 10, 17, 21), (0, 10, 21, 30), (0, 10, 25, 15)] ∈ kTb := k_m2 123 rfl (by decide +kernel)
theorem tw_364 : Cond.methodLink R_Law 35 y_FK_release ∈ kTb := k_m2 124 rfl (by decide +kernel)
theorem tw_365 : Cond.instanceMethod y_FK_release ∈ kTb := k_m2 125 rfl (by decide +kernel)
theorem tw_366 : Cond.selects y_FK_release.cls y_FK_release y_FK_release ∈ kTb := k_m2 126 rfl (by decide +kernel)
theorem tw_367 : Cond.code y_FK_release b_FK_release 4 (some .int) ∈ kTb := k_m2 127 rfl (by decide +kernel)
theorem tw_368 : Cond.methodLink R_FK 99 y_Mem_filledEntries ∈ kTb := k_m2 128 rfl (by decide +kernel)
theorem tw_369 : Cond.instanceMethod y_Mem_filledEntries ∈ kTb := k_m2 129 rfl (by decide +kernel)
theorem tw_370 : Cond.selects y_Mem_filledEntries.cls y_Mem_filledEntries y_Mem_filledEntries ∈ kTb := k_m2 130 rfl (by decide +kernel)
theorem tw_371 : Cond.code y_Mem_filledEntries b_Mem_filledEntries 4 (some .int) ∈ kTb := k_m2 131 rfl (by decide +kernel)
theorem tw_372 : Cond.methodLink R_Mem 46 y_Mem_pageIn ∈ kTb := k_m2 132 rfl (by decide +kernel)
theorem tw_374 : Cond.methodLink R_FK 104 y_Mem_clearEntry ∈ kTb := k_m2 134 rfl (by decide +kernel)
theorem tw_375 : Cond.methodLink R_FK 107 y_Mem_setFree ∈ kTb := k_m2 135 rfl (by decide +kernel)
theorem tw_376 : Cond.methodLink R_Law 118 y_Law_start ∈ kTb := k_m2 136 rfl (by decide +kernel)
theorem tw_377 : Cond.static y_Law_start ∈ kTb := k_m2 137 rfl (by decide +kernel)
theorem tw_378 : Cond.codeWith y_Law_start b_Law_start 4 (some .int) [(0, 9, 12, 13), (0, 9, 15, 15)] ∈ kTb := k_m2 138 rfl (by decide +kernel)
theorem tw_379 : Cond.methodLink R_Law 38 y_FK_start ∈ kTb := k_m2 139 rfl (by decide +kernel)
theorem tw_380 : Cond.instanceMethod y_FK_start ∈ kTb := k_m2 140 rfl (by decide +kernel)
theorem tw_381 : Cond.selects y_FK_start.cls y_FK_start y_FK_start ∈ kTb := k_m2 141 rfl (by decide +kernel)
theorem tw_382 : Cond.code y_FK_start b_FK_start 2 (some .int) ∈ kTb := k_m2 142 rfl (by decide +kernel)
theorem tw_384 : Cond.methodLink R_FK 115 y_Pro_setState ∈ kTb := k_m2 144 rfl (by decide +kernel)
theorem tw_385 : Cond.instanceMethod y_Pro_setState ∈ kTb := k_m2 145 rfl (by decide +kernel)
theorem tw_386 : Cond.selects y_Pro_setState.cls y_Pro_setState y_Pro_setState ∈ kTb := k_m2 146 rfl (by decide +kernel)
theorem tw_387 : Cond.code y_Pro_setState b_Pro_setState 3 none ∈ kTb := k_m2 147 rfl (by decide +kernel)
theorem tw_388 : Cond.methodLink R_Law 122 y_Law_give ∈ kTb := k_m2 148 rfl (by decide +kernel)
theorem tw_389 : Cond.static y_Law_give ∈ kTb := k_m2 149 rfl (by decide +kernel)
theorem tw_390 : Cond.codeWith y_Law_give b_Law_give 4 (some .int) [(0, 9, 12, 13), (0, 9, 15, 15)] ∈ kTb := k_m2 150 rfl (by decide +kernel)
theorem tw_391 : Cond.methodLink R_Law 42 y_FK_give ∈ kTb := k_m2 151 rfl (by decide +kernel)
theorem tw_392 : Cond.instanceMethod y_FK_give ∈ kTb := k_m2 152 rfl (by decide +kernel)
theorem tw_393 : Cond.selects y_FK_give.cls y_FK_give y_FK_give ∈ kTb := k_m2 153 rfl (by decide +kernel)
theorem tw_394 : Cond.code y_FK_give b_FK_give 3 (some .int) ∈ kTb := k_m2 154 rfl (by decide +kernel)
theorem tw_395 : Cond.methodLink R_FK 118 y_FK_checkIsReady ∈ kTb := k_m2 155 rfl (by decide +kernel)
theorem tw_396 : Cond.privateMethod y_FK_checkIsReady ∈ kTb := k_m2 156 rfl (by decide +kernel)
theorem tw_397 : Cond.instanceMethod y_FK_checkIsReady ∈ kTb := k_m2 157 rfl (by decide +kernel)
theorem tw_398 : Cond.code y_FK_checkIsReady b_FK_checkIsReady 2 none ∈ kTb := k_m2 158 rfl (by decide +kernel)
theorem tw_400 : Cond.methodLink R_FK 121 y_FK_run ∈ kTb := k_m2 160 rfl (by decide +kernel)
theorem tw_401 : Cond.privateMethod y_FK_run ∈ kTb := k_m2 161 rfl (by decide +kernel)
theorem tw_402 : Cond.instanceMethod y_FK_run ∈ kTb := k_m2 162 rfl (by decide +kernel)
theorem tw_403 : Cond.code y_FK_run b_FK_run 2 none ∈ kTb := k_m2 163 rfl (by decide +kernel)
theorem tw_404 : Cond.methodLink R_Law 125 y_Law_kill ∈ kTb := k_m2 164 rfl (by decide +kernel)
theorem tw_405 : Cond.static y_Law_kill ∈ kTb := k_m2 165 rfl (by decide +kernel)
theorem tw_406 : Cond.codeWith y_Law_kill b_Law_kill 4 (some .int) [(0, 9, 12, 13), (0, 9, 15, 21), (0, 9, 18, 15)] ∈ kTb := k_m2 166 rfl (by decide +kernel)
theorem tw_407 : Cond.methodLink R_Law 45 y_FK_kill ∈ kTb := k_m2 167 rfl (by decide +kernel)
theorem tw_408 : Cond.instanceMethod y_FK_kill ∈ kTb := k_m2 168 rfl (by decide +kernel)
theorem tw_409 : Cond.selects y_FK_kill.cls y_FK_kill y_FK_kill ∈ kTb := k_m2 169 rfl (by decide +kernel)
theorem tw_410 : Cond.code y_FK_kill b_FK_kill 2 (some .int) ∈ kTb := k_m2 170 rfl (by decide +kernel)
theorem tw_412 : Cond.methodLink R_FK 126 y_FK_handOverToNextReady ∈ kTb := k_m2 172 rfl (by decide +kernel)
theorem tw_413 : Cond.privateMethod y_FK_handOverToNextReady ∈ kTb := k_m2 173 rfl (by decide +kernel)
theorem tw_414 : Cond.instanceMethod y_FK_handOverToNextReady ∈ kTb := k_m2 174 rfl (by decide +kernel)
theorem tw_415 : Cond.code y_FK_handOverToNextReady b_FK_handOverToNextReady 2 none ∈ kTb := k_m2 175 rfl (by decide +kernel)
theorem tw_416 : Cond.methodLink R_FK 300 y_Pro_nextReady ∈ kTb := k_m2 176 rfl (by decide +kernel)
theorem tw_417 : Cond.instanceMethod y_Pro_nextReady ∈ kTb := k_m2 177 rfl (by decide +kernel)
theorem tw_418 : Cond.selects y_Pro_nextReady.cls y_Pro_nextReady y_Pro_nextReady ∈ kTb := k_m2 178 rfl (by decide +kernel)
theorem tw_419 : Cond.code y_Pro_nextReady b_Pro_nextReady 4 (some .int) ∈ kTb := k_m2 179 rfl (by decide +kernel)
theorem tw_421 : Cond.methodLink R_FK 129 y_FK_isMyLivingChild ∈ kTb := k_m2 181 rfl (by decide +kernel)
theorem tw_422 : Cond.privateMethod y_FK_isMyLivingChild ∈ kTb := k_m2 182 rfl (by decide +kernel)
theorem tw_423 : Cond.instanceMethod y_FK_isMyLivingChild ∈ kTb := k_m2 183 rfl (by decide +kernel)
theorem tw_424 : Cond.code y_FK_isMyLivingChild b_FK_isMyLivingChild 3 (some .boolean) ∈ kTb := k_m2 184 rfl (by decide +kernel)
theorem tw_426 : Cond.methodLink R_FK 135 y_Pro_descriptorsInUse ∈ kTb := k_m2 186 rfl (by decide +kernel)
theorem tw_427 : Cond.instanceMethod y_Pro_descriptorsInUse ∈ kTb := k_m2 187 rfl (by decide +kernel)
theorem tw_428 : Cond.selects y_Pro_descriptorsInUse.cls y_Pro_descriptorsInUse y_Pro_descriptorsInUse ∈ kTb := k_m2 188 rfl (by decide +kernel)
theorem tw_429 : Cond.code y_Pro_descriptorsInUse b_Pro_descriptorsInUse 4 (some .int) ∈ kTb := k_m2 189 rfl (by decide +kernel)
theorem tw_430 : Cond.methodLink R_Pro 42 y_Pro_pipeOf ∈ kTb := k_m2 190 rfl (by decide +kernel)
theorem tw_431 : Cond.instanceMethod y_Pro_pipeOf ∈ kTb := k_m2 191 rfl (by decide +kernel)
theorem tw_432 : Cond.selects y_Pro_pipeOf.cls y_Pro_pipeOf y_Pro_pipeOf ∈ kTb := k_m2 192 rfl (by decide +kernel)
theorem tw_433 : Cond.code y_Pro_pipeOf b_Pro_pipeOf 3 (some .int) ∈ kTb := k_m2 193 rfl (by decide +kernel)
theorem tw_434 : Cond.methodLink R_Law 128 y_Law_reap ∈ kTb := k_m2 194 rfl (by decide +kernel)
theorem tw_435 : Cond.static y_Law_reap ∈ kTb := k_m2 195 rfl (by decide +kernel)
theorem tw_436 : Cond.codeWith y_Law_reap b_Law_reap 4 (some .int) [(0, 9, 12, 13), (0, 9, 15, 15)] ∈ kTb := k_m2 196 rfl (by decide +kernel)
theorem tw_437 : Cond.methodLink R_Law 48 y_FK_reap ∈ kTb := k_m2 197 rfl (by decide +kernel)
theorem tw_438 : Cond.instanceMethod y_FK_reap ∈ kTb := k_m2 198 rfl (by decide +kernel)
theorem tw_439 : Cond.selects y_FK_reap.cls y_FK_reap y_FK_reap ∈ kTb := k_m2 199 rfl (by decide +kernel)
theorem tw_440 : Cond.code y_FK_reap b_FK_reap 2 (some .int) ∈ kTb := k_m2 200 rfl (by decide +kernel)
theorem tw_442 : Cond.methodLink R_FK 140 y_FK_holdsMoreThanRoot ∈ kTb := k_m2 202 rfl (by decide +kernel)
theorem tw_443 : Cond.privateMethod y_FK_holdsMoreThanRoot ∈ kTb := k_m2 203 rfl (by decide +kernel)
theorem tw_444 : Cond.instanceMethod y_FK_holdsMoreThanRoot ∈ kTb := k_m2 204 rfl (by decide +kernel)
theorem tw_445 : Cond.code y_FK_holdsMoreThanRoot b_FK_holdsMoreThanRoot 2 (some .boolean) ∈ kTb := k_m2 205 rfl (by decide +kernel)
theorem tw_446 : Cond.methodLink R_FK 243 y_Mem_pagesOf ∈ kTb := k_m2 206 rfl (by decide +kernel)
theorem tw_447 : Cond.instanceMethod y_Mem_pagesOf ∈ kTb := k_m2 207 rfl (by decide +kernel)
theorem tw_448 : Cond.selects y_Mem_pagesOf.cls y_Mem_pagesOf y_Mem_pagesOf ∈ kTb := k_m2 208 rfl (by decide +kernel)
theorem tw_449 : Cond.code y_Mem_pagesOf b_Mem_pagesOf 4 (some .int) ∈ kTb := k_m2 209 rfl (by decide +kernel)
theorem tw_450 : Cond.methodLink R_FK 145 y_Pro_rootOf ∈ kTb := k_m2 210 rfl (by decide +kernel)
theorem tw_451 : Cond.instanceMethod y_Pro_rootOf ∈ kTb := k_m2 211 rfl (by decide +kernel)
theorem tw_452 : Cond.selects y_Pro_rootOf.cls y_Pro_rootOf y_Pro_rootOf ∈ kTb := k_m2 212 rfl (by decide +kernel)
theorem tw_453 : Cond.code y_Pro_rootOf b_Pro_rootOf 2 (some .int) ∈ kTb := k_m2 213 rfl (by decide +kernel)
theorem tw_455 : Cond.methodLink R_FK 148 y_Pro_end ∈ kTb := k_m2 215 rfl (by decide +kernel)
theorem tw_456 : Cond.methodLink R_FK 151 y_Pro_moveChildren ∈ kTb := k_m2 216 rfl (by decide +kernel)
theorem tw_457 : Cond.instanceMethod y_Pro_moveChildren ∈ kTb := k_m2 217 rfl (by decide +kernel)
theorem tw_458 : Cond.selects y_Pro_moveChildren.cls y_Pro_moveChildren y_Pro_moveChildren ∈ kTb := k_m2 218 rfl (by decide +kernel)
theorem tw_459 : Cond.code y_Pro_moveChildren b_Pro_moveChildren 5 (some .int) ∈ kTb := k_m2 219 rfl (by decide +kernel)
theorem tw_460 : Cond.methodLink R_Law 131 y_Law_open ∈ kTb := k_m2 220 rfl (by decide +kernel)
theorem tw_461 : Cond.static y_Law_open ∈ kTb := k_m2 221 rfl (by decide +kernel)
theorem tw_462 : Cond.codeWith y_Law_open b_Law_open 6 (some .int) [(0, 12, 15, 13), (0, 12, 19, 21), (0, 12, 23, 15)] ∈ kTb := k_m2 222 rfl (by decide +kernel)
theorem tw_463 : Cond.methodLink R_Law 51 y_FK_open ∈ kTb := k_m2 223 rfl (by decide +kernel)
theorem tw_464 : Cond.instanceMethod y_FK_open ∈ kTb := k_m2 224 rfl (by decide +kernel)
theorem tw_465 : Cond.selects y_FK_open.cls y_FK_open y_FK_open ∈ kTb := k_m2 225 rfl (by decide +kernel)
theorem tw_466 : Cond.code y_FK_open b_FK_open 4 (some .int) ∈ kTb := k_m2 226 rfl (by decide +kernel)
theorem tw_467 : Cond.methodLink R_FK 154 y_FK_checkDescriptor ∈ kTb := k_m2 227 rfl (by decide +kernel)
theorem tw_468 : Cond.static y_FK_checkDescriptor ∈ kTb := k_m2 228 rfl (by decide +kernel)
theorem tw_469 : Cond.code y_FK_checkDescriptor b_FK_checkDescriptor 1 none ∈ kTb := k_m2 229 rfl (by decide +kernel)
theorem tw_470 : Cond.methodLink R_FK 157 y_FK_checkPipe ∈ kTb := k_m2 230 rfl (by decide +kernel)
theorem tw_471 : Cond.static y_FK_checkPipe ∈ kTb := k_m2 231 rfl (by decide +kernel)
theorem tw_472 : Cond.code y_FK_checkPipe b_FK_checkPipe 1 none ∈ kTb := k_m2 232 rfl (by decide +kernel)
theorem tw_473 : Cond.methodLink R_FK 160 y_FK_checkIsMine ∈ kTb := k_m2 233 rfl (by decide +kernel)
theorem tw_474 : Cond.privateMethod y_FK_checkIsMine ∈ kTb := k_m2 234 rfl (by decide +kernel)
theorem tw_475 : Cond.instanceMethod y_FK_checkIsMine ∈ kTb := k_m2 235 rfl (by decide +kernel)
theorem tw_476 : Cond.code y_FK_checkIsMine b_FK_checkIsMine 2 none ∈ kTb := k_m2 236 rfl (by decide +kernel)
theorem tw_478 : Cond.methodLink R_FK 163 y_FK_checkDescriptorIsUnused ∈ kTb := k_m2 238 rfl (by decide +kernel)
theorem tw_479 : Cond.privateMethod y_FK_checkDescriptorIsUnused ∈ kTb := k_m2 239 rfl (by decide +kernel)
theorem tw_480 : Cond.instanceMethod y_FK_checkDescriptorIsUnused ∈ kTb := k_m3 0 rfl (by decide +kernel)
theorem tw_481 : Cond.code y_FK_checkDescriptorIsUnused b_FK_checkDescriptorIsUnused 3 none ∈ kTb := k_m3 1 rfl (by decide +kernel)
theorem tw_482 : Cond.methodLink R_FK 273 y_Pro_pipeOf ∈ kTb := k_m3 2 rfl (by decide +kernel)
theorem tw_484 : Cond.methodLink R_FK 166 y_Pro_descriptorsOfPipe ∈ kTb := k_m3 4 rfl (by decide +kernel)
theorem tw_485 : Cond.instanceMethod y_Pro_descriptorsOfPipe ∈ kTb := k_m3 5 rfl (by decide +kernel)
theorem tw_486 : Cond.selects y_Pro_descriptorsOfPipe.cls y_Pro_descriptorsOfPipe y_Pro_descriptorsOfPipe ∈ kTb := k_m3 6 rfl (by decide +kernel)
theorem tw_487 : Cond.code y_Pro_descriptorsOfPipe b_Pro_descriptorsOfPipe 4 (some .int) ∈ kTb := k_m3 7 rfl (by decide +kernel)
theorem tw_489 : Cond.methodLink R_FK 171 y_Pip_makeEmpty ∈ kTb := k_m3 9 rfl (by decide +kernel)
theorem tw_490 : Cond.instanceMethod y_Pip_makeEmpty ∈ kTb := k_m3 10 rfl (by decide +kernel)
theorem tw_491 : Cond.selects y_Pip_makeEmpty.cls y_Pip_makeEmpty y_Pip_makeEmpty ∈ kTb := k_m3 11 rfl (by decide +kernel)
theorem tw_492 : Cond.code y_Pip_makeEmpty b_Pip_makeEmpty 2 none ∈ kTb := k_m3 12 rfl (by decide +kernel)
theorem tw_493 : Cond.methodLink R_FK 174 y_FK_connect ∈ kTb := k_m3 13 rfl (by decide +kernel)
theorem tw_494 : Cond.privateMethod y_FK_connect ∈ kTb := k_m3 14 rfl (by decide +kernel)
theorem tw_495 : Cond.instanceMethod y_FK_connect ∈ kTb := k_m3 15 rfl (by decide +kernel)
theorem tw_496 : Cond.code y_FK_connect b_FK_connect 4 (some .int) ∈ kTb := k_m3 16 rfl (by decide +kernel)
theorem tw_497 : Cond.methodLink R_FK 181 y_Pro_setPipe ∈ kTb := k_m3 17 rfl (by decide +kernel)
theorem tw_498 : Cond.methodLink R_Law 134 y_Law_share ∈ kTb := k_m3 18 rfl (by decide +kernel)
theorem tw_499 : Cond.static y_Law_share ∈ kTb := k_m3 19 rfl (by decide +kernel)
theorem tw_500 : Cond.codeWith y_Law_share b_Law_share 6 (some .int) [(0, 12, 15, 13), (0, 12, 19, 21), (0, 12, 23, 30), (0, 12, 27, 15)] ∈ kTb := k_m3 20 rfl (by decide +kernel)
theorem tw_501 : Cond.methodLink R_Law 54 y_FK_share ∈ kTb := k_m3 21 rfl (by decide +kernel)
theorem tw_502 : Cond.instanceMethod y_FK_share ∈ kTb := k_m3 22 rfl (by decide +kernel)
theorem tw_503 : Cond.selects y_FK_share.cls y_FK_share y_FK_share ∈ kTb := k_m3 23 rfl (by decide +kernel)
theorem tw_504 : Cond.code y_FK_share b_FK_share 5 (some .int) ∈ kTb := k_m3 24 rfl (by decide +kernel)
theorem tw_505 : Cond.methodLink R_FK 178 y_FK_pipeBehind ∈ kTb := k_m3 25 rfl (by decide +kernel)
theorem tw_506 : Cond.privateMethod y_FK_pipeBehind ∈ kTb := k_m3 26 rfl (by decide +kernel)
theorem tw_507 : Cond.instanceMethod y_FK_pipeBehind ∈ kTb := k_m3 27 rfl (by decide +kernel)
theorem tw_508 : Cond.code y_FK_pipeBehind b_FK_pipeBehind 4 (some .int) ∈ kTb := k_m3 28 rfl (by decide +kernel)
theorem tw_510 : Cond.methodLink R_Law 137 y_Law_close ∈ kTb := k_m3 30 rfl (by decide +kernel)
theorem tw_511 : Cond.static y_Law_close ∈ kTb := k_m3 31 rfl (by decide +kernel)
theorem tw_512 : Cond.codeWith y_Law_close b_Law_close 5 (some .int) [(0, 10, 13, 13), (0, 10, 17, 21), (0, 10, 21, 30)] ∈ kTb := k_m3 32 rfl (by decide +kernel)
theorem tw_513 : Cond.methodLink R_Law 57 y_FK_close ∈ kTb := k_m3 33 rfl (by decide +kernel)
theorem tw_514 : Cond.instanceMethod y_FK_close ∈ kTb := k_m3 34 rfl (by decide +kernel)
theorem tw_515 : Cond.selects y_FK_close.cls y_FK_close y_FK_close ∈ kTb := k_m3 35 rfl (by decide +kernel)
theorem tw_516 : Cond.code y_FK_close b_FK_close 4 (some .int) ∈ kTb := k_m3 36 rfl (by decide +kernel)
theorem tw_517 : Cond.methodLink R_Law 140 y_Law_put ∈ kTb := k_m3 37 rfl (by decide +kernel)
theorem tw_518 : Cond.static y_Law_put ∈ kTb := k_m3 38 rfl (by decide +kernel)
theorem tw_519 : Cond.codeWith y_Law_put b_Law_put 5 (some .int) [(0, 10, 13, 13), (0, 10, 17, 30), (0, 10, 21, 21), (0, 10, 25, 15)] ∈ kTb := k_m3 39 rfl (by decide +kernel)
theorem tw_520 : Cond.methodLink R_Law 60 y_FK_put ∈ kTb := k_m3 40 rfl (by decide +kernel)
theorem tw_521 : Cond.instanceMethod y_FK_put ∈ kTb := k_m3 41 rfl (by decide +kernel)
theorem tw_522 : Cond.selects y_FK_put.cls y_FK_put y_FK_put ∈ kTb := k_m3 42 rfl (by decide +kernel)
theorem tw_523 : Cond.code y_FK_put b_FK_put 5 (some .int) ∈ kTb := k_m3 43 rfl (by decide +kernel)
theorem tw_524 : Cond.methodLink R_FK 184 y_FK_checkAddress ∈ kTb := k_m3 44 rfl (by decide +kernel)
theorem tw_525 : Cond.static y_FK_checkAddress ∈ kTb := k_m3 45 rfl (by decide +kernel)
theorem tw_526 : Cond.code y_FK_checkAddress b_FK_checkAddress 1 none ∈ kTb := k_m3 46 rfl (by decide +kernel)
theorem tw_527 : Cond.methodLink R_FK 187 y_FK_frameWithRight ∈ kTb := k_m3 47 rfl (by decide +kernel)
theorem tw_528 : Cond.privateMethod y_FK_frameWithRight ∈ kTb := k_m3 48 rfl (by decide +kernel)
theorem tw_529 : Cond.instanceMethod y_FK_frameWithRight ∈ kTb := k_m3 49 rfl (by decide +kernel)
theorem tw_530 : Cond.code y_FK_frameWithRight b_FK_frameWithRight 6 (some .int) ∈ kTb := k_m3 50 rfl (by decide +kernel)
theorem tw_531 : Cond.methodLink R_FK 225 y_FK_frameAt ∈ kTb := k_m3 51 rfl (by decide +kernel)
theorem tw_532 : Cond.privateMethod y_FK_frameAt ∈ kTb := k_m3 52 rfl (by decide +kernel)
theorem tw_533 : Cond.instanceMethod y_FK_frameAt ∈ kTb := k_m3 53 rfl (by decide +kernel)
theorem tw_534 : Cond.code y_FK_frameAt b_FK_frameAt 3 (some .int) ∈ kTb := k_m3 54 rfl (by decide +kernel)
theorem tw_535 : Cond.methodLink R_FK 212 y_FK_tableAt ∈ kTb := k_m3 55 rfl (by decide +kernel)
theorem tw_536 : Cond.privateMethod y_FK_tableAt ∈ kTb := k_m3 56 rfl (by decide +kernel)
theorem tw_537 : Cond.instanceMethod y_FK_tableAt ∈ kTb := k_m3 57 rfl (by decide +kernel)
theorem tw_538 : Cond.code y_FK_tableAt b_FK_tableAt 3 (some .int) ∈ kTb := k_m3 58 rfl (by decide +kernel)
theorem tw_539 : Cond.methodLink R_FK 289 y_FK_tableEntryOf ∈ kTb := k_m3 59 rfl (by decide +kernel)
theorem tw_540 : Cond.static y_FK_tableEntryOf ∈ kTb := k_m3 60 rfl (by decide +kernel)
theorem tw_541 : Cond.code y_FK_tableEntryOf b_FK_tableEntryOf 1 (some .int) ∈ kTb := k_m3 61 rfl (by decide +kernel)
theorem tw_543 : Cond.methodLink R_FK 215 y_FK_frameEntryOf ∈ kTb := k_m3 63 rfl (by decide +kernel)
theorem tw_544 : Cond.static y_FK_frameEntryOf ∈ kTb := k_m3 64 rfl (by decide +kernel)
theorem tw_545 : Cond.code y_FK_frameEntryOf b_FK_frameEntryOf 1 (some .int) ∈ kTb := k_m3 65 rfl (by decide +kernel)
theorem tw_548 : Cond.methodLink R_FK 190 y_Pip_held ∈ kTb := k_m3 68 rfl (by decide +kernel)
theorem tw_549 : Cond.instanceMethod y_Pip_held ∈ kTb := k_m3 69 rfl (by decide +kernel)
theorem tw_550 : Cond.selects y_Pip_held.cls y_Pip_held y_Pip_held ∈ kTb := k_m3 70 rfl (by decide +kernel)
theorem tw_551 : Cond.code y_Pip_held b_Pip_held 2 (some .int) ∈ kTb := k_m3 71 rfl (by decide +kernel)
theorem tw_553 : Cond.methodLink R_FK 195 y_FK_wordOf ∈ kTb := k_m3 73 rfl (by decide +kernel)
theorem tw_554 : Cond.static y_FK_wordOf ∈ kTb := k_m3 74 rfl (by decide +kernel)
theorem tw_555 : Cond.code y_FK_wordOf b_FK_wordOf 1 (some .int) ∈ kTb := k_m3 75 rfl (by decide +kernel)
theorem tw_556 : Cond.methodLink R_FK 198 y_Mem_word ∈ kTb := k_m3 76 rfl (by decide +kernel)
theorem tw_557 : Cond.methodLink R_FK 201 y_Pip_append ∈ kTb := k_m3 77 rfl (by decide +kernel)
theorem tw_558 : Cond.instanceMethod y_Pip_append ∈ kTb := k_m3 78 rfl (by decide +kernel)
theorem tw_559 : Cond.selects y_Pip_append.cls y_Pip_append y_Pip_append ∈ kTb := k_m3 79 rfl (by decide +kernel)
theorem tw_560 : Cond.code y_Pip_append b_Pip_append 3 none ∈ kTb := k_m3 80 rfl (by decide +kernel)
theorem tw_561 : Cond.methodLink R_Law 143 y_Law_take ∈ kTb := k_m3 81 rfl (by decide +kernel)
theorem tw_562 : Cond.static y_Law_take ∈ kTb := k_m3 82 rfl (by decide +kernel)
theorem tw_563 : Cond.codeWith y_Law_take b_Law_take 5 (some .int) [(0, 10, 13, 13), (0, 10, 17, 30), (0, 10, 21, 21), (0, 10, 25, 15)] ∈ kTb := k_m3 83 rfl (by decide +kernel)
theorem tw_564 : Cond.methodLink R_Law 63 y_FK_take ∈ kTb := k_m3 84 rfl (by decide +kernel)
theorem tw_565 : Cond.instanceMethod y_FK_take ∈ kTb := k_m3 85 rfl (by decide +kernel)
theorem tw_566 : Cond.selects y_FK_take.cls y_FK_take y_FK_take ∈ kTb := k_m3 86 rfl (by decide +kernel)
theorem tw_567 : Cond.code y_FK_take b_FK_take 6 (some .int) ∈ kTb := k_m3 87 rfl (by decide +kernel)
theorem tw_569 : Cond.methodLink R_FK 206 y_Pip_removeFirst ∈ kTb := k_m3 89 rfl (by decide +kernel)
theorem tw_570 : Cond.instanceMethod y_Pip_removeFirst ∈ kTb := k_m3 90 rfl (by decide +kernel)
theorem tw_571 : Cond.selects y_Pip_removeFirst.cls y_Pip_removeFirst y_Pip_removeFirst ∈ kTb := k_m3 91 rfl (by decide +kernel)
theorem tw_572 : Cond.code y_Pip_removeFirst b_Pip_removeFirst 4 (some .int) ∈ kTb := k_m3 92 rfl (by decide +kernel)
theorem tw_573 : Cond.methodLink R_FK 209 y_Mem_setWord ∈ kTb := k_m3 93 rfl (by decide +kernel)
theorem tw_574 : Cond.methodLink R_Law 146 y_Law_read ∈ kTb := k_m3 94 rfl (by decide +kernel)
theorem tw_575 : Cond.static y_Law_read ∈ kTb := k_m3 95 rfl (by decide +kernel)
theorem tw_576 : Cond.codeWith y_Law_read b_Law_read 4 (some .int) [(0, 9, 12, 13), (0, 9, 15, 30), (0, 9, 18, 21)] ∈ kTb := k_m3 96 rfl (by decide +kernel)
theorem tw_577 : Cond.methodLink R_Law 66 y_FK_read ∈ kTb := k_m3 97 rfl (by decide +kernel)
theorem tw_578 : Cond.instanceMethod y_FK_read ∈ kTb := k_m3 98 rfl (by decide +kernel)
theorem tw_579 : Cond.selects y_FK_read.cls y_FK_read y_FK_read ∈ kTb := k_m3 99 rfl (by decide +kernel)
theorem tw_580 : Cond.code y_FK_read b_FK_read 3 (some .int) ∈ kTb := k_m3 100 rfl (by decide +kernel)
theorem tw_581 : Cond.methodLink R_Law 149 y_Law_write ∈ kTb := k_m3 101 rfl (by decide +kernel)
theorem tw_582 : Cond.static y_Law_write ∈ kTb := k_m3 102 rfl (by decide +kernel)
theorem tw_583 : Cond.codeWith y_Law_write b_Law_write 5 (some .int) [(0, 10, 13, 13), (0, 10, 17, 30), (0, 10, 21, 21)] ∈ kTb := k_m3 103 rfl (by decide +kernel)
theorem tw_584 : Cond.methodLink R_Law 69 y_FK_write ∈ kTb := k_m3 104 rfl (by decide +kernel)
theorem tw_585 : Cond.instanceMethod y_FK_write ∈ kTb := k_m3 105 rfl (by decide +kernel)
theorem tw_586 : Cond.selects y_FK_write.cls y_FK_write y_FK_write ∈ kTb := k_m3 106 rfl (by decide +kernel)
theorem tw_587 : Cond.code y_FK_write b_FK_write 5 (some .int) ∈ kTb := k_m3 107 rfl (by decide +kernel)
theorem tw_588 : Cond.methodLink R_Law 152 y_Law_expect ∈ kTb := k_m3 108 rfl (by decide +kernel)
theorem tw_589 : Cond.static y_Law_expect ∈ kTb := k_m3 109 rfl (by decide +kernel)
theorem tw_590 : Cond.codeWith y_Law_expect b_Law_expect 5 (some .int) [(0, 10, 13, 13), (0, 10, 17, 15), (0, 10, 21, 30), (0, 10, 25, 21)] ∈ kTb := k_m3 110 rfl (by decide +kernel)
theorem tw_591 : Cond.methodLink R_Law 72 y_FK_expect ∈ kTb := k_m3 111 rfl (by decide +kernel)
theorem tw_592 : Cond.instanceMethod y_FK_expect ∈ kTb := k_m3 112 rfl (by decide +kernel)
theorem tw_593 : Cond.selects y_FK_expect.cls y_FK_expect y_FK_expect ∈ kTb := k_m3 113 rfl (by decide +kernel)
theorem tw_594 : Cond.code y_FK_expect b_FK_expect 5 (some .int) ∈ kTb := k_m3 114 rfl (by decide +kernel)
theorem tw_596 : Cond.methodLink R_FK 220 y_Pro_await ∈ kTb := k_m3 116 rfl (by decide +kernel)
theorem tw_597 : Cond.instanceMethod y_Pro_await ∈ kTb := k_m3 117 rfl (by decide +kernel)
theorem tw_598 : Cond.selects y_Pro_await.cls y_Pro_await y_Pro_await ∈ kTb := k_m3 118 rfl (by decide +kernel)
theorem tw_599 : Cond.code y_Pro_await b_Pro_await 4 none ∈ kTb := k_m3 119 rfl (by decide +kernel)
theorem tw_600 : Cond.methodLink R_Law 155 y_Law_send ∈ kTb := k_m3 120 rfl (by decide +kernel)
theorem tw_601 : Cond.static y_Law_send ∈ kTb := k_m3 121 rfl (by decide +kernel)
theorem tw_602 : Cond.codeWith y_Law_send b_Law_send 5 (some .int) [(0, 10, 13, 13), (0, 10, 17, 15), (0, 10, 21, 30)] ∈ kTb := k_m3 122 rfl (by decide +kernel)
theorem tw_603 : Cond.methodLink R_Law 75 y_FK_send ∈ kTb := k_m3 123 rfl (by decide +kernel)
theorem tw_604 : Cond.instanceMethod y_FK_send ∈ kTb := k_m3 124 rfl (by decide +kernel)
theorem tw_605 : Cond.selects y_FK_send.cls y_FK_send y_FK_send ∈ kTb := k_m3 125 rfl (by decide +kernel)
theorem tw_606 : Cond.code y_FK_send b_FK_send 7 (some .int) ∈ kTb := k_m3 126 rfl (by decide +kernel)
theorem tw_608 : Cond.methodLink R_FK 228 y_Pro_awaitedTable ∈ kTb := k_m3 128 rfl (by decide +kernel)
theorem tw_609 : Cond.instanceMethod y_Pro_awaitedTable ∈ kTb := k_m3 129 rfl (by decide +kernel)
theorem tw_610 : Cond.selects y_Pro_awaitedTable.cls y_Pro_awaitedTable y_Pro_awaitedTable ∈ kTb := k_m3 130 rfl (by decide +kernel)
theorem tw_611 : Cond.code y_Pro_awaitedTable b_Pro_awaitedTable 2 (some .int) ∈ kTb := k_m3 131 rfl (by decide +kernel)
theorem tw_612 : Cond.methodLink R_FK 231 y_Pro_awaitedEntry ∈ kTb := k_m3 132 rfl (by decide +kernel)
theorem tw_613 : Cond.instanceMethod y_Pro_awaitedEntry ∈ kTb := k_m3 133 rfl (by decide +kernel)
theorem tw_614 : Cond.selects y_Pro_awaitedEntry.cls y_Pro_awaitedEntry y_Pro_awaitedEntry ∈ kTb := k_m3 134 rfl (by decide +kernel)
theorem tw_615 : Cond.code y_Pro_awaitedEntry b_Pro_awaitedEntry 2 (some .int) ∈ kTb := k_m3 135 rfl (by decide +kernel)
theorem tw_616 : Cond.methodLink R_FK 234 y_Mem_setOwner ∈ kTb := k_m3 136 rfl (by decide +kernel)
theorem tw_617 : Cond.instanceMethod y_Mem_setOwner ∈ kTb := k_m3 137 rfl (by decide +kernel)
theorem tw_618 : Cond.selects y_Mem_setOwner.cls y_Mem_setOwner y_Mem_setOwner ∈ kTb := k_m3 138 rfl (by decide +kernel)
theorem tw_619 : Cond.code y_Mem_setOwner b_Mem_setOwner 3 none ∈ kTb := k_m3 139 rfl (by decide +kernel)
theorem tw_620 : Cond.methodLink R_Law 158 y_Law_process ∈ kTb := k_m3 140 rfl (by decide +kernel)
theorem tw_621 : Cond.static y_Law_process ∈ kTb := k_m3 141 rfl (by decide +kernel)
theorem tw_622 : Cond.codeWith y_Law_process b_Law_process 5 (some .int) [(0, 10, 13, 13)] ∈ kTb := k_m3 142 rfl (by decide +kernel)
theorem tw_623 : Cond.methodLink R_Law 78 y_FK_process ∈ kTb := k_m3 143 rfl (by decide +kernel)
theorem tw_624 : Cond.instanceMethod y_FK_process ∈ kTb := k_m3 144 rfl (by decide +kernel)
theorem tw_625 : Cond.selects y_FK_process.cls y_FK_process y_FK_process ∈ kTb := k_m3 145 rfl (by decide +kernel)
theorem tw_626 : Cond.code y_FK_process b_FK_process 3 (some .int) ∈ kTb := k_m3 146 rfl (by decide +kernel)
theorem tw_627 : Cond.methodLink R_Law 161 y_Law_page ∈ kTb := k_m3 147 rfl (by decide +kernel)
theorem tw_628 : Cond.static y_Law_page ∈ kTb := k_m3 148 rfl (by decide +kernel)
theorem tw_629 : Cond.codeWith y_Law_page b_Law_page 5 (some .int) [(0, 10, 13, 13)] ∈ kTb := k_m3 149 rfl (by decide +kernel)
theorem tw_630 : Cond.methodLink R_Law 81 y_FK_page ∈ kTb := k_m3 150 rfl (by decide +kernel)
theorem tw_631 : Cond.instanceMethod y_FK_page ∈ kTb := k_m3 151 rfl (by decide +kernel)
theorem tw_632 : Cond.selects y_FK_page.cls y_FK_page y_FK_page ∈ kTb := k_m3 152 rfl (by decide +kernel)
theorem tw_633 : Cond.code y_FK_page b_FK_page 3 (some .int) ∈ kTb := k_m3 153 rfl (by decide +kernel)
theorem tw_634 : Cond.methodLink R_Law 164 y_Law_count ∈ kTb := k_m3 154 rfl (by decide +kernel)
theorem tw_635 : Cond.static y_Law_count ∈ kTb := k_m3 155 rfl (by decide +kernel)
theorem tw_636 : Cond.codeWith y_Law_count b_Law_count 4 (some .int) [(0, 9, 12, 13)] ∈ kTb := k_m3 156 rfl (by decide +kernel)
theorem tw_637 : Cond.methodLink R_Law 84 y_FK_count ∈ kTb := k_m3 157 rfl (by decide +kernel)
theorem tw_638 : Cond.instanceMethod y_FK_count ∈ kTb := k_m3 158 rfl (by decide +kernel)
theorem tw_639 : Cond.selects y_FK_count.cls y_FK_count y_FK_count ∈ kTb := k_m3 159 rfl (by decide +kernel)
theorem tw_640 : Cond.code y_FK_count b_FK_count 2 (some .int) ∈ kTb := k_m3 160 rfl (by decide +kernel)
theorem tw_641 : Cond.methodLink R_FK 252 y_Pro_notFree ∈ kTb := k_m3 161 rfl (by decide +kernel)
theorem tw_642 : Cond.instanceMethod y_Pro_notFree ∈ kTb := k_m3 162 rfl (by decide +kernel)
theorem tw_643 : Cond.selects y_Pro_notFree.cls y_Pro_notFree y_Pro_notFree ∈ kTb := k_m3 163 rfl (by decide +kernel)
theorem tw_644 : Cond.code y_Pro_notFree b_Pro_notFree 3 (some .int) ∈ kTb := k_m3 164 rfl (by decide +kernel)
theorem tw_645 : Cond.methodLink R_FK 256 y_FK_intsInOpenPipes ∈ kTb := k_m3 165 rfl (by decide +kernel)
theorem tw_646 : Cond.privateMethod y_FK_intsInOpenPipes ∈ kTb := k_m3 166 rfl (by decide +kernel)
theorem tw_647 : Cond.instanceMethod y_FK_intsInOpenPipes ∈ kTb := k_m3 167 rfl (by decide +kernel)
theorem tw_648 : Cond.code y_FK_intsInOpenPipes b_FK_intsInOpenPipes 3 (some .int) ∈ kTb := k_m3 168 rfl (by decide +kernel)
theorem tw_649 : Cond.classLink R_Law 88 R_Mod ∈ kTb := k_m3 169 rfl (by decide +kernel)
theorem tw_650 : Cond.instantiable R_Mod 15 ∈ kTb := k_m3 170 rfl (by decide +kernel)
theorem tw_651 : Cond.methodLink R_Law 90 y_Mod_init ∈ kTb := k_m3 171 rfl (by decide +kernel)
theorem tw_652 : Cond.instanceMethod y_Mod_init ∈ kTb := k_m3 172 rfl (by decide +kernel)
theorem tw_653 : Cond.code y_Mod_init b_Mod_init 2 none ∈ kTb := k_m3 173 rfl (by decide +kernel)
theorem tw_654 : Cond.methodLink R_Mod 1 (⟨"java/lang/Object", "<init>", "()V"⟩ : MethodName) ∈ kTb := k_m3 174 rfl (by decide +kernel)
theorem tw_655 : Cond.fieldLink R_Mod 50 R_Mod "thrown" "I" ∈ kTb := k_m3 175 rfl (by decide +kernel)
theorem tw_656 : Cond.fieldLink R_Mod 7 R_Mod "state" "[I" ∈ kTb := k_m3 176 rfl (by decide +kernel)
theorem tw_657 : Cond.fieldLink R_Mod 13 R_Mod "parent" "[I" ∈ kTb := k_m3 177 rfl (by decide +kernel)
theorem tw_658 : Cond.fieldLink R_Mod 16 R_Mod "root" "[I" ∈ kTb := k_m3 178 rfl (by decide +kernel)
theorem tw_659 : Cond.fieldLink R_Mod 19 R_Mod "descriptor" "[I" ∈ kTb := k_m3 179 rfl (by decide +kernel)
theorem tw_660 : Cond.fieldLink R_Mod 22 R_Mod "expects" "[I" ∈ kTb := k_m3 180 rfl (by decide +kernel)
theorem tw_661 : Cond.fieldLink R_Mod 25 R_Mod "kind" "[I" ∈ kTb := k_m3 181 rfl (by decide +kernel)
theorem tw_662 : Cond.fieldLink R_Mod 28 R_Mod "owner" "[I" ∈ kTb := k_m3 182 rfl (by decide +kernel)
theorem tw_663 : Cond.fieldLink R_Mod 31 R_Mod "entry" "[I" ∈ kTb := k_m3 183 rfl (by decide +kernel)
theorem tw_664 : Cond.fieldLink R_Mod 34 R_Mod "rights" "[I" ∈ kTb := k_m3 184 rfl (by decide +kernel)
theorem tw_665 : Cond.fieldLink R_Mod 37 R_Mod "word" "[I" ∈ kTb := k_m3 185 rfl (by decide +kernel)
theorem tw_666 : Cond.fieldLink R_Mod 40 R_Mod "pipe" "[I" ∈ kTb := k_m3 186 rfl (by decide +kernel)
theorem tw_667 : Cond.fieldLink R_Mod 43 R_Mod "held" "[I" ∈ kTb := k_m3 187 rfl (by decide +kernel)
theorem tw_668 : Cond.fieldLink R_Mod 46 R_Mod "caller" "I" ∈ kTb := k_m3 188 rfl (by decide +kernel)
theorem tw_669 : Cond.fieldLink R_Mod 108 R_Mod "wrong" "I" ∈ kTb := k_m3 189 rfl (by decide +kernel)
theorem tw_670 : Cond.lays R_Mod R_Mod "thrown" "I" ∈ kTb := k_m3 190 rfl (by decide +kernel)
theorem tw_671 : Cond.soleField R_Mod "thrown" ∈ kTb := k_m3 191 rfl (by decide +kernel)
theorem tw_672 : Cond.laysFinal R_Mod R_Mod "state" "[I" ∈ kTb := k_m3 192 rfl (by decide +kernel)
theorem tw_673 : Cond.soleField R_Mod "state" ∈ kTb := k_m3 193 rfl (by decide +kernel)
theorem tw_674 : Cond.laysFinal R_Mod R_Mod "parent" "[I" ∈ kTb := k_m3 194 rfl (by decide +kernel)
theorem tw_675 : Cond.soleField R_Mod "parent" ∈ kTb := k_m3 195 rfl (by decide +kernel)
theorem tw_676 : Cond.laysFinal R_Mod R_Mod "root" "[I" ∈ kTb := k_m3 196 rfl (by decide +kernel)
theorem tw_677 : Cond.soleField R_Mod "root" ∈ kTb := k_m3 197 rfl (by decide +kernel)
theorem tw_678 : Cond.laysFinal R_Mod R_Mod "descriptor" "[I" ∈ kTb := k_m3 198 rfl (by decide +kernel)
theorem tw_679 : Cond.soleField R_Mod "descriptor" ∈ kTb := k_m3 199 rfl (by decide +kernel)
theorem tw_680 : Cond.laysFinal R_Mod R_Mod "expects" "[I" ∈ kTb := k_m3 200 rfl (by decide +kernel)
theorem tw_681 : Cond.soleField R_Mod "expects" ∈ kTb := k_m3 201 rfl (by decide +kernel)
theorem tw_682 : Cond.laysFinal R_Mod R_Mod "kind" "[I" ∈ kTb := k_m3 202 rfl (by decide +kernel)
theorem tw_683 : Cond.soleField R_Mod "kind" ∈ kTb := k_m3 203 rfl (by decide +kernel)
theorem tw_684 : Cond.laysFinal R_Mod R_Mod "owner" "[I" ∈ kTb := k_m3 204 rfl (by decide +kernel)
theorem tw_685 : Cond.soleField R_Mod "owner" ∈ kTb := k_m3 205 rfl (by decide +kernel)
theorem tw_686 : Cond.laysFinal R_Mod R_Mod "entry" "[I" ∈ kTb := k_m3 206 rfl (by decide +kernel)
theorem tw_687 : Cond.soleField R_Mod "entry" ∈ kTb := k_m3 207 rfl (by decide +kernel)
theorem tw_688 : Cond.laysFinal R_Mod R_Mod "rights" "[I" ∈ kTb := k_m3 208 rfl (by decide +kernel)
theorem tw_689 : Cond.soleField R_Mod "rights" ∈ kTb := k_m3 209 rfl (by decide +kernel)
theorem tw_690 : Cond.laysFinal R_Mod R_Mod "word" "[I" ∈ kTb := k_m3 210 rfl (by decide +kernel)
theorem tw_691 : Cond.soleField R_Mod "word" ∈ kTb := k_m3 211 rfl (by decide +kernel)
theorem tw_692 : Cond.laysFinal R_Mod R_Mod "pipe" "[I" ∈ kTb := k_m3 212 rfl (by decide +kernel)
theorem tw_693 : Cond.soleField R_Mod "pipe" ∈ kTb := k_m3 213 rfl (by decide +kernel)
theorem tw_694 : Cond.laysFinal R_Mod R_Mod "held" "[I" ∈ kTb := k_m3 214 rfl (by decide +kernel)
theorem tw_695 : Cond.soleField R_Mod "held" ∈ kTb := k_m3 215 rfl (by decide +kernel)
theorem tw_696 : Cond.lays R_Mod R_Mod "caller" "I" ∈ kTb := k_m3 216 rfl (by decide +kernel)
theorem tw_697 : Cond.soleField R_Mod "caller" ∈ kTb := k_m3 217 rfl (by decide +kernel)
theorem tw_698 : Cond.lays R_Mod R_Mod "wrong" "I" ∈ kTb := k_m3 218 rfl (by decide +kernel)
theorem tw_699 : Cond.soleField R_Mod "wrong" ∈ kTb := k_m3 219 rfl (by decide +kernel)
theorem tw_700 : Cond.superclass R_Mod "java/lang/Object" ∈ kTb := k_m3 220 rfl (by decide +kernel)
theorem tw_701 : Cond.methodLink R_Law 97 y_Mod_thrown ∈ kTb := k_m3 221 rfl (by decide +kernel)
theorem tw_702 : Cond.instanceMethod y_Mod_thrown ∈ kTb := k_m3 222 rfl (by decide +kernel)
theorem tw_703 : Cond.selects y_Mod_thrown.cls y_Mod_thrown y_Mod_thrown ∈ kTb := k_m3 223 rfl (by decide +kernel)
theorem tw_704 : Cond.code y_Mod_thrown b_Mod_thrown 1 (some .int) ∈ kTb := k_m3 224 rfl (by decide +kernel)
theorem tw_705 : Cond.methodLink R_Law 96 y_Mod_spawn ∈ kTb := k_m3 225 rfl (by decide +kernel)
theorem tw_706 : Cond.instanceMethod y_Mod_spawn ∈ kTb := k_m3 226 rfl (by decide +kernel)
theorem tw_707 : Cond.selects y_Mod_spawn.cls y_Mod_spawn y_Mod_spawn ∈ kTb := k_m3 227 rfl (by decide +kernel)
theorem tw_708 : Cond.code y_Mod_spawn b_Mod_spawn 3 (some .int) ∈ kTb := k_m3 228 rfl (by decide +kernel)
theorem tw_709 : Cond.methodLink R_Mod 61 y_Mod_isProcess ∈ kTb := k_m3 229 rfl (by decide +kernel)
theorem tw_710 : Cond.static y_Mod_isProcess ∈ kTb := k_m3 230 rfl (by decide +kernel)
theorem tw_711 : Cond.code y_Mod_isProcess b_Mod_isProcess 1 (some .boolean) ∈ kTb := k_m3 231 rfl (by decide +kernel)
theorem tw_712 : Cond.methodLink R_Mod 53 y_Mod_in ∈ kTb := k_m3 232 rfl (by decide +kernel)
theorem tw_713 : Cond.static y_Mod_in ∈ kTb := k_m3 233 rfl (by decide +kernel)
theorem tw_714 : Cond.code y_Mod_in b_Mod_in 3 (some .boolean) ∈ kTb := k_m3 234 rfl (by decide +kernel)
theorem tw_715 : Cond.methodLink R_Mod 64 y_Mod_isPage ∈ kTb := k_m3 235 rfl (by decide +kernel)
theorem tw_716 : Cond.static y_Mod_isPage ∈ kTb := k_m3 236 rfl (by decide +kernel)
theorem tw_717 : Cond.code y_Mod_isPage b_Mod_isPage 1 (some .boolean) ∈ kTb := k_m3 237 rfl (by decide +kernel)
theorem tw_718 : Cond.methodLink R_Mod 67 y_Mod_raise ∈ kTb := k_m3 238 rfl (by decide +kernel)
theorem tw_719 : Cond.privateMethod y_Mod_raise ∈ kTb := k_m3 239 rfl (by decide +kernel)
theorem tw_720 : Cond.instanceMethod y_Mod_raise ∈ kTb := k_m4 0 rfl (by decide +kernel)
theorem tw_721 : Cond.code y_Mod_raise b_Mod_raise 2 (some .int) ∈ kTb := k_m4 1 rfl (by decide +kernel)
theorem tw_722 : Cond.methodLink R_Mod 71 y_Mod_become ∈ kTb := k_m4 2 rfl (by decide +kernel)
theorem tw_723 : Cond.privateMethod y_Mod_become ∈ kTb := k_m4 3 rfl (by decide +kernel)
theorem tw_724 : Cond.instanceMethod y_Mod_become ∈ kTb := k_m4 4 rfl (by decide +kernel)
theorem tw_725 : Cond.code y_Mod_become b_Mod_become 5 none ∈ kTb := k_m4 5 rfl (by decide +kernel)
theorem tw_726 : Cond.methodLink R_Law 104 y_Mod_table ∈ kTb := k_m4 6 rfl (by decide +kernel)
theorem tw_727 : Cond.instanceMethod y_Mod_table ∈ kTb := k_m4 7 rfl (by decide +kernel)
theorem tw_728 : Cond.selects y_Mod_table.cls y_Mod_table y_Mod_table ∈ kTb := k_m4 8 rfl (by decide +kernel)
theorem tw_729 : Cond.code y_Mod_table b_Mod_table 5 (some .int) ∈ kTb := k_m4 9 rfl (by decide +kernel)
theorem tw_730 : Cond.methodLink R_Mod 79 y_Mod_hang ∈ kTb := k_m4 10 rfl (by decide +kernel)
theorem tw_731 : Cond.privateMethod y_Mod_hang ∈ kTb := k_m4 11 rfl (by decide +kernel)
theorem tw_732 : Cond.instanceMethod y_Mod_hang ∈ kTb := k_m4 12 rfl (by decide +kernel)
theorem tw_733 : Cond.code y_Mod_hang b_Mod_hang 6 (some .int) ∈ kTb := k_m4 13 rfl (by decide +kernel)
theorem tw_734 : Cond.methodLink R_Mod 75 y_Mod_minePage ∈ kTb := k_m4 14 rfl (by decide +kernel)
theorem tw_735 : Cond.privateMethod y_Mod_minePage ∈ kTb := k_m4 15 rfl (by decide +kernel)
theorem tw_736 : Cond.instanceMethod y_Mod_minePage ∈ kTb := k_m4 16 rfl (by decide +kernel)
theorem tw_737 : Cond.code y_Mod_minePage b_Mod_minePage 3 (some .boolean) ∈ kTb := k_m4 17 rfl (by decide +kernel)
theorem tw_738 : Cond.methodLink R_Mod 57 y_Mod_mine ∈ kTb := k_m4 18 rfl (by decide +kernel)
theorem tw_739 : Cond.privateMethod y_Mod_mine ∈ kTb := k_m4 19 rfl (by decide +kernel)
theorem tw_740 : Cond.instanceMethod y_Mod_mine ∈ kTb := k_m4 20 rfl (by decide +kernel)
theorem tw_741 : Cond.code y_Mod_mine b_Mod_mine 2 (some .boolean) ∈ kTb := k_m4 21 rfl (by decide +kernel)
theorem tw_742 : Cond.methodLink R_Law 107 y_Mod_frame ∈ kTb := k_m4 22 rfl (by decide +kernel)
theorem tw_743 : Cond.instanceMethod y_Mod_frame ∈ kTb := k_m4 23 rfl (by decide +kernel)
theorem tw_744 : Cond.selects y_Mod_frame.cls y_Mod_frame y_Mod_frame ∈ kTb := k_m4 24 rfl (by decide +kernel)
theorem tw_745 : Cond.code y_Mod_frame b_Mod_frame 5 (some .int) ∈ kTb := k_m4 25 rfl (by decide +kernel)
theorem tw_746 : Cond.methodLink R_Law 111 y_Mod_protect ∈ kTb := k_m4 26 rfl (by decide +kernel)
theorem tw_747 : Cond.instanceMethod y_Mod_protect ∈ kTb := k_m4 27 rfl (by decide +kernel)
theorem tw_748 : Cond.selects y_Mod_protect.cls y_Mod_protect y_Mod_protect ∈ kTb := k_m4 28 rfl (by decide +kernel)
theorem tw_749 : Cond.code y_Mod_protect b_Mod_protect 5 (some .int) ∈ kTb := k_m4 29 rfl (by decide +kernel)
theorem tw_750 : Cond.methodLink R_Mod 83 y_Mod_holder ∈ kTb := k_m4 30 rfl (by decide +kernel)
theorem tw_751 : Cond.privateMethod y_Mod_holder ∈ kTb := k_m4 31 rfl (by decide +kernel)
theorem tw_752 : Cond.instanceMethod y_Mod_holder ∈ kTb := k_m4 32 rfl (by decide +kernel)
theorem tw_753 : Cond.code y_Mod_holder b_Mod_holder 2 (some .boolean) ∈ kTb := k_m4 33 rfl (by decide +kernel)
theorem tw_754 : Cond.methodLink R_Law 114 y_Mod_copy ∈ kTb := k_m4 34 rfl (by decide +kernel)
theorem tw_755 : Cond.instanceMethod y_Mod_copy ∈ kTb := k_m4 35 rfl (by decide +kernel)
theorem tw_756 : Cond.selects y_Mod_copy.cls y_Mod_copy y_Mod_copy ∈ kTb := k_m4 36 rfl (by decide +kernel)
theorem tw_757 : Cond.code y_Mod_copy b_Mod_copy 4 (some .int) ∈ kTb := k_m4 37 rfl (by decide +kernel)
theorem tw_758 : Cond.methodLink R_Law 117 y_Mod_release ∈ kTb := k_m4 38 rfl (by decide +kernel)
theorem tw_759 : Cond.instanceMethod y_Mod_release ∈ kTb := k_m4 39 rfl (by decide +kernel)
theorem tw_760 : Cond.selects y_Mod_release.cls y_Mod_release y_Mod_release ∈ kTb := k_m4 40 rfl (by decide +kernel)
theorem tw_761 : Cond.code y_Mod_release b_Mod_release 4 (some .int) ∈ kTb := k_m4 41 rfl (by decide +kernel)
theorem tw_762 : Cond.methodLink R_Mod 86 y_Mod_filled ∈ kTb := k_m4 42 rfl (by decide +kernel)
theorem tw_763 : Cond.privateMethod y_Mod_filled ∈ kTb := k_m4 43 rfl (by decide +kernel)
theorem tw_764 : Cond.instanceMethod y_Mod_filled ∈ kTb := k_m4 44 rfl (by decide +kernel)
theorem tw_765 : Cond.code y_Mod_filled b_Mod_filled 4 (some .int) ∈ kTb := k_m4 45 rfl (by decide +kernel)
theorem tw_766 : Cond.methodLink R_Law 121 y_Mod_start ∈ kTb := k_m4 46 rfl (by decide +kernel)
theorem tw_767 : Cond.instanceMethod y_Mod_start ∈ kTb := k_m4 47 rfl (by decide +kernel)
theorem tw_768 : Cond.selects y_Mod_start.cls y_Mod_start y_Mod_start ∈ kTb := k_m4 48 rfl (by decide +kernel)
theorem tw_769 : Cond.code y_Mod_start b_Mod_start 2 (some .int) ∈ kTb := k_m4 49 rfl (by decide +kernel)
theorem tw_770 : Cond.methodLink R_Law 124 y_Mod_give ∈ kTb := k_m4 50 rfl (by decide +kernel)
theorem tw_771 : Cond.instanceMethod y_Mod_give ∈ kTb := k_m4 51 rfl (by decide +kernel)
theorem tw_772 : Cond.selects y_Mod_give.cls y_Mod_give y_Mod_give ∈ kTb := k_m4 52 rfl (by decide +kernel)
theorem tw_773 : Cond.code y_Mod_give b_Mod_give 2 (some .int) ∈ kTb := k_m4 53 rfl (by decide +kernel)
theorem tw_774 : Cond.methodLink R_Mod 89 y_Mod_hand ∈ kTb := k_m4 54 rfl (by decide +kernel)
theorem tw_775 : Cond.privateMethod y_Mod_hand ∈ kTb := k_m4 55 rfl (by decide +kernel)
theorem tw_776 : Cond.instanceMethod y_Mod_hand ∈ kTb := k_m4 56 rfl (by decide +kernel)
theorem tw_777 : Cond.code y_Mod_hand b_Mod_hand 4 (some .int) ∈ kTb := k_m4 57 rfl (by decide +kernel)
theorem tw_778 : Cond.methodLink R_Law 127 y_Mod_kill ∈ kTb := k_m4 58 rfl (by decide +kernel)
theorem tw_779 : Cond.instanceMethod y_Mod_kill ∈ kTb := k_m4 59 rfl (by decide +kernel)
theorem tw_780 : Cond.selects y_Mod_kill.cls y_Mod_kill y_Mod_kill ∈ kTb := k_m4 60 rfl (by decide +kernel)
theorem tw_781 : Cond.code y_Mod_kill b_Mod_kill 3 (some .int) ∈ kTb := k_m4 61 rfl (by decide +kernel)
theorem tw_782 : Cond.methodLink R_Mod 93 y_Mod_nextReady ∈ kTb := k_m4 62 rfl (by decide +kernel)
theorem tw_783 : Cond.privateMethod y_Mod_nextReady ∈ kTb := k_m4 63 rfl (by decide +kernel)
theorem tw_784 : Cond.instanceMethod y_Mod_nextReady ∈ kTb := k_m4 64 rfl (by decide +kernel)
theorem tw_785 : Cond.code y_Mod_nextReady b_Mod_nextReady 4 (some .int) ∈ kTb := k_m4 65 rfl (by decide +kernel)
theorem tw_786 : Cond.methodLink R_Mod 96 y_Mod_descriptors ∈ kTb := k_m4 66 rfl (by decide +kernel)
theorem tw_787 : Cond.privateMethod y_Mod_descriptors ∈ kTb := k_m4 67 rfl (by decide +kernel)
theorem tw_788 : Cond.instanceMethod y_Mod_descriptors ∈ kTb := k_m4 68 rfl (by decide +kernel)
theorem tw_789 : Cond.code y_Mod_descriptors b_Mod_descriptors 4 (some .int) ∈ kTb := k_m4 69 rfl (by decide +kernel)
theorem tw_790 : Cond.methodLink R_Law 130 y_Mod_reap ∈ kTb := k_m4 70 rfl (by decide +kernel)
theorem tw_791 : Cond.instanceMethod y_Mod_reap ∈ kTb := k_m4 71 rfl (by decide +kernel)
theorem tw_792 : Cond.selects y_Mod_reap.cls y_Mod_reap y_Mod_reap ∈ kTb := k_m4 72 rfl (by decide +kernel)
theorem tw_793 : Cond.code y_Mod_reap b_Mod_reap 4 (some .int) ∈ kTb := k_m4 73 rfl (by decide +kernel)
theorem tw_794 : Cond.methodLink R_Mod 99 y_Mod_owned ∈ kTb := k_m4 74 rfl (by decide +kernel)
theorem tw_795 : Cond.privateMethod y_Mod_owned ∈ kTb := k_m4 75 rfl (by decide +kernel)
theorem tw_796 : Cond.instanceMethod y_Mod_owned ∈ kTb := k_m4 76 rfl (by decide +kernel)
theorem tw_797 : Cond.code y_Mod_owned b_Mod_owned 4 (some .int) ∈ kTb := k_m4 77 rfl (by decide +kernel)
theorem tw_798 : Cond.methodLink R_Law 133 y_Mod_open ∈ kTb := k_m4 78 rfl (by decide +kernel)
theorem tw_799 : Cond.instanceMethod y_Mod_open ∈ kTb := k_m4 79 rfl (by decide +kernel)
theorem tw_800 : Cond.selects y_Mod_open.cls y_Mod_open y_Mod_open ∈ kTb := k_m4 80 rfl (by decide +kernel)
theorem tw_801 : Cond.code y_Mod_open b_Mod_open 4 (some .int) ∈ kTb := k_m4 81 rfl (by decide +kernel)
theorem tw_802 : Cond.methodLink R_Mod 102 y_Mod_countOf ∈ kTb := k_m4 82 rfl (by decide +kernel)
theorem tw_803 : Cond.privateMethod y_Mod_countOf ∈ kTb := k_m4 83 rfl (by decide +kernel)
theorem tw_804 : Cond.instanceMethod y_Mod_countOf ∈ kTb := k_m4 84 rfl (by decide +kernel)
theorem tw_805 : Cond.code y_Mod_countOf b_Mod_countOf 4 (some .int) ∈ kTb := k_m4 85 rfl (by decide +kernel)
theorem tw_806 : Cond.methodLink R_Law 136 y_Mod_share ∈ kTb := k_m4 86 rfl (by decide +kernel)
theorem tw_807 : Cond.instanceMethod y_Mod_share ∈ kTb := k_m4 87 rfl (by decide +kernel)
theorem tw_808 : Cond.selects y_Mod_share.cls y_Mod_share y_Mod_share ∈ kTb := k_m4 88 rfl (by decide +kernel)
theorem tw_809 : Cond.code y_Mod_share b_Mod_share 5 (some .int) ∈ kTb := k_m4 89 rfl (by decide +kernel)
theorem tw_810 : Cond.methodLink R_Law 139 y_Mod_close ∈ kTb := k_m4 90 rfl (by decide +kernel)
theorem tw_811 : Cond.instanceMethod y_Mod_close ∈ kTb := k_m4 91 rfl (by decide +kernel)
theorem tw_812 : Cond.selects y_Mod_close.cls y_Mod_close y_Mod_close ∈ kTb := k_m4 92 rfl (by decide +kernel)
theorem tw_813 : Cond.code y_Mod_close b_Mod_close 4 (some .int) ∈ kTb := k_m4 93 rfl (by decide +kernel)
theorem tw_814 : Cond.methodLink R_Law 142 y_Mod_put ∈ kTb := k_m4 94 rfl (by decide +kernel)
theorem tw_815 : Cond.instanceMethod y_Mod_put ∈ kTb := k_m4 95 rfl (by decide +kernel)
theorem tw_816 : Cond.selects y_Mod_put.cls y_Mod_put y_Mod_put ∈ kTb := k_m4 96 rfl (by decide +kernel)
theorem tw_817 : Cond.code y_Mod_put b_Mod_put 5 (some .int) ∈ kTb := k_m4 97 rfl (by decide +kernel)
theorem tw_818 : Cond.methodLink R_Mod 111 y_Mod_walk ∈ kTb := k_m4 98 rfl (by decide +kernel)
theorem tw_819 : Cond.privateMethod y_Mod_walk ∈ kTb := k_m4 99 rfl (by decide +kernel)
theorem tw_820 : Cond.instanceMethod y_Mod_walk ∈ kTb := k_m4 100 rfl (by decide +kernel)
theorem tw_821 : Cond.code y_Mod_walk b_Mod_walk 4 (some .int) ∈ kTb := k_m4 101 rfl (by decide +kernel)
theorem tw_822 : Cond.methodLink R_Mod 105 y_Mod_frameEntry ∈ kTb := k_m4 102 rfl (by decide +kernel)
theorem tw_823 : Cond.privateMethod y_Mod_frameEntry ∈ kTb := k_m4 103 rfl (by decide +kernel)
theorem tw_824 : Cond.instanceMethod y_Mod_frameEntry ∈ kTb := k_m4 104 rfl (by decide +kernel)
theorem tw_825 : Cond.code y_Mod_frameEntry b_Mod_frameEntry 4 (some .int) ∈ kTb := k_m4 105 rfl (by decide +kernel)
theorem tw_826 : Cond.methodLink R_Law 145 y_Mod_take ∈ kTb := k_m4 106 rfl (by decide +kernel)
theorem tw_827 : Cond.instanceMethod y_Mod_take ∈ kTb := k_m4 107 rfl (by decide +kernel)
theorem tw_828 : Cond.selects y_Mod_take.cls y_Mod_take y_Mod_take ∈ kTb := k_m4 108 rfl (by decide +kernel)
theorem tw_829 : Cond.code y_Mod_take b_Mod_take 6 (some .int) ∈ kTb := k_m4 109 rfl (by decide +kernel)
theorem tw_830 : Cond.methodLink R_Law 148 y_Mod_read ∈ kTb := k_m4 110 rfl (by decide +kernel)
theorem tw_831 : Cond.instanceMethod y_Mod_read ∈ kTb := k_m4 111 rfl (by decide +kernel)
theorem tw_832 : Cond.selects y_Mod_read.cls y_Mod_read y_Mod_read ∈ kTb := k_m4 112 rfl (by decide +kernel)
theorem tw_833 : Cond.code y_Mod_read b_Mod_read 3 (some .int) ∈ kTb := k_m4 113 rfl (by decide +kernel)
theorem tw_834 : Cond.methodLink R_Law 151 y_Mod_write ∈ kTb := k_m4 114 rfl (by decide +kernel)
theorem tw_835 : Cond.instanceMethod y_Mod_write ∈ kTb := k_m4 115 rfl (by decide +kernel)
theorem tw_836 : Cond.selects y_Mod_write.cls y_Mod_write y_Mod_write ∈ kTb := k_m4 116 rfl (by decide +kernel)
theorem tw_837 : Cond.code y_Mod_write b_Mod_write 5 (some .int) ∈ kTb := k_m4 117 rfl (by decide +kernel)
theorem tw_838 : Cond.methodLink R_Law 154 y_Mod_expect ∈ kTb := k_m4 118 rfl (by decide +kernel)
theorem tw_839 : Cond.instanceMethod y_Mod_expect ∈ kTb := k_m4 119 rfl (by decide +kernel)
theorem tw_840 : Cond.selects y_Mod_expect.cls y_Mod_expect y_Mod_expect ∈ kTb := k_m4 120 rfl (by decide +kernel)
theorem tw_841 : Cond.code y_Mod_expect b_Mod_expect 4 (some .int) ∈ kTb := k_m4 121 rfl (by decide +kernel)
theorem tw_842 : Cond.methodLink R_Law 157 y_Mod_send ∈ kTb := k_m4 122 rfl (by decide +kernel)
theorem tw_843 : Cond.instanceMethod y_Mod_send ∈ kTb := k_m4 123 rfl (by decide +kernel)
theorem tw_844 : Cond.selects y_Mod_send.cls y_Mod_send y_Mod_send ∈ kTb := k_m4 124 rfl (by decide +kernel)
theorem tw_845 : Cond.code y_Mod_send b_Mod_send 6 (some .int) ∈ kTb := k_m4 125 rfl (by decide +kernel)
theorem tw_846 : Cond.methodLink R_Law 160 y_Mod_process ∈ kTb := k_m4 126 rfl (by decide +kernel)
theorem tw_847 : Cond.instanceMethod y_Mod_process ∈ kTb := k_m4 127 rfl (by decide +kernel)
theorem tw_848 : Cond.selects y_Mod_process.cls y_Mod_process y_Mod_process ∈ kTb := k_m4 128 rfl (by decide +kernel)
theorem tw_849 : Cond.code y_Mod_process b_Mod_process 3 (some .int) ∈ kTb := k_m4 129 rfl (by decide +kernel)
theorem tw_850 : Cond.methodLink R_Law 163 y_Mod_page ∈ kTb := k_m4 130 rfl (by decide +kernel)
theorem tw_851 : Cond.instanceMethod y_Mod_page ∈ kTb := k_m4 131 rfl (by decide +kernel)
theorem tw_852 : Cond.selects y_Mod_page.cls y_Mod_page y_Mod_page ∈ kTb := k_m4 132 rfl (by decide +kernel)
theorem tw_853 : Cond.code y_Mod_page b_Mod_page 3 (some .int) ∈ kTb := k_m4 133 rfl (by decide +kernel)
theorem tw_854 : Cond.methodLink R_Law 166 y_Mod_count ∈ kTb := k_m4 134 rfl (by decide +kernel)
theorem tw_855 : Cond.instanceMethod y_Mod_count ∈ kTb := k_m4 135 rfl (by decide +kernel)
theorem tw_856 : Cond.selects y_Mod_count.cls y_Mod_count y_Mod_count ∈ kTb := k_m4 136 rfl (by decide +kernel)
theorem tw_857 : Cond.code y_Mod_count b_Mod_count 4 (some .int) ∈ kTb := k_m4 137 rfl (by decide +kernel)
theorem tw_858 : Cond.arrayClass Jvm.ClassFile.FieldType.long ∈ kTb := k_m4 138 rfl (by decide +kernel)
theorem tw_859 : Cond.sameMethod "java/lang/Throwable" "java/lang/Throwable" "fillInStackTrace" "(I)Ljava/lang/Throwable;" ∈ kTb := k_m4 139 rfl (by decide +kernel)
theorem tw_9001 : Cond.selects y_FK_checkPageIsFree.cls y_FK_checkPageIsFree y_FK_checkPageIsFree ∈ kTb := k_mp 1 rfl (by decide +kernel)
theorem tw_9002 : Cond.selects y_FK_fillEntry.cls y_FK_fillEntry y_FK_fillEntry ∈ kTb := k_mp 2 rfl (by decide +kernel)
theorem tw_9003 : Cond.selects y_FK_isMyPage.cls y_FK_isMyPage y_FK_isMyPage ∈ kTb := k_mp 3 rfl (by decide +kernel)
theorem tw_9004 : Cond.selects y_FK_isMine.cls y_FK_isMine y_FK_isMine ∈ kTb := k_mp 4 rfl (by decide +kernel)
theorem tw_9005 : Cond.selects y_FK_isMyChild.cls y_FK_isMyChild y_FK_isMyChild ∈ kTb := k_mp 5 rfl (by decide +kernel)
theorem tw_9006 : Cond.selects y_FK_checkMyEntryIsFilled.cls y_FK_checkMyEntryIsFilled y_FK_checkMyEntryIsFilled ∈ kTb := k_mp 6 rfl (by decide +kernel)
theorem tw_9007 : Cond.selects y_FK_checkIsReady.cls y_FK_checkIsReady y_FK_checkIsReady ∈ kTb := k_mp 7 rfl (by decide +kernel)
theorem tw_9008 : Cond.selects y_FK_run.cls y_FK_run y_FK_run ∈ kTb := k_mp 8 rfl (by decide +kernel)
theorem tw_9009 : Cond.selects y_FK_handOverToNextReady.cls y_FK_handOverToNextReady y_FK_handOverToNextReady ∈ kTb := k_mp 9 rfl (by decide +kernel)
theorem tw_9010 : Cond.selects y_FK_isMyLivingChild.cls y_FK_isMyLivingChild y_FK_isMyLivingChild ∈ kTb := k_mp 10 rfl (by decide +kernel)
theorem tw_9011 : Cond.selects y_FK_holdsMoreThanRoot.cls y_FK_holdsMoreThanRoot y_FK_holdsMoreThanRoot ∈ kTb := k_mp 11 rfl (by decide +kernel)
theorem tw_9012 : Cond.selects y_FK_checkIsMine.cls y_FK_checkIsMine y_FK_checkIsMine ∈ kTb := k_mp 12 rfl (by decide +kernel)
theorem tw_9013 : Cond.selects y_FK_checkDescriptorIsUnused.cls y_FK_checkDescriptorIsUnused y_FK_checkDescriptorIsUnused ∈ kTb := k_mp 13 rfl (by decide +kernel)
theorem tw_9014 : Cond.selects y_FK_connect.cls y_FK_connect y_FK_connect ∈ kTb := k_mp 14 rfl (by decide +kernel)
theorem tw_9015 : Cond.selects y_FK_pipeBehind.cls y_FK_pipeBehind y_FK_pipeBehind ∈ kTb := k_mp 15 rfl (by decide +kernel)
theorem tw_9016 : Cond.selects y_FK_frameWithRight.cls y_FK_frameWithRight y_FK_frameWithRight ∈ kTb := k_mp 16 rfl (by decide +kernel)
theorem tw_9017 : Cond.selects y_FK_frameAt.cls y_FK_frameAt y_FK_frameAt ∈ kTb := k_mp 17 rfl (by decide +kernel)
theorem tw_9018 : Cond.selects y_FK_tableAt.cls y_FK_tableAt y_FK_tableAt ∈ kTb := k_mp 18 rfl (by decide +kernel)
theorem tw_9019 : Cond.selects y_FK_intsInOpenPipes.cls y_FK_intsInOpenPipes y_FK_intsInOpenPipes ∈ kTb := k_mp 19 rfl (by decide +kernel)
theorem tw_9020 : Cond.selects y_Mod_raise.cls y_Mod_raise y_Mod_raise ∈ kTb := k_mp 20 rfl (by decide +kernel)
theorem tw_9021 : Cond.selects y_Mod_become.cls y_Mod_become y_Mod_become ∈ kTb := k_mp 21 rfl (by decide +kernel)
theorem tw_9022 : Cond.selects y_Mod_hang.cls y_Mod_hang y_Mod_hang ∈ kTb := k_mp 22 rfl (by decide +kernel)
theorem tw_9023 : Cond.selects y_Mod_minePage.cls y_Mod_minePage y_Mod_minePage ∈ kTb := k_mp 23 rfl (by decide +kernel)
theorem tw_9024 : Cond.selects y_Mod_mine.cls y_Mod_mine y_Mod_mine ∈ kTb := k_mp 24 rfl (by decide +kernel)
theorem tw_9025 : Cond.selects y_Mod_holder.cls y_Mod_holder y_Mod_holder ∈ kTb := k_mp 25 rfl (by decide +kernel)
theorem tw_9026 : Cond.selects y_Mod_filled.cls y_Mod_filled y_Mod_filled ∈ kTb := k_mp 26 rfl (by decide +kernel)
theorem tw_9027 : Cond.selects y_Mod_hand.cls y_Mod_hand y_Mod_hand ∈ kTb := k_mp 27 rfl (by decide +kernel)
theorem tw_9028 : Cond.selects y_Mod_nextReady.cls y_Mod_nextReady y_Mod_nextReady ∈ kTb := k_mp 28 rfl (by decide +kernel)
theorem tw_9029 : Cond.selects y_Mod_descriptors.cls y_Mod_descriptors y_Mod_descriptors ∈ kTb := k_mp 29 rfl (by decide +kernel)
theorem tw_9030 : Cond.selects y_Mod_owned.cls y_Mod_owned y_Mod_owned ∈ kTb := k_mp 30 rfl (by decide +kernel)
theorem tw_9031 : Cond.selects y_Mod_countOf.cls y_Mod_countOf y_Mod_countOf ∈ kTb := k_mp 31 rfl (by decide +kernel)
theorem tw_9032 : Cond.selects y_Mod_walk.cls y_Mod_walk y_Mod_walk ∈ kTb := k_mp 32 rfl (by decide +kernel)
theorem tw_9033 : Cond.selects y_Mod_frameEntry.cls y_Mod_frameEntry y_Mod_frameEntry ∈ kTb := k_mp 33 rfl (by decide +kernel)
theorem i_FK : ∀ w ∈ u_ws R_FK T_FK 4, w ∈ kTb := by
  show ∀ w ∈ [Cond.laysFinal R_FK "FiniteKernel" "memory" "LFiniteKernel$Memory;", Cond.laysFinal R_FK "FiniteKernel" "processes" "LFiniteKernel$Processes;", Cond.laysFinal R_FK "FiniteKernel" "pipes" "LFiniteKernel$Pipes;", Cond.lays R_FK "FiniteKernel" "caller" "I"], w ∈ kTb
  exact (List.forall_mem_cons.mpr ⟨tw_120, (List.forall_mem_cons.mpr ⟨tw_122, (List.forall_mem_cons.mpr ⟨tw_124, (List.forall_mem_cons.mpr ⟨tw_126, (fun _ h => absurd h List.not_mem_nil)⟩)⟩)⟩)⟩)
theorem i_Mem : ∀ w ∈ u_ws R_Mem T_Mem 5, w ∈ kTb := by
  show ∀ w ∈ [Cond.laysFinal R_Mem "FiniteKernel$Memory" "kinds" "[I", Cond.laysFinal R_Mem "FiniteKernel$Memory" "owners" "[I", Cond.laysFinal R_Mem "FiniteKernel$Memory" "entryPages" "[I", Cond.laysFinal R_Mem "FiniteKernel$Memory" "entryRights" "[I", Cond.laysFinal R_Mem "FiniteKernel$Memory" "words" "[I"], w ∈ kTb
  exact (List.forall_mem_cons.mpr ⟨tw_52, (List.forall_mem_cons.mpr ⟨tw_54, (List.forall_mem_cons.mpr ⟨tw_56, (List.forall_mem_cons.mpr ⟨tw_58, (List.forall_mem_cons.mpr ⟨tw_60, (fun _ h => absurd h List.not_mem_nil)⟩)⟩)⟩)⟩)⟩)
theorem i_Pro : ∀ w ∈ u_ws R_Pro T_Pro 6, w ∈ kTb := by
  show ∀ w ∈ [Cond.laysFinal R_Pro "FiniteKernel$Processes" "states" "[I", Cond.laysFinal R_Pro "FiniteKernel$Processes" "parents" "[I", Cond.laysFinal R_Pro "FiniteKernel$Processes" "roots" "[I", Cond.laysFinal R_Pro "FiniteKernel$Processes" "descriptors" "[I", Cond.laysFinal R_Pro "FiniteKernel$Processes" "awaitedTables" "[I", Cond.laysFinal R_Pro "FiniteKernel$Processes" "awaitedEntries" "[I"], w ∈ kTb
  exact (List.forall_mem_cons.mpr ⟨tw_88, (List.forall_mem_cons.mpr ⟨tw_90, (List.forall_mem_cons.mpr ⟨tw_92, (List.forall_mem_cons.mpr ⟨tw_94, (List.forall_mem_cons.mpr ⟨tw_96, (List.forall_mem_cons.mpr ⟨tw_98, (fun _ h => absurd h List.not_mem_nil)⟩)⟩)⟩)⟩)⟩)⟩)
theorem i_Pip : ∀ w ∈ u_ws R_Pip T_Pip 2, w ∈ kTb := by
  show ∀ w ∈ [Cond.laysFinal R_Pip "FiniteKernel$Pipes" "sizes" "[I", Cond.laysFinal R_Pip "FiniteKernel$Pipes" "ints" "[I"], w ∈ kTb
  exact (List.forall_mem_cons.mpr ⟨tw_109, (List.forall_mem_cons.mpr ⟨tw_111, (fun _ h => absurd h List.not_mem_nil)⟩)⟩)
theorem i_Mod : ∀ w ∈ u_ws R_Mod T_Mod 15, w ∈ kTb := by
  show ∀ w ∈ [Cond.lays R_Mod "FiniteKernelModel" "thrown" "I", Cond.laysFinal R_Mod "FiniteKernelModel" "state" "[I", Cond.laysFinal R_Mod "FiniteKernelModel" "parent" "[I", Cond.laysFinal R_Mod "FiniteKernelModel" "root" "[I", Cond.laysFinal R_Mod "FiniteKernelModel" "descriptor" "[I", Cond.laysFinal R_Mod "FiniteKernelModel" "expects" "[I", Cond.laysFinal R_Mod "FiniteKernelModel" "kind" "[I", Cond.laysFinal R_Mod "FiniteKernelModel" "owner" "[I", Cond.laysFinal R_Mod "FiniteKernelModel" "entry" "[I", Cond.laysFinal R_Mod "FiniteKernelModel" "rights" "[I", Cond.laysFinal R_Mod "FiniteKernelModel" "word" "[I", Cond.laysFinal R_Mod "FiniteKernelModel" "pipe" "[I", Cond.laysFinal R_Mod "FiniteKernelModel" "held" "[I", Cond.lays R_Mod "FiniteKernelModel" "caller" "I", Cond.lays R_Mod "FiniteKernelModel" "wrong" "I"], w ∈ kTb
  exact (List.forall_mem_cons.mpr ⟨tw_670, (List.forall_mem_cons.mpr ⟨tw_672, (List.forall_mem_cons.mpr ⟨tw_674, (List.forall_mem_cons.mpr ⟨tw_676, (List.forall_mem_cons.mpr ⟨tw_678, (List.forall_mem_cons.mpr ⟨tw_680, (List.forall_mem_cons.mpr ⟨tw_682, (List.forall_mem_cons.mpr ⟨tw_684, (List.forall_mem_cons.mpr ⟨tw_686, (List.forall_mem_cons.mpr ⟨tw_688, (List.forall_mem_cons.mpr ⟨tw_690, (List.forall_mem_cons.mpr ⟨tw_692, (List.forall_mem_cons.mpr ⟨tw_694, (List.forall_mem_cons.mpr ⟨tw_696, (List.forall_mem_cons.mpr ⟨tw_698, (fun _ h => absurd h List.not_mem_nil)⟩)⟩)⟩)⟩)⟩)⟩)⟩)⟩)⟩)⟩)⟩)⟩)⟩)⟩)⟩)
end
section
theorem d_Mem_init_0 : decode b_Mem_init 0 = .ok (.aload_n 0, 1) := by decide +kernel
theorem d_Mem_init_1 : decode b_Mem_init 1 = .ok (.invokespecial 3, 3) := by decide +kernel
theorem d_Mem_init_4 : decode b_Mem_init 4 = .ok (.aload_n 0, 1) := by decide +kernel
theorem d_Mem_init_5 : decode b_Mem_init 5 = .ok (.bipush 20, 2) := by decide +kernel
theorem d_Mem_init_7 : decode b_Mem_init 7 = .ok (.newarray .int, 2) := by decide +kernel
theorem d_Mem_init_9 : decode b_Mem_init 9 = .ok (.putfield 9, 3) := by decide +kernel
theorem d_Mem_init_12 : decode b_Mem_init 12 = .ok (.aload_n 0, 1) := by decide +kernel
theorem d_Mem_init_13 : decode b_Mem_init 13 = .ok (.bipush 20, 2) := by decide +kernel
theorem d_Mem_init_15 : decode b_Mem_init 15 = .ok (.newarray .int, 2) := by decide +kernel
theorem d_Mem_init_17 : decode b_Mem_init 17 = .ok (.putfield 15, 3) := by decide +kernel
theorem d_Mem_init_20 : decode b_Mem_init 20 = .ok (.aload_n 0, 1) := by decide +kernel
theorem d_Mem_init_21 : decode b_Mem_init 21 = .ok (.bipush 80, 2) := by decide +kernel
theorem d_Mem_init_23 : decode b_Mem_init 23 = .ok (.newarray .int, 2) := by decide +kernel
theorem d_Mem_init_25 : decode b_Mem_init 25 = .ok (.putfield 18, 3) := by decide +kernel
theorem d_Mem_init_28 : decode b_Mem_init 28 = .ok (.aload_n 0, 1) := by decide +kernel
theorem d_Mem_init_29 : decode b_Mem_init 29 = .ok (.bipush 80, 2) := by decide +kernel
theorem d_Mem_init_31 : decode b_Mem_init 31 = .ok (.newarray .int, 2) := by decide +kernel
theorem d_Mem_init_33 : decode b_Mem_init 33 = .ok (.putfield 21, 3) := by decide +kernel
theorem d_Mem_init_36 : decode b_Mem_init 36 = .ok (.aload_n 0, 1) := by decide +kernel
theorem d_Mem_init_37 : decode b_Mem_init 37 = .ok (.bipush 80, 2) := by decide +kernel
theorem d_Mem_init_39 : decode b_Mem_init 39 = .ok (.newarray .int, 2) := by decide +kernel
theorem d_Mem_init_41 : decode b_Mem_init 41 = .ok (.putfield 24, 3) := by decide +kernel
theorem d_Mem_init_44 : decode b_Mem_init 44 = .ok (.iconst 0, 1) := by decide +kernel
theorem d_Mem_init_45 : decode b_Mem_init 45 = .ok (.istore_n 1, 1) := by decide +kernel
theorem d_Mem_init_46 : decode b_Mem_init 46 = .ok (.iload_n 1, 1) := by decide +kernel
theorem d_Mem_init_47 : decode b_Mem_init 47 = .ok (.bipush 20, 2) := by decide +kernel
theorem d_Mem_init_49 : decode b_Mem_init 49 = .ok (.if_icmp .ge 14, 3) := by decide +kernel
theorem d_Mem_init_52 : decode b_Mem_init 52 = .ok (.aload_n 0, 1) := by decide +kernel
theorem d_Mem_init_53 : decode b_Mem_init 53 = .ok (.iload_n 1, 1) := by decide +kernel
theorem d_Mem_init_54 : decode b_Mem_init 54 = .ok (.invokevirtual 27, 3) := by decide +kernel
theorem d_Mem_init_57 : decode b_Mem_init 57 = .ok (.iinc 1 1, 3) := by decide +kernel
theorem d_Mem_init_60 : decode b_Mem_init 60 = .ok (.goto (-14), 3) := by decide +kernel
theorem d_Mem_init_63 : decode b_Mem_init 63 = .ok (.return_, 1) := by decide +kernel
theorem d_Mem_setFree_0 : decode b_Mem_setFree 0 = .ok (.aload_n 0, 1) := by decide +kernel
theorem d_Mem_setFree_1 : decode b_Mem_setFree 1 = .ok (.iload_n 1, 1) := by decide +kernel
theorem d_Mem_setFree_2 : decode b_Mem_setFree 2 = .ok (.iconst 0, 1) := by decide +kernel
theorem d_Mem_setFree_3 : decode b_Mem_setFree 3 = .ok (.iconst 0, 1) := by decide +kernel
theorem d_Mem_setFree_4 : decode b_Mem_setFree 4 = .ok (.invokevirtual 39, 3) := by decide +kernel
theorem d_Mem_setFree_7 : decode b_Mem_setFree 7 = .ok (.return_, 1) := by decide +kernel
theorem d_Mem_become_0 : decode b_Mem_become 0 = .ok (.aload_n 0, 1) := by decide +kernel
theorem d_Mem_become_1 : decode b_Mem_become 1 = .ok (.getfield 9, 3) := by decide +kernel
theorem d_Mem_become_4 : decode b_Mem_become 4 = .ok (.iload_n 1, 1) := by decide +kernel
theorem d_Mem_become_5 : decode b_Mem_become 5 = .ok (.iload_n 2, 1) := by decide +kernel
theorem d_Mem_become_6 : decode b_Mem_become 6 = .ok (.iastore, 1) := by decide +kernel
theorem d_Mem_become_7 : decode b_Mem_become 7 = .ok (.aload_n 0, 1) := by decide +kernel
theorem d_Mem_become_8 : decode b_Mem_become 8 = .ok (.getfield 15, 3) := by decide +kernel
theorem d_Mem_become_11 : decode b_Mem_become 11 = .ok (.iload_n 1, 1) := by decide +kernel
theorem d_Mem_become_12 : decode b_Mem_become 12 = .ok (.iload_n 3, 1) := by decide +kernel
theorem d_Mem_become_13 : decode b_Mem_become 13 = .ok (.iastore, 1) := by decide +kernel
theorem d_Mem_become_14 : decode b_Mem_become 14 = .ok (.iconst 0, 1) := by decide +kernel
theorem d_Mem_become_15 : decode b_Mem_become 15 = .ok (.istore 4, 2) := by decide +kernel
theorem d_Mem_become_17 : decode b_Mem_become 17 = .ok (.iload 4, 2) := by decide +kernel
theorem d_Mem_become_19 : decode b_Mem_become 19 = .ok (.iconst 4, 1) := by decide +kernel
theorem d_Mem_become_20 : decode b_Mem_become 20 = .ok (.if_icmp .ge 24, 3) := by decide +kernel
theorem d_Mem_become_23 : decode b_Mem_become 23 = .ok (.aload_n 0, 1) := by decide +kernel
theorem d_Mem_become_24 : decode b_Mem_become 24 = .ok (.iload_n 1, 1) := by decide +kernel
theorem d_Mem_become_25 : decode b_Mem_become 25 = .ok (.iload 4, 2) := by decide +kernel
theorem d_Mem_become_27 : decode b_Mem_become 27 = .ok (.invokevirtual 31, 3) := by decide +kernel
theorem d_Mem_become_30 : decode b_Mem_become 30 = .ok (.aload_n 0, 1) := by decide +kernel
theorem d_Mem_become_31 : decode b_Mem_become 31 = .ok (.iload_n 1, 1) := by decide +kernel
theorem d_Mem_become_32 : decode b_Mem_become 32 = .ok (.iload 4, 2) := by decide +kernel
theorem d_Mem_become_34 : decode b_Mem_become 34 = .ok (.iconst 0, 1) := by decide +kernel
theorem d_Mem_become_35 : decode b_Mem_become 35 = .ok (.invokevirtual 35, 3) := by decide +kernel
theorem d_Mem_become_38 : decode b_Mem_become 38 = .ok (.iinc 4 1, 3) := by decide +kernel
theorem d_Mem_become_41 : decode b_Mem_become 41 = .ok (.goto (-24), 3) := by decide +kernel
theorem d_Mem_become_44 : decode b_Mem_become 44 = .ok (.return_, 1) := by decide +kernel
theorem d_Mem_clearEntry_0 : decode b_Mem_clearEntry 0 = .ok (.aload_n 0, 1) := by decide +kernel
theorem d_Mem_clearEntry_1 : decode b_Mem_clearEntry 1 = .ok (.iload_n 1, 1) := by decide +kernel
theorem d_Mem_clearEntry_2 : decode b_Mem_clearEntry 2 = .ok (.iload_n 2, 1) := by decide +kernel
theorem d_Mem_clearEntry_3 : decode b_Mem_clearEntry 3 = .ok (.iconst (-1), 1) := by decide +kernel
theorem d_Mem_clearEntry_4 : decode b_Mem_clearEntry 4 = .ok (.iconst 0, 1) := by decide +kernel
theorem d_Mem_clearEntry_5 : decode b_Mem_clearEntry 5 = .ok (.invokevirtual 42, 3) := by decide +kernel
theorem d_Mem_clearEntry_8 : decode b_Mem_clearEntry 8 = .ok (.return_, 1) := by decide +kernel
theorem d_Mem_setEntry_0 : decode b_Mem_setEntry 0 = .ok (.aload_n 0, 1) := by decide +kernel
theorem d_Mem_setEntry_1 : decode b_Mem_setEntry 1 = .ok (.getfield 18, 3) := by decide +kernel
theorem d_Mem_setEntry_4 : decode b_Mem_setEntry 4 = .ok (.iload_n 1, 1) := by decide +kernel
theorem d_Mem_setEntry_5 : decode b_Mem_setEntry 5 = .ok (.iconst 4, 1) := by decide +kernel
theorem d_Mem_setEntry_6 : decode b_Mem_setEntry 6 = .ok (.imul, 1) := by decide +kernel
theorem d_Mem_setEntry_7 : decode b_Mem_setEntry 7 = .ok (.iload_n 2, 1) := by decide +kernel
theorem d_Mem_setEntry_8 : decode b_Mem_setEntry 8 = .ok (.iadd, 1) := by decide +kernel
theorem d_Mem_setEntry_9 : decode b_Mem_setEntry 9 = .ok (.iload_n 3, 1) := by decide +kernel
theorem d_Mem_setEntry_10 : decode b_Mem_setEntry 10 = .ok (.iastore, 1) := by decide +kernel
theorem d_Mem_setEntry_11 : decode b_Mem_setEntry 11 = .ok (.aload_n 0, 1) := by decide +kernel
theorem d_Mem_setEntry_12 : decode b_Mem_setEntry 12 = .ok (.getfield 21, 3) := by decide +kernel
theorem d_Mem_setEntry_15 : decode b_Mem_setEntry 15 = .ok (.iload_n 1, 1) := by decide +kernel
theorem d_Mem_setEntry_16 : decode b_Mem_setEntry 16 = .ok (.iconst 4, 1) := by decide +kernel
theorem d_Mem_setEntry_17 : decode b_Mem_setEntry 17 = .ok (.imul, 1) := by decide +kernel
theorem d_Mem_setEntry_18 : decode b_Mem_setEntry 18 = .ok (.iload_n 2, 1) := by decide +kernel
theorem d_Mem_setEntry_19 : decode b_Mem_setEntry 19 = .ok (.iadd, 1) := by decide +kernel
theorem d_Mem_setEntry_20 : decode b_Mem_setEntry 20 = .ok (.iload 4, 2) := by decide +kernel
theorem d_Mem_setEntry_22 : decode b_Mem_setEntry 22 = .ok (.iastore, 1) := by decide +kernel
theorem d_Mem_setEntry_23 : decode b_Mem_setEntry 23 = .ok (.return_, 1) := by decide +kernel
theorem d_Mem_setWord_0 : decode b_Mem_setWord 0 = .ok (.aload_n 0, 1) := by decide +kernel
theorem d_Mem_setWord_1 : decode b_Mem_setWord 1 = .ok (.getfield 24, 3) := by decide +kernel
theorem d_Mem_setWord_4 : decode b_Mem_setWord 4 = .ok (.iload_n 1, 1) := by decide +kernel
theorem d_Mem_setWord_5 : decode b_Mem_setWord 5 = .ok (.iconst 4, 1) := by decide +kernel
theorem d_Mem_setWord_6 : decode b_Mem_setWord 6 = .ok (.imul, 1) := by decide +kernel
theorem d_Mem_setWord_7 : decode b_Mem_setWord 7 = .ok (.iload_n 2, 1) := by decide +kernel
theorem d_Mem_setWord_8 : decode b_Mem_setWord 8 = .ok (.iadd, 1) := by decide +kernel
theorem d_Mem_setWord_9 : decode b_Mem_setWord 9 = .ok (.iload_n 3, 1) := by decide +kernel
theorem d_Mem_setWord_10 : decode b_Mem_setWord 10 = .ok (.iastore, 1) := by decide +kernel
theorem d_Mem_setWord_11 : decode b_Mem_setWord 11 = .ok (.return_, 1) := by decide +kernel
theorem d_Pro_init_0 : decode b_Pro_init 0 = .ok (.aload_n 0, 1) := by decide +kernel
theorem d_Pro_init_1 : decode b_Pro_init 1 = .ok (.invokespecial 3, 3) := by decide +kernel
theorem d_Pro_init_4 : decode b_Pro_init 4 = .ok (.aload_n 0, 1) := by decide +kernel
theorem d_Pro_init_5 : decode b_Pro_init 5 = .ok (.bipush 6, 2) := by decide +kernel
theorem d_Pro_init_7 : decode b_Pro_init 7 = .ok (.newarray .int, 2) := by decide +kernel
theorem d_Pro_init_9 : decode b_Pro_init 9 = .ok (.putfield 9, 3) := by decide +kernel
theorem d_Pro_init_12 : decode b_Pro_init 12 = .ok (.aload_n 0, 1) := by decide +kernel
theorem d_Pro_init_13 : decode b_Pro_init 13 = .ok (.bipush 6, 2) := by decide +kernel
theorem d_Pro_init_15 : decode b_Pro_init 15 = .ok (.newarray .int, 2) := by decide +kernel
theorem d_Pro_init_17 : decode b_Pro_init 17 = .ok (.putfield 15, 3) := by decide +kernel
theorem d_Pro_init_20 : decode b_Pro_init 20 = .ok (.aload_n 0, 1) := by decide +kernel
theorem d_Pro_init_21 : decode b_Pro_init 21 = .ok (.bipush 6, 2) := by decide +kernel
theorem d_Pro_init_23 : decode b_Pro_init 23 = .ok (.newarray .int, 2) := by decide +kernel
theorem d_Pro_init_25 : decode b_Pro_init 25 = .ok (.putfield 18, 3) := by decide +kernel
theorem d_Pro_init_28 : decode b_Pro_init 28 = .ok (.aload_n 0, 1) := by decide +kernel
theorem d_Pro_init_29 : decode b_Pro_init 29 = .ok (.bipush 24, 2) := by decide +kernel
theorem d_Pro_init_31 : decode b_Pro_init 31 = .ok (.newarray .int, 2) := by decide +kernel
theorem d_Pro_init_33 : decode b_Pro_init 33 = .ok (.putfield 21, 3) := by decide +kernel
theorem d_Pro_init_36 : decode b_Pro_init 36 = .ok (.aload_n 0, 1) := by decide +kernel
theorem d_Pro_init_37 : decode b_Pro_init 37 = .ok (.bipush 6, 2) := by decide +kernel
theorem d_Pro_init_39 : decode b_Pro_init 39 = .ok (.newarray .int, 2) := by decide +kernel
theorem d_Pro_init_41 : decode b_Pro_init 41 = .ok (.putfield 24, 3) := by decide +kernel
theorem d_Pro_init_44 : decode b_Pro_init 44 = .ok (.aload_n 0, 1) := by decide +kernel
theorem d_Pro_init_45 : decode b_Pro_init 45 = .ok (.bipush 6, 2) := by decide +kernel
theorem d_Pro_init_47 : decode b_Pro_init 47 = .ok (.newarray .int, 2) := by decide +kernel
theorem d_Pro_init_49 : decode b_Pro_init 49 = .ok (.putfield 27, 3) := by decide +kernel
theorem d_Pro_init_52 : decode b_Pro_init 52 = .ok (.iconst 0, 1) := by decide +kernel
theorem d_Pro_init_53 : decode b_Pro_init 53 = .ok (.istore_n 1, 1) := by decide +kernel
theorem d_Pro_init_54 : decode b_Pro_init 54 = .ok (.iload_n 1, 1) := by decide +kernel
theorem d_Pro_init_55 : decode b_Pro_init 55 = .ok (.iconst 5, 1) := by decide +kernel
theorem d_Pro_init_56 : decode b_Pro_init 56 = .ok (.if_icmp .gt 14, 3) := by decide +kernel
theorem d_Pro_init_59 : decode b_Pro_init 59 = .ok (.aload_n 0, 1) := by decide +kernel
theorem d_Pro_init_60 : decode b_Pro_init 60 = .ok (.iload_n 1, 1) := by decide +kernel
theorem d_Pro_init_61 : decode b_Pro_init 61 = .ok (.invokevirtual 30, 3) := by decide +kernel
theorem d_Pro_init_64 : decode b_Pro_init 64 = .ok (.iinc 1 1, 3) := by decide +kernel
theorem d_Pro_init_67 : decode b_Pro_init 67 = .ok (.goto (-13), 3) := by decide +kernel
theorem d_Pro_init_70 : decode b_Pro_init 70 = .ok (.return_, 1) := by decide +kernel
theorem d_Pro_end_0 : decode b_Pro_end 0 = .ok (.aload_n 0, 1) := by decide +kernel
theorem d_Pro_end_1 : decode b_Pro_end 1 = .ok (.iload_n 1, 1) := by decide +kernel
theorem d_Pro_end_2 : decode b_Pro_end 2 = .ok (.iconst 0, 1) := by decide +kernel
theorem d_Pro_end_3 : decode b_Pro_end 3 = .ok (.iconst 0, 1) := by decide +kernel
theorem d_Pro_end_4 : decode b_Pro_end 4 = .ok (.iconst (-1), 1) := by decide +kernel
theorem d_Pro_end_5 : decode b_Pro_end 5 = .ok (.invokevirtual 38, 3) := by decide +kernel
theorem d_Pro_end_8 : decode b_Pro_end 8 = .ok (.return_, 1) := by decide +kernel
theorem d_Pro_begin_0 : decode b_Pro_begin 0 = .ok (.aload_n 0, 1) := by decide +kernel
theorem d_Pro_begin_1 : decode b_Pro_begin 1 = .ok (.getfield 9, 3) := by decide +kernel
theorem d_Pro_begin_4 : decode b_Pro_begin 4 = .ok (.iload_n 1, 1) := by decide +kernel
theorem d_Pro_begin_5 : decode b_Pro_begin 5 = .ok (.iload_n 2, 1) := by decide +kernel
theorem d_Pro_begin_6 : decode b_Pro_begin 6 = .ok (.iastore, 1) := by decide +kernel
theorem d_Pro_begin_7 : decode b_Pro_begin 7 = .ok (.aload_n 0, 1) := by decide +kernel
theorem d_Pro_begin_8 : decode b_Pro_begin 8 = .ok (.getfield 15, 3) := by decide +kernel
theorem d_Pro_begin_11 : decode b_Pro_begin 11 = .ok (.iload_n 1, 1) := by decide +kernel
theorem d_Pro_begin_12 : decode b_Pro_begin 12 = .ok (.iload_n 3, 1) := by decide +kernel
theorem d_Pro_begin_13 : decode b_Pro_begin 13 = .ok (.iastore, 1) := by decide +kernel
theorem d_Pro_begin_14 : decode b_Pro_begin 14 = .ok (.aload_n 0, 1) := by decide +kernel
theorem d_Pro_begin_15 : decode b_Pro_begin 15 = .ok (.getfield 18, 3) := by decide +kernel
theorem d_Pro_begin_18 : decode b_Pro_begin 18 = .ok (.iload_n 1, 1) := by decide +kernel
theorem d_Pro_begin_19 : decode b_Pro_begin 19 = .ok (.iload 4, 2) := by decide +kernel
theorem d_Pro_begin_21 : decode b_Pro_begin 21 = .ok (.iastore, 1) := by decide +kernel
theorem d_Pro_begin_22 : decode b_Pro_begin 22 = .ok (.iconst 0, 1) := by decide +kernel
theorem d_Pro_begin_23 : decode b_Pro_begin 23 = .ok (.istore 5, 2) := by decide +kernel
theorem d_Pro_begin_25 : decode b_Pro_begin 25 = .ok (.iload 5, 2) := by decide +kernel
theorem d_Pro_begin_27 : decode b_Pro_begin 27 = .ok (.iconst 4, 1) := by decide +kernel
theorem d_Pro_begin_28 : decode b_Pro_begin 28 = .ok (.if_icmp .ge 17, 3) := by decide +kernel
theorem d_Pro_begin_31 : decode b_Pro_begin 31 = .ok (.aload_n 0, 1) := by decide +kernel
theorem d_Pro_begin_32 : decode b_Pro_begin 32 = .ok (.iload_n 1, 1) := by decide +kernel
theorem d_Pro_begin_33 : decode b_Pro_begin 33 = .ok (.iload 5, 2) := by decide +kernel
theorem d_Pro_begin_35 : decode b_Pro_begin 35 = .ok (.iconst (-1), 1) := by decide +kernel
theorem d_Pro_begin_36 : decode b_Pro_begin 36 = .ok (.invokevirtual 34, 3) := by decide +kernel
theorem d_Pro_begin_39 : decode b_Pro_begin 39 = .ok (.iinc 5 1, 3) := by decide +kernel
theorem d_Pro_begin_42 : decode b_Pro_begin 42 = .ok (.goto (-17), 3) := by decide +kernel
theorem d_Pro_begin_45 : decode b_Pro_begin 45 = .ok (.return_, 1) := by decide +kernel
theorem d_Pro_setPipe_0 : decode b_Pro_setPipe 0 = .ok (.aload_n 0, 1) := by decide +kernel
theorem d_Pro_setPipe_1 : decode b_Pro_setPipe 1 = .ok (.getfield 21, 3) := by decide +kernel
theorem d_Pro_setPipe_4 : decode b_Pro_setPipe 4 = .ok (.iload_n 1, 1) := by decide +kernel
theorem d_Pro_setPipe_5 : decode b_Pro_setPipe 5 = .ok (.iconst 4, 1) := by decide +kernel
theorem d_Pro_setPipe_6 : decode b_Pro_setPipe 6 = .ok (.imul, 1) := by decide +kernel
theorem d_Pro_setPipe_7 : decode b_Pro_setPipe 7 = .ok (.iload_n 2, 1) := by decide +kernel
theorem d_Pro_setPipe_8 : decode b_Pro_setPipe 8 = .ok (.iadd, 1) := by decide +kernel
theorem d_Pro_setPipe_9 : decode b_Pro_setPipe 9 = .ok (.iload_n 3, 1) := by decide +kernel
theorem d_Pro_setPipe_10 : decode b_Pro_setPipe 10 = .ok (.iastore, 1) := by decide +kernel
theorem d_Pro_setPipe_11 : decode b_Pro_setPipe 11 = .ok (.return_, 1) := by decide +kernel
theorem d_Pip_init_0 : decode b_Pip_init 0 = .ok (.aload_n 0, 1) := by decide +kernel
theorem d_Pip_init_1 : decode b_Pip_init 1 = .ok (.invokespecial 3, 3) := by decide +kernel
theorem d_Pip_init_4 : decode b_Pip_init 4 = .ok (.aload_n 0, 1) := by decide +kernel
theorem d_Pip_init_5 : decode b_Pip_init 5 = .ok (.iconst 3, 1) := by decide +kernel
theorem d_Pip_init_6 : decode b_Pip_init 6 = .ok (.newarray .int, 2) := by decide +kernel
theorem d_Pip_init_8 : decode b_Pip_init 8 = .ok (.putfield 9, 3) := by decide +kernel
theorem d_Pip_init_11 : decode b_Pip_init 11 = .ok (.aload_n 0, 1) := by decide +kernel
theorem d_Pip_init_12 : decode b_Pip_init 12 = .ok (.bipush 12, 2) := by decide +kernel
theorem d_Pip_init_14 : decode b_Pip_init 14 = .ok (.newarray .int, 2) := by decide +kernel
theorem d_Pip_init_16 : decode b_Pip_init 16 = .ok (.putfield 15, 3) := by decide +kernel
theorem d_Pip_init_19 : decode b_Pip_init 19 = .ok (.return_, 1) := by decide +kernel
theorem d_Pro_stateOf_0 : decode b_Pro_stateOf 0 = .ok (.aload_n 0, 1) := by decide +kernel
theorem d_Pro_stateOf_1 : decode b_Pro_stateOf 1 = .ok (.getfield 9, 3) := by decide +kernel
theorem d_Pro_stateOf_4 : decode b_Pro_stateOf 4 = .ok (.iload_n 1, 1) := by decide +kernel
theorem d_Pro_stateOf_5 : decode b_Pro_stateOf 5 = .ok (.iaload, 1) := by decide +kernel
theorem d_Pro_stateOf_6 : decode b_Pro_stateOf 6 = .ok (.ireturn, 1) := by decide +kernel
theorem d_Mem_kindOf_0 : decode b_Mem_kindOf 0 = .ok (.aload_n 0, 1) := by decide +kernel
theorem d_Mem_kindOf_1 : decode b_Mem_kindOf 1 = .ok (.getfield 9, 3) := by decide +kernel
theorem d_Mem_kindOf_4 : decode b_Mem_kindOf 4 = .ok (.iload_n 1, 1) := by decide +kernel
theorem d_Mem_kindOf_5 : decode b_Mem_kindOf 5 = .ok (.iaload, 1) := by decide +kernel
theorem d_Mem_kindOf_6 : decode b_Mem_kindOf 6 = .ok (.ireturn, 1) := by decide +kernel
theorem d_Mem_ownerOf_0 : decode b_Mem_ownerOf 0 = .ok (.aload_n 0, 1) := by decide +kernel
theorem d_Mem_ownerOf_1 : decode b_Mem_ownerOf 1 = .ok (.getfield 15, 3) := by decide +kernel
theorem d_Mem_ownerOf_4 : decode b_Mem_ownerOf 4 = .ok (.iload_n 1, 1) := by decide +kernel
theorem d_Mem_ownerOf_5 : decode b_Mem_ownerOf 5 = .ok (.iaload, 1) := by decide +kernel
theorem d_Mem_ownerOf_6 : decode b_Mem_ownerOf 6 = .ok (.ireturn, 1) := by decide +kernel
theorem d_Pro_parentOf_0 : decode b_Pro_parentOf 0 = .ok (.aload_n 0, 1) := by decide +kernel
theorem d_Pro_parentOf_1 : decode b_Pro_parentOf 1 = .ok (.getfield 15, 3) := by decide +kernel
theorem d_Pro_parentOf_4 : decode b_Pro_parentOf 4 = .ok (.iload_n 1, 1) := by decide +kernel
theorem d_Pro_parentOf_5 : decode b_Pro_parentOf 5 = .ok (.iaload, 1) := by decide +kernel
theorem d_Pro_parentOf_6 : decode b_Pro_parentOf 6 = .ok (.ireturn, 1) := by decide +kernel
theorem d_Mem_pageIn_0 : decode b_Mem_pageIn 0 = .ok (.aload_n 0, 1) := by decide +kernel
theorem d_Mem_pageIn_1 : decode b_Mem_pageIn 1 = .ok (.getfield 18, 3) := by decide +kernel
theorem d_Mem_pageIn_4 : decode b_Mem_pageIn 4 = .ok (.iload_n 1, 1) := by decide +kernel
theorem d_Mem_pageIn_5 : decode b_Mem_pageIn 5 = .ok (.iconst 4, 1) := by decide +kernel
theorem d_Mem_pageIn_6 : decode b_Mem_pageIn 6 = .ok (.imul, 1) := by decide +kernel
theorem d_Mem_pageIn_7 : decode b_Mem_pageIn 7 = .ok (.iload_n 2, 1) := by decide +kernel
theorem d_Mem_pageIn_8 : decode b_Mem_pageIn 8 = .ok (.iadd, 1) := by decide +kernel
theorem d_Mem_pageIn_9 : decode b_Mem_pageIn 9 = .ok (.iaload, 1) := by decide +kernel
theorem d_Mem_pageIn_10 : decode b_Mem_pageIn 10 = .ok (.ireturn, 1) := by decide +kernel
theorem d_Mem_rightsIn_0 : decode b_Mem_rightsIn 0 = .ok (.aload_n 0, 1) := by decide +kernel
theorem d_Mem_rightsIn_1 : decode b_Mem_rightsIn 1 = .ok (.getfield 21, 3) := by decide +kernel
theorem d_Mem_rightsIn_4 : decode b_Mem_rightsIn 4 = .ok (.iload_n 1, 1) := by decide +kernel
theorem d_Mem_rightsIn_5 : decode b_Mem_rightsIn 5 = .ok (.iconst 4, 1) := by decide +kernel
theorem d_Mem_rightsIn_6 : decode b_Mem_rightsIn 6 = .ok (.imul, 1) := by decide +kernel
theorem d_Mem_rightsIn_7 : decode b_Mem_rightsIn 7 = .ok (.iload_n 2, 1) := by decide +kernel
theorem d_Mem_rightsIn_8 : decode b_Mem_rightsIn 8 = .ok (.iadd, 1) := by decide +kernel
theorem d_Mem_rightsIn_9 : decode b_Mem_rightsIn 9 = .ok (.iaload, 1) := by decide +kernel
theorem d_Mem_rightsIn_10 : decode b_Mem_rightsIn 10 = .ok (.ireturn, 1) := by decide +kernel
theorem d_Mem_copyWords_0 : decode b_Mem_copyWords 0 = .ok (.iconst 0, 1) := by decide +kernel
theorem d_Mem_copyWords_1 : decode b_Mem_copyWords 1 = .ok (.istore_n 3, 1) := by decide +kernel
theorem d_Mem_copyWords_2 : decode b_Mem_copyWords 2 = .ok (.iload_n 3, 1) := by decide +kernel
theorem d_Mem_copyWords_3 : decode b_Mem_copyWords 3 = .ok (.iconst 4, 1) := by decide +kernel
theorem d_Mem_copyWords_4 : decode b_Mem_copyWords 4 = .ok (.if_icmp .ge 21, 3) := by decide +kernel
theorem d_Mem_copyWords_7 : decode b_Mem_copyWords 7 = .ok (.aload_n 0, 1) := by decide +kernel
theorem d_Mem_copyWords_8 : decode b_Mem_copyWords 8 = .ok (.iload_n 2, 1) := by decide +kernel
theorem d_Mem_copyWords_9 : decode b_Mem_copyWords 9 = .ok (.iload_n 3, 1) := by decide +kernel
theorem d_Mem_copyWords_10 : decode b_Mem_copyWords 10 = .ok (.aload_n 0, 1) := by decide +kernel
theorem d_Mem_copyWords_11 : decode b_Mem_copyWords 11 = .ok (.iload_n 1, 1) := by decide +kernel
theorem d_Mem_copyWords_12 : decode b_Mem_copyWords 12 = .ok (.iload_n 3, 1) := by decide +kernel
theorem d_Mem_copyWords_13 : decode b_Mem_copyWords 13 = .ok (.invokevirtual 50, 3) := by decide +kernel
theorem d_Mem_copyWords_16 : decode b_Mem_copyWords 16 = .ok (.invokevirtual 35, 3) := by decide +kernel
theorem d_Mem_copyWords_19 : decode b_Mem_copyWords 19 = .ok (.iinc 3 1, 3) := by decide +kernel
theorem d_Mem_copyWords_22 : decode b_Mem_copyWords 22 = .ok (.goto (-20), 3) := by decide +kernel
theorem d_Mem_copyWords_25 : decode b_Mem_copyWords 25 = .ok (.return_, 1) := by decide +kernel
theorem d_Mem_word_0 : decode b_Mem_word 0 = .ok (.aload_n 0, 1) := by decide +kernel
theorem d_Mem_word_1 : decode b_Mem_word 1 = .ok (.getfield 24, 3) := by decide +kernel
theorem d_Mem_word_4 : decode b_Mem_word 4 = .ok (.iload_n 1, 1) := by decide +kernel
theorem d_Mem_word_5 : decode b_Mem_word 5 = .ok (.iconst 4, 1) := by decide +kernel
theorem d_Mem_word_6 : decode b_Mem_word 6 = .ok (.imul, 1) := by decide +kernel
theorem d_Mem_word_7 : decode b_Mem_word 7 = .ok (.iload_n 2, 1) := by decide +kernel
theorem d_Mem_word_8 : decode b_Mem_word 8 = .ok (.iadd, 1) := by decide +kernel
theorem d_Mem_word_9 : decode b_Mem_word 9 = .ok (.iaload, 1) := by decide +kernel
theorem d_Mem_word_10 : decode b_Mem_word 10 = .ok (.ireturn, 1) := by decide +kernel
theorem d_Mem_filledEntries_0 : decode b_Mem_filledEntries 0 = .ok (.iconst 0, 1) := by decide +kernel
theorem d_Mem_filledEntries_1 : decode b_Mem_filledEntries 1 = .ok (.istore_n 2, 1) := by decide +kernel
theorem d_Mem_filledEntries_2 : decode b_Mem_filledEntries 2 = .ok (.iconst 0, 1) := by decide +kernel
theorem d_Mem_filledEntries_3 : decode b_Mem_filledEntries 3 = .ok (.istore_n 3, 1) := by decide +kernel
theorem d_Mem_filledEntries_4 : decode b_Mem_filledEntries 4 = .ok (.iload_n 3, 1) := by decide +kernel
theorem d_Mem_filledEntries_5 : decode b_Mem_filledEntries 5 = .ok (.iconst 4, 1) := by decide +kernel
theorem d_Mem_filledEntries_6 : decode b_Mem_filledEntries 6 = .ok (.if_icmp .ge 22, 3) := by decide +kernel
theorem d_Mem_filledEntries_9 : decode b_Mem_filledEntries 9 = .ok (.aload_n 0, 1) := by decide +kernel
theorem d_Mem_filledEntries_10 : decode b_Mem_filledEntries 10 = .ok (.iload_n 1, 1) := by decide +kernel
theorem d_Mem_filledEntries_11 : decode b_Mem_filledEntries 11 = .ok (.iload_n 3, 1) := by decide +kernel
theorem d_Mem_filledEntries_12 : decode b_Mem_filledEntries 12 = .ok (.invokevirtual 46, 3) := by decide +kernel
theorem d_Mem_filledEntries_15 : decode b_Mem_filledEntries 15 = .ok (.iconst (-1), 1) := by decide +kernel
theorem d_Mem_filledEntries_16 : decode b_Mem_filledEntries 16 = .ok (.if_icmp .eq 6, 3) := by decide +kernel
theorem d_Mem_filledEntries_19 : decode b_Mem_filledEntries 19 = .ok (.iinc 2 1, 3) := by decide +kernel
theorem d_Mem_filledEntries_22 : decode b_Mem_filledEntries 22 = .ok (.iinc 3 1, 3) := by decide +kernel
theorem d_Mem_filledEntries_25 : decode b_Mem_filledEntries 25 = .ok (.goto (-21), 3) := by decide +kernel
theorem d_Mem_filledEntries_28 : decode b_Mem_filledEntries 28 = .ok (.iload_n 2, 1) := by decide +kernel
theorem d_Mem_filledEntries_29 : decode b_Mem_filledEntries 29 = .ok (.ireturn, 1) := by decide +kernel
theorem d_Pro_setState_0 : decode b_Pro_setState 0 = .ok (.aload_n 0, 1) := by decide +kernel
theorem d_Pro_setState_1 : decode b_Pro_setState 1 = .ok (.getfield 9, 3) := by decide +kernel
theorem d_Pro_setState_4 : decode b_Pro_setState 4 = .ok (.iload_n 1, 1) := by decide +kernel
theorem d_Pro_setState_5 : decode b_Pro_setState 5 = .ok (.iload_n 2, 1) := by decide +kernel
theorem d_Pro_setState_6 : decode b_Pro_setState 6 = .ok (.iastore, 1) := by decide +kernel
theorem d_Pro_setState_7 : decode b_Pro_setState 7 = .ok (.return_, 1) := by decide +kernel
theorem d_Pro_nextReady_0 : decode b_Pro_nextReady 0 = .ok (.iconst 0, 1) := by decide +kernel
theorem d_Pro_nextReady_1 : decode b_Pro_nextReady 1 = .ok (.istore_n 2, 1) := by decide +kernel
theorem d_Pro_nextReady_2 : decode b_Pro_nextReady 2 = .ok (.iload_n 2, 1) := by decide +kernel
theorem d_Pro_nextReady_3 : decode b_Pro_nextReady 3 = .ok (.iconst 5, 1) := by decide +kernel
theorem d_Pro_nextReady_4 : decode b_Pro_nextReady 4 = .ok (.if_icmp .ge 29, 3) := by decide +kernel
theorem d_Pro_nextReady_7 : decode b_Pro_nextReady 7 = .ok (.iload_n 1, 1) := by decide +kernel
theorem d_Pro_nextReady_8 : decode b_Pro_nextReady 8 = .ok (.iload_n 2, 1) := by decide +kernel
theorem d_Pro_nextReady_9 : decode b_Pro_nextReady 9 = .ok (.iadd, 1) := by decide +kernel
theorem d_Pro_nextReady_10 : decode b_Pro_nextReady 10 = .ok (.iconst 5, 1) := by decide +kernel
theorem d_Pro_nextReady_11 : decode b_Pro_nextReady 11 = .ok (.irem, 1) := by decide +kernel
theorem d_Pro_nextReady_12 : decode b_Pro_nextReady 12 = .ok (.iconst 1, 1) := by decide +kernel
theorem d_Pro_nextReady_13 : decode b_Pro_nextReady 13 = .ok (.iadd, 1) := by decide +kernel
theorem d_Pro_nextReady_14 : decode b_Pro_nextReady 14 = .ok (.istore_n 3, 1) := by decide +kernel
theorem d_Pro_nextReady_15 : decode b_Pro_nextReady 15 = .ok (.aload_n 0, 1) := by decide +kernel
theorem d_Pro_nextReady_16 : decode b_Pro_nextReady 16 = .ok (.getfield 9, 3) := by decide +kernel
theorem d_Pro_nextReady_19 : decode b_Pro_nextReady 19 = .ok (.iload_n 3, 1) := by decide +kernel
theorem d_Pro_nextReady_20 : decode b_Pro_nextReady 20 = .ok (.iaload, 1) := by decide +kernel
theorem d_Pro_nextReady_21 : decode b_Pro_nextReady 21 = .ok (.iconst 2, 1) := by decide +kernel
theorem d_Pro_nextReady_22 : decode b_Pro_nextReady 22 = .ok (.if_icmp .ne 5, 3) := by decide +kernel
theorem d_Pro_nextReady_25 : decode b_Pro_nextReady 25 = .ok (.iload_n 3, 1) := by decide +kernel
theorem d_Pro_nextReady_26 : decode b_Pro_nextReady 26 = .ok (.ireturn, 1) := by decide +kernel
theorem d_Pro_nextReady_27 : decode b_Pro_nextReady 27 = .ok (.iinc 2 1, 3) := by decide +kernel
theorem d_Pro_nextReady_30 : decode b_Pro_nextReady 30 = .ok (.goto (-28), 3) := by decide +kernel
theorem d_Pro_nextReady_33 : decode b_Pro_nextReady 33 = .ok (.iconst 0, 1) := by decide +kernel
theorem d_Pro_nextReady_34 : decode b_Pro_nextReady 34 = .ok (.ireturn, 1) := by decide +kernel
theorem d_Pro_descriptorsInUse_0 : decode b_Pro_descriptorsInUse 0 = .ok (.iconst 0, 1) := by decide +kernel
theorem d_Pro_descriptorsInUse_1 : decode b_Pro_descriptorsInUse 1 = .ok (.istore_n 2, 1) := by decide +kernel
theorem d_Pro_descriptorsInUse_2 : decode b_Pro_descriptorsInUse 2 = .ok (.iconst 0, 1) := by decide +kernel
theorem d_Pro_descriptorsInUse_3 : decode b_Pro_descriptorsInUse 3 = .ok (.istore_n 3, 1) := by decide +kernel
theorem d_Pro_descriptorsInUse_4 : decode b_Pro_descriptorsInUse 4 = .ok (.iload_n 3, 1) := by decide +kernel
theorem d_Pro_descriptorsInUse_5 : decode b_Pro_descriptorsInUse 5 = .ok (.iconst 4, 1) := by decide +kernel
theorem d_Pro_descriptorsInUse_6 : decode b_Pro_descriptorsInUse 6 = .ok (.if_icmp .ge 22, 3) := by decide +kernel
theorem d_Pro_descriptorsInUse_9 : decode b_Pro_descriptorsInUse 9 = .ok (.aload_n 0, 1) := by decide +kernel
theorem d_Pro_descriptorsInUse_10 : decode b_Pro_descriptorsInUse 10 = .ok (.iload_n 1, 1) := by decide +kernel
theorem d_Pro_descriptorsInUse_11 : decode b_Pro_descriptorsInUse 11 = .ok (.iload_n 3, 1) := by decide +kernel
theorem d_Pro_descriptorsInUse_12 : decode b_Pro_descriptorsInUse 12 = .ok (.invokevirtual 42, 3) := by decide +kernel
theorem d_Pro_descriptorsInUse_15 : decode b_Pro_descriptorsInUse 15 = .ok (.iconst (-1), 1) := by decide +kernel
theorem d_Pro_descriptorsInUse_16 : decode b_Pro_descriptorsInUse 16 = .ok (.if_icmp .eq 6, 3) := by decide +kernel
theorem d_Pro_descriptorsInUse_19 : decode b_Pro_descriptorsInUse 19 = .ok (.iinc 2 1, 3) := by decide +kernel
theorem d_Pro_descriptorsInUse_22 : decode b_Pro_descriptorsInUse 22 = .ok (.iinc 3 1, 3) := by decide +kernel
theorem d_Pro_descriptorsInUse_25 : decode b_Pro_descriptorsInUse 25 = .ok (.goto (-21), 3) := by decide +kernel
theorem d_Pro_descriptorsInUse_28 : decode b_Pro_descriptorsInUse 28 = .ok (.iload_n 2, 1) := by decide +kernel
theorem d_Pro_descriptorsInUse_29 : decode b_Pro_descriptorsInUse 29 = .ok (.ireturn, 1) := by decide +kernel
theorem d_Pro_pipeOf_0 : decode b_Pro_pipeOf 0 = .ok (.aload_n 0, 1) := by decide +kernel
theorem d_Pro_pipeOf_1 : decode b_Pro_pipeOf 1 = .ok (.getfield 21, 3) := by decide +kernel
theorem d_Pro_pipeOf_4 : decode b_Pro_pipeOf 4 = .ok (.iload_n 1, 1) := by decide +kernel
theorem d_Pro_pipeOf_5 : decode b_Pro_pipeOf 5 = .ok (.iconst 4, 1) := by decide +kernel
theorem d_Pro_pipeOf_6 : decode b_Pro_pipeOf 6 = .ok (.imul, 1) := by decide +kernel
theorem d_Pro_pipeOf_7 : decode b_Pro_pipeOf 7 = .ok (.iload_n 2, 1) := by decide +kernel
theorem d_Pro_pipeOf_8 : decode b_Pro_pipeOf 8 = .ok (.iadd, 1) := by decide +kernel
theorem d_Pro_pipeOf_9 : decode b_Pro_pipeOf 9 = .ok (.iaload, 1) := by decide +kernel
theorem d_Pro_pipeOf_10 : decode b_Pro_pipeOf 10 = .ok (.ireturn, 1) := by decide +kernel
theorem d_Mem_pagesOf_0 : decode b_Mem_pagesOf 0 = .ok (.iconst 0, 1) := by decide +kernel
theorem d_Mem_pagesOf_1 : decode b_Mem_pagesOf 1 = .ok (.istore_n 2, 1) := by decide +kernel
theorem d_Mem_pagesOf_2 : decode b_Mem_pagesOf 2 = .ok (.iconst 0, 1) := by decide +kernel
theorem d_Mem_pagesOf_3 : decode b_Mem_pagesOf 3 = .ok (.istore_n 3, 1) := by decide +kernel
theorem d_Mem_pagesOf_4 : decode b_Mem_pagesOf 4 = .ok (.iload_n 3, 1) := by decide +kernel
theorem d_Mem_pagesOf_5 : decode b_Mem_pagesOf 5 = .ok (.bipush 20, 2) := by decide +kernel
theorem d_Mem_pagesOf_7 : decode b_Mem_pagesOf 7 = .ok (.if_icmp .ge 22, 3) := by decide +kernel
theorem d_Mem_pagesOf_10 : decode b_Mem_pagesOf 10 = .ok (.aload_n 0, 1) := by decide +kernel
theorem d_Mem_pagesOf_11 : decode b_Mem_pagesOf 11 = .ok (.getfield 15, 3) := by decide +kernel
theorem d_Mem_pagesOf_14 : decode b_Mem_pagesOf 14 = .ok (.iload_n 3, 1) := by decide +kernel
theorem d_Mem_pagesOf_15 : decode b_Mem_pagesOf 15 = .ok (.iaload, 1) := by decide +kernel
theorem d_Mem_pagesOf_16 : decode b_Mem_pagesOf 16 = .ok (.iload_n 1, 1) := by decide +kernel
theorem d_Mem_pagesOf_17 : decode b_Mem_pagesOf 17 = .ok (.if_icmp .ne 6, 3) := by decide +kernel
theorem d_Mem_pagesOf_20 : decode b_Mem_pagesOf 20 = .ok (.iinc 2 1, 3) := by decide +kernel
theorem d_Mem_pagesOf_23 : decode b_Mem_pagesOf 23 = .ok (.iinc 3 1, 3) := by decide +kernel
theorem d_Mem_pagesOf_26 : decode b_Mem_pagesOf 26 = .ok (.goto (-22), 3) := by decide +kernel
theorem d_Mem_pagesOf_29 : decode b_Mem_pagesOf 29 = .ok (.iload_n 2, 1) := by decide +kernel
theorem d_Mem_pagesOf_30 : decode b_Mem_pagesOf 30 = .ok (.ireturn, 1) := by decide +kernel
theorem d_Pro_rootOf_0 : decode b_Pro_rootOf 0 = .ok (.aload_n 0, 1) := by decide +kernel
theorem d_Pro_rootOf_1 : decode b_Pro_rootOf 1 = .ok (.getfield 18, 3) := by decide +kernel
theorem d_Pro_rootOf_4 : decode b_Pro_rootOf 4 = .ok (.iload_n 1, 1) := by decide +kernel
theorem d_Pro_rootOf_5 : decode b_Pro_rootOf 5 = .ok (.iaload, 1) := by decide +kernel
theorem d_Pro_rootOf_6 : decode b_Pro_rootOf 6 = .ok (.ireturn, 1) := by decide +kernel
theorem d_Pro_moveChildren_0 : decode b_Pro_moveChildren 0 = .ok (.iconst 0, 1) := by decide +kernel
theorem d_Pro_moveChildren_1 : decode b_Pro_moveChildren 1 = .ok (.istore_n 3, 1) := by decide +kernel
theorem d_Pro_moveChildren_2 : decode b_Pro_moveChildren 2 = .ok (.iconst 1, 1) := by decide +kernel
theorem d_Pro_moveChildren_3 : decode b_Pro_moveChildren 3 = .ok (.istore 4, 2) := by decide +kernel
theorem d_Pro_moveChildren_5 : decode b_Pro_moveChildren 5 = .ok (.iload 4, 2) := by decide +kernel
theorem d_Pro_moveChildren_7 : decode b_Pro_moveChildren 7 = .ok (.iconst 5, 1) := by decide +kernel
theorem d_Pro_moveChildren_8 : decode b_Pro_moveChildren 8 = .ok (.if_icmp .gt 31, 3) := by decide +kernel
theorem d_Pro_moveChildren_11 : decode b_Pro_moveChildren 11 = .ok (.aload_n 0, 1) := by decide +kernel
theorem d_Pro_moveChildren_12 : decode b_Pro_moveChildren 12 = .ok (.getfield 15, 3) := by decide +kernel
theorem d_Pro_moveChildren_15 : decode b_Pro_moveChildren 15 = .ok (.iload 4, 2) := by decide +kernel
theorem d_Pro_moveChildren_17 : decode b_Pro_moveChildren 17 = .ok (.iaload, 1) := by decide +kernel
theorem d_Pro_moveChildren_18 : decode b_Pro_moveChildren 18 = .ok (.iload_n 1, 1) := by decide +kernel
theorem d_Pro_moveChildren_19 : decode b_Pro_moveChildren 19 = .ok (.if_icmp .ne 14, 3) := by decide +kernel
theorem d_Pro_moveChildren_22 : decode b_Pro_moveChildren 22 = .ok (.aload_n 0, 1) := by decide +kernel
theorem d_Pro_moveChildren_23 : decode b_Pro_moveChildren 23 = .ok (.getfield 15, 3) := by decide +kernel
theorem d_Pro_moveChildren_26 : decode b_Pro_moveChildren 26 = .ok (.iload 4, 2) := by decide +kernel
theorem d_Pro_moveChildren_28 : decode b_Pro_moveChildren 28 = .ok (.iload_n 2, 1) := by decide +kernel
theorem d_Pro_moveChildren_29 : decode b_Pro_moveChildren 29 = .ok (.iastore, 1) := by decide +kernel
theorem d_Pro_moveChildren_30 : decode b_Pro_moveChildren 30 = .ok (.iinc 3 1, 3) := by decide +kernel
theorem d_Pro_moveChildren_33 : decode b_Pro_moveChildren 33 = .ok (.iinc 4 1, 3) := by decide +kernel
theorem d_Pro_moveChildren_36 : decode b_Pro_moveChildren 36 = .ok (.goto (-31), 3) := by decide +kernel
theorem d_Pro_moveChildren_39 : decode b_Pro_moveChildren 39 = .ok (.iload_n 3, 1) := by decide +kernel
theorem d_Pro_moveChildren_40 : decode b_Pro_moveChildren 40 = .ok (.ireturn, 1) := by decide +kernel
theorem d_Pro_descriptorsOfPipe_0 : decode b_Pro_descriptorsOfPipe 0 = .ok (.iconst 0, 1) := by decide +kernel
theorem d_Pro_descriptorsOfPipe_1 : decode b_Pro_descriptorsOfPipe 1 = .ok (.istore_n 2, 1) := by decide +kernel
theorem d_Pro_descriptorsOfPipe_2 : decode b_Pro_descriptorsOfPipe 2 = .ok (.iconst 0, 1) := by decide +kernel
theorem d_Pro_descriptorsOfPipe_3 : decode b_Pro_descriptorsOfPipe 3 = .ok (.istore_n 3, 1) := by decide +kernel
theorem d_Pro_descriptorsOfPipe_4 : decode b_Pro_descriptorsOfPipe 4 = .ok (.iload_n 3, 1) := by decide +kernel
theorem d_Pro_descriptorsOfPipe_5 : decode b_Pro_descriptorsOfPipe 5 = .ok (.aload_n 0, 1) := by decide +kernel
theorem d_Pro_descriptorsOfPipe_6 : decode b_Pro_descriptorsOfPipe 6 = .ok (.getfield 21, 3) := by decide +kernel
theorem d_Pro_descriptorsOfPipe_9 : decode b_Pro_descriptorsOfPipe 9 = .ok (.arraylength, 1) := by decide +kernel
theorem d_Pro_descriptorsOfPipe_10 : decode b_Pro_descriptorsOfPipe 10 = .ok (.if_icmp .ge 22, 3) := by decide +kernel
theorem d_Pro_descriptorsOfPipe_13 : decode b_Pro_descriptorsOfPipe 13 = .ok (.aload_n 0, 1) := by decide +kernel
theorem d_Pro_descriptorsOfPipe_14 : decode b_Pro_descriptorsOfPipe 14 = .ok (.getfield 21, 3) := by decide +kernel
theorem d_Pro_descriptorsOfPipe_17 : decode b_Pro_descriptorsOfPipe 17 = .ok (.iload_n 3, 1) := by decide +kernel
theorem d_Pro_descriptorsOfPipe_18 : decode b_Pro_descriptorsOfPipe 18 = .ok (.iaload, 1) := by decide +kernel
theorem d_Pro_descriptorsOfPipe_19 : decode b_Pro_descriptorsOfPipe 19 = .ok (.iload_n 1, 1) := by decide +kernel
theorem d_Pro_descriptorsOfPipe_20 : decode b_Pro_descriptorsOfPipe 20 = .ok (.if_icmp .ne 6, 3) := by decide +kernel
theorem d_Pro_descriptorsOfPipe_23 : decode b_Pro_descriptorsOfPipe 23 = .ok (.iinc 2 1, 3) := by decide +kernel
theorem d_Pro_descriptorsOfPipe_26 : decode b_Pro_descriptorsOfPipe 26 = .ok (.iinc 3 1, 3) := by decide +kernel
theorem d_Pro_descriptorsOfPipe_29 : decode b_Pro_descriptorsOfPipe 29 = .ok (.goto (-25), 3) := by decide +kernel
theorem d_Pro_descriptorsOfPipe_32 : decode b_Pro_descriptorsOfPipe 32 = .ok (.iload_n 2, 1) := by decide +kernel
theorem d_Pro_descriptorsOfPipe_33 : decode b_Pro_descriptorsOfPipe 33 = .ok (.ireturn, 1) := by decide +kernel
theorem d_Pip_makeEmpty_0 : decode b_Pip_makeEmpty 0 = .ok (.aload_n 0, 1) := by decide +kernel
theorem d_Pip_makeEmpty_1 : decode b_Pip_makeEmpty 1 = .ok (.getfield 9, 3) := by decide +kernel
theorem d_Pip_makeEmpty_4 : decode b_Pip_makeEmpty 4 = .ok (.iload_n 1, 1) := by decide +kernel
theorem d_Pip_makeEmpty_5 : decode b_Pip_makeEmpty 5 = .ok (.iconst 0, 1) := by decide +kernel
theorem d_Pip_makeEmpty_6 : decode b_Pip_makeEmpty 6 = .ok (.iastore, 1) := by decide +kernel
theorem d_Pip_makeEmpty_7 : decode b_Pip_makeEmpty 7 = .ok (.return_, 1) := by decide +kernel
theorem d_Pip_held_0 : decode b_Pip_held 0 = .ok (.aload_n 0, 1) := by decide +kernel
theorem d_Pip_held_1 : decode b_Pip_held 1 = .ok (.getfield 9, 3) := by decide +kernel
theorem d_Pip_held_4 : decode b_Pip_held 4 = .ok (.iload_n 1, 1) := by decide +kernel
theorem d_Pip_held_5 : decode b_Pip_held 5 = .ok (.iaload, 1) := by decide +kernel
theorem d_Pip_held_6 : decode b_Pip_held 6 = .ok (.ireturn, 1) := by decide +kernel
theorem d_Pip_append_0 : decode b_Pip_append 0 = .ok (.aload_n 0, 1) := by decide +kernel
theorem d_Pip_append_1 : decode b_Pip_append 1 = .ok (.getfield 15, 3) := by decide +kernel
theorem d_Pip_append_4 : decode b_Pip_append 4 = .ok (.iload_n 1, 1) := by decide +kernel
theorem d_Pip_append_5 : decode b_Pip_append 5 = .ok (.iconst 4, 1) := by decide +kernel
theorem d_Pip_append_6 : decode b_Pip_append 6 = .ok (.imul, 1) := by decide +kernel
theorem d_Pip_append_7 : decode b_Pip_append 7 = .ok (.aload_n 0, 1) := by decide +kernel
theorem d_Pip_append_8 : decode b_Pip_append 8 = .ok (.getfield 9, 3) := by decide +kernel
theorem d_Pip_append_11 : decode b_Pip_append 11 = .ok (.iload_n 1, 1) := by decide +kernel
theorem d_Pip_append_12 : decode b_Pip_append 12 = .ok (.iaload, 1) := by decide +kernel
theorem d_Pip_append_13 : decode b_Pip_append 13 = .ok (.iadd, 1) := by decide +kernel
theorem d_Pip_append_14 : decode b_Pip_append 14 = .ok (.iload_n 2, 1) := by decide +kernel
theorem d_Pip_append_15 : decode b_Pip_append 15 = .ok (.iastore, 1) := by decide +kernel
theorem d_Pip_append_16 : decode b_Pip_append 16 = .ok (.aload_n 0, 1) := by decide +kernel
theorem d_Pip_append_17 : decode b_Pip_append 17 = .ok (.getfield 9, 3) := by decide +kernel
theorem d_Pip_append_20 : decode b_Pip_append 20 = .ok (.iload_n 1, 1) := by decide +kernel
theorem d_Pip_append_21 : decode b_Pip_append 21 = .ok (.dup2, 1) := by decide +kernel
theorem d_Pip_append_22 : decode b_Pip_append 22 = .ok (.iaload, 1) := by decide +kernel
theorem d_Pip_append_23 : decode b_Pip_append 23 = .ok (.iconst 1, 1) := by decide +kernel
theorem d_Pip_append_24 : decode b_Pip_append 24 = .ok (.iadd, 1) := by decide +kernel
theorem d_Pip_append_25 : decode b_Pip_append 25 = .ok (.iastore, 1) := by decide +kernel
theorem d_Pip_append_26 : decode b_Pip_append 26 = .ok (.return_, 1) := by decide +kernel
theorem d_Pip_removeFirst_0 : decode b_Pip_removeFirst 0 = .ok (.aload_n 0, 1) := by decide +kernel
theorem d_Pip_removeFirst_1 : decode b_Pip_removeFirst 1 = .ok (.getfield 15, 3) := by decide +kernel
theorem d_Pip_removeFirst_4 : decode b_Pip_removeFirst 4 = .ok (.iload_n 1, 1) := by decide +kernel
theorem d_Pip_removeFirst_5 : decode b_Pip_removeFirst 5 = .ok (.iconst 4, 1) := by decide +kernel
theorem d_Pip_removeFirst_6 : decode b_Pip_removeFirst 6 = .ok (.imul, 1) := by decide +kernel
theorem d_Pip_removeFirst_7 : decode b_Pip_removeFirst 7 = .ok (.iaload, 1) := by decide +kernel
theorem d_Pip_removeFirst_8 : decode b_Pip_removeFirst 8 = .ok (.istore_n 2, 1) := by decide +kernel
theorem d_Pip_removeFirst_9 : decode b_Pip_removeFirst 9 = .ok (.aload_n 0, 1) := by decide +kernel
theorem d_Pip_removeFirst_10 : decode b_Pip_removeFirst 10 = .ok (.getfield 9, 3) := by decide +kernel
theorem d_Pip_removeFirst_13 : decode b_Pip_removeFirst 13 = .ok (.iload_n 1, 1) := by decide +kernel
theorem d_Pip_removeFirst_14 : decode b_Pip_removeFirst 14 = .ok (.dup2, 1) := by decide +kernel
theorem d_Pip_removeFirst_15 : decode b_Pip_removeFirst 15 = .ok (.iaload, 1) := by decide +kernel
theorem d_Pip_removeFirst_16 : decode b_Pip_removeFirst 16 = .ok (.iconst 1, 1) := by decide +kernel
theorem d_Pip_removeFirst_17 : decode b_Pip_removeFirst 17 = .ok (.isub, 1) := by decide +kernel
theorem d_Pip_removeFirst_18 : decode b_Pip_removeFirst 18 = .ok (.iastore, 1) := by decide +kernel
theorem d_Pip_removeFirst_19 : decode b_Pip_removeFirst 19 = .ok (.iconst 0, 1) := by decide +kernel
theorem d_Pip_removeFirst_20 : decode b_Pip_removeFirst 20 = .ok (.istore_n 3, 1) := by decide +kernel
theorem d_Pip_removeFirst_21 : decode b_Pip_removeFirst 21 = .ok (.iload_n 3, 1) := by decide +kernel
theorem d_Pip_removeFirst_22 : decode b_Pip_removeFirst 22 = .ok (.aload_n 0, 1) := by decide +kernel
theorem d_Pip_removeFirst_23 : decode b_Pip_removeFirst 23 = .ok (.getfield 9, 3) := by decide +kernel
theorem d_Pip_removeFirst_26 : decode b_Pip_removeFirst 26 = .ok (.iload_n 1, 1) := by decide +kernel
theorem d_Pip_removeFirst_27 : decode b_Pip_removeFirst 27 = .ok (.iaload, 1) := by decide +kernel
theorem d_Pip_removeFirst_28 : decode b_Pip_removeFirst 28 = .ok (.if_icmp .ge 31, 3) := by decide +kernel
theorem d_Pip_removeFirst_31 : decode b_Pip_removeFirst 31 = .ok (.aload_n 0, 1) := by decide +kernel
theorem d_Pip_removeFirst_32 : decode b_Pip_removeFirst 32 = .ok (.getfield 15, 3) := by decide +kernel
theorem d_Pip_removeFirst_35 : decode b_Pip_removeFirst 35 = .ok (.iload_n 1, 1) := by decide +kernel
theorem d_Pip_removeFirst_36 : decode b_Pip_removeFirst 36 = .ok (.iconst 4, 1) := by decide +kernel
theorem d_Pip_removeFirst_37 : decode b_Pip_removeFirst 37 = .ok (.imul, 1) := by decide +kernel
theorem d_Pip_removeFirst_38 : decode b_Pip_removeFirst 38 = .ok (.iload_n 3, 1) := by decide +kernel
theorem d_Pip_removeFirst_39 : decode b_Pip_removeFirst 39 = .ok (.iadd, 1) := by decide +kernel
theorem d_Pip_removeFirst_40 : decode b_Pip_removeFirst 40 = .ok (.aload_n 0, 1) := by decide +kernel
theorem d_Pip_removeFirst_41 : decode b_Pip_removeFirst 41 = .ok (.getfield 15, 3) := by decide +kernel
theorem d_Pip_removeFirst_44 : decode b_Pip_removeFirst 44 = .ok (.iload_n 1, 1) := by decide +kernel
theorem d_Pip_removeFirst_45 : decode b_Pip_removeFirst 45 = .ok (.iconst 4, 1) := by decide +kernel
theorem d_Pip_removeFirst_46 : decode b_Pip_removeFirst 46 = .ok (.imul, 1) := by decide +kernel
theorem d_Pip_removeFirst_47 : decode b_Pip_removeFirst 47 = .ok (.iload_n 3, 1) := by decide +kernel
theorem d_Pip_removeFirst_48 : decode b_Pip_removeFirst 48 = .ok (.iadd, 1) := by decide +kernel
theorem d_Pip_removeFirst_49 : decode b_Pip_removeFirst 49 = .ok (.iconst 1, 1) := by decide +kernel
theorem d_Pip_removeFirst_50 : decode b_Pip_removeFirst 50 = .ok (.iadd, 1) := by decide +kernel
theorem d_Pip_removeFirst_51 : decode b_Pip_removeFirst 51 = .ok (.iaload, 1) := by decide +kernel
theorem d_Pip_removeFirst_52 : decode b_Pip_removeFirst 52 = .ok (.iastore, 1) := by decide +kernel
theorem d_Pip_removeFirst_53 : decode b_Pip_removeFirst 53 = .ok (.iinc 3 1, 3) := by decide +kernel
theorem d_Pip_removeFirst_56 : decode b_Pip_removeFirst 56 = .ok (.goto (-35), 3) := by decide +kernel
theorem d_Pip_removeFirst_59 : decode b_Pip_removeFirst 59 = .ok (.iload_n 2, 1) := by decide +kernel
theorem d_Pip_removeFirst_60 : decode b_Pip_removeFirst 60 = .ok (.ireturn, 1) := by decide +kernel
theorem d_Pro_await_0 : decode b_Pro_await 0 = .ok (.aload_n 0, 1) := by decide +kernel
theorem d_Pro_await_1 : decode b_Pro_await 1 = .ok (.getfield 9, 3) := by decide +kernel
theorem d_Pro_await_4 : decode b_Pro_await 4 = .ok (.iload_n 1, 1) := by decide +kernel
theorem d_Pro_await_5 : decode b_Pro_await 5 = .ok (.iconst 4, 1) := by decide +kernel
theorem d_Pro_await_6 : decode b_Pro_await 6 = .ok (.iastore, 1) := by decide +kernel
theorem d_Pro_await_7 : decode b_Pro_await 7 = .ok (.aload_n 0, 1) := by decide +kernel
theorem d_Pro_await_8 : decode b_Pro_await 8 = .ok (.getfield 24, 3) := by decide +kernel
theorem d_Pro_await_11 : decode b_Pro_await 11 = .ok (.iload_n 1, 1) := by decide +kernel
theorem d_Pro_await_12 : decode b_Pro_await 12 = .ok (.iload_n 2, 1) := by decide +kernel
theorem d_Pro_await_13 : decode b_Pro_await 13 = .ok (.iastore, 1) := by decide +kernel
theorem d_Pro_await_14 : decode b_Pro_await 14 = .ok (.aload_n 0, 1) := by decide +kernel
theorem d_Pro_await_15 : decode b_Pro_await 15 = .ok (.getfield 27, 3) := by decide +kernel
theorem d_Pro_await_18 : decode b_Pro_await 18 = .ok (.iload_n 1, 1) := by decide +kernel
theorem d_Pro_await_19 : decode b_Pro_await 19 = .ok (.iload_n 3, 1) := by decide +kernel
theorem d_Pro_await_20 : decode b_Pro_await 20 = .ok (.iastore, 1) := by decide +kernel
theorem d_Pro_await_21 : decode b_Pro_await 21 = .ok (.return_, 1) := by decide +kernel
theorem d_Pro_awaitedTable_0 : decode b_Pro_awaitedTable 0 = .ok (.aload_n 0, 1) := by decide +kernel
theorem d_Pro_awaitedTable_1 : decode b_Pro_awaitedTable 1 = .ok (.getfield 24, 3) := by decide +kernel
theorem d_Pro_awaitedTable_4 : decode b_Pro_awaitedTable 4 = .ok (.iload_n 1, 1) := by decide +kernel
theorem d_Pro_awaitedTable_5 : decode b_Pro_awaitedTable 5 = .ok (.iaload, 1) := by decide +kernel
theorem d_Pro_awaitedTable_6 : decode b_Pro_awaitedTable 6 = .ok (.ireturn, 1) := by decide +kernel
theorem d_Pro_awaitedEntry_0 : decode b_Pro_awaitedEntry 0 = .ok (.aload_n 0, 1) := by decide +kernel
theorem d_Pro_awaitedEntry_1 : decode b_Pro_awaitedEntry 1 = .ok (.getfield 27, 3) := by decide +kernel
theorem d_Pro_awaitedEntry_4 : decode b_Pro_awaitedEntry 4 = .ok (.iload_n 1, 1) := by decide +kernel
theorem d_Pro_awaitedEntry_5 : decode b_Pro_awaitedEntry 5 = .ok (.iaload, 1) := by decide +kernel
theorem d_Pro_awaitedEntry_6 : decode b_Pro_awaitedEntry 6 = .ok (.ireturn, 1) := by decide +kernel
theorem d_Mem_setOwner_0 : decode b_Mem_setOwner 0 = .ok (.aload_n 0, 1) := by decide +kernel
theorem d_Mem_setOwner_1 : decode b_Mem_setOwner 1 = .ok (.getfield 15, 3) := by decide +kernel
theorem d_Mem_setOwner_4 : decode b_Mem_setOwner 4 = .ok (.iload_n 1, 1) := by decide +kernel
theorem d_Mem_setOwner_5 : decode b_Mem_setOwner 5 = .ok (.iload_n 2, 1) := by decide +kernel
theorem d_Mem_setOwner_6 : decode b_Mem_setOwner 6 = .ok (.iastore, 1) := by decide +kernel
theorem d_Mem_setOwner_7 : decode b_Mem_setOwner 7 = .ok (.return_, 1) := by decide +kernel
theorem d_Pro_notFree_0 : decode b_Pro_notFree 0 = .ok (.iconst 0, 1) := by decide +kernel
theorem d_Pro_notFree_1 : decode b_Pro_notFree 1 = .ok (.istore_n 1, 1) := by decide +kernel
theorem d_Pro_notFree_2 : decode b_Pro_notFree 2 = .ok (.iconst 1, 1) := by decide +kernel
theorem d_Pro_notFree_3 : decode b_Pro_notFree 3 = .ok (.istore_n 2, 1) := by decide +kernel
theorem d_Pro_notFree_4 : decode b_Pro_notFree 4 = .ok (.iload_n 2, 1) := by decide +kernel
theorem d_Pro_notFree_5 : decode b_Pro_notFree 5 = .ok (.iconst 5, 1) := by decide +kernel
theorem d_Pro_notFree_6 : decode b_Pro_notFree 6 = .ok (.if_icmp .gt 21, 3) := by decide +kernel
theorem d_Pro_notFree_9 : decode b_Pro_notFree 9 = .ok (.aload_n 0, 1) := by decide +kernel
theorem d_Pro_notFree_10 : decode b_Pro_notFree 10 = .ok (.getfield 9, 3) := by decide +kernel
theorem d_Pro_notFree_13 : decode b_Pro_notFree 13 = .ok (.iload_n 2, 1) := by decide +kernel
theorem d_Pro_notFree_14 : decode b_Pro_notFree 14 = .ok (.iaload, 1) := by decide +kernel
theorem d_Pro_notFree_15 : decode b_Pro_notFree 15 = .ok (.ifCond .eq 6, 3) := by decide +kernel
theorem d_Pro_notFree_18 : decode b_Pro_notFree 18 = .ok (.iinc 1 1, 3) := by decide +kernel
theorem d_Pro_notFree_21 : decode b_Pro_notFree 21 = .ok (.iinc 2 1, 3) := by decide +kernel
theorem d_Pro_notFree_24 : decode b_Pro_notFree 24 = .ok (.goto (-20), 3) := by decide +kernel
theorem d_Pro_notFree_27 : decode b_Pro_notFree 27 = .ok (.iload_n 1, 1) := by decide +kernel
theorem d_Pro_notFree_28 : decode b_Pro_notFree 28 = .ok (.ireturn, 1) := by decide +kernel
end
section
theorem d_FK_init_0 : decode b_FK_init 0 = .ok (.aload_n 0, 1) := by decide +kernel
theorem d_FK_init_1 : decode b_FK_init 1 = .ok (.invokespecial 1, 3) := by decide +kernel
theorem d_FK_init_4 : decode b_FK_init 4 = .ok (.aload_n 0, 1) := by decide +kernel
theorem d_FK_init_5 : decode b_FK_init 5 = .ok (.new 7, 3) := by decide +kernel
theorem d_FK_init_8 : decode b_FK_init 8 = .ok (.dup, 1) := by decide +kernel
theorem d_FK_init_9 : decode b_FK_init 9 = .ok (.invokespecial 9, 3) := by decide +kernel
theorem d_FK_init_12 : decode b_FK_init 12 = .ok (.putfield 10, 3) := by decide +kernel
theorem d_FK_init_15 : decode b_FK_init 15 = .ok (.aload_n 0, 1) := by decide +kernel
theorem d_FK_init_16 : decode b_FK_init 16 = .ok (.new 16, 3) := by decide +kernel
theorem d_FK_init_19 : decode b_FK_init 19 = .ok (.dup, 1) := by decide +kernel
theorem d_FK_init_20 : decode b_FK_init 20 = .ok (.invokespecial 18, 3) := by decide +kernel
theorem d_FK_init_23 : decode b_FK_init 23 = .ok (.putfield 19, 3) := by decide +kernel
theorem d_FK_init_26 : decode b_FK_init 26 = .ok (.aload_n 0, 1) := by decide +kernel
theorem d_FK_init_27 : decode b_FK_init 27 = .ok (.new 23, 3) := by decide +kernel
theorem d_FK_init_30 : decode b_FK_init 30 = .ok (.dup, 1) := by decide +kernel
theorem d_FK_init_31 : decode b_FK_init 31 = .ok (.invokespecial 25, 3) := by decide +kernel
theorem d_FK_init_34 : decode b_FK_init 34 = .ok (.putfield 26, 3) := by decide +kernel
theorem d_FK_init_37 : decode b_FK_init 37 = .ok (.aload_n 0, 1) := by decide +kernel
theorem d_FK_init_38 : decode b_FK_init 38 = .ok (.iconst 1, 1) := by decide +kernel
theorem d_FK_init_39 : decode b_FK_init 39 = .ok (.putfield 30, 3) := by decide +kernel
theorem d_FK_init_42 : decode b_FK_init 42 = .ok (.aload_n 0, 1) := by decide +kernel
theorem d_FK_init_43 : decode b_FK_init 43 = .ok (.getfield 10, 3) := by decide +kernel
theorem d_FK_init_46 : decode b_FK_init 46 = .ok (.iconst 0, 1) := by decide +kernel
theorem d_FK_init_47 : decode b_FK_init 47 = .ok (.iconst 1, 1) := by decide +kernel
theorem d_FK_init_48 : decode b_FK_init 48 = .ok (.iconst 1, 1) := by decide +kernel
theorem d_FK_init_49 : decode b_FK_init 49 = .ok (.invokevirtual 34, 3) := by decide +kernel
theorem d_FK_init_52 : decode b_FK_init 52 = .ok (.aload_n 0, 1) := by decide +kernel
theorem d_FK_init_53 : decode b_FK_init 53 = .ok (.getfield 19, 3) := by decide +kernel
theorem d_FK_init_56 : decode b_FK_init 56 = .ok (.iconst 1, 1) := by decide +kernel
theorem d_FK_init_57 : decode b_FK_init 57 = .ok (.iconst 3, 1) := by decide +kernel
theorem d_FK_init_58 : decode b_FK_init 58 = .ok (.iconst 0, 1) := by decide +kernel
theorem d_FK_init_59 : decode b_FK_init 59 = .ok (.iconst 0, 1) := by decide +kernel
theorem d_FK_init_60 : decode b_FK_init 60 = .ok (.invokevirtual 38, 3) := by decide +kernel
theorem d_FK_init_63 : decode b_FK_init 63 = .ok (.return_, 1) := by decide +kernel
theorem d_FK_spawn_0 : decode b_FK_spawn 0 = .ok (.iload_n 1, 1) := by decide +kernel
theorem d_FK_spawn_1 : decode b_FK_spawn 1 = .ok (.invokestatic 42, 3) := by decide +kernel
theorem d_FK_spawn_4 : decode b_FK_spawn 4 = .ok (.iload_n 2, 1) := by decide +kernel
theorem d_FK_spawn_5 : decode b_FK_spawn 5 = .ok (.invokestatic 46, 3) := by decide +kernel
theorem d_FK_spawn_8 : decode b_FK_spawn 8 = .ok (.aload_n 0, 1) := by decide +kernel
theorem d_FK_spawn_9 : decode b_FK_spawn 9 = .ok (.getfield 19, 3) := by decide +kernel
theorem d_FK_spawn_12 : decode b_FK_spawn 12 = .ok (.iload_n 1, 1) := by decide +kernel
theorem d_FK_spawn_13 : decode b_FK_spawn 13 = .ok (.invokevirtual 49, 3) := by decide +kernel
theorem d_FK_spawn_16 : decode b_FK_spawn 16 = .ok (.ifCond .eq 13, 3) := by decide +kernel
theorem d_FK_spawn_19 : decode b_FK_spawn 19 = .ok (.new 53, 3) := by decide +kernel
theorem d_FK_spawn_22 : decode b_FK_spawn 22 = .ok (.dup, 1) := by decide +kernel
theorem d_FK_spawn_23 : decode b_FK_spawn 23 = .ok (.ldc 55, 2) := by decide +kernel
theorem d_FK_spawn_25 : decode b_FK_spawn 25 = .ok (.invokespecial 57, 3) := by decide +kernel
theorem d_FK_spawn_28 : decode b_FK_spawn 28 = .ok (.athrow, 1) := by decide +kernel
theorem d_FK_spawn_29 : decode b_FK_spawn 29 = .ok (.aload_n 0, 1) := by decide +kernel
theorem d_FK_spawn_30 : decode b_FK_spawn 30 = .ok (.iload_n 2, 1) := by decide +kernel
theorem d_FK_spawn_31 : decode b_FK_spawn 31 = .ok (.invokevirtual 60, 3) := by decide +kernel
theorem d_FK_spawn_34 : decode b_FK_spawn 34 = .ok (.aload_n 0, 1) := by decide +kernel
theorem d_FK_spawn_35 : decode b_FK_spawn 35 = .ok (.getfield 10, 3) := by decide +kernel
theorem d_FK_spawn_38 : decode b_FK_spawn 38 = .ok (.iload_n 2, 1) := by decide +kernel
theorem d_FK_spawn_39 : decode b_FK_spawn 39 = .ok (.iconst 1, 1) := by decide +kernel
theorem d_FK_spawn_40 : decode b_FK_spawn 40 = .ok (.iload_n 1, 1) := by decide +kernel
theorem d_FK_spawn_41 : decode b_FK_spawn 41 = .ok (.invokevirtual 34, 3) := by decide +kernel
theorem d_FK_spawn_44 : decode b_FK_spawn 44 = .ok (.aload_n 0, 1) := by decide +kernel
theorem d_FK_spawn_45 : decode b_FK_spawn 45 = .ok (.getfield 19, 3) := by decide +kernel
theorem d_FK_spawn_48 : decode b_FK_spawn 48 = .ok (.iload_n 1, 1) := by decide +kernel
theorem d_FK_spawn_49 : decode b_FK_spawn 49 = .ok (.iconst 1, 1) := by decide +kernel
theorem d_FK_spawn_50 : decode b_FK_spawn 50 = .ok (.aload_n 0, 1) := by decide +kernel
theorem d_FK_spawn_51 : decode b_FK_spawn 51 = .ok (.getfield 30, 3) := by decide +kernel
theorem d_FK_spawn_54 : decode b_FK_spawn 54 = .ok (.iload_n 2, 1) := by decide +kernel
theorem d_FK_spawn_55 : decode b_FK_spawn 55 = .ok (.invokevirtual 38, 3) := by decide +kernel
theorem d_FK_spawn_58 : decode b_FK_spawn 58 = .ok (.iconst 1, 1) := by decide +kernel
theorem d_FK_spawn_59 : decode b_FK_spawn 59 = .ok (.ireturn, 1) := by decide +kernel
theorem d_FK_checkProcess_0 : decode b_FK_checkProcess 0 = .ok (.iload_n 0, 1) := by decide +kernel
theorem d_FK_checkProcess_1 : decode b_FK_checkProcess 1 = .ok (.iconst 1, 1) := by decide +kernel
theorem d_FK_checkProcess_2 : decode b_FK_checkProcess 2 = .ok (.iconst 5, 1) := by decide +kernel
theorem d_FK_checkProcess_3 : decode b_FK_checkProcess 3 = .ok (.invokestatic 237, 3) := by decide +kernel
theorem d_FK_checkProcess_6 : decode b_FK_checkProcess 6 = .ok (.return_, 1) := by decide +kernel
theorem d_FK_checkWithin_0 : decode b_FK_checkWithin 0 = .ok (.iload_n 0, 1) := by decide +kernel
theorem d_FK_checkWithin_1 : decode b_FK_checkWithin 1 = .ok (.iload_n 1, 1) := by decide +kernel
theorem d_FK_checkWithin_2 : decode b_FK_checkWithin 2 = .ok (.if_icmp .lt 8, 3) := by decide +kernel
theorem d_FK_checkWithin_5 : decode b_FK_checkWithin 5 = .ok (.iload_n 0, 1) := by decide +kernel
theorem d_FK_checkWithin_6 : decode b_FK_checkWithin 6 = .ok (.iload_n 2, 1) := by decide +kernel
theorem d_FK_checkWithin_7 : decode b_FK_checkWithin 7 = .ok (.if_icmp .le 14, 3) := by decide +kernel
theorem d_FK_checkWithin_10 : decode b_FK_checkWithin 10 = .ok (.new 259, 3) := by decide +kernel
theorem d_FK_checkWithin_13 : decode b_FK_checkWithin 13 = .ok (.dup, 1) := by decide +kernel
theorem d_FK_checkWithin_14 : decode b_FK_checkWithin 14 = .ok (.ldc_w 261, 3) := by decide +kernel
theorem d_FK_checkWithin_17 : decode b_FK_checkWithin 17 = .ok (.invokespecial 263, 3) := by decide +kernel
theorem d_FK_checkWithin_20 : decode b_FK_checkWithin 20 = .ok (.athrow, 1) := by decide +kernel
theorem d_FK_checkWithin_21 : decode b_FK_checkWithin 21 = .ok (.return_, 1) := by decide +kernel
theorem d_FK_checkPage_0 : decode b_FK_checkPage 0 = .ok (.iload_n 0, 1) := by decide +kernel
theorem d_FK_checkPage_1 : decode b_FK_checkPage 1 = .ok (.iconst 0, 1) := by decide +kernel
theorem d_FK_checkPage_2 : decode b_FK_checkPage 2 = .ok (.bipush 19, 2) := by decide +kernel
theorem d_FK_checkPage_4 : decode b_FK_checkPage 4 = .ok (.invokestatic 237, 3) := by decide +kernel
theorem d_FK_checkPage_7 : decode b_FK_checkPage 7 = .ok (.return_, 1) := by decide +kernel
theorem d_FK_checkPageIsFree_0 : decode b_FK_checkPageIsFree 0 = .ok (.aload_n 0, 1) := by decide +kernel
theorem d_FK_checkPageIsFree_1 : decode b_FK_checkPageIsFree 1 = .ok (.getfield 10, 3) := by decide +kernel
theorem d_FK_checkPageIsFree_4 : decode b_FK_checkPageIsFree 4 = .ok (.iload_n 1, 1) := by decide +kernel
theorem d_FK_checkPageIsFree_5 : decode b_FK_checkPageIsFree 5 = .ok (.invokevirtual 246, 3) := by decide +kernel
theorem d_FK_checkPageIsFree_8 : decode b_FK_checkPageIsFree 8 = .ok (.ifCond .eq 14, 3) := by decide +kernel
theorem d_FK_checkPageIsFree_11 : decode b_FK_checkPageIsFree 11 = .ok (.new 53, 3) := by decide +kernel
theorem d_FK_checkPageIsFree_14 : decode b_FK_checkPageIsFree 14 = .ok (.dup, 1) := by decide +kernel
theorem d_FK_checkPageIsFree_15 : decode b_FK_checkPageIsFree 15 = .ok (.ldc_w 271, 3) := by decide +kernel
theorem d_FK_checkPageIsFree_18 : decode b_FK_checkPageIsFree 18 = .ok (.invokespecial 57, 3) := by decide +kernel
theorem d_FK_checkPageIsFree_21 : decode b_FK_checkPageIsFree 21 = .ok (.athrow, 1) := by decide +kernel
theorem d_FK_checkPageIsFree_22 : decode b_FK_checkPageIsFree 22 = .ok (.return_, 1) := by decide +kernel
theorem d_FK_table_0 : decode b_FK_table 0 = .ok (.aload_n 0, 1) := by decide +kernel
theorem d_FK_table_1 : decode b_FK_table 1 = .ok (.iload_n 1, 1) := by decide +kernel
theorem d_FK_table_2 : decode b_FK_table 2 = .ok (.iconst 1, 1) := by decide +kernel
theorem d_FK_table_3 : decode b_FK_table 3 = .ok (.iload_n 2, 1) := by decide +kernel
theorem d_FK_table_4 : decode b_FK_table 4 = .ok (.iload_n 3, 1) := by decide +kernel
theorem d_FK_table_5 : decode b_FK_table 5 = .ok (.iload 4, 2) := by decide +kernel
theorem d_FK_table_7 : decode b_FK_table 7 = .ok (.invokevirtual 63, 3) := by decide +kernel
theorem d_FK_table_10 : decode b_FK_table 10 = .ok (.ireturn, 1) := by decide +kernel
theorem d_FK_fillEntry_0 : decode b_FK_fillEntry 0 = .ok (.iload_n 1, 1) := by decide +kernel
theorem d_FK_fillEntry_1 : decode b_FK_fillEntry 1 = .ok (.invokestatic 46, 3) := by decide +kernel
theorem d_FK_fillEntry_4 : decode b_FK_fillEntry 4 = .ok (.iload_n 3, 1) := by decide +kernel
theorem d_FK_fillEntry_5 : decode b_FK_fillEntry 5 = .ok (.invokestatic 67, 3) := by decide +kernel
theorem d_FK_fillEntry_8 : decode b_FK_fillEntry 8 = .ok (.iload 4, 2) := by decide +kernel
theorem d_FK_fillEntry_10 : decode b_FK_fillEntry 10 = .ok (.invokestatic 46, 3) := by decide +kernel
theorem d_FK_fillEntry_13 : decode b_FK_fillEntry 13 = .ok (.iload 5, 2) := by decide +kernel
theorem d_FK_fillEntry_15 : decode b_FK_fillEntry 15 = .ok (.invokestatic 70, 3) := by decide +kernel
theorem d_FK_fillEntry_18 : decode b_FK_fillEntry 18 = .ok (.aload_n 0, 1) := by decide +kernel
theorem d_FK_fillEntry_19 : decode b_FK_fillEntry 19 = .ok (.iload_n 1, 1) := by decide +kernel
theorem d_FK_fillEntry_20 : decode b_FK_fillEntry 20 = .ok (.iload_n 2, 1) := by decide +kernel
theorem d_FK_fillEntry_21 : decode b_FK_fillEntry 21 = .ok (.invokevirtual 87, 3) := by decide +kernel
theorem d_FK_fillEntry_24 : decode b_FK_fillEntry 24 = .ok (.ifCond .ne 14, 3) := by decide +kernel
theorem d_FK_fillEntry_27 : decode b_FK_fillEntry 27 = .ok (.new 91, 3) := by decide +kernel
theorem d_FK_fillEntry_30 : decode b_FK_fillEntry 30 = .ok (.dup, 1) := by decide +kernel
theorem d_FK_fillEntry_31 : decode b_FK_fillEntry 31 = .ok (.ldc_w 285, 3) := by decide +kernel
theorem d_FK_fillEntry_34 : decode b_FK_fillEntry 34 = .ok (.invokespecial 95, 3) := by decide +kernel
theorem d_FK_fillEntry_37 : decode b_FK_fillEntry 37 = .ok (.athrow, 1) := by decide +kernel
theorem d_FK_fillEntry_38 : decode b_FK_fillEntry 38 = .ok (.aload_n 0, 1) := by decide +kernel
theorem d_FK_fillEntry_39 : decode b_FK_fillEntry 39 = .ok (.iload 4, 2) := by decide +kernel
theorem d_FK_fillEntry_41 : decode b_FK_fillEntry 41 = .ok (.invokevirtual 60, 3) := by decide +kernel
theorem d_FK_fillEntry_44 : decode b_FK_fillEntry 44 = .ok (.aload_n 0, 1) := by decide +kernel
theorem d_FK_fillEntry_45 : decode b_FK_fillEntry 45 = .ok (.getfield 10, 3) := by decide +kernel
theorem d_FK_fillEntry_48 : decode b_FK_fillEntry 48 = .ok (.iload_n 1, 1) := by decide +kernel
theorem d_FK_fillEntry_49 : decode b_FK_fillEntry 49 = .ok (.iload_n 3, 1) := by decide +kernel
theorem d_FK_fillEntry_50 : decode b_FK_fillEntry 50 = .ok (.invokevirtual 81, 3) := by decide +kernel
theorem d_FK_fillEntry_53 : decode b_FK_fillEntry 53 = .ok (.iconst (-1), 1) := by decide +kernel
theorem d_FK_fillEntry_54 : decode b_FK_fillEntry 54 = .ok (.if_icmp .eq 14, 3) := by decide +kernel
theorem d_FK_fillEntry_57 : decode b_FK_fillEntry 57 = .ok (.new 53, 3) := by decide +kernel
theorem d_FK_fillEntry_60 : decode b_FK_fillEntry 60 = .ok (.dup, 1) := by decide +kernel
theorem d_FK_fillEntry_61 : decode b_FK_fillEntry 61 = .ok (.ldc_w 287, 3) := by decide +kernel
theorem d_FK_fillEntry_64 : decode b_FK_fillEntry 64 = .ok (.invokespecial 57, 3) := by decide +kernel
theorem d_FK_fillEntry_67 : decode b_FK_fillEntry 67 = .ok (.athrow, 1) := by decide +kernel
theorem d_FK_fillEntry_68 : decode b_FK_fillEntry 68 = .ok (.iload_n 2, 1) := by decide +kernel
theorem d_FK_fillEntry_69 : decode b_FK_fillEntry 69 = .ok (.iconst 1, 1) := by decide +kernel
theorem d_FK_fillEntry_70 : decode b_FK_fillEntry 70 = .ok (.if_icmp .ne 7, 3) := by decide +kernel
theorem d_FK_fillEntry_73 : decode b_FK_fillEntry 73 = .ok (.iconst 2, 1) := by decide +kernel
theorem d_FK_fillEntry_74 : decode b_FK_fillEntry 74 = .ok (.goto 4, 3) := by decide +kernel
theorem d_FK_fillEntry_77 : decode b_FK_fillEntry 77 = .ok (.iconst 3, 1) := by decide +kernel
theorem d_FK_fillEntry_78 : decode b_FK_fillEntry 78 = .ok (.istore 6, 2) := by decide +kernel
theorem d_FK_fillEntry_80 : decode b_FK_fillEntry 80 = .ok (.aload_n 0, 1) := by decide +kernel
theorem d_FK_fillEntry_81 : decode b_FK_fillEntry 81 = .ok (.getfield 10, 3) := by decide +kernel
theorem d_FK_fillEntry_84 : decode b_FK_fillEntry 84 = .ok (.iload 4, 2) := by decide +kernel
theorem d_FK_fillEntry_86 : decode b_FK_fillEntry 86 = .ok (.iload 6, 2) := by decide +kernel
theorem d_FK_fillEntry_88 : decode b_FK_fillEntry 88 = .ok (.aload_n 0, 1) := by decide +kernel
theorem d_FK_fillEntry_89 : decode b_FK_fillEntry 89 = .ok (.getfield 10, 3) := by decide +kernel
theorem d_FK_fillEntry_92 : decode b_FK_fillEntry 92 = .ok (.iload_n 1, 1) := by decide +kernel
theorem d_FK_fillEntry_93 : decode b_FK_fillEntry 93 = .ok (.invokevirtual 249, 3) := by decide +kernel
theorem d_FK_fillEntry_96 : decode b_FK_fillEntry 96 = .ok (.invokevirtual 34, 3) := by decide +kernel
theorem d_FK_fillEntry_99 : decode b_FK_fillEntry 99 = .ok (.aload_n 0, 1) := by decide +kernel
theorem d_FK_fillEntry_100 : decode b_FK_fillEntry 100 = .ok (.getfield 10, 3) := by decide +kernel
theorem d_FK_fillEntry_103 : decode b_FK_fillEntry 103 = .ok (.iload_n 1, 1) := by decide +kernel
theorem d_FK_fillEntry_104 : decode b_FK_fillEntry 104 = .ok (.iload_n 3, 1) := by decide +kernel
theorem d_FK_fillEntry_105 : decode b_FK_fillEntry 105 = .ok (.iload 4, 2) := by decide +kernel
theorem d_FK_fillEntry_107 : decode b_FK_fillEntry 107 = .ok (.iload 5, 2) := by decide +kernel
theorem d_FK_fillEntry_109 : decode b_FK_fillEntry 109 = .ok (.invokevirtual 84, 3) := by decide +kernel
theorem d_FK_fillEntry_112 : decode b_FK_fillEntry 112 = .ok (.iconst 1, 1) := by decide +kernel
theorem d_FK_fillEntry_113 : decode b_FK_fillEntry 113 = .ok (.ireturn, 1) := by decide +kernel
theorem d_FK_checkEntry_0 : decode b_FK_checkEntry 0 = .ok (.iload_n 0, 1) := by decide +kernel
theorem d_FK_checkEntry_1 : decode b_FK_checkEntry 1 = .ok (.iconst 0, 1) := by decide +kernel
theorem d_FK_checkEntry_2 : decode b_FK_checkEntry 2 = .ok (.iconst 3, 1) := by decide +kernel
theorem d_FK_checkEntry_3 : decode b_FK_checkEntry 3 = .ok (.invokestatic 237, 3) := by decide +kernel
theorem d_FK_checkEntry_6 : decode b_FK_checkEntry 6 = .ok (.return_, 1) := by decide +kernel
theorem d_FK_checkRights_0 : decode b_FK_checkRights 0 = .ok (.iload_n 0, 1) := by decide +kernel
theorem d_FK_checkRights_1 : decode b_FK_checkRights 1 = .ok (.iconst 1, 1) := by decide +kernel
theorem d_FK_checkRights_2 : decode b_FK_checkRights 2 = .ok (.iconst 3, 1) := by decide +kernel
theorem d_FK_checkRights_3 : decode b_FK_checkRights 3 = .ok (.invokestatic 237, 3) := by decide +kernel
theorem d_FK_checkRights_6 : decode b_FK_checkRights 6 = .ok (.return_, 1) := by decide +kernel
theorem d_FK_isMyPage_0 : decode b_FK_isMyPage 0 = .ok (.aload_n 0, 1) := by decide +kernel
theorem d_FK_isMyPage_1 : decode b_FK_isMyPage 1 = .ok (.getfield 10, 3) := by decide +kernel
theorem d_FK_isMyPage_4 : decode b_FK_isMyPage 4 = .ok (.iload_n 1, 1) := by decide +kernel
theorem d_FK_isMyPage_5 : decode b_FK_isMyPage 5 = .ok (.invokevirtual 246, 3) := by decide +kernel
theorem d_FK_isMyPage_8 : decode b_FK_isMyPage 8 = .ok (.iload_n 2, 1) := by decide +kernel
theorem d_FK_isMyPage_9 : decode b_FK_isMyPage 9 = .ok (.if_icmp .ne 22, 3) := by decide +kernel
theorem d_FK_isMyPage_12 : decode b_FK_isMyPage 12 = .ok (.aload_n 0, 1) := by decide +kernel
theorem d_FK_isMyPage_13 : decode b_FK_isMyPage 13 = .ok (.aload_n 0, 1) := by decide +kernel
theorem d_FK_isMyPage_14 : decode b_FK_isMyPage 14 = .ok (.getfield 10, 3) := by decide +kernel
theorem d_FK_isMyPage_17 : decode b_FK_isMyPage 17 = .ok (.iload_n 1, 1) := by decide +kernel
theorem d_FK_isMyPage_18 : decode b_FK_isMyPage 18 = .ok (.invokevirtual 249, 3) := by decide +kernel
theorem d_FK_isMyPage_21 : decode b_FK_isMyPage 21 = .ok (.invokevirtual 264, 3) := by decide +kernel
theorem d_FK_isMyPage_24 : decode b_FK_isMyPage 24 = .ok (.ifCond .eq 7, 3) := by decide +kernel
theorem d_FK_isMyPage_27 : decode b_FK_isMyPage 27 = .ok (.iconst 1, 1) := by decide +kernel
theorem d_FK_isMyPage_28 : decode b_FK_isMyPage 28 = .ok (.goto 4, 3) := by decide +kernel
theorem d_FK_isMyPage_31 : decode b_FK_isMyPage 31 = .ok (.iconst 0, 1) := by decide +kernel
theorem d_FK_isMyPage_32 : decode b_FK_isMyPage 32 = .ok (.ireturn, 1) := by decide +kernel
theorem d_FK_isMine_0 : decode b_FK_isMine 0 = .ok (.iload_n 1, 1) := by decide +kernel
theorem d_FK_isMine_1 : decode b_FK_isMine 1 = .ok (.aload_n 0, 1) := by decide +kernel
theorem d_FK_isMine_2 : decode b_FK_isMine 2 = .ok (.getfield 30, 3) := by decide +kernel
theorem d_FK_isMine_5 : decode b_FK_isMine 5 = .ok (.if_icmp .eq 21, 3) := by decide +kernel
theorem d_FK_isMine_8 : decode b_FK_isMine 8 = .ok (.aload_n 0, 1) := by decide +kernel
theorem d_FK_isMine_9 : decode b_FK_isMine 9 = .ok (.iload_n 1, 1) := by decide +kernel
theorem d_FK_isMine_10 : decode b_FK_isMine 10 = .ok (.iconst 1, 1) := by decide +kernel
theorem d_FK_isMine_11 : decode b_FK_isMine 11 = .ok (.invokevirtual 110, 3) := by decide +kernel
theorem d_FK_isMine_14 : decode b_FK_isMine 14 = .ok (.ifCond .ne 12, 3) := by decide +kernel
theorem d_FK_isMine_17 : decode b_FK_isMine 17 = .ok (.aload_n 0, 1) := by decide +kernel
theorem d_FK_isMine_18 : decode b_FK_isMine 18 = .ok (.iload_n 1, 1) := by decide +kernel
theorem d_FK_isMine_19 : decode b_FK_isMine 19 = .ok (.iconst 5, 1) := by decide +kernel
theorem d_FK_isMine_20 : decode b_FK_isMine 20 = .ok (.invokevirtual 110, 3) := by decide +kernel
theorem d_FK_isMine_23 : decode b_FK_isMine 23 = .ok (.ifCond .eq 7, 3) := by decide +kernel
theorem d_FK_isMine_26 : decode b_FK_isMine 26 = .ok (.iconst 1, 1) := by decide +kernel
theorem d_FK_isMine_27 : decode b_FK_isMine 27 = .ok (.goto 4, 3) := by decide +kernel
theorem d_FK_isMine_30 : decode b_FK_isMine 30 = .ok (.iconst 0, 1) := by decide +kernel
theorem d_FK_isMine_31 : decode b_FK_isMine 31 = .ok (.ireturn, 1) := by decide +kernel
theorem d_FK_isMyChild_0 : decode b_FK_isMyChild 0 = .ok (.aload_n 0, 1) := by decide +kernel
theorem d_FK_isMyChild_1 : decode b_FK_isMyChild 1 = .ok (.getfield 19, 3) := by decide +kernel
theorem d_FK_isMyChild_4 : decode b_FK_isMyChild 4 = .ok (.iload_n 1, 1) := by decide +kernel
theorem d_FK_isMyChild_5 : decode b_FK_isMyChild 5 = .ok (.invokevirtual 240, 3) := by decide +kernel
theorem d_FK_isMyChild_8 : decode b_FK_isMyChild 8 = .ok (.aload_n 0, 1) := by decide +kernel
theorem d_FK_isMyChild_9 : decode b_FK_isMyChild 9 = .ok (.getfield 30, 3) := by decide +kernel
theorem d_FK_isMyChild_12 : decode b_FK_isMyChild 12 = .ok (.if_icmp .ne 19, 3) := by decide +kernel
theorem d_FK_isMyChild_15 : decode b_FK_isMyChild 15 = .ok (.aload_n 0, 1) := by decide +kernel
theorem d_FK_isMyChild_16 : decode b_FK_isMyChild 16 = .ok (.getfield 19, 3) := by decide +kernel
theorem d_FK_isMyChild_19 : decode b_FK_isMyChild 19 = .ok (.iload_n 1, 1) := by decide +kernel
theorem d_FK_isMyChild_20 : decode b_FK_isMyChild 20 = .ok (.invokevirtual 49, 3) := by decide +kernel
theorem d_FK_isMyChild_23 : decode b_FK_isMyChild 23 = .ok (.iload_n 2, 1) := by decide +kernel
theorem d_FK_isMyChild_24 : decode b_FK_isMyChild 24 = .ok (.if_icmp .ne 7, 3) := by decide +kernel
theorem d_FK_isMyChild_27 : decode b_FK_isMyChild 27 = .ok (.iconst 1, 1) := by decide +kernel
theorem d_FK_isMyChild_28 : decode b_FK_isMyChild 28 = .ok (.goto 4, 3) := by decide +kernel
theorem d_FK_isMyChild_31 : decode b_FK_isMyChild 31 = .ok (.iconst 0, 1) := by decide +kernel
theorem d_FK_isMyChild_32 : decode b_FK_isMyChild 32 = .ok (.ireturn, 1) := by decide +kernel
theorem d_FK_frame_0 : decode b_FK_frame 0 = .ok (.aload_n 0, 1) := by decide +kernel
theorem d_FK_frame_1 : decode b_FK_frame 1 = .ok (.iload_n 1, 1) := by decide +kernel
theorem d_FK_frame_2 : decode b_FK_frame 2 = .ok (.iconst 2, 1) := by decide +kernel
theorem d_FK_frame_3 : decode b_FK_frame 3 = .ok (.iload_n 2, 1) := by decide +kernel
theorem d_FK_frame_4 : decode b_FK_frame 4 = .ok (.iload_n 3, 1) := by decide +kernel
theorem d_FK_frame_5 : decode b_FK_frame 5 = .ok (.iload 4, 2) := by decide +kernel
theorem d_FK_frame_7 : decode b_FK_frame 7 = .ok (.invokevirtual 63, 3) := by decide +kernel
theorem d_FK_frame_10 : decode b_FK_frame 10 = .ok (.ireturn, 1) := by decide +kernel
theorem d_FK_protect_0 : decode b_FK_protect 0 = .ok (.iload_n 1, 1) := by decide +kernel
theorem d_FK_protect_1 : decode b_FK_protect 1 = .ok (.invokestatic 46, 3) := by decide +kernel
theorem d_FK_protect_4 : decode b_FK_protect 4 = .ok (.iload_n 2, 1) := by decide +kernel
theorem d_FK_protect_5 : decode b_FK_protect 5 = .ok (.invokestatic 67, 3) := by decide +kernel
theorem d_FK_protect_8 : decode b_FK_protect 8 = .ok (.iload_n 3, 1) := by decide +kernel
theorem d_FK_protect_9 : decode b_FK_protect 9 = .ok (.invokestatic 70, 3) := by decide +kernel
theorem d_FK_protect_12 : decode b_FK_protect 12 = .ok (.aload_n 0, 1) := by decide +kernel
theorem d_FK_protect_13 : decode b_FK_protect 13 = .ok (.iload_n 1, 1) := by decide +kernel
theorem d_FK_protect_14 : decode b_FK_protect 14 = .ok (.iload_n 2, 1) := by decide +kernel
theorem d_FK_protect_15 : decode b_FK_protect 15 = .ok (.invokevirtual 73, 3) := by decide +kernel
theorem d_FK_protect_18 : decode b_FK_protect 18 = .ok (.aload_n 0, 1) := by decide +kernel
theorem d_FK_protect_19 : decode b_FK_protect 19 = .ok (.getfield 10, 3) := by decide +kernel
theorem d_FK_protect_22 : decode b_FK_protect 22 = .ok (.iload_n 1, 1) := by decide +kernel
theorem d_FK_protect_23 : decode b_FK_protect 23 = .ok (.iload_n 2, 1) := by decide +kernel
theorem d_FK_protect_24 : decode b_FK_protect 24 = .ok (.invokevirtual 77, 3) := by decide +kernel
theorem d_FK_protect_27 : decode b_FK_protect 27 = .ok (.istore 4, 2) := by decide +kernel
theorem d_FK_protect_29 : decode b_FK_protect 29 = .ok (.aload_n 0, 1) := by decide +kernel
theorem d_FK_protect_30 : decode b_FK_protect 30 = .ok (.getfield 10, 3) := by decide +kernel
theorem d_FK_protect_33 : decode b_FK_protect 33 = .ok (.iload_n 1, 1) := by decide +kernel
theorem d_FK_protect_34 : decode b_FK_protect 34 = .ok (.iload_n 2, 1) := by decide +kernel
theorem d_FK_protect_35 : decode b_FK_protect 35 = .ok (.aload_n 0, 1) := by decide +kernel
theorem d_FK_protect_36 : decode b_FK_protect 36 = .ok (.getfield 10, 3) := by decide +kernel
theorem d_FK_protect_39 : decode b_FK_protect 39 = .ok (.iload_n 1, 1) := by decide +kernel
theorem d_FK_protect_40 : decode b_FK_protect 40 = .ok (.iload_n 2, 1) := by decide +kernel
theorem d_FK_protect_41 : decode b_FK_protect 41 = .ok (.invokevirtual 81, 3) := by decide +kernel
theorem d_FK_protect_44 : decode b_FK_protect 44 = .ok (.iload_n 3, 1) := by decide +kernel
theorem d_FK_protect_45 : decode b_FK_protect 45 = .ok (.invokevirtual 84, 3) := by decide +kernel
theorem d_FK_protect_48 : decode b_FK_protect 48 = .ok (.iload 4, 2) := by decide +kernel
theorem d_FK_protect_50 : decode b_FK_protect 50 = .ok (.ireturn, 1) := by decide +kernel
theorem d_FK_checkMyEntryIsFilled_0 : decode b_FK_checkMyEntryIsFilled 0 = .ok (.aload_n 0, 1) := by decide +kernel
theorem d_FK_checkMyEntryIsFilled_1 : decode b_FK_checkMyEntryIsFilled 1 = .ok (.iload_n 1, 1) := by decide +kernel
theorem d_FK_checkMyEntryIsFilled_2 : decode b_FK_checkMyEntryIsFilled 2 = .ok (.iconst 1, 1) := by decide +kernel
theorem d_FK_checkMyEntryIsFilled_3 : decode b_FK_checkMyEntryIsFilled 3 = .ok (.invokevirtual 87, 3) := by decide +kernel
theorem d_FK_checkMyEntryIsFilled_6 : decode b_FK_checkMyEntryIsFilled 6 = .ok (.ifCond .ne 23, 3) := by decide +kernel
theorem d_FK_checkMyEntryIsFilled_9 : decode b_FK_checkMyEntryIsFilled 9 = .ok (.aload_n 0, 1) := by decide +kernel
theorem d_FK_checkMyEntryIsFilled_10 : decode b_FK_checkMyEntryIsFilled 10 = .ok (.iload_n 1, 1) := by decide +kernel
theorem d_FK_checkMyEntryIsFilled_11 : decode b_FK_checkMyEntryIsFilled 11 = .ok (.iconst 2, 1) := by decide +kernel
theorem d_FK_checkMyEntryIsFilled_12 : decode b_FK_checkMyEntryIsFilled 12 = .ok (.invokevirtual 87, 3) := by decide +kernel
theorem d_FK_checkMyEntryIsFilled_15 : decode b_FK_checkMyEntryIsFilled 15 = .ok (.ifCond .ne 14, 3) := by decide +kernel
theorem d_FK_checkMyEntryIsFilled_18 : decode b_FK_checkMyEntryIsFilled 18 = .ok (.new 91, 3) := by decide +kernel
theorem d_FK_checkMyEntryIsFilled_21 : decode b_FK_checkMyEntryIsFilled 21 = .ok (.dup, 1) := by decide +kernel
theorem d_FK_checkMyEntryIsFilled_22 : decode b_FK_checkMyEntryIsFilled 22 = .ok (.ldc_w 278, 3) := by decide +kernel
theorem d_FK_checkMyEntryIsFilled_25 : decode b_FK_checkMyEntryIsFilled 25 = .ok (.invokespecial 95, 3) := by decide +kernel
theorem d_FK_checkMyEntryIsFilled_28 : decode b_FK_checkMyEntryIsFilled 28 = .ok (.athrow, 1) := by decide +kernel
theorem d_FK_checkMyEntryIsFilled_29 : decode b_FK_checkMyEntryIsFilled 29 = .ok (.aload_n 0, 1) := by decide +kernel
theorem d_FK_checkMyEntryIsFilled_30 : decode b_FK_checkMyEntryIsFilled 30 = .ok (.getfield 10, 3) := by decide +kernel
theorem d_FK_checkMyEntryIsFilled_33 : decode b_FK_checkMyEntryIsFilled 33 = .ok (.iload_n 1, 1) := by decide +kernel
theorem d_FK_checkMyEntryIsFilled_34 : decode b_FK_checkMyEntryIsFilled 34 = .ok (.iload_n 2, 1) := by decide +kernel
theorem d_FK_checkMyEntryIsFilled_35 : decode b_FK_checkMyEntryIsFilled 35 = .ok (.invokevirtual 81, 3) := by decide +kernel
theorem d_FK_checkMyEntryIsFilled_38 : decode b_FK_checkMyEntryIsFilled 38 = .ok (.iconst (-1), 1) := by decide +kernel
theorem d_FK_checkMyEntryIsFilled_39 : decode b_FK_checkMyEntryIsFilled 39 = .ok (.if_icmp .ne 14, 3) := by decide +kernel
theorem d_FK_checkMyEntryIsFilled_42 : decode b_FK_checkMyEntryIsFilled 42 = .ok (.new 280, 3) := by decide +kernel
theorem d_FK_checkMyEntryIsFilled_45 : decode b_FK_checkMyEntryIsFilled 45 = .ok (.dup, 1) := by decide +kernel
theorem d_FK_checkMyEntryIsFilled_46 : decode b_FK_checkMyEntryIsFilled 46 = .ok (.ldc_w 282, 3) := by decide +kernel
theorem d_FK_checkMyEntryIsFilled_49 : decode b_FK_checkMyEntryIsFilled 49 = .ok (.invokespecial 284, 3) := by decide +kernel
theorem d_FK_checkMyEntryIsFilled_52 : decode b_FK_checkMyEntryIsFilled 52 = .ok (.athrow, 1) := by decide +kernel
theorem d_FK_checkMyEntryIsFilled_53 : decode b_FK_checkMyEntryIsFilled 53 = .ok (.return_, 1) := by decide +kernel
theorem d_FK_copy_0 : decode b_FK_copy 0 = .ok (.iload_n 1, 1) := by decide +kernel
theorem d_FK_copy_1 : decode b_FK_copy 1 = .ok (.invokestatic 46, 3) := by decide +kernel
theorem d_FK_copy_4 : decode b_FK_copy 4 = .ok (.iload_n 2, 1) := by decide +kernel
theorem d_FK_copy_5 : decode b_FK_copy 5 = .ok (.invokestatic 46, 3) := by decide +kernel
theorem d_FK_copy_8 : decode b_FK_copy 8 = .ok (.aload_n 0, 1) := by decide +kernel
theorem d_FK_copy_9 : decode b_FK_copy 9 = .ok (.iload_n 1, 1) := by decide +kernel
theorem d_FK_copy_10 : decode b_FK_copy 10 = .ok (.iconst 3, 1) := by decide +kernel
theorem d_FK_copy_11 : decode b_FK_copy 11 = .ok (.invokevirtual 87, 3) := by decide +kernel
theorem d_FK_copy_14 : decode b_FK_copy 14 = .ok (.ifCond .eq 12, 3) := by decide +kernel
theorem d_FK_copy_17 : decode b_FK_copy 17 = .ok (.aload_n 0, 1) := by decide +kernel
theorem d_FK_copy_18 : decode b_FK_copy 18 = .ok (.iload_n 2, 1) := by decide +kernel
theorem d_FK_copy_19 : decode b_FK_copy 19 = .ok (.iconst 3, 1) := by decide +kernel
theorem d_FK_copy_20 : decode b_FK_copy 20 = .ok (.invokevirtual 87, 3) := by decide +kernel
theorem d_FK_copy_23 : decode b_FK_copy 23 = .ok (.ifCond .ne 13, 3) := by decide +kernel
theorem d_FK_copy_26 : decode b_FK_copy 26 = .ok (.new 91, 3) := by decide +kernel
theorem d_FK_copy_29 : decode b_FK_copy 29 = .ok (.dup, 1) := by decide +kernel
theorem d_FK_copy_30 : decode b_FK_copy 30 = .ok (.ldc 93, 2) := by decide +kernel
theorem d_FK_copy_32 : decode b_FK_copy 32 = .ok (.invokespecial 95, 3) := by decide +kernel
theorem d_FK_copy_35 : decode b_FK_copy 35 = .ok (.athrow, 1) := by decide +kernel
theorem d_FK_copy_36 : decode b_FK_copy 36 = .ok (.aload_n 0, 1) := by decide +kernel
theorem d_FK_copy_37 : decode b_FK_copy 37 = .ok (.getfield 10, 3) := by decide +kernel
theorem d_FK_copy_40 : decode b_FK_copy 40 = .ok (.iload_n 1, 1) := by decide +kernel
theorem d_FK_copy_41 : decode b_FK_copy 41 = .ok (.iload_n 2, 1) := by decide +kernel
theorem d_FK_copy_42 : decode b_FK_copy 42 = .ok (.invokevirtual 96, 3) := by decide +kernel
theorem d_FK_copy_45 : decode b_FK_copy 45 = .ok (.iconst 1, 1) := by decide +kernel
theorem d_FK_copy_46 : decode b_FK_copy 46 = .ok (.ireturn, 1) := by decide +kernel
theorem d_FK_release_0 : decode b_FK_release 0 = .ok (.iload_n 1, 1) := by decide +kernel
theorem d_FK_release_1 : decode b_FK_release 1 = .ok (.invokestatic 46, 3) := by decide +kernel
theorem d_FK_release_4 : decode b_FK_release 4 = .ok (.iload_n 2, 1) := by decide +kernel
theorem d_FK_release_5 : decode b_FK_release 5 = .ok (.invokestatic 67, 3) := by decide +kernel
theorem d_FK_release_8 : decode b_FK_release 8 = .ok (.aload_n 0, 1) := by decide +kernel
theorem d_FK_release_9 : decode b_FK_release 9 = .ok (.iload_n 1, 1) := by decide +kernel
theorem d_FK_release_10 : decode b_FK_release 10 = .ok (.iload_n 2, 1) := by decide +kernel
theorem d_FK_release_11 : decode b_FK_release 11 = .ok (.invokevirtual 73, 3) := by decide +kernel
theorem d_FK_release_14 : decode b_FK_release 14 = .ok (.aload_n 0, 1) := by decide +kernel
theorem d_FK_release_15 : decode b_FK_release 15 = .ok (.getfield 10, 3) := by decide +kernel
theorem d_FK_release_18 : decode b_FK_release 18 = .ok (.iload_n 1, 1) := by decide +kernel
theorem d_FK_release_19 : decode b_FK_release 19 = .ok (.iload_n 2, 1) := by decide +kernel
theorem d_FK_release_20 : decode b_FK_release 20 = .ok (.invokevirtual 81, 3) := by decide +kernel
theorem d_FK_release_23 : decode b_FK_release 23 = .ok (.istore_n 3, 1) := by decide +kernel
theorem d_FK_release_24 : decode b_FK_release 24 = .ok (.aload_n 0, 1) := by decide +kernel
theorem d_FK_release_25 : decode b_FK_release 25 = .ok (.getfield 10, 3) := by decide +kernel
theorem d_FK_release_28 : decode b_FK_release 28 = .ok (.iload_n 3, 1) := by decide +kernel
theorem d_FK_release_29 : decode b_FK_release 29 = .ok (.invokevirtual 99, 3) := by decide +kernel
theorem d_FK_release_32 : decode b_FK_release 32 = .ok (.ifCond .le 13, 3) := by decide +kernel
theorem d_FK_release_35 : decode b_FK_release 35 = .ok (.new 53, 3) := by decide +kernel
theorem d_FK_release_38 : decode b_FK_release 38 = .ok (.dup, 1) := by decide +kernel
theorem d_FK_release_39 : decode b_FK_release 39 = .ok (.ldc 102, 2) := by decide +kernel
theorem d_FK_release_41 : decode b_FK_release 41 = .ok (.invokespecial 57, 3) := by decide +kernel
theorem d_FK_release_44 : decode b_FK_release 44 = .ok (.athrow, 1) := by decide +kernel
theorem d_FK_release_45 : decode b_FK_release 45 = .ok (.aload_n 0, 1) := by decide +kernel
theorem d_FK_release_46 : decode b_FK_release 46 = .ok (.getfield 10, 3) := by decide +kernel
theorem d_FK_release_49 : decode b_FK_release 49 = .ok (.iload_n 1, 1) := by decide +kernel
theorem d_FK_release_50 : decode b_FK_release 50 = .ok (.iload_n 2, 1) := by decide +kernel
theorem d_FK_release_51 : decode b_FK_release 51 = .ok (.invokevirtual 104, 3) := by decide +kernel
theorem d_FK_release_54 : decode b_FK_release 54 = .ok (.aload_n 0, 1) := by decide +kernel
theorem d_FK_release_55 : decode b_FK_release 55 = .ok (.getfield 10, 3) := by decide +kernel
theorem d_FK_release_58 : decode b_FK_release 58 = .ok (.iload_n 3, 1) := by decide +kernel
theorem d_FK_release_59 : decode b_FK_release 59 = .ok (.invokevirtual 107, 3) := by decide +kernel
theorem d_FK_release_62 : decode b_FK_release 62 = .ok (.iload_n 3, 1) := by decide +kernel
theorem d_FK_release_63 : decode b_FK_release 63 = .ok (.ireturn, 1) := by decide +kernel
theorem d_FK_start_0 : decode b_FK_start 0 = .ok (.iload_n 1, 1) := by decide +kernel
theorem d_FK_start_1 : decode b_FK_start 1 = .ok (.invokestatic 42, 3) := by decide +kernel
theorem d_FK_start_4 : decode b_FK_start 4 = .ok (.aload_n 0, 1) := by decide +kernel
theorem d_FK_start_5 : decode b_FK_start 5 = .ok (.iload_n 1, 1) := by decide +kernel
theorem d_FK_start_6 : decode b_FK_start 6 = .ok (.iconst 1, 1) := by decide +kernel
theorem d_FK_start_7 : decode b_FK_start 7 = .ok (.invokevirtual 110, 3) := by decide +kernel
theorem d_FK_start_10 : decode b_FK_start 10 = .ok (.ifCond .ne 13, 3) := by decide +kernel
theorem d_FK_start_13 : decode b_FK_start 13 = .ok (.new 53, 3) := by decide +kernel
theorem d_FK_start_16 : decode b_FK_start 16 = .ok (.dup, 1) := by decide +kernel
theorem d_FK_start_17 : decode b_FK_start 17 = .ok (.ldc 113, 2) := by decide +kernel
theorem d_FK_start_19 : decode b_FK_start 19 = .ok (.invokespecial 57, 3) := by decide +kernel
theorem d_FK_start_22 : decode b_FK_start 22 = .ok (.athrow, 1) := by decide +kernel
theorem d_FK_start_23 : decode b_FK_start 23 = .ok (.aload_n 0, 1) := by decide +kernel
theorem d_FK_start_24 : decode b_FK_start 24 = .ok (.getfield 19, 3) := by decide +kernel
theorem d_FK_start_27 : decode b_FK_start 27 = .ok (.iload_n 1, 1) := by decide +kernel
theorem d_FK_start_28 : decode b_FK_start 28 = .ok (.iconst 2, 1) := by decide +kernel
theorem d_FK_start_29 : decode b_FK_start 29 = .ok (.invokevirtual 115, 3) := by decide +kernel
theorem d_FK_start_32 : decode b_FK_start 32 = .ok (.iconst 1, 1) := by decide +kernel
theorem d_FK_start_33 : decode b_FK_start 33 = .ok (.ireturn, 1) := by decide +kernel
theorem d_FK_give_0 : decode b_FK_give 0 = .ok (.iload_n 1, 1) := by decide +kernel
theorem d_FK_give_1 : decode b_FK_give 1 = .ok (.invokestatic 42, 3) := by decide +kernel
theorem d_FK_give_4 : decode b_FK_give 4 = .ok (.aload_n 0, 1) := by decide +kernel
theorem d_FK_give_5 : decode b_FK_give 5 = .ok (.iload_n 1, 1) := by decide +kernel
theorem d_FK_give_6 : decode b_FK_give 6 = .ok (.invokevirtual 118, 3) := by decide +kernel
theorem d_FK_give_9 : decode b_FK_give 9 = .ok (.aload_n 0, 1) := by decide +kernel
theorem d_FK_give_10 : decode b_FK_give 10 = .ok (.getfield 30, 3) := by decide +kernel
theorem d_FK_give_13 : decode b_FK_give 13 = .ok (.istore_n 2, 1) := by decide +kernel
theorem d_FK_give_14 : decode b_FK_give 14 = .ok (.aload_n 0, 1) := by decide +kernel
theorem d_FK_give_15 : decode b_FK_give 15 = .ok (.getfield 19, 3) := by decide +kernel
theorem d_FK_give_18 : decode b_FK_give 18 = .ok (.iload_n 2, 1) := by decide +kernel
theorem d_FK_give_19 : decode b_FK_give 19 = .ok (.iconst 2, 1) := by decide +kernel
theorem d_FK_give_20 : decode b_FK_give 20 = .ok (.invokevirtual 115, 3) := by decide +kernel
theorem d_FK_give_23 : decode b_FK_give 23 = .ok (.aload_n 0, 1) := by decide +kernel
theorem d_FK_give_24 : decode b_FK_give 24 = .ok (.iload_n 1, 1) := by decide +kernel
theorem d_FK_give_25 : decode b_FK_give 25 = .ok (.invokevirtual 121, 3) := by decide +kernel
theorem d_FK_give_28 : decode b_FK_give 28 = .ok (.iload_n 2, 1) := by decide +kernel
theorem d_FK_give_29 : decode b_FK_give 29 = .ok (.ireturn, 1) := by decide +kernel
theorem d_FK_checkIsReady_0 : decode b_FK_checkIsReady 0 = .ok (.aload_n 0, 1) := by decide +kernel
theorem d_FK_checkIsReady_1 : decode b_FK_checkIsReady 1 = .ok (.getfield 19, 3) := by decide +kernel
theorem d_FK_checkIsReady_4 : decode b_FK_checkIsReady 4 = .ok (.iload_n 1, 1) := by decide +kernel
theorem d_FK_checkIsReady_5 : decode b_FK_checkIsReady 5 = .ok (.invokevirtual 49, 3) := by decide +kernel
theorem d_FK_checkIsReady_8 : decode b_FK_checkIsReady 8 = .ok (.iconst 2, 1) := by decide +kernel
theorem d_FK_checkIsReady_9 : decode b_FK_checkIsReady 9 = .ok (.if_icmp .eq 14, 3) := by decide +kernel
theorem d_FK_checkIsReady_12 : decode b_FK_checkIsReady 12 = .ok (.new 53, 3) := by decide +kernel
theorem d_FK_checkIsReady_15 : decode b_FK_checkIsReady 15 = .ok (.dup, 1) := by decide +kernel
theorem d_FK_checkIsReady_16 : decode b_FK_checkIsReady 16 = .ok (.ldc_w 269, 3) := by decide +kernel
theorem d_FK_checkIsReady_19 : decode b_FK_checkIsReady 19 = .ok (.invokespecial 57, 3) := by decide +kernel
theorem d_FK_checkIsReady_22 : decode b_FK_checkIsReady 22 = .ok (.athrow, 1) := by decide +kernel
theorem d_FK_checkIsReady_23 : decode b_FK_checkIsReady 23 = .ok (.return_, 1) := by decide +kernel
theorem d_FK_run_0 : decode b_FK_run 0 = .ok (.aload_n 0, 1) := by decide +kernel
theorem d_FK_run_1 : decode b_FK_run 1 = .ok (.getfield 19, 3) := by decide +kernel
theorem d_FK_run_4 : decode b_FK_run 4 = .ok (.iload_n 1, 1) := by decide +kernel
theorem d_FK_run_5 : decode b_FK_run 5 = .ok (.iconst 3, 1) := by decide +kernel
theorem d_FK_run_6 : decode b_FK_run 6 = .ok (.invokevirtual 115, 3) := by decide +kernel
theorem d_FK_run_9 : decode b_FK_run 9 = .ok (.aload_n 0, 1) := by decide +kernel
theorem d_FK_run_10 : decode b_FK_run 10 = .ok (.iload_n 1, 1) := by decide +kernel
theorem d_FK_run_11 : decode b_FK_run 11 = .ok (.putfield 30, 3) := by decide +kernel
theorem d_FK_run_14 : decode b_FK_run 14 = .ok (.return_, 1) := by decide +kernel
theorem d_FK_kill_0 : decode b_FK_kill 0 = .ok (.iload_n 1, 1) := by decide +kernel
theorem d_FK_kill_1 : decode b_FK_kill 1 = .ok (.invokestatic 42, 3) := by decide +kernel
theorem d_FK_kill_4 : decode b_FK_kill 4 = .ok (.iload_n 1, 1) := by decide +kernel
theorem d_FK_kill_5 : decode b_FK_kill 5 = .ok (.iconst 1, 1) := by decide +kernel
theorem d_FK_kill_6 : decode b_FK_kill 6 = .ok (.if_icmp .ne 13, 3) := by decide +kernel
theorem d_FK_kill_9 : decode b_FK_kill 9 = .ok (.new 91, 3) := by decide +kernel
theorem d_FK_kill_12 : decode b_FK_kill 12 = .ok (.dup, 1) := by decide +kernel
theorem d_FK_kill_13 : decode b_FK_kill 13 = .ok (.ldc 124, 2) := by decide +kernel
theorem d_FK_kill_15 : decode b_FK_kill 15 = .ok (.invokespecial 95, 3) := by decide +kernel
theorem d_FK_kill_18 : decode b_FK_kill 18 = .ok (.athrow, 1) := by decide +kernel
theorem d_FK_kill_19 : decode b_FK_kill 19 = .ok (.iload_n 1, 1) := by decide +kernel
theorem d_FK_kill_20 : decode b_FK_kill 20 = .ok (.aload_n 0, 1) := by decide +kernel
theorem d_FK_kill_21 : decode b_FK_kill 21 = .ok (.getfield 30, 3) := by decide +kernel
theorem d_FK_kill_24 : decode b_FK_kill 24 = .ok (.if_icmp .ne 10, 3) := by decide +kernel
theorem d_FK_kill_27 : decode b_FK_kill 27 = .ok (.aload_n 0, 1) := by decide +kernel
theorem d_FK_kill_28 : decode b_FK_kill 28 = .ok (.invokevirtual 126, 3) := by decide +kernel
theorem d_FK_kill_31 : decode b_FK_kill 31 = .ok (.goto 21, 3) := by decide +kernel
theorem d_FK_kill_34 : decode b_FK_kill 34 = .ok (.aload_n 0, 1) := by decide +kernel
theorem d_FK_kill_35 : decode b_FK_kill 35 = .ok (.iload_n 1, 1) := by decide +kernel
theorem d_FK_kill_36 : decode b_FK_kill 36 = .ok (.invokevirtual 129, 3) := by decide +kernel
theorem d_FK_kill_39 : decode b_FK_kill 39 = .ok (.ifCond .ne 13, 3) := by decide +kernel
theorem d_FK_kill_42 : decode b_FK_kill 42 = .ok (.new 53, 3) := by decide +kernel
theorem d_FK_kill_45 : decode b_FK_kill 45 = .ok (.dup, 1) := by decide +kernel
theorem d_FK_kill_46 : decode b_FK_kill 46 = .ok (.ldc 133, 2) := by decide +kernel
theorem d_FK_kill_48 : decode b_FK_kill 48 = .ok (.invokespecial 57, 3) := by decide +kernel
theorem d_FK_kill_51 : decode b_FK_kill 51 = .ok (.athrow, 1) := by decide +kernel
theorem d_FK_kill_52 : decode b_FK_kill 52 = .ok (.aload_n 0, 1) := by decide +kernel
theorem d_FK_kill_53 : decode b_FK_kill 53 = .ok (.getfield 19, 3) := by decide +kernel
theorem d_FK_kill_56 : decode b_FK_kill 56 = .ok (.iload_n 1, 1) := by decide +kernel
theorem d_FK_kill_57 : decode b_FK_kill 57 = .ok (.iconst 5, 1) := by decide +kernel
theorem d_FK_kill_58 : decode b_FK_kill 58 = .ok (.invokevirtual 115, 3) := by decide +kernel
theorem d_FK_kill_61 : decode b_FK_kill 61 = .ok (.aload_n 0, 1) := by decide +kernel
theorem d_FK_kill_62 : decode b_FK_kill 62 = .ok (.getfield 19, 3) := by decide +kernel
theorem d_FK_kill_65 : decode b_FK_kill 65 = .ok (.iload_n 1, 1) := by decide +kernel
theorem d_FK_kill_66 : decode b_FK_kill 66 = .ok (.invokevirtual 135, 3) := by decide +kernel
theorem d_FK_kill_69 : decode b_FK_kill 69 = .ok (.ireturn, 1) := by decide +kernel
theorem d_FK_handOverToNextReady_0 : decode b_FK_handOverToNextReady 0 = .ok (.aload_n 0, 1) := by decide +kernel
theorem d_FK_handOverToNextReady_1 : decode b_FK_handOverToNextReady 1 = .ok (.getfield 19, 3) := by decide +kernel
theorem d_FK_handOverToNextReady_4 : decode b_FK_handOverToNextReady 4 = .ok (.aload_n 0, 1) := by decide +kernel
theorem d_FK_handOverToNextReady_5 : decode b_FK_handOverToNextReady 5 = .ok (.getfield 30, 3) := by decide +kernel
theorem d_FK_handOverToNextReady_8 : decode b_FK_handOverToNextReady 8 = .ok (.invokevirtual 300, 3) := by decide +kernel
theorem d_FK_handOverToNextReady_11 : decode b_FK_handOverToNextReady 11 = .ok (.istore_n 1, 1) := by decide +kernel
theorem d_FK_handOverToNextReady_12 : decode b_FK_handOverToNextReady 12 = .ok (.iload_n 1, 1) := by decide +kernel
theorem d_FK_handOverToNextReady_13 : decode b_FK_handOverToNextReady 13 = .ok (.ifCond .ne 14, 3) := by decide +kernel
theorem d_FK_handOverToNextReady_16 : decode b_FK_handOverToNextReady 16 = .ok (.new 53, 3) := by decide +kernel
theorem d_FK_handOverToNextReady_19 : decode b_FK_handOverToNextReady 19 = .ok (.dup, 1) := by decide +kernel
theorem d_FK_handOverToNextReady_20 : decode b_FK_handOverToNextReady 20 = .ok (.ldc_w 303, 3) := by decide +kernel
theorem d_FK_handOverToNextReady_23 : decode b_FK_handOverToNextReady 23 = .ok (.invokespecial 57, 3) := by decide +kernel
theorem d_FK_handOverToNextReady_26 : decode b_FK_handOverToNextReady 26 = .ok (.athrow, 1) := by decide +kernel
theorem d_FK_handOverToNextReady_27 : decode b_FK_handOverToNextReady 27 = .ok (.aload_n 0, 1) := by decide +kernel
theorem d_FK_handOverToNextReady_28 : decode b_FK_handOverToNextReady 28 = .ok (.iload_n 1, 1) := by decide +kernel
theorem d_FK_handOverToNextReady_29 : decode b_FK_handOverToNextReady 29 = .ok (.invokevirtual 121, 3) := by decide +kernel
theorem d_FK_handOverToNextReady_32 : decode b_FK_handOverToNextReady 32 = .ok (.return_, 1) := by decide +kernel
theorem d_FK_isMyLivingChild_0 : decode b_FK_isMyLivingChild 0 = .ok (.aload_n 0, 1) := by decide +kernel
theorem d_FK_isMyLivingChild_1 : decode b_FK_isMyLivingChild 1 = .ok (.getfield 19, 3) := by decide +kernel
theorem d_FK_isMyLivingChild_4 : decode b_FK_isMyLivingChild 4 = .ok (.iload_n 1, 1) := by decide +kernel
theorem d_FK_isMyLivingChild_5 : decode b_FK_isMyLivingChild 5 = .ok (.invokevirtual 49, 3) := by decide +kernel
theorem d_FK_isMyLivingChild_8 : decode b_FK_isMyLivingChild 8 = .ok (.istore_n 2, 1) := by decide +kernel
theorem d_FK_isMyLivingChild_9 : decode b_FK_isMyLivingChild 9 = .ok (.aload_n 0, 1) := by decide +kernel
theorem d_FK_isMyLivingChild_10 : decode b_FK_isMyLivingChild 10 = .ok (.getfield 19, 3) := by decide +kernel
theorem d_FK_isMyLivingChild_13 : decode b_FK_isMyLivingChild 13 = .ok (.iload_n 1, 1) := by decide +kernel
theorem d_FK_isMyLivingChild_14 : decode b_FK_isMyLivingChild 14 = .ok (.invokevirtual 240, 3) := by decide +kernel
theorem d_FK_isMyLivingChild_17 : decode b_FK_isMyLivingChild 17 = .ok (.aload_n 0, 1) := by decide +kernel
theorem d_FK_isMyLivingChild_18 : decode b_FK_isMyLivingChild 18 = .ok (.getfield 30, 3) := by decide +kernel
theorem d_FK_isMyLivingChild_21 : decode b_FK_isMyLivingChild 21 = .ok (.if_icmp .ne 16, 3) := by decide +kernel
theorem d_FK_isMyLivingChild_24 : decode b_FK_isMyLivingChild 24 = .ok (.iload_n 2, 1) := by decide +kernel
theorem d_FK_isMyLivingChild_25 : decode b_FK_isMyLivingChild 25 = .ok (.ifCond .eq 12, 3) := by decide +kernel
theorem d_FK_isMyLivingChild_28 : decode b_FK_isMyLivingChild 28 = .ok (.iload_n 2, 1) := by decide +kernel
theorem d_FK_isMyLivingChild_29 : decode b_FK_isMyLivingChild 29 = .ok (.iconst 5, 1) := by decide +kernel
theorem d_FK_isMyLivingChild_30 : decode b_FK_isMyLivingChild 30 = .ok (.if_icmp .eq 7, 3) := by decide +kernel
theorem d_FK_isMyLivingChild_33 : decode b_FK_isMyLivingChild 33 = .ok (.iconst 1, 1) := by decide +kernel
theorem d_FK_isMyLivingChild_34 : decode b_FK_isMyLivingChild 34 = .ok (.goto 4, 3) := by decide +kernel
theorem d_FK_isMyLivingChild_37 : decode b_FK_isMyLivingChild 37 = .ok (.iconst 0, 1) := by decide +kernel
theorem d_FK_isMyLivingChild_38 : decode b_FK_isMyLivingChild 38 = .ok (.ireturn, 1) := by decide +kernel
theorem d_FK_reap_0 : decode b_FK_reap 0 = .ok (.iload_n 1, 1) := by decide +kernel
theorem d_FK_reap_1 : decode b_FK_reap 1 = .ok (.invokestatic 42, 3) := by decide +kernel
theorem d_FK_reap_4 : decode b_FK_reap 4 = .ok (.aload_n 0, 1) := by decide +kernel
theorem d_FK_reap_5 : decode b_FK_reap 5 = .ok (.iload_n 1, 1) := by decide +kernel
theorem d_FK_reap_6 : decode b_FK_reap 6 = .ok (.iconst 5, 1) := by decide +kernel
theorem d_FK_reap_7 : decode b_FK_reap 7 = .ok (.invokevirtual 110, 3) := by decide +kernel
theorem d_FK_reap_10 : decode b_FK_reap 10 = .ok (.ifCond .ne 13, 3) := by decide +kernel
theorem d_FK_reap_13 : decode b_FK_reap 13 = .ok (.new 53, 3) := by decide +kernel
theorem d_FK_reap_16 : decode b_FK_reap 16 = .ok (.dup, 1) := by decide +kernel
theorem d_FK_reap_17 : decode b_FK_reap 17 = .ok (.ldc 138, 2) := by decide +kernel
theorem d_FK_reap_19 : decode b_FK_reap 19 = .ok (.invokespecial 57, 3) := by decide +kernel
theorem d_FK_reap_22 : decode b_FK_reap 22 = .ok (.athrow, 1) := by decide +kernel
theorem d_FK_reap_23 : decode b_FK_reap 23 = .ok (.aload_n 0, 1) := by decide +kernel
theorem d_FK_reap_24 : decode b_FK_reap 24 = .ok (.iload_n 1, 1) := by decide +kernel
theorem d_FK_reap_25 : decode b_FK_reap 25 = .ok (.invokevirtual 140, 3) := by decide +kernel
theorem d_FK_reap_28 : decode b_FK_reap 28 = .ok (.ifCond .eq 13, 3) := by decide +kernel
theorem d_FK_reap_31 : decode b_FK_reap 31 = .ok (.new 53, 3) := by decide +kernel
theorem d_FK_reap_34 : decode b_FK_reap 34 = .ok (.dup, 1) := by decide +kernel
theorem d_FK_reap_35 : decode b_FK_reap 35 = .ok (.ldc 143, 2) := by decide +kernel
theorem d_FK_reap_37 : decode b_FK_reap 37 = .ok (.invokespecial 57, 3) := by decide +kernel
theorem d_FK_reap_40 : decode b_FK_reap 40 = .ok (.athrow, 1) := by decide +kernel
theorem d_FK_reap_41 : decode b_FK_reap 41 = .ok (.aload_n 0, 1) := by decide +kernel
theorem d_FK_reap_42 : decode b_FK_reap 42 = .ok (.getfield 10, 3) := by decide +kernel
theorem d_FK_reap_45 : decode b_FK_reap 45 = .ok (.aload_n 0, 1) := by decide +kernel
theorem d_FK_reap_46 : decode b_FK_reap 46 = .ok (.getfield 19, 3) := by decide +kernel
theorem d_FK_reap_49 : decode b_FK_reap 49 = .ok (.iload_n 1, 1) := by decide +kernel
theorem d_FK_reap_50 : decode b_FK_reap 50 = .ok (.invokevirtual 145, 3) := by decide +kernel
theorem d_FK_reap_53 : decode b_FK_reap 53 = .ok (.invokevirtual 107, 3) := by decide +kernel
theorem d_FK_reap_56 : decode b_FK_reap 56 = .ok (.aload_n 0, 1) := by decide +kernel
theorem d_FK_reap_57 : decode b_FK_reap 57 = .ok (.getfield 19, 3) := by decide +kernel
theorem d_FK_reap_60 : decode b_FK_reap 60 = .ok (.iload_n 1, 1) := by decide +kernel
theorem d_FK_reap_61 : decode b_FK_reap 61 = .ok (.invokevirtual 148, 3) := by decide +kernel
theorem d_FK_reap_64 : decode b_FK_reap 64 = .ok (.aload_n 0, 1) := by decide +kernel
theorem d_FK_reap_65 : decode b_FK_reap 65 = .ok (.getfield 19, 3) := by decide +kernel
theorem d_FK_reap_68 : decode b_FK_reap 68 = .ok (.iload_n 1, 1) := by decide +kernel
theorem d_FK_reap_69 : decode b_FK_reap 69 = .ok (.iconst 1, 1) := by decide +kernel
theorem d_FK_reap_70 : decode b_FK_reap 70 = .ok (.invokevirtual 151, 3) := by decide +kernel
theorem d_FK_reap_73 : decode b_FK_reap 73 = .ok (.ireturn, 1) := by decide +kernel
theorem d_FK_holdsMoreThanRoot_0 : decode b_FK_holdsMoreThanRoot 0 = .ok (.aload_n 0, 1) := by decide +kernel
theorem d_FK_holdsMoreThanRoot_1 : decode b_FK_holdsMoreThanRoot 1 = .ok (.getfield 10, 3) := by decide +kernel
theorem d_FK_holdsMoreThanRoot_4 : decode b_FK_holdsMoreThanRoot 4 = .ok (.iload_n 1, 1) := by decide +kernel
theorem d_FK_holdsMoreThanRoot_5 : decode b_FK_holdsMoreThanRoot 5 = .ok (.invokevirtual 243, 3) := by decide +kernel
theorem d_FK_holdsMoreThanRoot_8 : decode b_FK_holdsMoreThanRoot 8 = .ok (.iconst 1, 1) := by decide +kernel
theorem d_FK_holdsMoreThanRoot_9 : decode b_FK_holdsMoreThanRoot 9 = .ok (.if_icmp .gt 32, 3) := by decide +kernel
theorem d_FK_holdsMoreThanRoot_12 : decode b_FK_holdsMoreThanRoot 12 = .ok (.aload_n 0, 1) := by decide +kernel
theorem d_FK_holdsMoreThanRoot_13 : decode b_FK_holdsMoreThanRoot 13 = .ok (.getfield 10, 3) := by decide +kernel
theorem d_FK_holdsMoreThanRoot_16 : decode b_FK_holdsMoreThanRoot 16 = .ok (.aload_n 0, 1) := by decide +kernel
theorem d_FK_holdsMoreThanRoot_17 : decode b_FK_holdsMoreThanRoot 17 = .ok (.getfield 19, 3) := by decide +kernel
theorem d_FK_holdsMoreThanRoot_20 : decode b_FK_holdsMoreThanRoot 20 = .ok (.iload_n 1, 1) := by decide +kernel
theorem d_FK_holdsMoreThanRoot_21 : decode b_FK_holdsMoreThanRoot 21 = .ok (.invokevirtual 145, 3) := by decide +kernel
theorem d_FK_holdsMoreThanRoot_24 : decode b_FK_holdsMoreThanRoot 24 = .ok (.invokevirtual 99, 3) := by decide +kernel
theorem d_FK_holdsMoreThanRoot_27 : decode b_FK_holdsMoreThanRoot 27 = .ok (.ifCond .gt 14, 3) := by decide +kernel
theorem d_FK_holdsMoreThanRoot_30 : decode b_FK_holdsMoreThanRoot 30 = .ok (.aload_n 0, 1) := by decide +kernel
theorem d_FK_holdsMoreThanRoot_31 : decode b_FK_holdsMoreThanRoot 31 = .ok (.getfield 19, 3) := by decide +kernel
theorem d_FK_holdsMoreThanRoot_34 : decode b_FK_holdsMoreThanRoot 34 = .ok (.iload_n 1, 1) := by decide +kernel
theorem d_FK_holdsMoreThanRoot_35 : decode b_FK_holdsMoreThanRoot 35 = .ok (.invokevirtual 135, 3) := by decide +kernel
theorem d_FK_holdsMoreThanRoot_38 : decode b_FK_holdsMoreThanRoot 38 = .ok (.ifCond .le 7, 3) := by decide +kernel
theorem d_FK_holdsMoreThanRoot_41 : decode b_FK_holdsMoreThanRoot 41 = .ok (.iconst 1, 1) := by decide +kernel
theorem d_FK_holdsMoreThanRoot_42 : decode b_FK_holdsMoreThanRoot 42 = .ok (.goto 4, 3) := by decide +kernel
theorem d_FK_holdsMoreThanRoot_45 : decode b_FK_holdsMoreThanRoot 45 = .ok (.iconst 0, 1) := by decide +kernel
theorem d_FK_holdsMoreThanRoot_46 : decode b_FK_holdsMoreThanRoot 46 = .ok (.ireturn, 1) := by decide +kernel
theorem d_FK_open_0 : decode b_FK_open 0 = .ok (.iload_n 1, 1) := by decide +kernel
theorem d_FK_open_1 : decode b_FK_open 1 = .ok (.invokestatic 42, 3) := by decide +kernel
theorem d_FK_open_4 : decode b_FK_open 4 = .ok (.iload_n 2, 1) := by decide +kernel
theorem d_FK_open_5 : decode b_FK_open 5 = .ok (.invokestatic 154, 3) := by decide +kernel
theorem d_FK_open_8 : decode b_FK_open 8 = .ok (.iload_n 3, 1) := by decide +kernel
theorem d_FK_open_9 : decode b_FK_open 9 = .ok (.invokestatic 157, 3) := by decide +kernel
theorem d_FK_open_12 : decode b_FK_open 12 = .ok (.aload_n 0, 1) := by decide +kernel
theorem d_FK_open_13 : decode b_FK_open 13 = .ok (.iload_n 1, 1) := by decide +kernel
theorem d_FK_open_14 : decode b_FK_open 14 = .ok (.invokevirtual 160, 3) := by decide +kernel
theorem d_FK_open_17 : decode b_FK_open 17 = .ok (.aload_n 0, 1) := by decide +kernel
theorem d_FK_open_18 : decode b_FK_open 18 = .ok (.iload_n 1, 1) := by decide +kernel
theorem d_FK_open_19 : decode b_FK_open 19 = .ok (.iload_n 2, 1) := by decide +kernel
theorem d_FK_open_20 : decode b_FK_open 20 = .ok (.invokevirtual 163, 3) := by decide +kernel
theorem d_FK_open_23 : decode b_FK_open 23 = .ok (.aload_n 0, 1) := by decide +kernel
theorem d_FK_open_24 : decode b_FK_open 24 = .ok (.getfield 19, 3) := by decide +kernel
theorem d_FK_open_27 : decode b_FK_open 27 = .ok (.iload_n 3, 1) := by decide +kernel
theorem d_FK_open_28 : decode b_FK_open 28 = .ok (.invokevirtual 166, 3) := by decide +kernel
theorem d_FK_open_31 : decode b_FK_open 31 = .ok (.ifCond .le 13, 3) := by decide +kernel
theorem d_FK_open_34 : decode b_FK_open 34 = .ok (.new 53, 3) := by decide +kernel
theorem d_FK_open_37 : decode b_FK_open 37 = .ok (.dup, 1) := by decide +kernel
theorem d_FK_open_38 : decode b_FK_open 38 = .ok (.ldc 169, 2) := by decide +kernel
theorem d_FK_open_40 : decode b_FK_open 40 = .ok (.invokespecial 57, 3) := by decide +kernel
theorem d_FK_open_43 : decode b_FK_open 43 = .ok (.athrow, 1) := by decide +kernel
theorem d_FK_open_44 : decode b_FK_open 44 = .ok (.aload_n 0, 1) := by decide +kernel
theorem d_FK_open_45 : decode b_FK_open 45 = .ok (.getfield 26, 3) := by decide +kernel
theorem d_FK_open_48 : decode b_FK_open 48 = .ok (.iload_n 3, 1) := by decide +kernel
theorem d_FK_open_49 : decode b_FK_open 49 = .ok (.invokevirtual 171, 3) := by decide +kernel
theorem d_FK_open_52 : decode b_FK_open 52 = .ok (.aload_n 0, 1) := by decide +kernel
theorem d_FK_open_53 : decode b_FK_open 53 = .ok (.iload_n 1, 1) := by decide +kernel
theorem d_FK_open_54 : decode b_FK_open 54 = .ok (.iload_n 2, 1) := by decide +kernel
theorem d_FK_open_55 : decode b_FK_open 55 = .ok (.iload_n 3, 1) := by decide +kernel
theorem d_FK_open_56 : decode b_FK_open 56 = .ok (.invokevirtual 174, 3) := by decide +kernel
theorem d_FK_open_59 : decode b_FK_open 59 = .ok (.ireturn, 1) := by decide +kernel
theorem d_FK_checkDescriptor_0 : decode b_FK_checkDescriptor 0 = .ok (.iload_n 0, 1) := by decide +kernel
theorem d_FK_checkDescriptor_1 : decode b_FK_checkDescriptor 1 = .ok (.iconst 0, 1) := by decide +kernel
theorem d_FK_checkDescriptor_2 : decode b_FK_checkDescriptor 2 = .ok (.iconst 3, 1) := by decide +kernel
theorem d_FK_checkDescriptor_3 : decode b_FK_checkDescriptor 3 = .ok (.invokestatic 237, 3) := by decide +kernel
theorem d_FK_checkDescriptor_6 : decode b_FK_checkDescriptor 6 = .ok (.return_, 1) := by decide +kernel
theorem d_FK_checkPipe_0 : decode b_FK_checkPipe 0 = .ok (.iload_n 0, 1) := by decide +kernel
theorem d_FK_checkPipe_1 : decode b_FK_checkPipe 1 = .ok (.iconst 0, 1) := by decide +kernel
theorem d_FK_checkPipe_2 : decode b_FK_checkPipe 2 = .ok (.iconst 2, 1) := by decide +kernel
theorem d_FK_checkPipe_3 : decode b_FK_checkPipe 3 = .ok (.invokestatic 237, 3) := by decide +kernel
theorem d_FK_checkPipe_6 : decode b_FK_checkPipe 6 = .ok (.return_, 1) := by decide +kernel
theorem d_FK_checkIsMine_0 : decode b_FK_checkIsMine 0 = .ok (.aload_n 0, 1) := by decide +kernel
theorem d_FK_checkIsMine_1 : decode b_FK_checkIsMine 1 = .ok (.iload_n 1, 1) := by decide +kernel
theorem d_FK_checkIsMine_2 : decode b_FK_checkIsMine 2 = .ok (.invokevirtual 264, 3) := by decide +kernel
theorem d_FK_checkIsMine_5 : decode b_FK_checkIsMine 5 = .ok (.ifCond .ne 14, 3) := by decide +kernel
theorem d_FK_checkIsMine_8 : decode b_FK_checkIsMine 8 = .ok (.new 91, 3) := by decide +kernel
theorem d_FK_checkIsMine_11 : decode b_FK_checkIsMine 11 = .ok (.dup, 1) := by decide +kernel
theorem d_FK_checkIsMine_12 : decode b_FK_checkIsMine 12 = .ok (.ldc_w 267, 3) := by decide +kernel
theorem d_FK_checkIsMine_15 : decode b_FK_checkIsMine 15 = .ok (.invokespecial 95, 3) := by decide +kernel
theorem d_FK_checkIsMine_18 : decode b_FK_checkIsMine 18 = .ok (.athrow, 1) := by decide +kernel
theorem d_FK_checkIsMine_19 : decode b_FK_checkIsMine 19 = .ok (.return_, 1) := by decide +kernel
theorem d_FK_checkDescriptorIsUnused_0 : decode b_FK_checkDescriptorIsUnused 0 = .ok (.aload_n 0, 1) := by decide +kernel
theorem d_FK_checkDescriptorIsUnused_1 : decode b_FK_checkDescriptorIsUnused 1 = .ok (.getfield 19, 3) := by decide +kernel
theorem d_FK_checkDescriptorIsUnused_4 : decode b_FK_checkDescriptorIsUnused 4 = .ok (.iload_n 1, 1) := by decide +kernel
theorem d_FK_checkDescriptorIsUnused_5 : decode b_FK_checkDescriptorIsUnused 5 = .ok (.iload_n 2, 1) := by decide +kernel
theorem d_FK_checkDescriptorIsUnused_6 : decode b_FK_checkDescriptorIsUnused 6 = .ok (.invokevirtual 273, 3) := by decide +kernel
theorem d_FK_checkDescriptorIsUnused_9 : decode b_FK_checkDescriptorIsUnused 9 = .ok (.iconst (-1), 1) := by decide +kernel
theorem d_FK_checkDescriptorIsUnused_10 : decode b_FK_checkDescriptorIsUnused 10 = .ok (.if_icmp .eq 14, 3) := by decide +kernel
theorem d_FK_checkDescriptorIsUnused_13 : decode b_FK_checkDescriptorIsUnused 13 = .ok (.new 53, 3) := by decide +kernel
theorem d_FK_checkDescriptorIsUnused_16 : decode b_FK_checkDescriptorIsUnused 16 = .ok (.dup, 1) := by decide +kernel
theorem d_FK_checkDescriptorIsUnused_17 : decode b_FK_checkDescriptorIsUnused 17 = .ok (.ldc_w 276, 3) := by decide +kernel
theorem d_FK_checkDescriptorIsUnused_20 : decode b_FK_checkDescriptorIsUnused 20 = .ok (.invokespecial 57, 3) := by decide +kernel
theorem d_FK_checkDescriptorIsUnused_23 : decode b_FK_checkDescriptorIsUnused 23 = .ok (.athrow, 1) := by decide +kernel
theorem d_FK_checkDescriptorIsUnused_24 : decode b_FK_checkDescriptorIsUnused 24 = .ok (.return_, 1) := by decide +kernel
theorem d_FK_connect_0 : decode b_FK_connect 0 = .ok (.aload_n 0, 1) := by decide +kernel
theorem d_FK_connect_1 : decode b_FK_connect 1 = .ok (.getfield 19, 3) := by decide +kernel
theorem d_FK_connect_4 : decode b_FK_connect 4 = .ok (.iload_n 1, 1) := by decide +kernel
theorem d_FK_connect_5 : decode b_FK_connect 5 = .ok (.iload_n 2, 1) := by decide +kernel
theorem d_FK_connect_6 : decode b_FK_connect 6 = .ok (.iload_n 3, 1) := by decide +kernel
theorem d_FK_connect_7 : decode b_FK_connect 7 = .ok (.invokevirtual 181, 3) := by decide +kernel
theorem d_FK_connect_10 : decode b_FK_connect 10 = .ok (.aload_n 0, 1) := by decide +kernel
theorem d_FK_connect_11 : decode b_FK_connect 11 = .ok (.getfield 19, 3) := by decide +kernel
theorem d_FK_connect_14 : decode b_FK_connect 14 = .ok (.iload_n 3, 1) := by decide +kernel
theorem d_FK_connect_15 : decode b_FK_connect 15 = .ok (.invokevirtual 166, 3) := by decide +kernel
theorem d_FK_connect_18 : decode b_FK_connect 18 = .ok (.ireturn, 1) := by decide +kernel
theorem d_FK_share_0 : decode b_FK_share 0 = .ok (.iload_n 1, 1) := by decide +kernel
theorem d_FK_share_1 : decode b_FK_share 1 = .ok (.invokestatic 154, 3) := by decide +kernel
theorem d_FK_share_4 : decode b_FK_share 4 = .ok (.iload_n 2, 1) := by decide +kernel
theorem d_FK_share_5 : decode b_FK_share 5 = .ok (.invokestatic 42, 3) := by decide +kernel
theorem d_FK_share_8 : decode b_FK_share 8 = .ok (.iload_n 3, 1) := by decide +kernel
theorem d_FK_share_9 : decode b_FK_share 9 = .ok (.invokestatic 154, 3) := by decide +kernel
theorem d_FK_share_12 : decode b_FK_share 12 = .ok (.aload_n 0, 1) := by decide +kernel
theorem d_FK_share_13 : decode b_FK_share 13 = .ok (.iload_n 2, 1) := by decide +kernel
theorem d_FK_share_14 : decode b_FK_share 14 = .ok (.invokevirtual 160, 3) := by decide +kernel
theorem d_FK_share_17 : decode b_FK_share 17 = .ok (.aload_n 0, 1) := by decide +kernel
theorem d_FK_share_18 : decode b_FK_share 18 = .ok (.aload_n 0, 1) := by decide +kernel
theorem d_FK_share_19 : decode b_FK_share 19 = .ok (.getfield 30, 3) := by decide +kernel
theorem d_FK_share_22 : decode b_FK_share 22 = .ok (.iload_n 1, 1) := by decide +kernel
theorem d_FK_share_23 : decode b_FK_share 23 = .ok (.invokevirtual 178, 3) := by decide +kernel
theorem d_FK_share_26 : decode b_FK_share 26 = .ok (.istore 4, 2) := by decide +kernel
theorem d_FK_share_28 : decode b_FK_share 28 = .ok (.aload_n 0, 1) := by decide +kernel
theorem d_FK_share_29 : decode b_FK_share 29 = .ok (.iload_n 2, 1) := by decide +kernel
theorem d_FK_share_30 : decode b_FK_share 30 = .ok (.iload_n 3, 1) := by decide +kernel
theorem d_FK_share_31 : decode b_FK_share 31 = .ok (.invokevirtual 163, 3) := by decide +kernel
theorem d_FK_share_34 : decode b_FK_share 34 = .ok (.aload_n 0, 1) := by decide +kernel
theorem d_FK_share_35 : decode b_FK_share 35 = .ok (.iload_n 2, 1) := by decide +kernel
theorem d_FK_share_36 : decode b_FK_share 36 = .ok (.iload_n 3, 1) := by decide +kernel
theorem d_FK_share_37 : decode b_FK_share 37 = .ok (.iload 4, 2) := by decide +kernel
theorem d_FK_share_39 : decode b_FK_share 39 = .ok (.invokevirtual 174, 3) := by decide +kernel
theorem d_FK_share_42 : decode b_FK_share 42 = .ok (.ireturn, 1) := by decide +kernel
theorem d_FK_pipeBehind_0 : decode b_FK_pipeBehind 0 = .ok (.aload_n 0, 1) := by decide +kernel
theorem d_FK_pipeBehind_1 : decode b_FK_pipeBehind 1 = .ok (.getfield 19, 3) := by decide +kernel
theorem d_FK_pipeBehind_4 : decode b_FK_pipeBehind 4 = .ok (.iload_n 1, 1) := by decide +kernel
theorem d_FK_pipeBehind_5 : decode b_FK_pipeBehind 5 = .ok (.iload_n 2, 1) := by decide +kernel
theorem d_FK_pipeBehind_6 : decode b_FK_pipeBehind 6 = .ok (.invokevirtual 273, 3) := by decide +kernel
theorem d_FK_pipeBehind_9 : decode b_FK_pipeBehind 9 = .ok (.istore_n 3, 1) := by decide +kernel
theorem d_FK_pipeBehind_10 : decode b_FK_pipeBehind 10 = .ok (.iload_n 3, 1) := by decide +kernel
theorem d_FK_pipeBehind_11 : decode b_FK_pipeBehind 11 = .ok (.iconst (-1), 1) := by decide +kernel
theorem d_FK_pipeBehind_12 : decode b_FK_pipeBehind 12 = .ok (.if_icmp .ne 14, 3) := by decide +kernel
theorem d_FK_pipeBehind_15 : decode b_FK_pipeBehind 15 = .ok (.new 280, 3) := by decide +kernel
theorem d_FK_pipeBehind_18 : decode b_FK_pipeBehind 18 = .ok (.dup, 1) := by decide +kernel
theorem d_FK_pipeBehind_19 : decode b_FK_pipeBehind 19 = .ok (.ldc_w 298, 3) := by decide +kernel
theorem d_FK_pipeBehind_22 : decode b_FK_pipeBehind 22 = .ok (.invokespecial 284, 3) := by decide +kernel
theorem d_FK_pipeBehind_25 : decode b_FK_pipeBehind 25 = .ok (.athrow, 1) := by decide +kernel
theorem d_FK_pipeBehind_26 : decode b_FK_pipeBehind 26 = .ok (.iload_n 3, 1) := by decide +kernel
theorem d_FK_pipeBehind_27 : decode b_FK_pipeBehind 27 = .ok (.ireturn, 1) := by decide +kernel
theorem d_FK_close_0 : decode b_FK_close 0 = .ok (.iload_n 1, 1) := by decide +kernel
theorem d_FK_close_1 : decode b_FK_close 1 = .ok (.invokestatic 42, 3) := by decide +kernel
theorem d_FK_close_4 : decode b_FK_close 4 = .ok (.iload_n 2, 1) := by decide +kernel
theorem d_FK_close_5 : decode b_FK_close 5 = .ok (.invokestatic 154, 3) := by decide +kernel
theorem d_FK_close_8 : decode b_FK_close 8 = .ok (.aload_n 0, 1) := by decide +kernel
theorem d_FK_close_9 : decode b_FK_close 9 = .ok (.iload_n 1, 1) := by decide +kernel
theorem d_FK_close_10 : decode b_FK_close 10 = .ok (.invokevirtual 160, 3) := by decide +kernel
theorem d_FK_close_13 : decode b_FK_close 13 = .ok (.aload_n 0, 1) := by decide +kernel
theorem d_FK_close_14 : decode b_FK_close 14 = .ok (.iload_n 1, 1) := by decide +kernel
theorem d_FK_close_15 : decode b_FK_close 15 = .ok (.iload_n 2, 1) := by decide +kernel
theorem d_FK_close_16 : decode b_FK_close 16 = .ok (.invokevirtual 178, 3) := by decide +kernel
theorem d_FK_close_19 : decode b_FK_close 19 = .ok (.istore_n 3, 1) := by decide +kernel
theorem d_FK_close_20 : decode b_FK_close 20 = .ok (.aload_n 0, 1) := by decide +kernel
theorem d_FK_close_21 : decode b_FK_close 21 = .ok (.getfield 19, 3) := by decide +kernel
theorem d_FK_close_24 : decode b_FK_close 24 = .ok (.iload_n 1, 1) := by decide +kernel
theorem d_FK_close_25 : decode b_FK_close 25 = .ok (.iload_n 2, 1) := by decide +kernel
theorem d_FK_close_26 : decode b_FK_close 26 = .ok (.iconst (-1), 1) := by decide +kernel
theorem d_FK_close_27 : decode b_FK_close 27 = .ok (.invokevirtual 181, 3) := by decide +kernel
theorem d_FK_close_30 : decode b_FK_close 30 = .ok (.aload_n 0, 1) := by decide +kernel
theorem d_FK_close_31 : decode b_FK_close 31 = .ok (.getfield 19, 3) := by decide +kernel
theorem d_FK_close_34 : decode b_FK_close 34 = .ok (.iload_n 3, 1) := by decide +kernel
theorem d_FK_close_35 : decode b_FK_close 35 = .ok (.invokevirtual 166, 3) := by decide +kernel
theorem d_FK_close_38 : decode b_FK_close 38 = .ok (.ireturn, 1) := by decide +kernel
theorem d_FK_put_0 : decode b_FK_put 0 = .ok (.iload_n 1, 1) := by decide +kernel
theorem d_FK_put_1 : decode b_FK_put 1 = .ok (.invokestatic 154, 3) := by decide +kernel
theorem d_FK_put_4 : decode b_FK_put 4 = .ok (.iload_n 2, 1) := by decide +kernel
theorem d_FK_put_5 : decode b_FK_put 5 = .ok (.invokestatic 184, 3) := by decide +kernel
theorem d_FK_put_8 : decode b_FK_put 8 = .ok (.aload_n 0, 1) := by decide +kernel
theorem d_FK_put_9 : decode b_FK_put 9 = .ok (.aload_n 0, 1) := by decide +kernel
theorem d_FK_put_10 : decode b_FK_put 10 = .ok (.getfield 30, 3) := by decide +kernel
theorem d_FK_put_13 : decode b_FK_put 13 = .ok (.iload_n 1, 1) := by decide +kernel
theorem d_FK_put_14 : decode b_FK_put 14 = .ok (.invokevirtual 178, 3) := by decide +kernel
theorem d_FK_put_17 : decode b_FK_put 17 = .ok (.istore_n 3, 1) := by decide +kernel
theorem d_FK_put_18 : decode b_FK_put 18 = .ok (.aload_n 0, 1) := by decide +kernel
theorem d_FK_put_19 : decode b_FK_put 19 = .ok (.iload_n 2, 1) := by decide +kernel
theorem d_FK_put_20 : decode b_FK_put 20 = .ok (.iconst 1, 1) := by decide +kernel
theorem d_FK_put_21 : decode b_FK_put 21 = .ok (.invokevirtual 187, 3) := by decide +kernel
theorem d_FK_put_24 : decode b_FK_put 24 = .ok (.istore 4, 2) := by decide +kernel
theorem d_FK_put_26 : decode b_FK_put 26 = .ok (.aload_n 0, 1) := by decide +kernel
theorem d_FK_put_27 : decode b_FK_put 27 = .ok (.getfield 26, 3) := by decide +kernel
theorem d_FK_put_30 : decode b_FK_put 30 = .ok (.iload_n 3, 1) := by decide +kernel
theorem d_FK_put_31 : decode b_FK_put 31 = .ok (.invokevirtual 190, 3) := by decide +kernel
theorem d_FK_put_34 : decode b_FK_put 34 = .ok (.iconst 4, 1) := by decide +kernel
theorem d_FK_put_35 : decode b_FK_put 35 = .ok (.if_icmp .ne 13, 3) := by decide +kernel
theorem d_FK_put_38 : decode b_FK_put 38 = .ok (.new 53, 3) := by decide +kernel
theorem d_FK_put_41 : decode b_FK_put 41 = .ok (.dup, 1) := by decide +kernel
theorem d_FK_put_42 : decode b_FK_put 42 = .ok (.ldc 193, 2) := by decide +kernel
theorem d_FK_put_44 : decode b_FK_put 44 = .ok (.invokespecial 57, 3) := by decide +kernel
theorem d_FK_put_47 : decode b_FK_put 47 = .ok (.athrow, 1) := by decide +kernel
theorem d_FK_put_48 : decode b_FK_put 48 = .ok (.aload_n 0, 1) := by decide +kernel
theorem d_FK_put_49 : decode b_FK_put 49 = .ok (.getfield 26, 3) := by decide +kernel
theorem d_FK_put_52 : decode b_FK_put 52 = .ok (.iload_n 3, 1) := by decide +kernel
theorem d_FK_put_53 : decode b_FK_put 53 = .ok (.aload_n 0, 1) := by decide +kernel
theorem d_FK_put_54 : decode b_FK_put 54 = .ok (.getfield 10, 3) := by decide +kernel
theorem d_FK_put_57 : decode b_FK_put 57 = .ok (.iload 4, 2) := by decide +kernel
theorem d_FK_put_59 : decode b_FK_put 59 = .ok (.iload_n 2, 1) := by decide +kernel
theorem d_FK_put_60 : decode b_FK_put 60 = .ok (.invokestatic 195, 3) := by decide +kernel
theorem d_FK_put_63 : decode b_FK_put 63 = .ok (.invokevirtual 198, 3) := by decide +kernel
theorem d_FK_put_66 : decode b_FK_put 66 = .ok (.invokevirtual 201, 3) := by decide +kernel
theorem d_FK_put_69 : decode b_FK_put 69 = .ok (.aload_n 0, 1) := by decide +kernel
theorem d_FK_put_70 : decode b_FK_put 70 = .ok (.getfield 26, 3) := by decide +kernel
theorem d_FK_put_73 : decode b_FK_put 73 = .ok (.iload_n 3, 1) := by decide +kernel
theorem d_FK_put_74 : decode b_FK_put 74 = .ok (.invokevirtual 190, 3) := by decide +kernel
theorem d_FK_put_77 : decode b_FK_put 77 = .ok (.ireturn, 1) := by decide +kernel
theorem d_FK_checkAddress_0 : decode b_FK_checkAddress 0 = .ok (.iload_n 0, 1) := by decide +kernel
theorem d_FK_checkAddress_1 : decode b_FK_checkAddress 1 = .ok (.iconst 0, 1) := by decide +kernel
theorem d_FK_checkAddress_2 : decode b_FK_checkAddress 2 = .ok (.bipush 63, 2) := by decide +kernel
theorem d_FK_checkAddress_4 : decode b_FK_checkAddress 4 = .ok (.invokestatic 237, 3) := by decide +kernel
theorem d_FK_checkAddress_7 : decode b_FK_checkAddress 7 = .ok (.return_, 1) := by decide +kernel
theorem d_FK_frameWithRight_0 : decode b_FK_frameWithRight 0 = .ok (.aload_n 0, 1) := by decide +kernel
theorem d_FK_frameWithRight_1 : decode b_FK_frameWithRight 1 = .ok (.iload_n 1, 1) := by decide +kernel
theorem d_FK_frameWithRight_2 : decode b_FK_frameWithRight 2 = .ok (.invokevirtual 225, 3) := by decide +kernel
theorem d_FK_frameWithRight_5 : decode b_FK_frameWithRight 5 = .ok (.istore_n 3, 1) := by decide +kernel
theorem d_FK_frameWithRight_6 : decode b_FK_frameWithRight 6 = .ok (.aload_n 0, 1) := by decide +kernel
theorem d_FK_frameWithRight_7 : decode b_FK_frameWithRight 7 = .ok (.getfield 10, 3) := by decide +kernel
theorem d_FK_frameWithRight_10 : decode b_FK_frameWithRight 10 = .ok (.aload_n 0, 1) := by decide +kernel
theorem d_FK_frameWithRight_11 : decode b_FK_frameWithRight 11 = .ok (.getfield 19, 3) := by decide +kernel
theorem d_FK_frameWithRight_14 : decode b_FK_frameWithRight 14 = .ok (.aload_n 0, 1) := by decide +kernel
theorem d_FK_frameWithRight_15 : decode b_FK_frameWithRight 15 = .ok (.getfield 30, 3) := by decide +kernel
theorem d_FK_frameWithRight_18 : decode b_FK_frameWithRight 18 = .ok (.invokevirtual 145, 3) := by decide +kernel
theorem d_FK_frameWithRight_21 : decode b_FK_frameWithRight 21 = .ok (.iload_n 1, 1) := by decide +kernel
theorem d_FK_frameWithRight_22 : decode b_FK_frameWithRight 22 = .ok (.invokestatic 289, 3) := by decide +kernel
theorem d_FK_frameWithRight_25 : decode b_FK_frameWithRight 25 = .ok (.invokevirtual 77, 3) := by decide +kernel
theorem d_FK_frameWithRight_28 : decode b_FK_frameWithRight 28 = .ok (.istore 4, 2) := by decide +kernel
theorem d_FK_frameWithRight_30 : decode b_FK_frameWithRight 30 = .ok (.aload_n 0, 1) := by decide +kernel
theorem d_FK_frameWithRight_31 : decode b_FK_frameWithRight 31 = .ok (.getfield 10, 3) := by decide +kernel
theorem d_FK_frameWithRight_34 : decode b_FK_frameWithRight 34 = .ok (.aload_n 0, 1) := by decide +kernel
theorem d_FK_frameWithRight_35 : decode b_FK_frameWithRight 35 = .ok (.iload_n 1, 1) := by decide +kernel
theorem d_FK_frameWithRight_36 : decode b_FK_frameWithRight 36 = .ok (.invokevirtual 212, 3) := by decide +kernel
theorem d_FK_frameWithRight_39 : decode b_FK_frameWithRight 39 = .ok (.iload_n 1, 1) := by decide +kernel
theorem d_FK_frameWithRight_40 : decode b_FK_frameWithRight 40 = .ok (.invokestatic 215, 3) := by decide +kernel
theorem d_FK_frameWithRight_43 : decode b_FK_frameWithRight 43 = .ok (.invokevirtual 77, 3) := by decide +kernel
theorem d_FK_frameWithRight_46 : decode b_FK_frameWithRight 46 = .ok (.istore 5, 2) := by decide +kernel
theorem d_FK_frameWithRight_48 : decode b_FK_frameWithRight 48 = .ok (.iload 4, 2) := by decide +kernel
theorem d_FK_frameWithRight_50 : decode b_FK_frameWithRight 50 = .ok (.iload 5, 2) := by decide +kernel
theorem d_FK_frameWithRight_52 : decode b_FK_frameWithRight 52 = .ok (.iand, 1) := by decide +kernel
theorem d_FK_frameWithRight_53 : decode b_FK_frameWithRight 53 = .ok (.iload_n 2, 1) := by decide +kernel
theorem d_FK_frameWithRight_54 : decode b_FK_frameWithRight 54 = .ok (.iand, 1) := by decide +kernel
theorem d_FK_frameWithRight_55 : decode b_FK_frameWithRight 55 = .ok (.ifCond .ne 14, 3) := by decide +kernel
theorem d_FK_frameWithRight_58 : decode b_FK_frameWithRight 58 = .ok (.new 91, 3) := by decide +kernel
theorem d_FK_frameWithRight_61 : decode b_FK_frameWithRight 61 = .ok (.dup, 1) := by decide +kernel
theorem d_FK_frameWithRight_62 : decode b_FK_frameWithRight 62 = .ok (.ldc_w 296, 3) := by decide +kernel
theorem d_FK_frameWithRight_65 : decode b_FK_frameWithRight 65 = .ok (.invokespecial 95, 3) := by decide +kernel
theorem d_FK_frameWithRight_68 : decode b_FK_frameWithRight 68 = .ok (.athrow, 1) := by decide +kernel
theorem d_FK_frameWithRight_69 : decode b_FK_frameWithRight 69 = .ok (.iload_n 3, 1) := by decide +kernel
theorem d_FK_frameWithRight_70 : decode b_FK_frameWithRight 70 = .ok (.ireturn, 1) := by decide +kernel
theorem d_FK_frameAt_0 : decode b_FK_frameAt 0 = .ok (.aload_n 0, 1) := by decide +kernel
theorem d_FK_frameAt_1 : decode b_FK_frameAt 1 = .ok (.getfield 10, 3) := by decide +kernel
theorem d_FK_frameAt_4 : decode b_FK_frameAt 4 = .ok (.aload_n 0, 1) := by decide +kernel
theorem d_FK_frameAt_5 : decode b_FK_frameAt 5 = .ok (.iload_n 1, 1) := by decide +kernel
theorem d_FK_frameAt_6 : decode b_FK_frameAt 6 = .ok (.invokevirtual 212, 3) := by decide +kernel
theorem d_FK_frameAt_9 : decode b_FK_frameAt 9 = .ok (.iload_n 1, 1) := by decide +kernel
theorem d_FK_frameAt_10 : decode b_FK_frameAt 10 = .ok (.invokestatic 215, 3) := by decide +kernel
theorem d_FK_frameAt_13 : decode b_FK_frameAt 13 = .ok (.invokevirtual 81, 3) := by decide +kernel
theorem d_FK_frameAt_16 : decode b_FK_frameAt 16 = .ok (.istore_n 2, 1) := by decide +kernel
theorem d_FK_frameAt_17 : decode b_FK_frameAt 17 = .ok (.iload_n 2, 1) := by decide +kernel
theorem d_FK_frameAt_18 : decode b_FK_frameAt 18 = .ok (.iconst (-1), 1) := by decide +kernel
theorem d_FK_frameAt_19 : decode b_FK_frameAt 19 = .ok (.if_icmp .ne 14, 3) := by decide +kernel
theorem d_FK_frameAt_22 : decode b_FK_frameAt 22 = .ok (.new 280, 3) := by decide +kernel
theorem d_FK_frameAt_25 : decode b_FK_frameAt 25 = .ok (.dup, 1) := by decide +kernel
theorem d_FK_frameAt_26 : decode b_FK_frameAt 26 = .ok (.ldc_w 294, 3) := by decide +kernel
theorem d_FK_frameAt_29 : decode b_FK_frameAt 29 = .ok (.invokespecial 284, 3) := by decide +kernel
theorem d_FK_frameAt_32 : decode b_FK_frameAt 32 = .ok (.athrow, 1) := by decide +kernel
theorem d_FK_frameAt_33 : decode b_FK_frameAt 33 = .ok (.iload_n 2, 1) := by decide +kernel
theorem d_FK_frameAt_34 : decode b_FK_frameAt 34 = .ok (.ireturn, 1) := by decide +kernel
theorem d_FK_tableAt_0 : decode b_FK_tableAt 0 = .ok (.aload_n 0, 1) := by decide +kernel
theorem d_FK_tableAt_1 : decode b_FK_tableAt 1 = .ok (.getfield 10, 3) := by decide +kernel
theorem d_FK_tableAt_4 : decode b_FK_tableAt 4 = .ok (.aload_n 0, 1) := by decide +kernel
theorem d_FK_tableAt_5 : decode b_FK_tableAt 5 = .ok (.getfield 19, 3) := by decide +kernel
theorem d_FK_tableAt_8 : decode b_FK_tableAt 8 = .ok (.aload_n 0, 1) := by decide +kernel
theorem d_FK_tableAt_9 : decode b_FK_tableAt 9 = .ok (.getfield 30, 3) := by decide +kernel
theorem d_FK_tableAt_12 : decode b_FK_tableAt 12 = .ok (.invokevirtual 145, 3) := by decide +kernel
theorem d_FK_tableAt_15 : decode b_FK_tableAt 15 = .ok (.iload_n 1, 1) := by decide +kernel
theorem d_FK_tableAt_16 : decode b_FK_tableAt 16 = .ok (.invokestatic 289, 3) := by decide +kernel
theorem d_FK_tableAt_19 : decode b_FK_tableAt 19 = .ok (.invokevirtual 81, 3) := by decide +kernel
theorem d_FK_tableAt_22 : decode b_FK_tableAt 22 = .ok (.istore_n 2, 1) := by decide +kernel
theorem d_FK_tableAt_23 : decode b_FK_tableAt 23 = .ok (.iload_n 2, 1) := by decide +kernel
theorem d_FK_tableAt_24 : decode b_FK_tableAt 24 = .ok (.iconst (-1), 1) := by decide +kernel
theorem d_FK_tableAt_25 : decode b_FK_tableAt 25 = .ok (.if_icmp .ne 14, 3) := by decide +kernel
theorem d_FK_tableAt_28 : decode b_FK_tableAt 28 = .ok (.new 280, 3) := by decide +kernel
theorem d_FK_tableAt_31 : decode b_FK_tableAt 31 = .ok (.dup, 1) := by decide +kernel
theorem d_FK_tableAt_32 : decode b_FK_tableAt 32 = .ok (.ldc_w 292, 3) := by decide +kernel
theorem d_FK_tableAt_35 : decode b_FK_tableAt 35 = .ok (.invokespecial 284, 3) := by decide +kernel
theorem d_FK_tableAt_38 : decode b_FK_tableAt 38 = .ok (.athrow, 1) := by decide +kernel
theorem d_FK_tableAt_39 : decode b_FK_tableAt 39 = .ok (.iload_n 2, 1) := by decide +kernel
theorem d_FK_tableAt_40 : decode b_FK_tableAt 40 = .ok (.ireturn, 1) := by decide +kernel
theorem d_FK_tableEntryOf_0 : decode b_FK_tableEntryOf 0 = .ok (.iload_n 0, 1) := by decide +kernel
theorem d_FK_tableEntryOf_1 : decode b_FK_tableEntryOf 1 = .ok (.bipush 16, 2) := by decide +kernel
theorem d_FK_tableEntryOf_3 : decode b_FK_tableEntryOf 3 = .ok (.idiv, 1) := by decide +kernel
theorem d_FK_tableEntryOf_4 : decode b_FK_tableEntryOf 4 = .ok (.ireturn, 1) := by decide +kernel
theorem d_FK_frameEntryOf_0 : decode b_FK_frameEntryOf 0 = .ok (.iload_n 0, 1) := by decide +kernel
theorem d_FK_frameEntryOf_1 : decode b_FK_frameEntryOf 1 = .ok (.iconst 4, 1) := by decide +kernel
theorem d_FK_frameEntryOf_2 : decode b_FK_frameEntryOf 2 = .ok (.idiv, 1) := by decide +kernel
theorem d_FK_frameEntryOf_3 : decode b_FK_frameEntryOf 3 = .ok (.iconst 4, 1) := by decide +kernel
theorem d_FK_frameEntryOf_4 : decode b_FK_frameEntryOf 4 = .ok (.irem, 1) := by decide +kernel
theorem d_FK_frameEntryOf_5 : decode b_FK_frameEntryOf 5 = .ok (.ireturn, 1) := by decide +kernel
theorem d_FK_wordOf_0 : decode b_FK_wordOf 0 = .ok (.iload_n 0, 1) := by decide +kernel
theorem d_FK_wordOf_1 : decode b_FK_wordOf 1 = .ok (.iconst 4, 1) := by decide +kernel
theorem d_FK_wordOf_2 : decode b_FK_wordOf 2 = .ok (.irem, 1) := by decide +kernel
theorem d_FK_wordOf_3 : decode b_FK_wordOf 3 = .ok (.ireturn, 1) := by decide +kernel
theorem d_FK_take_0 : decode b_FK_take 0 = .ok (.iload_n 1, 1) := by decide +kernel
theorem d_FK_take_1 : decode b_FK_take 1 = .ok (.invokestatic 154, 3) := by decide +kernel
theorem d_FK_take_4 : decode b_FK_take 4 = .ok (.iload_n 2, 1) := by decide +kernel
theorem d_FK_take_5 : decode b_FK_take 5 = .ok (.invokestatic 184, 3) := by decide +kernel
theorem d_FK_take_8 : decode b_FK_take 8 = .ok (.aload_n 0, 1) := by decide +kernel
theorem d_FK_take_9 : decode b_FK_take 9 = .ok (.aload_n 0, 1) := by decide +kernel
theorem d_FK_take_10 : decode b_FK_take 10 = .ok (.getfield 30, 3) := by decide +kernel
theorem d_FK_take_13 : decode b_FK_take 13 = .ok (.iload_n 1, 1) := by decide +kernel
theorem d_FK_take_14 : decode b_FK_take 14 = .ok (.invokevirtual 178, 3) := by decide +kernel
theorem d_FK_take_17 : decode b_FK_take 17 = .ok (.istore_n 3, 1) := by decide +kernel
theorem d_FK_take_18 : decode b_FK_take 18 = .ok (.aload_n 0, 1) := by decide +kernel
theorem d_FK_take_19 : decode b_FK_take 19 = .ok (.iload_n 2, 1) := by decide +kernel
theorem d_FK_take_20 : decode b_FK_take 20 = .ok (.iconst 2, 1) := by decide +kernel
theorem d_FK_take_21 : decode b_FK_take 21 = .ok (.invokevirtual 187, 3) := by decide +kernel
theorem d_FK_take_24 : decode b_FK_take 24 = .ok (.istore 4, 2) := by decide +kernel
theorem d_FK_take_26 : decode b_FK_take 26 = .ok (.aload_n 0, 1) := by decide +kernel
theorem d_FK_take_27 : decode b_FK_take 27 = .ok (.getfield 26, 3) := by decide +kernel
theorem d_FK_take_30 : decode b_FK_take 30 = .ok (.iload_n 3, 1) := by decide +kernel
theorem d_FK_take_31 : decode b_FK_take 31 = .ok (.invokevirtual 190, 3) := by decide +kernel
theorem d_FK_take_34 : decode b_FK_take 34 = .ok (.ifCond .ne 13, 3) := by decide +kernel
theorem d_FK_take_37 : decode b_FK_take 37 = .ok (.new 53, 3) := by decide +kernel
theorem d_FK_take_40 : decode b_FK_take 40 = .ok (.dup, 1) := by decide +kernel
theorem d_FK_take_41 : decode b_FK_take 41 = .ok (.ldc 204, 2) := by decide +kernel
theorem d_FK_take_43 : decode b_FK_take 43 = .ok (.invokespecial 57, 3) := by decide +kernel
theorem d_FK_take_46 : decode b_FK_take 46 = .ok (.athrow, 1) := by decide +kernel
theorem d_FK_take_47 : decode b_FK_take 47 = .ok (.aload_n 0, 1) := by decide +kernel
theorem d_FK_take_48 : decode b_FK_take 48 = .ok (.getfield 26, 3) := by decide +kernel
theorem d_FK_take_51 : decode b_FK_take 51 = .ok (.iload_n 3, 1) := by decide +kernel
theorem d_FK_take_52 : decode b_FK_take 52 = .ok (.invokevirtual 206, 3) := by decide +kernel
theorem d_FK_take_55 : decode b_FK_take 55 = .ok (.istore 5, 2) := by decide +kernel
theorem d_FK_take_57 : decode b_FK_take 57 = .ok (.aload_n 0, 1) := by decide +kernel
theorem d_FK_take_58 : decode b_FK_take 58 = .ok (.getfield 10, 3) := by decide +kernel
theorem d_FK_take_61 : decode b_FK_take 61 = .ok (.iload 4, 2) := by decide +kernel
theorem d_FK_take_63 : decode b_FK_take 63 = .ok (.iload_n 2, 1) := by decide +kernel
theorem d_FK_take_64 : decode b_FK_take 64 = .ok (.invokestatic 195, 3) := by decide +kernel
theorem d_FK_take_67 : decode b_FK_take 67 = .ok (.iload 5, 2) := by decide +kernel
theorem d_FK_take_69 : decode b_FK_take 69 = .ok (.invokevirtual 209, 3) := by decide +kernel
theorem d_FK_take_72 : decode b_FK_take 72 = .ok (.iload 5, 2) := by decide +kernel
theorem d_FK_take_74 : decode b_FK_take 74 = .ok (.ireturn, 1) := by decide +kernel
theorem d_FK_read_0 : decode b_FK_read 0 = .ok (.iload_n 1, 1) := by decide +kernel
theorem d_FK_read_1 : decode b_FK_read 1 = .ok (.invokestatic 184, 3) := by decide +kernel
theorem d_FK_read_4 : decode b_FK_read 4 = .ok (.aload_n 0, 1) := by decide +kernel
theorem d_FK_read_5 : decode b_FK_read 5 = .ok (.iload_n 1, 1) := by decide +kernel
theorem d_FK_read_6 : decode b_FK_read 6 = .ok (.iconst 1, 1) := by decide +kernel
theorem d_FK_read_7 : decode b_FK_read 7 = .ok (.invokevirtual 187, 3) := by decide +kernel
theorem d_FK_read_10 : decode b_FK_read 10 = .ok (.istore_n 2, 1) := by decide +kernel
theorem d_FK_read_11 : decode b_FK_read 11 = .ok (.aload_n 0, 1) := by decide +kernel
theorem d_FK_read_12 : decode b_FK_read 12 = .ok (.getfield 10, 3) := by decide +kernel
theorem d_FK_read_15 : decode b_FK_read 15 = .ok (.iload_n 2, 1) := by decide +kernel
theorem d_FK_read_16 : decode b_FK_read 16 = .ok (.iload_n 1, 1) := by decide +kernel
theorem d_FK_read_17 : decode b_FK_read 17 = .ok (.invokestatic 195, 3) := by decide +kernel
theorem d_FK_read_20 : decode b_FK_read 20 = .ok (.invokevirtual 198, 3) := by decide +kernel
theorem d_FK_read_23 : decode b_FK_read 23 = .ok (.ireturn, 1) := by decide +kernel
theorem d_FK_write_0 : decode b_FK_write 0 = .ok (.iload_n 1, 1) := by decide +kernel
theorem d_FK_write_1 : decode b_FK_write 1 = .ok (.invokestatic 184, 3) := by decide +kernel
theorem d_FK_write_4 : decode b_FK_write 4 = .ok (.aload_n 0, 1) := by decide +kernel
theorem d_FK_write_5 : decode b_FK_write 5 = .ok (.iload_n 1, 1) := by decide +kernel
theorem d_FK_write_6 : decode b_FK_write 6 = .ok (.iconst 2, 1) := by decide +kernel
theorem d_FK_write_7 : decode b_FK_write 7 = .ok (.invokevirtual 187, 3) := by decide +kernel
theorem d_FK_write_10 : decode b_FK_write 10 = .ok (.istore_n 3, 1) := by decide +kernel
theorem d_FK_write_11 : decode b_FK_write 11 = .ok (.aload_n 0, 1) := by decide +kernel
theorem d_FK_write_12 : decode b_FK_write 12 = .ok (.getfield 10, 3) := by decide +kernel
theorem d_FK_write_15 : decode b_FK_write 15 = .ok (.iload_n 3, 1) := by decide +kernel
theorem d_FK_write_16 : decode b_FK_write 16 = .ok (.iload_n 1, 1) := by decide +kernel
theorem d_FK_write_17 : decode b_FK_write 17 = .ok (.invokestatic 195, 3) := by decide +kernel
theorem d_FK_write_20 : decode b_FK_write 20 = .ok (.invokevirtual 198, 3) := by decide +kernel
theorem d_FK_write_23 : decode b_FK_write 23 = .ok (.istore 4, 2) := by decide +kernel
theorem d_FK_write_25 : decode b_FK_write 25 = .ok (.aload_n 0, 1) := by decide +kernel
theorem d_FK_write_26 : decode b_FK_write 26 = .ok (.getfield 10, 3) := by decide +kernel
theorem d_FK_write_29 : decode b_FK_write 29 = .ok (.iload_n 3, 1) := by decide +kernel
theorem d_FK_write_30 : decode b_FK_write 30 = .ok (.iload_n 1, 1) := by decide +kernel
theorem d_FK_write_31 : decode b_FK_write 31 = .ok (.invokestatic 195, 3) := by decide +kernel
theorem d_FK_write_34 : decode b_FK_write 34 = .ok (.iload_n 2, 1) := by decide +kernel
theorem d_FK_write_35 : decode b_FK_write 35 = .ok (.invokevirtual 209, 3) := by decide +kernel
theorem d_FK_write_38 : decode b_FK_write 38 = .ok (.iload 4, 2) := by decide +kernel
theorem d_FK_write_40 : decode b_FK_write 40 = .ok (.ireturn, 1) := by decide +kernel
theorem d_FK_expect_0 : decode b_FK_expect 0 = .ok (.iload_n 1, 1) := by decide +kernel
theorem d_FK_expect_1 : decode b_FK_expect 1 = .ok (.invokestatic 42, 3) := by decide +kernel
theorem d_FK_expect_4 : decode b_FK_expect 4 = .ok (.iload_n 2, 1) := by decide +kernel
theorem d_FK_expect_5 : decode b_FK_expect 5 = .ok (.invokestatic 184, 3) := by decide +kernel
theorem d_FK_expect_8 : decode b_FK_expect 8 = .ok (.aload_n 0, 1) := by decide +kernel
theorem d_FK_expect_9 : decode b_FK_expect 9 = .ok (.iload_n 1, 1) := by decide +kernel
theorem d_FK_expect_10 : decode b_FK_expect 10 = .ok (.invokevirtual 118, 3) := by decide +kernel
theorem d_FK_expect_13 : decode b_FK_expect 13 = .ok (.aload_n 0, 1) := by decide +kernel
theorem d_FK_expect_14 : decode b_FK_expect 14 = .ok (.iload_n 2, 1) := by decide +kernel
theorem d_FK_expect_15 : decode b_FK_expect 15 = .ok (.invokevirtual 212, 3) := by decide +kernel
theorem d_FK_expect_18 : decode b_FK_expect 18 = .ok (.istore_n 3, 1) := by decide +kernel
theorem d_FK_expect_19 : decode b_FK_expect 19 = .ok (.iload_n 2, 1) := by decide +kernel
theorem d_FK_expect_20 : decode b_FK_expect 20 = .ok (.invokestatic 215, 3) := by decide +kernel
theorem d_FK_expect_23 : decode b_FK_expect 23 = .ok (.istore 4, 2) := by decide +kernel
theorem d_FK_expect_25 : decode b_FK_expect 25 = .ok (.aload_n 0, 1) := by decide +kernel
theorem d_FK_expect_26 : decode b_FK_expect 26 = .ok (.getfield 10, 3) := by decide +kernel
theorem d_FK_expect_29 : decode b_FK_expect 29 = .ok (.iload_n 3, 1) := by decide +kernel
theorem d_FK_expect_30 : decode b_FK_expect 30 = .ok (.iload 4, 2) := by decide +kernel
theorem d_FK_expect_32 : decode b_FK_expect 32 = .ok (.invokevirtual 81, 3) := by decide +kernel
theorem d_FK_expect_35 : decode b_FK_expect 35 = .ok (.iconst (-1), 1) := by decide +kernel
theorem d_FK_expect_36 : decode b_FK_expect 36 = .ok (.if_icmp .eq 13, 3) := by decide +kernel
theorem d_FK_expect_39 : decode b_FK_expect 39 = .ok (.new 91, 3) := by decide +kernel
theorem d_FK_expect_42 : decode b_FK_expect 42 = .ok (.dup, 1) := by decide +kernel
theorem d_FK_expect_43 : decode b_FK_expect 43 = .ok (.ldc 218, 2) := by decide +kernel
theorem d_FK_expect_45 : decode b_FK_expect 45 = .ok (.invokespecial 95, 3) := by decide +kernel
theorem d_FK_expect_48 : decode b_FK_expect 48 = .ok (.athrow, 1) := by decide +kernel
theorem d_FK_expect_49 : decode b_FK_expect 49 = .ok (.aload_n 0, 1) := by decide +kernel
theorem d_FK_expect_50 : decode b_FK_expect 50 = .ok (.getfield 19, 3) := by decide +kernel
theorem d_FK_expect_53 : decode b_FK_expect 53 = .ok (.aload_n 0, 1) := by decide +kernel
theorem d_FK_expect_54 : decode b_FK_expect 54 = .ok (.getfield 30, 3) := by decide +kernel
theorem d_FK_expect_57 : decode b_FK_expect 57 = .ok (.iload_n 3, 1) := by decide +kernel
theorem d_FK_expect_58 : decode b_FK_expect 58 = .ok (.iload 4, 2) := by decide +kernel
theorem d_FK_expect_60 : decode b_FK_expect 60 = .ok (.invokevirtual 220, 3) := by decide +kernel
theorem d_FK_expect_63 : decode b_FK_expect 63 = .ok (.aload_n 0, 1) := by decide +kernel
theorem d_FK_expect_64 : decode b_FK_expect 64 = .ok (.iload_n 1, 1) := by decide +kernel
theorem d_FK_expect_65 : decode b_FK_expect 65 = .ok (.invokevirtual 121, 3) := by decide +kernel
theorem d_FK_expect_68 : decode b_FK_expect 68 = .ok (.iload_n 1, 1) := by decide +kernel
theorem d_FK_expect_69 : decode b_FK_expect 69 = .ok (.ireturn, 1) := by decide +kernel
theorem d_FK_send_0 : decode b_FK_send 0 = .ok (.iload_n 1, 1) := by decide +kernel
theorem d_FK_send_1 : decode b_FK_send 1 = .ok (.invokestatic 42, 3) := by decide +kernel
theorem d_FK_send_4 : decode b_FK_send 4 = .ok (.iload_n 2, 1) := by decide +kernel
theorem d_FK_send_5 : decode b_FK_send 5 = .ok (.invokestatic 184, 3) := by decide +kernel
theorem d_FK_send_8 : decode b_FK_send 8 = .ok (.aload_n 0, 1) := by decide +kernel
theorem d_FK_send_9 : decode b_FK_send 9 = .ok (.getfield 19, 3) := by decide +kernel
theorem d_FK_send_12 : decode b_FK_send 12 = .ok (.iload_n 1, 1) := by decide +kernel
theorem d_FK_send_13 : decode b_FK_send 13 = .ok (.invokevirtual 49, 3) := by decide +kernel
theorem d_FK_send_16 : decode b_FK_send 16 = .ok (.iconst 4, 1) := by decide +kernel
theorem d_FK_send_17 : decode b_FK_send 17 = .ok (.if_icmp .eq 13, 3) := by decide +kernel
theorem d_FK_send_20 : decode b_FK_send 20 = .ok (.new 53, 3) := by decide +kernel
theorem d_FK_send_23 : decode b_FK_send 23 = .ok (.dup, 1) := by decide +kernel
theorem d_FK_send_24 : decode b_FK_send 24 = .ok (.ldc 223, 2) := by decide +kernel
theorem d_FK_send_26 : decode b_FK_send 26 = .ok (.invokespecial 57, 3) := by decide +kernel
theorem d_FK_send_29 : decode b_FK_send 29 = .ok (.athrow, 1) := by decide +kernel
theorem d_FK_send_30 : decode b_FK_send 30 = .ok (.aload_n 0, 1) := by decide +kernel
theorem d_FK_send_31 : decode b_FK_send 31 = .ok (.iload_n 2, 1) := by decide +kernel
theorem d_FK_send_32 : decode b_FK_send 32 = .ok (.invokevirtual 212, 3) := by decide +kernel
theorem d_FK_send_35 : decode b_FK_send 35 = .ok (.istore_n 3, 1) := by decide +kernel
theorem d_FK_send_36 : decode b_FK_send 36 = .ok (.iload_n 2, 1) := by decide +kernel
theorem d_FK_send_37 : decode b_FK_send 37 = .ok (.invokestatic 215, 3) := by decide +kernel
theorem d_FK_send_40 : decode b_FK_send 40 = .ok (.istore 4, 2) := by decide +kernel
theorem d_FK_send_42 : decode b_FK_send 42 = .ok (.aload_n 0, 1) := by decide +kernel
theorem d_FK_send_43 : decode b_FK_send 43 = .ok (.iload_n 2, 1) := by decide +kernel
theorem d_FK_send_44 : decode b_FK_send 44 = .ok (.invokevirtual 225, 3) := by decide +kernel
theorem d_FK_send_47 : decode b_FK_send 47 = .ok (.istore 5, 2) := by decide +kernel
theorem d_FK_send_49 : decode b_FK_send 49 = .ok (.aload_n 0, 1) := by decide +kernel
theorem d_FK_send_50 : decode b_FK_send 50 = .ok (.getfield 10, 3) := by decide +kernel
theorem d_FK_send_53 : decode b_FK_send 53 = .ok (.iload_n 3, 1) := by decide +kernel
theorem d_FK_send_54 : decode b_FK_send 54 = .ok (.iload 4, 2) := by decide +kernel
theorem d_FK_send_56 : decode b_FK_send 56 = .ok (.invokevirtual 77, 3) := by decide +kernel
theorem d_FK_send_59 : decode b_FK_send 59 = .ok (.istore 6, 2) := by decide +kernel
theorem d_FK_send_61 : decode b_FK_send 61 = .ok (.aload_n 0, 1) := by decide +kernel
theorem d_FK_send_62 : decode b_FK_send 62 = .ok (.getfield 10, 3) := by decide +kernel
theorem d_FK_send_65 : decode b_FK_send 65 = .ok (.iload_n 3, 1) := by decide +kernel
theorem d_FK_send_66 : decode b_FK_send 66 = .ok (.iload 4, 2) := by decide +kernel
theorem d_FK_send_68 : decode b_FK_send 68 = .ok (.invokevirtual 104, 3) := by decide +kernel
theorem d_FK_send_71 : decode b_FK_send 71 = .ok (.aload_n 0, 1) := by decide +kernel
theorem d_FK_send_72 : decode b_FK_send 72 = .ok (.getfield 10, 3) := by decide +kernel
theorem d_FK_send_75 : decode b_FK_send 75 = .ok (.aload_n 0, 1) := by decide +kernel
theorem d_FK_send_76 : decode b_FK_send 76 = .ok (.getfield 19, 3) := by decide +kernel
theorem d_FK_send_79 : decode b_FK_send 79 = .ok (.iload_n 1, 1) := by decide +kernel
theorem d_FK_send_80 : decode b_FK_send 80 = .ok (.invokevirtual 228, 3) := by decide +kernel
theorem d_FK_send_83 : decode b_FK_send 83 = .ok (.aload_n 0, 1) := by decide +kernel
theorem d_FK_send_84 : decode b_FK_send 84 = .ok (.getfield 19, 3) := by decide +kernel
theorem d_FK_send_87 : decode b_FK_send 87 = .ok (.iload_n 1, 1) := by decide +kernel
theorem d_FK_send_88 : decode b_FK_send 88 = .ok (.invokevirtual 231, 3) := by decide +kernel
theorem d_FK_send_91 : decode b_FK_send 91 = .ok (.iload 5, 2) := by decide +kernel
theorem d_FK_send_93 : decode b_FK_send 93 = .ok (.iload 6, 2) := by decide +kernel
theorem d_FK_send_95 : decode b_FK_send 95 = .ok (.invokevirtual 84, 3) := by decide +kernel
theorem d_FK_send_98 : decode b_FK_send 98 = .ok (.aload_n 0, 1) := by decide +kernel
theorem d_FK_send_99 : decode b_FK_send 99 = .ok (.getfield 10, 3) := by decide +kernel
theorem d_FK_send_102 : decode b_FK_send 102 = .ok (.iload 5, 2) := by decide +kernel
theorem d_FK_send_104 : decode b_FK_send 104 = .ok (.iload_n 1, 1) := by decide +kernel
theorem d_FK_send_105 : decode b_FK_send 105 = .ok (.invokevirtual 234, 3) := by decide +kernel
theorem d_FK_send_108 : decode b_FK_send 108 = .ok (.aload_n 0, 1) := by decide +kernel
theorem d_FK_send_109 : decode b_FK_send 109 = .ok (.getfield 19, 3) := by decide +kernel
theorem d_FK_send_112 : decode b_FK_send 112 = .ok (.iload_n 1, 1) := by decide +kernel
theorem d_FK_send_113 : decode b_FK_send 113 = .ok (.iconst 2, 1) := by decide +kernel
theorem d_FK_send_114 : decode b_FK_send 114 = .ok (.invokevirtual 115, 3) := by decide +kernel
theorem d_FK_send_117 : decode b_FK_send 117 = .ok (.iload 5, 2) := by decide +kernel
theorem d_FK_send_119 : decode b_FK_send 119 = .ok (.ireturn, 1) := by decide +kernel
theorem d_FK_process_0 : decode b_FK_process 0 = .ok (.iload_n 1, 1) := by decide +kernel
theorem d_FK_process_1 : decode b_FK_process 1 = .ok (.invokestatic 42, 3) := by decide +kernel
theorem d_FK_process_4 : decode b_FK_process 4 = .ok (.iload_n 2, 1) := by decide +kernel
theorem d_FK_process_5 : decode b_FK_process 5 = .ok (.iconst 0, 1) := by decide +kernel
theorem d_FK_process_6 : decode b_FK_process 6 = .ok (.iconst 4, 1) := by decide +kernel
theorem d_FK_process_7 : decode b_FK_process 7 = .ok (.invokestatic 237, 3) := by decide +kernel
theorem d_FK_process_10 : decode b_FK_process 10 = .ok (.iload_n 2, 1) := by decide +kernel
theorem d_FK_process_11 : decode b_FK_process 11 = .ok (.tableswitch 65 0 3 #[29, 38, 47, 56], 29) := by decide +kernel
theorem d_FK_process_40 : decode b_FK_process 40 = .ok (.aload_n 0, 1) := by decide +kernel
theorem d_FK_process_41 : decode b_FK_process 41 = .ok (.getfield 19, 3) := by decide +kernel
theorem d_FK_process_44 : decode b_FK_process 44 = .ok (.iload_n 1, 1) := by decide +kernel
theorem d_FK_process_45 : decode b_FK_process 45 = .ok (.invokevirtual 49, 3) := by decide +kernel
theorem d_FK_process_48 : decode b_FK_process 48 = .ok (.ireturn, 1) := by decide +kernel
theorem d_FK_process_49 : decode b_FK_process 49 = .ok (.aload_n 0, 1) := by decide +kernel
theorem d_FK_process_50 : decode b_FK_process 50 = .ok (.getfield 19, 3) := by decide +kernel
theorem d_FK_process_53 : decode b_FK_process 53 = .ok (.iload_n 1, 1) := by decide +kernel
theorem d_FK_process_54 : decode b_FK_process 54 = .ok (.invokevirtual 240, 3) := by decide +kernel
theorem d_FK_process_57 : decode b_FK_process 57 = .ok (.ireturn, 1) := by decide +kernel
theorem d_FK_process_58 : decode b_FK_process 58 = .ok (.aload_n 0, 1) := by decide +kernel
theorem d_FK_process_59 : decode b_FK_process 59 = .ok (.getfield 19, 3) := by decide +kernel
theorem d_FK_process_62 : decode b_FK_process 62 = .ok (.iload_n 1, 1) := by decide +kernel
theorem d_FK_process_63 : decode b_FK_process 63 = .ok (.invokevirtual 145, 3) := by decide +kernel
theorem d_FK_process_66 : decode b_FK_process 66 = .ok (.ireturn, 1) := by decide +kernel
theorem d_FK_process_67 : decode b_FK_process 67 = .ok (.aload_n 0, 1) := by decide +kernel
theorem d_FK_process_68 : decode b_FK_process 68 = .ok (.getfield 10, 3) := by decide +kernel
theorem d_FK_process_71 : decode b_FK_process 71 = .ok (.iload_n 1, 1) := by decide +kernel
theorem d_FK_process_72 : decode b_FK_process 72 = .ok (.invokevirtual 243, 3) := by decide +kernel
theorem d_FK_process_75 : decode b_FK_process 75 = .ok (.ireturn, 1) := by decide +kernel
theorem d_FK_process_76 : decode b_FK_process 76 = .ok (.aload_n 0, 1) := by decide +kernel
theorem d_FK_process_77 : decode b_FK_process 77 = .ok (.getfield 19, 3) := by decide +kernel
theorem d_FK_process_80 : decode b_FK_process 80 = .ok (.iload_n 1, 1) := by decide +kernel
theorem d_FK_process_81 : decode b_FK_process 81 = .ok (.invokevirtual 135, 3) := by decide +kernel
theorem d_FK_process_84 : decode b_FK_process 84 = .ok (.ireturn, 1) := by decide +kernel
theorem d_FK_page_0 : decode b_FK_page 0 = .ok (.iload_n 1, 1) := by decide +kernel
theorem d_FK_page_1 : decode b_FK_page 1 = .ok (.invokestatic 46, 3) := by decide +kernel
theorem d_FK_page_4 : decode b_FK_page 4 = .ok (.iload_n 2, 1) := by decide +kernel
theorem d_FK_page_5 : decode b_FK_page 5 = .ok (.iconst 0, 1) := by decide +kernel
theorem d_FK_page_6 : decode b_FK_page 6 = .ok (.iconst 2, 1) := by decide +kernel
theorem d_FK_page_7 : decode b_FK_page 7 = .ok (.invokestatic 237, 3) := by decide +kernel
theorem d_FK_page_10 : decode b_FK_page 10 = .ok (.iload_n 2, 1) := by decide +kernel
theorem d_FK_page_11 : decode b_FK_page 11 = .ok (.lookupswitch 43 #[(0, 25), (1, 34)], 25) := by decide +kernel
theorem d_FK_page_36 : decode b_FK_page 36 = .ok (.aload_n 0, 1) := by decide +kernel
theorem d_FK_page_37 : decode b_FK_page 37 = .ok (.getfield 10, 3) := by decide +kernel
theorem d_FK_page_40 : decode b_FK_page 40 = .ok (.iload_n 1, 1) := by decide +kernel
theorem d_FK_page_41 : decode b_FK_page 41 = .ok (.invokevirtual 246, 3) := by decide +kernel
theorem d_FK_page_44 : decode b_FK_page 44 = .ok (.ireturn, 1) := by decide +kernel
theorem d_FK_page_45 : decode b_FK_page 45 = .ok (.aload_n 0, 1) := by decide +kernel
theorem d_FK_page_46 : decode b_FK_page 46 = .ok (.getfield 10, 3) := by decide +kernel
theorem d_FK_page_49 : decode b_FK_page 49 = .ok (.iload_n 1, 1) := by decide +kernel
theorem d_FK_page_50 : decode b_FK_page 50 = .ok (.invokevirtual 249, 3) := by decide +kernel
theorem d_FK_page_53 : decode b_FK_page 53 = .ok (.ireturn, 1) := by decide +kernel
theorem d_FK_page_54 : decode b_FK_page 54 = .ok (.aload_n 0, 1) := by decide +kernel
theorem d_FK_page_55 : decode b_FK_page 55 = .ok (.getfield 10, 3) := by decide +kernel
theorem d_FK_page_58 : decode b_FK_page 58 = .ok (.iload_n 1, 1) := by decide +kernel
theorem d_FK_page_59 : decode b_FK_page 59 = .ok (.invokevirtual 99, 3) := by decide +kernel
theorem d_FK_page_62 : decode b_FK_page 62 = .ok (.ireturn, 1) := by decide +kernel
theorem d_FK_count_0 : decode b_FK_count 0 = .ok (.iload_n 1, 1) := by decide +kernel
theorem d_FK_count_1 : decode b_FK_count 1 = .ok (.iconst 0, 1) := by decide +kernel
theorem d_FK_count_2 : decode b_FK_count 2 = .ok (.iconst 3, 1) := by decide +kernel
theorem d_FK_count_3 : decode b_FK_count 3 = .ok (.invokestatic 237, 3) := by decide +kernel
theorem d_FK_count_6 : decode b_FK_count 6 = .ok (.iload_n 1, 1) := by decide +kernel
theorem d_FK_count_7 : decode b_FK_count 7 = .ok (.tableswitch 47 0 2 #[25, 30, 39], 25) := by decide +kernel
theorem d_FK_count_32 : decode b_FK_count 32 = .ok (.aload_n 0, 1) := by decide +kernel
theorem d_FK_count_33 : decode b_FK_count 33 = .ok (.getfield 30, 3) := by decide +kernel
theorem d_FK_count_36 : decode b_FK_count 36 = .ok (.ireturn, 1) := by decide +kernel
theorem d_FK_count_37 : decode b_FK_count 37 = .ok (.aload_n 0, 1) := by decide +kernel
theorem d_FK_count_38 : decode b_FK_count 38 = .ok (.getfield 10, 3) := by decide +kernel
theorem d_FK_count_41 : decode b_FK_count 41 = .ok (.iconst 0, 1) := by decide +kernel
theorem d_FK_count_42 : decode b_FK_count 42 = .ok (.invokevirtual 243, 3) := by decide +kernel
theorem d_FK_count_45 : decode b_FK_count 45 = .ok (.ireturn, 1) := by decide +kernel
theorem d_FK_count_46 : decode b_FK_count 46 = .ok (.aload_n 0, 1) := by decide +kernel
theorem d_FK_count_47 : decode b_FK_count 47 = .ok (.getfield 19, 3) := by decide +kernel
theorem d_FK_count_50 : decode b_FK_count 50 = .ok (.invokevirtual 252, 3) := by decide +kernel
theorem d_FK_count_53 : decode b_FK_count 53 = .ok (.ireturn, 1) := by decide +kernel
theorem d_FK_count_54 : decode b_FK_count 54 = .ok (.aload_n 0, 1) := by decide +kernel
theorem d_FK_count_55 : decode b_FK_count 55 = .ok (.invokevirtual 256, 3) := by decide +kernel
theorem d_FK_count_58 : decode b_FK_count 58 = .ok (.ireturn, 1) := by decide +kernel
theorem d_FK_intsInOpenPipes_0 : decode b_FK_intsInOpenPipes 0 = .ok (.iconst 0, 1) := by decide +kernel
theorem d_FK_intsInOpenPipes_1 : decode b_FK_intsInOpenPipes 1 = .ok (.istore_n 1, 1) := by decide +kernel
theorem d_FK_intsInOpenPipes_2 : decode b_FK_intsInOpenPipes 2 = .ok (.iconst 0, 1) := by decide +kernel
theorem d_FK_intsInOpenPipes_3 : decode b_FK_intsInOpenPipes 3 = .ok (.istore_n 2, 1) := by decide +kernel
theorem d_FK_intsInOpenPipes_4 : decode b_FK_intsInOpenPipes 4 = .ok (.iload_n 2, 1) := by decide +kernel
theorem d_FK_intsInOpenPipes_5 : decode b_FK_intsInOpenPipes 5 = .ok (.iconst 3, 1) := by decide +kernel
theorem d_FK_intsInOpenPipes_6 : decode b_FK_intsInOpenPipes 6 = .ok (.if_icmp .ge 31, 3) := by decide +kernel
theorem d_FK_intsInOpenPipes_9 : decode b_FK_intsInOpenPipes 9 = .ok (.aload_n 0, 1) := by decide +kernel
theorem d_FK_intsInOpenPipes_10 : decode b_FK_intsInOpenPipes 10 = .ok (.getfield 19, 3) := by decide +kernel
theorem d_FK_intsInOpenPipes_13 : decode b_FK_intsInOpenPipes 13 = .ok (.iload_n 2, 1) := by decide +kernel
theorem d_FK_intsInOpenPipes_14 : decode b_FK_intsInOpenPipes 14 = .ok (.invokevirtual 166, 3) := by decide +kernel
theorem d_FK_intsInOpenPipes_17 : decode b_FK_intsInOpenPipes 17 = .ok (.ifCond .le 14, 3) := by decide +kernel
theorem d_FK_intsInOpenPipes_20 : decode b_FK_intsInOpenPipes 20 = .ok (.iload_n 1, 1) := by decide +kernel
theorem d_FK_intsInOpenPipes_21 : decode b_FK_intsInOpenPipes 21 = .ok (.aload_n 0, 1) := by decide +kernel
theorem d_FK_intsInOpenPipes_22 : decode b_FK_intsInOpenPipes 22 = .ok (.getfield 26, 3) := by decide +kernel
theorem d_FK_intsInOpenPipes_25 : decode b_FK_intsInOpenPipes 25 = .ok (.iload_n 2, 1) := by decide +kernel
theorem d_FK_intsInOpenPipes_26 : decode b_FK_intsInOpenPipes 26 = .ok (.invokevirtual 190, 3) := by decide +kernel
theorem d_FK_intsInOpenPipes_29 : decode b_FK_intsInOpenPipes 29 = .ok (.iadd, 1) := by decide +kernel
theorem d_FK_intsInOpenPipes_30 : decode b_FK_intsInOpenPipes 30 = .ok (.istore_n 1, 1) := by decide +kernel
theorem d_FK_intsInOpenPipes_31 : decode b_FK_intsInOpenPipes 31 = .ok (.iinc 2 1, 3) := by decide +kernel
theorem d_FK_intsInOpenPipes_34 : decode b_FK_intsInOpenPipes 34 = .ok (.goto (-30), 3) := by decide +kernel
theorem d_FK_intsInOpenPipes_37 : decode b_FK_intsInOpenPipes 37 = .ok (.iload_n 1, 1) := by decide +kernel
theorem d_FK_intsInOpenPipes_38 : decode b_FK_intsInOpenPipes 38 = .ok (.ireturn, 1) := by decide +kernel
end
section
/-! WHAT IS GIVEN AT THE LAW'S START s0, and how it is read later in the run -/
theorem k_lays {C n d : String} {a0 args : Array Value} {s0 U : State} (h : (Cond.laysStatic C n d).before a0 s0 = true) (hE : kEnv s0 U) : (Cond.laysStatic C n d).before args U = true := by
  obtain ⟨c, k, i, f, a, cell, hc, hi, hst, ha, hcell, hs, hcls, hlt, hty⟩ := Cond.laysStatic_spec h
  have hc' : U.vm.findClass C = some c := by rw [hE.1.alike.findClass]; exact hc
  obtain ⟨k', hi', he⟩ := State.fieldFound?_setVm hE.1.alike hi
  have hi2 : U.fieldFound? C n d = some (c, k', i, f) := hi'
  have ha' : k'.statics = some a := by rw [he]; exact ha
  have hty' : k'.staticTypes[f.slot]? = some f.type := by rw [he]; exact hty
  have hcell' : U.heap[a]? = some cell := by rw [hE.2.2 a (Array.getElem?_eq_some_iff.mp hcell).1]; exact hcell
  simp [Cond.before, Cond.holds, Cond.value, hc', hi2, hst, ha', hcell', hs, hcls, hlt, hty']
theorem k_isRef {C n d : String} {a0 args : Array Value} {s0 U : State} (h : (Cond.laysStatic C n d).before a0 s0 = true) (hr : (Cond.isRef (.static C n d)).before a0 s0 = true) (hE : kEnv s0 U) : (Cond.isRef (.static C n d)).before args U = true := by
  obtain ⟨c, k, i, f, a, cell, hc, hi, hst, ha, hcell, hs, hcls, hlt, hty⟩ := Cond.laysStatic_spec h
  obtain ⟨k', hi', he⟩ := State.fieldFound?_setVm hE.1.alike hi
  have hi2 : U.fieldFound? C n d = some (c, k', i, f) := hi'
  have ha' : k'.statics = some a := by rw [he]; exact ha
  have hcell' : U.heap[a]? = some cell := by rw [hE.2.2 a (Array.getElem?_eq_some_iff.mp hcell).1]; exact hcell
  have e0 : (Term.static C n d).eval a0 s0 none [] s0 = cell.slots[f.slot]? := by simp [Term.eval, State.fieldNamed?, hi, hst, ha, hcell, hs]
  have e1 : (Term.static C n d).eval args U none [] U = cell.slots[f.slot]? := by simp [Term.eval, State.fieldNamed?, hi2, hst, ha', hcell', hs]
  simp only [Cond.before, Cond.holds, Cond.value, e0] at hr
  simp only [Cond.before, Cond.holds, Cond.value, e1]
  exact hr
/-- the rooms: a method of level L calls methods of lower levels -/
abbrev rmL (L : Nat) : Room := { frames := L, cells := 1, slots := 6, locals := 30 * L }
/-- the words of a throw that speak of the heap -/
def kHp (w : Cond) : Bool := decide (w = .isRef (.static Bundle.tN "UNASSIGNED_STACK" Bundle.steD)) || decide (w = .isRef (.static Bundle.tN "SUPPRESSED_SENTINEL" Bundle.listD)) || decide (w = .laysStatic Bundle.tN "UNASSIGNED_STACK" Bundle.steD) || decide (w = .laysStatic Bundle.tN "SUPPRESSED_SENTINEL" Bundle.listD)
/-- the four words at s0, and Throwable's statics -/
def kTh (a0 : Array Value) (s0 : State) : Prop := (Cond.isRef (.static Bundle.tN "UNASSIGNED_STACK" Bundle.steD)).before a0 s0 = true ∧ (Cond.isRef (.static Bundle.tN "SUPPRESSED_SENTINEL" Bundle.listD)).before a0 s0 = true ∧ (Cond.laysStatic Bundle.tN "UNASSIGNED_STACK" Bundle.steD).before a0 s0 = true ∧ (Cond.laysStatic Bundle.tN "SUPPRESSED_SENTINEL" Bundle.listD).before a0 s0 = true
theorem k_own {a0 args : Array Value} {s0 s : State} {Ts L : List Cond} (hT : ∀ w ∈ Ts, w.before a0 s0 = true) (hth : kTh a0 s0) (hE : kEnv s0 s) (hin : ∀ w ∈ L.filter (fun w => !kHp w), w ∈ Ts ∧ kGood w = true) : ∀ w ∈ L, w.before args s = true := by
  intro w hw
  cases hk : kHp w with
  | false =>
    obtain ⟨h1, h2⟩ := hin w (List.mem_filter.mpr ⟨hw, by simp [hk]⟩)
    exact kGood_at h2 hE.1 (hT w h1)
  | true =>
    obtain ⟨r1, r2, l1, l2⟩ := hth
    simp only [kHp, Bool.or_eq_true, decide_eq_true_eq] at hk
    rcases hk with ((rfl | rfl) | rfl) | rfl
    · exact k_isRef l1 r1 hE
    · exact k_isRef l2 r2 hE
    · exact k_lays l1 hE
    · exact k_lays l2 hE
def kStrs : List (Nat × String) := [(261, "a number is out of range"), (55, "the process is not free"), (271, "the page is not free"), (285, "the holder is of another kind or not the caller's"), (287, "the entry is not empty"), (278, "the page is no root or table of the caller's"), (282, "the entry is empty"), (93, "one of the pages is no frame of the caller's"), (102, "the table still has an entry"), (113, "the process is no embryo of the caller's"), (269, "the process is not ready"), (124, "process 1 can't be killed"), (303, "no process is ready to run instead"), (133, "the process is not the caller or a living child of it"), (138, "the process is no zombie of the caller's"), (143, "the zombie still holds a page or a descriptor"), (267, "the process is not the caller's"), (276, "the descriptor is in use"), (169, "the pipe is open already"), (298, "there is no such descriptor"), (292, "the address has no table entry"), (294, "the address has no frame entry"), (296, "an entry lacks the right"), (193, "the pipe is full"), (204, "the pipe is empty"), (218, "the frame entry is not empty"), (223, "the process is not waiting")]
theorem sr_261 : ((261, "a number is out of range") : Nat × String) ∈ kStrs := List.mem_of_getElem? (i := 0) rfl
theorem sr_55 : ((55, "the process is not free") : Nat × String) ∈ kStrs := List.mem_of_getElem? (i := 1) rfl
theorem sr_271 : ((271, "the page is not free") : Nat × String) ∈ kStrs := List.mem_of_getElem? (i := 2) rfl
theorem sr_285 : ((285, "the holder is of another kind or not the caller's") : Nat × String) ∈ kStrs := List.mem_of_getElem? (i := 3) rfl
theorem sr_287 : ((287, "the entry is not empty") : Nat × String) ∈ kStrs := List.mem_of_getElem? (i := 4) rfl
theorem sr_278 : ((278, "the page is no root or table of the caller's") : Nat × String) ∈ kStrs := List.mem_of_getElem? (i := 5) rfl
theorem sr_282 : ((282, "the entry is empty") : Nat × String) ∈ kStrs := List.mem_of_getElem? (i := 6) rfl
theorem sr_93 : ((93, "one of the pages is no frame of the caller's") : Nat × String) ∈ kStrs := List.mem_of_getElem? (i := 7) rfl
theorem sr_102 : ((102, "the table still has an entry") : Nat × String) ∈ kStrs := List.mem_of_getElem? (i := 8) rfl
theorem sr_113 : ((113, "the process is no embryo of the caller's") : Nat × String) ∈ kStrs := List.mem_of_getElem? (i := 9) rfl
theorem sr_269 : ((269, "the process is not ready") : Nat × String) ∈ kStrs := List.mem_of_getElem? (i := 10) rfl
theorem sr_124 : ((124, "process 1 can't be killed") : Nat × String) ∈ kStrs := List.mem_of_getElem? (i := 11) rfl
theorem sr_303 : ((303, "no process is ready to run instead") : Nat × String) ∈ kStrs := List.mem_of_getElem? (i := 12) rfl
theorem sr_133 : ((133, "the process is not the caller or a living child of it") : Nat × String) ∈ kStrs := List.mem_of_getElem? (i := 13) rfl
theorem sr_138 : ((138, "the process is no zombie of the caller's") : Nat × String) ∈ kStrs := List.mem_of_getElem? (i := 14) rfl
theorem sr_143 : ((143, "the zombie still holds a page or a descriptor") : Nat × String) ∈ kStrs := List.mem_of_getElem? (i := 15) rfl
theorem sr_267 : ((267, "the process is not the caller's") : Nat × String) ∈ kStrs := List.mem_of_getElem? (i := 16) rfl
theorem sr_276 : ((276, "the descriptor is in use") : Nat × String) ∈ kStrs := List.mem_of_getElem? (i := 17) rfl
theorem sr_169 : ((169, "the pipe is open already") : Nat × String) ∈ kStrs := List.mem_of_getElem? (i := 18) rfl
theorem sr_298 : ((298, "there is no such descriptor") : Nat × String) ∈ kStrs := List.mem_of_getElem? (i := 19) rfl
theorem sr_292 : ((292, "the address has no table entry") : Nat × String) ∈ kStrs := List.mem_of_getElem? (i := 20) rfl
theorem sr_294 : ((294, "the address has no frame entry") : Nat × String) ∈ kStrs := List.mem_of_getElem? (i := 21) rfl
theorem sr_296 : ((296, "an entry lacks the right") : Nat × String) ∈ kStrs := List.mem_of_getElem? (i := 22) rfl
theorem sr_193 : ((193, "the pipe is full") : Nat × String) ∈ kStrs := List.mem_of_getElem? (i := 23) rfl
theorem sr_204 : ((204, "the pipe is empty") : Nat × String) ∈ kStrs := List.mem_of_getElem? (i := 24) rfl
theorem sr_218 : ((218, "the frame entry is not empty") : Nat × String) ∈ kStrs := List.mem_of_getElem? (i := 25) rfl
theorem sr_223 : ((223, "the process is not waiting") : Nat × String) ∈ kStrs := List.mem_of_getElem? (i := 26) rfl
abbrev kNames : List String := ["java/lang/RuntimeException", "java/lang/Exception"]
theorem oa_263 : ∀ w ∈ (Bundle.ownAtoms R_FK 263 "java/lang/IllegalArgumentException" kNames).filter (fun w => !kHp w), w ∈ kTb := by decide +kernel

theorem oa_57 : ∀ w ∈ (Bundle.ownAtoms R_FK 57 "java/lang/IllegalStateException" kNames).filter (fun w => !kHp w), w ∈ kTb := by decide +kernel
theorem oa_95 : ∀ w ∈ (Bundle.ownAtoms R_FK 95 "java/lang/UnsupportedOperationException" kNames).filter (fun w => !kHp w), w ∈ kTb := by decide +kernel
theorem oa_284 : ∀ w ∈ (kxAtoms R_FK 284 "java/util/NoSuchElementException" 13 prog_14_method_4_code "java/lang/RuntimeException" ["java/lang/Exception"]).filter (fun w => !kHp w), w ∈ kTb := by decide +kernel
theorem x14_0 : decode prog_14_method_4_code 0 = .ok (.aload_n 0, 1) := by decide +kernel
theorem x14_1 : decode prog_14_method_4_code 1 = .ok (.aload_n 1, 1) := by decide +kernel
theorem x14_2 : decode prog_14_method_4_code 2 = .ok (.invokespecial 13, 3) := by decide +kernel
theorem x14_5 : decode prog_14_method_4_code 5 = .ok (.return_, 1) := by decide +kernel
/-- what is given at the law's start -/
def k0 (l : Launch) (s0 : State) (a0 : Array Value) (D : va_G) (cI cL : ClassId) : Prop := (∀ w ∈ kTb, w.before a0 s0 = true) ∧ kTh a0 s0 ∧ l.stackTraces = false ∧ (∀ q ∈ kStrs, ∃ sa, vk_R R_FK q.1 q.2 sa s0) ∧ va_K D vwCl [(cI, .int), (cL, .long)] s0
theorem kTb_good {w : Cond} (h : w ∈ kTb) : kGood w = true := (List.mem_filter.mp h).2
section KS
variable {l : Launch} {s0 s : State} {a0 args : Array Value} {D : va_G} {cI cL : ClassId}
theorem k0.w (K : k0 l s0 a0 D cI cL) {w : Cond} (h : w ∈ kTb) : w.before a0 s0 = true := K.1 w h
theorem k0.at (K : k0 l s0 a0 D cI cL) (hE : kEnv s0 s) : (∀ w ∈ kTb, w.before args s = true) ∧ va_K D vwCl [(cI, .int), (cL, .long)] s :=
  ⟨fun w hw => kGood_at (kTb_good hw) hE.1 (K.1 w hw), K.2.2.2.2.moved hE.1.alike⟩
theorem k0.tr (K : k0 l s0 a0 D cI cL) : l.stackTraces = false := K.2.2.1
theorem k0.str (K : k0 l s0 a0 D cI cL) (hE : kEnv s0 s) {k : Nat} {tx : String} (h : ((k, tx) : Nat × String) ∈ kStrs) : ∃ sa, vk_R R_FK k tx sa s := by
  obtain ⟨sa, h1⟩ := K.2.2.2.1 _ h
  exact ⟨sa, vk_R.warm hE.1 h1⟩
theorem k0.own (K : k0 l s0 a0 D cI cL) (hE : kEnv s0 s) {L : List Cond} (h : ∀ w ∈ L.filter (fun w => !kHp w), w ∈ kTb) : ∀ w ∈ L, w.before args s = true := k_own K.1 K.2.1 hE (fun w hw => ⟨h w hw, kTb_good (h w hw)⟩)
end KS
end
section
/-! THE STATE. Of the class: σ.1 0 kinds, 1 owners, 2 pages in entries (0: none; else the page and one), 3 rights, 4 states, 5 parents, 6 roots (as 2), 7 descriptors (as 2), 8 awaited tables, 9 awaited entries, 10 sizes of pipes, 11 the caller (at 0); σ.2 0 words, 1 ints in pipes. Of the reference the same, but 8: the awaited address; σ.2 2: thrown (0), wrong (1). -/
abbrev kS : Type := (Nat → Nat → Nat) × (Nat → Nat → Int32)
def st (σ : kS) (a j v : Nat) : kS := (va_up σ.1 a (va_up (σ.1 a) j v), σ.2)
def sw (σ : kS) (a j : Nat) (v : Int32) : kS := (σ.1, va_up σ.2 a (va_up (σ.2 a) j v))
abbrev aN (cI : ClassId) (n : Nat) (g : Nat → Nat) : va_E := .inl (cI, n, .inl (cN g))
abbrev aP (cI : ClassId) (n : Nat) (g : Nat → Nat) : va_E := .inl (cI, n, .inl (cP g))
abbrev aI (cI : ClassId) (n : Nat) (g : Nat → Int32) : va_E := .inl (cI, n, .inl g)
/-- the cells of the class: kernel, memory, processes, pipes, then their rows -/
def wC (ad : Nat → Nat) (cI : ClassId) (r : va_W) (σ : kS) : va_W :=
  (ad 0, .inr (nFK, [.ref (ad 1), .ref (ad 2), .ref (ad 3), .int (nI (σ.1 11 0))])) ::
  (ad 1, .inr (nMem, [.ref (ad 4), .ref (ad 5), .ref (ad 6), .ref (ad 7), .ref (ad 8)])) ::
  (ad 2, .inr (nPro, [.ref (ad 9), .ref (ad 10), .ref (ad 11), .ref (ad 12), .ref (ad 13), .ref (ad 14)])) ::
  (ad 3, .inr (nPip, [.ref (ad 15), .ref (ad 16)])) ::
  (ad 4, aN cI 20 (σ.1 0)) :: (ad 5, aN cI 20 (σ.1 1)) :: (ad 6, aP cI 80 (σ.1 2)) :: (ad 7, aN cI 80 (σ.1 3)) :: (ad 8, aI cI 80 (σ.2 0)) ::
  (ad 9, aN cI 6 (σ.1 4)) :: (ad 10, aN cI 6 (σ.1 5)) :: (ad 11, aP cI 6 (σ.1 6)) :: (ad 12, aP cI 24 (σ.1 7)) :: (ad 13, aN cI 6 (σ.1 8)) :: (ad 14, aN cI 6 (σ.1 9)) ::
  (ad 15, aN cI 3 (σ.1 10)) :: (ad 16, aI cI 12 (σ.2 1)) :: r
/-- the cells of the reference -/
def wR (ad : Nat → Nat) (cI : ClassId) (τ : kS) : va_W :=
  [(ad 17, .inr (nMod, [.int (τ.2 2 0), .ref (ad 18), .ref (ad 19), .ref (ad 20), .ref (ad 21), .ref (ad 22), .ref (ad 23), .ref (ad 24), .ref (ad 25), .ref (ad 26), .ref (ad 27), .ref (ad 28), .ref (ad 29), .int (nI (τ.1 11 0)), .int (τ.2 2 1)])),
   (ad 18, aN cI 6 (τ.1 4)), (ad 19, aN cI 6 (τ.1 5)), (ad 20, aP cI 6 (τ.1 6)), (ad 21, aP cI 24 (τ.1 7)), (ad 22, aN cI 6 (τ.1 8)),
   (ad 23, aN cI 20 (τ.1 0)), (ad 24, aN cI 20 (τ.1 1)), (ad 25, aP cI 80 (τ.1 2)), (ad 26, aN cI 80 (τ.1 3)), (ad 27, aI cI 80 (τ.2 0)), (ad 28, aI cI 12 (τ.2 1)), (ad 29, aN cI 3 (τ.1 10))]
/-- memory alone; processes alone: while they are being made -/
def wM (ad : Nat → Nat) (cI : ClassId) (σ : kS) : va_W :=
  [(ad 1, .inr (nMem, [.ref (ad 4), .ref (ad 5), .ref (ad 6), .ref (ad 7), .ref (ad 8)])), (ad 4, aN cI 20 (σ.1 0)), (ad 5, aN cI 20 (σ.1 1)), (ad 6, aP cI 80 (σ.1 2)), (ad 7, aN cI 80 (σ.1 3)), (ad 8, aI cI 80 (σ.2 0))]
def wP (ad : Nat → Nat) (cI : ClassId) (σ : kS) : va_W :=
  [(ad 2, .inr (nPro, [.ref (ad 9), .ref (ad 10), .ref (ad 11), .ref (ad 12), .ref (ad 13), .ref (ad 14)])), (ad 9, aN cI 6 (σ.1 4)), (ad 10, aN cI 6 (σ.1 5)), (ad 11, aP cI 6 (σ.1 6)), (ad 12, aP cI 24 (σ.1 7)), (ad 13, aN cI 6 (σ.1 8)), (ad 14, aN cI 6 (σ.1 9))]
/-! What the class's methods do, as functions of the state -/
def cnt (P : Nat → Bool) : Nat → Nat
  | 0 => 0
  | n + 1 => cnt P n + (if P n = true then 1 else 0)
theorem cnt_le (P : Nat → Bool) : ∀ n, cnt P n ≤ n
  | 0 => Nat.le_refl 0
  | n + 1 => by
    have h := cnt_le P n
    unfold cnt
    split <;> omega
theorem cnt_t {P : Nat → Bool} {n : Nat} (h : P n = true) : cnt P (n + 1) = cnt P n + 1 := by simp [cnt, h]
theorem cnt_f {P : Nat → Bool} {n : Nat} (h : P n = false) : cnt P (n + 1) = cnt P n := by simp [cnt, h]
def m_setEntry (σ : kS) (g e v r : Nat) : kS := st (st σ 2 (g * 4 + e) v) 3 (g * 4 + e) r
def m_clearEntry (σ : kS) (g e : Nat) : kS := m_setEntry σ g e 0 0
def m_cell (σ : kS) (g c : Nat) : kS := sw (m_clearEntry σ g c) 0 (g * 4 + c) (nI 0)
def m_become (σ : kS) (g k o : Nat) : kS := m_cell (m_cell (m_cell (m_cell (st (st σ 0 g k) 1 g o) g 0) g 1) g 2) g 3
def m_begin (σ : kS) (p s q r : Nat) : kS := st (st (st (st (st (st (st σ 4 p s) 5 p q) 6 p r) 7 (p * 4 + 0) 0) 7 (p * 4 + 1) 0) 7 (p * 4 + 2) 0) 7 (p * 4 + 3) 0
def filled (σ : kS) (g : Nat) : Nat := cnt (fun e => σ.1 2 (g * 4 + e) != 0) 4
def owned (σ : kS) (o : Nat) : Nat := cnt (fun g => σ.1 1 g == o) 20
def inuse (σ : kS) (p : Nat) : Nat := cnt (fun d => σ.1 7 (p * 4 + d) != 0) 4
def cof (σ : kS) (i : Nat) : Nat := cnt (fun k => σ.1 7 k == i + 1) 24
def live (σ : kS) : Nat := cnt (fun i => i != 0 && σ.1 4 i != 0) 6
def mine (σ : kS) (p : Nat) : Bool := p == σ.1 11 0 || (σ.1 5 p == σ.1 11 0 && σ.1 4 p == 1) || (σ.1 5 p == σ.1 11 0 && σ.1 4 p == 5)
def mchild (σ : kS) (p s : Nat) : Bool := σ.1 5 p == σ.1 11 0 && σ.1 4 p == s
def mlive (σ : kS) (p : Nat) : Bool := σ.1 5 p == σ.1 11 0 && σ.1 4 p != 0 && σ.1 4 p != 5
def mpage (σ : kS) (g k : Nat) : Bool := σ.1 0 g == k && mine σ (σ.1 1 g)
/-- what is always so of the numbers that are places -/
def kOk (σ : kS) : Prop := (∀ g, g < 20 → σ.1 1 g < 6) ∧ (∀ i, i < 80 → σ.1 2 i < 21) ∧ (∀ i, i < 80 → σ.1 3 i < 4) ∧ (∀ p, p < 6 → σ.1 4 p < 6) ∧ (∀ p, p < 6 → σ.1 5 p < 6) ∧ (∀ p, p < 6 → σ.1 6 p < 21) ∧ (∀ i, i < 24 → σ.1 7 i < 4) ∧ (∀ p, p < 6 → σ.1 8 p < 20) ∧ (∀ p, p < 6 → σ.1 9 p < 4) ∧ (∀ i, i < 3 → σ.1 10 i < 5) ∧ (∀ g, g < 20 → σ.1 0 g < 4) ∧ (1 ≤ σ.1 11 0 ∧ σ.1 11 0 < 6) ∧ σ.1 4 (σ.1 11 0) = 3 ∧ (∀ p, p < 6 → σ.1 4 p ≠ 0 → σ.1 6 p ≠ 0)
theorem kOk.b1 {σ : kS} (ok : kOk σ) : ∀ i, i < 20 → σ.1 1 i < 2 ^ 30 := fun i hi => Nat.lt_of_lt_of_le (ok.1 i hi) (by decide)
theorem kOk.b2 {σ : kS} (ok : kOk σ) : ∀ i, i < 80 → σ.1 2 i < 2 ^ 30 := fun i hi => Nat.lt_of_lt_of_le (ok.2.1 i hi) (by decide)
theorem kOk.b4 {σ : kS} (ok : kOk σ) : ∀ i, i < 6 → σ.1 4 i < 2 ^ 30 := fun i hi => Nat.lt_of_lt_of_le (ok.2.2.2.1 i hi) (by decide)
theorem kOk.b5 {σ : kS} (ok : kOk σ) : ∀ i, i < 6 → σ.1 5 i < 2 ^ 30 := fun i hi => Nat.lt_of_lt_of_le (ok.2.2.2.2.1 i hi) (by decide)
theorem kOk.b7 {σ : kS} (ok : kOk σ) : ∀ i, i < 24 → σ.1 7 i < 2 ^ 30 := fun i hi => Nat.lt_of_lt_of_le (ok.2.2.2.2.2.2.1 i hi) (by decide)
theorem kOk.b10 {σ : kS} (ok : kOk σ) : ∀ i, i < 3 → σ.1 10 i < 2 ^ 30 := fun i hi => Nat.lt_of_lt_of_le (ok.2.2.2.2.2.2.2.2.2.1 i hi) (by decide)
theorem kOk.b0 {σ : kS} (ok : kOk σ) : ∀ i, i < 20 → σ.1 0 i < 2 ^ 30 := fun i hi => Nat.lt_of_lt_of_le (ok.2.2.2.2.2.2.2.2.2.2.1 i hi) (by decide)
end
section
/-! WHAT THE CLASS'S CALLS ANSWER, as functions of the state: an exception's class, or an int and the state behind it -/
def eIA : String := "java/lang/IllegalArgumentException"
def eIS : String := "java/lang/IllegalStateException"
def eUO : String := "java/lang/UnsupportedOperationException"
def eNS : String := "java/util/NoSuchElementException"
abbrev kV : Type := Except String (Option Value × Unit)
abbrev kX : Type := Except String (Option Value × kS)
def rOk (n : Nat) (σ : kS) : kX := .ok (some (.int (nI n)), σ)
/-- a number in a range, or IllegalArgumentException -/
def inr {α : Type} (x : Int32) (lo hi : Nat) (k : Nat → Except String α) : Except String α := match rg x lo hi with
  | some p => k p
  | none => .error eIA
/-- c, or an exception -/
def req {α : Type} (c : Bool) (E : String) (k : Except String α) : Except String α := match c with
  | true => k
  | false => .error E
theorem req_t {α : Type} {c : Bool} {E : String} {k : Except String α} (h : c = true) : req c E k = k := by subst h; rfl
theorem req_f {α : Type} {c : Bool} {E : String} {k : Except String α} (h : c = false) : req c E k = .error E := by subst h; rfl
theorem inr_s {α : Type} {x : Int32} {lo hi p : Nat} {k : Nat → Except String α} (h : rg x lo hi = some p) : inr x lo hi k = k p := by unfold inr; rw [h]
theorem inr_n {α : Type} {x : Int32} {lo hi : Nat} {k : Nat → Except String α} (h : rg x lo hi = none) : inr x lo hi k = .error eIA := by unfold inr; rw [h]
def b2n (b : Bool) : Nat := match b with
  | true => 1
  | false => 0
theorem pI_pred {t : Nat} (h : t ≠ 0) : pI t = nI (t - 1) := by
  cases t with
  | zero => exact absurd rfl h
  | succ k => exact pI_succ k
theorem kb_t {l : Launch} {y : MethodName} {w : Cond} {rm : Room} {as : List Value} {Pre : State → Prop} {b : Bool} (h : b = true) (hM : kMet l y w rm as Pre (.ok (some (.int (nI (b2n b))), ())) kBr) : kMet l y w rm as Pre (.ok (some (.int (nI 1)), ())) kBr := by subst h; exact hM
theorem kb_f {l : Launch} {y : MethodName} {w : Cond} {rm : Room} {as : List Value} {Pre : State → Prop} {b : Bool} (h : b = false) (hM : kMet l y w rm as Pre (.ok (some (.int (nI (b2n b))), ())) kBr) : kMet l y w rm as Pre (.ok (some (.int (nI 0)), ())) kBr := by subst h; exact hM
theorem kr_t {S : Type} {B : S → State → State → Prop} {l : Launch} {y : MethodName} {w : Cond} {rm : Room} {as : List Value} {Pre : State → Prop} {c : Bool} {E : String} {k : Except String (Option Value × S)} (h : c = true) (hM : kMet l y w rm as Pre (req c E k) B) : kMet l y w rm as Pre k B := by subst h; exact hM
theorem kr_f {S : Type} {B : S → State → State → Prop} {l : Launch} {y : MethodName} {w : Cond} {rm : Room} {as : List Value} {Pre : State → Prop} {c : Bool} {E : String} {k : Except String (Option Value × S)} (h : c = false) (hM : kMet l y w rm as Pre (req c E k) B) : kMet l y w rm as Pre (.error E) B := by subst h; exact hM
theorem kn_s {S : Type} {B : S → State → State → Prop} {l : Launch} {y : MethodName} {w : Cond} {rm : Room} {as : List Value} {Pre : State → Prop} {x : Int32} {lo hi p : Nat} {k : Nat → Except String (Option Value × S)} (h : rg x lo hi = some p) (hM : kMet l y w rm as Pre (inr x lo hi k) B) : kMet l y w rm as Pre (k p) B := by rw [inr_s h] at hM; exact hM
theorem kn_n {S : Type} {B : S → State → State → Prop} {l : Launch} {y : MethodName} {w : Cond} {rm : Room} {as : List Value} {Pre : State → Prop} {x : Int32} {lo hi : Nat} {k : Nat → Except String (Option Value × S)} (h : rg x lo hi = none) (hM : kMet l y w rm as Pre (inr x lo hi k) B) : kMet l y w rm as Pre (.error eIA) B := by rw [inr_n h] at hM; exact hM
def sp_spawn (σ : kS) (x y : Int32) : kX := inr x 1 5 fun p => inr y 0 19 fun g => req (σ.1 4 p == 0) eIS <| req (σ.1 0 g == 0) eIS <| rOk 1 (m_begin (m_become σ g 1 p) p 1 (σ.1 11 0) (g + 1))
/-- hk: the holder's kind, 1 or 2 -/
def sp_fill (hk : Nat) (σ : kS) (x y z w : Int32) : kX := inr x 0 19 fun h => inr y 0 3 fun en => inr z 0 19 fun g => inr w 1 3 fun rr => req (mpage σ h hk) eUO <| req (σ.1 0 g == 0) eIS <| req (σ.1 2 (h * 4 + en) == 0) eIS <| rOk 1 (m_setEntry (m_become σ g (hk + 1) (σ.1 1 h)) h en (g + 1) rr)
def mhold (σ : kS) (g : Nat) : Bool := mpage σ g 1 || mpage σ g 2
def sp_protect (σ : kS) (x y z : Int32) : kX := inr x 0 19 fun g => inr y 0 3 fun en => inr z 1 3 fun rr => req (mhold σ g) eUO <| req (σ.1 2 (g * 4 + en) != 0) eNS <| rOk (σ.1 3 (g * 4 + en)) (m_setEntry σ g en (σ.1 2 (g * 4 + en)) rr)
def cp (σ : kS) (g h : Nat) : Nat → kS
  | 0 => σ
  | n + 1 => sw (cp σ g h n) 0 (h * 4 + n) ((cp σ g h n).2 0 (g * 4 + n))
def m_copy (σ : kS) (g h : Nat) : kS := cp σ g h 4
def sp_copy (σ : kS) (x y : Int32) : kX := inr x 0 19 fun g => inr y 0 19 fun h => req (mpage σ g 3 && mpage σ h 3) eUO <| rOk 1 (m_copy σ g h)
def sp_release (σ : kS) (x y : Int32) : kX := inr x 0 19 fun g => inr y 0 3 fun en => req (mhold σ g) eUO <| req (σ.1 2 (g * 4 + en) != 0) eNS <| req (filled σ (σ.1 2 (g * 4 + en) - 1) == 0) eIS <| rOk (σ.1 2 (g * 4 + en) - 1) (m_become (m_clearEntry σ g en) (σ.1 2 (g * 4 + en) - 1) 0 0)
def sp_start (σ : kS) (x : Int32) : kX := inr x 1 5 fun p => req (mchild σ p 1) eIS <| rOk 1 (st σ 4 p 2)
def m_run (σ : kS) (p : Nat) : kS := st (st σ 4 p 3) 11 0 p
def sp_give (σ : kS) (x : Int32) : kX := inr x 1 5 fun p => req (σ.1 4 p == 2) eIS <| rOk (σ.1 11 0) (m_run (st σ 4 (σ.1 11 0) 2) p)
/-- the next ready process behind p: 0 if none -/
def nxr (σ : kS) (p : Nat) : Nat := if σ.1 4 ((p + 0) % 5 + 1) = 2 then (p + 0) % 5 + 1 else if σ.1 4 ((p + 1) % 5 + 1) = 2 then (p + 1) % 5 + 1 else if σ.1 4 ((p + 2) % 5 + 1) = 2 then (p + 2) % 5 + 1 else if σ.1 4 ((p + 3) % 5 + 1) = 2 then (p + 3) % 5 + 1 else if σ.1 4 ((p + 4) % 5 + 1) = 2 then (p + 4) % 5 + 1 else 0
def sp_kill (σ : kS) (x : Int32) : kX := inr x 1 5 fun p => req (p != 1) eUO <| match (p == σ.1 11 0) with
  | true => req (nxr σ (σ.1 11 0) != 0) eIS <| rOk (inuse (st (m_run σ (nxr σ (σ.1 11 0))) 4 p 5) p) (st (m_run σ (nxr σ (σ.1 11 0))) 4 p 5)
  | false => req (mlive σ p) eIS <| rOk (inuse (st σ 4 p 5) p) (st σ 4 p 5)
def mhas (σ : kS) (p : Nat) : Bool := decide (1 < owned σ p) || filled σ (σ.1 6 p - 1) != 0 || inuse σ p != 0
/-- the children of p go to process 1 -/
def mv (σ : kS) (p : Nat) : Nat → kS
  | 0 => σ
  | n + 1 => if n ≠ 0 ∧ (mv σ p n).1 5 n = p then st (mv σ p n) 5 n 1 else mv σ p n
def mvn (σ : kS) (p : Nat) : Nat → Nat
  | 0 => 0
  | n + 1 => mvn σ p n + (if n ≠ 0 ∧ (mv σ p n).1 5 n = p then 1 else 0)
def sp_reap (σ : kS) (x : Int32) : kX := inr x 1 5 fun p => req (mchild σ p 5) eIS <| req (!mhas σ p) eIS <| rOk (mvn (m_begin (m_become σ (σ.1 6 p - 1) 0 0) p 0 0 0) p 6) (mv (m_begin (m_become σ (σ.1 6 p - 1) 0 0) p 0 0 0) p 6)
def sp_open (σ : kS) (x y z : Int32) : kX := inr x 1 5 fun p => inr y 0 3 fun d => inr z 0 2 fun i => req (mine σ p) eUO <| req (σ.1 7 (p * 4 + d) == 0) eIS <| req (cof σ i == 0) eIS <| rOk (cof (st (st σ 10 i 0) 7 (p * 4 + d) (i + 1)) i) (st (st σ 10 i 0) 7 (p * 4 + d) (i + 1))
def sp_share (σ : kS) (x y z : Int32) : kX := inr x 0 3 fun o => inr y 1 5 fun p => inr z 0 3 fun d => req (mine σ p) eUO <| req (σ.1 7 (σ.1 11 0 * 4 + o) != 0) eNS <| req (σ.1 7 (p * 4 + d) == 0) eIS <| rOk (cof (st σ 7 (p * 4 + d) (σ.1 7 (σ.1 11 0 * 4 + o) - 1 + 1)) (σ.1 7 (σ.1 11 0 * 4 + o) - 1)) (st σ 7 (p * 4 + d) (σ.1 7 (σ.1 11 0 * 4 + o) - 1 + 1))
def sp_close (σ : kS) (x y : Int32) : kX := inr x 1 5 fun p => inr y 0 3 fun d => req (mine σ p) eUO <| req (σ.1 7 (p * 4 + d) != 0) eNS <| rOk (cof (st σ 7 (p * 4 + d) 0) (σ.1 7 (p * 4 + d) - 1)) (st σ 7 (p * 4 + d) 0)
/-- the table entry, the frame entry of an address of the caller; the frame with a right -/
def te (σ : kS) (a : Nat) : Nat := (σ.1 6 (σ.1 11 0) - 1) * 4 + a / 16
def tb (σ : kS) (a : Nat) : Nat := σ.1 2 (te σ a)
def fe (σ : kS) (a : Nat) : Nat := (tb σ a - 1) * 4 + a / 4 % 4
def fr (σ : kS) (a : Nat) : Nat := σ.1 2 (fe σ a)
def rgt (σ : kS) (a q : Nat) : Nat := σ.1 3 (te σ a) &&& σ.1 3 (fe σ a) &&& q
def wit {α : Type} (σ : kS) (a q : Nat) (k : Except String α) : Except String α := req (tb σ a != 0) eNS <| req (fr σ a != 0) eNS <| req (rgt σ a q != 0) eUO k
def wd (σ : kS) (a : Nat) : Nat := (fr σ a - 1) * 4 + a % 4
def sp_put (σ : kS) (x y : Int32) : kX := inr x 0 3 fun d => inr y 0 63 fun a => req (σ.1 7 (σ.1 11 0 * 4 + d) != 0) eNS <| wit σ a 1 <| req (σ.1 10 (σ.1 7 (σ.1 11 0 * 4 + d) - 1) != 4) eIS <| rOk (σ.1 10 (σ.1 7 (σ.1 11 0 * 4 + d) - 1) + 1) (st (sw σ 1 ((σ.1 7 (σ.1 11 0 * 4 + d) - 1) * 4 + σ.1 10 (σ.1 7 (σ.1 11 0 * 4 + d) - 1)) (σ.2 0 (wd σ a))) 10 (σ.1 7 (σ.1 11 0 * 4 + d) - 1) (σ.1 10 (σ.1 7 (σ.1 11 0 * 4 + d) - 1) + 1))
/-- the ints of pipe i, from place 0 to n, one place down -/
def sh (σ : kS) (i : Nat) : Nat → kS
  | 0 => σ
  | n + 1 => sw (sh σ i n) 1 (i * 4 + n) ((sh σ i n).2 1 (i * 4 + n + 1))
def m_rem (σ : kS) (i : Nat) : kS := sh (st σ 10 i (σ.1 10 i - 1)) i (σ.1 10 i - 1)
def sp_take (σ : kS) (x y : Int32) : kX := inr x 0 3 fun d => inr y 0 63 fun a => req (σ.1 7 (σ.1 11 0 * 4 + d) != 0) eNS <| wit σ a 2 <| req (σ.1 10 (σ.1 7 (σ.1 11 0 * 4 + d) - 1) != 0) eIS <| .ok (some (.int (σ.2 1 ((σ.1 7 (σ.1 11 0 * 4 + d) - 1) * 4))), sw (m_rem σ (σ.1 7 (σ.1 11 0 * 4 + d) - 1)) 0 (wd σ a) (σ.2 1 ((σ.1 7 (σ.1 11 0 * 4 + d) - 1) * 4)))
def sp_read (σ : kS) (y : Int32) : kX := inr y 0 63 fun a => wit σ a 1 <| .ok (some (.int (σ.2 0 (wd σ a))), σ)
def sp_write (σ : kS) (y v : Int32) : kX := inr y 0 63 fun a => wit σ a 2 <| .ok (some (.int (σ.2 0 (wd σ a))), sw σ 0 (wd σ a) v)
def sp_expect (σ : kS) (x y : Int32) : kX := inr x 1 5 fun p => inr y 0 63 fun a => req (σ.1 4 p == 2) eIS <| req (tb σ a != 0) eNS <| req (fr σ a == 0) eUO <| rOk p (m_run (st (st (st σ 4 (σ.1 11 0) 4) 8 (σ.1 11 0) (tb σ a - 1)) 9 (σ.1 11 0) (a / 4 % 4)) p)
def sp_send (σ : kS) (x y : Int32) : kX := inr x 1 5 fun p => inr y 0 63 fun a => req (σ.1 4 p == 4) eIS <| req (tb σ a != 0) eNS <| req (fr σ a != 0) eNS <| rOk (fr σ a - 1) (st (st (m_setEntry (m_clearEntry σ (tb σ a - 1) (a / 4 % 4)) (σ.1 8 p) (σ.1 9 p) (fr σ a) (σ.1 3 (fe σ a))) 1 (fr σ a - 1) p) 4 p 2)
def sp_process (σ : kS) (x y : Int32) : kX := inr x 1 5 fun p => inr y 0 4 fun k => match k with
  | 0 => rOk (σ.1 4 p) σ
  | 1 => rOk (σ.1 5 p) σ
  | 2 => .ok (some (.int (pI (σ.1 6 p))), σ)
  | 3 => rOk (owned σ p) σ
  | _ => rOk (inuse σ p) σ
def sp_page (σ : kS) (x y : Int32) : kX := inr x 0 19 fun g => inr y 0 2 fun k => match k with
  | 0 => rOk (σ.1 0 g) σ
  | 1 => rOk (σ.1 1 g) σ
  | _ => rOk (filled σ g) σ
def pin (σ : kS) : Nat → Nat
  | 0 => 0
  | n + 1 => pin σ n + (if cof σ n = 0 then 0 else σ.1 10 n)
def sp_count (σ : kS) (y : Int32) : kX := inr y 0 3 fun k => match k with
  | 0 => rOk (σ.1 11 0) σ
  | 1 => rOk (owned σ 0) σ
  | 2 => rOk (live σ) σ
  | _ => rOk (pin σ 3) σ
theorem te_lt {σ : kS} (ok : kOk σ) (a : Nat) (ha : a < 64) : te σ a < 80 := by
  have h := ok.2.2.2.2.2.1 (σ.1 11 0) ok.2.2.2.2.2.2.2.2.2.2.2.1.2
  unfold te
  omega
theorem kOk.tbl {σ : kS} (ok : kOk σ) (a : Nat) (ha : a < 64) : tb σ a < 21 := ok.2.1 _ (te_lt ok a ha)
theorem fe_lt {σ : kS} (ok : kOk σ) (a : Nat) (ha : a < 64) : fe σ a < 80 := by
  have h := ok.tbl a ha
  unfold fe
  omega
theorem kOk.frl {σ : kS} (ok : kOk σ) (a : Nat) (ha : a < 64) (_ : tb σ a ≠ 0) : fr σ a < 21 := ok.2.1 _ (fe_lt ok a ha)
theorem mv_t {σ : kS} {p n : Nat} (h0 : n ≠ 0) (h : (mv σ p n).1 5 n = p) : mv σ p (n + 1) = st (mv σ p n) 5 n 1 ∧ mvn σ p (n + 1) = mvn σ p n + 1 := by
  constructor
  · simp [mv, h0, h]
  · simp [mvn, h0, h]
theorem mv_f {σ : kS} {p n : Nat} (h : (mv σ p n).1 5 n ≠ p) : mv σ p (n + 1) = mv σ p n ∧ mvn σ p (n + 1) = mvn σ p n := by
  constructor
  · simp [mv, h]
  · simp [mvn, h]
theorem mv_b5 {σ : kS} (p : Nat) (hb : ∀ i, i < 6 → σ.1 5 i < 2 ^ 30) : ∀ n i, i < 6 → (mv σ p n).1 5 i < 2 ^ 30
  | 0, i, hi => hb i hi
  | n + 1, i, hi => by
    have h1 := mv_b5 p hb n i hi
    unfold mv
    split
    · show va_up ((mv σ p n).1 5) n 1 i < _
      unfold va_up
      split
      · decide
      · exact h1
    · exact h1
theorem sh_1 (σ : kS) (i : Nat) : ∀ n, (sh σ i n).1 = σ.1
  | 0 => rfl
  | n + 1 => sh_1 σ i n
theorem nxr_lt (σ : kS) (p : Nat) : nxr σ p < 6 := by
  unfold nxr
  repeat' split
  all_goals omega
theorem kq_e {S : Type} {B : S → State → State → Prop} {l : Launch} {y : MethodName} {w : Cond} {rm : Room} {as : List Value} {Pre : State → Prop} {r0 : Except String (Option Value × S)} {E : String} (h : r0 = .error E) (hM : kMet l y w rm as Pre r0 B) : kMet l y w rm as Pre (.error E) B := by subst h; exact hM
theorem kq_o {S : Type} {B : S → State → State → Prop} {l : Launch} {y : MethodName} {w : Cond} {rm : Room} {as : List Value} {Pre : State → Prop} {r0 : Except String (Option Value × S)} {v : Option Value} {u : S} (h : r0 = .ok (v, u)) (hM : kMet l y w rm as Pre r0 B) : kMet l y w rm as Pre (.ok (v, u)) B := by subst h; exact hM
theorem inr_ok {α : Type} {x : Int32} {lo hi : Nat} {k : Nat → Except String α} {z : α} (h : inr x lo hi k = .ok z) : ∃ p, rg x lo hi = some p ∧ k p = .ok z := by
  unfold inr at h
  split at h
  · next p hp => exact ⟨p, hp, h⟩
  · cases h
theorem req_ok {α : Type} {c : Bool} {E : String} {k : Except String α} {z : α} (h : req c E k = .ok z) : c = true ∧ k = .ok z := by
  cases c
  · cases h
  · exact ⟨rfl, h⟩
theorem sp_fill_v {hk : Nat} {σ : kS} {x y z w : Int32} {v : Option Value} {u : kS} (h : sp_fill hk σ x y z w = .ok (v, u)) : v = some (.int (nI 1)) := by
  unfold sp_fill at h
  obtain ⟨_, -, h⟩ := inr_ok h
  obtain ⟨_, -, h⟩ := inr_ok h
  obtain ⟨_, -, h⟩ := inr_ok h
  obtain ⟨_, -, h⟩ := inr_ok h
  obtain ⟨-, h⟩ := req_ok h
  obtain ⟨-, h⟩ := req_ok h
  obtain ⟨-, h⟩ := req_ok h
  cases h
  rfl
theorem b5_begin {σ : kS} (ok : kOk σ) {g p : Nat} : ∀ i, i < 6 → (m_begin (m_become σ g 0 0) p 0 0 0).1 5 i < 2 ^ 30 := by
  intro i hi
  show va_up (σ.1 5) p 0 i < _
  unfold va_up
  split
  · decide
  · exact ok.b5 i hi
theorem rg_of {x : Int32} {lo hi : Nat} (h1 : lo < 2 ^ 30) (h2 : hi < 2 ^ 30) (ha : ¬ x < nI lo) (hb : x ≤ nI hi) : ∃ p, rg x lo hi = some p := by
  rw [Int32.lt_iff_toInt_lt, nI_toInt (by omega)] at ha
  rw [Int32.le_iff_toInt_le, nI_toInt (by omega)] at hb
  exact ⟨_, by unfold rg; rw [if_pos (by omega)]⟩
theorem rg_lo {x : Int32} {lo hi : Nat} (h1 : lo < 2 ^ 30) (ha : x < nI lo) : rg x lo hi = none := by
  rw [Int32.lt_iff_toInt_lt, nI_toInt (by omega)] at ha
  unfold rg
  rw [if_neg (by omega)]
theorem rg_hi {x : Int32} {lo hi : Nat} (h2 : hi < 2 ^ 30) (hb : ¬ x ≤ nI hi) : rg x lo hi = none := by
  rw [Int32.le_iff_toInt_le, nI_toInt (by omega)] at hb
  unfold rg
  rw [if_neg (by omega)]
end
section
theorem np_FK_init : (parseMethodDescriptor y_FK_init.desc).map (fun d => d.parameters.length) = some 0 := by decide +kernel
theorem np_Mem_init : (parseMethodDescriptor y_Mem_init.desc).map (fun d => d.parameters.length) = some 0 := by decide +kernel
theorem np_Mem_setFree : (parseMethodDescriptor y_Mem_setFree.desc).map (fun d => d.parameters.length) = some 1 := by decide +kernel
theorem np_Mem_become : (parseMethodDescriptor y_Mem_become.desc).map (fun d => d.parameters.length) = some 3 := by decide +kernel
theorem np_Mem_clearEntry : (parseMethodDescriptor y_Mem_clearEntry.desc).map (fun d => d.parameters.length) = some 2 := by decide +kernel
theorem np_Mem_setEntry : (parseMethodDescriptor y_Mem_setEntry.desc).map (fun d => d.parameters.length) = some 4 := by decide +kernel
theorem np_Mem_setWord : (parseMethodDescriptor y_Mem_setWord.desc).map (fun d => d.parameters.length) = some 3 := by decide +kernel
theorem np_Pro_init : (parseMethodDescriptor y_Pro_init.desc).map (fun d => d.parameters.length) = some 0 := by decide +kernel
theorem np_Pro_end : (parseMethodDescriptor y_Pro_end.desc).map (fun d => d.parameters.length) = some 1 := by decide +kernel
theorem np_Pro_begin : (parseMethodDescriptor y_Pro_begin.desc).map (fun d => d.parameters.length) = some 4 := by decide +kernel
theorem np_Pro_setPipe : (parseMethodDescriptor y_Pro_setPipe.desc).map (fun d => d.parameters.length) = some 3 := by decide +kernel
theorem np_Pip_init : (parseMethodDescriptor y_Pip_init.desc).map (fun d => d.parameters.length) = some 0 := by decide +kernel
theorem np_Law_spawn : (parseMethodDescriptor y_Law_spawn.desc).map (fun d => d.parameters.length) = some 4 := by decide +kernel
theorem np_FK_spawn : (parseMethodDescriptor y_FK_spawn.desc).map (fun d => d.parameters.length) = some 2 := by decide +kernel
theorem np_FK_checkProcess : (parseMethodDescriptor y_FK_checkProcess.desc).map (fun d => d.parameters.length) = some 1 := by decide +kernel
theorem np_FK_checkWithin : (parseMethodDescriptor y_FK_checkWithin.desc).map (fun d => d.parameters.length) = some 3 := by decide +kernel
theorem np_FK_checkPage : (parseMethodDescriptor y_FK_checkPage.desc).map (fun d => d.parameters.length) = some 1 := by decide +kernel
theorem np_Pro_stateOf : (parseMethodDescriptor y_Pro_stateOf.desc).map (fun d => d.parameters.length) = some 1 := by decide +kernel
theorem np_FK_checkPageIsFree : (parseMethodDescriptor y_FK_checkPageIsFree.desc).map (fun d => d.parameters.length) = some 1 := by decide +kernel
theorem np_Mem_kindOf : (parseMethodDescriptor y_Mem_kindOf.desc).map (fun d => d.parameters.length) = some 1 := by decide +kernel
theorem np_Law_table : (parseMethodDescriptor y_Law_table.desc).map (fun d => d.parameters.length) = some 6 := by decide +kernel
theorem np_FK_table : (parseMethodDescriptor y_FK_table.desc).map (fun d => d.parameters.length) = some 4 := by decide +kernel
theorem np_FK_fillEntry : (parseMethodDescriptor y_FK_fillEntry.desc).map (fun d => d.parameters.length) = some 5 := by decide +kernel
theorem np_FK_checkEntry : (parseMethodDescriptor y_FK_checkEntry.desc).map (fun d => d.parameters.length) = some 1 := by decide +kernel
theorem np_FK_checkRights : (parseMethodDescriptor y_FK_checkRights.desc).map (fun d => d.parameters.length) = some 1 := by decide +kernel
theorem np_FK_isMyPage : (parseMethodDescriptor y_FK_isMyPage.desc).map (fun d => d.parameters.length) = some 2 := by decide +kernel
theorem np_Mem_ownerOf : (parseMethodDescriptor y_Mem_ownerOf.desc).map (fun d => d.parameters.length) = some 1 := by decide +kernel
theorem np_FK_isMine : (parseMethodDescriptor y_FK_isMine.desc).map (fun d => d.parameters.length) = some 1 := by decide +kernel
theorem np_FK_isMyChild : (parseMethodDescriptor y_FK_isMyChild.desc).map (fun d => d.parameters.length) = some 2 := by decide +kernel
theorem np_Pro_parentOf : (parseMethodDescriptor y_Pro_parentOf.desc).map (fun d => d.parameters.length) = some 1 := by decide +kernel
theorem np_Mem_pageIn : (parseMethodDescriptor y_Mem_pageIn.desc).map (fun d => d.parameters.length) = some 2 := by decide +kernel
theorem np_Law_frame : (parseMethodDescriptor y_Law_frame.desc).map (fun d => d.parameters.length) = some 6 := by decide +kernel
theorem np_FK_frame : (parseMethodDescriptor y_FK_frame.desc).map (fun d => d.parameters.length) = some 4 := by decide +kernel
theorem np_Law_protect : (parseMethodDescriptor y_Law_protect.desc).map (fun d => d.parameters.length) = some 5 := by decide +kernel
theorem np_FK_protect : (parseMethodDescriptor y_FK_protect.desc).map (fun d => d.parameters.length) = some 3 := by decide +kernel
theorem np_FK_checkMyEntryIsFilled : (parseMethodDescriptor y_FK_checkMyEntryIsFilled.desc).map (fun d => d.parameters.length) = some 2 := by decide +kernel
theorem np_Mem_rightsIn : (parseMethodDescriptor y_Mem_rightsIn.desc).map (fun d => d.parameters.length) = some 2 := by decide +kernel
theorem np_Law_copy : (parseMethodDescriptor y_Law_copy.desc).map (fun d => d.parameters.length) = some 4 := by decide +kernel
theorem np_FK_copy : (parseMethodDescriptor y_FK_copy.desc).map (fun d => d.parameters.length) = some 2 := by decide +kernel
theorem np_Mem_copyWords : (parseMethodDescriptor y_Mem_copyWords.desc).map (fun d => d.parameters.length) = some 2 := by decide +kernel
theorem np_Mem_word : (parseMethodDescriptor y_Mem_word.desc).map (fun d => d.parameters.length) = some 2 := by decide +kernel
theorem np_Law_release : (parseMethodDescriptor y_Law_release.desc).map (fun d => d.parameters.length) = some 4 := by decide +kernel
theorem np_FK_release : (parseMethodDescriptor y_FK_release.desc).map (fun d => d.parameters.length) = some 2 := by decide +kernel
theorem np_Mem_filledEntries : (parseMethodDescriptor y_Mem_filledEntries.desc).map (fun d => d.parameters.length) = some 1 := by decide +kernel
theorem np_Law_start : (parseMethodDescriptor y_Law_start.desc).map (fun d => d.parameters.length) = some 3 := by decide +kernel
theorem np_FK_start : (parseMethodDescriptor y_FK_start.desc).map (fun d => d.parameters.length) = some 1 := by decide +kernel
theorem np_Pro_setState : (parseMethodDescriptor y_Pro_setState.desc).map (fun d => d.parameters.length) = some 2 := by decide +kernel
theorem np_Law_give : (parseMethodDescriptor y_Law_give.desc).map (fun d => d.parameters.length) = some 3 := by decide +kernel
theorem np_FK_give : (parseMethodDescriptor y_FK_give.desc).map (fun d => d.parameters.length) = some 1 := by decide +kernel
theorem np_FK_checkIsReady : (parseMethodDescriptor y_FK_checkIsReady.desc).map (fun d => d.parameters.length) = some 1 := by decide +kernel
theorem np_FK_run : (parseMethodDescriptor y_FK_run.desc).map (fun d => d.parameters.length) = some 1 := by decide +kernel
theorem np_Law_kill : (parseMethodDescriptor y_Law_kill.desc).map (fun d => d.parameters.length) = some 3 := by decide +kernel
theorem np_FK_kill : (parseMethodDescriptor y_FK_kill.desc).map (fun d => d.parameters.length) = some 1 := by decide +kernel
theorem np_FK_handOverToNextReady : (parseMethodDescriptor y_FK_handOverToNextReady.desc).map (fun d => d.parameters.length) = some 0 := by decide +kernel
theorem np_Pro_nextReady : (parseMethodDescriptor y_Pro_nextReady.desc).map (fun d => d.parameters.length) = some 1 := by decide +kernel
theorem np_FK_isMyLivingChild : (parseMethodDescriptor y_FK_isMyLivingChild.desc).map (fun d => d.parameters.length) = some 1 := by decide +kernel
theorem np_Pro_descriptorsInUse : (parseMethodDescriptor y_Pro_descriptorsInUse.desc).map (fun d => d.parameters.length) = some 1 := by decide +kernel
theorem np_Pro_pipeOf : (parseMethodDescriptor y_Pro_pipeOf.desc).map (fun d => d.parameters.length) = some 2 := by decide +kernel
theorem np_Law_reap : (parseMethodDescriptor y_Law_reap.desc).map (fun d => d.parameters.length) = some 3 := by decide +kernel
theorem np_FK_reap : (parseMethodDescriptor y_FK_reap.desc).map (fun d => d.parameters.length) = some 1 := by decide +kernel
theorem np_FK_holdsMoreThanRoot : (parseMethodDescriptor y_FK_holdsMoreThanRoot.desc).map (fun d => d.parameters.length) = some 1 := by decide +kernel
theorem np_Mem_pagesOf : (parseMethodDescriptor y_Mem_pagesOf.desc).map (fun d => d.parameters.length) = some 1 := by decide +kernel
theorem np_Pro_rootOf : (parseMethodDescriptor y_Pro_rootOf.desc).map (fun d => d.parameters.length) = some 1 := by decide +kernel
theorem np_Pro_moveChildren : (parseMethodDescriptor y_Pro_moveChildren.desc).map (fun d => d.parameters.length) = some 2 := by decide +kernel
theorem np_Law_open : (parseMethodDescriptor y_Law_open.desc).map (fun d => d.parameters.length) = some 5 := by decide +kernel
theorem np_FK_open : (parseMethodDescriptor y_FK_open.desc).map (fun d => d.parameters.length) = some 3 := by decide +kernel
theorem np_FK_checkDescriptor : (parseMethodDescriptor y_FK_checkDescriptor.desc).map (fun d => d.parameters.length) = some 1 := by decide +kernel
theorem np_FK_checkPipe : (parseMethodDescriptor y_FK_checkPipe.desc).map (fun d => d.parameters.length) = some 1 := by decide +kernel
theorem np_FK_checkIsMine : (parseMethodDescriptor y_FK_checkIsMine.desc).map (fun d => d.parameters.length) = some 1 := by decide +kernel
theorem np_FK_checkDescriptorIsUnused : (parseMethodDescriptor y_FK_checkDescriptorIsUnused.desc).map (fun d => d.parameters.length) = some 2 := by decide +kernel
theorem np_Pro_descriptorsOfPipe : (parseMethodDescriptor y_Pro_descriptorsOfPipe.desc).map (fun d => d.parameters.length) = some 1 := by decide +kernel
theorem np_Pip_makeEmpty : (parseMethodDescriptor y_Pip_makeEmpty.desc).map (fun d => d.parameters.length) = some 1 := by decide +kernel
theorem np_FK_connect : (parseMethodDescriptor y_FK_connect.desc).map (fun d => d.parameters.length) = some 3 := by decide +kernel
theorem np_Law_share : (parseMethodDescriptor y_Law_share.desc).map (fun d => d.parameters.length) = some 5 := by decide +kernel
theorem np_FK_share : (parseMethodDescriptor y_FK_share.desc).map (fun d => d.parameters.length) = some 3 := by decide +kernel
theorem np_FK_pipeBehind : (parseMethodDescriptor y_FK_pipeBehind.desc).map (fun d => d.parameters.length) = some 2 := by decide +kernel
theorem np_Law_close : (parseMethodDescriptor y_Law_close.desc).map (fun d => d.parameters.length) = some 4 := by decide +kernel
theorem np_FK_close : (parseMethodDescriptor y_FK_close.desc).map (fun d => d.parameters.length) = some 2 := by decide +kernel
theorem np_Law_put : (parseMethodDescriptor y_Law_put.desc).map (fun d => d.parameters.length) = some 4 := by decide +kernel
theorem np_FK_put : (parseMethodDescriptor y_FK_put.desc).map (fun d => d.parameters.length) = some 2 := by decide +kernel
theorem np_FK_checkAddress : (parseMethodDescriptor y_FK_checkAddress.desc).map (fun d => d.parameters.length) = some 1 := by decide +kernel
theorem np_FK_frameWithRight : (parseMethodDescriptor y_FK_frameWithRight.desc).map (fun d => d.parameters.length) = some 2 := by decide +kernel
theorem np_FK_frameAt : (parseMethodDescriptor y_FK_frameAt.desc).map (fun d => d.parameters.length) = some 1 := by decide +kernel
theorem np_FK_tableAt : (parseMethodDescriptor y_FK_tableAt.desc).map (fun d => d.parameters.length) = some 1 := by decide +kernel
theorem np_FK_tableEntryOf : (parseMethodDescriptor y_FK_tableEntryOf.desc).map (fun d => d.parameters.length) = some 1 := by decide +kernel
theorem np_FK_frameEntryOf : (parseMethodDescriptor y_FK_frameEntryOf.desc).map (fun d => d.parameters.length) = some 1 := by decide +kernel
theorem np_Pip_held : (parseMethodDescriptor y_Pip_held.desc).map (fun d => d.parameters.length) = some 1 := by decide +kernel
theorem np_FK_wordOf : (parseMethodDescriptor y_FK_wordOf.desc).map (fun d => d.parameters.length) = some 1 := by decide +kernel
theorem np_Pip_append : (parseMethodDescriptor y_Pip_append.desc).map (fun d => d.parameters.length) = some 2 := by decide +kernel
theorem np_Law_take : (parseMethodDescriptor y_Law_take.desc).map (fun d => d.parameters.length) = some 4 := by decide +kernel
theorem np_FK_take : (parseMethodDescriptor y_FK_take.desc).map (fun d => d.parameters.length) = some 2 := by decide +kernel
theorem np_Pip_removeFirst : (parseMethodDescriptor y_Pip_removeFirst.desc).map (fun d => d.parameters.length) = some 1 := by decide +kernel
theorem np_Law_read : (parseMethodDescriptor y_Law_read.desc).map (fun d => d.parameters.length) = some 3 := by decide +kernel
theorem np_FK_read : (parseMethodDescriptor y_FK_read.desc).map (fun d => d.parameters.length) = some 1 := by decide +kernel
theorem np_Law_write : (parseMethodDescriptor y_Law_write.desc).map (fun d => d.parameters.length) = some 4 := by decide +kernel
theorem np_FK_write : (parseMethodDescriptor y_FK_write.desc).map (fun d => d.parameters.length) = some 2 := by decide +kernel
theorem np_Law_expect : (parseMethodDescriptor y_Law_expect.desc).map (fun d => d.parameters.length) = some 4 := by decide +kernel
theorem np_FK_expect : (parseMethodDescriptor y_FK_expect.desc).map (fun d => d.parameters.length) = some 2 := by decide +kernel
theorem np_Pro_await : (parseMethodDescriptor y_Pro_await.desc).map (fun d => d.parameters.length) = some 3 := by decide +kernel
theorem np_Law_send : (parseMethodDescriptor y_Law_send.desc).map (fun d => d.parameters.length) = some 4 := by decide +kernel
theorem np_FK_send : (parseMethodDescriptor y_FK_send.desc).map (fun d => d.parameters.length) = some 2 := by decide +kernel
theorem np_Pro_awaitedTable : (parseMethodDescriptor y_Pro_awaitedTable.desc).map (fun d => d.parameters.length) = some 1 := by decide +kernel
theorem np_Pro_awaitedEntry : (parseMethodDescriptor y_Pro_awaitedEntry.desc).map (fun d => d.parameters.length) = some 1 := by decide +kernel
theorem np_Mem_setOwner : (parseMethodDescriptor y_Mem_setOwner.desc).map (fun d => d.parameters.length) = some 2 := by decide +kernel
theorem np_Law_process : (parseMethodDescriptor y_Law_process.desc).map (fun d => d.parameters.length) = some 4 := by decide +kernel
theorem np_FK_process : (parseMethodDescriptor y_FK_process.desc).map (fun d => d.parameters.length) = some 2 := by decide +kernel
theorem np_Law_page : (parseMethodDescriptor y_Law_page.desc).map (fun d => d.parameters.length) = some 4 := by decide +kernel
theorem np_FK_page : (parseMethodDescriptor y_FK_page.desc).map (fun d => d.parameters.length) = some 2 := by decide +kernel
theorem np_Law_count : (parseMethodDescriptor y_Law_count.desc).map (fun d => d.parameters.length) = some 3 := by decide +kernel
theorem np_FK_count : (parseMethodDescriptor y_FK_count.desc).map (fun d => d.parameters.length) = some 1 := by decide +kernel
theorem np_Pro_notFree : (parseMethodDescriptor y_Pro_notFree.desc).map (fun d => d.parameters.length) = some 0 := by decide +kernel
theorem np_FK_intsInOpenPipes : (parseMethodDescriptor y_FK_intsInOpenPipes.desc).map (fun d => d.parameters.length) = some 0 := by decide +kernel
theorem np_Mod_init : (parseMethodDescriptor y_Mod_init.desc).map (fun d => d.parameters.length) = some 0 := by decide +kernel
theorem np_Mod_thrown : (parseMethodDescriptor y_Mod_thrown.desc).map (fun d => d.parameters.length) = some 0 := by decide +kernel
theorem np_Mod_spawn : (parseMethodDescriptor y_Mod_spawn.desc).map (fun d => d.parameters.length) = some 2 := by decide +kernel
theorem np_Mod_isProcess : (parseMethodDescriptor y_Mod_isProcess.desc).map (fun d => d.parameters.length) = some 1 := by decide +kernel
theorem np_Mod_in : (parseMethodDescriptor y_Mod_in.desc).map (fun d => d.parameters.length) = some 3 := by decide +kernel
theorem np_Mod_isPage : (parseMethodDescriptor y_Mod_isPage.desc).map (fun d => d.parameters.length) = some 1 := by decide +kernel
theorem np_Mod_raise : (parseMethodDescriptor y_Mod_raise.desc).map (fun d => d.parameters.length) = some 1 := by decide +kernel
theorem np_Mod_become : (parseMethodDescriptor y_Mod_become.desc).map (fun d => d.parameters.length) = some 3 := by decide +kernel
theorem np_Mod_table : (parseMethodDescriptor y_Mod_table.desc).map (fun d => d.parameters.length) = some 4 := by decide +kernel
theorem np_Mod_hang : (parseMethodDescriptor y_Mod_hang.desc).map (fun d => d.parameters.length) = some 5 := by decide +kernel
theorem np_Mod_minePage : (parseMethodDescriptor y_Mod_minePage.desc).map (fun d => d.parameters.length) = some 2 := by decide +kernel
theorem np_Mod_mine : (parseMethodDescriptor y_Mod_mine.desc).map (fun d => d.parameters.length) = some 1 := by decide +kernel
theorem np_Mod_frame : (parseMethodDescriptor y_Mod_frame.desc).map (fun d => d.parameters.length) = some 4 := by decide +kernel
theorem np_Mod_protect : (parseMethodDescriptor y_Mod_protect.desc).map (fun d => d.parameters.length) = some 3 := by decide +kernel
theorem np_Mod_holder : (parseMethodDescriptor y_Mod_holder.desc).map (fun d => d.parameters.length) = some 1 := by decide +kernel
theorem np_Mod_copy : (parseMethodDescriptor y_Mod_copy.desc).map (fun d => d.parameters.length) = some 2 := by decide +kernel
theorem np_Mod_release : (parseMethodDescriptor y_Mod_release.desc).map (fun d => d.parameters.length) = some 2 := by decide +kernel
theorem np_Mod_filled : (parseMethodDescriptor y_Mod_filled.desc).map (fun d => d.parameters.length) = some 1 := by decide +kernel
theorem np_Mod_start : (parseMethodDescriptor y_Mod_start.desc).map (fun d => d.parameters.length) = some 1 := by decide +kernel
theorem np_Mod_give : (parseMethodDescriptor y_Mod_give.desc).map (fun d => d.parameters.length) = some 1 := by decide +kernel
theorem np_Mod_hand : (parseMethodDescriptor y_Mod_hand.desc).map (fun d => d.parameters.length) = some 2 := by decide +kernel
theorem np_Mod_kill : (parseMethodDescriptor y_Mod_kill.desc).map (fun d => d.parameters.length) = some 1 := by decide +kernel
theorem np_Mod_nextReady : (parseMethodDescriptor y_Mod_nextReady.desc).map (fun d => d.parameters.length) = some 1 := by decide +kernel
theorem np_Mod_descriptors : (parseMethodDescriptor y_Mod_descriptors.desc).map (fun d => d.parameters.length) = some 1 := by decide +kernel
theorem np_Mod_reap : (parseMethodDescriptor y_Mod_reap.desc).map (fun d => d.parameters.length) = some 1 := by decide +kernel
theorem np_Mod_owned : (parseMethodDescriptor y_Mod_owned.desc).map (fun d => d.parameters.length) = some 1 := by decide +kernel
theorem np_Mod_open : (parseMethodDescriptor y_Mod_open.desc).map (fun d => d.parameters.length) = some 3 := by decide +kernel
theorem np_Mod_countOf : (parseMethodDescriptor y_Mod_countOf.desc).map (fun d => d.parameters.length) = some 1 := by decide +kernel
theorem np_Mod_share : (parseMethodDescriptor y_Mod_share.desc).map (fun d => d.parameters.length) = some 3 := by decide +kernel
theorem np_Mod_close : (parseMethodDescriptor y_Mod_close.desc).map (fun d => d.parameters.length) = some 2 := by decide +kernel
theorem np_Mod_put : (parseMethodDescriptor y_Mod_put.desc).map (fun d => d.parameters.length) = some 2 := by decide +kernel
theorem np_Mod_walk : (parseMethodDescriptor y_Mod_walk.desc).map (fun d => d.parameters.length) = some 2 := by decide +kernel
theorem np_Mod_frameEntry : (parseMethodDescriptor y_Mod_frameEntry.desc).map (fun d => d.parameters.length) = some 2 := by decide +kernel
theorem np_Mod_take : (parseMethodDescriptor y_Mod_take.desc).map (fun d => d.parameters.length) = some 2 := by decide +kernel
theorem np_Mod_read : (parseMethodDescriptor y_Mod_read.desc).map (fun d => d.parameters.length) = some 1 := by decide +kernel
theorem np_Mod_write : (parseMethodDescriptor y_Mod_write.desc).map (fun d => d.parameters.length) = some 2 := by decide +kernel
theorem np_Mod_expect : (parseMethodDescriptor y_Mod_expect.desc).map (fun d => d.parameters.length) = some 2 := by decide +kernel
theorem np_Mod_send : (parseMethodDescriptor y_Mod_send.desc).map (fun d => d.parameters.length) = some 2 := by decide +kernel
theorem np_Mod_process : (parseMethodDescriptor y_Mod_process.desc).map (fun d => d.parameters.length) = some 2 := by decide +kernel
theorem np_Mod_page : (parseMethodDescriptor y_Mod_page.desc).map (fun d => d.parameters.length) = some 2 := by decide +kernel
theorem np_Mod_count : (parseMethodDescriptor y_Mod_count.desc).map (fun d => d.parameters.length) = some 1 := by decide +kernel
theorem np_Law_law : (parseMethodDescriptor y_Law_law.desc).map (fun d => d.parameters.length) = some 1 := by decide +kernel
end
section
/-! The leaves' contracts. Laid by a program of mine (wip/gen). -/
set_option maxHeartbeats 4000000 in
set_option maxRecDepth 100000 in
theorem c_Mem_kindOf {l : Launch} {s0 : State} {a0 : Array Value} {D : va_G} {cI cL : ClassId} (K0 : k0 l s0 a0 D cI cL) (ad : Nat → Nat) (r : va_W) (σ : kS) (g : Nat) (hg : g < 20) : kMet l y_Mem_kindOf (Cond.code y_Mem_kindOf b_Mem_kindOf 2 (some .int)) (rmL 0) [.ref (ad 1), .int (nI g)] (kPre D vwCl s0 (wC ad cI r) σ) (.ok (some (.int (nI (σ.1 0 g))), ())) kBr := by
  refine k_of (by decide) (Nat.le_of_ble_eq_true rfl) ?_
  intro p e9 s m below meth c hx hb hr hlocks hown hml hex hpre ls hl
  obtain ⟨hE, hP, hD⟩ := hpre
  obtain ⟨hts, hK⟩ := K0.at (args := ([.ref (ad 1), .int (nI g)] : List Value).toArray) hE
  have hl : lv_has ls 2 [(0, .ref (ad 1)), (1, .int (nI g))] := hl
  have hS : va_S (kA s0) s.heap s.heap [] := va_S.rf
  refine lv_aload_n hx hb d_Mem_kindOf_0 rfl (lv_at hl 0 rfl) ?_
  refine va_get (D := D) (ci := nMem) (v := .ref (ad 4)) (C := R_Mem) (T := T_Mem) (N := 5) hx hb hts i_Mem hown hK hP 1 rfl rfl 0 (by decide) (hts _ tw_47) (fun _ h9 => h9) rfl d_Mem_kindOf_1 ?_
  refine lv_iload_n hx hb d_Mem_kindOf_4 rfl (lv_at hl 1 rfl) ?_
  refine k_aldN (q0 := 4) (t0 := 0) hx hb hK hP rfl rfl (by omega) (by decide) d_Mem_kindOf_5 ?_
  exact k_retI hx hb hr hlocks d_Mem_kindOf_6 (rfl)
set_option maxHeartbeats 4000000 in
set_option maxRecDepth 100000 in
theorem c_Mem_ownerOf {l : Launch} {s0 : State} {a0 : Array Value} {D : va_G} {cI cL : ClassId} (K0 : k0 l s0 a0 D cI cL) (ad : Nat → Nat) (r : va_W) (σ : kS) (g : Nat) (hg : g < 20) : kMet l y_Mem_ownerOf (Cond.code y_Mem_ownerOf b_Mem_ownerOf 2 (some .int)) (rmL 0) [.ref (ad 1), .int (nI g)] (kPre D vwCl s0 (wC ad cI r) σ) (.ok (some (.int (nI (σ.1 1 g))), ())) kBr := by
  refine k_of (by decide) (Nat.le_of_ble_eq_true rfl) ?_
  intro p e9 s m below meth c hx hb hr hlocks hown hml hex hpre ls hl
  obtain ⟨hE, hP, hD⟩ := hpre
  obtain ⟨hts, hK⟩ := K0.at (args := ([.ref (ad 1), .int (nI g)] : List Value).toArray) hE
  have hl : lv_has ls 2 [(0, .ref (ad 1)), (1, .int (nI g))] := hl
  have hS : va_S (kA s0) s.heap s.heap [] := va_S.rf
  refine lv_aload_n hx hb d_Mem_ownerOf_0 rfl (lv_at hl 0 rfl) ?_
  refine va_get (D := D) (ci := nMem) (v := .ref (ad 5)) (C := R_Mem) (T := T_Mem) (N := 5) hx hb hts i_Mem hown hK hP 1 rfl rfl 1 (by decide) (hts _ tw_48) (fun _ h9 => h9) rfl d_Mem_ownerOf_1 ?_
  refine lv_iload_n hx hb d_Mem_ownerOf_4 rfl (lv_at hl 1 rfl) ?_
  refine k_aldN (q0 := 5) (t0 := 0) hx hb hK hP rfl rfl (by omega) (by decide) d_Mem_ownerOf_5 ?_
  exact k_retI hx hb hr hlocks d_Mem_ownerOf_6 (rfl)
set_option maxHeartbeats 4000000 in
set_option maxRecDepth 100000 in
theorem c_Mem_setOwner {l : Launch} {s0 : State} {a0 : Array Value} {D : va_G} {cI cL : ClassId} (K0 : k0 l s0 a0 D cI cL) (ad : Nat → Nat) (r : va_W) (σ : kS) (g : Nat) (o : Nat) (hg : g < 20) : kMet l y_Mem_setOwner (Cond.code y_Mem_setOwner b_Mem_setOwner 3 none) (rmL 0) [.ref (ad 1), .int (nI g), .int (nI o)] (kPre D vwCl s0 (wC ad cI r) σ) (.ok (none, st σ 1 g o)) (kBw D vwCl s0 (wC ad cI r)) := by
  refine k_of (by decide) (Nat.le_of_ble_eq_true rfl) ?_
  intro p e9 s m below meth c hx hb hr hlocks hown hml hex hpre ls hl
  obtain ⟨hE, hP, hD⟩ := hpre
  obtain ⟨hts, hK⟩ := K0.at (args := ([.ref (ad 1), .int (nI g), .int (nI o)] : List Value).toArray) hE
  have hl : lv_has ls 3 [(0, .ref (ad 1)), (1, .int (nI g)), (2, .int (nI o))] := hl
  have hS : va_S (kA s0) s.heap s.heap [] := va_S.rf
  refine lv_aload_n hx hb d_Mem_setOwner_0 rfl (lv_at hl 0 rfl) ?_
  refine va_get (D := D) (ci := nMem) (v := .ref (ad 5)) (C := R_Mem) (T := T_Mem) (N := 5) hx hb hts i_Mem hown hK hP 1 rfl rfl 1 (by decide) (hts _ tw_48) (fun _ h9 => h9) rfl d_Mem_setOwner_1 ?_
  refine lv_iload_n hx hb d_Mem_setOwner_4 rfl (lv_at hl 1 rfl) ?_
  refine lv_iload_n hx hb d_Mem_setOwner_5 rfl (lv_at hl 2 rfl) ?_
  refine k_astN (q0 := 5) (t0 := 0) hx hb hK hP hD hS rfl rfl (by omega) (by decide) d_Mem_setOwner_6 (fun H locs hP hD hS => ?_)
  obtain ⟨σ1, eσ1⟩ : ∃ z : kS, z = (st σ 1 g o) := ⟨_, rfl⟩
  have hP : va_P D vwCl (wC ad cI r σ1) H := by rw [eσ1]; exact hP
  have hD : va_D (kA s0) (wC ad cI r σ1) := by rw [eσ1]; exact hD
  exact k_retWV hx hb hr hlocks d_Mem_setOwner_7 hP hD hS (by subst eσ1; rfl)
set_option maxHeartbeats 4000000 in
set_option maxRecDepth 100000 in
theorem c_Mem_pageIn {l : Launch} {s0 : State} {a0 : Array Value} {D : va_G} {cI cL : ClassId} (K0 : k0 l s0 a0 D cI cL) (ad : Nat → Nat) (r : va_W) (σ : kS) (g : Nat) (en : Nat) (hg : g < 20) (hen : en < 4) : kMet l y_Mem_pageIn (Cond.code y_Mem_pageIn b_Mem_pageIn 3 (some .int)) (rmL 0) [.ref (ad 1), .int (nI g), .int (nI en)] (kPre D vwCl s0 (wC ad cI r) σ) (.ok (some (.int (pI (σ.1 2 (g * 4 + en)))), ())) kBr := by
  refine k_of (by decide) (Nat.le_of_ble_eq_true rfl) ?_
  intro p e9 s m below meth c hx hb hr hlocks hown hml hex hpre ls hl
  obtain ⟨hE, hP, hD⟩ := hpre
  obtain ⟨hts, hK⟩ := K0.at (args := ([.ref (ad 1), .int (nI g), .int (nI en)] : List Value).toArray) hE
  have hl : lv_has ls 3 [(0, .ref (ad 1)), (1, .int (nI g)), (2, .int (nI en))] := hl
  have hS : va_S (kA s0) s.heap s.heap [] := va_S.rf
  refine lv_aload_n hx hb d_Mem_pageIn_0 rfl (lv_at hl 0 rfl) ?_
  refine va_get (D := D) (ci := nMem) (v := .ref (ad 6)) (C := R_Mem) (T := T_Mem) (N := 5) hx hb hts i_Mem hown hK hP 1 rfl rfl 2 (by decide) (hts _ tw_49) (fun _ h9 => h9) rfl d_Mem_pageIn_1 ?_
  refine lv_iload_n hx hb d_Mem_pageIn_4 rfl (lv_at hl 1 rfl) ?_
  refine lv_iconst (v := (nI 4)) hx hb d_Mem_pageIn_5 (by decide) ?_
  refine k_mulN hx hb d_Mem_pageIn_6 ?_
  refine lv_iload_n hx hb d_Mem_pageIn_7 rfl (lv_at hl 2 rfl) ?_
  refine k_addN hx hb d_Mem_pageIn_8 ?_
  refine k_aldP (q0 := 6) (t0 := 0) hx hb hK hP rfl rfl (by omega) (by decide) d_Mem_pageIn_9 ?_
  exact k_retI hx hb hr hlocks d_Mem_pageIn_10 (rfl)
set_option maxHeartbeats 4000000 in
set_option maxRecDepth 100000 in
theorem c_Mem_rightsIn {l : Launch} {s0 : State} {a0 : Array Value} {D : va_G} {cI cL : ClassId} (K0 : k0 l s0 a0 D cI cL) (ad : Nat → Nat) (r : va_W) (σ : kS) (g : Nat) (en : Nat) (hg : g < 20) (hen : en < 4) : kMet l y_Mem_rightsIn (Cond.code y_Mem_rightsIn b_Mem_rightsIn 3 (some .int)) (rmL 0) [.ref (ad 1), .int (nI g), .int (nI en)] (kPre D vwCl s0 (wC ad cI r) σ) (.ok (some (.int (nI (σ.1 3 (g * 4 + en)))), ())) kBr := by
  refine k_of (by decide) (Nat.le_of_ble_eq_true rfl) ?_
  intro p e9 s m below meth c hx hb hr hlocks hown hml hex hpre ls hl
  obtain ⟨hE, hP, hD⟩ := hpre
  obtain ⟨hts, hK⟩ := K0.at (args := ([.ref (ad 1), .int (nI g), .int (nI en)] : List Value).toArray) hE
  have hl : lv_has ls 3 [(0, .ref (ad 1)), (1, .int (nI g)), (2, .int (nI en))] := hl
  have hS : va_S (kA s0) s.heap s.heap [] := va_S.rf
  refine lv_aload_n hx hb d_Mem_rightsIn_0 rfl (lv_at hl 0 rfl) ?_
  refine va_get (D := D) (ci := nMem) (v := .ref (ad 7)) (C := R_Mem) (T := T_Mem) (N := 5) hx hb hts i_Mem hown hK hP 1 rfl rfl 3 (by decide) (hts _ tw_50) (fun _ h9 => h9) rfl d_Mem_rightsIn_1 ?_
  refine lv_iload_n hx hb d_Mem_rightsIn_4 rfl (lv_at hl 1 rfl) ?_
  refine lv_iconst (v := (nI 4)) hx hb d_Mem_rightsIn_5 (by decide) ?_
  refine k_mulN hx hb d_Mem_rightsIn_6 ?_
  refine lv_iload_n hx hb d_Mem_rightsIn_7 rfl (lv_at hl 2 rfl) ?_
  refine k_addN hx hb d_Mem_rightsIn_8 ?_
  refine k_aldN (q0 := 7) (t0 := 0) hx hb hK hP rfl rfl (by omega) (by decide) d_Mem_rightsIn_9 ?_
  exact k_retI hx hb hr hlocks d_Mem_rightsIn_10 (rfl)
set_option maxHeartbeats 4000000 in
set_option maxRecDepth 100000 in
theorem c_Mem_setEntry {l : Launch} {s0 : State} {a0 : Array Value} {D : va_G} {cI cL : ClassId} (K0 : k0 l s0 a0 D cI cL) (ad : Nat → Nat) (r : va_W) (σ : kS) (g : Nat) (en : Nat) (v : Nat) (rr : Nat) (hg : g < 20) (hen : en < 4) : kMet l y_Mem_setEntry (Cond.code y_Mem_setEntry b_Mem_setEntry 5 none) (rmL 0) [.ref (ad 1), .int (nI g), .int (nI en), .int (pI v), .int (nI rr)] (kPre D vwCl s0 (wC ad cI r) σ) (.ok (none, m_setEntry σ g en v rr)) (kBw D vwCl s0 (wC ad cI r)) := by
  refine k_of (by decide) (Nat.le_of_ble_eq_true rfl) ?_
  intro p e9 s m below meth c hx hb hr hlocks hown hml hex hpre ls hl
  obtain ⟨hE, hP, hD⟩ := hpre
  obtain ⟨hts, hK⟩ := K0.at (args := ([.ref (ad 1), .int (nI g), .int (nI en), .int (pI v), .int (nI rr)] : List Value).toArray) hE
  have hl : lv_has ls 5 [(0, .ref (ad 1)), (1, .int (nI g)), (2, .int (nI en)), (3, .int (pI v)), (4, .int (nI rr))] := hl
  have hS : va_S (kA s0) s.heap s.heap [] := va_S.rf
  refine lv_aload_n hx hb d_Mem_setEntry_0 rfl (lv_at hl 0 rfl) ?_
  refine va_get (D := D) (ci := nMem) (v := .ref (ad 6)) (C := R_Mem) (T := T_Mem) (N := 5) hx hb hts i_Mem hown hK hP 1 rfl rfl 2 (by decide) (hts _ tw_49) (fun _ h9 => h9) rfl d_Mem_setEntry_1 ?_
  refine lv_iload_n hx hb d_Mem_setEntry_4 rfl (lv_at hl 1 rfl) ?_
  refine lv_iconst (v := (nI 4)) hx hb d_Mem_setEntry_5 (by decide) ?_
  refine k_mulN hx hb d_Mem_setEntry_6 ?_
  refine lv_iload_n hx hb d_Mem_setEntry_7 rfl (lv_at hl 2 rfl) ?_
  refine k_addN hx hb d_Mem_setEntry_8 ?_
  refine lv_iload_n hx hb d_Mem_setEntry_9 rfl (lv_at hl 3 rfl) ?_
  refine k_astP (q0 := 6) (t0 := 0) hx hb hK hP hD hS rfl rfl (by omega) (by decide) d_Mem_setEntry_10 (fun H locs hP hD hS => ?_)
  obtain ⟨σ1, eσ1⟩ : ∃ z : kS, z = (st σ 2 ((g * 4) + en) v) := ⟨_, rfl⟩
  have hP : va_P D vwCl (wC ad cI r σ1) H := by rw [eσ1]; exact hP
  have hD : va_D (kA s0) (wC ad cI r σ1) := by rw [eσ1]; exact hD
  refine lv_aload_n hx hb d_Mem_setEntry_11 rfl (lv_at hl 0 rfl) ?_
  refine va_get (D := D) (ci := nMem) (v := .ref (ad 7)) (C := R_Mem) (T := T_Mem) (N := 5) hx hb hts i_Mem hown hK hP 1 rfl rfl 3 (by decide) (hts _ tw_50) (fun _ h9 => h9) rfl d_Mem_setEntry_12 ?_
  refine lv_iload_n hx hb d_Mem_setEntry_15 rfl (lv_at hl 1 rfl) ?_
  refine lv_iconst (v := (nI 4)) hx hb d_Mem_setEntry_16 (by decide) ?_
  refine k_mulN hx hb d_Mem_setEntry_17 ?_
  refine lv_iload_n hx hb d_Mem_setEntry_18 rfl (lv_at hl 2 rfl) ?_
  refine k_addN hx hb d_Mem_setEntry_19 ?_
  refine lv_iload hx hb d_Mem_setEntry_20 (lv_at hl 4 rfl) ?_
  refine k_astN (q0 := 7) (t0 := 0) hx hb hK hP hD hS rfl rfl (by omega) (by decide) d_Mem_setEntry_22 (fun H locs hP hD hS => ?_)
  obtain ⟨σ2, eσ2⟩ : ∃ z : kS, z = (st σ1 3 ((g * 4) + en) rr) := ⟨_, rfl⟩
  have hP : va_P D vwCl (wC ad cI r σ2) H := by rw [eσ2]; exact hP
  have hD : va_D (kA s0) (wC ad cI r σ2) := by rw [eσ2]; exact hD
  exact k_retWV hx hb hr hlocks d_Mem_setEntry_23 hP hD hS (by subst eσ2 eσ1; rfl)
set_option maxHeartbeats 4000000 in
set_option maxRecDepth 100000 in
theorem c_Mem_clearEntry {l : Launch} {s0 : State} {a0 : Array Value} {D : va_G} {cI cL : ClassId} (K0 : k0 l s0 a0 D cI cL) (ad : Nat → Nat) (r : va_W) (σ : kS) (g : Nat) (en : Nat) (hg : g < 20) (hen : en < 4) : kMet l y_Mem_clearEntry (Cond.code y_Mem_clearEntry b_Mem_clearEntry 3 none) (rmL 1) [.ref (ad 1), .int (nI g), .int (nI en)] (kPre D vwCl s0 (wC ad cI r) σ) (.ok (none, m_clearEntry σ g en)) (kBw D vwCl s0 (wC ad cI r)) := by
  refine k_of (by decide) (Nat.le_of_ble_eq_true rfl) ?_
  intro p e9 s m below meth c hx hb hr hlocks hown hml hex hpre ls hl
  obtain ⟨hE, hP, hD⟩ := hpre
  obtain ⟨hts, hK⟩ := K0.at (args := ([.ref (ad 1), .int (nI g), .int (nI en)] : List Value).toArray) hE
  have hl : lv_has ls 3 [(0, .ref (ad 1)), (1, .int (nI g)), (2, .int (nI en))] := hl
  have hS : va_S (kA s0) s.heap s.heap [] := va_S.rf
  refine lv_aload_n hx hb d_Mem_clearEntry_0 rfl (lv_at hl 0 rfl) ?_
  refine lv_iload_n hx hb d_Mem_clearEntry_1 rfl (lv_at hl 1 rfl) ?_
  refine lv_iload_n hx hb d_Mem_clearEntry_2 rfl (lv_at hl 2 rfl) ?_
  refine lv_iconst (v := (pI 0)) hx hb d_Mem_clearEntry_3 (by decide) ?_
  refine lv_iconst (v := (nI 0)) hx hb d_Mem_clearEntry_4 (by decide) ?_
  refine k_callW (k_atV (As := [.int (nI g), .int (nI en), .int (pI 0), .int (nI 0)]) hx hb hown hE.1 (K0.w tw_42) (hts _ tw_39) (hts _ tw_40) (hts _ tw_41) (hts _ tw_2) (by decide) np_Mem_setEntry (va_recv hK hP (ci := nMem) (q0 := 1) rfl rfl) rfl d_Mem_clearEntry_5) (c_Mem_setEntry K0 ad r σ g en 0 0 (by omega) (by omega)) (hl.1.trans hml.symm) (Nat.le_of_ble_eq_true rfl) ⟨Nat.le_of_ble_eq_true rfl, Nat.le_of_ble_eq_true rfl, Nat.le_of_ble_eq_true rfl, Nat.le_of_ble_eq_true rfl⟩ (fun U hU hW => ⟨hE.go hW hU hS, by rw [hU]; exact hP, hD⟩) hS (fun H locs hP hD hS => ?_)
  obtain ⟨σ1, eσ1⟩ : ∃ z : kS, z = (m_setEntry σ g en 0 0) := ⟨_, rfl⟩
  have hP : va_P D vwCl (wC ad cI r σ1) H := by rw [eσ1]; exact hP
  have hD : va_D (kA s0) (wC ad cI r σ1) := by rw [eσ1]; exact hD
  exact k_retWV hx hb hr hlocks d_Mem_clearEntry_8 hP hD hS (by subst eσ1; rfl)
set_option maxHeartbeats 4000000 in
set_option maxRecDepth 100000 in
theorem c_Mem_word {l : Launch} {s0 : State} {a0 : Array Value} {D : va_G} {cI cL : ClassId} (K0 : k0 l s0 a0 D cI cL) (ad : Nat → Nat) (r : va_W) (σ : kS) (g : Nat) (cc : Nat) (hg : g < 20) (hcc : cc < 4) : kMet l y_Mem_word (Cond.code y_Mem_word b_Mem_word 3 (some .int)) (rmL 0) [.ref (ad 1), .int (nI g), .int (nI cc)] (kPre D vwCl s0 (wC ad cI r) σ) (.ok (some (.int (σ.2 0 (g * 4 + cc))), ())) kBr := by
  refine k_of (by decide) (Nat.le_of_ble_eq_true rfl) ?_
  intro p e9 s m below meth c hx hb hr hlocks hown hml hex hpre ls hl
  obtain ⟨hE, hP, hD⟩ := hpre
  obtain ⟨hts, hK⟩ := K0.at (args := ([.ref (ad 1), .int (nI g), .int (nI cc)] : List Value).toArray) hE
  have hl : lv_has ls 3 [(0, .ref (ad 1)), (1, .int (nI g)), (2, .int (nI cc))] := hl
  have hS : va_S (kA s0) s.heap s.heap [] := va_S.rf
  refine lv_aload_n hx hb d_Mem_word_0 rfl (lv_at hl 0 rfl) ?_
  refine va_get (D := D) (ci := nMem) (v := .ref (ad 8)) (C := R_Mem) (T := T_Mem) (N := 5) hx hb hts i_Mem hown hK hP 1 rfl rfl 4 (by decide) (hts _ tw_51) (fun _ h9 => h9) rfl d_Mem_word_1 ?_
  refine lv_iload_n hx hb d_Mem_word_4 rfl (lv_at hl 1 rfl) ?_
  refine lv_iconst (v := (nI 4)) hx hb d_Mem_word_5 (by decide) ?_
  refine k_mulN hx hb d_Mem_word_6 ?_
  refine lv_iload_n hx hb d_Mem_word_7 rfl (lv_at hl 2 rfl) ?_
  refine k_addN hx hb d_Mem_word_8 ?_
  refine k_aldI (q0 := 8) (t0 := 0) hx hb hK hP rfl rfl (by omega) (by decide) d_Mem_word_9 ?_
  exact k_retI hx hb hr hlocks d_Mem_word_10 (rfl)
set_option maxHeartbeats 4000000 in
set_option maxRecDepth 100000 in
theorem c_Mem_setWord {l : Launch} {s0 : State} {a0 : Array Value} {D : va_G} {cI cL : ClassId} (K0 : k0 l s0 a0 D cI cL) (ad : Nat → Nat) (r : va_W) (σ : kS) (g : Nat) (cc : Nat) (v : Int32) (hg : g < 20) (hcc : cc < 4) : kMet l y_Mem_setWord (Cond.code y_Mem_setWord b_Mem_setWord 4 none) (rmL 0) [.ref (ad 1), .int (nI g), .int (nI cc), .int v] (kPre D vwCl s0 (wC ad cI r) σ) (.ok (none, sw σ 0 (g * 4 + cc) v)) (kBw D vwCl s0 (wC ad cI r)) := by
  refine k_of (by decide) (Nat.le_of_ble_eq_true rfl) ?_
  intro p e9 s m below meth c hx hb hr hlocks hown hml hex hpre ls hl
  obtain ⟨hE, hP, hD⟩ := hpre
  obtain ⟨hts, hK⟩ := K0.at (args := ([.ref (ad 1), .int (nI g), .int (nI cc), .int v] : List Value).toArray) hE
  have hl : lv_has ls 4 [(0, .ref (ad 1)), (1, .int (nI g)), (2, .int (nI cc)), (3, .int v)] := hl
  have hS : va_S (kA s0) s.heap s.heap [] := va_S.rf
  refine lv_aload_n hx hb d_Mem_setWord_0 rfl (lv_at hl 0 rfl) ?_
  refine va_get (D := D) (ci := nMem) (v := .ref (ad 8)) (C := R_Mem) (T := T_Mem) (N := 5) hx hb hts i_Mem hown hK hP 1 rfl rfl 4 (by decide) (hts _ tw_51) (fun _ h9 => h9) rfl d_Mem_setWord_1 ?_
  refine lv_iload_n hx hb d_Mem_setWord_4 rfl (lv_at hl 1 rfl) ?_
  refine lv_iconst (v := (nI 4)) hx hb d_Mem_setWord_5 (by decide) ?_
  refine k_mulN hx hb d_Mem_setWord_6 ?_
  refine lv_iload_n hx hb d_Mem_setWord_7 rfl (lv_at hl 2 rfl) ?_
  refine k_addN hx hb d_Mem_setWord_8 ?_
  refine lv_iload_n hx hb d_Mem_setWord_9 rfl (lv_at hl 3 rfl) ?_
  refine k_astI (q0 := 8) (t0 := 0) hx hb hK hP hD hS rfl rfl (by omega) (by decide) d_Mem_setWord_10 (fun H locs hP hD hS => ?_)
  obtain ⟨σ1, eσ1⟩ : ∃ z : kS, z = (sw σ 0 ((g * 4) + cc) v) := ⟨_, rfl⟩
  have hP : va_P D vwCl (wC ad cI r σ1) H := by rw [eσ1]; exact hP
  have hD : va_D (kA s0) (wC ad cI r σ1) := by rw [eσ1]; exact hD
  exact k_retWV hx hb hr hlocks d_Mem_setWord_11 hP hD hS (by subst eσ1; rfl)
set_option maxHeartbeats 4000000 in
set_option maxRecDepth 100000 in
theorem c_Mem_become {l : Launch} {s0 : State} {a0 : Array Value} {D : va_G} {cI cL : ClassId} (K0 : k0 l s0 a0 D cI cL) (ad : Nat → Nat) (r : va_W) (σ : kS) (g : Nat) (kk : Nat) (o : Nat) (hg : g < 20) : kMet l y_Mem_become (Cond.code y_Mem_become b_Mem_become 5 none) (rmL 2) [.ref (ad 1), .int (nI g), .int (nI kk), .int (nI o)] (kPre D vwCl s0 (wC ad cI r) σ) (.ok (none, m_become σ g kk o)) (kBw D vwCl s0 (wC ad cI r)) := by
  refine k_of (by decide) (Nat.le_of_ble_eq_true rfl) ?_
  intro p e9 s m below meth c hx hb hr hlocks hown hml hex hpre ls hl
  obtain ⟨hE, hP, hD⟩ := hpre
  obtain ⟨hts, hK⟩ := K0.at (args := ([.ref (ad 1), .int (nI g), .int (nI kk), .int (nI o)] : List Value).toArray) hE
  have hl : lv_has ls 5 [(0, .ref (ad 1)), (1, .int (nI g)), (2, .int (nI kk)), (3, .int (nI o))] := hl
  have hS : va_S (kA s0) s.heap s.heap [] := va_S.rf
  refine lv_aload_n hx hb d_Mem_become_0 rfl (lv_at hl 0 rfl) ?_
  refine va_get (D := D) (ci := nMem) (v := .ref (ad 4)) (C := R_Mem) (T := T_Mem) (N := 5) hx hb hts i_Mem hown hK hP 1 rfl rfl 0 (by decide) (hts _ tw_47) (fun _ h9 => h9) rfl d_Mem_become_1 ?_
  refine lv_iload_n hx hb d_Mem_become_4 rfl (lv_at hl 1 rfl) ?_
  refine lv_iload_n hx hb d_Mem_become_5 rfl (lv_at hl 2 rfl) ?_
  refine k_astN (q0 := 4) (t0 := 0) hx hb hK hP hD hS rfl rfl (by omega) (by decide) d_Mem_become_6 (fun H locs hP hD hS => ?_)
  obtain ⟨σ1, eσ1⟩ : ∃ z : kS, z = (st σ 0 g kk) := ⟨_, rfl⟩
  have hP : va_P D vwCl (wC ad cI r σ1) H := by rw [eσ1]; exact hP
  have hD : va_D (kA s0) (wC ad cI r σ1) := by rw [eσ1]; exact hD
  refine lv_aload_n hx hb d_Mem_become_7 rfl (lv_at hl 0 rfl) ?_
  refine va_get (D := D) (ci := nMem) (v := .ref (ad 5)) (C := R_Mem) (T := T_Mem) (N := 5) hx hb hts i_Mem hown hK hP 1 rfl rfl 1 (by decide) (hts _ tw_48) (fun _ h9 => h9) rfl d_Mem_become_8 ?_
  refine lv_iload_n hx hb d_Mem_become_11 rfl (lv_at hl 1 rfl) ?_
  refine lv_iload_n hx hb d_Mem_become_12 rfl (lv_at hl 3 rfl) ?_
  refine k_astN (q0 := 5) (t0 := 0) hx hb hK hP hD hS rfl rfl (by omega) (by decide) d_Mem_become_13 (fun H locs hP hD hS => ?_)
  obtain ⟨σ2, eσ2⟩ : ∃ z : kS, z = (st σ1 1 g o) := ⟨_, rfl⟩
  have hP : va_P D vwCl (wC ad cI r σ2) H := by rw [eσ2]; exact hP
  have hD : va_D (kA s0) (wC ad cI r σ2) := by rw [eσ2]; exact hD
  refine lv_iconst (v := (nI 0)) hx hb d_Mem_become_14 (by decide) ?_
  refine lv_istore (lv' := [(4, .int (nI 0)), (0, .ref (ad 1)), (1, .int (nI g)), (2, .int (nI kk)), (3, .int (nI o))]) hx hb d_Mem_become_15 hl (by decide) rfl (fun ls hl => ?_)
  refine lv_iload hx hb d_Mem_become_17 (lv_at hl 0 rfl) ?_
  refine lv_iconst (v := (nI 4)) hx hb d_Mem_become_19 (by decide) ?_
  refine k_geN (tgt := 44) (by decide) (by decide) hx hb d_Mem_become_20 (by decide) (fun h9 => absurd h9 (by decide)) (fun _ => ?_)
  refine lv_aload_n hx hb d_Mem_become_23 rfl (lv_at hl 1 rfl) ?_
  refine lv_iload_n hx hb d_Mem_become_24 rfl (lv_at hl 2 rfl) ?_
  refine lv_iload hx hb d_Mem_become_25 (lv_at hl 0 rfl) ?_
  refine k_callW (k_atV (As := [.int (nI g), .int (nI 0)]) hx hb hown hE.1 (K0.w tw_38) (hts _ tw_35) (hts _ tw_36) (hts _ tw_37) (hts _ tw_2) (by decide) np_Mem_clearEntry (va_recv hK hP (ci := nMem) (q0 := 1) rfl rfl) rfl d_Mem_become_27) (c_Mem_clearEntry K0 ad r σ2 g 0 (by omega) (by omega)) (hl.1.trans hml.symm) (Nat.le_of_ble_eq_true rfl) ⟨Nat.le_of_ble_eq_true rfl, Nat.le_of_ble_eq_true rfl, Nat.le_of_ble_eq_true rfl, Nat.le_of_ble_eq_true rfl⟩ (fun U hU hW => ⟨hE.go hW hU hS, by rw [hU]; exact hP, hD⟩) hS (fun H locs hP hD hS => ?_)
  obtain ⟨σ3, eσ3⟩ : ∃ z : kS, z = (m_clearEntry σ2 g 0) := ⟨_, rfl⟩
  have hP : va_P D vwCl (wC ad cI r σ3) H := by rw [eσ3]; exact hP
  have hD : va_D (kA s0) (wC ad cI r σ3) := by rw [eσ3]; exact hD
  refine lv_aload_n hx hb d_Mem_become_30 rfl (lv_at hl 1 rfl) ?_
  refine lv_iload_n hx hb d_Mem_become_31 rfl (lv_at hl 2 rfl) ?_
  refine lv_iload hx hb d_Mem_become_32 (lv_at hl 0 rfl) ?_
  refine lv_iconst (v := (nI 0)) hx hb d_Mem_become_34 (by decide) ?_
  refine k_callW (k_atV (As := [.int (nI g), .int (nI 0), .int (nI 0)]) hx hb hown hE.1 (K0.w tw_46) (hts _ tw_43) (hts _ tw_44) (hts _ tw_45) (hts _ tw_2) (by decide) np_Mem_setWord (va_recv hK hP (ci := nMem) (q0 := 1) rfl rfl) rfl d_Mem_become_35) (c_Mem_setWord K0 ad r σ3 g 0 (nI 0) (by omega) (by omega)) (hl.1.trans hml.symm) (Nat.le_of_ble_eq_true rfl) ⟨Nat.le_of_ble_eq_true rfl, Nat.le_of_ble_eq_true rfl, Nat.le_of_ble_eq_true rfl, Nat.le_of_ble_eq_true rfl⟩ (fun U hU hW => ⟨hE.go hW hU hS, by rw [hU]; exact hP, hD⟩) hS (fun H locs hP hD hS => ?_)
  obtain ⟨σ4, eσ4⟩ : ∃ z : kS, z = (sw σ3 0 (g * 4 + 0) (nI 0)) := ⟨_, rfl⟩
  have hP : va_P D vwCl (wC ad cI r σ4) H := by rw [eσ4]; exact hP
  have hD : va_D (kA s0) (wC ad cI r σ4) := by rw [eσ4]; exact hD
  refine lv_iinc (v := (nI 1)) (lv' := [(4, .int (nI 1)), (0, .ref (ad 1)), (1, .int (nI g)), (2, .int (nI kk)), (3, .int (nI o))]) hx hb d_Mem_become_38 hl (k := 0) rfl (nI_1 _) (by decide) rfl (fun ls hl => ?_)
  refine lv_goto (tgt := 17) hx hb d_Mem_become_41 (by decide) ?_
  refine lv_iload hx hb d_Mem_become_17 (lv_at hl 0 rfl) ?_
  refine lv_iconst (v := (nI 4)) hx hb d_Mem_become_19 (by decide) ?_
  refine k_geN (tgt := 44) (by decide) (by decide) hx hb d_Mem_become_20 (by decide) (fun h9 => absurd h9 (by decide)) (fun _ => ?_)
  refine lv_aload_n hx hb d_Mem_become_23 rfl (lv_at hl 1 rfl) ?_
  refine lv_iload_n hx hb d_Mem_become_24 rfl (lv_at hl 2 rfl) ?_
  refine lv_iload hx hb d_Mem_become_25 (lv_at hl 0 rfl) ?_
  refine k_callW (k_atV (As := [.int (nI g), .int (nI 1)]) hx hb hown hE.1 (K0.w tw_38) (hts _ tw_35) (hts _ tw_36) (hts _ tw_37) (hts _ tw_2) (by decide) np_Mem_clearEntry (va_recv hK hP (ci := nMem) (q0 := 1) rfl rfl) rfl d_Mem_become_27) (c_Mem_clearEntry K0 ad r σ4 g 1 (by omega) (by omega)) (hl.1.trans hml.symm) (Nat.le_of_ble_eq_true rfl) ⟨Nat.le_of_ble_eq_true rfl, Nat.le_of_ble_eq_true rfl, Nat.le_of_ble_eq_true rfl, Nat.le_of_ble_eq_true rfl⟩ (fun U hU hW => ⟨hE.go hW hU hS, by rw [hU]; exact hP, hD⟩) hS (fun H locs hP hD hS => ?_)
  obtain ⟨σ5, eσ5⟩ : ∃ z : kS, z = (m_clearEntry σ4 g 1) := ⟨_, rfl⟩
  have hP : va_P D vwCl (wC ad cI r σ5) H := by rw [eσ5]; exact hP
  have hD : va_D (kA s0) (wC ad cI r σ5) := by rw [eσ5]; exact hD
  refine lv_aload_n hx hb d_Mem_become_30 rfl (lv_at hl 1 rfl) ?_
  refine lv_iload_n hx hb d_Mem_become_31 rfl (lv_at hl 2 rfl) ?_
  refine lv_iload hx hb d_Mem_become_32 (lv_at hl 0 rfl) ?_
  refine lv_iconst (v := (nI 0)) hx hb d_Mem_become_34 (by decide) ?_
  refine k_callW (k_atV (As := [.int (nI g), .int (nI 1), .int (nI 0)]) hx hb hown hE.1 (K0.w tw_46) (hts _ tw_43) (hts _ tw_44) (hts _ tw_45) (hts _ tw_2) (by decide) np_Mem_setWord (va_recv hK hP (ci := nMem) (q0 := 1) rfl rfl) rfl d_Mem_become_35) (c_Mem_setWord K0 ad r σ5 g 1 (nI 0) (by omega) (by omega)) (hl.1.trans hml.symm) (Nat.le_of_ble_eq_true rfl) ⟨Nat.le_of_ble_eq_true rfl, Nat.le_of_ble_eq_true rfl, Nat.le_of_ble_eq_true rfl, Nat.le_of_ble_eq_true rfl⟩ (fun U hU hW => ⟨hE.go hW hU hS, by rw [hU]; exact hP, hD⟩) hS (fun H locs hP hD hS => ?_)
  obtain ⟨σ6, eσ6⟩ : ∃ z : kS, z = (sw σ5 0 (g * 4 + 1) (nI 0)) := ⟨_, rfl⟩
  have hP : va_P D vwCl (wC ad cI r σ6) H := by rw [eσ6]; exact hP
  have hD : va_D (kA s0) (wC ad cI r σ6) := by rw [eσ6]; exact hD
  refine lv_iinc (v := (nI 2)) (lv' := [(4, .int (nI 2)), (0, .ref (ad 1)), (1, .int (nI g)), (2, .int (nI kk)), (3, .int (nI o))]) hx hb d_Mem_become_38 hl (k := 0) rfl (nI_1 _) (by decide) rfl (fun ls hl => ?_)
  refine lv_goto (tgt := 17) hx hb d_Mem_become_41 (by decide) ?_
  refine lv_iload hx hb d_Mem_become_17 (lv_at hl 0 rfl) ?_
  refine lv_iconst (v := (nI 4)) hx hb d_Mem_become_19 (by decide) ?_
  refine k_geN (tgt := 44) (by decide) (by decide) hx hb d_Mem_become_20 (by decide) (fun h9 => absurd h9 (by decide)) (fun _ => ?_)
  refine lv_aload_n hx hb d_Mem_become_23 rfl (lv_at hl 1 rfl) ?_
  refine lv_iload_n hx hb d_Mem_become_24 rfl (lv_at hl 2 rfl) ?_
  refine lv_iload hx hb d_Mem_become_25 (lv_at hl 0 rfl) ?_
  refine k_callW (k_atV (As := [.int (nI g), .int (nI 2)]) hx hb hown hE.1 (K0.w tw_38) (hts _ tw_35) (hts _ tw_36) (hts _ tw_37) (hts _ tw_2) (by decide) np_Mem_clearEntry (va_recv hK hP (ci := nMem) (q0 := 1) rfl rfl) rfl d_Mem_become_27) (c_Mem_clearEntry K0 ad r σ6 g 2 (by omega) (by omega)) (hl.1.trans hml.symm) (Nat.le_of_ble_eq_true rfl) ⟨Nat.le_of_ble_eq_true rfl, Nat.le_of_ble_eq_true rfl, Nat.le_of_ble_eq_true rfl, Nat.le_of_ble_eq_true rfl⟩ (fun U hU hW => ⟨hE.go hW hU hS, by rw [hU]; exact hP, hD⟩) hS (fun H locs hP hD hS => ?_)
  obtain ⟨σ7, eσ7⟩ : ∃ z : kS, z = (m_clearEntry σ6 g 2) := ⟨_, rfl⟩
  have hP : va_P D vwCl (wC ad cI r σ7) H := by rw [eσ7]; exact hP
  have hD : va_D (kA s0) (wC ad cI r σ7) := by rw [eσ7]; exact hD
  refine lv_aload_n hx hb d_Mem_become_30 rfl (lv_at hl 1 rfl) ?_
  refine lv_iload_n hx hb d_Mem_become_31 rfl (lv_at hl 2 rfl) ?_
  refine lv_iload hx hb d_Mem_become_32 (lv_at hl 0 rfl) ?_
  refine lv_iconst (v := (nI 0)) hx hb d_Mem_become_34 (by decide) ?_
  refine k_callW (k_atV (As := [.int (nI g), .int (nI 2), .int (nI 0)]) hx hb hown hE.1 (K0.w tw_46) (hts _ tw_43) (hts _ tw_44) (hts _ tw_45) (hts _ tw_2) (by decide) np_Mem_setWord (va_recv hK hP (ci := nMem) (q0 := 1) rfl rfl) rfl d_Mem_become_35) (c_Mem_setWord K0 ad r σ7 g 2 (nI 0) (by omega) (by omega)) (hl.1.trans hml.symm) (Nat.le_of_ble_eq_true rfl) ⟨Nat.le_of_ble_eq_true rfl, Nat.le_of_ble_eq_true rfl, Nat.le_of_ble_eq_true rfl, Nat.le_of_ble_eq_true rfl⟩ (fun U hU hW => ⟨hE.go hW hU hS, by rw [hU]; exact hP, hD⟩) hS (fun H locs hP hD hS => ?_)
  obtain ⟨σ8, eσ8⟩ : ∃ z : kS, z = (sw σ7 0 (g * 4 + 2) (nI 0)) := ⟨_, rfl⟩
  have hP : va_P D vwCl (wC ad cI r σ8) H := by rw [eσ8]; exact hP
  have hD : va_D (kA s0) (wC ad cI r σ8) := by rw [eσ8]; exact hD
  refine lv_iinc (v := (nI 3)) (lv' := [(4, .int (nI 3)), (0, .ref (ad 1)), (1, .int (nI g)), (2, .int (nI kk)), (3, .int (nI o))]) hx hb d_Mem_become_38 hl (k := 0) rfl (nI_1 _) (by decide) rfl (fun ls hl => ?_)
  refine lv_goto (tgt := 17) hx hb d_Mem_become_41 (by decide) ?_
  refine lv_iload hx hb d_Mem_become_17 (lv_at hl 0 rfl) ?_
  refine lv_iconst (v := (nI 4)) hx hb d_Mem_become_19 (by decide) ?_
  refine k_geN (tgt := 44) (by decide) (by decide) hx hb d_Mem_become_20 (by decide) (fun h9 => absurd h9 (by decide)) (fun _ => ?_)
  refine lv_aload_n hx hb d_Mem_become_23 rfl (lv_at hl 1 rfl) ?_
  refine lv_iload_n hx hb d_Mem_become_24 rfl (lv_at hl 2 rfl) ?_
  refine lv_iload hx hb d_Mem_become_25 (lv_at hl 0 rfl) ?_
  refine k_callW (k_atV (As := [.int (nI g), .int (nI 3)]) hx hb hown hE.1 (K0.w tw_38) (hts _ tw_35) (hts _ tw_36) (hts _ tw_37) (hts _ tw_2) (by decide) np_Mem_clearEntry (va_recv hK hP (ci := nMem) (q0 := 1) rfl rfl) rfl d_Mem_become_27) (c_Mem_clearEntry K0 ad r σ8 g 3 (by omega) (by omega)) (hl.1.trans hml.symm) (Nat.le_of_ble_eq_true rfl) ⟨Nat.le_of_ble_eq_true rfl, Nat.le_of_ble_eq_true rfl, Nat.le_of_ble_eq_true rfl, Nat.le_of_ble_eq_true rfl⟩ (fun U hU hW => ⟨hE.go hW hU hS, by rw [hU]; exact hP, hD⟩) hS (fun H locs hP hD hS => ?_)
  obtain ⟨σ9, eσ9⟩ : ∃ z : kS, z = (m_clearEntry σ8 g 3) := ⟨_, rfl⟩
  have hP : va_P D vwCl (wC ad cI r σ9) H := by rw [eσ9]; exact hP
  have hD : va_D (kA s0) (wC ad cI r σ9) := by rw [eσ9]; exact hD
  refine lv_aload_n hx hb d_Mem_become_30 rfl (lv_at hl 1 rfl) ?_
  refine lv_iload_n hx hb d_Mem_become_31 rfl (lv_at hl 2 rfl) ?_
  refine lv_iload hx hb d_Mem_become_32 (lv_at hl 0 rfl) ?_
  refine lv_iconst (v := (nI 0)) hx hb d_Mem_become_34 (by decide) ?_
  refine k_callW (k_atV (As := [.int (nI g), .int (nI 3), .int (nI 0)]) hx hb hown hE.1 (K0.w tw_46) (hts _ tw_43) (hts _ tw_44) (hts _ tw_45) (hts _ tw_2) (by decide) np_Mem_setWord (va_recv hK hP (ci := nMem) (q0 := 1) rfl rfl) rfl d_Mem_become_35) (c_Mem_setWord K0 ad r σ9 g 3 (nI 0) (by omega) (by omega)) (hl.1.trans hml.symm) (Nat.le_of_ble_eq_true rfl) ⟨Nat.le_of_ble_eq_true rfl, Nat.le_of_ble_eq_true rfl, Nat.le_of_ble_eq_true rfl, Nat.le_of_ble_eq_true rfl⟩ (fun U hU hW => ⟨hE.go hW hU hS, by rw [hU]; exact hP, hD⟩) hS (fun H locs hP hD hS => ?_)
  obtain ⟨σ10, eσ10⟩ : ∃ z : kS, z = (sw σ9 0 (g * 4 + 3) (nI 0)) := ⟨_, rfl⟩
  have hP : va_P D vwCl (wC ad cI r σ10) H := by rw [eσ10]; exact hP
  have hD : va_D (kA s0) (wC ad cI r σ10) := by rw [eσ10]; exact hD
  refine lv_iinc (v := (nI 4)) (lv' := [(4, .int (nI 4)), (0, .ref (ad 1)), (1, .int (nI g)), (2, .int (nI kk)), (3, .int (nI o))]) hx hb d_Mem_become_38 hl (k := 0) rfl (nI_1 _) (by decide) rfl (fun ls hl => ?_)
  refine lv_goto (tgt := 17) hx hb d_Mem_become_41 (by decide) ?_
  refine lv_iload hx hb d_Mem_become_17 (lv_at hl 0 rfl) ?_
  refine lv_iconst (v := (nI 4)) hx hb d_Mem_become_19 (by decide) ?_
  refine k_geN (tgt := 44) (by decide) (by decide) hx hb d_Mem_become_20 (by decide) (fun _ => ?_) (fun h9 => absurd h9 (by decide))
  exact k_retWV hx hb hr hlocks d_Mem_become_44 hP hD hS (by subst eσ10 eσ9 eσ8 eσ7 eσ6 eσ5 eσ4 eσ3 eσ2 eσ1; rfl)
set_option maxHeartbeats 4000000 in
set_option maxRecDepth 100000 in
theorem c_Mem_setFree {l : Launch} {s0 : State} {a0 : Array Value} {D : va_G} {cI cL : ClassId} (K0 : k0 l s0 a0 D cI cL) (ad : Nat → Nat) (r : va_W) (σ : kS) (g : Nat) (hg : g < 20) : kMet l y_Mem_setFree (Cond.code y_Mem_setFree b_Mem_setFree 2 none) (rmL 3) [.ref (ad 1), .int (nI g)] (kPre D vwCl s0 (wC ad cI r) σ) (.ok (none, m_become σ g 0 0)) (kBw D vwCl s0 (wC ad cI r)) := by
  refine k_of (by decide) (Nat.le_of_ble_eq_true rfl) ?_
  intro p e9 s m below meth c hx hb hr hlocks hown hml hex hpre ls hl
  obtain ⟨hE, hP, hD⟩ := hpre
  obtain ⟨hts, hK⟩ := K0.at (args := ([.ref (ad 1), .int (nI g)] : List Value).toArray) hE
  have hl : lv_has ls 2 [(0, .ref (ad 1)), (1, .int (nI g))] := hl
  have hS : va_S (kA s0) s.heap s.heap [] := va_S.rf
  refine lv_aload_n hx hb d_Mem_setFree_0 rfl (lv_at hl 0 rfl) ?_
  refine lv_iload_n hx hb d_Mem_setFree_1 rfl (lv_at hl 1 rfl) ?_
  refine lv_iconst (v := (nI 0)) hx hb d_Mem_setFree_2 (by decide) ?_
  refine lv_iconst (v := (nI 0)) hx hb d_Mem_setFree_3 (by decide) ?_
  refine k_callW (k_atV (As := [.int (nI g), .int (nI 0), .int (nI 0)]) hx hb hown hE.1 (K0.w tw_34) (hts _ tw_31) (hts _ tw_32) (hts _ tw_33) (hts _ tw_2) (by decide) np_Mem_become (va_recv hK hP (ci := nMem) (q0 := 1) rfl rfl) rfl d_Mem_setFree_4) (c_Mem_become K0 ad r σ g 0 0 (by omega)) (hl.1.trans hml.symm) (Nat.le_of_ble_eq_true rfl) ⟨Nat.le_of_ble_eq_true rfl, Nat.le_of_ble_eq_true rfl, Nat.le_of_ble_eq_true rfl, Nat.le_of_ble_eq_true rfl⟩ (fun U hU hW => ⟨hE.go hW hU hS, by rw [hU]; exact hP, hD⟩) hS (fun H locs hP hD hS => ?_)
  obtain ⟨σ1, eσ1⟩ : ∃ z : kS, z = (m_become σ g 0 0) := ⟨_, rfl⟩
  have hP : va_P D vwCl (wC ad cI r σ1) H := by rw [eσ1]; exact hP
  have hD : va_D (kA s0) (wC ad cI r σ1) := by rw [eσ1]; exact hD
  exact k_retWV hx hb hr hlocks d_Mem_setFree_7 hP hD hS (by subst eσ1; rfl)
set_option maxHeartbeats 4000000 in
set_option maxRecDepth 100000 in
theorem c_Pro_stateOf {l : Launch} {s0 : State} {a0 : Array Value} {D : va_G} {cI cL : ClassId} (K0 : k0 l s0 a0 D cI cL) (ad : Nat → Nat) (r : va_W) (σ : kS) (q : Nat) (hq : q < 6) : kMet l y_Pro_stateOf (Cond.code y_Pro_stateOf b_Pro_stateOf 2 (some .int)) (rmL 0) [.ref (ad 2), .int (nI q)] (kPre D vwCl s0 (wC ad cI r) σ) (.ok (some (.int (nI (σ.1 4 q))), ())) kBr := by
  refine k_of (by decide) (Nat.le_of_ble_eq_true rfl) ?_
  intro p e9 s m below meth c hx hb hr hlocks hown hml hex hpre ls hl
  obtain ⟨hE, hP, hD⟩ := hpre
  obtain ⟨hts, hK⟩ := K0.at (args := ([.ref (ad 2), .int (nI q)] : List Value).toArray) hE
  have hl : lv_has ls 2 [(0, .ref (ad 2)), (1, .int (nI q))] := hl
  have hS : va_S (kA s0) s.heap s.heap [] := va_S.rf
  refine lv_aload_n hx hb d_Pro_stateOf_0 rfl (lv_at hl 0 rfl) ?_
  refine va_get (D := D) (ci := nPro) (v := .ref (ad 9)) (C := R_Pro) (T := T_Pro) (N := 6) hx hb hts i_Pro hown hK hP 2 rfl rfl 0 (by decide) (hts _ tw_82) (fun _ h9 => h9) rfl d_Pro_stateOf_1 ?_
  refine lv_iload_n hx hb d_Pro_stateOf_4 rfl (lv_at hl 1 rfl) ?_
  refine k_aldN (q0 := 9) (t0 := 0) hx hb hK hP rfl rfl (by omega) (by decide) d_Pro_stateOf_5 ?_
  exact k_retI hx hb hr hlocks d_Pro_stateOf_6 (rfl)
set_option maxHeartbeats 4000000 in
set_option maxRecDepth 100000 in
theorem c_Pro_setState {l : Launch} {s0 : State} {a0 : Array Value} {D : va_G} {cI cL : ClassId} (K0 : k0 l s0 a0 D cI cL) (ad : Nat → Nat) (r : va_W) (σ : kS) (q : Nat) (v : Nat) (hq : q < 6) : kMet l y_Pro_setState (Cond.code y_Pro_setState b_Pro_setState 3 none) (rmL 0) [.ref (ad 2), .int (nI q), .int (nI v)] (kPre D vwCl s0 (wC ad cI r) σ) (.ok (none, st σ 4 q v)) (kBw D vwCl s0 (wC ad cI r)) := by
  refine k_of (by decide) (Nat.le_of_ble_eq_true rfl) ?_
  intro p e9 s m below meth c hx hb hr hlocks hown hml hex hpre ls hl
  obtain ⟨hE, hP, hD⟩ := hpre
  obtain ⟨hts, hK⟩ := K0.at (args := ([.ref (ad 2), .int (nI q), .int (nI v)] : List Value).toArray) hE
  have hl : lv_has ls 3 [(0, .ref (ad 2)), (1, .int (nI q)), (2, .int (nI v))] := hl
  have hS : va_S (kA s0) s.heap s.heap [] := va_S.rf
  refine lv_aload_n hx hb d_Pro_setState_0 rfl (lv_at hl 0 rfl) ?_
  refine va_get (D := D) (ci := nPro) (v := .ref (ad 9)) (C := R_Pro) (T := T_Pro) (N := 6) hx hb hts i_Pro hown hK hP 2 rfl rfl 0 (by decide) (hts _ tw_82) (fun _ h9 => h9) rfl d_Pro_setState_1 ?_
  refine lv_iload_n hx hb d_Pro_setState_4 rfl (lv_at hl 1 rfl) ?_
  refine lv_iload_n hx hb d_Pro_setState_5 rfl (lv_at hl 2 rfl) ?_
  refine k_astN (q0 := 9) (t0 := 0) hx hb hK hP hD hS rfl rfl (by omega) (by decide) d_Pro_setState_6 (fun H locs hP hD hS => ?_)
  obtain ⟨σ1, eσ1⟩ : ∃ z : kS, z = (st σ 4 q v) := ⟨_, rfl⟩
  have hP : va_P D vwCl (wC ad cI r σ1) H := by rw [eσ1]; exact hP
  have hD : va_D (kA s0) (wC ad cI r σ1) := by rw [eσ1]; exact hD
  exact k_retWV hx hb hr hlocks d_Pro_setState_7 hP hD hS (by subst eσ1; rfl)
set_option maxHeartbeats 4000000 in
set_option maxRecDepth 100000 in
theorem c_Pro_parentOf {l : Launch} {s0 : State} {a0 : Array Value} {D : va_G} {cI cL : ClassId} (K0 : k0 l s0 a0 D cI cL) (ad : Nat → Nat) (r : va_W) (σ : kS) (q : Nat) (hq : q < 6) : kMet l y_Pro_parentOf (Cond.code y_Pro_parentOf b_Pro_parentOf 2 (some .int)) (rmL 0) [.ref (ad 2), .int (nI q)] (kPre D vwCl s0 (wC ad cI r) σ) (.ok (some (.int (nI (σ.1 5 q))), ())) kBr := by
  refine k_of (by decide) (Nat.le_of_ble_eq_true rfl) ?_
  intro p e9 s m below meth c hx hb hr hlocks hown hml hex hpre ls hl
  obtain ⟨hE, hP, hD⟩ := hpre
  obtain ⟨hts, hK⟩ := K0.at (args := ([.ref (ad 2), .int (nI q)] : List Value).toArray) hE
  have hl : lv_has ls 2 [(0, .ref (ad 2)), (1, .int (nI q))] := hl
  have hS : va_S (kA s0) s.heap s.heap [] := va_S.rf
  refine lv_aload_n hx hb d_Pro_parentOf_0 rfl (lv_at hl 0 rfl) ?_
  refine va_get (D := D) (ci := nPro) (v := .ref (ad 10)) (C := R_Pro) (T := T_Pro) (N := 6) hx hb hts i_Pro hown hK hP 2 rfl rfl 1 (by decide) (hts _ tw_83) (fun _ h9 => h9) rfl d_Pro_parentOf_1 ?_
  refine lv_iload_n hx hb d_Pro_parentOf_4 rfl (lv_at hl 1 rfl) ?_
  refine k_aldN (q0 := 10) (t0 := 0) hx hb hK hP rfl rfl (by omega) (by decide) d_Pro_parentOf_5 ?_
  exact k_retI hx hb hr hlocks d_Pro_parentOf_6 (rfl)
set_option maxHeartbeats 4000000 in
set_option maxRecDepth 100000 in
theorem c_Pro_rootOf {l : Launch} {s0 : State} {a0 : Array Value} {D : va_G} {cI cL : ClassId} (K0 : k0 l s0 a0 D cI cL) (ad : Nat → Nat) (r : va_W) (σ : kS) (q : Nat) (hq : q < 6) : kMet l y_Pro_rootOf (Cond.code y_Pro_rootOf b_Pro_rootOf 2 (some .int)) (rmL 0) [.ref (ad 2), .int (nI q)] (kPre D vwCl s0 (wC ad cI r) σ) (.ok (some (.int (pI (σ.1 6 q))), ())) kBr := by
  refine k_of (by decide) (Nat.le_of_ble_eq_true rfl) ?_
  intro p e9 s m below meth c hx hb hr hlocks hown hml hex hpre ls hl
  obtain ⟨hE, hP, hD⟩ := hpre
  obtain ⟨hts, hK⟩ := K0.at (args := ([.ref (ad 2), .int (nI q)] : List Value).toArray) hE
  have hl : lv_has ls 2 [(0, .ref (ad 2)), (1, .int (nI q))] := hl
  have hS : va_S (kA s0) s.heap s.heap [] := va_S.rf
  refine lv_aload_n hx hb d_Pro_rootOf_0 rfl (lv_at hl 0 rfl) ?_
  refine va_get (D := D) (ci := nPro) (v := .ref (ad 11)) (C := R_Pro) (T := T_Pro) (N := 6) hx hb hts i_Pro hown hK hP 2 rfl rfl 2 (by decide) (hts _ tw_84) (fun _ h9 => h9) rfl d_Pro_rootOf_1 ?_
  refine lv_iload_n hx hb d_Pro_rootOf_4 rfl (lv_at hl 1 rfl) ?_
  refine k_aldP (q0 := 11) (t0 := 0) hx hb hK hP rfl rfl (by omega) (by decide) d_Pro_rootOf_5 ?_
  exact k_retI hx hb hr hlocks d_Pro_rootOf_6 (rfl)
set_option maxHeartbeats 4000000 in
set_option maxRecDepth 100000 in
theorem c_Pro_await {l : Launch} {s0 : State} {a0 : Array Value} {D : va_G} {cI cL : ClassId} (K0 : k0 l s0 a0 D cI cL) (ad : Nat → Nat) (r : va_W) (σ : kS) (q : Nat) (t : Nat) (en : Nat) (hq : q < 6) : kMet l y_Pro_await (Cond.code y_Pro_await b_Pro_await 4 none) (rmL 0) [.ref (ad 2), .int (nI q), .int (nI t), .int (nI en)] (kPre D vwCl s0 (wC ad cI r) σ) (.ok (none, st (st (st σ 4 q 4) 8 q t) 9 q en)) (kBw D vwCl s0 (wC ad cI r)) := by
  refine k_of (by decide) (Nat.le_of_ble_eq_true rfl) ?_
  intro p e9 s m below meth c hx hb hr hlocks hown hml hex hpre ls hl
  obtain ⟨hE, hP, hD⟩ := hpre
  obtain ⟨hts, hK⟩ := K0.at (args := ([.ref (ad 2), .int (nI q), .int (nI t), .int (nI en)] : List Value).toArray) hE
  have hl : lv_has ls 4 [(0, .ref (ad 2)), (1, .int (nI q)), (2, .int (nI t)), (3, .int (nI en))] := hl
  have hS : va_S (kA s0) s.heap s.heap [] := va_S.rf
  refine lv_aload_n hx hb d_Pro_await_0 rfl (lv_at hl 0 rfl) ?_
  refine va_get (D := D) (ci := nPro) (v := .ref (ad 9)) (C := R_Pro) (T := T_Pro) (N := 6) hx hb hts i_Pro hown hK hP 2 rfl rfl 0 (by decide) (hts _ tw_82) (fun _ h9 => h9) rfl d_Pro_await_1 ?_
  refine lv_iload_n hx hb d_Pro_await_4 rfl (lv_at hl 1 rfl) ?_
  refine lv_iconst (v := (nI 4)) hx hb d_Pro_await_5 (by decide) ?_
  refine k_astN (q0 := 9) (t0 := 0) hx hb hK hP hD hS rfl rfl (by omega) (by decide) d_Pro_await_6 (fun H locs hP hD hS => ?_)
  obtain ⟨σ1, eσ1⟩ : ∃ z : kS, z = (st σ 4 q 4) := ⟨_, rfl⟩
  have hP : va_P D vwCl (wC ad cI r σ1) H := by rw [eσ1]; exact hP
  have hD : va_D (kA s0) (wC ad cI r σ1) := by rw [eσ1]; exact hD
  refine lv_aload_n hx hb d_Pro_await_7 rfl (lv_at hl 0 rfl) ?_
  refine va_get (D := D) (ci := nPro) (v := .ref (ad 13)) (C := R_Pro) (T := T_Pro) (N := 6) hx hb hts i_Pro hown hK hP 2 rfl rfl 4 (by decide) (hts _ tw_86) (fun _ h9 => h9) rfl d_Pro_await_8 ?_
  refine lv_iload_n hx hb d_Pro_await_11 rfl (lv_at hl 1 rfl) ?_
  refine lv_iload_n hx hb d_Pro_await_12 rfl (lv_at hl 2 rfl) ?_
  refine k_astN (q0 := 13) (t0 := 0) hx hb hK hP hD hS rfl rfl (by omega) (by decide) d_Pro_await_13 (fun H locs hP hD hS => ?_)
  obtain ⟨σ2, eσ2⟩ : ∃ z : kS, z = (st σ1 8 q t) := ⟨_, rfl⟩
  have hP : va_P D vwCl (wC ad cI r σ2) H := by rw [eσ2]; exact hP
  have hD : va_D (kA s0) (wC ad cI r σ2) := by rw [eσ2]; exact hD
  refine lv_aload_n hx hb d_Pro_await_14 rfl (lv_at hl 0 rfl) ?_
  refine va_get (D := D) (ci := nPro) (v := .ref (ad 14)) (C := R_Pro) (T := T_Pro) (N := 6) hx hb hts i_Pro hown hK hP 2 rfl rfl 5 (by decide) (hts _ tw_87) (fun _ h9 => h9) rfl d_Pro_await_15 ?_
  refine lv_iload_n hx hb d_Pro_await_18 rfl (lv_at hl 1 rfl) ?_
  refine lv_iload_n hx hb d_Pro_await_19 rfl (lv_at hl 3 rfl) ?_
  refine k_astN (q0 := 14) (t0 := 0) hx hb hK hP hD hS rfl rfl (by omega) (by decide) d_Pro_await_20 (fun H locs hP hD hS => ?_)
  obtain ⟨σ3, eσ3⟩ : ∃ z : kS, z = (st σ2 9 q en) := ⟨_, rfl⟩
  have hP : va_P D vwCl (wC ad cI r σ3) H := by rw [eσ3]; exact hP
  have hD : va_D (kA s0) (wC ad cI r σ3) := by rw [eσ3]; exact hD
  exact k_retWV hx hb hr hlocks d_Pro_await_21 hP hD hS (by subst eσ3 eσ2 eσ1; rfl)
set_option maxHeartbeats 4000000 in
set_option maxRecDepth 100000 in
theorem c_Pro_awaitedTable {l : Launch} {s0 : State} {a0 : Array Value} {D : va_G} {cI cL : ClassId} (K0 : k0 l s0 a0 D cI cL) (ad : Nat → Nat) (r : va_W) (σ : kS) (q : Nat) (hq : q < 6) : kMet l y_Pro_awaitedTable (Cond.code y_Pro_awaitedTable b_Pro_awaitedTable 2 (some .int)) (rmL 0) [.ref (ad 2), .int (nI q)] (kPre D vwCl s0 (wC ad cI r) σ) (.ok (some (.int (nI (σ.1 8 q))), ())) kBr := by
  refine k_of (by decide) (Nat.le_of_ble_eq_true rfl) ?_
  intro p e9 s m below meth c hx hb hr hlocks hown hml hex hpre ls hl
  obtain ⟨hE, hP, hD⟩ := hpre
  obtain ⟨hts, hK⟩ := K0.at (args := ([.ref (ad 2), .int (nI q)] : List Value).toArray) hE
  have hl : lv_has ls 2 [(0, .ref (ad 2)), (1, .int (nI q))] := hl
  have hS : va_S (kA s0) s.heap s.heap [] := va_S.rf
  refine lv_aload_n hx hb d_Pro_awaitedTable_0 rfl (lv_at hl 0 rfl) ?_
  refine va_get (D := D) (ci := nPro) (v := .ref (ad 13)) (C := R_Pro) (T := T_Pro) (N := 6) hx hb hts i_Pro hown hK hP 2 rfl rfl 4 (by decide) (hts _ tw_86) (fun _ h9 => h9) rfl d_Pro_awaitedTable_1 ?_
  refine lv_iload_n hx hb d_Pro_awaitedTable_4 rfl (lv_at hl 1 rfl) ?_
  refine k_aldN (q0 := 13) (t0 := 0) hx hb hK hP rfl rfl (by omega) (by decide) d_Pro_awaitedTable_5 ?_
  exact k_retI hx hb hr hlocks d_Pro_awaitedTable_6 (rfl)
set_option maxHeartbeats 4000000 in
set_option maxRecDepth 100000 in
theorem c_Pro_awaitedEntry {l : Launch} {s0 : State} {a0 : Array Value} {D : va_G} {cI cL : ClassId} (K0 : k0 l s0 a0 D cI cL) (ad : Nat → Nat) (r : va_W) (σ : kS) (q : Nat) (hq : q < 6) : kMet l y_Pro_awaitedEntry (Cond.code y_Pro_awaitedEntry b_Pro_awaitedEntry 2 (some .int)) (rmL 0) [.ref (ad 2), .int (nI q)] (kPre D vwCl s0 (wC ad cI r) σ) (.ok (some (.int (nI (σ.1 9 q))), ())) kBr := by
  refine k_of (by decide) (Nat.le_of_ble_eq_true rfl) ?_
  intro p e9 s m below meth c hx hb hr hlocks hown hml hex hpre ls hl
  obtain ⟨hE, hP, hD⟩ := hpre
  obtain ⟨hts, hK⟩ := K0.at (args := ([.ref (ad 2), .int (nI q)] : List Value).toArray) hE
  have hl : lv_has ls 2 [(0, .ref (ad 2)), (1, .int (nI q))] := hl
  have hS : va_S (kA s0) s.heap s.heap [] := va_S.rf
  refine lv_aload_n hx hb d_Pro_awaitedEntry_0 rfl (lv_at hl 0 rfl) ?_
  refine va_get (D := D) (ci := nPro) (v := .ref (ad 14)) (C := R_Pro) (T := T_Pro) (N := 6) hx hb hts i_Pro hown hK hP 2 rfl rfl 5 (by decide) (hts _ tw_87) (fun _ h9 => h9) rfl d_Pro_awaitedEntry_1 ?_
  refine lv_iload_n hx hb d_Pro_awaitedEntry_4 rfl (lv_at hl 1 rfl) ?_
  refine k_aldN (q0 := 14) (t0 := 0) hx hb hK hP rfl rfl (by omega) (by decide) d_Pro_awaitedEntry_5 ?_
  exact k_retI hx hb hr hlocks d_Pro_awaitedEntry_6 (rfl)
set_option maxHeartbeats 4000000 in
set_option maxRecDepth 100000 in
theorem c_Pro_pipeOf {l : Launch} {s0 : State} {a0 : Array Value} {D : va_G} {cI cL : ClassId} (K0 : k0 l s0 a0 D cI cL) (ad : Nat → Nat) (r : va_W) (σ : kS) (q : Nat) (dd : Nat) (hq : q < 6) (hdd : dd < 4) : kMet l y_Pro_pipeOf (Cond.code y_Pro_pipeOf b_Pro_pipeOf 3 (some .int)) (rmL 0) [.ref (ad 2), .int (nI q), .int (nI dd)] (kPre D vwCl s0 (wC ad cI r) σ) (.ok (some (.int (pI (σ.1 7 (q * 4 + dd)))), ())) kBr := by
  refine k_of (by decide) (Nat.le_of_ble_eq_true rfl) ?_
  intro p e9 s m below meth c hx hb hr hlocks hown hml hex hpre ls hl
  obtain ⟨hE, hP, hD⟩ := hpre
  obtain ⟨hts, hK⟩ := K0.at (args := ([.ref (ad 2), .int (nI q), .int (nI dd)] : List Value).toArray) hE
  have hl : lv_has ls 3 [(0, .ref (ad 2)), (1, .int (nI q)), (2, .int (nI dd))] := hl
  have hS : va_S (kA s0) s.heap s.heap [] := va_S.rf
  refine lv_aload_n hx hb d_Pro_pipeOf_0 rfl (lv_at hl 0 rfl) ?_
  refine va_get (D := D) (ci := nPro) (v := .ref (ad 12)) (C := R_Pro) (T := T_Pro) (N := 6) hx hb hts i_Pro hown hK hP 2 rfl rfl 3 (by decide) (hts _ tw_85) (fun _ h9 => h9) rfl d_Pro_pipeOf_1 ?_
  refine lv_iload_n hx hb d_Pro_pipeOf_4 rfl (lv_at hl 1 rfl) ?_
  refine lv_iconst (v := (nI 4)) hx hb d_Pro_pipeOf_5 (by decide) ?_
  refine k_mulN hx hb d_Pro_pipeOf_6 ?_
  refine lv_iload_n hx hb d_Pro_pipeOf_7 rfl (lv_at hl 2 rfl) ?_
  refine k_addN hx hb d_Pro_pipeOf_8 ?_
  refine k_aldP (q0 := 12) (t0 := 0) hx hb hK hP rfl rfl (by omega) (by decide) d_Pro_pipeOf_9 ?_
  exact k_retI hx hb hr hlocks d_Pro_pipeOf_10 (rfl)
set_option maxHeartbeats 4000000 in
set_option maxRecDepth 100000 in
theorem c_Pro_setPipe {l : Launch} {s0 : State} {a0 : Array Value} {D : va_G} {cI cL : ClassId} (K0 : k0 l s0 a0 D cI cL) (ad : Nat → Nat) (r : va_W) (σ : kS) (q : Nat) (dd : Nat) (v : Nat) (hq : q < 6) (hdd : dd < 4) : kMet l y_Pro_setPipe (Cond.code y_Pro_setPipe b_Pro_setPipe 4 none) (rmL 0) [.ref (ad 2), .int (nI q), .int (nI dd), .int (pI v)] (kPre D vwCl s0 (wC ad cI r) σ) (.ok (none, st σ 7 (q * 4 + dd) v)) (kBw D vwCl s0 (wC ad cI r)) := by
  refine k_of (by decide) (Nat.le_of_ble_eq_true rfl) ?_
  intro p e9 s m below meth c hx hb hr hlocks hown hml hex hpre ls hl
  obtain ⟨hE, hP, hD⟩ := hpre
  obtain ⟨hts, hK⟩ := K0.at (args := ([.ref (ad 2), .int (nI q), .int (nI dd), .int (pI v)] : List Value).toArray) hE
  have hl : lv_has ls 4 [(0, .ref (ad 2)), (1, .int (nI q)), (2, .int (nI dd)), (3, .int (pI v))] := hl
  have hS : va_S (kA s0) s.heap s.heap [] := va_S.rf
  refine lv_aload_n hx hb d_Pro_setPipe_0 rfl (lv_at hl 0 rfl) ?_
  refine va_get (D := D) (ci := nPro) (v := .ref (ad 12)) (C := R_Pro) (T := T_Pro) (N := 6) hx hb hts i_Pro hown hK hP 2 rfl rfl 3 (by decide) (hts _ tw_85) (fun _ h9 => h9) rfl d_Pro_setPipe_1 ?_
  refine lv_iload_n hx hb d_Pro_setPipe_4 rfl (lv_at hl 1 rfl) ?_
  refine lv_iconst (v := (nI 4)) hx hb d_Pro_setPipe_5 (by decide) ?_
  refine k_mulN hx hb d_Pro_setPipe_6 ?_
  refine lv_iload_n hx hb d_Pro_setPipe_7 rfl (lv_at hl 2 rfl) ?_
  refine k_addN hx hb d_Pro_setPipe_8 ?_
  refine lv_iload_n hx hb d_Pro_setPipe_9 rfl (lv_at hl 3 rfl) ?_
  refine k_astP (q0 := 12) (t0 := 0) hx hb hK hP hD hS rfl rfl (by omega) (by decide) d_Pro_setPipe_10 (fun H locs hP hD hS => ?_)
  obtain ⟨σ1, eσ1⟩ : ∃ z : kS, z = (st σ 7 ((q * 4) + dd) v) := ⟨_, rfl⟩
  have hP : va_P D vwCl (wC ad cI r σ1) H := by rw [eσ1]; exact hP
  have hD : va_D (kA s0) (wC ad cI r σ1) := by rw [eσ1]; exact hD
  exact k_retWV hx hb hr hlocks d_Pro_setPipe_11 hP hD hS (by subst eσ1; rfl)
set_option maxHeartbeats 4000000 in
set_option maxRecDepth 100000 in
theorem c_Pro_begin {l : Launch} {s0 : State} {a0 : Array Value} {D : va_G} {cI cL : ClassId} (K0 : k0 l s0 a0 D cI cL) (ad : Nat → Nat) (r : va_W) (σ : kS) (q : Nat) (sv : Nat) (pv : Nat) (rv : Nat) (hq : q < 6) : kMet l y_Pro_begin (Cond.code y_Pro_begin b_Pro_begin 6 none) (rmL 1) [.ref (ad 2), .int (nI q), .int (nI sv), .int (nI pv), .int (pI rv)] (kPre D vwCl s0 (wC ad cI r) σ) (.ok (none, m_begin σ q sv pv rv)) (kBw D vwCl s0 (wC ad cI r)) := by
  refine k_of (by decide) (Nat.le_of_ble_eq_true rfl) ?_
  intro p e9 s m below meth c hx hb hr hlocks hown hml hex hpre ls hl
  obtain ⟨hE, hP, hD⟩ := hpre
  obtain ⟨hts, hK⟩ := K0.at (args := ([.ref (ad 2), .int (nI q), .int (nI sv), .int (nI pv), .int (pI rv)] : List Value).toArray) hE
  have hl : lv_has ls 6 [(0, .ref (ad 2)), (1, .int (nI q)), (2, .int (nI sv)), (3, .int (nI pv)), (4, .int (pI rv))] := hl
  have hS : va_S (kA s0) s.heap s.heap [] := va_S.rf
  refine lv_aload_n hx hb d_Pro_begin_0 rfl (lv_at hl 0 rfl) ?_
  refine va_get (D := D) (ci := nPro) (v := .ref (ad 9)) (C := R_Pro) (T := T_Pro) (N := 6) hx hb hts i_Pro hown hK hP 2 rfl rfl 0 (by decide) (hts _ tw_82) (fun _ h9 => h9) rfl d_Pro_begin_1 ?_
  refine lv_iload_n hx hb d_Pro_begin_4 rfl (lv_at hl 1 rfl) ?_
  refine lv_iload_n hx hb d_Pro_begin_5 rfl (lv_at hl 2 rfl) ?_
  refine k_astN (q0 := 9) (t0 := 0) hx hb hK hP hD hS rfl rfl (by omega) (by decide) d_Pro_begin_6 (fun H locs hP hD hS => ?_)
  obtain ⟨σ1, eσ1⟩ : ∃ z : kS, z = (st σ 4 q sv) := ⟨_, rfl⟩
  have hP : va_P D vwCl (wC ad cI r σ1) H := by rw [eσ1]; exact hP
  have hD : va_D (kA s0) (wC ad cI r σ1) := by rw [eσ1]; exact hD
  refine lv_aload_n hx hb d_Pro_begin_7 rfl (lv_at hl 0 rfl) ?_
  refine va_get (D := D) (ci := nPro) (v := .ref (ad 10)) (C := R_Pro) (T := T_Pro) (N := 6) hx hb hts i_Pro hown hK hP 2 rfl rfl 1 (by decide) (hts _ tw_83) (fun _ h9 => h9) rfl d_Pro_begin_8 ?_
  refine lv_iload_n hx hb d_Pro_begin_11 rfl (lv_at hl 1 rfl) ?_
  refine lv_iload_n hx hb d_Pro_begin_12 rfl (lv_at hl 3 rfl) ?_
  refine k_astN (q0 := 10) (t0 := 0) hx hb hK hP hD hS rfl rfl (by omega) (by decide) d_Pro_begin_13 (fun H locs hP hD hS => ?_)
  obtain ⟨σ2, eσ2⟩ : ∃ z : kS, z = (st σ1 5 q pv) := ⟨_, rfl⟩
  have hP : va_P D vwCl (wC ad cI r σ2) H := by rw [eσ2]; exact hP
  have hD : va_D (kA s0) (wC ad cI r σ2) := by rw [eσ2]; exact hD
  refine lv_aload_n hx hb d_Pro_begin_14 rfl (lv_at hl 0 rfl) ?_
  refine va_get (D := D) (ci := nPro) (v := .ref (ad 11)) (C := R_Pro) (T := T_Pro) (N := 6) hx hb hts i_Pro hown hK hP 2 rfl rfl 2 (by decide) (hts _ tw_84) (fun _ h9 => h9) rfl d_Pro_begin_15 ?_
  refine lv_iload_n hx hb d_Pro_begin_18 rfl (lv_at hl 1 rfl) ?_
  refine lv_iload hx hb d_Pro_begin_19 (lv_at hl 4 rfl) ?_
  refine k_astP (q0 := 11) (t0 := 0) hx hb hK hP hD hS rfl rfl (by omega) (by decide) d_Pro_begin_21 (fun H locs hP hD hS => ?_)
  obtain ⟨σ3, eσ3⟩ : ∃ z : kS, z = (st σ2 6 q rv) := ⟨_, rfl⟩
  have hP : va_P D vwCl (wC ad cI r σ3) H := by rw [eσ3]; exact hP
  have hD : va_D (kA s0) (wC ad cI r σ3) := by rw [eσ3]; exact hD
  refine lv_iconst (v := (nI 0)) hx hb d_Pro_begin_22 (by decide) ?_
  refine lv_istore (lv' := [(5, .int (nI 0)), (0, .ref (ad 2)), (1, .int (nI q)), (2, .int (nI sv)), (3, .int (nI pv)), (4, .int (pI rv))]) hx hb d_Pro_begin_23 hl (by decide) rfl (fun ls hl => ?_)
  refine lv_iload hx hb d_Pro_begin_25 (lv_at hl 0 rfl) ?_
  refine lv_iconst (v := (nI 4)) hx hb d_Pro_begin_27 (by decide) ?_
  refine k_geN (tgt := 45) (by decide) (by decide) hx hb d_Pro_begin_28 (by decide) (fun h9 => absurd h9 (by decide)) (fun _ => ?_)
  refine lv_aload_n hx hb d_Pro_begin_31 rfl (lv_at hl 1 rfl) ?_
  refine lv_iload_n hx hb d_Pro_begin_32 rfl (lv_at hl 2 rfl) ?_
  refine lv_iload hx hb d_Pro_begin_33 (lv_at hl 0 rfl) ?_
  refine lv_iconst (v := (pI 0)) hx hb d_Pro_begin_35 (by decide) ?_
  refine k_callW (k_atV (As := [.int (nI q), .int (nI 0), .int (pI 0)]) hx hb hown hE.1 (K0.w tw_81) (hts _ tw_78) (hts _ tw_79) (hts _ tw_80) (hts _ tw_3) (by decide) np_Pro_setPipe (va_recv hK hP (ci := nPro) (q0 := 2) rfl rfl) rfl d_Pro_begin_36) (c_Pro_setPipe K0 ad r σ3 q 0 0 (by omega) (by omega)) (hl.1.trans hml.symm) (Nat.le_of_ble_eq_true rfl) ⟨Nat.le_of_ble_eq_true rfl, Nat.le_of_ble_eq_true rfl, Nat.le_of_ble_eq_true rfl, Nat.le_of_ble_eq_true rfl⟩ (fun U hU hW => ⟨hE.go hW hU hS, by rw [hU]; exact hP, hD⟩) hS (fun H locs hP hD hS => ?_)
  obtain ⟨σ4, eσ4⟩ : ∃ z : kS, z = (st σ3 7 (q * 4 + 0) 0) := ⟨_, rfl⟩
  have hP : va_P D vwCl (wC ad cI r σ4) H := by rw [eσ4]; exact hP
  have hD : va_D (kA s0) (wC ad cI r σ4) := by rw [eσ4]; exact hD
  refine lv_iinc (v := (nI 1)) (lv' := [(5, .int (nI 1)), (0, .ref (ad 2)), (1, .int (nI q)), (2, .int (nI sv)), (3, .int (nI pv)), (4, .int (pI rv))]) hx hb d_Pro_begin_39 hl (k := 0) rfl (nI_1 _) (by decide) rfl (fun ls hl => ?_)
  refine lv_goto (tgt := 25) hx hb d_Pro_begin_42 (by decide) ?_
  refine lv_iload hx hb d_Pro_begin_25 (lv_at hl 0 rfl) ?_
  refine lv_iconst (v := (nI 4)) hx hb d_Pro_begin_27 (by decide) ?_
  refine k_geN (tgt := 45) (by decide) (by decide) hx hb d_Pro_begin_28 (by decide) (fun h9 => absurd h9 (by decide)) (fun _ => ?_)
  refine lv_aload_n hx hb d_Pro_begin_31 rfl (lv_at hl 1 rfl) ?_
  refine lv_iload_n hx hb d_Pro_begin_32 rfl (lv_at hl 2 rfl) ?_
  refine lv_iload hx hb d_Pro_begin_33 (lv_at hl 0 rfl) ?_
  refine lv_iconst (v := (pI 0)) hx hb d_Pro_begin_35 (by decide) ?_
  refine k_callW (k_atV (As := [.int (nI q), .int (nI 1), .int (pI 0)]) hx hb hown hE.1 (K0.w tw_81) (hts _ tw_78) (hts _ tw_79) (hts _ tw_80) (hts _ tw_3) (by decide) np_Pro_setPipe (va_recv hK hP (ci := nPro) (q0 := 2) rfl rfl) rfl d_Pro_begin_36) (c_Pro_setPipe K0 ad r σ4 q 1 0 (by omega) (by omega)) (hl.1.trans hml.symm) (Nat.le_of_ble_eq_true rfl) ⟨Nat.le_of_ble_eq_true rfl, Nat.le_of_ble_eq_true rfl, Nat.le_of_ble_eq_true rfl, Nat.le_of_ble_eq_true rfl⟩ (fun U hU hW => ⟨hE.go hW hU hS, by rw [hU]; exact hP, hD⟩) hS (fun H locs hP hD hS => ?_)
  obtain ⟨σ5, eσ5⟩ : ∃ z : kS, z = (st σ4 7 (q * 4 + 1) 0) := ⟨_, rfl⟩
  have hP : va_P D vwCl (wC ad cI r σ5) H := by rw [eσ5]; exact hP
  have hD : va_D (kA s0) (wC ad cI r σ5) := by rw [eσ5]; exact hD
  refine lv_iinc (v := (nI 2)) (lv' := [(5, .int (nI 2)), (0, .ref (ad 2)), (1, .int (nI q)), (2, .int (nI sv)), (3, .int (nI pv)), (4, .int (pI rv))]) hx hb d_Pro_begin_39 hl (k := 0) rfl (nI_1 _) (by decide) rfl (fun ls hl => ?_)
  refine lv_goto (tgt := 25) hx hb d_Pro_begin_42 (by decide) ?_
  refine lv_iload hx hb d_Pro_begin_25 (lv_at hl 0 rfl) ?_
  refine lv_iconst (v := (nI 4)) hx hb d_Pro_begin_27 (by decide) ?_
  refine k_geN (tgt := 45) (by decide) (by decide) hx hb d_Pro_begin_28 (by decide) (fun h9 => absurd h9 (by decide)) (fun _ => ?_)
  refine lv_aload_n hx hb d_Pro_begin_31 rfl (lv_at hl 1 rfl) ?_
  refine lv_iload_n hx hb d_Pro_begin_32 rfl (lv_at hl 2 rfl) ?_
  refine lv_iload hx hb d_Pro_begin_33 (lv_at hl 0 rfl) ?_
  refine lv_iconst (v := (pI 0)) hx hb d_Pro_begin_35 (by decide) ?_
  refine k_callW (k_atV (As := [.int (nI q), .int (nI 2), .int (pI 0)]) hx hb hown hE.1 (K0.w tw_81) (hts _ tw_78) (hts _ tw_79) (hts _ tw_80) (hts _ tw_3) (by decide) np_Pro_setPipe (va_recv hK hP (ci := nPro) (q0 := 2) rfl rfl) rfl d_Pro_begin_36) (c_Pro_setPipe K0 ad r σ5 q 2 0 (by omega) (by omega)) (hl.1.trans hml.symm) (Nat.le_of_ble_eq_true rfl) ⟨Nat.le_of_ble_eq_true rfl, Nat.le_of_ble_eq_true rfl, Nat.le_of_ble_eq_true rfl, Nat.le_of_ble_eq_true rfl⟩ (fun U hU hW => ⟨hE.go hW hU hS, by rw [hU]; exact hP, hD⟩) hS (fun H locs hP hD hS => ?_)
  obtain ⟨σ6, eσ6⟩ : ∃ z : kS, z = (st σ5 7 (q * 4 + 2) 0) := ⟨_, rfl⟩
  have hP : va_P D vwCl (wC ad cI r σ6) H := by rw [eσ6]; exact hP
  have hD : va_D (kA s0) (wC ad cI r σ6) := by rw [eσ6]; exact hD
  refine lv_iinc (v := (nI 3)) (lv' := [(5, .int (nI 3)), (0, .ref (ad 2)), (1, .int (nI q)), (2, .int (nI sv)), (3, .int (nI pv)), (4, .int (pI rv))]) hx hb d_Pro_begin_39 hl (k := 0) rfl (nI_1 _) (by decide) rfl (fun ls hl => ?_)
  refine lv_goto (tgt := 25) hx hb d_Pro_begin_42 (by decide) ?_
  refine lv_iload hx hb d_Pro_begin_25 (lv_at hl 0 rfl) ?_
  refine lv_iconst (v := (nI 4)) hx hb d_Pro_begin_27 (by decide) ?_
  refine k_geN (tgt := 45) (by decide) (by decide) hx hb d_Pro_begin_28 (by decide) (fun h9 => absurd h9 (by decide)) (fun _ => ?_)
  refine lv_aload_n hx hb d_Pro_begin_31 rfl (lv_at hl 1 rfl) ?_
  refine lv_iload_n hx hb d_Pro_begin_32 rfl (lv_at hl 2 rfl) ?_
  refine lv_iload hx hb d_Pro_begin_33 (lv_at hl 0 rfl) ?_
  refine lv_iconst (v := (pI 0)) hx hb d_Pro_begin_35 (by decide) ?_
  refine k_callW (k_atV (As := [.int (nI q), .int (nI 3), .int (pI 0)]) hx hb hown hE.1 (K0.w tw_81) (hts _ tw_78) (hts _ tw_79) (hts _ tw_80) (hts _ tw_3) (by decide) np_Pro_setPipe (va_recv hK hP (ci := nPro) (q0 := 2) rfl rfl) rfl d_Pro_begin_36) (c_Pro_setPipe K0 ad r σ6 q 3 0 (by omega) (by omega)) (hl.1.trans hml.symm) (Nat.le_of_ble_eq_true rfl) ⟨Nat.le_of_ble_eq_true rfl, Nat.le_of_ble_eq_true rfl, Nat.le_of_ble_eq_true rfl, Nat.le_of_ble_eq_true rfl⟩ (fun U hU hW => ⟨hE.go hW hU hS, by rw [hU]; exact hP, hD⟩) hS (fun H locs hP hD hS => ?_)
  obtain ⟨σ7, eσ7⟩ : ∃ z : kS, z = (st σ6 7 (q * 4 + 3) 0) := ⟨_, rfl⟩
  have hP : va_P D vwCl (wC ad cI r σ7) H := by rw [eσ7]; exact hP
  have hD : va_D (kA s0) (wC ad cI r σ7) := by rw [eσ7]; exact hD
  refine lv_iinc (v := (nI 4)) (lv' := [(5, .int (nI 4)), (0, .ref (ad 2)), (1, .int (nI q)), (2, .int (nI sv)), (3, .int (nI pv)), (4, .int (pI rv))]) hx hb d_Pro_begin_39 hl (k := 0) rfl (nI_1 _) (by decide) rfl (fun ls hl => ?_)
  refine lv_goto (tgt := 25) hx hb d_Pro_begin_42 (by decide) ?_
  refine lv_iload hx hb d_Pro_begin_25 (lv_at hl 0 rfl) ?_
  refine lv_iconst (v := (nI 4)) hx hb d_Pro_begin_27 (by decide) ?_
  refine k_geN (tgt := 45) (by decide) (by decide) hx hb d_Pro_begin_28 (by decide) (fun _ => ?_) (fun h9 => absurd h9 (by decide))
  exact k_retWV hx hb hr hlocks d_Pro_begin_45 hP hD hS (by subst eσ7 eσ6 eσ5 eσ4 eσ3 eσ2 eσ1; rfl)
set_option maxHeartbeats 4000000 in
set_option maxRecDepth 100000 in
theorem c_Pro_end {l : Launch} {s0 : State} {a0 : Array Value} {D : va_G} {cI cL : ClassId} (K0 : k0 l s0 a0 D cI cL) (ad : Nat → Nat) (r : va_W) (σ : kS) (q : Nat) (hq : q < 6) : kMet l y_Pro_end (Cond.code y_Pro_end b_Pro_end 2 none) (rmL 2) [.ref (ad 2), .int (nI q)] (kPre D vwCl s0 (wC ad cI r) σ) (.ok (none, m_begin σ q 0 0 0)) (kBw D vwCl s0 (wC ad cI r)) := by
  refine k_of (by decide) (Nat.le_of_ble_eq_true rfl) ?_
  intro p e9 s m below meth c hx hb hr hlocks hown hml hex hpre ls hl
  obtain ⟨hE, hP, hD⟩ := hpre
  obtain ⟨hts, hK⟩ := K0.at (args := ([.ref (ad 2), .int (nI q)] : List Value).toArray) hE
  have hl : lv_has ls 2 [(0, .ref (ad 2)), (1, .int (nI q))] := hl
  have hS : va_S (kA s0) s.heap s.heap [] := va_S.rf
  refine lv_aload_n hx hb d_Pro_end_0 rfl (lv_at hl 0 rfl) ?_
  refine lv_iload_n hx hb d_Pro_end_1 rfl (lv_at hl 1 rfl) ?_
  refine lv_iconst (v := (nI 0)) hx hb d_Pro_end_2 (by decide) ?_
  refine lv_iconst (v := (nI 0)) hx hb d_Pro_end_3 (by decide) ?_
  refine lv_iconst (v := (pI 0)) hx hb d_Pro_end_4 (by decide) ?_
  refine k_callW (k_atV (As := [.int (nI q), .int (nI 0), .int (nI 0), .int (pI 0)]) hx hb hown hE.1 (K0.w tw_77) (hts _ tw_74) (hts _ tw_75) (hts _ tw_76) (hts _ tw_3) (by decide) np_Pro_begin (va_recv hK hP (ci := nPro) (q0 := 2) rfl rfl) rfl d_Pro_end_5) (c_Pro_begin K0 ad r σ q 0 0 0 (by omega)) (hl.1.trans hml.symm) (Nat.le_of_ble_eq_true rfl) ⟨Nat.le_of_ble_eq_true rfl, Nat.le_of_ble_eq_true rfl, Nat.le_of_ble_eq_true rfl, Nat.le_of_ble_eq_true rfl⟩ (fun U hU hW => ⟨hE.go hW hU hS, by rw [hU]; exact hP, hD⟩) hS (fun H locs hP hD hS => ?_)
  obtain ⟨σ1, eσ1⟩ : ∃ z : kS, z = (m_begin σ q 0 0 0) := ⟨_, rfl⟩
  have hP : va_P D vwCl (wC ad cI r σ1) H := by rw [eσ1]; exact hP
  have hD : va_D (kA s0) (wC ad cI r σ1) := by rw [eσ1]; exact hD
  exact k_retWV hx hb hr hlocks d_Pro_end_8 hP hD hS (by subst eσ1; rfl)
set_option maxHeartbeats 4000000 in
set_option maxRecDepth 100000 in
theorem c_Pip_makeEmpty {l : Launch} {s0 : State} {a0 : Array Value} {D : va_G} {cI cL : ClassId} (K0 : k0 l s0 a0 D cI cL) (ad : Nat → Nat) (r : va_W) (σ : kS) (i : Nat) (hi : i < 3) : kMet l y_Pip_makeEmpty (Cond.code y_Pip_makeEmpty b_Pip_makeEmpty 2 none) (rmL 0) [.ref (ad 3), .int (nI i)] (kPre D vwCl s0 (wC ad cI r) σ) (.ok (none, st σ 10 i 0)) (kBw D vwCl s0 (wC ad cI r)) := by
  refine k_of (by decide) (Nat.le_of_ble_eq_true rfl) ?_
  intro p e9 s m below meth c hx hb hr hlocks hown hml hex hpre ls hl
  obtain ⟨hE, hP, hD⟩ := hpre
  obtain ⟨hts, hK⟩ := K0.at (args := ([.ref (ad 3), .int (nI i)] : List Value).toArray) hE
  have hl : lv_has ls 2 [(0, .ref (ad 3)), (1, .int (nI i))] := hl
  have hS : va_S (kA s0) s.heap s.heap [] := va_S.rf
  refine lv_aload_n hx hb d_Pip_makeEmpty_0 rfl (lv_at hl 0 rfl) ?_
  refine va_get (D := D) (ci := nPip) (v := .ref (ad 15)) (C := R_Pip) (T := T_Pip) (N := 2) hx hb hts i_Pip hown hK hP 3 rfl rfl 0 (by decide) (hts _ tw_107) (fun _ h9 => h9) rfl d_Pip_makeEmpty_1 ?_
  refine lv_iload_n hx hb d_Pip_makeEmpty_4 rfl (lv_at hl 1 rfl) ?_
  refine lv_iconst (v := (nI 0)) hx hb d_Pip_makeEmpty_5 (by decide) ?_
  refine k_astN (q0 := 15) (t0 := 0) hx hb hK hP hD hS rfl rfl (by omega) (by decide) d_Pip_makeEmpty_6 (fun H locs hP hD hS => ?_)
  obtain ⟨σ1, eσ1⟩ : ∃ z : kS, z = (st σ 10 i 0) := ⟨_, rfl⟩
  have hP : va_P D vwCl (wC ad cI r σ1) H := by rw [eσ1]; exact hP
  have hD : va_D (kA s0) (wC ad cI r σ1) := by rw [eσ1]; exact hD
  exact k_retWV hx hb hr hlocks d_Pip_makeEmpty_7 hP hD hS (by subst eσ1; rfl)
set_option maxHeartbeats 4000000 in
set_option maxRecDepth 100000 in
theorem c_Pip_held {l : Launch} {s0 : State} {a0 : Array Value} {D : va_G} {cI cL : ClassId} (K0 : k0 l s0 a0 D cI cL) (ad : Nat → Nat) (r : va_W) (σ : kS) (i : Nat) (hi : i < 3) : kMet l y_Pip_held (Cond.code y_Pip_held b_Pip_held 2 (some .int)) (rmL 0) [.ref (ad 3), .int (nI i)] (kPre D vwCl s0 (wC ad cI r) σ) (.ok (some (.int (nI (σ.1 10 i))), ())) kBr := by
  refine k_of (by decide) (Nat.le_of_ble_eq_true rfl) ?_
  intro p e9 s m below meth c hx hb hr hlocks hown hml hex hpre ls hl
  obtain ⟨hE, hP, hD⟩ := hpre
  obtain ⟨hts, hK⟩ := K0.at (args := ([.ref (ad 3), .int (nI i)] : List Value).toArray) hE
  have hl : lv_has ls 2 [(0, .ref (ad 3)), (1, .int (nI i))] := hl
  have hS : va_S (kA s0) s.heap s.heap [] := va_S.rf
  refine lv_aload_n hx hb d_Pip_held_0 rfl (lv_at hl 0 rfl) ?_
  refine va_get (D := D) (ci := nPip) (v := .ref (ad 15)) (C := R_Pip) (T := T_Pip) (N := 2) hx hb hts i_Pip hown hK hP 3 rfl rfl 0 (by decide) (hts _ tw_107) (fun _ h9 => h9) rfl d_Pip_held_1 ?_
  refine lv_iload_n hx hb d_Pip_held_4 rfl (lv_at hl 1 rfl) ?_
  refine k_aldN (q0 := 15) (t0 := 0) hx hb hK hP rfl rfl (by omega) (by decide) d_Pip_held_5 ?_
  exact k_retI hx hb hr hlocks d_Pip_held_6 (rfl)
set_option maxHeartbeats 4000000 in
set_option maxRecDepth 100000 in
theorem c_Pip_append {l : Launch} {s0 : State} {a0 : Array Value} {D : va_G} {cI cL : ClassId} (K0 : k0 l s0 a0 D cI cL) (ad : Nat → Nat) (r : va_W) (σ : kS) (i : Nat) (v : Int32) (hi : i < 3) (hz : σ.1 10 i < 4) : kMet l y_Pip_append (Cond.code y_Pip_append b_Pip_append 3 none) (rmL 0) [.ref (ad 3), .int (nI i), .int v] (kPre D vwCl s0 (wC ad cI r) σ) (.ok (none, st (sw σ 1 (i * 4 + σ.1 10 i) v) 10 i (σ.1 10 i + 1))) (kBw D vwCl s0 (wC ad cI r)) := by
  refine k_of (by decide) (Nat.le_of_ble_eq_true rfl) ?_
  intro p e9 s m below meth c hx hb hr hlocks hown hml hex hpre ls hl
  obtain ⟨hE, hP, hD⟩ := hpre
  obtain ⟨hts, hK⟩ := K0.at (args := ([.ref (ad 3), .int (nI i), .int v] : List Value).toArray) hE
  have hl : lv_has ls 3 [(0, .ref (ad 3)), (1, .int (nI i)), (2, .int v)] := hl
  have hS : va_S (kA s0) s.heap s.heap [] := va_S.rf
  refine lv_aload_n hx hb d_Pip_append_0 rfl (lv_at hl 0 rfl) ?_
  refine va_get (D := D) (ci := nPip) (v := .ref (ad 16)) (C := R_Pip) (T := T_Pip) (N := 2) hx hb hts i_Pip hown hK hP 3 rfl rfl 1 (by decide) (hts _ tw_108) (fun _ h9 => h9) rfl d_Pip_append_1 ?_
  refine lv_iload_n hx hb d_Pip_append_4 rfl (lv_at hl 1 rfl) ?_
  refine lv_iconst (v := (nI 4)) hx hb d_Pip_append_5 (by decide) ?_
  refine k_mulN hx hb d_Pip_append_6 ?_
  refine lv_aload_n hx hb d_Pip_append_7 rfl (lv_at hl 0 rfl) ?_
  refine va_get (D := D) (ci := nPip) (v := .ref (ad 15)) (C := R_Pip) (T := T_Pip) (N := 2) hx hb hts i_Pip hown hK hP 3 rfl rfl 0 (by decide) (hts _ tw_107) (fun _ h9 => h9) rfl d_Pip_append_8 ?_
  refine lv_iload_n hx hb d_Pip_append_11 rfl (lv_at hl 1 rfl) ?_
  refine k_aldN (q0 := 15) (t0 := 0) hx hb hK hP rfl rfl (by omega) (by decide) d_Pip_append_12 ?_
  refine k_addN hx hb d_Pip_append_13 ?_
  refine lv_iload_n hx hb d_Pip_append_14 rfl (lv_at hl 2 rfl) ?_
  refine k_astI (q0 := 16) (t0 := 0) hx hb hK hP hD hS rfl rfl (by omega) (by decide) d_Pip_append_15 (fun H locs hP hD hS => ?_)
  obtain ⟨σ1, eσ1⟩ : ∃ z : kS, z = (sw σ 1 ((i * 4) + (σ.1 10 i)) v) := ⟨_, rfl⟩
  have hP : va_P D vwCl (wC ad cI r σ1) H := by rw [eσ1]; exact hP
  have hD : va_D (kA s0) (wC ad cI r σ1) := by rw [eσ1]; exact hD
  refine lv_aload_n hx hb d_Pip_append_16 rfl (lv_at hl 0 rfl) ?_
  refine va_get (D := D) (ci := nPip) (v := .ref (ad 15)) (C := R_Pip) (T := T_Pip) (N := 2) hx hb hts i_Pip hown hK hP 3 rfl rfl 0 (by decide) (hts _ tw_107) (fun _ h9 => h9) rfl d_Pip_append_17 ?_
  refine lv_iload_n hx hb d_Pip_append_20 rfl (lv_at hl 1 rfl) ?_
  refine lv_dup2_11 hx hb d_Pip_append_21 rfl rfl ?_
  refine k_aldN (q0 := 15) (t0 := 0) hx hb hK hP rfl rfl (by omega) (by decide) d_Pip_append_22 ?_
  refine lv_iconst (v := (nI 1)) hx hb d_Pip_append_23 (by decide) ?_
  refine k_addN hx hb d_Pip_append_24 ?_
  refine k_astN (q0 := 15) (t0 := 0) hx hb hK hP hD hS rfl rfl (by omega) (by decide) d_Pip_append_25 (fun H locs hP hD hS => ?_)
  obtain ⟨σ2, eσ2⟩ : ∃ z : kS, z = (st σ1 10 i ((σ1.1 10 i) + 1)) := ⟨_, rfl⟩
  have hP : va_P D vwCl (wC ad cI r σ2) H := by rw [eσ2]; exact hP
  have hD : va_D (kA s0) (wC ad cI r σ2) := by rw [eσ2]; exact hD
  exact k_retWV hx hb hr hlocks d_Pip_append_26 hP hD hS (by subst eσ2 eσ1; rfl)
end
section
/-! The loops that count. Laid by a program of mine (wip/gen). -/
set_option maxHeartbeats 4000000 in
set_option maxRecDepth 100000 in
theorem c_Mem_filledEntries {l : Launch} {s0 : State} {a0 : Array Value} {D : va_G} {cI cL : ClassId} (K0 : k0 l s0 a0 D cI cL) (ad : Nat → Nat) (r : va_W) (σ : kS) (g : Nat) (hg : g < 20) (hb2 : ∀ i, i < 80 → σ.1 2 i < 2 ^ 30) : kMet l y_Mem_filledEntries (Cond.code y_Mem_filledEntries b_Mem_filledEntries 4 (some .int)) (rmL 1) [.ref (ad 1), .int (nI g)] (kPre D vwCl s0 (wC ad cI r) σ) (.ok (some (.int (nI (filled σ g))), ())) kBr := by
  refine k_of (by decide) (Nat.le_of_ble_eq_true rfl) ?_
  intro p e9 s m below meth c hx hb hr hlocks hown hml hex hpre ls hl
  obtain ⟨hE, hP, hD⟩ := hpre
  obtain ⟨hts, hK⟩ := K0.at (args := ([.ref (ad 1), .int (nI g)] : List Value).toArray) hE
  have hl : lv_has ls 4 [(0, .ref (ad 1)), (1, .int (nI g))] := hl
  have hS : va_S (kA s0) s.heap s.heap [] := va_S.rf
  refine lv_iconst (v := (nI 0)) hx hb d_Mem_filledEntries_0 (by decide) ?_
  refine lv_istore_n (lv' := [(2, .int (nI 0)), (0, .ref (ad 1)), (1, .int (nI g))]) hx hb d_Mem_filledEntries_1 rfl hl (by decide) rfl (fun ls hl => ?_)
  refine lv_iconst (v := (nI 0)) hx hb d_Mem_filledEntries_2 (by decide) ?_
  refine lv_istore_n (lv' := [(3, .int (nI 0)), (2, .int (nI 0)), (0, .ref (ad 1)), (1, .int (nI g))]) hx hb d_Mem_filledEntries_3 rfl hl (by decide) rfl (fun ls hl => ?_)
  have L : ∀ (n i : Nat), 0 ≤ i → i + n = 4 → ∀ ls : Array Slot, lv_has ls 4 [(3, .int (nI i)), (2, .int (nI (cnt (fun e => σ.1 2 (g * 4 + e) != 0) i))), (0, .ref (ad 1)), (1, .int (nI g))] → W p l e9 (rmL 1) s m ([.ref (ad 1), .int (nI g)] : List Value).toArray below meth c s.heap [] 0 0 (kE below (.ok (some (.int (nI (filled σ g))), ())) kBr s) (F0 m 4 ls []) := by
    intro n
    induction n with
    | zero =>
      intro i hi0 hi ls hl
      obtain rfl : i = 4 := by omega
      refine lv_iload_n hx hb d_Mem_filledEntries_4 rfl (lv_at hl 0 rfl) ?_
      refine lv_iconst (v := (nI 4)) hx hb d_Mem_filledEntries_5 (by decide) ?_
      refine k_geN (tgt := 28) (by decide) (by decide) hx hb d_Mem_filledEntries_6 (by decide) (fun _ => ?_) (fun h9 => absurd h9 (by decide))
      refine lv_iload_n hx hb d_Mem_filledEntries_28 rfl (lv_at hl 1 rfl) ?_
      exact k_retI hx hb hr hlocks d_Mem_filledEntries_29 (rfl)
    | succ n ih =>
      intro i hi0 hi ls hl
      have hlt : i < 4 := by omega
      refine lv_iload_n hx hb d_Mem_filledEntries_4 rfl (lv_at hl 0 rfl) ?_
      refine lv_iconst (v := (nI 4)) hx hb d_Mem_filledEntries_5 (by decide) ?_
      refine k_geN (tgt := 28) (by omega) (by omega) hx hb d_Mem_filledEntries_6 (by decide) (fun h9 => absurd h9 (by omega)) (fun _ => ?_)
      refine lv_aload_n hx hb d_Mem_filledEntries_9 rfl (lv_at hl 2 rfl) ?_
      refine lv_iload_n hx hb d_Mem_filledEntries_10 rfl (lv_at hl 3 rfl) ?_
      refine lv_iload_n hx hb d_Mem_filledEntries_11 rfl (lv_at hl 0 rfl) ?_
      refine k_callR (k_atV (As := [.int (nI g), .int (nI i)]) hx hb hown hE.1 (K0.w tw_302) (hts _ tw_372) (hts _ tw_300) (hts _ tw_301) (hts _ tw_2) (by decide) np_Mem_pageIn (va_recv hK hP (ci := nMem) (q0 := 1) rfl rfl) rfl d_Mem_filledEntries_12) (c_Mem_pageIn K0 ad r σ g i (by omega) (by omega)) (hl.1.trans hml.symm) (Nat.le_of_ble_eq_true rfl) ⟨Nat.le_of_ble_eq_true rfl, Nat.le_of_ble_eq_true rfl, Nat.le_of_ble_eq_true rfl, Nat.le_of_ble_eq_true rfl⟩ (fun U hU hW => ⟨hE.go hW hU hS, by rw [hU]; exact hP, hD⟩) ?_
      refine lv_iconst (v := (pI 0)) hx hb d_Mem_filledEntries_15 (by decide) ?_
      refine k_eqP (tgt := 22) (hb2 _ (by omega)) (by omega) hx hb d_Mem_filledEntries_16 (by decide) (fun h1 => ?_) (fun h1 => ?_)
      · refine lv_iinc (v := (nI (i + 1))) (lv' := [(3, .int (nI (i + 1))), (2, .int (nI (cnt (fun e => σ.1 2 (g * 4 + e) != 0) i))), (0, .ref (ad 1)), (1, .int (nI g))]) hx hb d_Mem_filledEntries_22 hl (k := 0) rfl (nI_1 _) (by decide) rfl (fun ls hl => ?_)
        refine lv_goto (tgt := 4) hx hb d_Mem_filledEntries_25 (by decide) ?_
        exact ih (i + 1) (by omega) (by omega) ls (by rw [cnt_f (by first | (simp [h1]; done) | (simp [h1]; omega))]; exact lv_sub hl [0, 1, 2, 3] rfl)
      · refine lv_iinc (v := (nI ((cnt (fun e => σ.1 2 (g * 4 + e) != 0) i) + 1))) (lv' := [(2, .int (nI ((cnt (fun e => σ.1 2 (g * 4 + e) != 0) i) + 1))), (3, .int (nI i)), (0, .ref (ad 1)), (1, .int (nI g))]) hx hb d_Mem_filledEntries_19 hl (k := 1) rfl (nI_1 _) (by decide) rfl (fun ls hl => ?_)
        refine lv_iinc (v := (nI (i + 1))) (lv' := [(3, .int (nI (i + 1))), (2, .int (nI ((cnt (fun e => σ.1 2 (g * 4 + e) != 0) i) + 1))), (0, .ref (ad 1)), (1, .int (nI g))]) hx hb d_Mem_filledEntries_22 hl (k := 1) rfl (nI_1 _) (by decide) rfl (fun ls hl => ?_)
        refine lv_goto (tgt := 4) hx hb d_Mem_filledEntries_25 (by decide) ?_
        exact ih (i + 1) (by omega) (by omega) ls (by rw [cnt_t (by first | (simp [h1]; done) | (simp [h1]; omega))]; exact lv_sub hl [0, 1, 2, 3] rfl)
  exact L 4 0 (by omega) (by omega) ls (lv_sub hl [0, 1, 2, 3] rfl)
set_option maxHeartbeats 4000000 in
set_option maxRecDepth 100000 in
theorem c_Mem_pagesOf {l : Launch} {s0 : State} {a0 : Array Value} {D : va_G} {cI cL : ClassId} (K0 : k0 l s0 a0 D cI cL) (ad : Nat → Nat) (r : va_W) (σ : kS) (o : Nat) (ho : o < 2 ^ 30) (hb1 : ∀ i, i < 20 → σ.1 1 i < 2 ^ 30) : kMet l y_Mem_pagesOf (Cond.code y_Mem_pagesOf b_Mem_pagesOf 4 (some .int)) (rmL 0) [.ref (ad 1), .int (nI o)] (kPre D vwCl s0 (wC ad cI r) σ) (.ok (some (.int (nI (owned σ o))), ())) kBr := by
  refine k_of (by decide) (Nat.le_of_ble_eq_true rfl) ?_
  intro p e9 s m below meth c hx hb hr hlocks hown hml hex hpre ls hl
  obtain ⟨hE, hP, hD⟩ := hpre
  obtain ⟨hts, hK⟩ := K0.at (args := ([.ref (ad 1), .int (nI o)] : List Value).toArray) hE
  have hl : lv_has ls 4 [(0, .ref (ad 1)), (1, .int (nI o))] := hl
  have hS : va_S (kA s0) s.heap s.heap [] := va_S.rf
  refine lv_iconst (v := (nI 0)) hx hb d_Mem_pagesOf_0 (by decide) ?_
  refine lv_istore_n (lv' := [(2, .int (nI 0)), (0, .ref (ad 1)), (1, .int (nI o))]) hx hb d_Mem_pagesOf_1 rfl hl (by decide) rfl (fun ls hl => ?_)
  refine lv_iconst (v := (nI 0)) hx hb d_Mem_pagesOf_2 (by decide) ?_
  refine lv_istore_n (lv' := [(3, .int (nI 0)), (2, .int (nI 0)), (0, .ref (ad 1)), (1, .int (nI o))]) hx hb d_Mem_pagesOf_3 rfl hl (by decide) rfl (fun ls hl => ?_)
  have L : ∀ (n i : Nat), 0 ≤ i → i + n = 20 → ∀ ls : Array Slot, lv_has ls 4 [(3, .int (nI i)), (2, .int (nI (cnt (fun g => σ.1 1 g == o) i))), (0, .ref (ad 1)), (1, .int (nI o))] → W p l e9 (rmL 0) s m ([.ref (ad 1), .int (nI o)] : List Value).toArray below meth c s.heap [] 0 0 (kE below (.ok (some (.int (nI (owned σ o))), ())) kBr s) (F0 m 4 ls []) := by
    intro n
    induction n with
    | zero =>
      intro i hi0 hi ls hl
      obtain rfl : i = 20 := by omega
      refine lv_iload_n hx hb d_Mem_pagesOf_4 rfl (lv_at hl 0 rfl) ?_
      refine lv_bipush (v := (nI 20)) hx hb d_Mem_pagesOf_5 (by decide) ?_
      refine k_geN (tgt := 29) (by decide) (by decide) hx hb d_Mem_pagesOf_7 (by decide) (fun _ => ?_) (fun h9 => absurd h9 (by decide))
      refine lv_iload_n hx hb d_Mem_pagesOf_29 rfl (lv_at hl 1 rfl) ?_
      exact k_retI hx hb hr hlocks d_Mem_pagesOf_30 (rfl)
    | succ n ih =>
      intro i hi0 hi ls hl
      have hlt : i < 20 := by omega
      refine lv_iload_n hx hb d_Mem_pagesOf_4 rfl (lv_at hl 0 rfl) ?_
      refine lv_bipush (v := (nI 20)) hx hb d_Mem_pagesOf_5 (by decide) ?_
      refine k_geN (tgt := 29) (by omega) (by omega) hx hb d_Mem_pagesOf_7 (by decide) (fun h9 => absurd h9 (by omega)) (fun _ => ?_)
      refine lv_aload_n hx hb d_Mem_pagesOf_10 rfl (lv_at hl 2 rfl) ?_
      refine va_get (D := D) (ci := nMem) (v := .ref (ad 5)) (C := R_Mem) (T := T_Mem) (N := 5) hx hb hts i_Mem hown hK hP 1 rfl rfl 1 (by decide) (hts _ tw_48) (fun _ h9 => h9) rfl d_Mem_pagesOf_11 ?_
      refine lv_iload_n hx hb d_Mem_pagesOf_14 rfl (lv_at hl 0 rfl) ?_
      refine k_aldN (q0 := 5) (t0 := 0) hx hb hK hP rfl rfl (by omega) (by decide) d_Mem_pagesOf_15 ?_
      refine lv_iload_n hx hb d_Mem_pagesOf_16 rfl (lv_at hl 3 rfl) ?_
      refine k_neN (tgt := 23) (Nat.lt_of_lt_of_le (hb1 _ (by omega)) (by decide)) (by omega) hx hb d_Mem_pagesOf_17 (by decide) (fun h1 => ?_) (fun h1 => ?_)
      · refine lv_iinc (v := (nI (i + 1))) (lv' := [(3, .int (nI (i + 1))), (2, .int (nI (cnt (fun g => σ.1 1 g == o) i))), (0, .ref (ad 1)), (1, .int (nI o))]) hx hb d_Mem_pagesOf_23 hl (k := 0) rfl (nI_1 _) (by decide) rfl (fun ls hl => ?_)
        refine lv_goto (tgt := 4) hx hb d_Mem_pagesOf_26 (by decide) ?_
        exact ih (i + 1) (by omega) (by omega) ls (by rw [cnt_f (by first | (simp [h1]; done) | (simp [h1]; omega))]; exact lv_sub hl [0, 1, 2, 3] rfl)
      · refine lv_iinc (v := (nI ((cnt (fun g => σ.1 1 g == o) i) + 1))) (lv' := [(2, .int (nI ((cnt (fun g => σ.1 1 g == o) i) + 1))), (3, .int (nI i)), (0, .ref (ad 1)), (1, .int (nI o))]) hx hb d_Mem_pagesOf_20 hl (k := 1) rfl (nI_1 _) (by decide) rfl (fun ls hl => ?_)
        refine lv_iinc (v := (nI (i + 1))) (lv' := [(3, .int (nI (i + 1))), (2, .int (nI ((cnt (fun g => σ.1 1 g == o) i) + 1))), (0, .ref (ad 1)), (1, .int (nI o))]) hx hb d_Mem_pagesOf_23 hl (k := 1) rfl (nI_1 _) (by decide) rfl (fun ls hl => ?_)
        refine lv_goto (tgt := 4) hx hb d_Mem_pagesOf_26 (by decide) ?_
        exact ih (i + 1) (by omega) (by omega) ls (by rw [cnt_t (by first | (simp [h1]; done) | (simp [h1]; omega))]; exact lv_sub hl [0, 1, 2, 3] rfl)
  exact L 20 0 (by omega) (by omega) ls (lv_sub hl [0, 1, 2, 3] rfl)
set_option maxHeartbeats 4000000 in
set_option maxRecDepth 100000 in
theorem c_Pro_descriptorsInUse {l : Launch} {s0 : State} {a0 : Array Value} {D : va_G} {cI cL : ClassId} (K0 : k0 l s0 a0 D cI cL) (ad : Nat → Nat) (r : va_W) (σ : kS) (q : Nat) (hq : q < 6) (hb7 : ∀ i, i < 24 → σ.1 7 i < 2 ^ 30) : kMet l y_Pro_descriptorsInUse (Cond.code y_Pro_descriptorsInUse b_Pro_descriptorsInUse 4 (some .int)) (rmL 1) [.ref (ad 2), .int (nI q)] (kPre D vwCl s0 (wC ad cI r) σ) (.ok (some (.int (nI (inuse σ q))), ())) kBr := by
  refine k_of (by decide) (Nat.le_of_ble_eq_true rfl) ?_
  intro p e9 s m below meth c hx hb hr hlocks hown hml hex hpre ls hl
  obtain ⟨hE, hP, hD⟩ := hpre
  obtain ⟨hts, hK⟩ := K0.at (args := ([.ref (ad 2), .int (nI q)] : List Value).toArray) hE
  have hl : lv_has ls 4 [(0, .ref (ad 2)), (1, .int (nI q))] := hl
  have hS : va_S (kA s0) s.heap s.heap [] := va_S.rf
  refine lv_iconst (v := (nI 0)) hx hb d_Pro_descriptorsInUse_0 (by decide) ?_
  refine lv_istore_n (lv' := [(2, .int (nI 0)), (0, .ref (ad 2)), (1, .int (nI q))]) hx hb d_Pro_descriptorsInUse_1 rfl hl (by decide) rfl (fun ls hl => ?_)
  refine lv_iconst (v := (nI 0)) hx hb d_Pro_descriptorsInUse_2 (by decide) ?_
  refine lv_istore_n (lv' := [(3, .int (nI 0)), (2, .int (nI 0)), (0, .ref (ad 2)), (1, .int (nI q))]) hx hb d_Pro_descriptorsInUse_3 rfl hl (by decide) rfl (fun ls hl => ?_)
  have L : ∀ (n i : Nat), 0 ≤ i → i + n = 4 → ∀ ls : Array Slot, lv_has ls 4 [(3, .int (nI i)), (2, .int (nI (cnt (fun d => σ.1 7 (q * 4 + d) != 0) i))), (0, .ref (ad 2)), (1, .int (nI q))] → W p l e9 (rmL 1) s m ([.ref (ad 2), .int (nI q)] : List Value).toArray below meth c s.heap [] 0 0 (kE below (.ok (some (.int (nI (inuse σ q))), ())) kBr s) (F0 m 4 ls []) := by
    intro n
    induction n with
    | zero =>
      intro i hi0 hi ls hl
      obtain rfl : i = 4 := by omega
      refine lv_iload_n hx hb d_Pro_descriptorsInUse_4 rfl (lv_at hl 0 rfl) ?_
      refine lv_iconst (v := (nI 4)) hx hb d_Pro_descriptorsInUse_5 (by decide) ?_
      refine k_geN (tgt := 28) (by decide) (by decide) hx hb d_Pro_descriptorsInUse_6 (by decide) (fun _ => ?_) (fun h9 => absurd h9 (by decide))
      refine lv_iload_n hx hb d_Pro_descriptorsInUse_28 rfl (lv_at hl 1 rfl) ?_
      exact k_retI hx hb hr hlocks d_Pro_descriptorsInUse_29 (rfl)
    | succ n ih =>
      intro i hi0 hi ls hl
      have hlt : i < 4 := by omega
      refine lv_iload_n hx hb d_Pro_descriptorsInUse_4 rfl (lv_at hl 0 rfl) ?_
      refine lv_iconst (v := (nI 4)) hx hb d_Pro_descriptorsInUse_5 (by decide) ?_
      refine k_geN (tgt := 28) (by omega) (by omega) hx hb d_Pro_descriptorsInUse_6 (by decide) (fun h9 => absurd h9 (by omega)) (fun _ => ?_)
      refine lv_aload_n hx hb d_Pro_descriptorsInUse_9 rfl (lv_at hl 2 rfl) ?_
      refine lv_iload_n hx hb d_Pro_descriptorsInUse_10 rfl (lv_at hl 3 rfl) ?_
      refine lv_iload_n hx hb d_Pro_descriptorsInUse_11 rfl (lv_at hl 0 rfl) ?_
      refine k_callR (k_atV (As := [.int (nI q), .int (nI i)]) hx hb hown hE.1 (K0.w tw_433) (hts _ tw_430) (hts _ tw_431) (hts _ tw_432) (hts _ tw_3) (by decide) np_Pro_pipeOf (va_recv hK hP (ci := nPro) (q0 := 2) rfl rfl) rfl d_Pro_descriptorsInUse_12) (c_Pro_pipeOf K0 ad r σ q i (by omega) (by omega)) (hl.1.trans hml.symm) (Nat.le_of_ble_eq_true rfl) ⟨Nat.le_of_ble_eq_true rfl, Nat.le_of_ble_eq_true rfl, Nat.le_of_ble_eq_true rfl, Nat.le_of_ble_eq_true rfl⟩ (fun U hU hW => ⟨hE.go hW hU hS, by rw [hU]; exact hP, hD⟩) ?_
      refine lv_iconst (v := (pI 0)) hx hb d_Pro_descriptorsInUse_15 (by decide) ?_
      refine k_eqP (tgt := 22) (hb7 _ (by omega)) (by omega) hx hb d_Pro_descriptorsInUse_16 (by decide) (fun h1 => ?_) (fun h1 => ?_)
      · refine lv_iinc (v := (nI (i + 1))) (lv' := [(3, .int (nI (i + 1))), (2, .int (nI (cnt (fun d => σ.1 7 (q * 4 + d) != 0) i))), (0, .ref (ad 2)), (1, .int (nI q))]) hx hb d_Pro_descriptorsInUse_22 hl (k := 0) rfl (nI_1 _) (by decide) rfl (fun ls hl => ?_)
        refine lv_goto (tgt := 4) hx hb d_Pro_descriptorsInUse_25 (by decide) ?_
        exact ih (i + 1) (by omega) (by omega) ls (by rw [cnt_f (by first | (simp [h1]; done) | (simp [h1]; omega))]; exact lv_sub hl [0, 1, 2, 3] rfl)
      · refine lv_iinc (v := (nI ((cnt (fun d => σ.1 7 (q * 4 + d) != 0) i) + 1))) (lv' := [(2, .int (nI ((cnt (fun d => σ.1 7 (q * 4 + d) != 0) i) + 1))), (3, .int (nI i)), (0, .ref (ad 2)), (1, .int (nI q))]) hx hb d_Pro_descriptorsInUse_19 hl (k := 1) rfl (nI_1 _) (by decide) rfl (fun ls hl => ?_)
        refine lv_iinc (v := (nI (i + 1))) (lv' := [(3, .int (nI (i + 1))), (2, .int (nI ((cnt (fun d => σ.1 7 (q * 4 + d) != 0) i) + 1))), (0, .ref (ad 2)), (1, .int (nI q))]) hx hb d_Pro_descriptorsInUse_22 hl (k := 1) rfl (nI_1 _) (by decide) rfl (fun ls hl => ?_)
        refine lv_goto (tgt := 4) hx hb d_Pro_descriptorsInUse_25 (by decide) ?_
        exact ih (i + 1) (by omega) (by omega) ls (by rw [cnt_t (by first | (simp [h1]; done) | (simp [h1]; omega))]; exact lv_sub hl [0, 1, 2, 3] rfl)
  exact L 4 0 (by omega) (by omega) ls (lv_sub hl [0, 1, 2, 3] rfl)
set_option maxHeartbeats 4000000 in
set_option maxRecDepth 100000 in
theorem c_Pro_descriptorsOfPipe {l : Launch} {s0 : State} {a0 : Array Value} {D : va_G} {cI cL : ClassId} (K0 : k0 l s0 a0 D cI cL) (ad : Nat → Nat) (r : va_W) (σ : kS) (i9 : Nat) (hi9 : i9 < 2 ^ 20) (hb7 : ∀ i, i < 24 → σ.1 7 i < 2 ^ 30) : kMet l y_Pro_descriptorsOfPipe (Cond.code y_Pro_descriptorsOfPipe b_Pro_descriptorsOfPipe 4 (some .int)) (rmL 0) [.ref (ad 2), .int (nI i9)] (kPre D vwCl s0 (wC ad cI r) σ) (.ok (some (.int (nI (cof σ i9))), ())) kBr := by
  refine k_of (by decide) (Nat.le_of_ble_eq_true rfl) ?_
  intro p e9 s m below meth c hx hb hr hlocks hown hml hex hpre ls hl
  obtain ⟨hE, hP, hD⟩ := hpre
  obtain ⟨hts, hK⟩ := K0.at (args := ([.ref (ad 2), .int (nI i9)] : List Value).toArray) hE
  have hl : lv_has ls 4 [(0, .ref (ad 2)), (1, .int (nI i9))] := hl
  have hS : va_S (kA s0) s.heap s.heap [] := va_S.rf
  refine lv_iconst (v := (nI 0)) hx hb d_Pro_descriptorsOfPipe_0 (by decide) ?_
  refine lv_istore_n (lv' := [(2, .int (nI 0)), (0, .ref (ad 2)), (1, .int (nI i9))]) hx hb d_Pro_descriptorsOfPipe_1 rfl hl (by decide) rfl (fun ls hl => ?_)
  refine lv_iconst (v := (nI 0)) hx hb d_Pro_descriptorsOfPipe_2 (by decide) ?_
  refine lv_istore_n (lv' := [(3, .int (nI 0)), (2, .int (nI 0)), (0, .ref (ad 2)), (1, .int (nI i9))]) hx hb d_Pro_descriptorsOfPipe_3 rfl hl (by decide) rfl (fun ls hl => ?_)
  have L : ∀ (n i : Nat), 0 ≤ i → i + n = 24 → ∀ ls : Array Slot, lv_has ls 4 [(3, .int (nI i)), (2, .int (nI (cnt (fun k => σ.1 7 k == i9 + 1) i))), (0, .ref (ad 2)), (1, .int (nI i9))] → W p l e9 (rmL 0) s m ([.ref (ad 2), .int (nI i9)] : List Value).toArray below meth c s.heap [] 0 0 (kE below (.ok (some (.int (nI (cof σ i9))), ())) kBr s) (F0 m 4 ls []) := by
    intro n
    induction n with
    | zero =>
      intro i hi0 hi ls hl
      obtain rfl : i = 24 := by omega
      refine lv_iload_n hx hb d_Pro_descriptorsOfPipe_4 rfl (lv_at hl 0 rfl) ?_
      refine lv_aload_n hx hb d_Pro_descriptorsOfPipe_5 rfl (lv_at hl 2 rfl) ?_
      refine va_get (D := D) (ci := nPro) (v := .ref (ad 12)) (C := R_Pro) (T := T_Pro) (N := 6) hx hb hts i_Pro hown hK hP 2 rfl rfl 3 (by decide) (hts _ tw_85) (fun _ h9 => h9) rfl d_Pro_descriptorsOfPipe_6 ?_
      refine va_alen (v := nI 24) hx hb hK hP 12 0 rfl rfl rfl d_Pro_descriptorsOfPipe_9 ?_
      refine k_geN (tgt := 32) (by decide) (by decide) hx hb d_Pro_descriptorsOfPipe_10 (by decide) (fun _ => ?_) (fun h9 => absurd h9 (by decide))
      refine lv_iload_n hx hb d_Pro_descriptorsOfPipe_32 rfl (lv_at hl 1 rfl) ?_
      exact k_retI hx hb hr hlocks d_Pro_descriptorsOfPipe_33 (rfl)
    | succ n ih =>
      intro i hi0 hi ls hl
      have hlt : i < 24 := by omega
      refine lv_iload_n hx hb d_Pro_descriptorsOfPipe_4 rfl (lv_at hl 0 rfl) ?_
      refine lv_aload_n hx hb d_Pro_descriptorsOfPipe_5 rfl (lv_at hl 2 rfl) ?_
      refine va_get (D := D) (ci := nPro) (v := .ref (ad 12)) (C := R_Pro) (T := T_Pro) (N := 6) hx hb hts i_Pro hown hK hP 2 rfl rfl 3 (by decide) (hts _ tw_85) (fun _ h9 => h9) rfl d_Pro_descriptorsOfPipe_6 ?_
      refine va_alen (v := nI 24) hx hb hK hP 12 0 rfl rfl rfl d_Pro_descriptorsOfPipe_9 ?_
      refine k_geN (tgt := 32) (by omega) (by omega) hx hb d_Pro_descriptorsOfPipe_10 (by decide) (fun h9 => absurd h9 (by omega)) (fun _ => ?_)
      refine lv_aload_n hx hb d_Pro_descriptorsOfPipe_13 rfl (lv_at hl 2 rfl) ?_
      refine va_get (D := D) (ci := nPro) (v := .ref (ad 12)) (C := R_Pro) (T := T_Pro) (N := 6) hx hb hts i_Pro hown hK hP 2 rfl rfl 3 (by decide) (hts _ tw_85) (fun _ h9 => h9) rfl d_Pro_descriptorsOfPipe_14 ?_
      refine lv_iload_n hx hb d_Pro_descriptorsOfPipe_17 rfl (lv_at hl 0 rfl) ?_
      refine k_aldP (q0 := 12) (t0 := 0) hx hb hK hP rfl rfl (by omega) (by decide) d_Pro_descriptorsOfPipe_18 ?_
      refine lv_iload_n hx hb d_Pro_descriptorsOfPipe_19 rfl (lv_at hl 3 rfl) ?_
      refine k_st (st' := [.int (pI (i9 + 1)), .int (pI (σ.1 7 i))]) (by rw [pI_succ]) ?_
      refine k_neP (tgt := 26) (hb7 _ (by omega)) (by omega) hx hb d_Pro_descriptorsOfPipe_20 (by decide) (fun h1 => ?_) (fun h1 => ?_)
      · refine lv_iinc (v := (nI (i + 1))) (lv' := [(3, .int (nI (i + 1))), (2, .int (nI (cnt (fun k => σ.1 7 k == i9 + 1) i))), (0, .ref (ad 2)), (1, .int (nI i9))]) hx hb d_Pro_descriptorsOfPipe_26 hl (k := 0) rfl (nI_1 _) (by decide) rfl (fun ls hl => ?_)
        refine lv_goto (tgt := 4) hx hb d_Pro_descriptorsOfPipe_29 (by decide) ?_
        exact ih (i + 1) (by omega) (by omega) ls (by rw [cnt_f (by first | (simp [h1]; done) | (simp [h1]; omega))]; exact lv_sub hl [0, 1, 2, 3] rfl)
      · refine lv_iinc (v := (nI ((cnt (fun k => σ.1 7 k == i9 + 1) i) + 1))) (lv' := [(2, .int (nI ((cnt (fun k => σ.1 7 k == i9 + 1) i) + 1))), (3, .int (nI i)), (0, .ref (ad 2)), (1, .int (nI i9))]) hx hb d_Pro_descriptorsOfPipe_23 hl (k := 1) rfl (nI_1 _) (by decide) rfl (fun ls hl => ?_)
        refine lv_iinc (v := (nI (i + 1))) (lv' := [(3, .int (nI (i + 1))), (2, .int (nI ((cnt (fun k => σ.1 7 k == i9 + 1) i) + 1))), (0, .ref (ad 2)), (1, .int (nI i9))]) hx hb d_Pro_descriptorsOfPipe_26 hl (k := 1) rfl (nI_1 _) (by decide) rfl (fun ls hl => ?_)
        refine lv_goto (tgt := 4) hx hb d_Pro_descriptorsOfPipe_29 (by decide) ?_
        exact ih (i + 1) (by omega) (by omega) ls (by rw [cnt_t (by first | (simp [h1]; done) | (simp [h1]; omega))]; exact lv_sub hl [0, 1, 2, 3] rfl)
  exact L 24 0 (by omega) (by omega) ls (lv_sub hl [0, 1, 2, 3] rfl)
set_option maxHeartbeats 4000000 in
set_option maxRecDepth 100000 in
theorem c_Pro_notFree {l : Launch} {s0 : State} {a0 : Array Value} {D : va_G} {cI cL : ClassId} (K0 : k0 l s0 a0 D cI cL) (ad : Nat → Nat) (r : va_W) (σ : kS)  (hb4 : ∀ i, i < 6 → σ.1 4 i < 2 ^ 30) : kMet l y_Pro_notFree (Cond.code y_Pro_notFree b_Pro_notFree 3 (some .int)) (rmL 0) [.ref (ad 2)] (kPre D vwCl s0 (wC ad cI r) σ) (.ok (some (.int (nI (live σ))), ())) kBr := by
  refine k_of (by decide) (Nat.le_of_ble_eq_true rfl) ?_
  intro p e9 s m below meth c hx hb hr hlocks hown hml hex hpre ls hl
  obtain ⟨hE, hP, hD⟩ := hpre
  obtain ⟨hts, hK⟩ := K0.at (args := ([.ref (ad 2)] : List Value).toArray) hE
  have hl : lv_has ls 3 [(0, .ref (ad 2))] := hl
  have hS : va_S (kA s0) s.heap s.heap [] := va_S.rf
  refine lv_iconst (v := (nI 0)) hx hb d_Pro_notFree_0 (by decide) ?_
  refine lv_istore_n (lv' := [(1, .int (nI 0)), (0, .ref (ad 2))]) hx hb d_Pro_notFree_1 rfl hl (by decide) rfl (fun ls hl => ?_)
  refine lv_iconst (v := (nI 1)) hx hb d_Pro_notFree_2 (by decide) ?_
  refine lv_istore_n (lv' := [(2, .int (nI 1)), (1, .int (nI 0)), (0, .ref (ad 2))]) hx hb d_Pro_notFree_3 rfl hl (by decide) rfl (fun ls hl => ?_)
  have L : ∀ (n i : Nat), 1 ≤ i → i + n = 6 → ∀ ls : Array Slot, lv_has ls 3 [(2, .int (nI i)), (1, .int (nI (cnt (fun i => i != 0 && σ.1 4 i != 0) i))), (0, .ref (ad 2))] → W p l e9 (rmL 0) s m ([.ref (ad 2)] : List Value).toArray below meth c s.heap [] 0 0 (kE below (.ok (some (.int (nI (live σ))), ())) kBr s) (F0 m 4 ls []) := by
    intro n
    induction n with
    | zero =>
      intro i hi0 hi ls hl
      obtain rfl : i = 6 := by omega
      refine lv_iload_n hx hb d_Pro_notFree_4 rfl (lv_at hl 0 rfl) ?_
      refine lv_iconst (v := (nI 5)) hx hb d_Pro_notFree_5 (by decide) ?_
      refine k_gtN (tgt := 27) (by decide) (by decide) hx hb d_Pro_notFree_6 (by decide) (fun _ => ?_) (fun h9 => absurd h9 (by decide))
      refine lv_iload_n hx hb d_Pro_notFree_27 rfl (lv_at hl 1 rfl) ?_
      exact k_retI hx hb hr hlocks d_Pro_notFree_28 (rfl)
    | succ n ih =>
      intro i hi0 hi ls hl
      have hlt : i < 6 := by omega
      refine lv_iload_n hx hb d_Pro_notFree_4 rfl (lv_at hl 0 rfl) ?_
      refine lv_iconst (v := (nI 5)) hx hb d_Pro_notFree_5 (by decide) ?_
      refine k_gtN (tgt := 27) (by omega) (by omega) hx hb d_Pro_notFree_6 (by decide) (fun h9 => absurd h9 (by omega)) (fun _ => ?_)
      refine lv_aload_n hx hb d_Pro_notFree_9 rfl (lv_at hl 2 rfl) ?_
      refine va_get (D := D) (ci := nPro) (v := .ref (ad 9)) (C := R_Pro) (T := T_Pro) (N := 6) hx hb hts i_Pro hown hK hP 2 rfl rfl 0 (by decide) (hts _ tw_82) (fun _ h9 => h9) rfl d_Pro_notFree_10 ?_
      refine lv_iload_n hx hb d_Pro_notFree_13 rfl (lv_at hl 0 rfl) ?_
      refine k_aldN (q0 := 9) (t0 := 0) hx hb hK hP rfl rfl (by omega) (by decide) d_Pro_notFree_14 ?_
      refine k_if0 (tgt := 21) (Nat.lt_of_lt_of_le (hb4 _ (by omega)) (by decide)) hx hb d_Pro_notFree_15 (by decide) (fun h1 => ?_) (fun h1 => ?_)
      · refine lv_iinc (v := (nI (i + 1))) (lv' := [(2, .int (nI (i + 1))), (1, .int (nI (cnt (fun i => i != 0 && σ.1 4 i != 0) i))), (0, .ref (ad 2))]) hx hb d_Pro_notFree_21 hl (k := 0) rfl (nI_1 _) (by decide) rfl (fun ls hl => ?_)
        refine lv_goto (tgt := 4) hx hb d_Pro_notFree_24 (by decide) ?_
        exact ih (i + 1) (by omega) (by omega) ls (by rw [cnt_f (by first | (simp [h1]; done) | (simp [h1]; omega))]; exact lv_sub hl [0, 1, 2] rfl)
      · refine lv_iinc (v := (nI ((cnt (fun i => i != 0 && σ.1 4 i != 0) i) + 1))) (lv' := [(1, .int (nI ((cnt (fun i => i != 0 && σ.1 4 i != 0) i) + 1))), (2, .int (nI i)), (0, .ref (ad 2))]) hx hb d_Pro_notFree_18 hl (k := 1) rfl (nI_1 _) (by decide) rfl (fun ls hl => ?_)
        refine lv_iinc (v := (nI (i + 1))) (lv' := [(2, .int (nI (i + 1))), (1, .int (nI ((cnt (fun i => i != 0 && σ.1 4 i != 0) i) + 1))), (0, .ref (ad 2))]) hx hb d_Pro_notFree_21 hl (k := 1) rfl (nI_1 _) (by decide) rfl (fun ls hl => ?_)
        refine lv_goto (tgt := 4) hx hb d_Pro_notFree_24 (by decide) ?_
        exact ih (i + 1) (by omega) (by omega) ls (by rw [cnt_t (by first | (simp [h1]; done) | (simp [h1]; omega))]; exact lv_sub hl [0, 1, 2] rfl)
  exact L 5 1 (by omega) (by omega) ls (lv_sub hl [0, 1, 2] rfl)
end
section
/-! The loops that write. Laid by a program of mine (wip/gen). -/
set_option maxHeartbeats 4000000 in
set_option maxRecDepth 100000 in
theorem c_Pro_nextReady {l : Launch} {s0 : State} {a0 : Array Value} {D : va_G} {cI cL : ClassId} (K0 : k0 l s0 a0 D cI cL) (ad : Nat → Nat) (r : va_W) (σ : kS) (q : Nat) (hq : q < 6) (hb4 : ∀ i, i < 6 → σ.1 4 i < 2 ^ 30) : kMet l y_Pro_nextReady (Cond.code y_Pro_nextReady b_Pro_nextReady 4 (some .int)) (rmL 0) [.ref (ad 2), .int (nI q)] (kPre D vwCl s0 (wC ad cI r) σ) (.ok (some (.int (nI (nxr σ q))), ())) kBr := by
  refine k_of (by decide) (Nat.le_of_ble_eq_true rfl) ?_
  intro p e9 s m below meth c hx hb hr hlocks hown hml hex hpre ls hl
  obtain ⟨hE, hP, hD⟩ := hpre
  obtain ⟨hts, hK⟩ := K0.at (args := ([.ref (ad 2), .int (nI q)] : List Value).toArray) hE
  have hl : lv_has ls 4 [(0, .ref (ad 2)), (1, .int (nI q))] := hl
  have hS : va_S (kA s0) s.heap s.heap [] := va_S.rf
  refine lv_iconst (v := (nI 0)) hx hb d_Pro_nextReady_0 (by decide) ?_
  refine lv_istore_n (lv' := [(2, .int (nI 0)), (0, .ref (ad 2)), (1, .int (nI q))]) hx hb d_Pro_nextReady_1 rfl hl (by decide) rfl (fun ls hl => ?_)
  refine lv_iload_n hx hb d_Pro_nextReady_2 rfl (lv_at hl 0 rfl) ?_
  refine lv_iconst (v := (nI 5)) hx hb d_Pro_nextReady_3 (by decide) ?_
  refine k_geN (tgt := 33) (by decide) (by decide) hx hb d_Pro_nextReady_4 (by decide) (fun h9 => absurd h9 (by decide)) (fun _ => ?_)
  refine lv_iload_n hx hb d_Pro_nextReady_7 rfl (lv_at hl 2 rfl) ?_
  refine lv_iload_n hx hb d_Pro_nextReady_8 rfl (lv_at hl 0 rfl) ?_
  refine k_addN hx hb d_Pro_nextReady_9 ?_
  refine lv_iconst (v := (nI 5)) hx hb d_Pro_nextReady_10 (by decide) ?_
  refine k_remN (by omega) (by omega) (by omega) hx hb d_Pro_nextReady_11 ?_
  refine lv_iconst (v := (nI 1)) hx hb d_Pro_nextReady_12 (by decide) ?_
  refine k_addN hx hb d_Pro_nextReady_13 ?_
  refine lv_istore_n (lv' := [(3, .int (nI (((q + 0) % 5) + 1))), (2, .int (nI 0)), (0, .ref (ad 2)), (1, .int (nI q))]) hx hb d_Pro_nextReady_14 rfl hl (by decide) rfl (fun ls hl => ?_)
  refine lv_aload_n hx hb d_Pro_nextReady_15 rfl (lv_at hl 2 rfl) ?_
  refine va_get (D := D) (ci := nPro) (v := .ref (ad 9)) (C := R_Pro) (T := T_Pro) (N := 6) hx hb hts i_Pro hown hK hP 2 rfl rfl 0 (by decide) (hts _ tw_82) (fun _ h9 => h9) rfl d_Pro_nextReady_16 ?_
  refine lv_iload_n hx hb d_Pro_nextReady_19 rfl (lv_at hl 0 rfl) ?_
  refine k_aldN (q0 := 9) (t0 := 0) hx hb hK hP rfl rfl (by omega) (by decide) d_Pro_nextReady_20 ?_
  refine lv_iconst (v := (nI 2)) hx hb d_Pro_nextReady_21 (by decide) ?_
  refine k_neN (tgt := 27) (Nat.lt_of_lt_of_le (hb4 _ (by omega)) (by decide)) (by omega) hx hb d_Pro_nextReady_22 (by decide) (fun h1 => ?_) (fun h1 => ?_)
  · refine lv_iinc (v := (nI 1)) (lv' := [(2, .int (nI 1)), (3, .int (nI (((q + 0) % 5) + 1))), (0, .ref (ad 2)), (1, .int (nI q))]) hx hb d_Pro_nextReady_27 hl (k := 1) rfl (nI_1 _) (by decide) rfl (fun ls hl => ?_)
    refine lv_goto (tgt := 2) hx hb d_Pro_nextReady_30 (by decide) ?_
    refine lv_iload_n hx hb d_Pro_nextReady_2 rfl (lv_at hl 0 rfl) ?_
    refine lv_iconst (v := (nI 5)) hx hb d_Pro_nextReady_3 (by decide) ?_
    refine k_geN (tgt := 33) (by decide) (by decide) hx hb d_Pro_nextReady_4 (by decide) (fun h9 => absurd h9 (by decide)) (fun _ => ?_)
    refine lv_iload_n hx hb d_Pro_nextReady_7 rfl (lv_at hl 3 rfl) ?_
    refine lv_iload_n hx hb d_Pro_nextReady_8 rfl (lv_at hl 0 rfl) ?_
    refine k_addN hx hb d_Pro_nextReady_9 ?_
    refine lv_iconst (v := (nI 5)) hx hb d_Pro_nextReady_10 (by decide) ?_
    refine k_remN (by omega) (by omega) (by omega) hx hb d_Pro_nextReady_11 ?_
    refine lv_iconst (v := (nI 1)) hx hb d_Pro_nextReady_12 (by decide) ?_
    refine k_addN hx hb d_Pro_nextReady_13 ?_
    refine lv_istore_n (lv' := [(3, .int (nI (((q + 1) % 5) + 1))), (2, .int (nI 1)), (0, .ref (ad 2)), (1, .int (nI q))]) hx hb d_Pro_nextReady_14 rfl hl (by decide) rfl (fun ls hl => ?_)
    refine lv_aload_n hx hb d_Pro_nextReady_15 rfl (lv_at hl 2 rfl) ?_
    refine va_get (D := D) (ci := nPro) (v := .ref (ad 9)) (C := R_Pro) (T := T_Pro) (N := 6) hx hb hts i_Pro hown hK hP 2 rfl rfl 0 (by decide) (hts _ tw_82) (fun _ h9 => h9) rfl d_Pro_nextReady_16 ?_
    refine lv_iload_n hx hb d_Pro_nextReady_19 rfl (lv_at hl 0 rfl) ?_
    refine k_aldN (q0 := 9) (t0 := 0) hx hb hK hP rfl rfl (by omega) (by decide) d_Pro_nextReady_20 ?_
    refine lv_iconst (v := (nI 2)) hx hb d_Pro_nextReady_21 (by decide) ?_
    refine k_neN (tgt := 27) (Nat.lt_of_lt_of_le (hb4 _ (by omega)) (by decide)) (by omega) hx hb d_Pro_nextReady_22 (by decide) (fun h2 => ?_) (fun h2 => ?_)
    · refine lv_iinc (v := (nI 2)) (lv' := [(2, .int (nI 2)), (3, .int (nI (((q + 1) % 5) + 1))), (0, .ref (ad 2)), (1, .int (nI q))]) hx hb d_Pro_nextReady_27 hl (k := 1) rfl (nI_1 _) (by decide) rfl (fun ls hl => ?_)
      refine lv_goto (tgt := 2) hx hb d_Pro_nextReady_30 (by decide) ?_
      refine lv_iload_n hx hb d_Pro_nextReady_2 rfl (lv_at hl 0 rfl) ?_
      refine lv_iconst (v := (nI 5)) hx hb d_Pro_nextReady_3 (by decide) ?_
      refine k_geN (tgt := 33) (by decide) (by decide) hx hb d_Pro_nextReady_4 (by decide) (fun h9 => absurd h9 (by decide)) (fun _ => ?_)
      refine lv_iload_n hx hb d_Pro_nextReady_7 rfl (lv_at hl 3 rfl) ?_
      refine lv_iload_n hx hb d_Pro_nextReady_8 rfl (lv_at hl 0 rfl) ?_
      refine k_addN hx hb d_Pro_nextReady_9 ?_
      refine lv_iconst (v := (nI 5)) hx hb d_Pro_nextReady_10 (by decide) ?_
      refine k_remN (by omega) (by omega) (by omega) hx hb d_Pro_nextReady_11 ?_
      refine lv_iconst (v := (nI 1)) hx hb d_Pro_nextReady_12 (by decide) ?_
      refine k_addN hx hb d_Pro_nextReady_13 ?_
      refine lv_istore_n (lv' := [(3, .int (nI (((q + 2) % 5) + 1))), (2, .int (nI 2)), (0, .ref (ad 2)), (1, .int (nI q))]) hx hb d_Pro_nextReady_14 rfl hl (by decide) rfl (fun ls hl => ?_)
      refine lv_aload_n hx hb d_Pro_nextReady_15 rfl (lv_at hl 2 rfl) ?_
      refine va_get (D := D) (ci := nPro) (v := .ref (ad 9)) (C := R_Pro) (T := T_Pro) (N := 6) hx hb hts i_Pro hown hK hP 2 rfl rfl 0 (by decide) (hts _ tw_82) (fun _ h9 => h9) rfl d_Pro_nextReady_16 ?_
      refine lv_iload_n hx hb d_Pro_nextReady_19 rfl (lv_at hl 0 rfl) ?_
      refine k_aldN (q0 := 9) (t0 := 0) hx hb hK hP rfl rfl (by omega) (by decide) d_Pro_nextReady_20 ?_
      refine lv_iconst (v := (nI 2)) hx hb d_Pro_nextReady_21 (by decide) ?_
      refine k_neN (tgt := 27) (Nat.lt_of_lt_of_le (hb4 _ (by omega)) (by decide)) (by omega) hx hb d_Pro_nextReady_22 (by decide) (fun h3 => ?_) (fun h3 => ?_)
      · refine lv_iinc (v := (nI 3)) (lv' := [(2, .int (nI 3)), (3, .int (nI (((q + 2) % 5) + 1))), (0, .ref (ad 2)), (1, .int (nI q))]) hx hb d_Pro_nextReady_27 hl (k := 1) rfl (nI_1 _) (by decide) rfl (fun ls hl => ?_)
        refine lv_goto (tgt := 2) hx hb d_Pro_nextReady_30 (by decide) ?_
        refine lv_iload_n hx hb d_Pro_nextReady_2 rfl (lv_at hl 0 rfl) ?_
        refine lv_iconst (v := (nI 5)) hx hb d_Pro_nextReady_3 (by decide) ?_
        refine k_geN (tgt := 33) (by decide) (by decide) hx hb d_Pro_nextReady_4 (by decide) (fun h9 => absurd h9 (by decide)) (fun _ => ?_)
        refine lv_iload_n hx hb d_Pro_nextReady_7 rfl (lv_at hl 3 rfl) ?_
        refine lv_iload_n hx hb d_Pro_nextReady_8 rfl (lv_at hl 0 rfl) ?_
        refine k_addN hx hb d_Pro_nextReady_9 ?_
        refine lv_iconst (v := (nI 5)) hx hb d_Pro_nextReady_10 (by decide) ?_
        refine k_remN (by omega) (by omega) (by omega) hx hb d_Pro_nextReady_11 ?_
        refine lv_iconst (v := (nI 1)) hx hb d_Pro_nextReady_12 (by decide) ?_
        refine k_addN hx hb d_Pro_nextReady_13 ?_
        refine lv_istore_n (lv' := [(3, .int (nI (((q + 3) % 5) + 1))), (2, .int (nI 3)), (0, .ref (ad 2)), (1, .int (nI q))]) hx hb d_Pro_nextReady_14 rfl hl (by decide) rfl (fun ls hl => ?_)
        refine lv_aload_n hx hb d_Pro_nextReady_15 rfl (lv_at hl 2 rfl) ?_
        refine va_get (D := D) (ci := nPro) (v := .ref (ad 9)) (C := R_Pro) (T := T_Pro) (N := 6) hx hb hts i_Pro hown hK hP 2 rfl rfl 0 (by decide) (hts _ tw_82) (fun _ h9 => h9) rfl d_Pro_nextReady_16 ?_
        refine lv_iload_n hx hb d_Pro_nextReady_19 rfl (lv_at hl 0 rfl) ?_
        refine k_aldN (q0 := 9) (t0 := 0) hx hb hK hP rfl rfl (by omega) (by decide) d_Pro_nextReady_20 ?_
        refine lv_iconst (v := (nI 2)) hx hb d_Pro_nextReady_21 (by decide) ?_
        refine k_neN (tgt := 27) (Nat.lt_of_lt_of_le (hb4 _ (by omega)) (by decide)) (by omega) hx hb d_Pro_nextReady_22 (by decide) (fun h4 => ?_) (fun h4 => ?_)
        · refine lv_iinc (v := (nI 4)) (lv' := [(2, .int (nI 4)), (3, .int (nI (((q + 3) % 5) + 1))), (0, .ref (ad 2)), (1, .int (nI q))]) hx hb d_Pro_nextReady_27 hl (k := 1) rfl (nI_1 _) (by decide) rfl (fun ls hl => ?_)
          refine lv_goto (tgt := 2) hx hb d_Pro_nextReady_30 (by decide) ?_
          refine lv_iload_n hx hb d_Pro_nextReady_2 rfl (lv_at hl 0 rfl) ?_
          refine lv_iconst (v := (nI 5)) hx hb d_Pro_nextReady_3 (by decide) ?_
          refine k_geN (tgt := 33) (by decide) (by decide) hx hb d_Pro_nextReady_4 (by decide) (fun h9 => absurd h9 (by decide)) (fun _ => ?_)
          refine lv_iload_n hx hb d_Pro_nextReady_7 rfl (lv_at hl 3 rfl) ?_
          refine lv_iload_n hx hb d_Pro_nextReady_8 rfl (lv_at hl 0 rfl) ?_
          refine k_addN hx hb d_Pro_nextReady_9 ?_
          refine lv_iconst (v := (nI 5)) hx hb d_Pro_nextReady_10 (by decide) ?_
          refine k_remN (by omega) (by omega) (by omega) hx hb d_Pro_nextReady_11 ?_
          refine lv_iconst (v := (nI 1)) hx hb d_Pro_nextReady_12 (by decide) ?_
          refine k_addN hx hb d_Pro_nextReady_13 ?_
          refine lv_istore_n (lv' := [(3, .int (nI (((q + 4) % 5) + 1))), (2, .int (nI 4)), (0, .ref (ad 2)), (1, .int (nI q))]) hx hb d_Pro_nextReady_14 rfl hl (by decide) rfl (fun ls hl => ?_)
          refine lv_aload_n hx hb d_Pro_nextReady_15 rfl (lv_at hl 2 rfl) ?_
          refine va_get (D := D) (ci := nPro) (v := .ref (ad 9)) (C := R_Pro) (T := T_Pro) (N := 6) hx hb hts i_Pro hown hK hP 2 rfl rfl 0 (by decide) (hts _ tw_82) (fun _ h9 => h9) rfl d_Pro_nextReady_16 ?_
          refine lv_iload_n hx hb d_Pro_nextReady_19 rfl (lv_at hl 0 rfl) ?_
          refine k_aldN (q0 := 9) (t0 := 0) hx hb hK hP rfl rfl (by omega) (by decide) d_Pro_nextReady_20 ?_
          refine lv_iconst (v := (nI 2)) hx hb d_Pro_nextReady_21 (by decide) ?_
          refine k_neN (tgt := 27) (Nat.lt_of_lt_of_le (hb4 _ (by omega)) (by decide)) (by omega) hx hb d_Pro_nextReady_22 (by decide) (fun h5 => ?_) (fun h5 => ?_)
          · refine lv_iinc (v := (nI 5)) (lv' := [(2, .int (nI 5)), (3, .int (nI (((q + 4) % 5) + 1))), (0, .ref (ad 2)), (1, .int (nI q))]) hx hb d_Pro_nextReady_27 hl (k := 1) rfl (nI_1 _) (by decide) rfl (fun ls hl => ?_)
            refine lv_goto (tgt := 2) hx hb d_Pro_nextReady_30 (by decide) ?_
            refine lv_iload_n hx hb d_Pro_nextReady_2 rfl (lv_at hl 0 rfl) ?_
            refine lv_iconst (v := (nI 5)) hx hb d_Pro_nextReady_3 (by decide) ?_
            refine k_geN (tgt := 33) (by decide) (by decide) hx hb d_Pro_nextReady_4 (by decide) (fun _ => ?_) (fun h9 => absurd h9 (by decide))
            refine lv_iconst (v := (nI 0)) hx hb d_Pro_nextReady_33 (by decide) ?_
            exact k_retI hx hb hr hlocks d_Pro_nextReady_34 (by unfold nxr; first | rw [if_neg h1, if_neg h2, if_neg h3, if_neg h4, if_pos h5] | rw [if_neg h1, if_neg h2, if_neg h3, if_neg h4, if_neg h5])
          · refine lv_iload_n hx hb d_Pro_nextReady_25 rfl (lv_at hl 0 rfl) ?_
            exact k_retI hx hb hr hlocks d_Pro_nextReady_26 (by unfold nxr; first | rw [if_neg h1, if_neg h2, if_neg h3, if_neg h4, if_pos h5] | rw [if_neg h1, if_neg h2, if_neg h3, if_neg h4, if_neg h5])
        · refine lv_iload_n hx hb d_Pro_nextReady_25 rfl (lv_at hl 0 rfl) ?_
          exact k_retI hx hb hr hlocks d_Pro_nextReady_26 (by unfold nxr; first | rw [if_neg h1, if_neg h2, if_neg h3, if_pos h4] | rw [if_neg h1, if_neg h2, if_neg h3, if_neg h4])
      · refine lv_iload_n hx hb d_Pro_nextReady_25 rfl (lv_at hl 0 rfl) ?_
        exact k_retI hx hb hr hlocks d_Pro_nextReady_26 (by unfold nxr; first | rw [if_neg h1, if_neg h2, if_pos h3] | rw [if_neg h1, if_neg h2, if_neg h3])
    · refine lv_iload_n hx hb d_Pro_nextReady_25 rfl (lv_at hl 0 rfl) ?_
      exact k_retI hx hb hr hlocks d_Pro_nextReady_26 (by unfold nxr; first | rw [if_neg h1, if_pos h2] | rw [if_neg h1, if_neg h2])
  · refine lv_iload_n hx hb d_Pro_nextReady_25 rfl (lv_at hl 0 rfl) ?_
    exact k_retI hx hb hr hlocks d_Pro_nextReady_26 (by unfold nxr; first | rw [if_pos h1] | rw [if_neg h1])
set_option maxHeartbeats 4000000 in
set_option maxRecDepth 100000 in
theorem c_Pro_moveChildren {l : Launch} {s0 : State} {a0 : Array Value} {D : va_G} {cI cL : ClassId} (K0 : k0 l s0 a0 D cI cL) (ad : Nat → Nat) (r : va_W) (σ : kS) (q : Nat) (hq : q < 6) (hb5 : ∀ i, i < 6 → σ.1 5 i < 2 ^ 30) : kMet l y_Pro_moveChildren (Cond.code y_Pro_moveChildren b_Pro_moveChildren 5 (some .int)) (rmL 0) [.ref (ad 2), .int (nI q), .int (nI 1)] (kPre D vwCl s0 (wC ad cI r) σ) (.ok (some (.int (nI (mvn σ q 6))), mv σ q 6)) (kBw D vwCl s0 (wC ad cI r)) := by
  refine k_of (by decide) (Nat.le_of_ble_eq_true rfl) ?_
  intro p e9 s m below meth c hx hb hr hlocks hown hml hex hpre ls hl
  obtain ⟨hE, hP, hD⟩ := hpre
  obtain ⟨hts, hK⟩ := K0.at (args := ([.ref (ad 2), .int (nI q), .int (nI 1)] : List Value).toArray) hE
  have hl : lv_has ls 5 [(0, .ref (ad 2)), (1, .int (nI q)), (2, .int (nI 1))] := hl
  have hS : va_S (kA s0) s.heap s.heap [] := va_S.rf
  refine lv_iconst (v := (nI 0)) hx hb d_Pro_moveChildren_0 (by decide) ?_
  refine lv_istore_n (lv' := [(3, .int (nI 0)), (0, .ref (ad 2)), (1, .int (nI q)), (2, .int (nI 1))]) hx hb d_Pro_moveChildren_1 rfl hl (by decide) rfl (fun ls hl => ?_)
  refine lv_iconst (v := (nI 1)) hx hb d_Pro_moveChildren_2 (by decide) ?_
  refine lv_istore (lv' := [(4, .int (nI 1)), (3, .int (nI 0)), (0, .ref (ad 2)), (1, .int (nI q)), (2, .int (nI 1))]) hx hb d_Pro_moveChildren_3 hl (by decide) rfl (fun ls hl => ?_)
  have L : ∀ (n i : Nat), 1 ≤ i → i + n = 6 → ∀ (H : Heap) (locs : List Loc) (ls : Array Slot), va_P D vwCl (wC ad cI r (mv σ q i)) H → va_D (kA s0) (wC ad cI r (mv σ q i)) → va_S (kA s0) s.heap H locs → lv_has ls 5 [(4, .int (nI i)), (3, .int (nI (mvn σ q i))), (0, .ref (ad 2)), (1, .int (nI q)), (2, .int (nI 1))] → W p l e9 (rmL 0) s m ([.ref (ad 2), .int (nI q), .int (nI 1)] : List Value).toArray below meth c H locs 0 0 (kE below (.ok (some (.int (nI (mvn σ q 6))), mv σ q 6)) (kBw D vwCl s0 (wC ad cI r)) s) (F0 m 5 ls []) := by
    intro n
    induction n with
    | zero =>
      intro i hi0 hi H locs ls hP hD hS hl
      obtain rfl : i = 6 := by omega
      obtain ⟨σ1, eσ1⟩ : ∃ z : kS, z = (mv σ q 6) := ⟨_, rfl⟩
      rw [← eσ1] at hP hD
      have hv : ∀ k, k < 6 → σ1.1 5 k < 2 ^ 30 := by rw [eσ1]; exact mv_b5 q hb5 _
      refine lv_iload hx hb d_Pro_moveChildren_5 (lv_at hl 0 rfl) ?_
      refine lv_iconst (v := (nI 5)) hx hb d_Pro_moveChildren_7 (by decide) ?_
      refine k_gtN (tgt := 39) (by decide) (by decide) hx hb d_Pro_moveChildren_8 (by decide) (fun _ => ?_) (fun h9 => absurd h9 (by decide))
      refine lv_iload_n hx hb d_Pro_moveChildren_39 rfl (lv_at hl 1 rfl) ?_
      exact k_retWI hx hb hr hlocks d_Pro_moveChildren_40 hP hD hS (by rw [eσ1])
    | succ n ih =>
      intro i hi0 hi H locs ls hP hD hS hl
      have hlt : i < 6 := by omega
      obtain ⟨σ2, eσ2⟩ : ∃ z : kS, z = (mv σ q i) := ⟨_, rfl⟩
      rw [← eσ2] at hP hD
      have hv : ∀ k, k < 6 → σ2.1 5 k < 2 ^ 30 := by rw [eσ2]; exact mv_b5 q hb5 _
      refine lv_iload hx hb d_Pro_moveChildren_5 (lv_at hl 0 rfl) ?_
      refine lv_iconst (v := (nI 5)) hx hb d_Pro_moveChildren_7 (by decide) ?_
      refine k_gtN (tgt := 39) (by omega) (by omega) hx hb d_Pro_moveChildren_8 (by decide) (fun h9 => absurd h9 (by omega)) (fun _ => ?_)
      refine lv_aload_n hx hb d_Pro_moveChildren_11 rfl (lv_at hl 2 rfl) ?_
      refine va_get (D := D) (ci := nPro) (v := .ref (ad 10)) (C := R_Pro) (T := T_Pro) (N := 6) hx hb hts i_Pro hown hK hP 2 rfl rfl 1 (by decide) (hts _ tw_83) (fun _ h9 => h9) rfl d_Pro_moveChildren_12 ?_
      refine lv_iload hx hb d_Pro_moveChildren_15 (lv_at hl 0 rfl) ?_
      refine k_aldN (q0 := 10) (t0 := 0) hx hb hK hP rfl rfl (by omega) (by decide) d_Pro_moveChildren_17 ?_
      refine lv_iload_n hx hb d_Pro_moveChildren_18 rfl (lv_at hl 3 rfl) ?_
      refine k_neN (tgt := 33) (Nat.lt_of_lt_of_le (hv _ (by omega)) (by decide)) (by omega) hx hb d_Pro_moveChildren_19 (by decide) (fun h3 => ?_) (fun h3 => ?_)
      · refine lv_iinc (v := (nI (i + 1))) (lv' := [(4, .int (nI (i + 1))), (3, .int (nI (mvn σ q i))), (0, .ref (ad 2)), (1, .int (nI q)), (2, .int (nI 1))]) hx hb d_Pro_moveChildren_33 hl (k := 0) rfl (nI_1 _) (by decide) rfl (fun ls hl => ?_)
        refine lv_goto (tgt := 5) hx hb d_Pro_moveChildren_36 (by decide) ?_
        exact ih (i + 1) (by omega) (by omega) H locs ls (by rw [(mv_f (by rw [← eσ2]; exact h3)).1, ← eσ2]; exact hP) (by rw [(mv_f (by rw [← eσ2]; exact h3)).1, ← eσ2]; exact hD) hS (by rw [(mv_f (by rw [← eσ2]; exact h3)).2]; exact lv_sub hl [0, 1, 2, 3, 4] rfl)
      · refine lv_aload_n hx hb d_Pro_moveChildren_22 rfl (lv_at hl 2 rfl) ?_
        refine va_get (D := D) (ci := nPro) (v := .ref (ad 10)) (C := R_Pro) (T := T_Pro) (N := 6) hx hb hts i_Pro hown hK hP 2 rfl rfl 1 (by decide) (hts _ tw_83) (fun _ h9 => h9) rfl d_Pro_moveChildren_23 ?_
        refine lv_iload hx hb d_Pro_moveChildren_26 (lv_at hl 0 rfl) ?_
        refine lv_iload_n hx hb d_Pro_moveChildren_28 rfl (lv_at hl 4 rfl) ?_
        refine k_astN (q0 := 10) (t0 := 0) hx hb hK hP hD hS rfl rfl (by omega) (by decide) d_Pro_moveChildren_29 (fun H locs hP hD hS => ?_)
        obtain ⟨σ4, eσ4⟩ : ∃ z : kS, z = (st σ2 5 i 1) := ⟨_, rfl⟩
        have hP : va_P D vwCl (wC ad cI r σ4) H := by rw [eσ4]; exact hP
        have hD : va_D (kA s0) (wC ad cI r σ4) := by rw [eσ4]; exact hD
        refine lv_iinc (v := (nI ((mvn σ q i) + 1))) (lv' := [(3, .int (nI ((mvn σ q i) + 1))), (4, .int (nI i)), (0, .ref (ad 2)), (1, .int (nI q)), (2, .int (nI 1))]) hx hb d_Pro_moveChildren_30 hl (k := 1) rfl (nI_1 _) (by decide) rfl (fun ls hl => ?_)
        refine lv_iinc (v := (nI (i + 1))) (lv' := [(4, .int (nI (i + 1))), (3, .int (nI ((mvn σ q i) + 1))), (0, .ref (ad 2)), (1, .int (nI q)), (2, .int (nI 1))]) hx hb d_Pro_moveChildren_33 hl (k := 1) rfl (nI_1 _) (by decide) rfl (fun ls hl => ?_)
        refine lv_goto (tgt := 5) hx hb d_Pro_moveChildren_36 (by decide) ?_
        exact ih (i + 1) (by omega) (by omega) H locs ls (by rw [(mv_t (by omega) (by rw [← eσ2]; exact h3)).1, ← eσ2, ← eσ4]; exact hP) (by rw [(mv_t (by omega) (by rw [← eσ2]; exact h3)).1, ← eσ2, ← eσ4]; exact hD) hS (by rw [(mv_t (by omega) (by rw [← eσ2]; exact h3)).2]; exact lv_sub hl [0, 1, 2, 3, 4] rfl)
  exact L (6 - 1) 1 (by omega) (by omega) s.heap _ ls hP hD hS (lv_sub hl [0, 1, 2, 3, 4] rfl)
set_option maxHeartbeats 4000000 in
set_option maxRecDepth 100000 in
theorem c_Mem_copyWords {l : Launch} {s0 : State} {a0 : Array Value} {D : va_G} {cI cL : ClassId} (K0 : k0 l s0 a0 D cI cL) (ad : Nat → Nat) (r : va_W) (σ : kS) (g : Nat) (h : Nat) (hg : g < 20) (hh : h < 20) : kMet l y_Mem_copyWords (Cond.code y_Mem_copyWords b_Mem_copyWords 4 none) (rmL 1) [.ref (ad 1), .int (nI g), .int (nI h)] (kPre D vwCl s0 (wC ad cI r) σ) (.ok (none, m_copy σ g h)) (kBw D vwCl s0 (wC ad cI r)) := by
  refine k_of (by decide) (Nat.le_of_ble_eq_true rfl) ?_
  intro p e9 s m below meth c hx hb hr hlocks hown hml hex hpre ls hl
  obtain ⟨hE, hP, hD⟩ := hpre
  obtain ⟨hts, hK⟩ := K0.at (args := ([.ref (ad 1), .int (nI g), .int (nI h)] : List Value).toArray) hE
  have hl : lv_has ls 4 [(0, .ref (ad 1)), (1, .int (nI g)), (2, .int (nI h))] := hl
  have hS : va_S (kA s0) s.heap s.heap [] := va_S.rf
  refine lv_iconst (v := (nI 0)) hx hb d_Mem_copyWords_0 (by decide) ?_
  refine lv_istore_n (lv' := [(3, .int (nI 0)), (0, .ref (ad 1)), (1, .int (nI g)), (2, .int (nI h))]) hx hb d_Mem_copyWords_1 rfl hl (by decide) rfl (fun ls hl => ?_)
  refine lv_iload_n hx hb d_Mem_copyWords_2 rfl (lv_at hl 0 rfl) ?_
  refine lv_iconst (v := (nI 4)) hx hb d_Mem_copyWords_3 (by decide) ?_
  refine k_geN (tgt := 25) (by decide) (by decide) hx hb d_Mem_copyWords_4 (by decide) (fun h9 => absurd h9 (by decide)) (fun _ => ?_)
  refine lv_aload_n hx hb d_Mem_copyWords_7 rfl (lv_at hl 1 rfl) ?_
  refine lv_iload_n hx hb d_Mem_copyWords_8 rfl (lv_at hl 3 rfl) ?_
  refine lv_iload_n hx hb d_Mem_copyWords_9 rfl (lv_at hl 0 rfl) ?_
  refine lv_aload_n hx hb d_Mem_copyWords_10 rfl (lv_at hl 1 rfl) ?_
  refine lv_iload_n hx hb d_Mem_copyWords_11 rfl (lv_at hl 2 rfl) ?_
  refine lv_iload_n hx hb d_Mem_copyWords_12 rfl (lv_at hl 0 rfl) ?_
  refine k_callR (k_atV (As := [.int (nI g), .int (nI 0)]) hx hb hown hE.1 (K0.w tw_360) (hts _ tw_357) (hts _ tw_358) (hts _ tw_359) (hts _ tw_2) (by decide) np_Mem_word (va_recv hK hP (ci := nMem) (q0 := 1) rfl rfl) rfl d_Mem_copyWords_13) (c_Mem_word K0 ad r σ g 0 (by omega) (by omega)) (hl.1.trans hml.symm) (Nat.le_of_ble_eq_true rfl) ⟨Nat.le_of_ble_eq_true rfl, Nat.le_of_ble_eq_true rfl, Nat.le_of_ble_eq_true rfl, Nat.le_of_ble_eq_true rfl⟩ (fun U hU hW => ⟨hE.go hW hU hS, by rw [hU]; exact hP, hD⟩) ?_
  refine k_callW (k_atV (As := [.int (nI h), .int (nI 0), .int (σ.2 0 (g * 4 + 0))]) hx hb hown hE.1 (K0.w tw_46) (hts _ tw_43) (hts _ tw_44) (hts _ tw_45) (hts _ tw_2) (by decide) np_Mem_setWord (va_recv hK hP (ci := nMem) (q0 := 1) rfl rfl) rfl d_Mem_copyWords_16) (c_Mem_setWord K0 ad r σ h 0 (σ.2 0 (g * 4 + 0)) (by omega) (by omega)) (hl.1.trans hml.symm) (Nat.le_of_ble_eq_true rfl) ⟨Nat.le_of_ble_eq_true rfl, Nat.le_of_ble_eq_true rfl, Nat.le_of_ble_eq_true rfl, Nat.le_of_ble_eq_true rfl⟩ (fun U hU hW => ⟨hE.go hW hU hS, by rw [hU]; exact hP, hD⟩) hS (fun H locs hP hD hS => ?_)
  obtain ⟨σ1, eσ1⟩ : ∃ z : kS, z = (sw σ 0 (h * 4 + 0) (σ.2 0 (g * 4 + 0))) := ⟨_, rfl⟩
  have hP : va_P D vwCl (wC ad cI r σ1) H := by rw [eσ1]; exact hP
  have hD : va_D (kA s0) (wC ad cI r σ1) := by rw [eσ1]; exact hD
  refine lv_iinc (v := (nI 1)) (lv' := [(3, .int (nI 1)), (0, .ref (ad 1)), (1, .int (nI g)), (2, .int (nI h))]) hx hb d_Mem_copyWords_19 hl (k := 0) rfl (nI_1 _) (by decide) rfl (fun ls hl => ?_)
  refine lv_goto (tgt := 2) hx hb d_Mem_copyWords_22 (by decide) ?_
  refine lv_iload_n hx hb d_Mem_copyWords_2 rfl (lv_at hl 0 rfl) ?_
  refine lv_iconst (v := (nI 4)) hx hb d_Mem_copyWords_3 (by decide) ?_
  refine k_geN (tgt := 25) (by decide) (by decide) hx hb d_Mem_copyWords_4 (by decide) (fun h9 => absurd h9 (by decide)) (fun _ => ?_)
  refine lv_aload_n hx hb d_Mem_copyWords_7 rfl (lv_at hl 1 rfl) ?_
  refine lv_iload_n hx hb d_Mem_copyWords_8 rfl (lv_at hl 3 rfl) ?_
  refine lv_iload_n hx hb d_Mem_copyWords_9 rfl (lv_at hl 0 rfl) ?_
  refine lv_aload_n hx hb d_Mem_copyWords_10 rfl (lv_at hl 1 rfl) ?_
  refine lv_iload_n hx hb d_Mem_copyWords_11 rfl (lv_at hl 2 rfl) ?_
  refine lv_iload_n hx hb d_Mem_copyWords_12 rfl (lv_at hl 0 rfl) ?_
  refine k_callR (k_atV (As := [.int (nI g), .int (nI 1)]) hx hb hown hE.1 (K0.w tw_360) (hts _ tw_357) (hts _ tw_358) (hts _ tw_359) (hts _ tw_2) (by decide) np_Mem_word (va_recv hK hP (ci := nMem) (q0 := 1) rfl rfl) rfl d_Mem_copyWords_13) (c_Mem_word K0 ad r σ1 g 1 (by omega) (by omega)) (hl.1.trans hml.symm) (Nat.le_of_ble_eq_true rfl) ⟨Nat.le_of_ble_eq_true rfl, Nat.le_of_ble_eq_true rfl, Nat.le_of_ble_eq_true rfl, Nat.le_of_ble_eq_true rfl⟩ (fun U hU hW => ⟨hE.go hW hU hS, by rw [hU]; exact hP, hD⟩) ?_
  refine k_callW (k_atV (As := [.int (nI h), .int (nI 1), .int (σ1.2 0 (g * 4 + 1))]) hx hb hown hE.1 (K0.w tw_46) (hts _ tw_43) (hts _ tw_44) (hts _ tw_45) (hts _ tw_2) (by decide) np_Mem_setWord (va_recv hK hP (ci := nMem) (q0 := 1) rfl rfl) rfl d_Mem_copyWords_16) (c_Mem_setWord K0 ad r σ1 h 1 (σ1.2 0 (g * 4 + 1)) (by omega) (by omega)) (hl.1.trans hml.symm) (Nat.le_of_ble_eq_true rfl) ⟨Nat.le_of_ble_eq_true rfl, Nat.le_of_ble_eq_true rfl, Nat.le_of_ble_eq_true rfl, Nat.le_of_ble_eq_true rfl⟩ (fun U hU hW => ⟨hE.go hW hU hS, by rw [hU]; exact hP, hD⟩) hS (fun H locs hP hD hS => ?_)
  obtain ⟨σ2, eσ2⟩ : ∃ z : kS, z = (sw σ1 0 (h * 4 + 1) (σ1.2 0 (g * 4 + 1))) := ⟨_, rfl⟩
  have hP : va_P D vwCl (wC ad cI r σ2) H := by rw [eσ2]; exact hP
  have hD : va_D (kA s0) (wC ad cI r σ2) := by rw [eσ2]; exact hD
  refine lv_iinc (v := (nI 2)) (lv' := [(3, .int (nI 2)), (0, .ref (ad 1)), (1, .int (nI g)), (2, .int (nI h))]) hx hb d_Mem_copyWords_19 hl (k := 0) rfl (nI_1 _) (by decide) rfl (fun ls hl => ?_)
  refine lv_goto (tgt := 2) hx hb d_Mem_copyWords_22 (by decide) ?_
  refine lv_iload_n hx hb d_Mem_copyWords_2 rfl (lv_at hl 0 rfl) ?_
  refine lv_iconst (v := (nI 4)) hx hb d_Mem_copyWords_3 (by decide) ?_
  refine k_geN (tgt := 25) (by decide) (by decide) hx hb d_Mem_copyWords_4 (by decide) (fun h9 => absurd h9 (by decide)) (fun _ => ?_)
  refine lv_aload_n hx hb d_Mem_copyWords_7 rfl (lv_at hl 1 rfl) ?_
  refine lv_iload_n hx hb d_Mem_copyWords_8 rfl (lv_at hl 3 rfl) ?_
  refine lv_iload_n hx hb d_Mem_copyWords_9 rfl (lv_at hl 0 rfl) ?_
  refine lv_aload_n hx hb d_Mem_copyWords_10 rfl (lv_at hl 1 rfl) ?_
  refine lv_iload_n hx hb d_Mem_copyWords_11 rfl (lv_at hl 2 rfl) ?_
  refine lv_iload_n hx hb d_Mem_copyWords_12 rfl (lv_at hl 0 rfl) ?_
  refine k_callR (k_atV (As := [.int (nI g), .int (nI 2)]) hx hb hown hE.1 (K0.w tw_360) (hts _ tw_357) (hts _ tw_358) (hts _ tw_359) (hts _ tw_2) (by decide) np_Mem_word (va_recv hK hP (ci := nMem) (q0 := 1) rfl rfl) rfl d_Mem_copyWords_13) (c_Mem_word K0 ad r σ2 g 2 (by omega) (by omega)) (hl.1.trans hml.symm) (Nat.le_of_ble_eq_true rfl) ⟨Nat.le_of_ble_eq_true rfl, Nat.le_of_ble_eq_true rfl, Nat.le_of_ble_eq_true rfl, Nat.le_of_ble_eq_true rfl⟩ (fun U hU hW => ⟨hE.go hW hU hS, by rw [hU]; exact hP, hD⟩) ?_
  refine k_callW (k_atV (As := [.int (nI h), .int (nI 2), .int (σ2.2 0 (g * 4 + 2))]) hx hb hown hE.1 (K0.w tw_46) (hts _ tw_43) (hts _ tw_44) (hts _ tw_45) (hts _ tw_2) (by decide) np_Mem_setWord (va_recv hK hP (ci := nMem) (q0 := 1) rfl rfl) rfl d_Mem_copyWords_16) (c_Mem_setWord K0 ad r σ2 h 2 (σ2.2 0 (g * 4 + 2)) (by omega) (by omega)) (hl.1.trans hml.symm) (Nat.le_of_ble_eq_true rfl) ⟨Nat.le_of_ble_eq_true rfl, Nat.le_of_ble_eq_true rfl, Nat.le_of_ble_eq_true rfl, Nat.le_of_ble_eq_true rfl⟩ (fun U hU hW => ⟨hE.go hW hU hS, by rw [hU]; exact hP, hD⟩) hS (fun H locs hP hD hS => ?_)
  obtain ⟨σ3, eσ3⟩ : ∃ z : kS, z = (sw σ2 0 (h * 4 + 2) (σ2.2 0 (g * 4 + 2))) := ⟨_, rfl⟩
  have hP : va_P D vwCl (wC ad cI r σ3) H := by rw [eσ3]; exact hP
  have hD : va_D (kA s0) (wC ad cI r σ3) := by rw [eσ3]; exact hD
  refine lv_iinc (v := (nI 3)) (lv' := [(3, .int (nI 3)), (0, .ref (ad 1)), (1, .int (nI g)), (2, .int (nI h))]) hx hb d_Mem_copyWords_19 hl (k := 0) rfl (nI_1 _) (by decide) rfl (fun ls hl => ?_)
  refine lv_goto (tgt := 2) hx hb d_Mem_copyWords_22 (by decide) ?_
  refine lv_iload_n hx hb d_Mem_copyWords_2 rfl (lv_at hl 0 rfl) ?_
  refine lv_iconst (v := (nI 4)) hx hb d_Mem_copyWords_3 (by decide) ?_
  refine k_geN (tgt := 25) (by decide) (by decide) hx hb d_Mem_copyWords_4 (by decide) (fun h9 => absurd h9 (by decide)) (fun _ => ?_)
  refine lv_aload_n hx hb d_Mem_copyWords_7 rfl (lv_at hl 1 rfl) ?_
  refine lv_iload_n hx hb d_Mem_copyWords_8 rfl (lv_at hl 3 rfl) ?_
  refine lv_iload_n hx hb d_Mem_copyWords_9 rfl (lv_at hl 0 rfl) ?_
  refine lv_aload_n hx hb d_Mem_copyWords_10 rfl (lv_at hl 1 rfl) ?_
  refine lv_iload_n hx hb d_Mem_copyWords_11 rfl (lv_at hl 2 rfl) ?_
  refine lv_iload_n hx hb d_Mem_copyWords_12 rfl (lv_at hl 0 rfl) ?_
  refine k_callR (k_atV (As := [.int (nI g), .int (nI 3)]) hx hb hown hE.1 (K0.w tw_360) (hts _ tw_357) (hts _ tw_358) (hts _ tw_359) (hts _ tw_2) (by decide) np_Mem_word (va_recv hK hP (ci := nMem) (q0 := 1) rfl rfl) rfl d_Mem_copyWords_13) (c_Mem_word K0 ad r σ3 g 3 (by omega) (by omega)) (hl.1.trans hml.symm) (Nat.le_of_ble_eq_true rfl) ⟨Nat.le_of_ble_eq_true rfl, Nat.le_of_ble_eq_true rfl, Nat.le_of_ble_eq_true rfl, Nat.le_of_ble_eq_true rfl⟩ (fun U hU hW => ⟨hE.go hW hU hS, by rw [hU]; exact hP, hD⟩) ?_
  refine k_callW (k_atV (As := [.int (nI h), .int (nI 3), .int (σ3.2 0 (g * 4 + 3))]) hx hb hown hE.1 (K0.w tw_46) (hts _ tw_43) (hts _ tw_44) (hts _ tw_45) (hts _ tw_2) (by decide) np_Mem_setWord (va_recv hK hP (ci := nMem) (q0 := 1) rfl rfl) rfl d_Mem_copyWords_16) (c_Mem_setWord K0 ad r σ3 h 3 (σ3.2 0 (g * 4 + 3)) (by omega) (by omega)) (hl.1.trans hml.symm) (Nat.le_of_ble_eq_true rfl) ⟨Nat.le_of_ble_eq_true rfl, Nat.le_of_ble_eq_true rfl, Nat.le_of_ble_eq_true rfl, Nat.le_of_ble_eq_true rfl⟩ (fun U hU hW => ⟨hE.go hW hU hS, by rw [hU]; exact hP, hD⟩) hS (fun H locs hP hD hS => ?_)
  obtain ⟨σ4, eσ4⟩ : ∃ z : kS, z = (sw σ3 0 (h * 4 + 3) (σ3.2 0 (g * 4 + 3))) := ⟨_, rfl⟩
  have hP : va_P D vwCl (wC ad cI r σ4) H := by rw [eσ4]; exact hP
  have hD : va_D (kA s0) (wC ad cI r σ4) := by rw [eσ4]; exact hD
  refine lv_iinc (v := (nI 4)) (lv' := [(3, .int (nI 4)), (0, .ref (ad 1)), (1, .int (nI g)), (2, .int (nI h))]) hx hb d_Mem_copyWords_19 hl (k := 0) rfl (nI_1 _) (by decide) rfl (fun ls hl => ?_)
  refine lv_goto (tgt := 2) hx hb d_Mem_copyWords_22 (by decide) ?_
  refine lv_iload_n hx hb d_Mem_copyWords_2 rfl (lv_at hl 0 rfl) ?_
  refine lv_iconst (v := (nI 4)) hx hb d_Mem_copyWords_3 (by decide) ?_
  refine k_geN (tgt := 25) (by decide) (by decide) hx hb d_Mem_copyWords_4 (by decide) (fun _ => ?_) (fun h9 => absurd h9 (by decide))
  exact k_retWV hx hb hr hlocks d_Mem_copyWords_25 hP hD hS (by subst eσ4 eσ3 eσ2 eσ1; rfl)
set_option maxHeartbeats 4000000 in
set_option maxRecDepth 100000 in
theorem c_Pip_removeFirst {l : Launch} {s0 : State} {a0 : Array Value} {D : va_G} {cI cL : ClassId} (K0 : k0 l s0 a0 D cI cL) (ad : Nat → Nat) (r : va_W) (σ : kS) (u : Nat) (hu : u < 3) (hz : σ.1 10 u < 5) (hz0 : σ.1 10 u ≠ 0) : kMet l y_Pip_removeFirst (Cond.code y_Pip_removeFirst b_Pip_removeFirst 4 (some .int)) (rmL 0) [.ref (ad 3), .int (nI u)] (kPre D vwCl s0 (wC ad cI r) σ) (.ok (some (.int (σ.2 1 (u * 4))), m_rem σ u)) (kBw D vwCl s0 (wC ad cI r)) := by
  refine k_of (by decide) (Nat.le_of_ble_eq_true rfl) ?_
  intro p e9 s m below meth c hx hb hr hlocks hown hml hex hpre ls hl
  obtain ⟨hE, hP, hD⟩ := hpre
  obtain ⟨hts, hK⟩ := K0.at (args := ([.ref (ad 3), .int (nI u)] : List Value).toArray) hE
  have hl : lv_has ls 4 [(0, .ref (ad 3)), (1, .int (nI u))] := hl
  have hS : va_S (kA s0) s.heap s.heap [] := va_S.rf
  refine lv_aload_n hx hb d_Pip_removeFirst_0 rfl (lv_at hl 0 rfl) ?_
  refine va_get (D := D) (ci := nPip) (v := .ref (ad 16)) (C := R_Pip) (T := T_Pip) (N := 2) hx hb hts i_Pip hown hK hP 3 rfl rfl 1 (by decide) (hts _ tw_108) (fun _ h9 => h9) rfl d_Pip_removeFirst_1 ?_
  refine lv_iload_n hx hb d_Pip_removeFirst_4 rfl (lv_at hl 1 rfl) ?_
  refine lv_iconst (v := (nI 4)) hx hb d_Pip_removeFirst_5 (by decide) ?_
  refine k_mulN hx hb d_Pip_removeFirst_6 ?_
  refine k_aldI (q0 := 16) (t0 := 0) hx hb hK hP rfl rfl (by omega) (by decide) d_Pip_removeFirst_7 ?_
  refine lv_istore_n (lv' := [(2, .int (σ.2 1 (u * 4))), (0, .ref (ad 3)), (1, .int (nI u))]) hx hb d_Pip_removeFirst_8 rfl hl (by decide) rfl (fun ls hl => ?_)
  refine lv_aload_n hx hb d_Pip_removeFirst_9 rfl (lv_at hl 1 rfl) ?_
  refine va_get (D := D) (ci := nPip) (v := .ref (ad 15)) (C := R_Pip) (T := T_Pip) (N := 2) hx hb hts i_Pip hown hK hP 3 rfl rfl 0 (by decide) (hts _ tw_107) (fun _ h9 => h9) rfl d_Pip_removeFirst_10 ?_
  refine lv_iload_n hx hb d_Pip_removeFirst_13 rfl (lv_at hl 2 rfl) ?_
  refine lv_dup2_11 hx hb d_Pip_removeFirst_14 rfl rfl ?_
  refine k_aldN (q0 := 15) (t0 := 0) hx hb hK hP rfl rfl (by omega) (by decide) d_Pip_removeFirst_15 ?_
  refine lv_iconst (v := (nI 1)) hx hb d_Pip_removeFirst_16 (by decide) ?_
  refine k_subN (by omega) hx hb d_Pip_removeFirst_17 ?_
  refine k_astN (q0 := 15) (t0 := 0) hx hb hK hP hD hS rfl rfl (by omega) (by decide) d_Pip_removeFirst_18 (fun H locs hP hD hS => ?_)
  obtain ⟨σ1, eσ1⟩ : ∃ z : kS, z = (st σ 10 u ((σ.1 10 u) - 1)) := ⟨_, rfl⟩
  have hP : va_P D vwCl (wC ad cI r σ1) H := by rw [eσ1]; exact hP
  have hD : va_D (kA s0) (wC ad cI r σ1) := by rw [eσ1]; exact hD
  refine lv_iconst (v := (nI 0)) hx hb d_Pip_removeFirst_19 (by decide) ?_
  refine lv_istore_n (lv' := [(3, .int (nI 0)), (2, .int (σ.2 1 (u * 4))), (0, .ref (ad 3)), (1, .int (nI u))]) hx hb d_Pip_removeFirst_20 rfl hl (by decide) rfl (fun ls hl => ?_)
  have L : ∀ (n i : Nat), 0 ≤ i → i + n = (σ.1 10 u - 1) → ∀ (H : Heap) (locs : List Loc) (ls : Array Slot), va_P D vwCl (wC ad cI r (sh σ1 u i)) H → va_D (kA s0) (wC ad cI r (sh σ1 u i)) → va_S (kA s0) s.heap H locs → lv_has ls 4 [(3, .int (nI i)), (2, .int (σ.2 1 (u * 4))), (0, .ref (ad 3)), (1, .int (nI u))] → W p l e9 (rmL 0) s m ([.ref (ad 3), .int (nI u)] : List Value).toArray below meth c H locs 0 0 (kE below (.ok (some (.int (σ.2 1 (u * 4))), m_rem σ u)) (kBw D vwCl s0 (wC ad cI r)) s) (F0 m 21 ls []) := by
    intro n
    induction n with
    | zero =>
      intro i hi0 hi H locs ls hP hD hS hl
      obtain rfl : i = (σ.1 10 u - 1) := by omega
      obtain ⟨σ2, eσ2⟩ : ∃ z : kS, z = (sh σ1 u (σ.1 10 u - 1)) := ⟨_, rfl⟩
      rw [← eσ2] at hP hD
      have hv : σ2.1 10 u = σ.1 10 u - 1 := by rw [eσ2, sh_1, eσ1]; simp [st, va_up]
      refine lv_iload_n hx hb d_Pip_removeFirst_21 rfl (lv_at hl 0 rfl) ?_
      refine lv_aload_n hx hb d_Pip_removeFirst_22 rfl (lv_at hl 2 rfl) ?_
      refine va_get (D := D) (ci := nPip) (v := .ref (ad 15)) (C := R_Pip) (T := T_Pip) (N := 2) hx hb hts i_Pip hown hK hP 3 rfl rfl 0 (by decide) (hts _ tw_107) (fun _ h9 => h9) rfl d_Pip_removeFirst_23 ?_
      refine lv_iload_n hx hb d_Pip_removeFirst_26 rfl (lv_at hl 3 rfl) ?_
      refine k_aldN (q0 := 15) (t0 := 0) hx hb hK hP rfl rfl (by omega) (by decide) d_Pip_removeFirst_27 ?_
      refine k_geN (tgt := 59) (by omega) (by omega) hx hb d_Pip_removeFirst_28 (by decide) (fun _ => ?_) (fun h9 => absurd h9 (by omega))
      refine lv_iload_n hx hb d_Pip_removeFirst_59 rfl (lv_at hl 1 rfl) ?_
      exact k_retWI hx hb hr hlocks d_Pip_removeFirst_60 hP hD hS (by rw [eσ2, eσ1]; rfl)
    | succ n ih =>
      intro i hi0 hi H locs ls hP hD hS hl
      have hlt : i < (σ.1 10 u - 1) := by omega
      obtain ⟨σ3, eσ3⟩ : ∃ z : kS, z = (sh σ1 u i) := ⟨_, rfl⟩
      rw [← eσ3] at hP hD
      have hv : σ3.1 10 u = σ.1 10 u - 1 := by rw [eσ3, sh_1, eσ1]; simp [st, va_up]
      refine lv_iload_n hx hb d_Pip_removeFirst_21 rfl (lv_at hl 0 rfl) ?_
      refine lv_aload_n hx hb d_Pip_removeFirst_22 rfl (lv_at hl 2 rfl) ?_
      refine va_get (D := D) (ci := nPip) (v := .ref (ad 15)) (C := R_Pip) (T := T_Pip) (N := 2) hx hb hts i_Pip hown hK hP 3 rfl rfl 0 (by decide) (hts _ tw_107) (fun _ h9 => h9) rfl d_Pip_removeFirst_23 ?_
      refine lv_iload_n hx hb d_Pip_removeFirst_26 rfl (lv_at hl 3 rfl) ?_
      refine k_aldN (q0 := 15) (t0 := 0) hx hb hK hP rfl rfl (by omega) (by decide) d_Pip_removeFirst_27 ?_
      refine k_geN (tgt := 59) (by omega) (by omega) hx hb d_Pip_removeFirst_28 (by decide) (fun h9 => absurd h9 (by omega)) (fun _ => ?_)
      refine lv_aload_n hx hb d_Pip_removeFirst_31 rfl (lv_at hl 2 rfl) ?_
      refine va_get (D := D) (ci := nPip) (v := .ref (ad 16)) (C := R_Pip) (T := T_Pip) (N := 2) hx hb hts i_Pip hown hK hP 3 rfl rfl 1 (by decide) (hts _ tw_108) (fun _ h9 => h9) rfl d_Pip_removeFirst_32 ?_
      refine lv_iload_n hx hb d_Pip_removeFirst_35 rfl (lv_at hl 3 rfl) ?_
      refine lv_iconst (v := (nI 4)) hx hb d_Pip_removeFirst_36 (by decide) ?_
      refine k_mulN hx hb d_Pip_removeFirst_37 ?_
      refine lv_iload_n hx hb d_Pip_removeFirst_38 rfl (lv_at hl 0 rfl) ?_
      refine k_addN hx hb d_Pip_removeFirst_39 ?_
      refine lv_aload_n hx hb d_Pip_removeFirst_40 rfl (lv_at hl 2 rfl) ?_
      refine va_get (D := D) (ci := nPip) (v := .ref (ad 16)) (C := R_Pip) (T := T_Pip) (N := 2) hx hb hts i_Pip hown hK hP 3 rfl rfl 1 (by decide) (hts _ tw_108) (fun _ h9 => h9) rfl d_Pip_removeFirst_41 ?_
      refine lv_iload_n hx hb d_Pip_removeFirst_44 rfl (lv_at hl 3 rfl) ?_
      refine lv_iconst (v := (nI 4)) hx hb d_Pip_removeFirst_45 (by decide) ?_
      refine k_mulN hx hb d_Pip_removeFirst_46 ?_
      refine lv_iload_n hx hb d_Pip_removeFirst_47 rfl (lv_at hl 0 rfl) ?_
      refine k_addN hx hb d_Pip_removeFirst_48 ?_
      refine lv_iconst (v := (nI 1)) hx hb d_Pip_removeFirst_49 (by decide) ?_
      refine k_addN hx hb d_Pip_removeFirst_50 ?_
      refine k_aldI (q0 := 16) (t0 := 0) hx hb hK hP rfl rfl (by omega) (by decide) d_Pip_removeFirst_51 ?_
      refine k_astI (q0 := 16) (t0 := 0) hx hb hK hP hD hS rfl rfl (by omega) (by decide) d_Pip_removeFirst_52 (fun H locs hP hD hS => ?_)
      obtain ⟨σ4, eσ4⟩ : ∃ z : kS, z = (sw σ3 1 ((u * 4) + i) (σ3.2 1 (((u * 4) + i) + 1))) := ⟨_, rfl⟩
      have hP : va_P D vwCl (wC ad cI r σ4) H := by rw [eσ4]; exact hP
      have hD : va_D (kA s0) (wC ad cI r σ4) := by rw [eσ4]; exact hD
      refine lv_iinc (v := (nI (i + 1))) (lv' := [(3, .int (nI (i + 1))), (2, .int (σ.2 1 (u * 4))), (0, .ref (ad 3)), (1, .int (nI u))]) hx hb d_Pip_removeFirst_53 hl (k := 0) rfl (nI_1 _) (by decide) rfl (fun ls hl => ?_)
      refine lv_goto (tgt := 21) hx hb d_Pip_removeFirst_56 (by decide) ?_
      exact ih (i + 1) (by omega) (by omega) H locs ls (by unfold sh; rw [← eσ3, ← eσ4]; exact hP) (by unfold sh; rw [← eσ3, ← eσ4]; exact hD) hS (by exact lv_sub hl [0, 1, 2, 3] rfl)
  exact L ((σ.1 10 u - 1) - 0) 0 (by omega) (by omega) H _ ls hP hD hS (lv_sub hl [0, 1, 2, 3] rfl)
end
section
/-! A number within two others, or IllegalArgumentException. -/
set_option maxHeartbeats 4000000 in
set_option maxRecDepth 100000 in
theorem c_FK_checkWithin {l : Launch} {s0 : State} {a0 : Array Value} {D : va_G} {cI cL : ClassId} (K0 : k0 l s0 a0 D cI cL) (ad : Nat → Nat) (r : va_W) (σ : kS) (x : Int32) (lo hi : Nat) (h1 : lo < 2 ^ 30) (h2 : hi < 2 ^ 30) : kMet l y_FK_checkWithin (Cond.code y_FK_checkWithin b_FK_checkWithin 3 none) (rmL 6) [.int x, .int (nI lo), .int (nI hi)] (kPre D vwCl s0 (wC ad cI r) σ) (inr x lo hi fun _ => .ok (none, ())) kBr := by
  refine k_of (by decide) (Nat.le_of_ble_eq_true rfl) ?_
  intro p e9 s m below meth c hx hb hr hlocks hown hml hex hpre ls hl
  obtain ⟨hE, hP, hD⟩ := hpre
  obtain ⟨hts, hK⟩ := K0.at (args := ([.int x, .int (nI lo), .int (nI hi)] : List Value).toArray) hE
  have hl : lv_has ls 3 [(0, .int x), (1, .int (nI lo)), (2, .int (nI hi))] := hl
  refine lv_iload_n hx hb d_FK_checkWithin_0 rfl (lv_at hl 0 rfl) ?_
  refine lv_iload_n hx hb d_FK_checkWithin_1 rfl (lv_at hl 1 rfl) ?_
  have kthrow : rg x lo hi = none → W p l e9 (rmL 6) s m ([.int x, .int (nI lo), .int (nI hi)] : List Value).toArray below meth c s.heap [] 0 0 (kE below (inr x lo hi fun _ => .ok (none, ())) kBr s) (F0 m 10 ls []) := fun hn =>
    k_throwW hx hb K0.tr hown (text := "a number is out of range") (names := kNames) (by decide +kernel) (by decide +kernel) (hts _ tw_144) (hts _ tw_9) (K0.str hE sr_261) (K0.own hE oa_263) (hl.1.trans hml.symm) d_FK_checkWithin_10 d_FK_checkWithin_13 d_FK_checkWithin_14 d_FK_checkWithin_17 d_FK_checkWithin_20 hex hlocks ⟨Nat.le_of_ble_eq_true rfl, Nat.le_of_ble_eq_true rfl, Nat.le_of_ble_eq_true rfl, Nat.le_of_ble_eq_true rfl⟩ (inr_n hn)
  refine lv_icmp_lt (tgt := 10) hx hb d_FK_checkWithin_2 (by decide) (fun h => kthrow (rg_lo h1 h)) (fun ha => ?_)
  refine lv_iload_n hx hb d_FK_checkWithin_5 rfl (lv_at hl 0 rfl) ?_
  refine lv_iload_n hx hb d_FK_checkWithin_6 rfl (lv_at hl 2 rfl) ?_
  refine lv_icmp_le (tgt := 21) hx hb d_FK_checkWithin_7 (by decide) (fun h => ?_) (fun h => kthrow (rg_hi h2 h))
  obtain ⟨q, hq⟩ := rg_of h1 h2 ha h
  exact k_retV hx hb hr hlocks d_FK_checkWithin_21 (inr_s hq)
end
section
theorem mine_eq (σ : kS) (p : Nat) : mine σ p = (p == σ.1 11 0 || mchild σ p 1 || mchild σ p 5) := rfl
theorem st_b {σ : kS} {a n j v : Nat} (h : ∀ i, i < n → σ.1 a i < 2 ^ 30) (hv : v < 2 ^ 30) : ∀ i, i < n → (st σ a j v).1 a i < 2 ^ 30 := by
  intro i hi
  have e : (st σ a j v).1 a i = if i = j then v else σ.1 a i := by simp [st, va_up]
  rw [e]
  split
  · exact hv
  · exact h i hi
theorem st_get (σ : kS) (a j v : Nat) : (st σ a j v).1 a j = v := by simp [st, va_up]
theorem mchild_st {σ : kS} {p s : Nat} (h : mchild σ p s = true) : σ.1 4 p = s := by
  simp only [mchild, Bool.and_eq_true, beq_iff_eq] at h
  exact h.2
end
section
/-! The kernel's own methods. Laid by a program of mine (wip/gen). -/
set_option maxHeartbeats 4000000 in
set_option maxRecDepth 100000 in
theorem c_FK_checkProcess {l : Launch} {s0 : State} {a0 : Array Value} {D : va_G} {cI cL : ClassId} (K0 : k0 l s0 a0 D cI cL) (ad : Nat → Nat) (r : va_W) (σ : kS) (x : Int32)  : kMet l y_FK_checkProcess (Cond.code y_FK_checkProcess b_FK_checkProcess 1 none) (rmL 7) [.int x] (kPre D vwCl s0 (wC ad cI r) σ) (inr x 1 5 fun _ => .ok (none, ())) kBr := by
  refine k_of (by decide) (Nat.le_of_ble_eq_true rfl) ?_
  intro p e9 s m below meth c hx hb hr hlocks hown hml hex hpre ls hl
  obtain ⟨hE, hP, hD⟩ := hpre
  obtain ⟨hts, hK⟩ := K0.at (args := ([.int x] : List Value).toArray) hE
  have hl : lv_has ls 1 [(0, .int x)] := hl
  have hS : va_S (kA s0) s.heap s.heap [] := va_S.rf
  refine lv_iload_n hx hb d_FK_checkProcess_0 rfl (lv_at hl 0 rfl) ?_
  refine lv_iconst (v := (nI 1)) hx hb d_FK_checkProcess_1 (by decide) ?_
  refine lv_iconst (v := (nI 5)) hx hb d_FK_checkProcess_2 (by decide) ?_
  rcases hq1 : rg x 1 5 with _ | j2
  · exact k_callE (k_atS (As := [.int x, .int (nI 1), .int (nI 5)]) hx hb hown hE.1 (K0.w tw_143) rfl k_w9 (hts _ tw_141) (hts _ tw_142) (hts _ tw_1) (by decide) np_FK_checkWithin rfl d_FK_checkProcess_3) (kn_n hq1 (c_FK_checkWithin K0 ad r σ x 1 5 (by decide) (by decide))) (hl.1.trans hml.symm) (Nat.le_of_ble_eq_true rfl) ⟨Nat.le_of_ble_eq_true rfl, Nat.le_of_ble_eq_true rfl, Nat.le_of_ble_eq_true rfl, Nat.le_of_ble_eq_true rfl⟩ (fun U hU hW => ⟨hE.go hW hU hS, by rw [hU]; exact hP, hD⟩) hex hlocks (by first | rfl | (simp [inr, eIA, eIS, eUO, eNS, hq1]; done) | (simp [inr, eIA, eIS, eUO, eNS, hq1]; rfl) | (simp [inr, eIA, eIS, eUO, eNS, hq1]; done) | (simp [inr, eIA, eIS, eUO, eNS, hq1]; rfl) | (simp only [inr, eIA, eIS, eUO, eNS, hq1]; rfl))
  · refine k_callR (k_atS (As := [.int x, .int (nI 1), .int (nI 5)]) hx hb hown hE.1 (K0.w tw_143) rfl k_w9 (hts _ tw_141) (hts _ tw_142) (hts _ tw_1) (by decide) np_FK_checkWithin rfl d_FK_checkProcess_3) (kn_s hq1 (c_FK_checkWithin K0 ad r σ x 1 5 (by decide) (by decide))) (hl.1.trans hml.symm) (Nat.le_of_ble_eq_true rfl) ⟨Nat.le_of_ble_eq_true rfl, Nat.le_of_ble_eq_true rfl, Nat.le_of_ble_eq_true rfl, Nat.le_of_ble_eq_true rfl⟩ (fun U hU hW => ⟨hE.go hW hU hS, by rw [hU]; exact hP, hD⟩) ?_
    obtain ⟨rfl, ha3, hb_4, hc_5⟩ := rg_some hq1
    exact k_retV hx hb hr hlocks d_FK_checkProcess_6 (by first | rfl | (simp [inr, eIA, eIS, eUO, eNS, hq1]; done) | (simp [inr, eIA, eIS, eUO, eNS, hq1]; rfl) | (simp [inr, eIA, eIS, eUO, eNS, hq1]; done) | (simp [inr, eIA, eIS, eUO, eNS, hq1]; rfl) | (simp only [inr, eIA, eIS, eUO, eNS, hq1]; rfl))
set_option maxHeartbeats 4000000 in
set_option maxRecDepth 100000 in
theorem c_FK_checkPage {l : Launch} {s0 : State} {a0 : Array Value} {D : va_G} {cI cL : ClassId} (K0 : k0 l s0 a0 D cI cL) (ad : Nat → Nat) (r : va_W) (σ : kS) (x : Int32)  : kMet l y_FK_checkPage (Cond.code y_FK_checkPage b_FK_checkPage 1 none) (rmL 7) [.int x] (kPre D vwCl s0 (wC ad cI r) σ) (inr x 0 19 fun _ => .ok (none, ())) kBr := by
  refine k_of (by decide) (Nat.le_of_ble_eq_true rfl) ?_
  intro p e9 s m below meth c hx hb hr hlocks hown hml hex hpre ls hl
  obtain ⟨hE, hP, hD⟩ := hpre
  obtain ⟨hts, hK⟩ := K0.at (args := ([.int x] : List Value).toArray) hE
  have hl : lv_has ls 1 [(0, .int x)] := hl
  have hS : va_S (kA s0) s.heap s.heap [] := va_S.rf
  refine lv_iload_n hx hb d_FK_checkPage_0 rfl (lv_at hl 0 rfl) ?_
  refine lv_iconst (v := (nI 0)) hx hb d_FK_checkPage_1 (by decide) ?_
  refine lv_bipush (v := (nI 19)) hx hb d_FK_checkPage_2 (by decide) ?_
  rcases hq1 : rg x 0 19 with _ | j2
  · exact k_callE (k_atS (As := [.int x, .int (nI 0), .int (nI 19)]) hx hb hown hE.1 (K0.w tw_143) rfl k_w9 (hts _ tw_141) (hts _ tw_142) (hts _ tw_1) (by decide) np_FK_checkWithin rfl d_FK_checkPage_4) (kn_n hq1 (c_FK_checkWithin K0 ad r σ x 0 19 (by decide) (by decide))) (hl.1.trans hml.symm) (Nat.le_of_ble_eq_true rfl) ⟨Nat.le_of_ble_eq_true rfl, Nat.le_of_ble_eq_true rfl, Nat.le_of_ble_eq_true rfl, Nat.le_of_ble_eq_true rfl⟩ (fun U hU hW => ⟨hE.go hW hU hS, by rw [hU]; exact hP, hD⟩) hex hlocks (by first | rfl | (simp [inr, eIA, eIS, eUO, eNS, hq1]; done) | (simp [inr, eIA, eIS, eUO, eNS, hq1]; rfl) | (simp [inr, eIA, eIS, eUO, eNS, hq1]; done) | (simp [inr, eIA, eIS, eUO, eNS, hq1]; rfl) | (simp only [inr, eIA, eIS, eUO, eNS, hq1]; rfl))
  · refine k_callR (k_atS (As := [.int x, .int (nI 0), .int (nI 19)]) hx hb hown hE.1 (K0.w tw_143) rfl k_w9 (hts _ tw_141) (hts _ tw_142) (hts _ tw_1) (by decide) np_FK_checkWithin rfl d_FK_checkPage_4) (kn_s hq1 (c_FK_checkWithin K0 ad r σ x 0 19 (by decide) (by decide))) (hl.1.trans hml.symm) (Nat.le_of_ble_eq_true rfl) ⟨Nat.le_of_ble_eq_true rfl, Nat.le_of_ble_eq_true rfl, Nat.le_of_ble_eq_true rfl, Nat.le_of_ble_eq_true rfl⟩ (fun U hU hW => ⟨hE.go hW hU hS, by rw [hU]; exact hP, hD⟩) ?_
    obtain ⟨rfl, ha3, hb_4, hc_5⟩ := rg_some hq1
    exact k_retV hx hb hr hlocks d_FK_checkPage_7 (by first | rfl | (simp [inr, eIA, eIS, eUO, eNS, hq1]; done) | (simp [inr, eIA, eIS, eUO, eNS, hq1]; rfl) | (simp [inr, eIA, eIS, eUO, eNS, hq1]; done) | (simp [inr, eIA, eIS, eUO, eNS, hq1]; rfl) | (simp only [inr, eIA, eIS, eUO, eNS, hq1]; rfl))
set_option maxHeartbeats 4000000 in
set_option maxRecDepth 100000 in
theorem c_FK_checkEntry {l : Launch} {s0 : State} {a0 : Array Value} {D : va_G} {cI cL : ClassId} (K0 : k0 l s0 a0 D cI cL) (ad : Nat → Nat) (r : va_W) (σ : kS) (x : Int32)  : kMet l y_FK_checkEntry (Cond.code y_FK_checkEntry b_FK_checkEntry 1 none) (rmL 7) [.int x] (kPre D vwCl s0 (wC ad cI r) σ) (inr x 0 3 fun _ => .ok (none, ())) kBr := by
  refine k_of (by decide) (Nat.le_of_ble_eq_true rfl) ?_
  intro p e9 s m below meth c hx hb hr hlocks hown hml hex hpre ls hl
  obtain ⟨hE, hP, hD⟩ := hpre
  obtain ⟨hts, hK⟩ := K0.at (args := ([.int x] : List Value).toArray) hE
  have hl : lv_has ls 1 [(0, .int x)] := hl
  have hS : va_S (kA s0) s.heap s.heap [] := va_S.rf
  refine lv_iload_n hx hb d_FK_checkEntry_0 rfl (lv_at hl 0 rfl) ?_
  refine lv_iconst (v := (nI 0)) hx hb d_FK_checkEntry_1 (by decide) ?_
  refine lv_iconst (v := (nI 3)) hx hb d_FK_checkEntry_2 (by decide) ?_
  rcases hq1 : rg x 0 3 with _ | j2
  · exact k_callE (k_atS (As := [.int x, .int (nI 0), .int (nI 3)]) hx hb hown hE.1 (K0.w tw_143) rfl k_w9 (hts _ tw_141) (hts _ tw_142) (hts _ tw_1) (by decide) np_FK_checkWithin rfl d_FK_checkEntry_3) (kn_n hq1 (c_FK_checkWithin K0 ad r σ x 0 3 (by decide) (by decide))) (hl.1.trans hml.symm) (Nat.le_of_ble_eq_true rfl) ⟨Nat.le_of_ble_eq_true rfl, Nat.le_of_ble_eq_true rfl, Nat.le_of_ble_eq_true rfl, Nat.le_of_ble_eq_true rfl⟩ (fun U hU hW => ⟨hE.go hW hU hS, by rw [hU]; exact hP, hD⟩) hex hlocks (by first | rfl | (simp [inr, eIA, eIS, eUO, eNS, hq1]; done) | (simp [inr, eIA, eIS, eUO, eNS, hq1]; rfl) | (simp [inr, eIA, eIS, eUO, eNS, hq1]; done) | (simp [inr, eIA, eIS, eUO, eNS, hq1]; rfl) | (simp only [inr, eIA, eIS, eUO, eNS, hq1]; rfl))
  · refine k_callR (k_atS (As := [.int x, .int (nI 0), .int (nI 3)]) hx hb hown hE.1 (K0.w tw_143) rfl k_w9 (hts _ tw_141) (hts _ tw_142) (hts _ tw_1) (by decide) np_FK_checkWithin rfl d_FK_checkEntry_3) (kn_s hq1 (c_FK_checkWithin K0 ad r σ x 0 3 (by decide) (by decide))) (hl.1.trans hml.symm) (Nat.le_of_ble_eq_true rfl) ⟨Nat.le_of_ble_eq_true rfl, Nat.le_of_ble_eq_true rfl, Nat.le_of_ble_eq_true rfl, Nat.le_of_ble_eq_true rfl⟩ (fun U hU hW => ⟨hE.go hW hU hS, by rw [hU]; exact hP, hD⟩) ?_
    obtain ⟨rfl, ha3, hb_4, hc_5⟩ := rg_some hq1
    exact k_retV hx hb hr hlocks d_FK_checkEntry_6 (by first | rfl | (simp [inr, eIA, eIS, eUO, eNS, hq1]; done) | (simp [inr, eIA, eIS, eUO, eNS, hq1]; rfl) | (simp [inr, eIA, eIS, eUO, eNS, hq1]; done) | (simp [inr, eIA, eIS, eUO, eNS, hq1]; rfl) | (simp only [inr, eIA, eIS, eUO, eNS, hq1]; rfl))
set_option maxHeartbeats 4000000 in
set_option maxRecDepth 100000 in
theorem c_FK_checkRights {l : Launch} {s0 : State} {a0 : Array Value} {D : va_G} {cI cL : ClassId} (K0 : k0 l s0 a0 D cI cL) (ad : Nat → Nat) (r : va_W) (σ : kS) (x : Int32)  : kMet l y_FK_checkRights (Cond.code y_FK_checkRights b_FK_checkRights 1 none) (rmL 7) [.int x] (kPre D vwCl s0 (wC ad cI r) σ) (inr x 1 3 fun _ => .ok (none, ())) kBr := by
  refine k_of (by decide) (Nat.le_of_ble_eq_true rfl) ?_
  intro p e9 s m below meth c hx hb hr hlocks hown hml hex hpre ls hl
  obtain ⟨hE, hP, hD⟩ := hpre
  obtain ⟨hts, hK⟩ := K0.at (args := ([.int x] : List Value).toArray) hE
  have hl : lv_has ls 1 [(0, .int x)] := hl
  have hS : va_S (kA s0) s.heap s.heap [] := va_S.rf
  refine lv_iload_n hx hb d_FK_checkRights_0 rfl (lv_at hl 0 rfl) ?_
  refine lv_iconst (v := (nI 1)) hx hb d_FK_checkRights_1 (by decide) ?_
  refine lv_iconst (v := (nI 3)) hx hb d_FK_checkRights_2 (by decide) ?_
  rcases hq1 : rg x 1 3 with _ | j2
  · exact k_callE (k_atS (As := [.int x, .int (nI 1), .int (nI 3)]) hx hb hown hE.1 (K0.w tw_143) rfl k_w9 (hts _ tw_141) (hts _ tw_142) (hts _ tw_1) (by decide) np_FK_checkWithin rfl d_FK_checkRights_3) (kn_n hq1 (c_FK_checkWithin K0 ad r σ x 1 3 (by decide) (by decide))) (hl.1.trans hml.symm) (Nat.le_of_ble_eq_true rfl) ⟨Nat.le_of_ble_eq_true rfl, Nat.le_of_ble_eq_true rfl, Nat.le_of_ble_eq_true rfl, Nat.le_of_ble_eq_true rfl⟩ (fun U hU hW => ⟨hE.go hW hU hS, by rw [hU]; exact hP, hD⟩) hex hlocks (by first | rfl | (simp [inr, eIA, eIS, eUO, eNS, hq1]; done) | (simp [inr, eIA, eIS, eUO, eNS, hq1]; rfl) | (simp [inr, eIA, eIS, eUO, eNS, hq1]; done) | (simp [inr, eIA, eIS, eUO, eNS, hq1]; rfl) | (simp only [inr, eIA, eIS, eUO, eNS, hq1]; rfl))
  · refine k_callR (k_atS (As := [.int x, .int (nI 1), .int (nI 3)]) hx hb hown hE.1 (K0.w tw_143) rfl k_w9 (hts _ tw_141) (hts _ tw_142) (hts _ tw_1) (by decide) np_FK_checkWithin rfl d_FK_checkRights_3) (kn_s hq1 (c_FK_checkWithin K0 ad r σ x 1 3 (by decide) (by decide))) (hl.1.trans hml.symm) (Nat.le_of_ble_eq_true rfl) ⟨Nat.le_of_ble_eq_true rfl, Nat.le_of_ble_eq_true rfl, Nat.le_of_ble_eq_true rfl, Nat.le_of_ble_eq_true rfl⟩ (fun U hU hW => ⟨hE.go hW hU hS, by rw [hU]; exact hP, hD⟩) ?_
    obtain ⟨rfl, ha3, hb_4, hc_5⟩ := rg_some hq1
    exact k_retV hx hb hr hlocks d_FK_checkRights_6 (by first | rfl | (simp [inr, eIA, eIS, eUO, eNS, hq1]; done) | (simp [inr, eIA, eIS, eUO, eNS, hq1]; rfl) | (simp [inr, eIA, eIS, eUO, eNS, hq1]; done) | (simp [inr, eIA, eIS, eUO, eNS, hq1]; rfl) | (simp only [inr, eIA, eIS, eUO, eNS, hq1]; rfl))
set_option maxHeartbeats 4000000 in
set_option maxRecDepth 100000 in
theorem c_FK_checkDescriptor {l : Launch} {s0 : State} {a0 : Array Value} {D : va_G} {cI cL : ClassId} (K0 : k0 l s0 a0 D cI cL) (ad : Nat → Nat) (r : va_W) (σ : kS) (x : Int32)  : kMet l y_FK_checkDescriptor (Cond.code y_FK_checkDescriptor b_FK_checkDescriptor 1 none) (rmL 7) [.int x] (kPre D vwCl s0 (wC ad cI r) σ) (inr x 0 3 fun _ => .ok (none, ())) kBr := by
  refine k_of (by decide) (Nat.le_of_ble_eq_true rfl) ?_
  intro p e9 s m below meth c hx hb hr hlocks hown hml hex hpre ls hl
  obtain ⟨hE, hP, hD⟩ := hpre
  obtain ⟨hts, hK⟩ := K0.at (args := ([.int x] : List Value).toArray) hE
  have hl : lv_has ls 1 [(0, .int x)] := hl
  have hS : va_S (kA s0) s.heap s.heap [] := va_S.rf
  refine lv_iload_n hx hb d_FK_checkDescriptor_0 rfl (lv_at hl 0 rfl) ?_
  refine lv_iconst (v := (nI 0)) hx hb d_FK_checkDescriptor_1 (by decide) ?_
  refine lv_iconst (v := (nI 3)) hx hb d_FK_checkDescriptor_2 (by decide) ?_
  rcases hq1 : rg x 0 3 with _ | j2
  · exact k_callE (k_atS (As := [.int x, .int (nI 0), .int (nI 3)]) hx hb hown hE.1 (K0.w tw_143) rfl k_w9 (hts _ tw_141) (hts _ tw_142) (hts _ tw_1) (by decide) np_FK_checkWithin rfl d_FK_checkDescriptor_3) (kn_n hq1 (c_FK_checkWithin K0 ad r σ x 0 3 (by decide) (by decide))) (hl.1.trans hml.symm) (Nat.le_of_ble_eq_true rfl) ⟨Nat.le_of_ble_eq_true rfl, Nat.le_of_ble_eq_true rfl, Nat.le_of_ble_eq_true rfl, Nat.le_of_ble_eq_true rfl⟩ (fun U hU hW => ⟨hE.go hW hU hS, by rw [hU]; exact hP, hD⟩) hex hlocks (by first | rfl | (simp [inr, eIA, eIS, eUO, eNS, hq1]; done) | (simp [inr, eIA, eIS, eUO, eNS, hq1]; rfl) | (simp [inr, eIA, eIS, eUO, eNS, hq1]; done) | (simp [inr, eIA, eIS, eUO, eNS, hq1]; rfl) | (simp only [inr, eIA, eIS, eUO, eNS, hq1]; rfl))
  · refine k_callR (k_atS (As := [.int x, .int (nI 0), .int (nI 3)]) hx hb hown hE.1 (K0.w tw_143) rfl k_w9 (hts _ tw_141) (hts _ tw_142) (hts _ tw_1) (by decide) np_FK_checkWithin rfl d_FK_checkDescriptor_3) (kn_s hq1 (c_FK_checkWithin K0 ad r σ x 0 3 (by decide) (by decide))) (hl.1.trans hml.symm) (Nat.le_of_ble_eq_true rfl) ⟨Nat.le_of_ble_eq_true rfl, Nat.le_of_ble_eq_true rfl, Nat.le_of_ble_eq_true rfl, Nat.le_of_ble_eq_true rfl⟩ (fun U hU hW => ⟨hE.go hW hU hS, by rw [hU]; exact hP, hD⟩) ?_
    obtain ⟨rfl, ha3, hb_4, hc_5⟩ := rg_some hq1
    exact k_retV hx hb hr hlocks d_FK_checkDescriptor_6 (by first | rfl | (simp [inr, eIA, eIS, eUO, eNS, hq1]; done) | (simp [inr, eIA, eIS, eUO, eNS, hq1]; rfl) | (simp [inr, eIA, eIS, eUO, eNS, hq1]; done) | (simp [inr, eIA, eIS, eUO, eNS, hq1]; rfl) | (simp only [inr, eIA, eIS, eUO, eNS, hq1]; rfl))
set_option maxHeartbeats 4000000 in
set_option maxRecDepth 100000 in
theorem c_FK_checkPipe {l : Launch} {s0 : State} {a0 : Array Value} {D : va_G} {cI cL : ClassId} (K0 : k0 l s0 a0 D cI cL) (ad : Nat → Nat) (r : va_W) (σ : kS) (x : Int32)  : kMet l y_FK_checkPipe (Cond.code y_FK_checkPipe b_FK_checkPipe 1 none) (rmL 7) [.int x] (kPre D vwCl s0 (wC ad cI r) σ) (inr x 0 2 fun _ => .ok (none, ())) kBr := by
  refine k_of (by decide) (Nat.le_of_ble_eq_true rfl) ?_
  intro p e9 s m below meth c hx hb hr hlocks hown hml hex hpre ls hl
  obtain ⟨hE, hP, hD⟩ := hpre
  obtain ⟨hts, hK⟩ := K0.at (args := ([.int x] : List Value).toArray) hE
  have hl : lv_has ls 1 [(0, .int x)] := hl
  have hS : va_S (kA s0) s.heap s.heap [] := va_S.rf
  refine lv_iload_n hx hb d_FK_checkPipe_0 rfl (lv_at hl 0 rfl) ?_
  refine lv_iconst (v := (nI 0)) hx hb d_FK_checkPipe_1 (by decide) ?_
  refine lv_iconst (v := (nI 2)) hx hb d_FK_checkPipe_2 (by decide) ?_
  rcases hq1 : rg x 0 2 with _ | j2
  · exact k_callE (k_atS (As := [.int x, .int (nI 0), .int (nI 2)]) hx hb hown hE.1 (K0.w tw_143) rfl k_w9 (hts _ tw_141) (hts _ tw_142) (hts _ tw_1) (by decide) np_FK_checkWithin rfl d_FK_checkPipe_3) (kn_n hq1 (c_FK_checkWithin K0 ad r σ x 0 2 (by decide) (by decide))) (hl.1.trans hml.symm) (Nat.le_of_ble_eq_true rfl) ⟨Nat.le_of_ble_eq_true rfl, Nat.le_of_ble_eq_true rfl, Nat.le_of_ble_eq_true rfl, Nat.le_of_ble_eq_true rfl⟩ (fun U hU hW => ⟨hE.go hW hU hS, by rw [hU]; exact hP, hD⟩) hex hlocks (by first | rfl | (simp [inr, eIA, eIS, eUO, eNS, hq1]; done) | (simp [inr, eIA, eIS, eUO, eNS, hq1]; rfl) | (simp [inr, eIA, eIS, eUO, eNS, hq1]; done) | (simp [inr, eIA, eIS, eUO, eNS, hq1]; rfl) | (simp only [inr, eIA, eIS, eUO, eNS, hq1]; rfl))
  · refine k_callR (k_atS (As := [.int x, .int (nI 0), .int (nI 2)]) hx hb hown hE.1 (K0.w tw_143) rfl k_w9 (hts _ tw_141) (hts _ tw_142) (hts _ tw_1) (by decide) np_FK_checkWithin rfl d_FK_checkPipe_3) (kn_s hq1 (c_FK_checkWithin K0 ad r σ x 0 2 (by decide) (by decide))) (hl.1.trans hml.symm) (Nat.le_of_ble_eq_true rfl) ⟨Nat.le_of_ble_eq_true rfl, Nat.le_of_ble_eq_true rfl, Nat.le_of_ble_eq_true rfl, Nat.le_of_ble_eq_true rfl⟩ (fun U hU hW => ⟨hE.go hW hU hS, by rw [hU]; exact hP, hD⟩) ?_
    obtain ⟨rfl, ha3, hb_4, hc_5⟩ := rg_some hq1
    exact k_retV hx hb hr hlocks d_FK_checkPipe_6 (by first | rfl | (simp [inr, eIA, eIS, eUO, eNS, hq1]; done) | (simp [inr, eIA, eIS, eUO, eNS, hq1]; rfl) | (simp [inr, eIA, eIS, eUO, eNS, hq1]; done) | (simp [inr, eIA, eIS, eUO, eNS, hq1]; rfl) | (simp only [inr, eIA, eIS, eUO, eNS, hq1]; rfl))
set_option maxHeartbeats 4000000 in
set_option maxRecDepth 100000 in
theorem c_FK_checkAddress {l : Launch} {s0 : State} {a0 : Array Value} {D : va_G} {cI cL : ClassId} (K0 : k0 l s0 a0 D cI cL) (ad : Nat → Nat) (r : va_W) (σ : kS) (x : Int32)  : kMet l y_FK_checkAddress (Cond.code y_FK_checkAddress b_FK_checkAddress 1 none) (rmL 7) [.int x] (kPre D vwCl s0 (wC ad cI r) σ) (inr x 0 63 fun _ => .ok (none, ())) kBr := by
  refine k_of (by decide) (Nat.le_of_ble_eq_true rfl) ?_
  intro p e9 s m below meth c hx hb hr hlocks hown hml hex hpre ls hl
  obtain ⟨hE, hP, hD⟩ := hpre
  obtain ⟨hts, hK⟩ := K0.at (args := ([.int x] : List Value).toArray) hE
  have hl : lv_has ls 1 [(0, .int x)] := hl
  have hS : va_S (kA s0) s.heap s.heap [] := va_S.rf
  refine lv_iload_n hx hb d_FK_checkAddress_0 rfl (lv_at hl 0 rfl) ?_
  refine lv_iconst (v := (nI 0)) hx hb d_FK_checkAddress_1 (by decide) ?_
  refine lv_bipush (v := (nI 63)) hx hb d_FK_checkAddress_2 (by decide) ?_
  rcases hq1 : rg x 0 63 with _ | j2
  · exact k_callE (k_atS (As := [.int x, .int (nI 0), .int (nI 63)]) hx hb hown hE.1 (K0.w tw_143) rfl k_w9 (hts _ tw_141) (hts _ tw_142) (hts _ tw_1) (by decide) np_FK_checkWithin rfl d_FK_checkAddress_4) (kn_n hq1 (c_FK_checkWithin K0 ad r σ x 0 63 (by decide) (by decide))) (hl.1.trans hml.symm) (Nat.le_of_ble_eq_true rfl) ⟨Nat.le_of_ble_eq_true rfl, Nat.le_of_ble_eq_true rfl, Nat.le_of_ble_eq_true rfl, Nat.le_of_ble_eq_true rfl⟩ (fun U hU hW => ⟨hE.go hW hU hS, by rw [hU]; exact hP, hD⟩) hex hlocks (by first | rfl | (simp [inr, eIA, eIS, eUO, eNS, hq1]; done) | (simp [inr, eIA, eIS, eUO, eNS, hq1]; rfl) | (simp [inr, eIA, eIS, eUO, eNS, hq1]; done) | (simp [inr, eIA, eIS, eUO, eNS, hq1]; rfl) | (simp only [inr, eIA, eIS, eUO, eNS, hq1]; rfl))
  · refine k_callR (k_atS (As := [.int x, .int (nI 0), .int (nI 63)]) hx hb hown hE.1 (K0.w tw_143) rfl k_w9 (hts _ tw_141) (hts _ tw_142) (hts _ tw_1) (by decide) np_FK_checkWithin rfl d_FK_checkAddress_4) (kn_s hq1 (c_FK_checkWithin K0 ad r σ x 0 63 (by decide) (by decide))) (hl.1.trans hml.symm) (Nat.le_of_ble_eq_true rfl) ⟨Nat.le_of_ble_eq_true rfl, Nat.le_of_ble_eq_true rfl, Nat.le_of_ble_eq_true rfl, Nat.le_of_ble_eq_true rfl⟩ (fun U hU hW => ⟨hE.go hW hU hS, by rw [hU]; exact hP, hD⟩) ?_
    obtain ⟨rfl, ha3, hb_4, hc_5⟩ := rg_some hq1
    exact k_retV hx hb hr hlocks d_FK_checkAddress_7 (by first | rfl | (simp [inr, eIA, eIS, eUO, eNS, hq1]; done) | (simp [inr, eIA, eIS, eUO, eNS, hq1]; rfl) | (simp [inr, eIA, eIS, eUO, eNS, hq1]; done) | (simp [inr, eIA, eIS, eUO, eNS, hq1]; rfl) | (simp only [inr, eIA, eIS, eUO, eNS, hq1]; rfl))
set_option maxHeartbeats 4000000 in
set_option maxRecDepth 100000 in
theorem c_FK_tableEntryOf {l : Launch} {s0 : State} {a0 : Array Value} {D : va_G} {cI cL : ClassId} (K0 : k0 l s0 a0 D cI cL) (ad : Nat → Nat) (r : va_W) (σ : kS) (a : Nat) (ha : a < 64) : kMet l y_FK_tableEntryOf (Cond.code y_FK_tableEntryOf b_FK_tableEntryOf 1 (some .int)) (rmL 0) [.int (nI a)] (kPre D vwCl s0 (wC ad cI r) σ) (.ok (some (.int (nI (a / 16))), ())) kBr := by
  refine k_of (by decide) (Nat.le_of_ble_eq_true rfl) ?_
  intro p e9 s m below meth c hx hb hr hlocks hown hml hex hpre ls hl
  obtain ⟨hE, hP, hD⟩ := hpre
  obtain ⟨hts, hK⟩ := K0.at (args := ([.int (nI a)] : List Value).toArray) hE
  have hl : lv_has ls 1 [(0, .int (nI a))] := hl
  have hS : va_S (kA s0) s.heap s.heap [] := va_S.rf
  refine lv_iload_n hx hb d_FK_tableEntryOf_0 rfl (lv_at hl 0 rfl) ?_
  refine lv_bipush (v := (nI 16)) hx hb d_FK_tableEntryOf_1 (by decide) ?_
  refine k_divN (by omega) (by omega) (by omega) hx hb d_FK_tableEntryOf_3 ?_
  exact k_retI hx hb hr hlocks d_FK_tableEntryOf_4 (rfl)
set_option maxHeartbeats 4000000 in
set_option maxRecDepth 100000 in
theorem c_FK_frameEntryOf {l : Launch} {s0 : State} {a0 : Array Value} {D : va_G} {cI cL : ClassId} (K0 : k0 l s0 a0 D cI cL) (ad : Nat → Nat) (r : va_W) (σ : kS) (a : Nat) (ha : a < 64) : kMet l y_FK_frameEntryOf (Cond.code y_FK_frameEntryOf b_FK_frameEntryOf 1 (some .int)) (rmL 0) [.int (nI a)] (kPre D vwCl s0 (wC ad cI r) σ) (.ok (some (.int (nI (a / 4 % 4))), ())) kBr := by
  refine k_of (by decide) (Nat.le_of_ble_eq_true rfl) ?_
  intro p e9 s m below meth c hx hb hr hlocks hown hml hex hpre ls hl
  obtain ⟨hE, hP, hD⟩ := hpre
  obtain ⟨hts, hK⟩ := K0.at (args := ([.int (nI a)] : List Value).toArray) hE
  have hl : lv_has ls 1 [(0, .int (nI a))] := hl
  have hS : va_S (kA s0) s.heap s.heap [] := va_S.rf
  refine lv_iload_n hx hb d_FK_frameEntryOf_0 rfl (lv_at hl 0 rfl) ?_
  refine lv_iconst (v := (nI 4)) hx hb d_FK_frameEntryOf_1 (by decide) ?_
  refine k_divN (by omega) (by omega) (by omega) hx hb d_FK_frameEntryOf_2 ?_
  refine lv_iconst (v := (nI 4)) hx hb d_FK_frameEntryOf_3 (by decide) ?_
  refine k_remN (by omega) (by omega) (by omega) hx hb d_FK_frameEntryOf_4 ?_
  exact k_retI hx hb hr hlocks d_FK_frameEntryOf_5 (rfl)
set_option maxHeartbeats 4000000 in
set_option maxRecDepth 100000 in
theorem c_FK_wordOf {l : Launch} {s0 : State} {a0 : Array Value} {D : va_G} {cI cL : ClassId} (K0 : k0 l s0 a0 D cI cL) (ad : Nat → Nat) (r : va_W) (σ : kS) (a : Nat) (ha : a < 64) : kMet l y_FK_wordOf (Cond.code y_FK_wordOf b_FK_wordOf 1 (some .int)) (rmL 0) [.int (nI a)] (kPre D vwCl s0 (wC ad cI r) σ) (.ok (some (.int (nI (a % 4))), ())) kBr := by
  refine k_of (by decide) (Nat.le_of_ble_eq_true rfl) ?_
  intro p e9 s m below meth c hx hb hr hlocks hown hml hex hpre ls hl
  obtain ⟨hE, hP, hD⟩ := hpre
  obtain ⟨hts, hK⟩ := K0.at (args := ([.int (nI a)] : List Value).toArray) hE
  have hl : lv_has ls 1 [(0, .int (nI a))] := hl
  have hS : va_S (kA s0) s.heap s.heap [] := va_S.rf
  refine lv_iload_n hx hb d_FK_wordOf_0 rfl (lv_at hl 0 rfl) ?_
  refine lv_iconst (v := (nI 4)) hx hb d_FK_wordOf_1 (by decide) ?_
  refine k_remN (by omega) (by omega) (by omega) hx hb d_FK_wordOf_2 ?_
  exact k_retI hx hb hr hlocks d_FK_wordOf_3 (rfl)
set_option maxHeartbeats 4000000 in
set_option maxRecDepth 100000 in
theorem c_FK_isMyChild {l : Launch} {s0 : State} {a0 : Array Value} {D : va_G} {cI cL : ClassId} (K0 : k0 l s0 a0 D cI cL) (ad : Nat → Nat) (r : va_W) (σ : kS) (q : Nat) (sv : Nat) (ok : kOk σ) (hq : q < 6) (hs : sv < 6) : kMet l y_FK_isMyChild (Cond.code y_FK_isMyChild b_FK_isMyChild 3 (some .boolean)) (rmL 1) [.ref (ad 0), .int (nI q), .int (nI sv)] (kPre D vwCl s0 (wC ad cI r) σ) (.ok (some (.int (nI (b2n (mchild σ q sv)))), ())) kBr := by
  refine k_of (by decide) (Nat.le_of_ble_eq_true rfl) ?_
  intro p e9 s m below meth c hx hb hr hlocks hown hml hex hpre ls hl
  obtain ⟨hE, hP, hD⟩ := hpre
  obtain ⟨hts, hK⟩ := K0.at (args := ([.ref (ad 0), .int (nI q), .int (nI sv)] : List Value).toArray) hE
  have hl : lv_has ls 3 [(0, .ref (ad 0)), (1, .int (nI q)), (2, .int (nI sv))] := hl
  have hS : va_S (kA s0) s.heap s.heap [] := va_S.rf
  obtain ⟨o1, o2, o3, o4, o5, o6, o7, o8, o9, o10, o0, ⟨oc1, oc2⟩, oc3, or6⟩ := id ok
  have hr0 : σ.1 6 (σ.1 11 0) ≠ 0 := or6 _ oc2 (by omega)
  have hr1 : σ.1 6 (σ.1 11 0) < 21 := o6 _ oc2
  refine lv_aload_n hx hb d_FK_isMyChild_0 rfl (lv_at hl 0 rfl) ?_
  refine va_get (D := D) (ci := nFK) (v := .ref (ad 2)) (C := R_FK) (T := T_FK) (N := 4) hx hb hts i_FK hown hK hP 0 rfl rfl 1 (by decide) (hts _ tw_117) (fun _ h9 => h9) rfl d_FK_isMyChild_1 ?_
  refine lv_iload_n hx hb d_FK_isMyChild_4 rfl (lv_at hl 1 rfl) ?_
  refine k_callR (k_atV (As := [.int (nI q)]) hx hb hown hE.1 (K0.w tw_282) (hts _ tw_279) (hts _ tw_280) (hts _ tw_281) (hts _ tw_3) (by decide) np_Pro_parentOf (va_recv hK hP (ci := nPro) (q0 := 2) rfl rfl) rfl d_FK_isMyChild_5) (c_Pro_parentOf K0 ad r σ q (by omega)) (hl.1.trans hml.symm) (Nat.le_of_ble_eq_true rfl) ⟨Nat.le_of_ble_eq_true rfl, Nat.le_of_ble_eq_true rfl, Nat.le_of_ble_eq_true rfl, Nat.le_of_ble_eq_true rfl⟩ (fun U hU hW => ⟨hE.go hW hU hS, by rw [hU]; exact hP, hD⟩) ?_
  have ho1 := o5 q (by omega)
  refine lv_aload_n hx hb d_FK_isMyChild_8 rfl (lv_at hl 0 rfl) ?_
  refine va_get (D := D) (ci := nFK) (v := .int (nI (σ.1 11 0))) (C := R_FK) (T := T_FK) (N := 4) hx hb hts i_FK hown hK hP 0 rfl rfl 3 (by decide) (hts _ tw_119) (fun _ h9 => h9) rfl d_FK_isMyChild_9 ?_
  refine k_neN (tgt := 31) (Nat.lt_of_lt_of_le (ok.b5 _ (by omega)) (by decide)) (by omega) hx hb d_FK_isMyChild_12 (by decide) (fun h2 => ?_) (fun h2 => ?_)
  · refine lv_iconst (v := (nI 0)) hx hb d_FK_isMyChild_31 (by decide) ?_
    exact k_retZ hx hb hr hlocks (by decide) d_FK_isMyChild_32 (by first | rfl | (simp [mchild, b2n, eIA, eIS, eUO, eNS, h2, beq_false_of_ne h2, bne_iff_ne.mpr h2]; done) | (simp [mchild, b2n, eIA, eIS, eUO, eNS, h2, beq_false_of_ne h2, bne_iff_ne.mpr h2]; rfl) | (simp [mchild, b2n, eIA, eIS, eUO, eNS, h2, beq_false_of_ne h2, bne_iff_ne.mpr h2]; done) | (simp [mchild, b2n, eIA, eIS, eUO, eNS, h2, beq_false_of_ne h2, bne_iff_ne.mpr h2]; rfl) | (simp only [mchild, b2n, eIA, eIS, eUO, eNS, h2, beq_false_of_ne h2, bne_iff_ne.mpr h2]; rfl))
  · refine lv_aload_n hx hb d_FK_isMyChild_15 rfl (lv_at hl 0 rfl) ?_
    refine va_get (D := D) (ci := nFK) (v := .ref (ad 2)) (C := R_FK) (T := T_FK) (N := 4) hx hb hts i_FK hown hK hP 0 rfl rfl 1 (by decide) (hts _ tw_117) (fun _ h9 => h9) rfl d_FK_isMyChild_16 ?_
    refine lv_iload_n hx hb d_FK_isMyChild_19 rfl (lv_at hl 1 rfl) ?_
    refine k_callR (k_atV (As := [.int (nI q)]) hx hb hown hE.1 (K0.w tw_219) (hts _ tw_216) (hts _ tw_217) (hts _ tw_218) (hts _ tw_3) (by decide) np_Pro_stateOf (va_recv hK hP (ci := nPro) (q0 := 2) rfl rfl) rfl d_FK_isMyChild_20) (c_Pro_stateOf K0 ad r σ q (by omega)) (hl.1.trans hml.symm) (Nat.le_of_ble_eq_true rfl) ⟨Nat.le_of_ble_eq_true rfl, Nat.le_of_ble_eq_true rfl, Nat.le_of_ble_eq_true rfl, Nat.le_of_ble_eq_true rfl⟩ (fun U hU hW => ⟨hE.go hW hU hS, by rw [hU]; exact hP, hD⟩) ?_
    have ho3 := o4 q (by omega)
    refine lv_iload_n hx hb d_FK_isMyChild_23 rfl (lv_at hl 2 rfl) ?_
    refine k_neN (tgt := 31) (Nat.lt_of_lt_of_le (ok.b4 _ (by omega)) (by decide)) (by omega) hx hb d_FK_isMyChild_24 (by decide) (fun h4 => ?_) (fun h4 => ?_)
    · refine lv_iconst (v := (nI 0)) hx hb d_FK_isMyChild_31 (by decide) ?_
      exact k_retZ hx hb hr hlocks (by decide) d_FK_isMyChild_32 (by first | rfl | (simp [mchild, b2n, eIA, eIS, eUO, eNS, h2, h4, beq_false_of_ne h4, bne_iff_ne.mpr h4]; done) | (simp [mchild, b2n, eIA, eIS, eUO, eNS, h2, h4, beq_false_of_ne h4, bne_iff_ne.mpr h4]; rfl) | (simp [mchild, b2n, eIA, eIS, eUO, eNS, h4, beq_iff_eq.mpr h2, beq_false_of_ne h4, bne_iff_ne.mpr h4]; done) | (simp [mchild, b2n, eIA, eIS, eUO, eNS, h4, beq_iff_eq.mpr h2, beq_false_of_ne h4, bne_iff_ne.mpr h4]; rfl) | (simp only [mchild, b2n, eIA, eIS, eUO, eNS, h2, h4, beq_false_of_ne h4, bne_iff_ne.mpr h4]; rfl))
    · refine lv_iconst (v := (nI 1)) hx hb d_FK_isMyChild_27 (by decide) ?_
      refine lv_goto (tgt := 32) hx hb d_FK_isMyChild_28 (by decide) ?_
      exact k_retZ hx hb hr hlocks (by decide) d_FK_isMyChild_32 (by first | rfl | (simp [mchild, b2n, eIA, eIS, eUO, eNS, h2, h4]; done) | (simp [mchild, b2n, eIA, eIS, eUO, eNS, h2, h4]; rfl) | (simp [mchild, b2n, eIA, eIS, eUO, eNS, beq_iff_eq.mpr h2, beq_iff_eq.mpr h4]; done) | (simp [mchild, b2n, eIA, eIS, eUO, eNS, beq_iff_eq.mpr h2, beq_iff_eq.mpr h4]; rfl) | (simp only [mchild, b2n, eIA, eIS, eUO, eNS, h2, h4]; rfl))
set_option maxHeartbeats 4000000 in
set_option maxRecDepth 100000 in
theorem c_FK_isMine {l : Launch} {s0 : State} {a0 : Array Value} {D : va_G} {cI cL : ClassId} (K0 : k0 l s0 a0 D cI cL) (ad : Nat → Nat) (r : va_W) (σ : kS) (q : Nat) (ok : kOk σ) (hq : q < 6) : kMet l y_FK_isMine (Cond.code y_FK_isMine b_FK_isMine 2 (some .boolean)) (rmL 2) [.ref (ad 0), .int (nI q)] (kPre D vwCl s0 (wC ad cI r) σ) (.ok (some (.int (nI (b2n (mine σ q)))), ())) kBr := by
  refine k_of (by decide) (Nat.le_of_ble_eq_true rfl) ?_
  intro p e9 s m below meth c hx hb hr hlocks hown hml hex hpre ls hl
  obtain ⟨hE, hP, hD⟩ := hpre
  obtain ⟨hts, hK⟩ := K0.at (args := ([.ref (ad 0), .int (nI q)] : List Value).toArray) hE
  have hl : lv_has ls 2 [(0, .ref (ad 0)), (1, .int (nI q))] := hl
  have hS : va_S (kA s0) s.heap s.heap [] := va_S.rf
  obtain ⟨o1, o2, o3, o4, o5, o6, o7, o8, o9, o10, o0, ⟨oc1, oc2⟩, oc3, or6⟩ := id ok
  have hr0 : σ.1 6 (σ.1 11 0) ≠ 0 := or6 _ oc2 (by omega)
  have hr1 : σ.1 6 (σ.1 11 0) < 21 := o6 _ oc2
  refine lv_iload_n hx hb d_FK_isMine_0 rfl (lv_at hl 1 rfl) ?_
  refine lv_aload_n hx hb d_FK_isMine_1 rfl (lv_at hl 0 rfl) ?_
  refine va_get (D := D) (ci := nFK) (v := .int (nI (σ.1 11 0))) (C := R_FK) (T := T_FK) (N := 4) hx hb hts i_FK hown hK hP 0 rfl rfl 3 (by decide) (hts _ tw_119) (fun _ h9 => h9) rfl d_FK_isMine_2 ?_
  refine k_eqN (tgt := 26) (by omega) (by omega) hx hb d_FK_isMine_5 (by decide) (fun h1 => ?_) (fun h1 => ?_)
  · refine lv_iconst (v := (nI 1)) hx hb d_FK_isMine_26 (by decide) ?_
    refine lv_goto (tgt := 31) hx hb d_FK_isMine_27 (by decide) ?_
    exact k_retZ hx hb hr hlocks (by decide) d_FK_isMine_31 (by first | rfl | (simp [mine_eq, b2n, eIA, eIS, eUO, eNS, h1]; done) | (simp [mine_eq, b2n, eIA, eIS, eUO, eNS, h1]; rfl) | (simp [mine_eq, b2n, eIA, eIS, eUO, eNS, beq_iff_eq.mpr h1]; done) | (simp [mine_eq, b2n, eIA, eIS, eUO, eNS, beq_iff_eq.mpr h1]; rfl) | (simp only [mine_eq, b2n, eIA, eIS, eUO, eNS, h1]; rfl))
  · refine lv_aload_n hx hb d_FK_isMine_8 rfl (lv_at hl 0 rfl) ?_
    refine lv_iload_n hx hb d_FK_isMine_9 rfl (lv_at hl 1 rfl) ?_
    refine lv_iconst (v := (nI 1)) hx hb d_FK_isMine_10 (by decide) ?_
    rcases hq2 : mchild σ q 1 with _ | _
    · refine k_callR (k_atV (As := [.int (nI q), .int (nI 1)]) hx hb hown hE.1 (K0.w tw_278) (hts _ tw_275) (hts _ tw_277) (hts _ tw_9005) (hts _ tw_1) (by decide) np_FK_isMyChild (va_recv hK hP (ci := nFK) (q0 := 0) rfl rfl) rfl d_FK_isMine_11) (kb_f hq2 (c_FK_isMyChild K0 ad r σ q 1 ok (by omega) (by omega))) (hl.1.trans hml.symm) (Nat.le_of_ble_eq_true rfl) ⟨Nat.le_of_ble_eq_true rfl, Nat.le_of_ble_eq_true rfl, Nat.le_of_ble_eq_true rfl, Nat.le_of_ble_eq_true rfl⟩ (fun U hU hW => ⟨hE.go hW hU hS, by rw [hU]; exact hP, hD⟩) ?_
      refine k_ifN0 (tgt := 26) (by decide) hx hb d_FK_isMine_14 (by decide) (fun h9 => absurd h9 (by decide)) (fun _ => ?_)
      refine lv_aload_n hx hb d_FK_isMine_17 rfl (lv_at hl 0 rfl) ?_
      refine lv_iload_n hx hb d_FK_isMine_18 rfl (lv_at hl 1 rfl) ?_
      refine lv_iconst (v := (nI 5)) hx hb d_FK_isMine_19 (by decide) ?_
      rcases hq3 : mchild σ q 5 with _ | _
      · refine k_callR (k_atV (As := [.int (nI q), .int (nI 5)]) hx hb hown hE.1 (K0.w tw_278) (hts _ tw_275) (hts _ tw_277) (hts _ tw_9005) (hts _ tw_1) (by decide) np_FK_isMyChild (va_recv hK hP (ci := nFK) (q0 := 0) rfl rfl) rfl d_FK_isMine_20) (kb_f hq3 (c_FK_isMyChild K0 ad r σ q 5 ok (by omega) (by omega))) (hl.1.trans hml.symm) (Nat.le_of_ble_eq_true rfl) ⟨Nat.le_of_ble_eq_true rfl, Nat.le_of_ble_eq_true rfl, Nat.le_of_ble_eq_true rfl, Nat.le_of_ble_eq_true rfl⟩ (fun U hU hW => ⟨hE.go hW hU hS, by rw [hU]; exact hP, hD⟩) ?_
        refine k_if0 (tgt := 30) (by decide) hx hb d_FK_isMine_23 (by decide) (fun _ => ?_) (fun h9 => absurd h9 (by decide))
        refine lv_iconst (v := (nI 0)) hx hb d_FK_isMine_30 (by decide) ?_
        exact k_retZ hx hb hr hlocks (by decide) d_FK_isMine_31 (by first | rfl | (simp [mine_eq, b2n, eIA, eIS, eUO, eNS, h1, hq2, hq3, beq_false_of_ne h1, bne_iff_ne.mpr h1]; done) | (simp [mine_eq, b2n, eIA, eIS, eUO, eNS, h1, hq2, hq3, beq_false_of_ne h1, bne_iff_ne.mpr h1]; rfl) | (simp [mine_eq, b2n, eIA, eIS, eUO, eNS, h1, hq2, hq3, beq_false_of_ne h1, bne_iff_ne.mpr h1]; done) | (simp [mine_eq, b2n, eIA, eIS, eUO, eNS, h1, hq2, hq3, beq_false_of_ne h1, bne_iff_ne.mpr h1]; rfl) | (simp only [mine_eq, b2n, eIA, eIS, eUO, eNS, h1, hq2, hq3, beq_false_of_ne h1, bne_iff_ne.mpr h1]; rfl))
      · refine k_callR (k_atV (As := [.int (nI q), .int (nI 5)]) hx hb hown hE.1 (K0.w tw_278) (hts _ tw_275) (hts _ tw_277) (hts _ tw_9005) (hts _ tw_1) (by decide) np_FK_isMyChild (va_recv hK hP (ci := nFK) (q0 := 0) rfl rfl) rfl d_FK_isMine_20) (kb_t hq3 (c_FK_isMyChild K0 ad r σ q 5 ok (by omega) (by omega))) (hl.1.trans hml.symm) (Nat.le_of_ble_eq_true rfl) ⟨Nat.le_of_ble_eq_true rfl, Nat.le_of_ble_eq_true rfl, Nat.le_of_ble_eq_true rfl, Nat.le_of_ble_eq_true rfl⟩ (fun U hU hW => ⟨hE.go hW hU hS, by rw [hU]; exact hP, hD⟩) ?_
        have hst9 := mchild_st hq3
        have hr6 : σ.1 6 q ≠ 0 := or6 _ (by omega) (by omega)
        have ho6 := o6 q (by omega)
        refine k_if0 (tgt := 30) (by decide) hx hb d_FK_isMine_23 (by decide) (fun h9 => absurd h9 (by decide)) (fun _ => ?_)
        refine lv_iconst (v := (nI 1)) hx hb d_FK_isMine_26 (by decide) ?_
        refine lv_goto (tgt := 31) hx hb d_FK_isMine_27 (by decide) ?_
        exact k_retZ hx hb hr hlocks (by decide) d_FK_isMine_31 (by first | rfl | (simp [mine_eq, b2n, eIA, eIS, eUO, eNS, h1, hq2, hq3, beq_false_of_ne h1, bne_iff_ne.mpr h1]; done) | (simp [mine_eq, b2n, eIA, eIS, eUO, eNS, h1, hq2, hq3, beq_false_of_ne h1, bne_iff_ne.mpr h1]; rfl) | (simp [mine_eq, b2n, eIA, eIS, eUO, eNS, h1, hq2, hq3, beq_false_of_ne h1, bne_iff_ne.mpr h1]; done) | (simp [mine_eq, b2n, eIA, eIS, eUO, eNS, h1, hq2, hq3, beq_false_of_ne h1, bne_iff_ne.mpr h1]; rfl) | (simp only [mine_eq, b2n, eIA, eIS, eUO, eNS, h1, hq2, hq3, beq_false_of_ne h1, bne_iff_ne.mpr h1]; rfl))
    · refine k_callR (k_atV (As := [.int (nI q), .int (nI 1)]) hx hb hown hE.1 (K0.w tw_278) (hts _ tw_275) (hts _ tw_277) (hts _ tw_9005) (hts _ tw_1) (by decide) np_FK_isMyChild (va_recv hK hP (ci := nFK) (q0 := 0) rfl rfl) rfl d_FK_isMine_11) (kb_t hq2 (c_FK_isMyChild K0 ad r σ q 1 ok (by omega) (by omega))) (hl.1.trans hml.symm) (Nat.le_of_ble_eq_true rfl) ⟨Nat.le_of_ble_eq_true rfl, Nat.le_of_ble_eq_true rfl, Nat.le_of_ble_eq_true rfl, Nat.le_of_ble_eq_true rfl⟩ (fun U hU hW => ⟨hE.go hW hU hS, by rw [hU]; exact hP, hD⟩) ?_
      have hst9 := mchild_st hq2
      have hr6 : σ.1 6 q ≠ 0 := or6 _ (by omega) (by omega)
      have ho6 := o6 q (by omega)
      refine k_ifN0 (tgt := 26) (by decide) hx hb d_FK_isMine_14 (by decide) (fun _ => ?_) (fun h9 => absurd h9 (by decide))
      refine lv_iconst (v := (nI 1)) hx hb d_FK_isMine_26 (by decide) ?_
      refine lv_goto (tgt := 31) hx hb d_FK_isMine_27 (by decide) ?_
      exact k_retZ hx hb hr hlocks (by decide) d_FK_isMine_31 (by first | rfl | (simp [mine_eq, b2n, eIA, eIS, eUO, eNS, h1, hq2, beq_false_of_ne h1, bne_iff_ne.mpr h1]; done) | (simp [mine_eq, b2n, eIA, eIS, eUO, eNS, h1, hq2, beq_false_of_ne h1, bne_iff_ne.mpr h1]; rfl) | (simp [mine_eq, b2n, eIA, eIS, eUO, eNS, h1, hq2, beq_false_of_ne h1, bne_iff_ne.mpr h1]; done) | (simp [mine_eq, b2n, eIA, eIS, eUO, eNS, h1, hq2, beq_false_of_ne h1, bne_iff_ne.mpr h1]; rfl) | (simp only [mine_eq, b2n, eIA, eIS, eUO, eNS, h1, hq2, beq_false_of_ne h1, bne_iff_ne.mpr h1]; rfl))
set_option maxHeartbeats 4000000 in
set_option maxRecDepth 100000 in
theorem c_FK_isMyLivingChild {l : Launch} {s0 : State} {a0 : Array Value} {D : va_G} {cI cL : ClassId} (K0 : k0 l s0 a0 D cI cL) (ad : Nat → Nat) (r : va_W) (σ : kS) (q : Nat) (ok : kOk σ) (hq : q < 6) : kMet l y_FK_isMyLivingChild (Cond.code y_FK_isMyLivingChild b_FK_isMyLivingChild 3 (some .boolean)) (rmL 1) [.ref (ad 0), .int (nI q)] (kPre D vwCl s0 (wC ad cI r) σ) (.ok (some (.int (nI (b2n (mlive σ q)))), ())) kBr := by
  refine k_of (by decide) (Nat.le_of_ble_eq_true rfl) ?_
  intro p e9 s m below meth c hx hb hr hlocks hown hml hex hpre ls hl
  obtain ⟨hE, hP, hD⟩ := hpre
  obtain ⟨hts, hK⟩ := K0.at (args := ([.ref (ad 0), .int (nI q)] : List Value).toArray) hE
  have hl : lv_has ls 3 [(0, .ref (ad 0)), (1, .int (nI q))] := hl
  have hS : va_S (kA s0) s.heap s.heap [] := va_S.rf
  obtain ⟨o1, o2, o3, o4, o5, o6, o7, o8, o9, o10, o0, ⟨oc1, oc2⟩, oc3, or6⟩ := id ok
  have hr0 : σ.1 6 (σ.1 11 0) ≠ 0 := or6 _ oc2 (by omega)
  have hr1 : σ.1 6 (σ.1 11 0) < 21 := o6 _ oc2
  refine lv_aload_n hx hb d_FK_isMyLivingChild_0 rfl (lv_at hl 0 rfl) ?_
  refine va_get (D := D) (ci := nFK) (v := .ref (ad 2)) (C := R_FK) (T := T_FK) (N := 4) hx hb hts i_FK hown hK hP 0 rfl rfl 1 (by decide) (hts _ tw_117) (fun _ h9 => h9) rfl d_FK_isMyLivingChild_1 ?_
  refine lv_iload_n hx hb d_FK_isMyLivingChild_4 rfl (lv_at hl 1 rfl) ?_
  refine k_callR (k_atV (As := [.int (nI q)]) hx hb hown hE.1 (K0.w tw_219) (hts _ tw_216) (hts _ tw_217) (hts _ tw_218) (hts _ tw_3) (by decide) np_Pro_stateOf (va_recv hK hP (ci := nPro) (q0 := 2) rfl rfl) rfl d_FK_isMyLivingChild_5) (c_Pro_stateOf K0 ad r σ q (by omega)) (hl.1.trans hml.symm) (Nat.le_of_ble_eq_true rfl) ⟨Nat.le_of_ble_eq_true rfl, Nat.le_of_ble_eq_true rfl, Nat.le_of_ble_eq_true rfl, Nat.le_of_ble_eq_true rfl⟩ (fun U hU hW => ⟨hE.go hW hU hS, by rw [hU]; exact hP, hD⟩) ?_
  have ho1 := o4 q (by omega)
  refine lv_istore_n (lv' := [(2, .int (nI (σ.1 4 q))), (0, .ref (ad 0)), (1, .int (nI q))]) hx hb d_FK_isMyLivingChild_8 rfl hl (by decide) rfl (fun ls hl => ?_)
  refine lv_aload_n hx hb d_FK_isMyLivingChild_9 rfl (lv_at hl 1 rfl) ?_
  refine va_get (D := D) (ci := nFK) (v := .ref (ad 2)) (C := R_FK) (T := T_FK) (N := 4) hx hb hts i_FK hown hK hP 0 rfl rfl 1 (by decide) (hts _ tw_117) (fun _ h9 => h9) rfl d_FK_isMyLivingChild_10 ?_
  refine lv_iload_n hx hb d_FK_isMyLivingChild_13 rfl (lv_at hl 2 rfl) ?_
  refine k_callR (k_atV (As := [.int (nI q)]) hx hb hown hE.1 (K0.w tw_282) (hts _ tw_279) (hts _ tw_280) (hts _ tw_281) (hts _ tw_3) (by decide) np_Pro_parentOf (va_recv hK hP (ci := nPro) (q0 := 2) rfl rfl) rfl d_FK_isMyLivingChild_14) (c_Pro_parentOf K0 ad r σ q (by omega)) (hl.1.trans hml.symm) (Nat.le_of_ble_eq_true rfl) ⟨Nat.le_of_ble_eq_true rfl, Nat.le_of_ble_eq_true rfl, Nat.le_of_ble_eq_true rfl, Nat.le_of_ble_eq_true rfl⟩ (fun U hU hW => ⟨hE.go hW hU hS, by rw [hU]; exact hP, hD⟩) ?_
  have ho2 := o5 q (by omega)
  refine lv_aload_n hx hb d_FK_isMyLivingChild_17 rfl (lv_at hl 1 rfl) ?_
  refine va_get (D := D) (ci := nFK) (v := .int (nI (σ.1 11 0))) (C := R_FK) (T := T_FK) (N := 4) hx hb hts i_FK hown hK hP 0 rfl rfl 3 (by decide) (hts _ tw_119) (fun _ h9 => h9) rfl d_FK_isMyLivingChild_18 ?_
  refine k_neN (tgt := 37) (Nat.lt_of_lt_of_le (ok.b5 _ (by omega)) (by decide)) (by omega) hx hb d_FK_isMyLivingChild_21 (by decide) (fun h3 => ?_) (fun h3 => ?_)
  · refine lv_iconst (v := (nI 0)) hx hb d_FK_isMyLivingChild_37 (by decide) ?_
    exact k_retZ hx hb hr hlocks (by decide) d_FK_isMyLivingChild_38 (by first | rfl | (simp [mlive, b2n, eIA, eIS, eUO, eNS, h3, beq_false_of_ne h3, bne_iff_ne.mpr h3]; done) | (simp [mlive, b2n, eIA, eIS, eUO, eNS, h3, beq_false_of_ne h3, bne_iff_ne.mpr h3]; rfl) | (simp [mlive, b2n, eIA, eIS, eUO, eNS, h3, beq_false_of_ne h3, bne_iff_ne.mpr h3]; done) | (simp [mlive, b2n, eIA, eIS, eUO, eNS, h3, beq_false_of_ne h3, bne_iff_ne.mpr h3]; rfl) | (simp only [mlive, b2n, eIA, eIS, eUO, eNS, h3, beq_false_of_ne h3, bne_iff_ne.mpr h3]; rfl))
  · refine lv_iload_n hx hb d_FK_isMyLivingChild_24 rfl (lv_at hl 0 rfl) ?_
    refine k_if0 (tgt := 37) (Nat.lt_of_lt_of_le (ok.b4 _ (by omega)) (by decide)) hx hb d_FK_isMyLivingChild_25 (by decide) (fun h4 => ?_) (fun h4 => ?_)
    · refine lv_iconst (v := (nI 0)) hx hb d_FK_isMyLivingChild_37 (by decide) ?_
      exact k_retZ hx hb hr hlocks (by decide) d_FK_isMyLivingChild_38 (by first | rfl | (simp [mlive, b2n, eIA, eIS, eUO, eNS, h3, h4]; done) | (simp [mlive, b2n, eIA, eIS, eUO, eNS, h3, h4]; rfl) | (simp [mlive, b2n, eIA, eIS, eUO, eNS, beq_iff_eq.mpr h3, beq_iff_eq.mpr h4]; done) | (simp [mlive, b2n, eIA, eIS, eUO, eNS, beq_iff_eq.mpr h3, beq_iff_eq.mpr h4]; rfl) | (simp only [mlive, b2n, eIA, eIS, eUO, eNS, h3, h4]; rfl))
    · refine lv_iload_n hx hb d_FK_isMyLivingChild_28 rfl (lv_at hl 0 rfl) ?_
      refine lv_iconst (v := (nI 5)) hx hb d_FK_isMyLivingChild_29 (by decide) ?_
      refine k_eqN (tgt := 37) (Nat.lt_of_lt_of_le (ok.b4 _ (by omega)) (by decide)) (by omega) hx hb d_FK_isMyLivingChild_30 (by decide) (fun h5 => ?_) (fun h5 => ?_)
      · refine lv_iconst (v := (nI 0)) hx hb d_FK_isMyLivingChild_37 (by decide) ?_
        exact k_retZ hx hb hr hlocks (by decide) d_FK_isMyLivingChild_38 (by first | rfl | (simp [mlive, b2n, eIA, eIS, eUO, eNS, h3, h4, h5, beq_false_of_ne h4, bne_iff_ne.mpr h4]; done) | (simp [mlive, b2n, eIA, eIS, eUO, eNS, h3, h4, h5, beq_false_of_ne h4, bne_iff_ne.mpr h4]; rfl) | (simp [mlive, b2n, eIA, eIS, eUO, eNS, h4, beq_iff_eq.mpr h3, beq_iff_eq.mpr h5, beq_false_of_ne h4, bne_iff_ne.mpr h4]; done) | (simp [mlive, b2n, eIA, eIS, eUO, eNS, h4, beq_iff_eq.mpr h3, beq_iff_eq.mpr h5, beq_false_of_ne h4, bne_iff_ne.mpr h4]; rfl) | (simp only [mlive, b2n, eIA, eIS, eUO, eNS, h3, h4, h5, beq_false_of_ne h4, bne_iff_ne.mpr h4]; rfl))
      · refine lv_iconst (v := (nI 1)) hx hb d_FK_isMyLivingChild_33 (by decide) ?_
        refine lv_goto (tgt := 38) hx hb d_FK_isMyLivingChild_34 (by decide) ?_
        exact k_retZ hx hb hr hlocks (by decide) d_FK_isMyLivingChild_38 (by first | rfl | (simp [mlive, b2n, eIA, eIS, eUO, eNS, h3, h4, h5, beq_false_of_ne h4, beq_false_of_ne h5, bne_iff_ne.mpr h4, bne_iff_ne.mpr h5]; done) | (simp [mlive, b2n, eIA, eIS, eUO, eNS, h3, h4, h5, beq_false_of_ne h4, beq_false_of_ne h5, bne_iff_ne.mpr h4, bne_iff_ne.mpr h5]; rfl) | (simp [mlive, b2n, eIA, eIS, eUO, eNS, h4, h5, beq_iff_eq.mpr h3, beq_false_of_ne h4, beq_false_of_ne h5, bne_iff_ne.mpr h4, bne_iff_ne.mpr h5]; done) | (simp [mlive, b2n, eIA, eIS, eUO, eNS, h4, h5, beq_iff_eq.mpr h3, beq_false_of_ne h4, beq_false_of_ne h5, bne_iff_ne.mpr h4, bne_iff_ne.mpr h5]; rfl) | (simp only [mlive, b2n, eIA, eIS, eUO, eNS, h3, h4, h5, beq_false_of_ne h4, beq_false_of_ne h5, bne_iff_ne.mpr h4, bne_iff_ne.mpr h5]; rfl))
set_option maxHeartbeats 4000000 in
set_option maxRecDepth 100000 in
theorem c_FK_isMyPage {l : Launch} {s0 : State} {a0 : Array Value} {D : va_G} {cI cL : ClassId} (K0 : k0 l s0 a0 D cI cL) (ad : Nat → Nat) (r : va_W) (σ : kS) (g : Nat) (kk : Nat) (ok : kOk σ) (hg : g < 20) (hk : kk < 6) : kMet l y_FK_isMyPage (Cond.code y_FK_isMyPage b_FK_isMyPage 3 (some .boolean)) (rmL 3) [.ref (ad 0), .int (nI g), .int (nI kk)] (kPre D vwCl s0 (wC ad cI r) σ) (.ok (some (.int (nI (b2n (mpage σ g kk)))), ())) kBr := by
  refine k_of (by decide) (Nat.le_of_ble_eq_true rfl) ?_
  intro p e9 s m below meth c hx hb hr hlocks hown hml hex hpre ls hl
  obtain ⟨hE, hP, hD⟩ := hpre
  obtain ⟨hts, hK⟩ := K0.at (args := ([.ref (ad 0), .int (nI g), .int (nI kk)] : List Value).toArray) hE
  have hl : lv_has ls 3 [(0, .ref (ad 0)), (1, .int (nI g)), (2, .int (nI kk))] := hl
  have hS : va_S (kA s0) s.heap s.heap [] := va_S.rf
  obtain ⟨o1, o2, o3, o4, o5, o6, o7, o8, o9, o10, o0, ⟨oc1, oc2⟩, oc3, or6⟩ := id ok
  have hr0 : σ.1 6 (σ.1 11 0) ≠ 0 := or6 _ oc2 (by omega)
  have hr1 : σ.1 6 (σ.1 11 0) < 21 := o6 _ oc2
  refine lv_aload_n hx hb d_FK_isMyPage_0 rfl (lv_at hl 0 rfl) ?_
  refine va_get (D := D) (ci := nFK) (v := .ref (ad 1)) (C := R_FK) (T := T_FK) (N := 4) hx hb hts i_FK hown hK hP 0 rfl rfl 0 (by decide) (hts _ tw_116) (fun _ h9 => h9) rfl d_FK_isMyPage_1 ?_
  refine lv_iload_n hx hb d_FK_isMyPage_4 rfl (lv_at hl 1 rfl) ?_
  refine k_callR (k_atV (As := [.int (nI g)]) hx hb hown hE.1 (K0.w tw_243) (hts _ tw_240) (hts _ tw_241) (hts _ tw_242) (hts _ tw_2) (by decide) np_Mem_kindOf (va_recv hK hP (ci := nMem) (q0 := 1) rfl rfl) rfl d_FK_isMyPage_5) (c_Mem_kindOf K0 ad r σ g (by omega)) (hl.1.trans hml.symm) (Nat.le_of_ble_eq_true rfl) ⟨Nat.le_of_ble_eq_true rfl, Nat.le_of_ble_eq_true rfl, Nat.le_of_ble_eq_true rfl, Nat.le_of_ble_eq_true rfl⟩ (fun U hU hW => ⟨hE.go hW hU hS, by rw [hU]; exact hP, hD⟩) ?_
  have ho1 := o0 g (by omega)
  refine lv_iload_n hx hb d_FK_isMyPage_8 rfl (lv_at hl 2 rfl) ?_
  refine k_neN (tgt := 31) (Nat.lt_of_lt_of_le (ok.b0 _ (by omega)) (by decide)) (by omega) hx hb d_FK_isMyPage_9 (by decide) (fun h2 => ?_) (fun h2 => ?_)
  · refine lv_iconst (v := (nI 0)) hx hb d_FK_isMyPage_31 (by decide) ?_
    exact k_retZ hx hb hr hlocks (by decide) d_FK_isMyPage_32 (by first | rfl | (simp [mpage, b2n, eIA, eIS, eUO, eNS, h2, beq_false_of_ne h2, bne_iff_ne.mpr h2]; done) | (simp [mpage, b2n, eIA, eIS, eUO, eNS, h2, beq_false_of_ne h2, bne_iff_ne.mpr h2]; rfl) | (simp [mpage, b2n, eIA, eIS, eUO, eNS, h2, beq_false_of_ne h2, bne_iff_ne.mpr h2]; done) | (simp [mpage, b2n, eIA, eIS, eUO, eNS, h2, beq_false_of_ne h2, bne_iff_ne.mpr h2]; rfl) | (simp only [mpage, b2n, eIA, eIS, eUO, eNS, h2, beq_false_of_ne h2, bne_iff_ne.mpr h2]; rfl))
  · refine lv_aload_n hx hb d_FK_isMyPage_12 rfl (lv_at hl 0 rfl) ?_
    refine lv_aload_n hx hb d_FK_isMyPage_13 rfl (lv_at hl 0 rfl) ?_
    refine va_get (D := D) (ci := nFK) (v := .ref (ad 1)) (C := R_FK) (T := T_FK) (N := 4) hx hb hts i_FK hown hK hP 0 rfl rfl 0 (by decide) (hts _ tw_116) (fun _ h9 => h9) rfl d_FK_isMyPage_14 ?_
    refine lv_iload_n hx hb d_FK_isMyPage_17 rfl (lv_at hl 1 rfl) ?_
    refine k_callR (k_atV (As := [.int (nI g)]) hx hb hown hE.1 (K0.w tw_270) (hts _ tw_267) (hts _ tw_268) (hts _ tw_269) (hts _ tw_2) (by decide) np_Mem_ownerOf (va_recv hK hP (ci := nMem) (q0 := 1) rfl rfl) rfl d_FK_isMyPage_18) (c_Mem_ownerOf K0 ad r σ g (by omega)) (hl.1.trans hml.symm) (Nat.le_of_ble_eq_true rfl) ⟨Nat.le_of_ble_eq_true rfl, Nat.le_of_ble_eq_true rfl, Nat.le_of_ble_eq_true rfl, Nat.le_of_ble_eq_true rfl⟩ (fun U hU hW => ⟨hE.go hW hU hS, by rw [hU]; exact hP, hD⟩) ?_
    have ho3 := o1 g (by omega)
    rcases hq4 : mine σ (σ.1 1 g) with _ | _
    · refine k_callR (k_atV (As := [.int (nI (σ.1 1 g))]) hx hb hown hE.1 (K0.w tw_274) (hts _ tw_271) (hts _ tw_273) (hts _ tw_9004) (hts _ tw_1) (by decide) np_FK_isMine (va_recv hK hP (ci := nFK) (q0 := 0) rfl rfl) rfl d_FK_isMyPage_21) (kb_f hq4 (c_FK_isMine K0 ad r σ (σ.1 1 g) ok (by omega))) (hl.1.trans hml.symm) (Nat.le_of_ble_eq_true rfl) ⟨Nat.le_of_ble_eq_true rfl, Nat.le_of_ble_eq_true rfl, Nat.le_of_ble_eq_true rfl, Nat.le_of_ble_eq_true rfl⟩ (fun U hU hW => ⟨hE.go hW hU hS, by rw [hU]; exact hP, hD⟩) ?_
      refine k_if0 (tgt := 31) (by decide) hx hb d_FK_isMyPage_24 (by decide) (fun _ => ?_) (fun h9 => absurd h9 (by decide))
      refine lv_iconst (v := (nI 0)) hx hb d_FK_isMyPage_31 (by decide) ?_
      exact k_retZ hx hb hr hlocks (by decide) d_FK_isMyPage_32 (by first | rfl | (simp [mpage, b2n, eIA, eIS, eUO, eNS, h2, hq4]; done) | (simp [mpage, b2n, eIA, eIS, eUO, eNS, h2, hq4]; rfl) | (simp [mpage, b2n, eIA, eIS, eUO, eNS, hq4, beq_iff_eq.mpr h2]; done) | (simp [mpage, b2n, eIA, eIS, eUO, eNS, hq4, beq_iff_eq.mpr h2]; rfl) | (simp only [mpage, b2n, eIA, eIS, eUO, eNS, h2, hq4]; rfl))
    · refine k_callR (k_atV (As := [.int (nI (σ.1 1 g))]) hx hb hown hE.1 (K0.w tw_274) (hts _ tw_271) (hts _ tw_273) (hts _ tw_9004) (hts _ tw_1) (by decide) np_FK_isMine (va_recv hK hP (ci := nFK) (q0 := 0) rfl rfl) rfl d_FK_isMyPage_21) (kb_t hq4 (c_FK_isMine K0 ad r σ (σ.1 1 g) ok (by omega))) (hl.1.trans hml.symm) (Nat.le_of_ble_eq_true rfl) ⟨Nat.le_of_ble_eq_true rfl, Nat.le_of_ble_eq_true rfl, Nat.le_of_ble_eq_true rfl, Nat.le_of_ble_eq_true rfl⟩ (fun U hU hW => ⟨hE.go hW hU hS, by rw [hU]; exact hP, hD⟩) ?_
      refine k_if0 (tgt := 31) (by decide) hx hb d_FK_isMyPage_24 (by decide) (fun h9 => absurd h9 (by decide)) (fun _ => ?_)
      refine lv_iconst (v := (nI 1)) hx hb d_FK_isMyPage_27 (by decide) ?_
      refine lv_goto (tgt := 32) hx hb d_FK_isMyPage_28 (by decide) ?_
      exact k_retZ hx hb hr hlocks (by decide) d_FK_isMyPage_32 (by first | rfl | (simp [mpage, b2n, eIA, eIS, eUO, eNS, h2, hq4]; done) | (simp [mpage, b2n, eIA, eIS, eUO, eNS, h2, hq4]; rfl) | (simp [mpage, b2n, eIA, eIS, eUO, eNS, hq4, beq_iff_eq.mpr h2]; done) | (simp [mpage, b2n, eIA, eIS, eUO, eNS, hq4, beq_iff_eq.mpr h2]; rfl) | (simp only [mpage, b2n, eIA, eIS, eUO, eNS, h2, hq4]; rfl))
set_option maxHeartbeats 4000000 in
set_option maxRecDepth 100000 in
theorem c_FK_holdsMoreThanRoot {l : Launch} {s0 : State} {a0 : Array Value} {D : va_G} {cI cL : ClassId} (K0 : k0 l s0 a0 D cI cL) (ad : Nat → Nat) (r : va_W) (σ : kS) (q : Nat) (ok : kOk σ) (hq : q < 6) (hr6 : σ.1 6 q ≠ 0) : kMet l y_FK_holdsMoreThanRoot (Cond.code y_FK_holdsMoreThanRoot b_FK_holdsMoreThanRoot 2 (some .boolean)) (rmL 2) [.ref (ad 0), .int (nI q)] (kPre D vwCl s0 (wC ad cI r) σ) (.ok (some (.int (nI (b2n (mhas σ q)))), ())) kBr := by
  refine k_of (by decide) (Nat.le_of_ble_eq_true rfl) ?_
  intro p e9 s m below meth c hx hb hr hlocks hown hml hex hpre ls hl
  obtain ⟨hE, hP, hD⟩ := hpre
  obtain ⟨hts, hK⟩ := K0.at (args := ([.ref (ad 0), .int (nI q)] : List Value).toArray) hE
  have hl : lv_has ls 2 [(0, .ref (ad 0)), (1, .int (nI q))] := hl
  have hS : va_S (kA s0) s.heap s.heap [] := va_S.rf
  obtain ⟨o1, o2, o3, o4, o5, o6, o7, o8, o9, o10, o0, ⟨oc1, oc2⟩, oc3, or6⟩ := id ok
  have hr0 : σ.1 6 (σ.1 11 0) ≠ 0 := or6 _ oc2 (by omega)
  have hr1 : σ.1 6 (σ.1 11 0) < 21 := o6 _ oc2
  refine lv_aload_n hx hb d_FK_holdsMoreThanRoot_0 rfl (lv_at hl 0 rfl) ?_
  refine va_get (D := D) (ci := nFK) (v := .ref (ad 1)) (C := R_FK) (T := T_FK) (N := 4) hx hb hts i_FK hown hK hP 0 rfl rfl 0 (by decide) (hts _ tw_116) (fun _ h9 => h9) rfl d_FK_holdsMoreThanRoot_1 ?_
  refine lv_iload_n hx hb d_FK_holdsMoreThanRoot_4 rfl (lv_at hl 1 rfl) ?_
  refine k_callR (k_atV (As := [.int (nI q)]) hx hb hown hE.1 (K0.w tw_449) (hts _ tw_446) (hts _ tw_447) (hts _ tw_448) (hts _ tw_2) (by decide) np_Mem_pagesOf (va_recv hK hP (ci := nMem) (q0 := 1) rfl rfl) rfl d_FK_holdsMoreThanRoot_5) (c_Mem_pagesOf K0 ad r σ q (by omega) ok.b1) (hl.1.trans hml.symm) (Nat.le_of_ble_eq_true rfl) ⟨Nat.le_of_ble_eq_true rfl, Nat.le_of_ble_eq_true rfl, Nat.le_of_ble_eq_true rfl, Nat.le_of_ble_eq_true rfl⟩ (fun U hU hW => ⟨hE.go hW hU hS, by rw [hU]; exact hP, hD⟩) ?_
  have hc1 : (owned σ q) ≤ 20 := cnt_le _ _
  refine lv_iconst (v := (nI 1)) hx hb d_FK_holdsMoreThanRoot_8 (by decide) ?_
  refine k_gtN (tgt := 41) (by omega) (by omega) hx hb d_FK_holdsMoreThanRoot_9 (by decide) (fun h2 => ?_) (fun h2 => ?_)
  · refine lv_iconst (v := (nI 1)) hx hb d_FK_holdsMoreThanRoot_41 (by decide) ?_
    refine lv_goto (tgt := 46) hx hb d_FK_holdsMoreThanRoot_42 (by decide) ?_
    exact k_retZ hx hb hr hlocks (by decide) d_FK_holdsMoreThanRoot_46 (by first | rfl | (simp [mhas, b2n, eIA, eIS, eUO, eNS, h2]; done) | (simp [mhas, b2n, eIA, eIS, eUO, eNS, h2]; rfl) | (simp [mhas, b2n, eIA, eIS, eUO, eNS, h2]; done) | (simp [mhas, b2n, eIA, eIS, eUO, eNS, h2]; rfl) | (simp only [mhas, b2n, eIA, eIS, eUO, eNS, h2]; rfl))
  · refine lv_aload_n hx hb d_FK_holdsMoreThanRoot_12 rfl (lv_at hl 0 rfl) ?_
    refine va_get (D := D) (ci := nFK) (v := .ref (ad 1)) (C := R_FK) (T := T_FK) (N := 4) hx hb hts i_FK hown hK hP 0 rfl rfl 0 (by decide) (hts _ tw_116) (fun _ h9 => h9) rfl d_FK_holdsMoreThanRoot_13 ?_
    refine lv_aload_n hx hb d_FK_holdsMoreThanRoot_16 rfl (lv_at hl 0 rfl) ?_
    refine va_get (D := D) (ci := nFK) (v := .ref (ad 2)) (C := R_FK) (T := T_FK) (N := 4) hx hb hts i_FK hown hK hP 0 rfl rfl 1 (by decide) (hts _ tw_117) (fun _ h9 => h9) rfl d_FK_holdsMoreThanRoot_17 ?_
    refine lv_iload_n hx hb d_FK_holdsMoreThanRoot_20 rfl (lv_at hl 1 rfl) ?_
    refine k_callR (k_atV (As := [.int (nI q)]) hx hb hown hE.1 (K0.w tw_453) (hts _ tw_450) (hts _ tw_451) (hts _ tw_452) (hts _ tw_3) (by decide) np_Pro_rootOf (va_recv hK hP (ci := nPro) (q0 := 2) rfl rfl) rfl d_FK_holdsMoreThanRoot_21) (c_Pro_rootOf K0 ad r σ q (by omega)) (hl.1.trans hml.symm) (Nat.le_of_ble_eq_true rfl) ⟨Nat.le_of_ble_eq_true rfl, Nat.le_of_ble_eq_true rfl, Nat.le_of_ble_eq_true rfl, Nat.le_of_ble_eq_true rfl⟩ (fun U hU hW => ⟨hE.go hW hU hS, by rw [hU]; exact hP, hD⟩) ?_
    have ho3 := o6 q (by omega)
    refine k_st (st' := [.int (nI ((σ.1 6 q) - 1)), .ref (ad 1)]) (by show ([.int (pI (σ.1 6 q)), .ref (ad 1)] : List Value) = _; rw [pI_pred (by omega)]) ?_
    refine k_callR (k_atV (As := [.int (nI ((σ.1 6 q) - 1))]) hx hb hown hE.1 (K0.w tw_371) (hts _ tw_368) (hts _ tw_369) (hts _ tw_370) (hts _ tw_2) (by decide) np_Mem_filledEntries (va_recv hK hP (ci := nMem) (q0 := 1) rfl rfl) rfl d_FK_holdsMoreThanRoot_24) (c_Mem_filledEntries K0 ad r σ ((σ.1 6 q) - 1) (by omega) ok.b2) (hl.1.trans hml.symm) (Nat.le_of_ble_eq_true rfl) ⟨Nat.le_of_ble_eq_true rfl, Nat.le_of_ble_eq_true rfl, Nat.le_of_ble_eq_true rfl, Nat.le_of_ble_eq_true rfl⟩ (fun U hU hW => ⟨hE.go hW hU hS, by rw [hU]; exact hP, hD⟩) ?_
    have hc4 : (filled σ ((σ.1 6 q) - 1)) ≤ 4 := cnt_le _ _
    refine k_gtN0 (tgt := 41) (by omega) hx hb d_FK_holdsMoreThanRoot_27 (by decide) (fun h5 => ?_) (fun h5 => ?_)
    · refine lv_iconst (v := (nI 1)) hx hb d_FK_holdsMoreThanRoot_41 (by decide) ?_
      refine lv_goto (tgt := 46) hx hb d_FK_holdsMoreThanRoot_42 (by decide) ?_
      exact k_retZ hx hb hr hlocks (by decide) d_FK_holdsMoreThanRoot_46 (by first | rfl | (simp [mhas, b2n, eIA, eIS, eUO, eNS, h2, h5, beq_false_of_ne h5, bne_iff_ne.mpr h5, Nat.not_lt.mpr h2]; done) | (simp [mhas, b2n, eIA, eIS, eUO, eNS, h2, h5, beq_false_of_ne h5, bne_iff_ne.mpr h5, Nat.not_lt.mpr h2]; rfl) | (simp [mhas, b2n, eIA, eIS, eUO, eNS, h2, h5, beq_false_of_ne h5, bne_iff_ne.mpr h5, Nat.not_lt.mpr h2]; done) | (simp [mhas, b2n, eIA, eIS, eUO, eNS, h2, h5, beq_false_of_ne h5, bne_iff_ne.mpr h5, Nat.not_lt.mpr h2]; rfl) | (simp only [mhas, b2n, eIA, eIS, eUO, eNS, h2, h5, beq_false_of_ne h5, bne_iff_ne.mpr h5, Nat.not_lt.mpr h2]; rfl))
    · refine lv_aload_n hx hb d_FK_holdsMoreThanRoot_30 rfl (lv_at hl 0 rfl) ?_
      refine va_get (D := D) (ci := nFK) (v := .ref (ad 2)) (C := R_FK) (T := T_FK) (N := 4) hx hb hts i_FK hown hK hP 0 rfl rfl 1 (by decide) (hts _ tw_117) (fun _ h9 => h9) rfl d_FK_holdsMoreThanRoot_31 ?_
      refine lv_iload_n hx hb d_FK_holdsMoreThanRoot_34 rfl (lv_at hl 1 rfl) ?_
      refine k_callR (k_atV (As := [.int (nI q)]) hx hb hown hE.1 (K0.w tw_429) (hts _ tw_426) (hts _ tw_427) (hts _ tw_428) (hts _ tw_3) (by decide) np_Pro_descriptorsInUse (va_recv hK hP (ci := nPro) (q0 := 2) rfl rfl) rfl d_FK_holdsMoreThanRoot_35) (c_Pro_descriptorsInUse K0 ad r σ q (by omega) ok.b7) (hl.1.trans hml.symm) (Nat.le_of_ble_eq_true rfl) ⟨Nat.le_of_ble_eq_true rfl, Nat.le_of_ble_eq_true rfl, Nat.le_of_ble_eq_true rfl, Nat.le_of_ble_eq_true rfl⟩ (fun U hU hW => ⟨hE.go hW hU hS, by rw [hU]; exact hP, hD⟩) ?_
      have hc6 : (inuse σ q) ≤ 4 := cnt_le _ _
      refine k_leN0 (tgt := 45) (by omega) hx hb d_FK_holdsMoreThanRoot_38 (by decide) (fun h7 => ?_) (fun h7 => ?_)
      · refine lv_iconst (v := (nI 0)) hx hb d_FK_holdsMoreThanRoot_45 (by decide) ?_
        exact k_retZ hx hb hr hlocks (by decide) d_FK_holdsMoreThanRoot_46 (by first | rfl | (simp [mhas, b2n, eIA, eIS, eUO, eNS, h2, h5, h7, Nat.not_lt.mpr h2]; done) | (simp [mhas, b2n, eIA, eIS, eUO, eNS, h2, h5, h7, Nat.not_lt.mpr h2]; rfl) | (simp [mhas, b2n, eIA, eIS, eUO, eNS, h2, beq_iff_eq.mpr h5, beq_iff_eq.mpr h7, Nat.not_lt.mpr h2]; done) | (simp [mhas, b2n, eIA, eIS, eUO, eNS, h2, beq_iff_eq.mpr h5, beq_iff_eq.mpr h7, Nat.not_lt.mpr h2]; rfl) | (simp only [mhas, b2n, eIA, eIS, eUO, eNS, h2, h5, h7, Nat.not_lt.mpr h2]; rfl))
      · refine lv_iconst (v := (nI 1)) hx hb d_FK_holdsMoreThanRoot_41 (by decide) ?_
        refine lv_goto (tgt := 46) hx hb d_FK_holdsMoreThanRoot_42 (by decide) ?_
        exact k_retZ hx hb hr hlocks (by decide) d_FK_holdsMoreThanRoot_46 (by first | rfl | (simp [mhas, b2n, eIA, eIS, eUO, eNS, h2, h5, h7, beq_false_of_ne h7, bne_iff_ne.mpr h7, Nat.not_lt.mpr h2]; done) | (simp [mhas, b2n, eIA, eIS, eUO, eNS, h2, h5, h7, beq_false_of_ne h7, bne_iff_ne.mpr h7, Nat.not_lt.mpr h2]; rfl) | (simp [mhas, b2n, eIA, eIS, eUO, eNS, h2, h7, beq_iff_eq.mpr h5, beq_false_of_ne h7, bne_iff_ne.mpr h7, Nat.not_lt.mpr h2]; done) | (simp [mhas, b2n, eIA, eIS, eUO, eNS, h2, h7, beq_iff_eq.mpr h5, beq_false_of_ne h7, bne_iff_ne.mpr h7, Nat.not_lt.mpr h2]; rfl) | (simp only [mhas, b2n, eIA, eIS, eUO, eNS, h2, h5, h7, beq_false_of_ne h7, bne_iff_ne.mpr h7, Nat.not_lt.mpr h2]; rfl))
set_option maxHeartbeats 4000000 in
set_option maxRecDepth 100000 in
theorem c_FK_checkIsMine {l : Launch} {s0 : State} {a0 : Array Value} {D : va_G} {cI cL : ClassId} (K0 : k0 l s0 a0 D cI cL) (ad : Nat → Nat) (r : va_W) (σ : kS) (q : Nat) (ok : kOk σ) (hq : q < 6) : kMet l y_FK_checkIsMine (Cond.code y_FK_checkIsMine b_FK_checkIsMine 2 none) (rmL 6) [.ref (ad 0), .int (nI q)] (kPre D vwCl s0 (wC ad cI r) σ) (req (mine σ q) eUO (.ok (none, ()))) kBr := by
  refine k_of (by decide) (Nat.le_of_ble_eq_true rfl) ?_
  intro p e9 s m below meth c hx hb hr hlocks hown hml hex hpre ls hl
  obtain ⟨hE, hP, hD⟩ := hpre
  obtain ⟨hts, hK⟩ := K0.at (args := ([.ref (ad 0), .int (nI q)] : List Value).toArray) hE
  have hl : lv_has ls 2 [(0, .ref (ad 0)), (1, .int (nI q))] := hl
  have hS : va_S (kA s0) s.heap s.heap [] := va_S.rf
  obtain ⟨o1, o2, o3, o4, o5, o6, o7, o8, o9, o10, o0, ⟨oc1, oc2⟩, oc3, or6⟩ := id ok
  have hr0 : σ.1 6 (σ.1 11 0) ≠ 0 := or6 _ oc2 (by omega)
  have hr1 : σ.1 6 (σ.1 11 0) < 21 := o6 _ oc2
  refine lv_aload_n hx hb d_FK_checkIsMine_0 rfl (lv_at hl 0 rfl) ?_
  refine lv_iload_n hx hb d_FK_checkIsMine_1 rfl (lv_at hl 1 rfl) ?_
  rcases hq1 : mine σ q with _ | _
  · refine k_callR (k_atV (As := [.int (nI q)]) hx hb hown hE.1 (K0.w tw_274) (hts _ tw_271) (hts _ tw_273) (hts _ tw_9004) (hts _ tw_1) (by decide) np_FK_isMine (va_recv hK hP (ci := nFK) (q0 := 0) rfl rfl) rfl d_FK_checkIsMine_2) (kb_f hq1 (c_FK_isMine K0 ad r σ q ok (by omega))) (hl.1.trans hml.symm) (Nat.le_of_ble_eq_true rfl) ⟨Nat.le_of_ble_eq_true rfl, Nat.le_of_ble_eq_true rfl, Nat.le_of_ble_eq_true rfl, Nat.le_of_ble_eq_true rfl⟩ (fun U hU hW => ⟨hE.go hW hU hS, by rw [hU]; exact hP, hD⟩) ?_
    refine k_ifN0 (tgt := 19) (by decide) hx hb d_FK_checkIsMine_5 (by decide) (fun h9 => absurd h9 (by decide)) (fun _ => ?_)
    exact k_throwW hx hb K0.tr hown (text := "the process is not the caller's") (names := kNames) (by decide +kernel) (by decide +kernel) (hts _ tw_283) (hts _ tw_11) (K0.str hE sr_267) (K0.own hE oa_95) (hl.1.trans hml.symm) d_FK_checkIsMine_8 d_FK_checkIsMine_11 d_FK_checkIsMine_12 d_FK_checkIsMine_15 d_FK_checkIsMine_18 hex hlocks ⟨Nat.le_of_ble_eq_true rfl, Nat.le_of_ble_eq_true rfl, Nat.le_of_ble_eq_true rfl, Nat.le_of_ble_eq_true rfl⟩ (by first | rfl | (simp [req, eIA, eIS, eUO, eNS, hq1]; done) | (simp [req, eIA, eIS, eUO, eNS, hq1]; rfl) | (simp [req, eIA, eIS, eUO, eNS, hq1]; done) | (simp [req, eIA, eIS, eUO, eNS, hq1]; rfl) | (simp only [req, eIA, eIS, eUO, eNS, hq1]; rfl))
  · refine k_callR (k_atV (As := [.int (nI q)]) hx hb hown hE.1 (K0.w tw_274) (hts _ tw_271) (hts _ tw_273) (hts _ tw_9004) (hts _ tw_1) (by decide) np_FK_isMine (va_recv hK hP (ci := nFK) (q0 := 0) rfl rfl) rfl d_FK_checkIsMine_2) (kb_t hq1 (c_FK_isMine K0 ad r σ q ok (by omega))) (hl.1.trans hml.symm) (Nat.le_of_ble_eq_true rfl) ⟨Nat.le_of_ble_eq_true rfl, Nat.le_of_ble_eq_true rfl, Nat.le_of_ble_eq_true rfl, Nat.le_of_ble_eq_true rfl⟩ (fun U hU hW => ⟨hE.go hW hU hS, by rw [hU]; exact hP, hD⟩) ?_
    refine k_ifN0 (tgt := 19) (by decide) hx hb d_FK_checkIsMine_5 (by decide) (fun _ => ?_) (fun h9 => absurd h9 (by decide))
    exact k_retV hx hb hr hlocks d_FK_checkIsMine_19 (by first | rfl | (simp [req, eIA, eIS, eUO, eNS, hq1]; done) | (simp [req, eIA, eIS, eUO, eNS, hq1]; rfl) | (simp [req, eIA, eIS, eUO, eNS, hq1]; done) | (simp [req, eIA, eIS, eUO, eNS, hq1]; rfl) | (simp only [req, eIA, eIS, eUO, eNS, hq1]; rfl))
set_option maxHeartbeats 4000000 in
set_option maxRecDepth 100000 in
theorem c_FK_checkIsReady {l : Launch} {s0 : State} {a0 : Array Value} {D : va_G} {cI cL : ClassId} (K0 : k0 l s0 a0 D cI cL) (ad : Nat → Nat) (r : va_W) (σ : kS) (q : Nat) (ok : kOk σ) (hq : q < 6) : kMet l y_FK_checkIsReady (Cond.code y_FK_checkIsReady b_FK_checkIsReady 2 none) (rmL 6) [.ref (ad 0), .int (nI q)] (kPre D vwCl s0 (wC ad cI r) σ) (req (σ.1 4 q == 2) eIS (.ok (none, ()))) kBr := by
  refine k_of (by decide) (Nat.le_of_ble_eq_true rfl) ?_
  intro p e9 s m below meth c hx hb hr hlocks hown hml hex hpre ls hl
  obtain ⟨hE, hP, hD⟩ := hpre
  obtain ⟨hts, hK⟩ := K0.at (args := ([.ref (ad 0), .int (nI q)] : List Value).toArray) hE
  have hl : lv_has ls 2 [(0, .ref (ad 0)), (1, .int (nI q))] := hl
  have hS : va_S (kA s0) s.heap s.heap [] := va_S.rf
  obtain ⟨o1, o2, o3, o4, o5, o6, o7, o8, o9, o10, o0, ⟨oc1, oc2⟩, oc3, or6⟩ := id ok
  have hr0 : σ.1 6 (σ.1 11 0) ≠ 0 := or6 _ oc2 (by omega)
  have hr1 : σ.1 6 (σ.1 11 0) < 21 := o6 _ oc2
  refine lv_aload_n hx hb d_FK_checkIsReady_0 rfl (lv_at hl 0 rfl) ?_
  refine va_get (D := D) (ci := nFK) (v := .ref (ad 2)) (C := R_FK) (T := T_FK) (N := 4) hx hb hts i_FK hown hK hP 0 rfl rfl 1 (by decide) (hts _ tw_117) (fun _ h9 => h9) rfl d_FK_checkIsReady_1 ?_
  refine lv_iload_n hx hb d_FK_checkIsReady_4 rfl (lv_at hl 1 rfl) ?_
  refine k_callR (k_atV (As := [.int (nI q)]) hx hb hown hE.1 (K0.w tw_219) (hts _ tw_216) (hts _ tw_217) (hts _ tw_218) (hts _ tw_3) (by decide) np_Pro_stateOf (va_recv hK hP (ci := nPro) (q0 := 2) rfl rfl) rfl d_FK_checkIsReady_5) (c_Pro_stateOf K0 ad r σ q (by omega)) (hl.1.trans hml.symm) (Nat.le_of_ble_eq_true rfl) ⟨Nat.le_of_ble_eq_true rfl, Nat.le_of_ble_eq_true rfl, Nat.le_of_ble_eq_true rfl, Nat.le_of_ble_eq_true rfl⟩ (fun U hU hW => ⟨hE.go hW hU hS, by rw [hU]; exact hP, hD⟩) ?_
  have ho1 := o4 q (by omega)
  refine lv_iconst (v := (nI 2)) hx hb d_FK_checkIsReady_8 (by decide) ?_
  refine k_eqN (tgt := 23) (Nat.lt_of_lt_of_le (ok.b4 _ (by omega)) (by decide)) (by omega) hx hb d_FK_checkIsReady_9 (by decide) (fun h2 => ?_) (fun h2 => ?_)
  · exact k_retV hx hb hr hlocks d_FK_checkIsReady_23 (by first | rfl | (simp [req, eIA, eIS, eUO, eNS, h2]; done) | (simp [req, eIA, eIS, eUO, eNS, h2]; rfl) | (simp [req, eIA, eIS, eUO, eNS, beq_iff_eq.mpr h2]; done) | (simp [req, eIA, eIS, eUO, eNS, beq_iff_eq.mpr h2]; rfl) | (simp only [req, eIA, eIS, eUO, eNS, h2]; rfl))
  · exact k_throwW hx hb K0.tr hown (text := "the process is not ready") (names := kNames) (by decide +kernel) (by decide +kernel) (hts _ tw_220) (hts _ tw_10) (K0.str hE sr_269) (K0.own hE oa_57) (hl.1.trans hml.symm) d_FK_checkIsReady_12 d_FK_checkIsReady_15 d_FK_checkIsReady_16 d_FK_checkIsReady_19 d_FK_checkIsReady_22 hex hlocks ⟨Nat.le_of_ble_eq_true rfl, Nat.le_of_ble_eq_true rfl, Nat.le_of_ble_eq_true rfl, Nat.le_of_ble_eq_true rfl⟩ (by first | rfl | (simp [req, eIA, eIS, eUO, eNS, h2, beq_false_of_ne h2, bne_iff_ne.mpr h2]; done) | (simp [req, eIA, eIS, eUO, eNS, h2, beq_false_of_ne h2, bne_iff_ne.mpr h2]; rfl) | (simp [req, eIA, eIS, eUO, eNS, h2, beq_false_of_ne h2, bne_iff_ne.mpr h2]; done) | (simp [req, eIA, eIS, eUO, eNS, h2, beq_false_of_ne h2, bne_iff_ne.mpr h2]; rfl) | (simp only [req, eIA, eIS, eUO, eNS, h2, beq_false_of_ne h2, bne_iff_ne.mpr h2]; rfl))
set_option maxHeartbeats 4000000 in
set_option maxRecDepth 100000 in
theorem c_FK_checkPageIsFree {l : Launch} {s0 : State} {a0 : Array Value} {D : va_G} {cI cL : ClassId} (K0 : k0 l s0 a0 D cI cL) (ad : Nat → Nat) (r : va_W) (σ : kS) (g : Nat) (ok : kOk σ) (hg : g < 20) : kMet l y_FK_checkPageIsFree (Cond.code y_FK_checkPageIsFree b_FK_checkPageIsFree 2 none) (rmL 6) [.ref (ad 0), .int (nI g)] (kPre D vwCl s0 (wC ad cI r) σ) (req (σ.1 0 g == 0) eIS (.ok (none, ()))) kBr := by
  refine k_of (by decide) (Nat.le_of_ble_eq_true rfl) ?_
  intro p e9 s m below meth c hx hb hr hlocks hown hml hex hpre ls hl
  obtain ⟨hE, hP, hD⟩ := hpre
  obtain ⟨hts, hK⟩ := K0.at (args := ([.ref (ad 0), .int (nI g)] : List Value).toArray) hE
  have hl : lv_has ls 2 [(0, .ref (ad 0)), (1, .int (nI g))] := hl
  have hS : va_S (kA s0) s.heap s.heap [] := va_S.rf
  obtain ⟨o1, o2, o3, o4, o5, o6, o7, o8, o9, o10, o0, ⟨oc1, oc2⟩, oc3, or6⟩ := id ok
  have hr0 : σ.1 6 (σ.1 11 0) ≠ 0 := or6 _ oc2 (by omega)
  have hr1 : σ.1 6 (σ.1 11 0) < 21 := o6 _ oc2
  refine lv_aload_n hx hb d_FK_checkPageIsFree_0 rfl (lv_at hl 0 rfl) ?_
  refine va_get (D := D) (ci := nFK) (v := .ref (ad 1)) (C := R_FK) (T := T_FK) (N := 4) hx hb hts i_FK hown hK hP 0 rfl rfl 0 (by decide) (hts _ tw_116) (fun _ h9 => h9) rfl d_FK_checkPageIsFree_1 ?_
  refine lv_iload_n hx hb d_FK_checkPageIsFree_4 rfl (lv_at hl 1 rfl) ?_
  refine k_callR (k_atV (As := [.int (nI g)]) hx hb hown hE.1 (K0.w tw_243) (hts _ tw_240) (hts _ tw_241) (hts _ tw_242) (hts _ tw_2) (by decide) np_Mem_kindOf (va_recv hK hP (ci := nMem) (q0 := 1) rfl rfl) rfl d_FK_checkPageIsFree_5) (c_Mem_kindOf K0 ad r σ g (by omega)) (hl.1.trans hml.symm) (Nat.le_of_ble_eq_true rfl) ⟨Nat.le_of_ble_eq_true rfl, Nat.le_of_ble_eq_true rfl, Nat.le_of_ble_eq_true rfl, Nat.le_of_ble_eq_true rfl⟩ (fun U hU hW => ⟨hE.go hW hU hS, by rw [hU]; exact hP, hD⟩) ?_
  have ho1 := o0 g (by omega)
  refine k_if0 (tgt := 22) (Nat.lt_of_lt_of_le (ok.b0 _ (by omega)) (by decide)) hx hb d_FK_checkPageIsFree_8 (by decide) (fun h2 => ?_) (fun h2 => ?_)
  · exact k_retV hx hb hr hlocks d_FK_checkPageIsFree_22 (by first | rfl | (simp [req, eIA, eIS, eUO, eNS, h2]; done) | (simp [req, eIA, eIS, eUO, eNS, h2]; rfl) | (simp [req, eIA, eIS, eUO, eNS, beq_iff_eq.mpr h2]; done) | (simp [req, eIA, eIS, eUO, eNS, beq_iff_eq.mpr h2]; rfl) | (simp only [req, eIA, eIS, eUO, eNS, h2]; rfl))
  · exact k_throwW hx hb K0.tr hown (text := "the page is not free") (names := kNames) (by decide +kernel) (by decide +kernel) (hts _ tw_220) (hts _ tw_10) (K0.str hE sr_271) (K0.own hE oa_57) (hl.1.trans hml.symm) d_FK_checkPageIsFree_11 d_FK_checkPageIsFree_14 d_FK_checkPageIsFree_15 d_FK_checkPageIsFree_18 d_FK_checkPageIsFree_21 hex hlocks ⟨Nat.le_of_ble_eq_true rfl, Nat.le_of_ble_eq_true rfl, Nat.le_of_ble_eq_true rfl, Nat.le_of_ble_eq_true rfl⟩ (by first | rfl | (simp [req, eIA, eIS, eUO, eNS, h2, beq_false_of_ne h2, bne_iff_ne.mpr h2]; done) | (simp [req, eIA, eIS, eUO, eNS, h2, beq_false_of_ne h2, bne_iff_ne.mpr h2]; rfl) | (simp [req, eIA, eIS, eUO, eNS, h2, beq_false_of_ne h2, bne_iff_ne.mpr h2]; done) | (simp [req, eIA, eIS, eUO, eNS, h2, beq_false_of_ne h2, bne_iff_ne.mpr h2]; rfl) | (simp only [req, eIA, eIS, eUO, eNS, h2, beq_false_of_ne h2, bne_iff_ne.mpr h2]; rfl))
set_option maxHeartbeats 4000000 in
set_option maxRecDepth 100000 in
theorem c_FK_checkDescriptorIsUnused {l : Launch} {s0 : State} {a0 : Array Value} {D : va_G} {cI cL : ClassId} (K0 : k0 l s0 a0 D cI cL) (ad : Nat → Nat) (r : va_W) (σ : kS) (q : Nat) (dd : Nat) (ok : kOk σ) (hq : q < 6) (hdd : dd < 4) : kMet l y_FK_checkDescriptorIsUnused (Cond.code y_FK_checkDescriptorIsUnused b_FK_checkDescriptorIsUnused 3 none) (rmL 6) [.ref (ad 0), .int (nI q), .int (nI dd)] (kPre D vwCl s0 (wC ad cI r) σ) (req (σ.1 7 (q * 4 + dd) == 0) eIS (.ok (none, ()))) kBr := by
  refine k_of (by decide) (Nat.le_of_ble_eq_true rfl) ?_
  intro p e9 s m below meth c hx hb hr hlocks hown hml hex hpre ls hl
  obtain ⟨hE, hP, hD⟩ := hpre
  obtain ⟨hts, hK⟩ := K0.at (args := ([.ref (ad 0), .int (nI q), .int (nI dd)] : List Value).toArray) hE
  have hl : lv_has ls 3 [(0, .ref (ad 0)), (1, .int (nI q)), (2, .int (nI dd))] := hl
  have hS : va_S (kA s0) s.heap s.heap [] := va_S.rf
  obtain ⟨o1, o2, o3, o4, o5, o6, o7, o8, o9, o10, o0, ⟨oc1, oc2⟩, oc3, or6⟩ := id ok
  have hr0 : σ.1 6 (σ.1 11 0) ≠ 0 := or6 _ oc2 (by omega)
  have hr1 : σ.1 6 (σ.1 11 0) < 21 := o6 _ oc2
  refine lv_aload_n hx hb d_FK_checkDescriptorIsUnused_0 rfl (lv_at hl 0 rfl) ?_
  refine va_get (D := D) (ci := nFK) (v := .ref (ad 2)) (C := R_FK) (T := T_FK) (N := 4) hx hb hts i_FK hown hK hP 0 rfl rfl 1 (by decide) (hts _ tw_117) (fun _ h9 => h9) rfl d_FK_checkDescriptorIsUnused_1 ?_
  refine lv_iload_n hx hb d_FK_checkDescriptorIsUnused_4 rfl (lv_at hl 1 rfl) ?_
  refine lv_iload_n hx hb d_FK_checkDescriptorIsUnused_5 rfl (lv_at hl 2 rfl) ?_
  refine k_callR (k_atV (As := [.int (nI q), .int (nI dd)]) hx hb hown hE.1 (K0.w tw_433) (hts _ tw_482) (hts _ tw_431) (hts _ tw_432) (hts _ tw_3) (by decide) np_Pro_pipeOf (va_recv hK hP (ci := nPro) (q0 := 2) rfl rfl) rfl d_FK_checkDescriptorIsUnused_6) (c_Pro_pipeOf K0 ad r σ q dd (by omega) (by omega)) (hl.1.trans hml.symm) (Nat.le_of_ble_eq_true rfl) ⟨Nat.le_of_ble_eq_true rfl, Nat.le_of_ble_eq_true rfl, Nat.le_of_ble_eq_true rfl, Nat.le_of_ble_eq_true rfl⟩ (fun U hU hW => ⟨hE.go hW hU hS, by rw [hU]; exact hP, hD⟩) ?_
  have ho1 := o7 (q * 4 + dd) (by omega)
  refine lv_iconst (v := (pI 0)) hx hb d_FK_checkDescriptorIsUnused_9 (by decide) ?_
  refine k_eqP (tgt := 24) (ok.b7 _ (by omega)) (by omega) hx hb d_FK_checkDescriptorIsUnused_10 (by decide) (fun h2 => ?_) (fun h2 => ?_)
  · exact k_retV hx hb hr hlocks d_FK_checkDescriptorIsUnused_24 (by first | rfl | (simp [req, eIA, eIS, eUO, eNS, h2]; done) | (simp [req, eIA, eIS, eUO, eNS, h2]; rfl) | (simp [req, eIA, eIS, eUO, eNS, beq_iff_eq.mpr h2]; done) | (simp [req, eIA, eIS, eUO, eNS, beq_iff_eq.mpr h2]; rfl) | (simp only [req, eIA, eIS, eUO, eNS, h2]; rfl))
  · exact k_throwW hx hb K0.tr hown (text := "the descriptor is in use") (names := kNames) (by decide +kernel) (by decide +kernel) (hts _ tw_220) (hts _ tw_10) (K0.str hE sr_276) (K0.own hE oa_57) (hl.1.trans hml.symm) d_FK_checkDescriptorIsUnused_13 d_FK_checkDescriptorIsUnused_16 d_FK_checkDescriptorIsUnused_17 d_FK_checkDescriptorIsUnused_20 d_FK_checkDescriptorIsUnused_23 hex hlocks ⟨Nat.le_of_ble_eq_true rfl, Nat.le_of_ble_eq_true rfl, Nat.le_of_ble_eq_true rfl, Nat.le_of_ble_eq_true rfl⟩ (by first | rfl | (simp [req, eIA, eIS, eUO, eNS, h2, beq_false_of_ne h2, bne_iff_ne.mpr h2]; done) | (simp [req, eIA, eIS, eUO, eNS, h2, beq_false_of_ne h2, bne_iff_ne.mpr h2]; rfl) | (simp [req, eIA, eIS, eUO, eNS, h2, beq_false_of_ne h2, bne_iff_ne.mpr h2]; done) | (simp [req, eIA, eIS, eUO, eNS, h2, beq_false_of_ne h2, bne_iff_ne.mpr h2]; rfl) | (simp only [req, eIA, eIS, eUO, eNS, h2, beq_false_of_ne h2, bne_iff_ne.mpr h2]; rfl))
set_option maxHeartbeats 4000000 in
set_option maxRecDepth 100000 in
theorem c_FK_checkMyEntryIsFilled {l : Launch} {s0 : State} {a0 : Array Value} {D : va_G} {cI cL : ClassId} (K0 : k0 l s0 a0 D cI cL) (ad : Nat → Nat) (r : va_W) (σ : kS) (g : Nat) (en : Nat) (ok : kOk σ) (hg : g < 20) (hen : en < 4) : kMet l y_FK_checkMyEntryIsFilled (Cond.code y_FK_checkMyEntryIsFilled b_FK_checkMyEntryIsFilled 3 none) (rmL 6) [.ref (ad 0), .int (nI g), .int (nI en)] (kPre D vwCl s0 (wC ad cI r) σ) (req (mhold σ g) eUO (req (σ.1 2 (g * 4 + en) != 0) eNS (.ok (none, ())))) kBr := by
  refine k_of (by decide) (Nat.le_of_ble_eq_true rfl) ?_
  intro p e9 s m below meth c hx hb hr hlocks hown hml hex hpre ls hl
  obtain ⟨hE, hP, hD⟩ := hpre
  obtain ⟨hts, hK⟩ := K0.at (args := ([.ref (ad 0), .int (nI g), .int (nI en)] : List Value).toArray) hE
  have hl : lv_has ls 3 [(0, .ref (ad 0)), (1, .int (nI g)), (2, .int (nI en))] := hl
  have hS : va_S (kA s0) s.heap s.heap [] := va_S.rf
  obtain ⟨o1, o2, o3, o4, o5, o6, o7, o8, o9, o10, o0, ⟨oc1, oc2⟩, oc3, or6⟩ := id ok
  have hr0 : σ.1 6 (σ.1 11 0) ≠ 0 := or6 _ oc2 (by omega)
  have hr1 : σ.1 6 (σ.1 11 0) < 21 := o6 _ oc2
  refine lv_aload_n hx hb d_FK_checkMyEntryIsFilled_0 rfl (lv_at hl 0 rfl) ?_
  refine lv_iload_n hx hb d_FK_checkMyEntryIsFilled_1 rfl (lv_at hl 1 rfl) ?_
  refine lv_iconst (v := (nI 1)) hx hb d_FK_checkMyEntryIsFilled_2 (by decide) ?_
  rcases hq1 : mpage σ g 1 with _ | _
  · refine k_callR (k_atV (As := [.int (nI g), .int (nI 1)]) hx hb hown hE.1 (K0.w tw_266) (hts _ tw_263) (hts _ tw_265) (hts _ tw_9003) (hts _ tw_1) (by decide) np_FK_isMyPage (va_recv hK hP (ci := nFK) (q0 := 0) rfl rfl) rfl d_FK_checkMyEntryIsFilled_3) (kb_f hq1 (c_FK_isMyPage K0 ad r σ g 1 ok (by omega) (by omega))) (hl.1.trans hml.symm) (Nat.le_of_ble_eq_true rfl) ⟨Nat.le_of_ble_eq_true rfl, Nat.le_of_ble_eq_true rfl, Nat.le_of_ble_eq_true rfl, Nat.le_of_ble_eq_true rfl⟩ (fun U hU hW => ⟨hE.go hW hU hS, by rw [hU]; exact hP, hD⟩) ?_
    refine k_ifN0 (tgt := 29) (by decide) hx hb d_FK_checkMyEntryIsFilled_6 (by decide) (fun h9 => absurd h9 (by decide)) (fun _ => ?_)
    refine lv_aload_n hx hb d_FK_checkMyEntryIsFilled_9 rfl (lv_at hl 0 rfl) ?_
    refine lv_iload_n hx hb d_FK_checkMyEntryIsFilled_10 rfl (lv_at hl 1 rfl) ?_
    refine lv_iconst (v := (nI 2)) hx hb d_FK_checkMyEntryIsFilled_11 (by decide) ?_
    rcases hq2 : mpage σ g 2 with _ | _
    · refine k_callR (k_atV (As := [.int (nI g), .int (nI 2)]) hx hb hown hE.1 (K0.w tw_266) (hts _ tw_263) (hts _ tw_265) (hts _ tw_9003) (hts _ tw_1) (by decide) np_FK_isMyPage (va_recv hK hP (ci := nFK) (q0 := 0) rfl rfl) rfl d_FK_checkMyEntryIsFilled_12) (kb_f hq2 (c_FK_isMyPage K0 ad r σ g 2 ok (by omega) (by omega))) (hl.1.trans hml.symm) (Nat.le_of_ble_eq_true rfl) ⟨Nat.le_of_ble_eq_true rfl, Nat.le_of_ble_eq_true rfl, Nat.le_of_ble_eq_true rfl, Nat.le_of_ble_eq_true rfl⟩ (fun U hU hW => ⟨hE.go hW hU hS, by rw [hU]; exact hP, hD⟩) ?_
      refine k_ifN0 (tgt := 29) (by decide) hx hb d_FK_checkMyEntryIsFilled_15 (by decide) (fun h9 => absurd h9 (by decide)) (fun _ => ?_)
      exact k_throwW hx hb K0.tr hown (text := "the page is no root or table of the caller's") (names := kNames) (by decide +kernel) (by decide +kernel) (hts _ tw_283) (hts _ tw_11) (K0.str hE sr_278) (K0.own hE oa_95) (hl.1.trans hml.symm) d_FK_checkMyEntryIsFilled_18 d_FK_checkMyEntryIsFilled_21 d_FK_checkMyEntryIsFilled_22 d_FK_checkMyEntryIsFilled_25 d_FK_checkMyEntryIsFilled_28 hex hlocks ⟨Nat.le_of_ble_eq_true rfl, Nat.le_of_ble_eq_true rfl, Nat.le_of_ble_eq_true rfl, Nat.le_of_ble_eq_true rfl⟩ (by first | rfl | (simp [req, mhold, eIA, eIS, eUO, eNS, hq1, hq2]; done) | (simp [req, mhold, eIA, eIS, eUO, eNS, hq1, hq2]; rfl) | (simp [req, mhold, eIA, eIS, eUO, eNS, hq1, hq2]; done) | (simp [req, mhold, eIA, eIS, eUO, eNS, hq1, hq2]; rfl) | (simp only [req, mhold, eIA, eIS, eUO, eNS, hq1, hq2]; rfl))
    · refine k_callR (k_atV (As := [.int (nI g), .int (nI 2)]) hx hb hown hE.1 (K0.w tw_266) (hts _ tw_263) (hts _ tw_265) (hts _ tw_9003) (hts _ tw_1) (by decide) np_FK_isMyPage (va_recv hK hP (ci := nFK) (q0 := 0) rfl rfl) rfl d_FK_checkMyEntryIsFilled_12) (kb_t hq2 (c_FK_isMyPage K0 ad r σ g 2 ok (by omega) (by omega))) (hl.1.trans hml.symm) (Nat.le_of_ble_eq_true rfl) ⟨Nat.le_of_ble_eq_true rfl, Nat.le_of_ble_eq_true rfl, Nat.le_of_ble_eq_true rfl, Nat.le_of_ble_eq_true rfl⟩ (fun U hU hW => ⟨hE.go hW hU hS, by rw [hU]; exact hP, hD⟩) ?_
      refine k_ifN0 (tgt := 29) (by decide) hx hb d_FK_checkMyEntryIsFilled_15 (by decide) (fun _ => ?_) (fun h9 => absurd h9 (by decide))
      refine lv_aload_n hx hb d_FK_checkMyEntryIsFilled_29 rfl (lv_at hl 0 rfl) ?_
      refine va_get (D := D) (ci := nFK) (v := .ref (ad 1)) (C := R_FK) (T := T_FK) (N := 4) hx hb hts i_FK hown hK hP 0 rfl rfl 0 (by decide) (hts _ tw_116) (fun _ h9 => h9) rfl d_FK_checkMyEntryIsFilled_30 ?_
      refine lv_iload_n hx hb d_FK_checkMyEntryIsFilled_33 rfl (lv_at hl 1 rfl) ?_
      refine lv_iload_n hx hb d_FK_checkMyEntryIsFilled_34 rfl (lv_at hl 2 rfl) ?_
      refine k_callR (k_atV (As := [.int (nI g), .int (nI en)]) hx hb hown hE.1 (K0.w tw_302) (hts _ tw_299) (hts _ tw_300) (hts _ tw_301) (hts _ tw_2) (by decide) np_Mem_pageIn (va_recv hK hP (ci := nMem) (q0 := 1) rfl rfl) rfl d_FK_checkMyEntryIsFilled_35) (c_Mem_pageIn K0 ad r σ g en (by omega) (by omega)) (hl.1.trans hml.symm) (Nat.le_of_ble_eq_true rfl) ⟨Nat.le_of_ble_eq_true rfl, Nat.le_of_ble_eq_true rfl, Nat.le_of_ble_eq_true rfl, Nat.le_of_ble_eq_true rfl⟩ (fun U hU hW => ⟨hE.go hW hU hS, by rw [hU]; exact hP, hD⟩) ?_
      have ho3 := o2 (g * 4 + en) (by omega)
      refine lv_iconst (v := (pI 0)) hx hb d_FK_checkMyEntryIsFilled_38 (by decide) ?_
      refine k_neP (tgt := 53) (ok.b2 _ (by omega)) (by omega) hx hb d_FK_checkMyEntryIsFilled_39 (by decide) (fun h4 => ?_) (fun h4 => ?_)
      · exact k_retV hx hb hr hlocks d_FK_checkMyEntryIsFilled_53 (by first | rfl | (simp [req, mhold, eIA, eIS, eUO, eNS, hq1, hq2, h4, beq_false_of_ne h4, bne_iff_ne.mpr h4]; done) | (simp [req, mhold, eIA, eIS, eUO, eNS, hq1, hq2, h4, beq_false_of_ne h4, bne_iff_ne.mpr h4]; rfl) | (simp [req, mhold, eIA, eIS, eUO, eNS, hq1, hq2, h4, beq_false_of_ne h4, bne_iff_ne.mpr h4]; done) | (simp [req, mhold, eIA, eIS, eUO, eNS, hq1, hq2, h4, beq_false_of_ne h4, bne_iff_ne.mpr h4]; rfl) | (simp only [req, mhold, eIA, eIS, eUO, eNS, hq1, hq2, h4, beq_false_of_ne h4, bne_iff_ne.mpr h4]; rfl))
      · exact k_throwX x14_0 x14_1 x14_2 x14_5 hx hb K0.tr hown (text := "the entry is empty") (names := ["java/lang/Exception"]) (Y0 := "java/lang/RuntimeException") (by decide +kernel) (by decide +kernel) (by decide +kernel) (hts _ tw_325) (hts _ tw_12) (K0.str hE sr_282) (K0.own hE oa_284) (hl.1.trans hml.symm) d_FK_checkMyEntryIsFilled_42 d_FK_checkMyEntryIsFilled_45 d_FK_checkMyEntryIsFilled_46 d_FK_checkMyEntryIsFilled_49 d_FK_checkMyEntryIsFilled_52 hex hlocks ⟨Nat.le_of_ble_eq_true rfl, Nat.le_of_ble_eq_true rfl, Nat.le_of_ble_eq_true rfl, Nat.le_of_ble_eq_true rfl⟩ (by first | rfl | (simp [req, mhold, eIA, eIS, eUO, eNS, hq1, hq2, h4]; done) | (simp [req, mhold, eIA, eIS, eUO, eNS, hq1, hq2, h4]; rfl) | (simp [req, mhold, eIA, eIS, eUO, eNS, hq1, hq2, beq_iff_eq.mpr h4]; done) | (simp [req, mhold, eIA, eIS, eUO, eNS, hq1, hq2, beq_iff_eq.mpr h4]; rfl) | (simp only [req, mhold, eIA, eIS, eUO, eNS, hq1, hq2, h4]; rfl))
  · refine k_callR (k_atV (As := [.int (nI g), .int (nI 1)]) hx hb hown hE.1 (K0.w tw_266) (hts _ tw_263) (hts _ tw_265) (hts _ tw_9003) (hts _ tw_1) (by decide) np_FK_isMyPage (va_recv hK hP (ci := nFK) (q0 := 0) rfl rfl) rfl d_FK_checkMyEntryIsFilled_3) (kb_t hq1 (c_FK_isMyPage K0 ad r σ g 1 ok (by omega) (by omega))) (hl.1.trans hml.symm) (Nat.le_of_ble_eq_true rfl) ⟨Nat.le_of_ble_eq_true rfl, Nat.le_of_ble_eq_true rfl, Nat.le_of_ble_eq_true rfl, Nat.le_of_ble_eq_true rfl⟩ (fun U hU hW => ⟨hE.go hW hU hS, by rw [hU]; exact hP, hD⟩) ?_
    refine k_ifN0 (tgt := 29) (by decide) hx hb d_FK_checkMyEntryIsFilled_6 (by decide) (fun _ => ?_) (fun h9 => absurd h9 (by decide))
    refine lv_aload_n hx hb d_FK_checkMyEntryIsFilled_29 rfl (lv_at hl 0 rfl) ?_
    refine va_get (D := D) (ci := nFK) (v := .ref (ad 1)) (C := R_FK) (T := T_FK) (N := 4) hx hb hts i_FK hown hK hP 0 rfl rfl 0 (by decide) (hts _ tw_116) (fun _ h9 => h9) rfl d_FK_checkMyEntryIsFilled_30 ?_
    refine lv_iload_n hx hb d_FK_checkMyEntryIsFilled_33 rfl (lv_at hl 1 rfl) ?_
    refine lv_iload_n hx hb d_FK_checkMyEntryIsFilled_34 rfl (lv_at hl 2 rfl) ?_
    refine k_callR (k_atV (As := [.int (nI g), .int (nI en)]) hx hb hown hE.1 (K0.w tw_302) (hts _ tw_299) (hts _ tw_300) (hts _ tw_301) (hts _ tw_2) (by decide) np_Mem_pageIn (va_recv hK hP (ci := nMem) (q0 := 1) rfl rfl) rfl d_FK_checkMyEntryIsFilled_35) (c_Mem_pageIn K0 ad r σ g en (by omega) (by omega)) (hl.1.trans hml.symm) (Nat.le_of_ble_eq_true rfl) ⟨Nat.le_of_ble_eq_true rfl, Nat.le_of_ble_eq_true rfl, Nat.le_of_ble_eq_true rfl, Nat.le_of_ble_eq_true rfl⟩ (fun U hU hW => ⟨hE.go hW hU hS, by rw [hU]; exact hP, hD⟩) ?_
    have ho5 := o2 (g * 4 + en) (by omega)
    refine lv_iconst (v := (pI 0)) hx hb d_FK_checkMyEntryIsFilled_38 (by decide) ?_
    refine k_neP (tgt := 53) (ok.b2 _ (by omega)) (by omega) hx hb d_FK_checkMyEntryIsFilled_39 (by decide) (fun h6 => ?_) (fun h6 => ?_)
    · exact k_retV hx hb hr hlocks d_FK_checkMyEntryIsFilled_53 (by first | rfl | (simp [req, mhold, eIA, eIS, eUO, eNS, hq1, h6, beq_false_of_ne h6, bne_iff_ne.mpr h6]; done) | (simp [req, mhold, eIA, eIS, eUO, eNS, hq1, h6, beq_false_of_ne h6, bne_iff_ne.mpr h6]; rfl) | (simp [req, mhold, eIA, eIS, eUO, eNS, hq1, h6, beq_false_of_ne h6, bne_iff_ne.mpr h6]; done) | (simp [req, mhold, eIA, eIS, eUO, eNS, hq1, h6, beq_false_of_ne h6, bne_iff_ne.mpr h6]; rfl) | (simp only [req, mhold, eIA, eIS, eUO, eNS, hq1, h6, beq_false_of_ne h6, bne_iff_ne.mpr h6]; rfl))
    · exact k_throwX x14_0 x14_1 x14_2 x14_5 hx hb K0.tr hown (text := "the entry is empty") (names := ["java/lang/Exception"]) (Y0 := "java/lang/RuntimeException") (by decide +kernel) (by decide +kernel) (by decide +kernel) (hts _ tw_325) (hts _ tw_12) (K0.str hE sr_282) (K0.own hE oa_284) (hl.1.trans hml.symm) d_FK_checkMyEntryIsFilled_42 d_FK_checkMyEntryIsFilled_45 d_FK_checkMyEntryIsFilled_46 d_FK_checkMyEntryIsFilled_49 d_FK_checkMyEntryIsFilled_52 hex hlocks ⟨Nat.le_of_ble_eq_true rfl, Nat.le_of_ble_eq_true rfl, Nat.le_of_ble_eq_true rfl, Nat.le_of_ble_eq_true rfl⟩ (by first | rfl | (simp [req, mhold, eIA, eIS, eUO, eNS, hq1, h6]; done) | (simp [req, mhold, eIA, eIS, eUO, eNS, hq1, h6]; rfl) | (simp [req, mhold, eIA, eIS, eUO, eNS, hq1, beq_iff_eq.mpr h6]; done) | (simp [req, mhold, eIA, eIS, eUO, eNS, hq1, beq_iff_eq.mpr h6]; rfl) | (simp only [req, mhold, eIA, eIS, eUO, eNS, hq1, h6]; rfl))
set_option maxHeartbeats 4000000 in
set_option maxRecDepth 100000 in
theorem c_FK_tableAt {l : Launch} {s0 : State} {a0 : Array Value} {D : va_G} {cI cL : ClassId} (K0 : k0 l s0 a0 D cI cL) (ad : Nat → Nat) (r : va_W) (σ : kS) (a : Nat) (ok : kOk σ) (ha : a < 64) : kMet l y_FK_tableAt (Cond.code y_FK_tableAt b_FK_tableAt 3 (some .int)) (rmL 6) [.ref (ad 0), .int (nI a)] (kPre D vwCl s0 (wC ad cI r) σ) (req (tb σ a != 0) eNS (.ok (some (.int (pI (tb σ a))), ()))) kBr := by
  refine k_of (by decide) (Nat.le_of_ble_eq_true rfl) ?_
  intro p e9 s m below meth c hx hb hr hlocks hown hml hex hpre ls hl
  obtain ⟨hE, hP, hD⟩ := hpre
  obtain ⟨hts, hK⟩ := K0.at (args := ([.ref (ad 0), .int (nI a)] : List Value).toArray) hE
  have hl : lv_has ls 3 [(0, .ref (ad 0)), (1, .int (nI a))] := hl
  have hS : va_S (kA s0) s.heap s.heap [] := va_S.rf
  obtain ⟨o1, o2, o3, o4, o5, o6, o7, o8, o9, o10, o0, ⟨oc1, oc2⟩, oc3, or6⟩ := id ok
  have hr0 : σ.1 6 (σ.1 11 0) ≠ 0 := or6 _ oc2 (by omega)
  have hr1 : σ.1 6 (σ.1 11 0) < 21 := o6 _ oc2
  refine lv_aload_n hx hb d_FK_tableAt_0 rfl (lv_at hl 0 rfl) ?_
  refine va_get (D := D) (ci := nFK) (v := .ref (ad 1)) (C := R_FK) (T := T_FK) (N := 4) hx hb hts i_FK hown hK hP 0 rfl rfl 0 (by decide) (hts _ tw_116) (fun _ h9 => h9) rfl d_FK_tableAt_1 ?_
  refine lv_aload_n hx hb d_FK_tableAt_4 rfl (lv_at hl 0 rfl) ?_
  refine va_get (D := D) (ci := nFK) (v := .ref (ad 2)) (C := R_FK) (T := T_FK) (N := 4) hx hb hts i_FK hown hK hP 0 rfl rfl 1 (by decide) (hts _ tw_117) (fun _ h9 => h9) rfl d_FK_tableAt_5 ?_
  refine lv_aload_n hx hb d_FK_tableAt_8 rfl (lv_at hl 0 rfl) ?_
  refine va_get (D := D) (ci := nFK) (v := .int (nI (σ.1 11 0))) (C := R_FK) (T := T_FK) (N := 4) hx hb hts i_FK hown hK hP 0 rfl rfl 3 (by decide) (hts _ tw_119) (fun _ h9 => h9) rfl d_FK_tableAt_9 ?_
  refine k_callR (k_atV (As := [.int (nI (σ.1 11 0))]) hx hb hown hE.1 (K0.w tw_453) (hts _ tw_450) (hts _ tw_451) (hts _ tw_452) (hts _ tw_3) (by decide) np_Pro_rootOf (va_recv hK hP (ci := nPro) (q0 := 2) rfl rfl) rfl d_FK_tableAt_12) (c_Pro_rootOf K0 ad r σ (σ.1 11 0) (by omega)) (hl.1.trans hml.symm) (Nat.le_of_ble_eq_true rfl) ⟨Nat.le_of_ble_eq_true rfl, Nat.le_of_ble_eq_true rfl, Nat.le_of_ble_eq_true rfl, Nat.le_of_ble_eq_true rfl⟩ (fun U hU hW => ⟨hE.go hW hU hS, by rw [hU]; exact hP, hD⟩) ?_
  have ho1 := o6 (σ.1 11 0) (by omega)
  refine lv_iload_n hx hb d_FK_tableAt_15 rfl (lv_at hl 1 rfl) ?_
  refine k_callR (k_atS (As := [.int (nI a)]) hx hb hown hE.1 (K0.w tw_541) rfl k_w9 (hts _ tw_539) (hts _ tw_540) (hts _ tw_1) (by decide) np_FK_tableEntryOf rfl d_FK_tableAt_16) (c_FK_tableEntryOf K0 ad r σ a (by omega)) (hl.1.trans hml.symm) (Nat.le_of_ble_eq_true rfl) ⟨Nat.le_of_ble_eq_true rfl, Nat.le_of_ble_eq_true rfl, Nat.le_of_ble_eq_true rfl, Nat.le_of_ble_eq_true rfl⟩ (fun U hU hW => ⟨hE.go hW hU hS, by rw [hU]; exact hP, hD⟩) ?_
  refine k_st (st' := [.int (nI (a / 16)), .int (nI ((σ.1 6 (σ.1 11 0)) - 1)), .ref (ad 1)]) (by show ([.int (nI (a / 16)), .int (pI (σ.1 6 (σ.1 11 0))), .ref (ad 1)] : List Value) = _; rw [pI_pred (t := (σ.1 6 (σ.1 11 0))) (by omega)]) ?_
  refine k_callR (k_atV (As := [.int (nI ((σ.1 6 (σ.1 11 0)) - 1)), .int (nI (a / 16))]) hx hb hown hE.1 (K0.w tw_302) (hts _ tw_299) (hts _ tw_300) (hts _ tw_301) (hts _ tw_2) (by decide) np_Mem_pageIn (va_recv hK hP (ci := nMem) (q0 := 1) rfl rfl) rfl d_FK_tableAt_19) (c_Mem_pageIn K0 ad r σ ((σ.1 6 (σ.1 11 0)) - 1) (a / 16) (by omega) (by omega)) (hl.1.trans hml.symm) (Nat.le_of_ble_eq_true rfl) ⟨Nat.le_of_ble_eq_true rfl, Nat.le_of_ble_eq_true rfl, Nat.le_of_ble_eq_true rfl, Nat.le_of_ble_eq_true rfl⟩ (fun U hU hW => ⟨hE.go hW hU hS, by rw [hU]; exact hP, hD⟩) ?_
  have ho2 := o2 (((σ.1 6 (σ.1 11 0)) - 1) * 4 + (a / 16)) (by omega)
  refine lv_istore_n (lv' := [(2, .int (pI (σ.1 2 (((σ.1 6 (σ.1 11 0)) - 1) * 4 + (a / 16))))), (0, .ref (ad 0)), (1, .int (nI a))]) hx hb d_FK_tableAt_22 rfl hl (by decide) rfl (fun ls hl => ?_)
  refine lv_iload_n hx hb d_FK_tableAt_23 rfl (lv_at hl 0 rfl) ?_
  refine lv_iconst (v := (pI 0)) hx hb d_FK_tableAt_24 (by decide) ?_
  refine k_neP (tgt := 39) (ok.b2 _ (by omega)) (by omega) hx hb d_FK_tableAt_25 (by decide) (fun h3 => ?_) (fun h3 => ?_)
  · refine lv_iload_n hx hb d_FK_tableAt_39 rfl (lv_at hl 0 rfl) ?_
    exact k_retI hx hb hr hlocks d_FK_tableAt_40 (by first | rfl | (simp [req, tb, te, eIA, eIS, eUO, eNS, h3, beq_false_of_ne h3, bne_iff_ne.mpr h3]; done) | (simp [req, tb, te, eIA, eIS, eUO, eNS, h3, beq_false_of_ne h3, bne_iff_ne.mpr h3]; rfl) | (simp [req, tb, te, eIA, eIS, eUO, eNS, h3, beq_false_of_ne h3, bne_iff_ne.mpr h3]; done) | (simp [req, tb, te, eIA, eIS, eUO, eNS, h3, beq_false_of_ne h3, bne_iff_ne.mpr h3]; rfl) | (simp only [req, tb, te, eIA, eIS, eUO, eNS, h3, beq_false_of_ne h3, bne_iff_ne.mpr h3]; rfl))
  · exact k_throwX x14_0 x14_1 x14_2 x14_5 hx hb K0.tr hown (text := "the address has no table entry") (names := ["java/lang/Exception"]) (Y0 := "java/lang/RuntimeException") (by decide +kernel) (by decide +kernel) (by decide +kernel) (hts _ tw_325) (hts _ tw_12) (K0.str hE sr_292) (K0.own hE oa_284) (hl.1.trans hml.symm) d_FK_tableAt_28 d_FK_tableAt_31 d_FK_tableAt_32 d_FK_tableAt_35 d_FK_tableAt_38 hex hlocks ⟨Nat.le_of_ble_eq_true rfl, Nat.le_of_ble_eq_true rfl, Nat.le_of_ble_eq_true rfl, Nat.le_of_ble_eq_true rfl⟩ (by first | rfl | (simp [req, tb, te, eIA, eIS, eUO, eNS, h3]; done) | (simp [req, tb, te, eIA, eIS, eUO, eNS, h3]; rfl) | (simp [req, tb, te, eIA, eIS, eUO, eNS, beq_iff_eq.mpr h3]; done) | (simp [req, tb, te, eIA, eIS, eUO, eNS, beq_iff_eq.mpr h3]; rfl) | (simp only [req, tb, te, eIA, eIS, eUO, eNS, h3]; rfl))
set_option maxHeartbeats 4000000 in
set_option maxRecDepth 100000 in
theorem c_FK_frameAt {l : Launch} {s0 : State} {a0 : Array Value} {D : va_G} {cI cL : ClassId} (K0 : k0 l s0 a0 D cI cL) (ad : Nat → Nat) (r : va_W) (σ : kS) (a : Nat) (ok : kOk σ) (ha : a < 64) : kMet l y_FK_frameAt (Cond.code y_FK_frameAt b_FK_frameAt 3 (some .int)) (rmL 7) [.ref (ad 0), .int (nI a)] (kPre D vwCl s0 (wC ad cI r) σ) (req (tb σ a != 0) eNS (req (fr σ a != 0) eNS (.ok (some (.int (pI (fr σ a))), ())))) kBr := by
  refine k_of (by decide) (Nat.le_of_ble_eq_true rfl) ?_
  intro p e9 s m below meth c hx hb hr hlocks hown hml hex hpre ls hl
  obtain ⟨hE, hP, hD⟩ := hpre
  obtain ⟨hts, hK⟩ := K0.at (args := ([.ref (ad 0), .int (nI a)] : List Value).toArray) hE
  have hl : lv_has ls 3 [(0, .ref (ad 0)), (1, .int (nI a))] := hl
  have hS : va_S (kA s0) s.heap s.heap [] := va_S.rf
  obtain ⟨o1, o2, o3, o4, o5, o6, o7, o8, o9, o10, o0, ⟨oc1, oc2⟩, oc3, or6⟩ := id ok
  have hr0 : σ.1 6 (σ.1 11 0) ≠ 0 := or6 _ oc2 (by omega)
  have hr1 : σ.1 6 (σ.1 11 0) < 21 := o6 _ oc2
  refine lv_aload_n hx hb d_FK_frameAt_0 rfl (lv_at hl 0 rfl) ?_
  refine va_get (D := D) (ci := nFK) (v := .ref (ad 1)) (C := R_FK) (T := T_FK) (N := 4) hx hb hts i_FK hown hK hP 0 rfl rfl 0 (by decide) (hts _ tw_116) (fun _ h9 => h9) rfl d_FK_frameAt_1 ?_
  refine lv_aload_n hx hb d_FK_frameAt_4 rfl (lv_at hl 0 rfl) ?_
  refine lv_iload_n hx hb d_FK_frameAt_5 rfl (lv_at hl 1 rfl) ?_
  rcases hq1 : (tb σ a != 0) with _ | _
  · exact k_callE (k_atV (As := [.int (nI a)]) hx hb hown hE.1 (K0.w tw_538) (hts _ tw_535) (hts _ tw_537) (hts _ tw_9018) (hts _ tw_1) (by decide) np_FK_tableAt (va_recv hK hP (ci := nFK) (q0 := 0) rfl rfl) rfl d_FK_frameAt_6) (kr_f hq1 (c_FK_tableAt K0 ad r σ a ok (by omega) )) (hl.1.trans hml.symm) (Nat.le_of_ble_eq_true rfl) ⟨Nat.le_of_ble_eq_true rfl, Nat.le_of_ble_eq_true rfl, Nat.le_of_ble_eq_true rfl, Nat.le_of_ble_eq_true rfl⟩ (fun U hU hW => ⟨hE.go hW hU hS, by rw [hU]; exact hP, hD⟩) hex hlocks (by first | rfl | (simp [req, fr, fe, eIA, eIS, eUO, eNS, hq1]; done) | (simp [req, fr, fe, eIA, eIS, eUO, eNS, hq1]; rfl) | (simp [req, fr, fe, eIA, eIS, eUO, eNS, hq1]; done) | (simp [req, fr, fe, eIA, eIS, eUO, eNS, hq1]; rfl) | (simp only [req, fr, fe, eIA, eIS, eUO, eNS, hq1]; rfl))
  · refine k_callR (k_atV (As := [.int (nI a)]) hx hb hown hE.1 (K0.w tw_538) (hts _ tw_535) (hts _ tw_537) (hts _ tw_9018) (hts _ tw_1) (by decide) np_FK_tableAt (va_recv hK hP (ci := nFK) (q0 := 0) rfl rfl) rfl d_FK_frameAt_6) (kr_t hq1 (c_FK_tableAt K0 ad r σ a ok (by omega) )) (hl.1.trans hml.symm) (Nat.le_of_ble_eq_true rfl) ⟨Nat.le_of_ble_eq_true rfl, Nat.le_of_ble_eq_true rfl, Nat.le_of_ble_eq_true rfl, Nat.le_of_ble_eq_true rfl⟩ (fun U hU hW => ⟨hE.go hW hU hS, by rw [hU]; exact hP, hD⟩) ?_
    have hnzt : tb σ a ≠ 0 := by simpa using hq1
    have hbdt := ok.tbl a (by omega)
    refine lv_iload_n hx hb d_FK_frameAt_9 rfl (lv_at hl 1 rfl) ?_
    refine k_callR (k_atS (As := [.int (nI a)]) hx hb hown hE.1 (K0.w tw_545) rfl k_w9 (hts _ tw_543) (hts _ tw_544) (hts _ tw_1) (by decide) np_FK_frameEntryOf rfl d_FK_frameAt_10) (c_FK_frameEntryOf K0 ad r σ a (by omega)) (hl.1.trans hml.symm) (Nat.le_of_ble_eq_true rfl) ⟨Nat.le_of_ble_eq_true rfl, Nat.le_of_ble_eq_true rfl, Nat.le_of_ble_eq_true rfl, Nat.le_of_ble_eq_true rfl⟩ (fun U hU hW => ⟨hE.go hW hU hS, by rw [hU]; exact hP, hD⟩) ?_
    refine k_st (st' := [.int (nI (a / 4 % 4)), .int (nI ((tb σ a) - 1)), .ref (ad 1)]) (by show ([.int (nI (a / 4 % 4)), .int (pI (tb σ a)), .ref (ad 1)] : List Value) = _; rw [pI_pred (t := (tb σ a)) (by omega)]) ?_
    refine k_callR (k_atV (As := [.int (nI ((tb σ a) - 1)), .int (nI (a / 4 % 4))]) hx hb hown hE.1 (K0.w tw_302) (hts _ tw_299) (hts _ tw_300) (hts _ tw_301) (hts _ tw_2) (by decide) np_Mem_pageIn (va_recv hK hP (ci := nMem) (q0 := 1) rfl rfl) rfl d_FK_frameAt_13) (c_Mem_pageIn K0 ad r σ ((tb σ a) - 1) (a / 4 % 4) (by omega) (by omega)) (hl.1.trans hml.symm) (Nat.le_of_ble_eq_true rfl) ⟨Nat.le_of_ble_eq_true rfl, Nat.le_of_ble_eq_true rfl, Nat.le_of_ble_eq_true rfl, Nat.le_of_ble_eq_true rfl⟩ (fun U hU hW => ⟨hE.go hW hU hS, by rw [hU]; exact hP, hD⟩) ?_
    have ho2 := o2 (((tb σ a) - 1) * 4 + (a / 4 % 4)) (by omega)
    refine lv_istore_n (lv' := [(2, .int (pI (σ.1 2 (((tb σ a) - 1) * 4 + (a / 4 % 4))))), (0, .ref (ad 0)), (1, .int (nI a))]) hx hb d_FK_frameAt_16 rfl hl (by decide) rfl (fun ls hl => ?_)
    refine lv_iload_n hx hb d_FK_frameAt_17 rfl (lv_at hl 0 rfl) ?_
    refine lv_iconst (v := (pI 0)) hx hb d_FK_frameAt_18 (by decide) ?_
    refine k_neP (tgt := 33) (ok.b2 _ (by omega)) (by omega) hx hb d_FK_frameAt_19 (by decide) (fun h3 => ?_) (fun h3 => ?_)
    · refine lv_iload_n hx hb d_FK_frameAt_33 rfl (lv_at hl 0 rfl) ?_
      exact k_retI hx hb hr hlocks d_FK_frameAt_34 (by first | rfl | (simp [req, fr, fe, eIA, eIS, eUO, eNS, hq1, h3, beq_false_of_ne h3, bne_iff_ne.mpr h3]; done) | (simp [req, fr, fe, eIA, eIS, eUO, eNS, hq1, h3, beq_false_of_ne h3, bne_iff_ne.mpr h3]; rfl) | (simp [req, fr, fe, eIA, eIS, eUO, eNS, hq1, h3, beq_false_of_ne h3, bne_iff_ne.mpr h3]; done) | (simp [req, fr, fe, eIA, eIS, eUO, eNS, hq1, h3, beq_false_of_ne h3, bne_iff_ne.mpr h3]; rfl) | (simp only [req, fr, fe, eIA, eIS, eUO, eNS, hq1, h3, beq_false_of_ne h3, bne_iff_ne.mpr h3]; rfl))
    · exact k_throwX x14_0 x14_1 x14_2 x14_5 hx hb K0.tr hown (text := "the address has no frame entry") (names := ["java/lang/Exception"]) (Y0 := "java/lang/RuntimeException") (by decide +kernel) (by decide +kernel) (by decide +kernel) (hts _ tw_325) (hts _ tw_12) (K0.str hE sr_294) (K0.own hE oa_284) (hl.1.trans hml.symm) d_FK_frameAt_22 d_FK_frameAt_25 d_FK_frameAt_26 d_FK_frameAt_29 d_FK_frameAt_32 hex hlocks ⟨Nat.le_of_ble_eq_true rfl, Nat.le_of_ble_eq_true rfl, Nat.le_of_ble_eq_true rfl, Nat.le_of_ble_eq_true rfl⟩ (by first | rfl | (simp [req, fr, fe, eIA, eIS, eUO, eNS, hq1, h3]; done) | (simp [req, fr, fe, eIA, eIS, eUO, eNS, hq1, h3]; rfl) | (simp [req, fr, fe, eIA, eIS, eUO, eNS, hq1, beq_iff_eq.mpr h3]; done) | (simp [req, fr, fe, eIA, eIS, eUO, eNS, hq1, beq_iff_eq.mpr h3]; rfl) | (simp only [req, fr, fe, eIA, eIS, eUO, eNS, hq1, h3]; rfl))
set_option maxHeartbeats 4000000 in
set_option maxRecDepth 100000 in
theorem c_FK_frameWithRight {l : Launch} {s0 : State} {a0 : Array Value} {D : va_G} {cI cL : ClassId} (K0 : k0 l s0 a0 D cI cL) (ad : Nat → Nat) (r : va_W) (σ : kS) (a : Nat) (rq : Nat) (ok : kOk σ) (ha : a < 64) : kMet l y_FK_frameWithRight (Cond.code y_FK_frameWithRight b_FK_frameWithRight 6 (some .int)) (rmL 8) [.ref (ad 0), .int (nI a), .int (nI rq)] (kPre D vwCl s0 (wC ad cI r) σ) (wit σ a rq (.ok (some (.int (pI (fr σ a))), ()))) kBr := by
  refine k_of (by decide) (Nat.le_of_ble_eq_true rfl) ?_
  intro p e9 s m below meth c hx hb hr hlocks hown hml hex hpre ls hl
  obtain ⟨hE, hP, hD⟩ := hpre
  obtain ⟨hts, hK⟩ := K0.at (args := ([.ref (ad 0), .int (nI a), .int (nI rq)] : List Value).toArray) hE
  have hl : lv_has ls 6 [(0, .ref (ad 0)), (1, .int (nI a)), (2, .int (nI rq))] := hl
  have hS : va_S (kA s0) s.heap s.heap [] := va_S.rf
  obtain ⟨o1, o2, o3, o4, o5, o6, o7, o8, o9, o10, o0, ⟨oc1, oc2⟩, oc3, or6⟩ := id ok
  have hr0 : σ.1 6 (σ.1 11 0) ≠ 0 := or6 _ oc2 (by omega)
  have hr1 : σ.1 6 (σ.1 11 0) < 21 := o6 _ oc2
  refine lv_aload_n hx hb d_FK_frameWithRight_0 rfl (lv_at hl 0 rfl) ?_
  refine lv_iload_n hx hb d_FK_frameWithRight_1 rfl (lv_at hl 1 rfl) ?_
  rcases hq1 : (tb σ a != 0) with _ | _
  · exact k_callE (k_atV (As := [.int (nI a)]) hx hb hown hE.1 (K0.w tw_534) (hts _ tw_531) (hts _ tw_533) (hts _ tw_9017) (hts _ tw_1) (by decide) np_FK_frameAt (va_recv hK hP (ci := nFK) (q0 := 0) rfl rfl) rfl d_FK_frameWithRight_2) (kr_f hq1 (c_FK_frameAt K0 ad r σ a ok (by omega) )) (hl.1.trans hml.symm) (Nat.le_of_ble_eq_true rfl) ⟨Nat.le_of_ble_eq_true rfl, Nat.le_of_ble_eq_true rfl, Nat.le_of_ble_eq_true rfl, Nat.le_of_ble_eq_true rfl⟩ (fun U hU hW => ⟨hE.go hW hU hS, by rw [hU]; exact hP, hD⟩) hex hlocks (by first | rfl | (simp [wit, req, rgt, te, fe, eIA, eIS, eUO, eNS, hq1]; done) | (simp [wit, req, rgt, te, fe, eIA, eIS, eUO, eNS, hq1]; rfl) | (simp [wit, req, rgt, te, fe, eIA, eIS, eUO, eNS, hq1]; done) | (simp [wit, req, rgt, te, fe, eIA, eIS, eUO, eNS, hq1]; rfl) | (simp only [wit, req, rgt, te, fe, eIA, eIS, eUO, eNS, hq1]; rfl))
  · skip
    rcases hq2 : (fr σ a != 0) with _ | _
    · exact k_callE (k_atV (As := [.int (nI a)]) hx hb hown hE.1 (K0.w tw_534) (hts _ tw_531) (hts _ tw_533) (hts _ tw_9017) (hts _ tw_1) (by decide) np_FK_frameAt (va_recv hK hP (ci := nFK) (q0 := 0) rfl rfl) rfl d_FK_frameWithRight_2) (kr_f hq2 (kr_t hq1 (c_FK_frameAt K0 ad r σ a ok (by omega) ))) (hl.1.trans hml.symm) (Nat.le_of_ble_eq_true rfl) ⟨Nat.le_of_ble_eq_true rfl, Nat.le_of_ble_eq_true rfl, Nat.le_of_ble_eq_true rfl, Nat.le_of_ble_eq_true rfl⟩ (fun U hU hW => ⟨hE.go hW hU hS, by rw [hU]; exact hP, hD⟩) hex hlocks (by first | rfl | (simp [wit, req, rgt, te, fe, eIA, eIS, eUO, eNS, hq1, hq2]; done) | (simp [wit, req, rgt, te, fe, eIA, eIS, eUO, eNS, hq1, hq2]; rfl) | (simp [wit, req, rgt, te, fe, eIA, eIS, eUO, eNS, hq1, hq2]; done) | (simp [wit, req, rgt, te, fe, eIA, eIS, eUO, eNS, hq1, hq2]; rfl) | (simp only [wit, req, rgt, te, fe, eIA, eIS, eUO, eNS, hq1, hq2]; rfl))
    · skip
      refine k_callR (k_atV (As := [.int (nI a)]) hx hb hown hE.1 (K0.w tw_534) (hts _ tw_531) (hts _ tw_533) (hts _ tw_9017) (hts _ tw_1) (by decide) np_FK_frameAt (va_recv hK hP (ci := nFK) (q0 := 0) rfl rfl) rfl d_FK_frameWithRight_2) (kr_t hq2 (kr_t hq1 (c_FK_frameAt K0 ad r σ a ok (by omega) ))) (hl.1.trans hml.symm) (Nat.le_of_ble_eq_true rfl) ⟨Nat.le_of_ble_eq_true rfl, Nat.le_of_ble_eq_true rfl, Nat.le_of_ble_eq_true rfl, Nat.le_of_ble_eq_true rfl⟩ (fun U hU hW => ⟨hE.go hW hU hS, by rw [hU]; exact hP, hD⟩) ?_
      have hnzt : tb σ a ≠ 0 := by simpa using hq1
      have hnzf : fr σ a ≠ 0 := by simpa using hq2
      have hbdt := ok.tbl a (by omega)
      have hbdf := ok.frl a (by omega) hnzt
      refine lv_istore_n (lv' := [(3, .int (pI (fr σ a))), (0, .ref (ad 0)), (1, .int (nI a)), (2, .int (nI rq))]) hx hb d_FK_frameWithRight_5 rfl hl (by decide) rfl (fun ls hl => ?_)
      refine lv_aload_n hx hb d_FK_frameWithRight_6 rfl (lv_at hl 1 rfl) ?_
      refine va_get (D := D) (ci := nFK) (v := .ref (ad 1)) (C := R_FK) (T := T_FK) (N := 4) hx hb hts i_FK hown hK hP 0 rfl rfl 0 (by decide) (hts _ tw_116) (fun _ h9 => h9) rfl d_FK_frameWithRight_7 ?_
      refine lv_aload_n hx hb d_FK_frameWithRight_10 rfl (lv_at hl 1 rfl) ?_
      refine va_get (D := D) (ci := nFK) (v := .ref (ad 2)) (C := R_FK) (T := T_FK) (N := 4) hx hb hts i_FK hown hK hP 0 rfl rfl 1 (by decide) (hts _ tw_117) (fun _ h9 => h9) rfl d_FK_frameWithRight_11 ?_
      refine lv_aload_n hx hb d_FK_frameWithRight_14 rfl (lv_at hl 1 rfl) ?_
      refine va_get (D := D) (ci := nFK) (v := .int (nI (σ.1 11 0))) (C := R_FK) (T := T_FK) (N := 4) hx hb hts i_FK hown hK hP 0 rfl rfl 3 (by decide) (hts _ tw_119) (fun _ h9 => h9) rfl d_FK_frameWithRight_15 ?_
      refine k_callR (k_atV (As := [.int (nI (σ.1 11 0))]) hx hb hown hE.1 (K0.w tw_453) (hts _ tw_450) (hts _ tw_451) (hts _ tw_452) (hts _ tw_3) (by decide) np_Pro_rootOf (va_recv hK hP (ci := nPro) (q0 := 2) rfl rfl) rfl d_FK_frameWithRight_18) (c_Pro_rootOf K0 ad r σ (σ.1 11 0) (by omega)) (hl.1.trans hml.symm) (Nat.le_of_ble_eq_true rfl) ⟨Nat.le_of_ble_eq_true rfl, Nat.le_of_ble_eq_true rfl, Nat.le_of_ble_eq_true rfl, Nat.le_of_ble_eq_true rfl⟩ (fun U hU hW => ⟨hE.go hW hU hS, by rw [hU]; exact hP, hD⟩) ?_
      have ho3 := o6 (σ.1 11 0) (by omega)
      refine lv_iload_n hx hb d_FK_frameWithRight_21 rfl (lv_at hl 2 rfl) ?_
      refine k_callR (k_atS (As := [.int (nI a)]) hx hb hown hE.1 (K0.w tw_541) rfl k_w9 (hts _ tw_539) (hts _ tw_540) (hts _ tw_1) (by decide) np_FK_tableEntryOf rfl d_FK_frameWithRight_22) (c_FK_tableEntryOf K0 ad r σ a (by omega)) (hl.1.trans hml.symm) (Nat.le_of_ble_eq_true rfl) ⟨Nat.le_of_ble_eq_true rfl, Nat.le_of_ble_eq_true rfl, Nat.le_of_ble_eq_true rfl, Nat.le_of_ble_eq_true rfl⟩ (fun U hU hW => ⟨hE.go hW hU hS, by rw [hU]; exact hP, hD⟩) ?_
      refine k_st (st' := [.int (nI (a / 16)), .int (nI ((σ.1 6 (σ.1 11 0)) - 1)), .ref (ad 1)]) (by show ([.int (nI (a / 16)), .int (pI (σ.1 6 (σ.1 11 0))), .ref (ad 1)] : List Value) = _; rw [pI_pred (t := (σ.1 6 (σ.1 11 0))) (by omega)]) ?_
      refine k_callR (k_atV (As := [.int (nI ((σ.1 6 (σ.1 11 0)) - 1)), .int (nI (a / 16))]) hx hb hown hE.1 (K0.w tw_344) (hts _ tw_341) (hts _ tw_342) (hts _ tw_343) (hts _ tw_2) (by decide) np_Mem_rightsIn (va_recv hK hP (ci := nMem) (q0 := 1) rfl rfl) rfl d_FK_frameWithRight_25) (c_Mem_rightsIn K0 ad r σ ((σ.1 6 (σ.1 11 0)) - 1) (a / 16) (by omega) (by omega)) (hl.1.trans hml.symm) (Nat.le_of_ble_eq_true rfl) ⟨Nat.le_of_ble_eq_true rfl, Nat.le_of_ble_eq_true rfl, Nat.le_of_ble_eq_true rfl, Nat.le_of_ble_eq_true rfl⟩ (fun U hU hW => ⟨hE.go hW hU hS, by rw [hU]; exact hP, hD⟩) ?_
      have ho4 := o3 (((σ.1 6 (σ.1 11 0)) - 1) * 4 + (a / 16)) (by omega)
      refine lv_istore (lv' := [(4, .int (nI (σ.1 3 (((σ.1 6 (σ.1 11 0)) - 1) * 4 + (a / 16))))), (3, .int (pI (fr σ a))), (0, .ref (ad 0)), (1, .int (nI a)), (2, .int (nI rq))]) hx hb d_FK_frameWithRight_28 hl (by decide) rfl (fun ls hl => ?_)
      refine lv_aload_n hx hb d_FK_frameWithRight_30 rfl (lv_at hl 2 rfl) ?_
      refine va_get (D := D) (ci := nFK) (v := .ref (ad 1)) (C := R_FK) (T := T_FK) (N := 4) hx hb hts i_FK hown hK hP 0 rfl rfl 0 (by decide) (hts _ tw_116) (fun _ h9 => h9) rfl d_FK_frameWithRight_31 ?_
      refine lv_aload_n hx hb d_FK_frameWithRight_34 rfl (lv_at hl 2 rfl) ?_
      refine lv_iload_n hx hb d_FK_frameWithRight_35 rfl (lv_at hl 3 rfl) ?_
      refine k_callR (k_atV (As := [.int (nI a)]) hx hb hown hE.1 (K0.w tw_538) (hts _ tw_535) (hts _ tw_537) (hts _ tw_9018) (hts _ tw_1) (by decide) np_FK_tableAt (va_recv hK hP (ci := nFK) (q0 := 0) rfl rfl) rfl d_FK_frameWithRight_36) (kr_t hq1 (c_FK_tableAt K0 ad r σ a ok (by omega) )) (hl.1.trans hml.symm) (Nat.le_of_ble_eq_true rfl) ⟨Nat.le_of_ble_eq_true rfl, Nat.le_of_ble_eq_true rfl, Nat.le_of_ble_eq_true rfl, Nat.le_of_ble_eq_true rfl⟩ (fun U hU hW => ⟨hE.go hW hU hS, by rw [hU]; exact hP, hD⟩) ?_
      refine lv_iload_n hx hb d_FK_frameWithRight_39 rfl (lv_at hl 3 rfl) ?_
      refine k_callR (k_atS (As := [.int (nI a)]) hx hb hown hE.1 (K0.w tw_545) rfl k_w9 (hts _ tw_543) (hts _ tw_544) (hts _ tw_1) (by decide) np_FK_frameEntryOf rfl d_FK_frameWithRight_40) (c_FK_frameEntryOf K0 ad r σ a (by omega)) (hl.1.trans hml.symm) (Nat.le_of_ble_eq_true rfl) ⟨Nat.le_of_ble_eq_true rfl, Nat.le_of_ble_eq_true rfl, Nat.le_of_ble_eq_true rfl, Nat.le_of_ble_eq_true rfl⟩ (fun U hU hW => ⟨hE.go hW hU hS, by rw [hU]; exact hP, hD⟩) ?_
      refine k_st (st' := [.int (nI (a / 4 % 4)), .int (nI ((tb σ a) - 1)), .ref (ad 1)]) (by show ([.int (nI (a / 4 % 4)), .int (pI (tb σ a)), .ref (ad 1)] : List Value) = _; rw [pI_pred (t := (tb σ a)) (by omega)]) ?_
      refine k_callR (k_atV (As := [.int (nI ((tb σ a) - 1)), .int (nI (a / 4 % 4))]) hx hb hown hE.1 (K0.w tw_344) (hts _ tw_341) (hts _ tw_342) (hts _ tw_343) (hts _ tw_2) (by decide) np_Mem_rightsIn (va_recv hK hP (ci := nMem) (q0 := 1) rfl rfl) rfl d_FK_frameWithRight_43) (c_Mem_rightsIn K0 ad r σ ((tb σ a) - 1) (a / 4 % 4) (by omega) (by omega)) (hl.1.trans hml.symm) (Nat.le_of_ble_eq_true rfl) ⟨Nat.le_of_ble_eq_true rfl, Nat.le_of_ble_eq_true rfl, Nat.le_of_ble_eq_true rfl, Nat.le_of_ble_eq_true rfl⟩ (fun U hU hW => ⟨hE.go hW hU hS, by rw [hU]; exact hP, hD⟩) ?_
      have ho5 := o3 (((tb σ a) - 1) * 4 + (a / 4 % 4)) (by omega)
      refine lv_istore (lv' := [(5, .int (nI (σ.1 3 (((tb σ a) - 1) * 4 + (a / 4 % 4))))), (4, .int (nI (σ.1 3 (((σ.1 6 (σ.1 11 0)) - 1) * 4 + (a / 16))))), (3, .int (pI (fr σ a))), (0, .ref (ad 0)), (1, .int (nI a)), (2, .int (nI rq))]) hx hb d_FK_frameWithRight_46 hl (by decide) rfl (fun ls hl => ?_)
      refine lv_iload hx hb d_FK_frameWithRight_48 (lv_at hl 1 rfl) ?_
      refine lv_iload hx hb d_FK_frameWithRight_50 (lv_at hl 0 rfl) ?_
      refine k_andN hx hb d_FK_frameWithRight_52 ?_
      refine lv_iload_n hx hb d_FK_frameWithRight_53 rfl (lv_at hl 5 rfl) ?_
      refine k_andN hx hb d_FK_frameWithRight_54 ?_
      refine k_ifN0 (tgt := 69) (Nat.lt_of_le_of_lt (Nat.le_trans Nat.and_le_left Nat.and_le_left) (by omega)) hx hb d_FK_frameWithRight_55 (by decide) (fun h6 => ?_) (fun h6 => ?_)
      · refine lv_iload_n hx hb d_FK_frameWithRight_69 rfl (lv_at hl 2 rfl) ?_
        exact k_retI hx hb hr hlocks d_FK_frameWithRight_70 (by first | rfl | (simp [wit, req, rgt, te, fe, eIA, eIS, eUO, eNS, hq1, hq2, h6, beq_false_of_ne h6, bne_iff_ne.mpr h6]; done) | (simp [wit, req, rgt, te, fe, eIA, eIS, eUO, eNS, hq1, hq2, h6, beq_false_of_ne h6, bne_iff_ne.mpr h6]; rfl) | (simp [wit, req, rgt, te, fe, eIA, eIS, eUO, eNS, hq1, hq2, h6, beq_false_of_ne h6, bne_iff_ne.mpr h6]; done) | (simp [wit, req, rgt, te, fe, eIA, eIS, eUO, eNS, hq1, hq2, h6, beq_false_of_ne h6, bne_iff_ne.mpr h6]; rfl) | (simp only [wit, req, rgt, te, fe, eIA, eIS, eUO, eNS, hq1, hq2, h6, beq_false_of_ne h6, bne_iff_ne.mpr h6]; rfl))
      · exact k_throwW hx hb K0.tr hown (text := "an entry lacks the right") (names := kNames) (by decide +kernel) (by decide +kernel) (hts _ tw_283) (hts _ tw_11) (K0.str hE sr_296) (K0.own hE oa_95) (hl.1.trans hml.symm) d_FK_frameWithRight_58 d_FK_frameWithRight_61 d_FK_frameWithRight_62 d_FK_frameWithRight_65 d_FK_frameWithRight_68 hex hlocks ⟨Nat.le_of_ble_eq_true rfl, Nat.le_of_ble_eq_true rfl, Nat.le_of_ble_eq_true rfl, Nat.le_of_ble_eq_true rfl⟩ (by first | rfl | (simp [wit, req, rgt, te, fe, eIA, eIS, eUO, eNS, hq1, hq2, h6]; done) | (simp [wit, req, rgt, te, fe, eIA, eIS, eUO, eNS, hq1, hq2, h6]; rfl) | (simp [wit, req, rgt, te, fe, eIA, eIS, eUO, eNS, hq1, hq2, beq_iff_eq.mpr h6]; done) | (simp [wit, req, rgt, te, fe, eIA, eIS, eUO, eNS, hq1, hq2, beq_iff_eq.mpr h6]; rfl) | (simp only [wit, req, rgt, te, fe, eIA, eIS, eUO, eNS, hq1, hq2, h6]; rfl))
set_option maxHeartbeats 4000000 in
set_option maxRecDepth 100000 in
theorem c_FK_pipeBehind {l : Launch} {s0 : State} {a0 : Array Value} {D : va_G} {cI cL : ClassId} (K0 : k0 l s0 a0 D cI cL) (ad : Nat → Nat) (r : va_W) (σ : kS) (q : Nat) (dd : Nat) (ok : kOk σ) (hq : q < 6) (hdd : dd < 4) : kMet l y_FK_pipeBehind (Cond.code y_FK_pipeBehind b_FK_pipeBehind 4 (some .int)) (rmL 6) [.ref (ad 0), .int (nI q), .int (nI dd)] (kPre D vwCl s0 (wC ad cI r) σ) (req (σ.1 7 (q * 4 + dd) != 0) eNS (.ok (some (.int (pI (σ.1 7 (q * 4 + dd)))), ()))) kBr := by
  refine k_of (by decide) (Nat.le_of_ble_eq_true rfl) ?_
  intro p e9 s m below meth c hx hb hr hlocks hown hml hex hpre ls hl
  obtain ⟨hE, hP, hD⟩ := hpre
  obtain ⟨hts, hK⟩ := K0.at (args := ([.ref (ad 0), .int (nI q), .int (nI dd)] : List Value).toArray) hE
  have hl : lv_has ls 4 [(0, .ref (ad 0)), (1, .int (nI q)), (2, .int (nI dd))] := hl
  have hS : va_S (kA s0) s.heap s.heap [] := va_S.rf
  obtain ⟨o1, o2, o3, o4, o5, o6, o7, o8, o9, o10, o0, ⟨oc1, oc2⟩, oc3, or6⟩ := id ok
  have hr0 : σ.1 6 (σ.1 11 0) ≠ 0 := or6 _ oc2 (by omega)
  have hr1 : σ.1 6 (σ.1 11 0) < 21 := o6 _ oc2
  refine lv_aload_n hx hb d_FK_pipeBehind_0 rfl (lv_at hl 0 rfl) ?_
  refine va_get (D := D) (ci := nFK) (v := .ref (ad 2)) (C := R_FK) (T := T_FK) (N := 4) hx hb hts i_FK hown hK hP 0 rfl rfl 1 (by decide) (hts _ tw_117) (fun _ h9 => h9) rfl d_FK_pipeBehind_1 ?_
  refine lv_iload_n hx hb d_FK_pipeBehind_4 rfl (lv_at hl 1 rfl) ?_
  refine lv_iload_n hx hb d_FK_pipeBehind_5 rfl (lv_at hl 2 rfl) ?_
  refine k_callR (k_atV (As := [.int (nI q), .int (nI dd)]) hx hb hown hE.1 (K0.w tw_433) (hts _ tw_482) (hts _ tw_431) (hts _ tw_432) (hts _ tw_3) (by decide) np_Pro_pipeOf (va_recv hK hP (ci := nPro) (q0 := 2) rfl rfl) rfl d_FK_pipeBehind_6) (c_Pro_pipeOf K0 ad r σ q dd (by omega) (by omega)) (hl.1.trans hml.symm) (Nat.le_of_ble_eq_true rfl) ⟨Nat.le_of_ble_eq_true rfl, Nat.le_of_ble_eq_true rfl, Nat.le_of_ble_eq_true rfl, Nat.le_of_ble_eq_true rfl⟩ (fun U hU hW => ⟨hE.go hW hU hS, by rw [hU]; exact hP, hD⟩) ?_
  have ho1 := o7 (q * 4 + dd) (by omega)
  refine lv_istore_n (lv' := [(3, .int (pI (σ.1 7 (q * 4 + dd)))), (0, .ref (ad 0)), (1, .int (nI q)), (2, .int (nI dd))]) hx hb d_FK_pipeBehind_9 rfl hl (by decide) rfl (fun ls hl => ?_)
  refine lv_iload_n hx hb d_FK_pipeBehind_10 rfl (lv_at hl 0 rfl) ?_
  refine lv_iconst (v := (pI 0)) hx hb d_FK_pipeBehind_11 (by decide) ?_
  refine k_neP (tgt := 26) (ok.b7 _ (by omega)) (by omega) hx hb d_FK_pipeBehind_12 (by decide) (fun h2 => ?_) (fun h2 => ?_)
  · refine lv_iload_n hx hb d_FK_pipeBehind_26 rfl (lv_at hl 0 rfl) ?_
    exact k_retI hx hb hr hlocks d_FK_pipeBehind_27 (by first | rfl | (simp [req, eIA, eIS, eUO, eNS, h2, beq_false_of_ne h2, bne_iff_ne.mpr h2]; done) | (simp [req, eIA, eIS, eUO, eNS, h2, beq_false_of_ne h2, bne_iff_ne.mpr h2]; rfl) | (simp [req, eIA, eIS, eUO, eNS, h2, beq_false_of_ne h2, bne_iff_ne.mpr h2]; done) | (simp [req, eIA, eIS, eUO, eNS, h2, beq_false_of_ne h2, bne_iff_ne.mpr h2]; rfl) | (simp only [req, eIA, eIS, eUO, eNS, h2, beq_false_of_ne h2, bne_iff_ne.mpr h2]; rfl))
  · exact k_throwX x14_0 x14_1 x14_2 x14_5 hx hb K0.tr hown (text := "there is no such descriptor") (names := ["java/lang/Exception"]) (Y0 := "java/lang/RuntimeException") (by decide +kernel) (by decide +kernel) (by decide +kernel) (hts _ tw_325) (hts _ tw_12) (K0.str hE sr_298) (K0.own hE oa_284) (hl.1.trans hml.symm) d_FK_pipeBehind_15 d_FK_pipeBehind_18 d_FK_pipeBehind_19 d_FK_pipeBehind_22 d_FK_pipeBehind_25 hex hlocks ⟨Nat.le_of_ble_eq_true rfl, Nat.le_of_ble_eq_true rfl, Nat.le_of_ble_eq_true rfl, Nat.le_of_ble_eq_true rfl⟩ (by first | rfl | (simp [req, eIA, eIS, eUO, eNS, h2]; done) | (simp [req, eIA, eIS, eUO, eNS, h2]; rfl) | (simp [req, eIA, eIS, eUO, eNS, beq_iff_eq.mpr h2]; done) | (simp [req, eIA, eIS, eUO, eNS, beq_iff_eq.mpr h2]; rfl) | (simp only [req, eIA, eIS, eUO, eNS, h2]; rfl))
set_option maxHeartbeats 4000000 in
set_option maxRecDepth 100000 in
theorem c_FK_connect {l : Launch} {s0 : State} {a0 : Array Value} {D : va_G} {cI cL : ClassId} (K0 : k0 l s0 a0 D cI cL) (ad : Nat → Nat) (r : va_W) (σ : kS) (q : Nat) (dd : Nat) (i : Nat) (hb7 : ∀ k, k < 24 → σ.1 7 k < 2 ^ 30) (hq : q < 6) (hdd : dd < 4) (hi : i < 3) : kMet l y_FK_connect (Cond.code y_FK_connect b_FK_connect 4 (some .int)) (rmL 1) [.ref (ad 0), .int (nI q), .int (nI dd), .int (nI i)] (kPre D vwCl s0 (wC ad cI r) σ) (.ok (some (.int (nI (cof (st σ 7 (q * 4 + dd) (i + 1)) i))), st σ 7 (q * 4 + dd) (i + 1))) (kBw D vwCl s0 (wC ad cI r)) := by
  refine k_of (by decide) (Nat.le_of_ble_eq_true rfl) ?_
  intro p e9 s m below meth c hx hb hr hlocks hown hml hex hpre ls hl
  obtain ⟨hE, hP, hD⟩ := hpre
  obtain ⟨hts, hK⟩ := K0.at (args := ([.ref (ad 0), .int (nI q), .int (nI dd), .int (nI i)] : List Value).toArray) hE
  have hl : lv_has ls 4 [(0, .ref (ad 0)), (1, .int (nI q)), (2, .int (nI dd)), (3, .int (nI i))] := hl
  have hS : va_S (kA s0) s.heap s.heap [] := va_S.rf
  refine lv_aload_n hx hb d_FK_connect_0 rfl (lv_at hl 0 rfl) ?_
  refine va_get (D := D) (ci := nFK) (v := .ref (ad 2)) (C := R_FK) (T := T_FK) (N := 4) hx hb hts i_FK hown hK hP 0 rfl rfl 1 (by decide) (hts _ tw_117) (fun _ h9 => h9) rfl d_FK_connect_1 ?_
  refine lv_iload_n hx hb d_FK_connect_4 rfl (lv_at hl 1 rfl) ?_
  refine lv_iload_n hx hb d_FK_connect_5 rfl (lv_at hl 2 rfl) ?_
  refine lv_iload_n hx hb d_FK_connect_6 rfl (lv_at hl 3 rfl) ?_
  refine k_st (st' := [.int (pI (i + 1)), .int (nI dd), .int (nI q), .ref (ad 2)]) (by show ([.int (nI i), .int (nI dd), .int (nI q), .ref (ad 2)] : List Value) = _; simp only [pI_succ]) ?_
  refine k_callW (k_atV (As := [.int (nI q), .int (nI dd), .int (pI (i + 1))]) hx hb hown hE.1 (K0.w tw_81) (hts _ tw_497) (hts _ tw_79) (hts _ tw_80) (hts _ tw_3) (by decide) np_Pro_setPipe (va_recv hK hP (ci := nPro) (q0 := 2) rfl rfl) rfl d_FK_connect_7) (c_Pro_setPipe K0 ad r σ q dd (i + 1) (by omega) (by omega)) (hl.1.trans hml.symm) (Nat.le_of_ble_eq_true rfl) ⟨Nat.le_of_ble_eq_true rfl, Nat.le_of_ble_eq_true rfl, Nat.le_of_ble_eq_true rfl, Nat.le_of_ble_eq_true rfl⟩ (fun U hU hW => ⟨hE.go hW hU hS, by rw [hU]; exact hP, hD⟩) hS (fun H locs hP hD hS => ?_)
  obtain ⟨σ1, eσ1⟩ : ∃ z : kS, z = (st σ 7 (q * 4 + dd) (i + 1)) := ⟨_, rfl⟩
  have hP : va_P D vwCl (wC ad cI r σ1) H := by rw [eσ1]; exact hP
  have hD : va_D (kA s0) (wC ad cI r σ1) := by rw [eσ1]; exact hD
  refine lv_aload_n hx hb d_FK_connect_10 rfl (lv_at hl 0 rfl) ?_
  refine va_get (D := D) (ci := nFK) (v := .ref (ad 2)) (C := R_FK) (T := T_FK) (N := 4) hx hb hts i_FK hown hK hP 0 rfl rfl 1 (by decide) (hts _ tw_117) (fun _ h9 => h9) rfl d_FK_connect_11 ?_
  refine lv_iload_n hx hb d_FK_connect_14 rfl (lv_at hl 3 rfl) ?_
  refine k_callR (k_atV (As := [.int (nI i)]) hx hb hown hE.1 (K0.w tw_487) (hts _ tw_484) (hts _ tw_485) (hts _ tw_486) (hts _ tw_3) (by decide) np_Pro_descriptorsOfPipe (va_recv hK hP (ci := nPro) (q0 := 2) rfl rfl) rfl d_FK_connect_15) (c_Pro_descriptorsOfPipe K0 ad r σ1 i (by omega) (by subst eσ1; first | exact hb7 | exact st_b hb7 (by omega))) (hl.1.trans hml.symm) (Nat.le_of_ble_eq_true rfl) ⟨Nat.le_of_ble_eq_true rfl, Nat.le_of_ble_eq_true rfl, Nat.le_of_ble_eq_true rfl, Nat.le_of_ble_eq_true rfl⟩ (fun U hU hW => ⟨hE.go hW hU hS, by rw [hU]; exact hP, hD⟩) ?_
  have hc2 : (cof σ1 i) ≤ 24 := cnt_le _ _
  exact k_retWI hx hb hr hlocks d_FK_connect_18 hP hD hS (by subst eσ1; rfl)
set_option maxHeartbeats 4000000 in
set_option maxRecDepth 100000 in
theorem c_FK_run {l : Launch} {s0 : State} {a0 : Array Value} {D : va_G} {cI cL : ClassId} (K0 : k0 l s0 a0 D cI cL) (ad : Nat → Nat) (r : va_W) (σ : kS) (q : Nat) (hq : q < 6) : kMet l y_FK_run (Cond.code y_FK_run b_FK_run 2 none) (rmL 1) [.ref (ad 0), .int (nI q)] (kPre D vwCl s0 (wC ad cI r) σ) (.ok (none, m_run σ q)) (kBw D vwCl s0 (wC ad cI r)) := by
  refine k_of (by decide) (Nat.le_of_ble_eq_true rfl) ?_
  intro p e9 s m below meth c hx hb hr hlocks hown hml hex hpre ls hl
  obtain ⟨hE, hP, hD⟩ := hpre
  obtain ⟨hts, hK⟩ := K0.at (args := ([.ref (ad 0), .int (nI q)] : List Value).toArray) hE
  have hl : lv_has ls 2 [(0, .ref (ad 0)), (1, .int (nI q))] := hl
  have hS : va_S (kA s0) s.heap s.heap [] := va_S.rf
  refine lv_aload_n hx hb d_FK_run_0 rfl (lv_at hl 0 rfl) ?_
  refine va_get (D := D) (ci := nFK) (v := .ref (ad 2)) (C := R_FK) (T := T_FK) (N := 4) hx hb hts i_FK hown hK hP 0 rfl rfl 1 (by decide) (hts _ tw_117) (fun _ h9 => h9) rfl d_FK_run_1 ?_
  refine lv_iload_n hx hb d_FK_run_4 rfl (lv_at hl 1 rfl) ?_
  refine lv_iconst (v := (nI 3)) hx hb d_FK_run_5 (by decide) ?_
  refine k_callW (k_atV (As := [.int (nI q), .int (nI 3)]) hx hb hown hE.1 (K0.w tw_387) (hts _ tw_384) (hts _ tw_385) (hts _ tw_386) (hts _ tw_3) (by decide) np_Pro_setState (va_recv hK hP (ci := nPro) (q0 := 2) rfl rfl) rfl d_FK_run_6) (c_Pro_setState K0 ad r σ q 3 (by omega)) (hl.1.trans hml.symm) (Nat.le_of_ble_eq_true rfl) ⟨Nat.le_of_ble_eq_true rfl, Nat.le_of_ble_eq_true rfl, Nat.le_of_ble_eq_true rfl, Nat.le_of_ble_eq_true rfl⟩ (fun U hU hW => ⟨hE.go hW hU hS, by rw [hU]; exact hP, hD⟩) hS (fun H locs hP hD hS => ?_)
  obtain ⟨σ1, eσ1⟩ : ∃ z : kS, z = (st σ 4 q 3) := ⟨_, rfl⟩
  have hP : va_P D vwCl (wC ad cI r σ1) H := by rw [eσ1]; exact hP
  have hD : va_D (kA s0) (wC ad cI r σ1) := by rw [eσ1]; exact hD
  refine lv_aload_n hx hb d_FK_run_9 rfl (lv_at hl 0 rfl) ?_
  refine lv_iload_n hx hb d_FK_run_10 rfl (lv_at hl 1 rfl) ?_
  refine va_put (D := D) (ci := nFK) (v := .int (nI q)) (ty := .int) (C := R_FK) (T := T_FK) (N := 4) hx hb hts i_FK ty_FK ty_FK_ok nm_FK hown hK hP hD hS 0 rfl rfl 3 (by decide) (hts _ tw_119) (fun _ h9 => h9) rfl (by decide +kernel) rfl rfl (Nat.le_of_ble_eq_true rfl) d_FK_run_11 (fun H locs hP hD hS => ?_)
  obtain ⟨σ2, eσ2⟩ : ∃ z : kS, z = (st σ1 11 0 q) := ⟨_, rfl⟩
  have hP : va_P D vwCl (wC ad cI r σ2) H := by rw [eσ2]; exact hP
  have hD : va_D (kA s0) (wC ad cI r σ2) := by rw [eσ2]; exact hD
  exact k_retWV hx hb hr hlocks d_FK_run_14 hP hD hS (by subst eσ2 eσ1; rfl)
set_option maxHeartbeats 4000000 in
set_option maxRecDepth 100000 in
theorem c_FK_handOverToNextReady {l : Launch} {s0 : State} {a0 : Array Value} {D : va_G} {cI cL : ClassId} (K0 : k0 l s0 a0 D cI cL) (ad : Nat → Nat) (r : va_W) (σ : kS)  (ok : kOk σ) : kMet l y_FK_handOverToNextReady (Cond.code y_FK_handOverToNextReady b_FK_handOverToNextReady 2 none) (rmL 6) [.ref (ad 0)] (kPre D vwCl s0 (wC ad cI r) σ) (req (nxr σ (σ.1 11 0) != 0) eIS (.ok (none, m_run σ (nxr σ (σ.1 11 0))))) (kBw D vwCl s0 (wC ad cI r)) := by
  refine k_of (by decide) (Nat.le_of_ble_eq_true rfl) ?_
  intro p e9 s m below meth c hx hb hr hlocks hown hml hex hpre ls hl
  obtain ⟨hE, hP, hD⟩ := hpre
  obtain ⟨hts, hK⟩ := K0.at (args := ([.ref (ad 0)] : List Value).toArray) hE
  have hl : lv_has ls 2 [(0, .ref (ad 0))] := hl
  have hS : va_S (kA s0) s.heap s.heap [] := va_S.rf
  obtain ⟨o1, o2, o3, o4, o5, o6, o7, o8, o9, o10, o0, ⟨oc1, oc2⟩, oc3, or6⟩ := id ok
  have hr0 : σ.1 6 (σ.1 11 0) ≠ 0 := or6 _ oc2 (by omega)
  have hr1 : σ.1 6 (σ.1 11 0) < 21 := o6 _ oc2
  refine lv_aload_n hx hb d_FK_handOverToNextReady_0 rfl (lv_at hl 0 rfl) ?_
  refine va_get (D := D) (ci := nFK) (v := .ref (ad 2)) (C := R_FK) (T := T_FK) (N := 4) hx hb hts i_FK hown hK hP 0 rfl rfl 1 (by decide) (hts _ tw_117) (fun _ h9 => h9) rfl d_FK_handOverToNextReady_1 ?_
  refine lv_aload_n hx hb d_FK_handOverToNextReady_4 rfl (lv_at hl 0 rfl) ?_
  refine va_get (D := D) (ci := nFK) (v := .int (nI (σ.1 11 0))) (C := R_FK) (T := T_FK) (N := 4) hx hb hts i_FK hown hK hP 0 rfl rfl 3 (by decide) (hts _ tw_119) (fun _ h9 => h9) rfl d_FK_handOverToNextReady_5 ?_
  refine k_callR (k_atV (As := [.int (nI (σ.1 11 0))]) hx hb hown hE.1 (K0.w tw_419) (hts _ tw_416) (hts _ tw_417) (hts _ tw_418) (hts _ tw_3) (by decide) np_Pro_nextReady (va_recv hK hP (ci := nPro) (q0 := 2) rfl rfl) rfl d_FK_handOverToNextReady_8) (c_Pro_nextReady K0 ad r σ (σ.1 11 0) (by omega) ok.b4) (hl.1.trans hml.symm) (Nat.le_of_ble_eq_true rfl) ⟨Nat.le_of_ble_eq_true rfl, Nat.le_of_ble_eq_true rfl, Nat.le_of_ble_eq_true rfl, Nat.le_of_ble_eq_true rfl⟩ (fun U hU hW => ⟨hE.go hW hU hS, by rw [hU]; exact hP, hD⟩) ?_
  have hnx : nxr σ (σ.1 11 0) < 6 := nxr_lt _ _
  refine lv_istore_n (lv' := [(1, .int (nI (nxr σ (σ.1 11 0)))), (0, .ref (ad 0))]) hx hb d_FK_handOverToNextReady_11 rfl hl (by decide) rfl (fun ls hl => ?_)
  refine lv_iload_n hx hb d_FK_handOverToNextReady_12 rfl (lv_at hl 0 rfl) ?_
  refine k_ifN0 (tgt := 27) (by omega) hx hb d_FK_handOverToNextReady_13 (by decide) (fun h1 => ?_) (fun h1 => ?_)
  · refine lv_aload_n hx hb d_FK_handOverToNextReady_27 rfl (lv_at hl 1 rfl) ?_
    refine lv_iload_n hx hb d_FK_handOverToNextReady_28 rfl (lv_at hl 0 rfl) ?_
    refine k_callW (k_atV (As := [.int (nI (nxr σ (σ.1 11 0)))]) hx hb hown hE.1 (K0.w tw_403) (hts _ tw_400) (hts _ tw_402) (hts _ tw_9008) (hts _ tw_1) (by decide) np_FK_run (va_recv hK hP (ci := nFK) (q0 := 0) rfl rfl) rfl d_FK_handOverToNextReady_29) (c_FK_run K0 ad r σ (nxr σ (σ.1 11 0)) (by omega)) (hl.1.trans hml.symm) (Nat.le_of_ble_eq_true rfl) ⟨Nat.le_of_ble_eq_true rfl, Nat.le_of_ble_eq_true rfl, Nat.le_of_ble_eq_true rfl, Nat.le_of_ble_eq_true rfl⟩ (fun U hU hW => ⟨hE.go hW hU hS, by rw [hU]; exact hP, hD⟩) hS (fun H locs hP hD hS => ?_)
    obtain ⟨σ2, eσ2⟩ : ∃ z : kS, z = (m_run σ (nxr σ (σ.1 11 0))) := ⟨_, rfl⟩
    have hP : va_P D vwCl (wC ad cI r σ2) H := by rw [eσ2]; exact hP
    have hD : va_D (kA s0) (wC ad cI r σ2) := by rw [eσ2]; exact hD
    exact k_retWV hx hb hr hlocks d_FK_handOverToNextReady_32 hP hD hS (by subst eσ2; first | rfl | (simp [req, eIA, eIS, eUO, eNS, h1, beq_false_of_ne h1, bne_iff_ne.mpr h1]; done) | (simp [req, eIA, eIS, eUO, eNS, h1, beq_false_of_ne h1, bne_iff_ne.mpr h1]; rfl) | (simp [req, eIA, eIS, eUO, eNS, h1, beq_false_of_ne h1, bne_iff_ne.mpr h1]; done) | (simp [req, eIA, eIS, eUO, eNS, h1, beq_false_of_ne h1, bne_iff_ne.mpr h1]; rfl) | (simp only [req, eIA, eIS, eUO, eNS, h1, beq_false_of_ne h1, bne_iff_ne.mpr h1]; rfl))
  · exact k_throwW hx hb K0.tr hown (text := "no process is ready to run instead") (names := kNames) (by decide +kernel) (by decide +kernel) (hts _ tw_220) (hts _ tw_10) (K0.str hE sr_303) (K0.own hE oa_57) (hl.1.trans hml.symm) d_FK_handOverToNextReady_16 d_FK_handOverToNextReady_19 d_FK_handOverToNextReady_20 d_FK_handOverToNextReady_23 d_FK_handOverToNextReady_26 hex hlocks ⟨Nat.le_of_ble_eq_true rfl, Nat.le_of_ble_eq_true rfl, Nat.le_of_ble_eq_true rfl, Nat.le_of_ble_eq_true rfl⟩ (by first | rfl | (simp [req, eIA, eIS, eUO, eNS, h1]; done) | (simp [req, eIA, eIS, eUO, eNS, h1]; rfl) | (simp [req, eIA, eIS, eUO, eNS, beq_iff_eq.mpr h1]; done) | (simp [req, eIA, eIS, eUO, eNS, beq_iff_eq.mpr h1]; rfl) | (simp only [req, eIA, eIS, eUO, eNS, h1]; rfl))
set_option maxHeartbeats 4000000 in
set_option maxRecDepth 100000 in
theorem c_FK_intsInOpenPipes {l : Launch} {s0 : State} {a0 : Array Value} {D : va_G} {cI cL : ClassId} (K0 : k0 l s0 a0 D cI cL) (ad : Nat → Nat) (r : va_W) (σ : kS)  (ok : kOk σ) : kMet l y_FK_intsInOpenPipes (Cond.code y_FK_intsInOpenPipes b_FK_intsInOpenPipes 3 (some .int)) (rmL 1) [.ref (ad 0)] (kPre D vwCl s0 (wC ad cI r) σ) (.ok (some (.int (nI (pin σ 3))), ())) kBr := by
  refine k_of (by decide) (Nat.le_of_ble_eq_true rfl) ?_
  intro p e9 s m below meth c hx hb hr hlocks hown hml hex hpre ls hl
  obtain ⟨hE, hP, hD⟩ := hpre
  obtain ⟨hts, hK⟩ := K0.at (args := ([.ref (ad 0)] : List Value).toArray) hE
  have hl : lv_has ls 3 [(0, .ref (ad 0))] := hl
  have hS : va_S (kA s0) s.heap s.heap [] := va_S.rf
  obtain ⟨o1, o2, o3, o4, o5, o6, o7, o8, o9, o10, o0, ⟨oc1, oc2⟩, oc3, or6⟩ := id ok
  have hr0 : σ.1 6 (σ.1 11 0) ≠ 0 := or6 _ oc2 (by omega)
  have hr1 : σ.1 6 (σ.1 11 0) < 21 := o6 _ oc2
  refine lv_iconst (v := (nI 0)) hx hb d_FK_intsInOpenPipes_0 (by decide) ?_
  refine lv_istore_n (lv' := [(1, .int (nI 0)), (0, .ref (ad 0))]) hx hb d_FK_intsInOpenPipes_1 rfl hl (by decide) rfl (fun ls hl => ?_)
  refine lv_iconst (v := (nI 0)) hx hb d_FK_intsInOpenPipes_2 (by decide) ?_
  refine lv_istore_n (lv' := [(2, .int (nI 0)), (1, .int (nI 0)), (0, .ref (ad 0))]) hx hb d_FK_intsInOpenPipes_3 rfl hl (by decide) rfl (fun ls hl => ?_)
  have L : ∀ (n i : Nat), i + n = 3 → ∀ ls : Array Slot, lv_has ls 3 [(2, .int (nI i)), (1, .int (nI (pin σ i))), (0, .ref (ad 0))] → W p l e9 (rmL 1) s m ([.ref (ad 0)] : List Value).toArray below meth c s.heap [] 0 0 (kE below (.ok (some (.int (nI (pin σ 3))), ())) kBr s) (F0 m 4 ls []) := by
    intro n
    induction n with
    | zero =>
      intro i hi ls hl
      obtain rfl : i = 3 := by omega
      refine lv_iload_n hx hb d_FK_intsInOpenPipes_4 rfl (lv_at hl 0 rfl) ?_
      refine lv_iconst (v := (nI 3)) hx hb d_FK_intsInOpenPipes_5 (by decide) ?_
      refine k_geN (tgt := 37) (by decide) (by decide) hx hb d_FK_intsInOpenPipes_6 (by decide) (fun _ => ?_) (fun h9 => absurd h9 (by decide))
      refine lv_iload_n hx hb d_FK_intsInOpenPipes_37 rfl (lv_at hl 1 rfl) ?_
      exact k_retI hx hb hr hlocks d_FK_intsInOpenPipes_38 (by first | rfl | (simp [eIA, eIS, eUO, eNS]; done) | (simp [eIA, eIS, eUO, eNS]; rfl) | (simp [eIA, eIS, eUO, eNS]; done) | (simp [eIA, eIS, eUO, eNS]; rfl) | (simp only [eIA, eIS, eUO, eNS]; rfl))
    | succ n ih =>
      intro i hi ls hl
      have hlt : i < 3 := by omega
      refine lv_iload_n hx hb d_FK_intsInOpenPipes_4 rfl (lv_at hl 0 rfl) ?_
      refine lv_iconst (v := (nI 3)) hx hb d_FK_intsInOpenPipes_5 (by decide) ?_
      refine k_geN (tgt := 37) (by omega) (by omega) hx hb d_FK_intsInOpenPipes_6 (by decide) (fun h9 => absurd h9 (by omega)) (fun _ => ?_)
      refine lv_aload_n hx hb d_FK_intsInOpenPipes_9 rfl (lv_at hl 2 rfl) ?_
      refine va_get (D := D) (ci := nFK) (v := .ref (ad 2)) (C := R_FK) (T := T_FK) (N := 4) hx hb hts i_FK hown hK hP 0 rfl rfl 1 (by decide) (hts _ tw_117) (fun _ h9 => h9) rfl d_FK_intsInOpenPipes_10 ?_
      refine lv_iload_n hx hb d_FK_intsInOpenPipes_13 rfl (lv_at hl 0 rfl) ?_
      refine k_callR (k_atV (As := [.int (nI i)]) hx hb hown hE.1 (K0.w tw_487) (hts _ tw_484) (hts _ tw_485) (hts _ tw_486) (hts _ tw_3) (by decide) np_Pro_descriptorsOfPipe (va_recv hK hP (ci := nPro) (q0 := 2) rfl rfl) rfl d_FK_intsInOpenPipes_14) (c_Pro_descriptorsOfPipe K0 ad r σ i (by omega) ok.b7) (hl.1.trans hml.symm) (Nat.le_of_ble_eq_true rfl) ⟨Nat.le_of_ble_eq_true rfl, Nat.le_of_ble_eq_true rfl, Nat.le_of_ble_eq_true rfl, Nat.le_of_ble_eq_true rfl⟩ (fun U hU hW => ⟨hE.go hW hU hS, by rw [hU]; exact hP, hD⟩) ?_
      have hc1 : (cof σ i) ≤ 24 := cnt_le _ _
      refine k_leN0 (tgt := 31) (by omega) hx hb d_FK_intsInOpenPipes_17 (by decide) (fun h2 => ?_) (fun h2 => ?_)
      · refine lv_iinc (v := (nI (i + 1))) (lv' := [(2, .int (nI (i + 1))), (1, .int (nI (pin σ i))), (0, .ref (ad 0))]) hx hb d_FK_intsInOpenPipes_31 hl (k := 0) rfl (nI_1 _) (by decide) rfl (fun ls hl => ?_)
        refine lv_goto (tgt := 4) hx hb d_FK_intsInOpenPipes_34 (by decide) ?_
        exact ih (i + 1) (by omega) ls (by rw [show pin σ (i + 1) = (pin σ i) from by simp [pin, h2]]; exact lv_sub hl [0, 1, 2] rfl)
      · refine lv_iload_n hx hb d_FK_intsInOpenPipes_20 rfl (lv_at hl 1 rfl) ?_
        refine lv_aload_n hx hb d_FK_intsInOpenPipes_21 rfl (lv_at hl 2 rfl) ?_
        refine va_get (D := D) (ci := nFK) (v := .ref (ad 3)) (C := R_FK) (T := T_FK) (N := 4) hx hb hts i_FK hown hK hP 0 rfl rfl 2 (by decide) (hts _ tw_118) (fun _ h9 => h9) rfl d_FK_intsInOpenPipes_22 ?_
        refine lv_iload_n hx hb d_FK_intsInOpenPipes_25 rfl (lv_at hl 0 rfl) ?_
        refine k_callR (k_atV (As := [.int (nI i)]) hx hb hown hE.1 (K0.w tw_551) (hts _ tw_548) (hts _ tw_549) (hts _ tw_550) (hts _ tw_4) (by decide) np_Pip_held (va_recv hK hP (ci := nPip) (q0 := 3) rfl rfl) rfl d_FK_intsInOpenPipes_26) (c_Pip_held K0 ad r σ i (by omega)) (hl.1.trans hml.symm) (Nat.le_of_ble_eq_true rfl) ⟨Nat.le_of_ble_eq_true rfl, Nat.le_of_ble_eq_true rfl, Nat.le_of_ble_eq_true rfl, Nat.le_of_ble_eq_true rfl⟩ (fun U hU hW => ⟨hE.go hW hU hS, by rw [hU]; exact hP, hD⟩) ?_
        have ho3 := o10 i (by omega)
        refine k_addN hx hb d_FK_intsInOpenPipes_29 ?_
        refine lv_istore_n (lv' := [(1, .int (nI ((pin σ i) + (σ.1 10 i)))), (2, .int (nI i)), (0, .ref (ad 0))]) hx hb d_FK_intsInOpenPipes_30 rfl hl (by decide) rfl (fun ls hl => ?_)
        refine lv_iinc (v := (nI (i + 1))) (lv' := [(2, .int (nI (i + 1))), (1, .int (nI ((pin σ i) + (σ.1 10 i)))), (0, .ref (ad 0))]) hx hb d_FK_intsInOpenPipes_31 hl (k := 1) rfl (nI_1 _) (by decide) rfl (fun ls hl => ?_)
        refine lv_goto (tgt := 4) hx hb d_FK_intsInOpenPipes_34 (by decide) ?_
        exact ih (i + 1) (by omega) ls (by rw [show pin σ (i + 1) = ((pin σ i) + (σ.1 10 i)) from by simp [pin, h2]]; exact lv_sub hl [0, 1, 2] rfl)
  exact L 3 0 (by omega) ls (lv_sub hl [0, 1, 2] rfl)
end
section
/-! The calls, first half. Laid by a program of mine (wip/gen). -/
set_option maxHeartbeats 4000000 in
set_option maxRecDepth 100000 in
theorem c_FK_spawn {l : Launch} {s0 : State} {a0 : Array Value} {D : va_G} {cI cL : ClassId} (K0 : k0 l s0 a0 D cI cL) (ad : Nat → Nat) (r : va_W) (σ : kS) (x : Int32) (y : Int32) (ok : kOk σ) : kMet l y_FK_spawn (Cond.code y_FK_spawn b_FK_spawn 3 (some .int)) (rmL 8) [.ref (ad 0), .int x, .int y] (kPre D vwCl s0 (wC ad cI r) σ) (sp_spawn σ x y) (kBw D vwCl s0 (wC ad cI r)) := by
  refine k_of (by decide) (Nat.le_of_ble_eq_true rfl) ?_
  intro p e9 s m below meth c hx hb hr hlocks hown hml hex hpre ls hl
  obtain ⟨hE, hP, hD⟩ := hpre
  obtain ⟨hts, hK⟩ := K0.at (args := ([.ref (ad 0), .int x, .int y] : List Value).toArray) hE
  have hl : lv_has ls 3 [(0, .ref (ad 0)), (1, .int x), (2, .int y)] := hl
  have hS : va_S (kA s0) s.heap s.heap [] := va_S.rf
  obtain ⟨o1, o2, o3, o4, o5, o6, o7, o8, o9, o10, o0, ⟨oc1, oc2⟩, oc3, or6⟩ := id ok
  have hr0 : σ.1 6 (σ.1 11 0) ≠ 0 := or6 _ oc2 (by omega)
  have hr1 : σ.1 6 (σ.1 11 0) < 21 := o6 _ oc2
  refine lv_iload_n hx hb d_FK_spawn_0 rfl (lv_at hl 1 rfl) ?_
  rcases hq1 : rg x 1 5 with _ | j2
  · exact k_callE (k_atS (As := [.int x]) hx hb hown hE.1 (K0.w tw_140) rfl k_w9 (hts _ tw_138) (hts _ tw_139) (hts _ tw_1) (by decide) np_FK_checkProcess rfl d_FK_spawn_1) (kn_n hq1 (c_FK_checkProcess K0 ad r σ x)) (hl.1.trans hml.symm) (Nat.le_of_ble_eq_true rfl) ⟨Nat.le_of_ble_eq_true rfl, Nat.le_of_ble_eq_true rfl, Nat.le_of_ble_eq_true rfl, Nat.le_of_ble_eq_true rfl⟩ (fun U hU hW => ⟨hE.go hW hU hS, by rw [hU]; exact hP, hD⟩) hex hlocks (by first | rfl | (simp [sp_spawn, inr, req, wit, eIA, eIS, eUO, eNS, hq1]; done) | (simp [sp_spawn, inr, req, wit, eIA, eIS, eUO, eNS, hq1]; rfl) | (simp [sp_spawn, inr, req, wit, eIA, eIS, eUO, eNS, hq1]; done) | (simp [sp_spawn, inr, req, wit, eIA, eIS, eUO, eNS, hq1]; rfl) | (simp only [sp_spawn, inr, req, wit, eIA, eIS, eUO, eNS, hq1]; rfl))
  · refine k_callR (k_atS (As := [.int x]) hx hb hown hE.1 (K0.w tw_140) rfl k_w9 (hts _ tw_138) (hts _ tw_139) (hts _ tw_1) (by decide) np_FK_checkProcess rfl d_FK_spawn_1) (kn_s hq1 (c_FK_checkProcess K0 ad r σ x)) (hl.1.trans hml.symm) (Nat.le_of_ble_eq_true rfl) ⟨Nat.le_of_ble_eq_true rfl, Nat.le_of_ble_eq_true rfl, Nat.le_of_ble_eq_true rfl, Nat.le_of_ble_eq_true rfl⟩ (fun U hU hW => ⟨hE.go hW hU hS, by rw [hU]; exact hP, hD⟩) ?_
    obtain ⟨rfl, ha3, hb_4, hc_5⟩ := rg_some hq1
    refine lv_iload_n hx hb d_FK_spawn_4 rfl (lv_at hl 2 rfl) ?_
    rcases hq6 : rg y 0 19 with _ | j7
    · exact k_callE (k_atS (As := [.int y]) hx hb hown hE.1 (K0.w tw_215) rfl k_w9 (hts _ tw_213) (hts _ tw_214) (hts _ tw_1) (by decide) np_FK_checkPage rfl d_FK_spawn_5) (kn_n hq6 (c_FK_checkPage K0 ad r σ y)) (hl.1.trans hml.symm) (Nat.le_of_ble_eq_true rfl) ⟨Nat.le_of_ble_eq_true rfl, Nat.le_of_ble_eq_true rfl, Nat.le_of_ble_eq_true rfl, Nat.le_of_ble_eq_true rfl⟩ (fun U hU hW => ⟨hE.go hW hU hS, by rw [hU]; exact hP, hD⟩) hex hlocks (by first | rfl | (simp [sp_spawn, inr, req, wit, eIA, eIS, eUO, eNS, hq1, hq6]; done) | (simp [sp_spawn, inr, req, wit, eIA, eIS, eUO, eNS, hq1, hq6]; rfl) | (simp [sp_spawn, inr, req, wit, eIA, eIS, eUO, eNS, hq1, hq6]; done) | (simp [sp_spawn, inr, req, wit, eIA, eIS, eUO, eNS, hq1, hq6]; rfl) | (simp only [sp_spawn, inr, req, wit, eIA, eIS, eUO, eNS, hq1, hq6]; rfl))
    · refine k_callR (k_atS (As := [.int y]) hx hb hown hE.1 (K0.w tw_215) rfl k_w9 (hts _ tw_213) (hts _ tw_214) (hts _ tw_1) (by decide) np_FK_checkPage rfl d_FK_spawn_5) (kn_s hq6 (c_FK_checkPage K0 ad r σ y)) (hl.1.trans hml.symm) (Nat.le_of_ble_eq_true rfl) ⟨Nat.le_of_ble_eq_true rfl, Nat.le_of_ble_eq_true rfl, Nat.le_of_ble_eq_true rfl, Nat.le_of_ble_eq_true rfl⟩ (fun U hU hW => ⟨hE.go hW hU hS, by rw [hU]; exact hP, hD⟩) ?_
      obtain ⟨rfl, ha8, hb_9, hc_10⟩ := rg_some hq6
      refine lv_aload_n hx hb d_FK_spawn_8 rfl (lv_at hl 0 rfl) ?_
      refine va_get (D := D) (ci := nFK) (v := .ref (ad 2)) (C := R_FK) (T := T_FK) (N := 4) hx hb hts i_FK hown hK hP 0 rfl rfl 1 (by decide) (hts _ tw_117) (fun _ h9 => h9) rfl d_FK_spawn_9 ?_
      refine lv_iload_n hx hb d_FK_spawn_12 rfl (lv_at hl 1 rfl) ?_
      refine k_callR (k_atV (As := [.int (nI j2)]) hx hb hown hE.1 (K0.w tw_219) (hts _ tw_216) (hts _ tw_217) (hts _ tw_218) (hts _ tw_3) (by decide) np_Pro_stateOf (va_recv hK hP (ci := nPro) (q0 := 2) rfl rfl) rfl d_FK_spawn_13) (c_Pro_stateOf K0 ad r σ j2 (by omega)) (hl.1.trans hml.symm) (Nat.le_of_ble_eq_true rfl) ⟨Nat.le_of_ble_eq_true rfl, Nat.le_of_ble_eq_true rfl, Nat.le_of_ble_eq_true rfl, Nat.le_of_ble_eq_true rfl⟩ (fun U hU hW => ⟨hE.go hW hU hS, by rw [hU]; exact hP, hD⟩) ?_
      have ho11 := o4 j2 (by omega)
      refine k_if0 (tgt := 29) (Nat.lt_of_lt_of_le (ok.b4 _ (by omega)) (by decide)) hx hb d_FK_spawn_16 (by decide) (fun h12 => ?_) (fun h12 => ?_)
      · refine lv_aload_n hx hb d_FK_spawn_29 rfl (lv_at hl 0 rfl) ?_
        refine lv_iload_n hx hb d_FK_spawn_30 rfl (lv_at hl 2 rfl) ?_
        rcases hq13 : (σ.1 0 j7 == 0) with _ | _
        · exact k_callE (k_atV (As := [.int (nI j7)]) hx hb hown hE.1 (K0.w tw_239) (hts _ tw_236) (hts _ tw_238) (hts _ tw_9001) (hts _ tw_1) (by decide) np_FK_checkPageIsFree (va_recv hK hP (ci := nFK) (q0 := 0) rfl rfl) rfl d_FK_spawn_31) (kr_f hq13 (c_FK_checkPageIsFree K0 ad r σ j7 ok (by omega) )) (hl.1.trans hml.symm) (Nat.le_of_ble_eq_true rfl) ⟨Nat.le_of_ble_eq_true rfl, Nat.le_of_ble_eq_true rfl, Nat.le_of_ble_eq_true rfl, Nat.le_of_ble_eq_true rfl⟩ (fun U hU hW => ⟨hE.go hW hU hS, by rw [hU]; exact hP, hD⟩) hex hlocks (by first | rfl | (simp [sp_spawn, inr, req, wit, eIA, eIS, eUO, eNS, hq1, hq6, h12, hq13]; done) | (simp [sp_spawn, inr, req, wit, eIA, eIS, eUO, eNS, hq1, hq6, h12, hq13]; rfl) | (simp [sp_spawn, inr, req, wit, eIA, eIS, eUO, eNS, hq1, hq6, hq13, beq_iff_eq.mpr h12]; done) | (simp [sp_spawn, inr, req, wit, eIA, eIS, eUO, eNS, hq1, hq6, hq13, beq_iff_eq.mpr h12]; rfl) | (simp only [sp_spawn, inr, req, wit, eIA, eIS, eUO, eNS, hq1, hq6, h12, hq13]; rfl))
        · refine k_callR (k_atV (As := [.int (nI j7)]) hx hb hown hE.1 (K0.w tw_239) (hts _ tw_236) (hts _ tw_238) (hts _ tw_9001) (hts _ tw_1) (by decide) np_FK_checkPageIsFree (va_recv hK hP (ci := nFK) (q0 := 0) rfl rfl) rfl d_FK_spawn_31) (kr_t hq13 (c_FK_checkPageIsFree K0 ad r σ j7 ok (by omega) )) (hl.1.trans hml.symm) (Nat.le_of_ble_eq_true rfl) ⟨Nat.le_of_ble_eq_true rfl, Nat.le_of_ble_eq_true rfl, Nat.le_of_ble_eq_true rfl, Nat.le_of_ble_eq_true rfl⟩ (fun U hU hW => ⟨hE.go hW hU hS, by rw [hU]; exact hP, hD⟩) ?_
          refine lv_aload_n hx hb d_FK_spawn_34 rfl (lv_at hl 0 rfl) ?_
          refine va_get (D := D) (ci := nFK) (v := .ref (ad 1)) (C := R_FK) (T := T_FK) (N := 4) hx hb hts i_FK hown hK hP 0 rfl rfl 0 (by decide) (hts _ tw_116) (fun _ h9 => h9) rfl d_FK_spawn_35 ?_
          refine lv_iload_n hx hb d_FK_spawn_38 rfl (lv_at hl 2 rfl) ?_
          refine lv_iconst (v := (nI 1)) hx hb d_FK_spawn_39 (by decide) ?_
          refine lv_iload_n hx hb d_FK_spawn_40 rfl (lv_at hl 1 rfl) ?_
          refine k_callW (k_atV (As := [.int (nI j7), .int (nI 1), .int (nI j2)]) hx hb hown hE.1 (K0.w tw_34) (hts _ tw_114) (hts _ tw_32) (hts _ tw_33) (hts _ tw_2) (by decide) np_Mem_become (va_recv hK hP (ci := nMem) (q0 := 1) rfl rfl) rfl d_FK_spawn_41) (c_Mem_become K0 ad r σ j7 1 j2 (by omega)) (hl.1.trans hml.symm) (Nat.le_of_ble_eq_true rfl) ⟨Nat.le_of_ble_eq_true rfl, Nat.le_of_ble_eq_true rfl, Nat.le_of_ble_eq_true rfl, Nat.le_of_ble_eq_true rfl⟩ (fun U hU hW => ⟨hE.go hW hU hS, by rw [hU]; exact hP, hD⟩) hS (fun H locs hP hD hS => ?_)
          obtain ⟨σ14, eσ14⟩ : ∃ z : kS, z = (m_become σ j7 1 j2) := ⟨_, rfl⟩
          have hP : va_P D vwCl (wC ad cI r σ14) H := by rw [eσ14]; exact hP
          have hD : va_D (kA s0) (wC ad cI r σ14) := by rw [eσ14]; exact hD
          refine lv_aload_n hx hb d_FK_spawn_44 rfl (lv_at hl 0 rfl) ?_
          refine va_get (D := D) (ci := nFK) (v := .ref (ad 2)) (C := R_FK) (T := T_FK) (N := 4) hx hb hts i_FK hown hK hP 0 rfl rfl 1 (by decide) (hts _ tw_117) (fun _ h9 => h9) rfl d_FK_spawn_45 ?_
          refine lv_iload_n hx hb d_FK_spawn_48 rfl (lv_at hl 1 rfl) ?_
          refine lv_iconst (v := (nI 1)) hx hb d_FK_spawn_49 (by decide) ?_
          refine lv_aload_n hx hb d_FK_spawn_50 rfl (lv_at hl 0 rfl) ?_
          refine va_get (D := D) (ci := nFK) (v := .int (nI (σ14.1 11 0))) (C := R_FK) (T := T_FK) (N := 4) hx hb hts i_FK hown hK hP 0 rfl rfl 3 (by decide) (hts _ tw_119) (fun _ h9 => h9) rfl d_FK_spawn_51 ?_
          refine lv_iload_n hx hb d_FK_spawn_54 rfl (lv_at hl 2 rfl) ?_
          refine k_st (st' := [.int (pI (j7 + 1)), .int (nI (σ14.1 11 0)), .int (nI 1), .int (nI j2), .ref (ad 2)]) (by show ([.int (nI j7), .int (nI (σ14.1 11 0)), .int (nI 1), .int (nI j2), .ref (ad 2)] : List Value) = _; simp only [pI_succ]) ?_
          refine k_callW (k_atV (As := [.int (nI j2), .int (nI 1), .int (nI (σ14.1 11 0)), .int (pI (j7 + 1))]) hx hb hown hE.1 (K0.w tw_77) (hts _ tw_115) (hts _ tw_75) (hts _ tw_76) (hts _ tw_3) (by decide) np_Pro_begin (va_recv hK hP (ci := nPro) (q0 := 2) rfl rfl) rfl d_FK_spawn_55) (c_Pro_begin K0 ad r σ14 j2 1 (σ14.1 11 0) (j7 + 1) (by omega)) (hl.1.trans hml.symm) (Nat.le_of_ble_eq_true rfl) ⟨Nat.le_of_ble_eq_true rfl, Nat.le_of_ble_eq_true rfl, Nat.le_of_ble_eq_true rfl, Nat.le_of_ble_eq_true rfl⟩ (fun U hU hW => ⟨hE.go hW hU hS, by rw [hU]; exact hP, hD⟩) hS (fun H locs hP hD hS => ?_)
          obtain ⟨σ15, eσ15⟩ : ∃ z : kS, z = (m_begin σ14 j2 1 (σ14.1 11 0) (j7 + 1)) := ⟨_, rfl⟩
          have hP : va_P D vwCl (wC ad cI r σ15) H := by rw [eσ15]; exact hP
          have hD : va_D (kA s0) (wC ad cI r σ15) := by rw [eσ15]; exact hD
          refine lv_iconst (v := (nI 1)) hx hb d_FK_spawn_58 (by decide) ?_
          exact k_retWI hx hb hr hlocks d_FK_spawn_59 hP hD hS (by subst eσ15 eσ14; first | rfl | (simp [sp_spawn, inr, req, wit, eIA, eIS, eUO, eNS, hq1, hq6, h12, hq13]; done) | (simp [sp_spawn, inr, req, wit, eIA, eIS, eUO, eNS, hq1, hq6, h12, hq13]; rfl) | (simp [sp_spawn, inr, req, wit, eIA, eIS, eUO, eNS, hq1, hq6, hq13, beq_iff_eq.mpr h12]; done) | (simp [sp_spawn, inr, req, wit, eIA, eIS, eUO, eNS, hq1, hq6, hq13, beq_iff_eq.mpr h12]; rfl) | (simp only [sp_spawn, inr, req, wit, eIA, eIS, eUO, eNS, hq1, hq6, h12, hq13]; rfl))
      · exact k_throw hx hb K0.tr hown (text := "the process is not free") (names := kNames) (by decide +kernel) (by decide +kernel) (hts _ tw_220) (hts _ tw_10) (K0.str hE sr_55) (K0.own hE oa_57) (hl.1.trans hml.symm) d_FK_spawn_19 d_FK_spawn_22 d_FK_spawn_23 d_FK_spawn_25 d_FK_spawn_28 hex hlocks ⟨Nat.le_of_ble_eq_true rfl, Nat.le_of_ble_eq_true rfl, Nat.le_of_ble_eq_true rfl, Nat.le_of_ble_eq_true rfl⟩ (by first | rfl | (simp [sp_spawn, inr, req, wit, eIA, eIS, eUO, eNS, hq1, hq6, h12, beq_false_of_ne h12, bne_iff_ne.mpr h12]; done) | (simp [sp_spawn, inr, req, wit, eIA, eIS, eUO, eNS, hq1, hq6, h12, beq_false_of_ne h12, bne_iff_ne.mpr h12]; rfl) | (simp [sp_spawn, inr, req, wit, eIA, eIS, eUO, eNS, hq1, hq6, h12, beq_false_of_ne h12, bne_iff_ne.mpr h12]; done) | (simp [sp_spawn, inr, req, wit, eIA, eIS, eUO, eNS, hq1, hq6, h12, beq_false_of_ne h12, bne_iff_ne.mpr h12]; rfl) | (simp only [sp_spawn, inr, req, wit, eIA, eIS, eUO, eNS, hq1, hq6, h12, beq_false_of_ne h12, bne_iff_ne.mpr h12]; rfl))
set_option maxHeartbeats 4000000 in
set_option maxRecDepth 100000 in
theorem c_FK_fillEntry1 {l : Launch} {s0 : State} {a0 : Array Value} {D : va_G} {cI cL : ClassId} (K0 : k0 l s0 a0 D cI cL) (ad : Nat → Nat) (r : va_W) (σ : kS) (x : Int32) (y : Int32) (z : Int32) (w : Int32) (ok : kOk σ) : kMet l y_FK_fillEntry (Cond.code y_FK_fillEntry b_FK_fillEntry 7 (some .int)) (rmL 8) [.ref (ad 0), .int x, .int (nI 1), .int y, .int z, .int w] (kPre D vwCl s0 (wC ad cI r) σ) (sp_fill 1 σ x y z w) (kBw D vwCl s0 (wC ad cI r)) := by
  refine k_of (by decide) (Nat.le_of_ble_eq_true rfl) ?_
  intro p e9 s m below meth c hx hb hr hlocks hown hml hex hpre ls hl
  obtain ⟨hE, hP, hD⟩ := hpre
  obtain ⟨hts, hK⟩ := K0.at (args := ([.ref (ad 0), .int x, .int (nI 1), .int y, .int z, .int w] : List Value).toArray) hE
  have hl : lv_has ls 7 [(0, .ref (ad 0)), (1, .int x), (2, .int (nI 1)), (3, .int y), (4, .int z), (5, .int w)] := hl
  have hS : va_S (kA s0) s.heap s.heap [] := va_S.rf
  obtain ⟨o1, o2, o3, o4, o5, o6, o7, o8, o9, o10, o0, ⟨oc1, oc2⟩, oc3, or6⟩ := id ok
  have hr0 : σ.1 6 (σ.1 11 0) ≠ 0 := or6 _ oc2 (by omega)
  have hr1 : σ.1 6 (σ.1 11 0) < 21 := o6 _ oc2
  refine lv_iload_n hx hb d_FK_fillEntry_0 rfl (lv_at hl 1 rfl) ?_
  rcases hq1 : rg x 0 19 with _ | j2
  · exact k_callE (k_atS (As := [.int x]) hx hb hown hE.1 (K0.w tw_215) rfl k_w9 (hts _ tw_213) (hts _ tw_214) (hts _ tw_1) (by decide) np_FK_checkPage rfl d_FK_fillEntry_1) (kn_n hq1 (c_FK_checkPage K0 ad r σ x)) (hl.1.trans hml.symm) (Nat.le_of_ble_eq_true rfl) ⟨Nat.le_of_ble_eq_true rfl, Nat.le_of_ble_eq_true rfl, Nat.le_of_ble_eq_true rfl, Nat.le_of_ble_eq_true rfl⟩ (fun U hU hW => ⟨hE.go hW hU hS, by rw [hU]; exact hP, hD⟩) hex hlocks (by first | rfl | (simp [sp_fill, inr, req, wit, eIA, eIS, eUO, eNS, hq1]; done) | (simp [sp_fill, inr, req, wit, eIA, eIS, eUO, eNS, hq1]; rfl) | (simp [sp_fill, inr, req, wit, eIA, eIS, eUO, eNS, hq1]; done) | (simp [sp_fill, inr, req, wit, eIA, eIS, eUO, eNS, hq1]; rfl) | (simp only [sp_fill, inr, req, wit, eIA, eIS, eUO, eNS, hq1]; rfl))
  · refine k_callR (k_atS (As := [.int x]) hx hb hown hE.1 (K0.w tw_215) rfl k_w9 (hts _ tw_213) (hts _ tw_214) (hts _ tw_1) (by decide) np_FK_checkPage rfl d_FK_fillEntry_1) (kn_s hq1 (c_FK_checkPage K0 ad r σ x)) (hl.1.trans hml.symm) (Nat.le_of_ble_eq_true rfl) ⟨Nat.le_of_ble_eq_true rfl, Nat.le_of_ble_eq_true rfl, Nat.le_of_ble_eq_true rfl, Nat.le_of_ble_eq_true rfl⟩ (fun U hU hW => ⟨hE.go hW hU hS, by rw [hU]; exact hP, hD⟩) ?_
    obtain ⟨rfl, ha3, hb_4, hc_5⟩ := rg_some hq1
    refine lv_iload_n hx hb d_FK_fillEntry_4 rfl (lv_at hl 3 rfl) ?_
    rcases hq6 : rg y 0 3 with _ | j7
    · exact k_callE (k_atS (As := [.int y]) hx hb hown hE.1 (K0.w tw_259) rfl k_w9 (hts _ tw_257) (hts _ tw_258) (hts _ tw_1) (by decide) np_FK_checkEntry rfl d_FK_fillEntry_5) (kn_n hq6 (c_FK_checkEntry K0 ad r σ y)) (hl.1.trans hml.symm) (Nat.le_of_ble_eq_true rfl) ⟨Nat.le_of_ble_eq_true rfl, Nat.le_of_ble_eq_true rfl, Nat.le_of_ble_eq_true rfl, Nat.le_of_ble_eq_true rfl⟩ (fun U hU hW => ⟨hE.go hW hU hS, by rw [hU]; exact hP, hD⟩) hex hlocks (by first | rfl | (simp [sp_fill, inr, req, wit, eIA, eIS, eUO, eNS, hq1, hq6]; done) | (simp [sp_fill, inr, req, wit, eIA, eIS, eUO, eNS, hq1, hq6]; rfl) | (simp [sp_fill, inr, req, wit, eIA, eIS, eUO, eNS, hq1, hq6]; done) | (simp [sp_fill, inr, req, wit, eIA, eIS, eUO, eNS, hq1, hq6]; rfl) | (simp only [sp_fill, inr, req, wit, eIA, eIS, eUO, eNS, hq1, hq6]; rfl))
    · refine k_callR (k_atS (As := [.int y]) hx hb hown hE.1 (K0.w tw_259) rfl k_w9 (hts _ tw_257) (hts _ tw_258) (hts _ tw_1) (by decide) np_FK_checkEntry rfl d_FK_fillEntry_5) (kn_s hq6 (c_FK_checkEntry K0 ad r σ y)) (hl.1.trans hml.symm) (Nat.le_of_ble_eq_true rfl) ⟨Nat.le_of_ble_eq_true rfl, Nat.le_of_ble_eq_true rfl, Nat.le_of_ble_eq_true rfl, Nat.le_of_ble_eq_true rfl⟩ (fun U hU hW => ⟨hE.go hW hU hS, by rw [hU]; exact hP, hD⟩) ?_
      obtain ⟨rfl, ha8, hb_9, hc_10⟩ := rg_some hq6
      refine lv_iload hx hb d_FK_fillEntry_8 (lv_at hl 4 rfl) ?_
      rcases hq11 : rg z 0 19 with _ | j12
      · exact k_callE (k_atS (As := [.int z]) hx hb hown hE.1 (K0.w tw_215) rfl k_w9 (hts _ tw_213) (hts _ tw_214) (hts _ tw_1) (by decide) np_FK_checkPage rfl d_FK_fillEntry_10) (kn_n hq11 (c_FK_checkPage K0 ad r σ z)) (hl.1.trans hml.symm) (Nat.le_of_ble_eq_true rfl) ⟨Nat.le_of_ble_eq_true rfl, Nat.le_of_ble_eq_true rfl, Nat.le_of_ble_eq_true rfl, Nat.le_of_ble_eq_true rfl⟩ (fun U hU hW => ⟨hE.go hW hU hS, by rw [hU]; exact hP, hD⟩) hex hlocks (by first | rfl | (simp [sp_fill, inr, req, wit, eIA, eIS, eUO, eNS, hq1, hq6, hq11]; done) | (simp [sp_fill, inr, req, wit, eIA, eIS, eUO, eNS, hq1, hq6, hq11]; rfl) | (simp [sp_fill, inr, req, wit, eIA, eIS, eUO, eNS, hq1, hq6, hq11]; done) | (simp [sp_fill, inr, req, wit, eIA, eIS, eUO, eNS, hq1, hq6, hq11]; rfl) | (simp only [sp_fill, inr, req, wit, eIA, eIS, eUO, eNS, hq1, hq6, hq11]; rfl))
      · refine k_callR (k_atS (As := [.int z]) hx hb hown hE.1 (K0.w tw_215) rfl k_w9 (hts _ tw_213) (hts _ tw_214) (hts _ tw_1) (by decide) np_FK_checkPage rfl d_FK_fillEntry_10) (kn_s hq11 (c_FK_checkPage K0 ad r σ z)) (hl.1.trans hml.symm) (Nat.le_of_ble_eq_true rfl) ⟨Nat.le_of_ble_eq_true rfl, Nat.le_of_ble_eq_true rfl, Nat.le_of_ble_eq_true rfl, Nat.le_of_ble_eq_true rfl⟩ (fun U hU hW => ⟨hE.go hW hU hS, by rw [hU]; exact hP, hD⟩) ?_
        obtain ⟨rfl, ha13, hb_14, hc_15⟩ := rg_some hq11
        refine lv_iload hx hb d_FK_fillEntry_13 (lv_at hl 5 rfl) ?_
        rcases hq16 : rg w 1 3 with _ | j17
        · exact k_callE (k_atS (As := [.int w]) hx hb hown hE.1 (K0.w tw_262) rfl k_w9 (hts _ tw_260) (hts _ tw_261) (hts _ tw_1) (by decide) np_FK_checkRights rfl d_FK_fillEntry_15) (kn_n hq16 (c_FK_checkRights K0 ad r σ w)) (hl.1.trans hml.symm) (Nat.le_of_ble_eq_true rfl) ⟨Nat.le_of_ble_eq_true rfl, Nat.le_of_ble_eq_true rfl, Nat.le_of_ble_eq_true rfl, Nat.le_of_ble_eq_true rfl⟩ (fun U hU hW => ⟨hE.go hW hU hS, by rw [hU]; exact hP, hD⟩) hex hlocks (by first | rfl | (simp [sp_fill, inr, req, wit, eIA, eIS, eUO, eNS, hq1, hq6, hq11, hq16]; done) | (simp [sp_fill, inr, req, wit, eIA, eIS, eUO, eNS, hq1, hq6, hq11, hq16]; rfl) | (simp [sp_fill, inr, req, wit, eIA, eIS, eUO, eNS, hq1, hq6, hq11, hq16]; done) | (simp [sp_fill, inr, req, wit, eIA, eIS, eUO, eNS, hq1, hq6, hq11, hq16]; rfl) | (simp only [sp_fill, inr, req, wit, eIA, eIS, eUO, eNS, hq1, hq6, hq11, hq16]; rfl))
        · refine k_callR (k_atS (As := [.int w]) hx hb hown hE.1 (K0.w tw_262) rfl k_w9 (hts _ tw_260) (hts _ tw_261) (hts _ tw_1) (by decide) np_FK_checkRights rfl d_FK_fillEntry_15) (kn_s hq16 (c_FK_checkRights K0 ad r σ w)) (hl.1.trans hml.symm) (Nat.le_of_ble_eq_true rfl) ⟨Nat.le_of_ble_eq_true rfl, Nat.le_of_ble_eq_true rfl, Nat.le_of_ble_eq_true rfl, Nat.le_of_ble_eq_true rfl⟩ (fun U hU hW => ⟨hE.go hW hU hS, by rw [hU]; exact hP, hD⟩) ?_
          obtain ⟨rfl, ha18, hb_19, hc_20⟩ := rg_some hq16
          refine lv_aload_n hx hb d_FK_fillEntry_18 rfl (lv_at hl 0 rfl) ?_
          refine lv_iload_n hx hb d_FK_fillEntry_19 rfl (lv_at hl 1 rfl) ?_
          refine lv_iload_n hx hb d_FK_fillEntry_20 rfl (lv_at hl 2 rfl) ?_
          rcases hq21 : mpage σ j2 1 with _ | _
          · refine k_callR (k_atV (As := [.int (nI j2), .int (nI 1)]) hx hb hown hE.1 (K0.w tw_266) (hts _ tw_263) (hts _ tw_265) (hts _ tw_9003) (hts _ tw_1) (by decide) np_FK_isMyPage (va_recv hK hP (ci := nFK) (q0 := 0) rfl rfl) rfl d_FK_fillEntry_21) (kb_f hq21 (c_FK_isMyPage K0 ad r σ j2 1 ok (by omega) (by omega))) (hl.1.trans hml.symm) (Nat.le_of_ble_eq_true rfl) ⟨Nat.le_of_ble_eq_true rfl, Nat.le_of_ble_eq_true rfl, Nat.le_of_ble_eq_true rfl, Nat.le_of_ble_eq_true rfl⟩ (fun U hU hW => ⟨hE.go hW hU hS, by rw [hU]; exact hP, hD⟩) ?_
            refine k_ifN0 (tgt := 38) (by decide) hx hb d_FK_fillEntry_24 (by decide) (fun h9 => absurd h9 (by decide)) (fun _ => ?_)
            exact k_throwW hx hb K0.tr hown (text := "the holder is of another kind or not the caller's") (names := kNames) (by decide +kernel) (by decide +kernel) (hts _ tw_283) (hts _ tw_11) (K0.str hE sr_285) (K0.own hE oa_95) (hl.1.trans hml.symm) d_FK_fillEntry_27 d_FK_fillEntry_30 d_FK_fillEntry_31 d_FK_fillEntry_34 d_FK_fillEntry_37 hex hlocks ⟨Nat.le_of_ble_eq_true rfl, Nat.le_of_ble_eq_true rfl, Nat.le_of_ble_eq_true rfl, Nat.le_of_ble_eq_true rfl⟩ (by first | rfl | (simp [sp_fill, inr, req, wit, eIA, eIS, eUO, eNS, hq1, hq6, hq11, hq16, hq21]; done) | (simp [sp_fill, inr, req, wit, eIA, eIS, eUO, eNS, hq1, hq6, hq11, hq16, hq21]; rfl) | (simp [sp_fill, inr, req, wit, eIA, eIS, eUO, eNS, hq1, hq6, hq11, hq16, hq21]; done) | (simp [sp_fill, inr, req, wit, eIA, eIS, eUO, eNS, hq1, hq6, hq11, hq16, hq21]; rfl) | (simp only [sp_fill, inr, req, wit, eIA, eIS, eUO, eNS, hq1, hq6, hq11, hq16, hq21]; rfl))
          · refine k_callR (k_atV (As := [.int (nI j2), .int (nI 1)]) hx hb hown hE.1 (K0.w tw_266) (hts _ tw_263) (hts _ tw_265) (hts _ tw_9003) (hts _ tw_1) (by decide) np_FK_isMyPage (va_recv hK hP (ci := nFK) (q0 := 0) rfl rfl) rfl d_FK_fillEntry_21) (kb_t hq21 (c_FK_isMyPage K0 ad r σ j2 1 ok (by omega) (by omega))) (hl.1.trans hml.symm) (Nat.le_of_ble_eq_true rfl) ⟨Nat.le_of_ble_eq_true rfl, Nat.le_of_ble_eq_true rfl, Nat.le_of_ble_eq_true rfl, Nat.le_of_ble_eq_true rfl⟩ (fun U hU hW => ⟨hE.go hW hU hS, by rw [hU]; exact hP, hD⟩) ?_
            refine k_ifN0 (tgt := 38) (by decide) hx hb d_FK_fillEntry_24 (by decide) (fun _ => ?_) (fun h9 => absurd h9 (by decide))
            refine lv_aload_n hx hb d_FK_fillEntry_38 rfl (lv_at hl 0 rfl) ?_
            refine lv_iload hx hb d_FK_fillEntry_39 (lv_at hl 4 rfl) ?_
            rcases hq22 : (σ.1 0 j12 == 0) with _ | _
            · exact k_callE (k_atV (As := [.int (nI j12)]) hx hb hown hE.1 (K0.w tw_239) (hts _ tw_236) (hts _ tw_238) (hts _ tw_9001) (hts _ tw_1) (by decide) np_FK_checkPageIsFree (va_recv hK hP (ci := nFK) (q0 := 0) rfl rfl) rfl d_FK_fillEntry_41) (kr_f hq22 (c_FK_checkPageIsFree K0 ad r σ j12 ok (by omega) )) (hl.1.trans hml.symm) (Nat.le_of_ble_eq_true rfl) ⟨Nat.le_of_ble_eq_true rfl, Nat.le_of_ble_eq_true rfl, Nat.le_of_ble_eq_true rfl, Nat.le_of_ble_eq_true rfl⟩ (fun U hU hW => ⟨hE.go hW hU hS, by rw [hU]; exact hP, hD⟩) hex hlocks (by first | rfl | (simp [sp_fill, inr, req, wit, eIA, eIS, eUO, eNS, hq1, hq6, hq11, hq16, hq21, hq22]; done) | (simp [sp_fill, inr, req, wit, eIA, eIS, eUO, eNS, hq1, hq6, hq11, hq16, hq21, hq22]; rfl) | (simp [sp_fill, inr, req, wit, eIA, eIS, eUO, eNS, hq1, hq6, hq11, hq16, hq21, hq22]; done) | (simp [sp_fill, inr, req, wit, eIA, eIS, eUO, eNS, hq1, hq6, hq11, hq16, hq21, hq22]; rfl) | (simp only [sp_fill, inr, req, wit, eIA, eIS, eUO, eNS, hq1, hq6, hq11, hq16, hq21, hq22]; rfl))
            · refine k_callR (k_atV (As := [.int (nI j12)]) hx hb hown hE.1 (K0.w tw_239) (hts _ tw_236) (hts _ tw_238) (hts _ tw_9001) (hts _ tw_1) (by decide) np_FK_checkPageIsFree (va_recv hK hP (ci := nFK) (q0 := 0) rfl rfl) rfl d_FK_fillEntry_41) (kr_t hq22 (c_FK_checkPageIsFree K0 ad r σ j12 ok (by omega) )) (hl.1.trans hml.symm) (Nat.le_of_ble_eq_true rfl) ⟨Nat.le_of_ble_eq_true rfl, Nat.le_of_ble_eq_true rfl, Nat.le_of_ble_eq_true rfl, Nat.le_of_ble_eq_true rfl⟩ (fun U hU hW => ⟨hE.go hW hU hS, by rw [hU]; exact hP, hD⟩) ?_
              refine lv_aload_n hx hb d_FK_fillEntry_44 rfl (lv_at hl 0 rfl) ?_
              refine va_get (D := D) (ci := nFK) (v := .ref (ad 1)) (C := R_FK) (T := T_FK) (N := 4) hx hb hts i_FK hown hK hP 0 rfl rfl 0 (by decide) (hts _ tw_116) (fun _ h9 => h9) rfl d_FK_fillEntry_45 ?_
              refine lv_iload_n hx hb d_FK_fillEntry_48 rfl (lv_at hl 1 rfl) ?_
              refine lv_iload_n hx hb d_FK_fillEntry_49 rfl (lv_at hl 3 rfl) ?_
              refine k_callR (k_atV (As := [.int (nI j2), .int (nI j7)]) hx hb hown hE.1 (K0.w tw_302) (hts _ tw_299) (hts _ tw_300) (hts _ tw_301) (hts _ tw_2) (by decide) np_Mem_pageIn (va_recv hK hP (ci := nMem) (q0 := 1) rfl rfl) rfl d_FK_fillEntry_50) (c_Mem_pageIn K0 ad r σ j2 j7 (by omega) (by omega)) (hl.1.trans hml.symm) (Nat.le_of_ble_eq_true rfl) ⟨Nat.le_of_ble_eq_true rfl, Nat.le_of_ble_eq_true rfl, Nat.le_of_ble_eq_true rfl, Nat.le_of_ble_eq_true rfl⟩ (fun U hU hW => ⟨hE.go hW hU hS, by rw [hU]; exact hP, hD⟩) ?_
              have ho23 := o2 (j2 * 4 + j7) (by omega)
              refine lv_iconst (v := (pI 0)) hx hb d_FK_fillEntry_53 (by decide) ?_
              refine k_eqP (tgt := 68) (ok.b2 _ (by omega)) (by omega) hx hb d_FK_fillEntry_54 (by decide) (fun h24 => ?_) (fun h24 => ?_)
              · refine lv_iload_n hx hb d_FK_fillEntry_68 rfl (lv_at hl 2 rfl) ?_
                refine lv_iconst (v := (nI 1)) hx hb d_FK_fillEntry_69 (by decide) ?_
                refine k_neN (tgt := 77) (by decide) (by decide) hx hb d_FK_fillEntry_70 (by decide) (fun h9 => absurd h9 (by decide)) (fun _ => ?_)
                refine lv_iconst (v := (nI 2)) hx hb d_FK_fillEntry_73 (by decide) ?_
                refine lv_goto (tgt := 78) hx hb d_FK_fillEntry_74 (by decide) ?_
                refine lv_istore (lv' := [(6, .int (nI 2)), (0, .ref (ad 0)), (1, .int (nI j2)), (2, .int (nI 1)), (3, .int (nI j7)), (4, .int (nI j12)), (5, .int (nI j17))]) hx hb d_FK_fillEntry_78 hl (by decide) rfl (fun ls hl => ?_)
                refine lv_aload_n hx hb d_FK_fillEntry_80 rfl (lv_at hl 1 rfl) ?_
                refine va_get (D := D) (ci := nFK) (v := .ref (ad 1)) (C := R_FK) (T := T_FK) (N := 4) hx hb hts i_FK hown hK hP 0 rfl rfl 0 (by decide) (hts _ tw_116) (fun _ h9 => h9) rfl d_FK_fillEntry_81 ?_
                refine lv_iload hx hb d_FK_fillEntry_84 (lv_at hl 5 rfl) ?_
                refine lv_iload hx hb d_FK_fillEntry_86 (lv_at hl 0 rfl) ?_
                refine lv_aload_n hx hb d_FK_fillEntry_88 rfl (lv_at hl 1 rfl) ?_
                refine va_get (D := D) (ci := nFK) (v := .ref (ad 1)) (C := R_FK) (T := T_FK) (N := 4) hx hb hts i_FK hown hK hP 0 rfl rfl 0 (by decide) (hts _ tw_116) (fun _ h9 => h9) rfl d_FK_fillEntry_89 ?_
                refine lv_iload_n hx hb d_FK_fillEntry_92 rfl (lv_at hl 2 rfl) ?_
                refine k_callR (k_atV (As := [.int (nI j2)]) hx hb hown hE.1 (K0.w tw_270) (hts _ tw_267) (hts _ tw_268) (hts _ tw_269) (hts _ tw_2) (by decide) np_Mem_ownerOf (va_recv hK hP (ci := nMem) (q0 := 1) rfl rfl) rfl d_FK_fillEntry_93) (c_Mem_ownerOf K0 ad r σ j2 (by omega)) (hl.1.trans hml.symm) (Nat.le_of_ble_eq_true rfl) ⟨Nat.le_of_ble_eq_true rfl, Nat.le_of_ble_eq_true rfl, Nat.le_of_ble_eq_true rfl, Nat.le_of_ble_eq_true rfl⟩ (fun U hU hW => ⟨hE.go hW hU hS, by rw [hU]; exact hP, hD⟩) ?_
                have ho25 := o1 j2 (by omega)
                refine k_callW (k_atV (As := [.int (nI j12), .int (nI 2), .int (nI (σ.1 1 j2))]) hx hb hown hE.1 (K0.w tw_34) (hts _ tw_114) (hts _ tw_32) (hts _ tw_33) (hts _ tw_2) (by decide) np_Mem_become (va_recv hK hP (ci := nMem) (q0 := 1) rfl rfl) rfl d_FK_fillEntry_96) (c_Mem_become K0 ad r σ j12 2 (σ.1 1 j2) (by omega)) (hl.1.trans hml.symm) (Nat.le_of_ble_eq_true rfl) ⟨Nat.le_of_ble_eq_true rfl, Nat.le_of_ble_eq_true rfl, Nat.le_of_ble_eq_true rfl, Nat.le_of_ble_eq_true rfl⟩ (fun U hU hW => ⟨hE.go hW hU hS, by rw [hU]; exact hP, hD⟩) hS (fun H locs hP hD hS => ?_)
                obtain ⟨σ26, eσ26⟩ : ∃ z : kS, z = (m_become σ j12 2 (σ.1 1 j2)) := ⟨_, rfl⟩
                have hP : va_P D vwCl (wC ad cI r σ26) H := by rw [eσ26]; exact hP
                have hD : va_D (kA s0) (wC ad cI r σ26) := by rw [eσ26]; exact hD
                refine lv_aload_n hx hb d_FK_fillEntry_99 rfl (lv_at hl 1 rfl) ?_
                refine va_get (D := D) (ci := nFK) (v := .ref (ad 1)) (C := R_FK) (T := T_FK) (N := 4) hx hb hts i_FK hown hK hP 0 rfl rfl 0 (by decide) (hts _ tw_116) (fun _ h9 => h9) rfl d_FK_fillEntry_100 ?_
                refine lv_iload_n hx hb d_FK_fillEntry_103 rfl (lv_at hl 2 rfl) ?_
                refine lv_iload_n hx hb d_FK_fillEntry_104 rfl (lv_at hl 4 rfl) ?_
                refine lv_iload hx hb d_FK_fillEntry_105 (lv_at hl 5 rfl) ?_
                refine lv_iload hx hb d_FK_fillEntry_107 (lv_at hl 6 rfl) ?_
                refine k_st (st' := [.int (nI j17), .int (pI (j12 + 1)), .int (nI j7), .int (nI j2), .ref (ad 1)]) (by show ([.int (nI j17), .int (nI j12), .int (nI j7), .int (nI j2), .ref (ad 1)] : List Value) = _; simp only [pI_succ]) ?_
                refine k_callW (k_atV (As := [.int (nI j2), .int (nI j7), .int (pI (j12 + 1)), .int (nI j17)]) hx hb hown hE.1 (K0.w tw_42) (hts _ tw_304) (hts _ tw_40) (hts _ tw_41) (hts _ tw_2) (by decide) np_Mem_setEntry (va_recv hK hP (ci := nMem) (q0 := 1) rfl rfl) rfl d_FK_fillEntry_109) (c_Mem_setEntry K0 ad r σ26 j2 j7 (j12 + 1) j17 (by omega) (by omega)) (hl.1.trans hml.symm) (Nat.le_of_ble_eq_true rfl) ⟨Nat.le_of_ble_eq_true rfl, Nat.le_of_ble_eq_true rfl, Nat.le_of_ble_eq_true rfl, Nat.le_of_ble_eq_true rfl⟩ (fun U hU hW => ⟨hE.go hW hU hS, by rw [hU]; exact hP, hD⟩) hS (fun H locs hP hD hS => ?_)
                obtain ⟨σ27, eσ27⟩ : ∃ z : kS, z = (m_setEntry σ26 j2 j7 (j12 + 1) j17) := ⟨_, rfl⟩
                have hP : va_P D vwCl (wC ad cI r σ27) H := by rw [eσ27]; exact hP
                have hD : va_D (kA s0) (wC ad cI r σ27) := by rw [eσ27]; exact hD
                refine lv_iconst (v := (nI 1)) hx hb d_FK_fillEntry_112 (by decide) ?_
                exact k_retWI hx hb hr hlocks d_FK_fillEntry_113 hP hD hS (by subst eσ27 eσ26; first | rfl | (simp [sp_fill, inr, req, wit, eIA, eIS, eUO, eNS, hq1, hq6, hq11, hq16, hq21, hq22, h24]; done) | (simp [sp_fill, inr, req, wit, eIA, eIS, eUO, eNS, hq1, hq6, hq11, hq16, hq21, hq22, h24]; rfl) | (simp [sp_fill, inr, req, wit, eIA, eIS, eUO, eNS, hq1, hq6, hq11, hq16, hq21, hq22, beq_iff_eq.mpr h24]; done) | (simp [sp_fill, inr, req, wit, eIA, eIS, eUO, eNS, hq1, hq6, hq11, hq16, hq21, hq22, beq_iff_eq.mpr h24]; rfl) | (simp only [sp_fill, inr, req, wit, eIA, eIS, eUO, eNS, hq1, hq6, hq11, hq16, hq21, hq22, h24]; rfl))
              · exact k_throwW hx hb K0.tr hown (text := "the entry is not empty") (names := kNames) (by decide +kernel) (by decide +kernel) (hts _ tw_220) (hts _ tw_10) (K0.str hE sr_287) (K0.own hE oa_57) (hl.1.trans hml.symm) d_FK_fillEntry_57 d_FK_fillEntry_60 d_FK_fillEntry_61 d_FK_fillEntry_64 d_FK_fillEntry_67 hex hlocks ⟨Nat.le_of_ble_eq_true rfl, Nat.le_of_ble_eq_true rfl, Nat.le_of_ble_eq_true rfl, Nat.le_of_ble_eq_true rfl⟩ (by first | rfl | (simp [sp_fill, inr, req, wit, eIA, eIS, eUO, eNS, hq1, hq6, hq11, hq16, hq21, hq22, h24, beq_false_of_ne h24, bne_iff_ne.mpr h24]; done) | (simp [sp_fill, inr, req, wit, eIA, eIS, eUO, eNS, hq1, hq6, hq11, hq16, hq21, hq22, h24, beq_false_of_ne h24, bne_iff_ne.mpr h24]; rfl) | (simp [sp_fill, inr, req, wit, eIA, eIS, eUO, eNS, hq1, hq6, hq11, hq16, hq21, hq22, h24, beq_false_of_ne h24, bne_iff_ne.mpr h24]; done) | (simp [sp_fill, inr, req, wit, eIA, eIS, eUO, eNS, hq1, hq6, hq11, hq16, hq21, hq22, h24, beq_false_of_ne h24, bne_iff_ne.mpr h24]; rfl) | (simp only [sp_fill, inr, req, wit, eIA, eIS, eUO, eNS, hq1, hq6, hq11, hq16, hq21, hq22, h24, beq_false_of_ne h24, bne_iff_ne.mpr h24]; rfl))
set_option maxHeartbeats 4000000 in
set_option maxRecDepth 100000 in
theorem c_FK_fillEntry2 {l : Launch} {s0 : State} {a0 : Array Value} {D : va_G} {cI cL : ClassId} (K0 : k0 l s0 a0 D cI cL) (ad : Nat → Nat) (r : va_W) (σ : kS) (x : Int32) (y : Int32) (z : Int32) (w : Int32) (ok : kOk σ) : kMet l y_FK_fillEntry (Cond.code y_FK_fillEntry b_FK_fillEntry 7 (some .int)) (rmL 8) [.ref (ad 0), .int x, .int (nI 2), .int y, .int z, .int w] (kPre D vwCl s0 (wC ad cI r) σ) (sp_fill 2 σ x y z w) (kBw D vwCl s0 (wC ad cI r)) := by
  refine k_of (by decide) (Nat.le_of_ble_eq_true rfl) ?_
  intro p e9 s m below meth c hx hb hr hlocks hown hml hex hpre ls hl
  obtain ⟨hE, hP, hD⟩ := hpre
  obtain ⟨hts, hK⟩ := K0.at (args := ([.ref (ad 0), .int x, .int (nI 2), .int y, .int z, .int w] : List Value).toArray) hE
  have hl : lv_has ls 7 [(0, .ref (ad 0)), (1, .int x), (2, .int (nI 2)), (3, .int y), (4, .int z), (5, .int w)] := hl
  have hS : va_S (kA s0) s.heap s.heap [] := va_S.rf
  obtain ⟨o1, o2, o3, o4, o5, o6, o7, o8, o9, o10, o0, ⟨oc1, oc2⟩, oc3, or6⟩ := id ok
  have hr0 : σ.1 6 (σ.1 11 0) ≠ 0 := or6 _ oc2 (by omega)
  have hr1 : σ.1 6 (σ.1 11 0) < 21 := o6 _ oc2
  refine lv_iload_n hx hb d_FK_fillEntry_0 rfl (lv_at hl 1 rfl) ?_
  rcases hq1 : rg x 0 19 with _ | j2
  · exact k_callE (k_atS (As := [.int x]) hx hb hown hE.1 (K0.w tw_215) rfl k_w9 (hts _ tw_213) (hts _ tw_214) (hts _ tw_1) (by decide) np_FK_checkPage rfl d_FK_fillEntry_1) (kn_n hq1 (c_FK_checkPage K0 ad r σ x)) (hl.1.trans hml.symm) (Nat.le_of_ble_eq_true rfl) ⟨Nat.le_of_ble_eq_true rfl, Nat.le_of_ble_eq_true rfl, Nat.le_of_ble_eq_true rfl, Nat.le_of_ble_eq_true rfl⟩ (fun U hU hW => ⟨hE.go hW hU hS, by rw [hU]; exact hP, hD⟩) hex hlocks (by first | rfl | (simp [sp_fill, inr, req, wit, eIA, eIS, eUO, eNS, hq1]; done) | (simp [sp_fill, inr, req, wit, eIA, eIS, eUO, eNS, hq1]; rfl) | (simp [sp_fill, inr, req, wit, eIA, eIS, eUO, eNS, hq1]; done) | (simp [sp_fill, inr, req, wit, eIA, eIS, eUO, eNS, hq1]; rfl) | (simp only [sp_fill, inr, req, wit, eIA, eIS, eUO, eNS, hq1]; rfl))
  · refine k_callR (k_atS (As := [.int x]) hx hb hown hE.1 (K0.w tw_215) rfl k_w9 (hts _ tw_213) (hts _ tw_214) (hts _ tw_1) (by decide) np_FK_checkPage rfl d_FK_fillEntry_1) (kn_s hq1 (c_FK_checkPage K0 ad r σ x)) (hl.1.trans hml.symm) (Nat.le_of_ble_eq_true rfl) ⟨Nat.le_of_ble_eq_true rfl, Nat.le_of_ble_eq_true rfl, Nat.le_of_ble_eq_true rfl, Nat.le_of_ble_eq_true rfl⟩ (fun U hU hW => ⟨hE.go hW hU hS, by rw [hU]; exact hP, hD⟩) ?_
    obtain ⟨rfl, ha3, hb_4, hc_5⟩ := rg_some hq1
    refine lv_iload_n hx hb d_FK_fillEntry_4 rfl (lv_at hl 3 rfl) ?_
    rcases hq6 : rg y 0 3 with _ | j7
    · exact k_callE (k_atS (As := [.int y]) hx hb hown hE.1 (K0.w tw_259) rfl k_w9 (hts _ tw_257) (hts _ tw_258) (hts _ tw_1) (by decide) np_FK_checkEntry rfl d_FK_fillEntry_5) (kn_n hq6 (c_FK_checkEntry K0 ad r σ y)) (hl.1.trans hml.symm) (Nat.le_of_ble_eq_true rfl) ⟨Nat.le_of_ble_eq_true rfl, Nat.le_of_ble_eq_true rfl, Nat.le_of_ble_eq_true rfl, Nat.le_of_ble_eq_true rfl⟩ (fun U hU hW => ⟨hE.go hW hU hS, by rw [hU]; exact hP, hD⟩) hex hlocks (by first | rfl | (simp [sp_fill, inr, req, wit, eIA, eIS, eUO, eNS, hq1, hq6]; done) | (simp [sp_fill, inr, req, wit, eIA, eIS, eUO, eNS, hq1, hq6]; rfl) | (simp [sp_fill, inr, req, wit, eIA, eIS, eUO, eNS, hq1, hq6]; done) | (simp [sp_fill, inr, req, wit, eIA, eIS, eUO, eNS, hq1, hq6]; rfl) | (simp only [sp_fill, inr, req, wit, eIA, eIS, eUO, eNS, hq1, hq6]; rfl))
    · refine k_callR (k_atS (As := [.int y]) hx hb hown hE.1 (K0.w tw_259) rfl k_w9 (hts _ tw_257) (hts _ tw_258) (hts _ tw_1) (by decide) np_FK_checkEntry rfl d_FK_fillEntry_5) (kn_s hq6 (c_FK_checkEntry K0 ad r σ y)) (hl.1.trans hml.symm) (Nat.le_of_ble_eq_true rfl) ⟨Nat.le_of_ble_eq_true rfl, Nat.le_of_ble_eq_true rfl, Nat.le_of_ble_eq_true rfl, Nat.le_of_ble_eq_true rfl⟩ (fun U hU hW => ⟨hE.go hW hU hS, by rw [hU]; exact hP, hD⟩) ?_
      obtain ⟨rfl, ha8, hb_9, hc_10⟩ := rg_some hq6
      refine lv_iload hx hb d_FK_fillEntry_8 (lv_at hl 4 rfl) ?_
      rcases hq11 : rg z 0 19 with _ | j12
      · exact k_callE (k_atS (As := [.int z]) hx hb hown hE.1 (K0.w tw_215) rfl k_w9 (hts _ tw_213) (hts _ tw_214) (hts _ tw_1) (by decide) np_FK_checkPage rfl d_FK_fillEntry_10) (kn_n hq11 (c_FK_checkPage K0 ad r σ z)) (hl.1.trans hml.symm) (Nat.le_of_ble_eq_true rfl) ⟨Nat.le_of_ble_eq_true rfl, Nat.le_of_ble_eq_true rfl, Nat.le_of_ble_eq_true rfl, Nat.le_of_ble_eq_true rfl⟩ (fun U hU hW => ⟨hE.go hW hU hS, by rw [hU]; exact hP, hD⟩) hex hlocks (by first | rfl | (simp [sp_fill, inr, req, wit, eIA, eIS, eUO, eNS, hq1, hq6, hq11]; done) | (simp [sp_fill, inr, req, wit, eIA, eIS, eUO, eNS, hq1, hq6, hq11]; rfl) | (simp [sp_fill, inr, req, wit, eIA, eIS, eUO, eNS, hq1, hq6, hq11]; done) | (simp [sp_fill, inr, req, wit, eIA, eIS, eUO, eNS, hq1, hq6, hq11]; rfl) | (simp only [sp_fill, inr, req, wit, eIA, eIS, eUO, eNS, hq1, hq6, hq11]; rfl))
      · refine k_callR (k_atS (As := [.int z]) hx hb hown hE.1 (K0.w tw_215) rfl k_w9 (hts _ tw_213) (hts _ tw_214) (hts _ tw_1) (by decide) np_FK_checkPage rfl d_FK_fillEntry_10) (kn_s hq11 (c_FK_checkPage K0 ad r σ z)) (hl.1.trans hml.symm) (Nat.le_of_ble_eq_true rfl) ⟨Nat.le_of_ble_eq_true rfl, Nat.le_of_ble_eq_true rfl, Nat.le_of_ble_eq_true rfl, Nat.le_of_ble_eq_true rfl⟩ (fun U hU hW => ⟨hE.go hW hU hS, by rw [hU]; exact hP, hD⟩) ?_
        obtain ⟨rfl, ha13, hb_14, hc_15⟩ := rg_some hq11
        refine lv_iload hx hb d_FK_fillEntry_13 (lv_at hl 5 rfl) ?_
        rcases hq16 : rg w 1 3 with _ | j17
        · exact k_callE (k_atS (As := [.int w]) hx hb hown hE.1 (K0.w tw_262) rfl k_w9 (hts _ tw_260) (hts _ tw_261) (hts _ tw_1) (by decide) np_FK_checkRights rfl d_FK_fillEntry_15) (kn_n hq16 (c_FK_checkRights K0 ad r σ w)) (hl.1.trans hml.symm) (Nat.le_of_ble_eq_true rfl) ⟨Nat.le_of_ble_eq_true rfl, Nat.le_of_ble_eq_true rfl, Nat.le_of_ble_eq_true rfl, Nat.le_of_ble_eq_true rfl⟩ (fun U hU hW => ⟨hE.go hW hU hS, by rw [hU]; exact hP, hD⟩) hex hlocks (by first | rfl | (simp [sp_fill, inr, req, wit, eIA, eIS, eUO, eNS, hq1, hq6, hq11, hq16]; done) | (simp [sp_fill, inr, req, wit, eIA, eIS, eUO, eNS, hq1, hq6, hq11, hq16]; rfl) | (simp [sp_fill, inr, req, wit, eIA, eIS, eUO, eNS, hq1, hq6, hq11, hq16]; done) | (simp [sp_fill, inr, req, wit, eIA, eIS, eUO, eNS, hq1, hq6, hq11, hq16]; rfl) | (simp only [sp_fill, inr, req, wit, eIA, eIS, eUO, eNS, hq1, hq6, hq11, hq16]; rfl))
        · refine k_callR (k_atS (As := [.int w]) hx hb hown hE.1 (K0.w tw_262) rfl k_w9 (hts _ tw_260) (hts _ tw_261) (hts _ tw_1) (by decide) np_FK_checkRights rfl d_FK_fillEntry_15) (kn_s hq16 (c_FK_checkRights K0 ad r σ w)) (hl.1.trans hml.symm) (Nat.le_of_ble_eq_true rfl) ⟨Nat.le_of_ble_eq_true rfl, Nat.le_of_ble_eq_true rfl, Nat.le_of_ble_eq_true rfl, Nat.le_of_ble_eq_true rfl⟩ (fun U hU hW => ⟨hE.go hW hU hS, by rw [hU]; exact hP, hD⟩) ?_
          obtain ⟨rfl, ha18, hb_19, hc_20⟩ := rg_some hq16
          refine lv_aload_n hx hb d_FK_fillEntry_18 rfl (lv_at hl 0 rfl) ?_
          refine lv_iload_n hx hb d_FK_fillEntry_19 rfl (lv_at hl 1 rfl) ?_
          refine lv_iload_n hx hb d_FK_fillEntry_20 rfl (lv_at hl 2 rfl) ?_
          rcases hq21 : mpage σ j2 2 with _ | _
          · refine k_callR (k_atV (As := [.int (nI j2), .int (nI 2)]) hx hb hown hE.1 (K0.w tw_266) (hts _ tw_263) (hts _ tw_265) (hts _ tw_9003) (hts _ tw_1) (by decide) np_FK_isMyPage (va_recv hK hP (ci := nFK) (q0 := 0) rfl rfl) rfl d_FK_fillEntry_21) (kb_f hq21 (c_FK_isMyPage K0 ad r σ j2 2 ok (by omega) (by omega))) (hl.1.trans hml.symm) (Nat.le_of_ble_eq_true rfl) ⟨Nat.le_of_ble_eq_true rfl, Nat.le_of_ble_eq_true rfl, Nat.le_of_ble_eq_true rfl, Nat.le_of_ble_eq_true rfl⟩ (fun U hU hW => ⟨hE.go hW hU hS, by rw [hU]; exact hP, hD⟩) ?_
            refine k_ifN0 (tgt := 38) (by decide) hx hb d_FK_fillEntry_24 (by decide) (fun h9 => absurd h9 (by decide)) (fun _ => ?_)
            exact k_throwW hx hb K0.tr hown (text := "the holder is of another kind or not the caller's") (names := kNames) (by decide +kernel) (by decide +kernel) (hts _ tw_283) (hts _ tw_11) (K0.str hE sr_285) (K0.own hE oa_95) (hl.1.trans hml.symm) d_FK_fillEntry_27 d_FK_fillEntry_30 d_FK_fillEntry_31 d_FK_fillEntry_34 d_FK_fillEntry_37 hex hlocks ⟨Nat.le_of_ble_eq_true rfl, Nat.le_of_ble_eq_true rfl, Nat.le_of_ble_eq_true rfl, Nat.le_of_ble_eq_true rfl⟩ (by first | rfl | (simp [sp_fill, inr, req, wit, eIA, eIS, eUO, eNS, hq1, hq6, hq11, hq16, hq21]; done) | (simp [sp_fill, inr, req, wit, eIA, eIS, eUO, eNS, hq1, hq6, hq11, hq16, hq21]; rfl) | (simp [sp_fill, inr, req, wit, eIA, eIS, eUO, eNS, hq1, hq6, hq11, hq16, hq21]; done) | (simp [sp_fill, inr, req, wit, eIA, eIS, eUO, eNS, hq1, hq6, hq11, hq16, hq21]; rfl) | (simp only [sp_fill, inr, req, wit, eIA, eIS, eUO, eNS, hq1, hq6, hq11, hq16, hq21]; rfl))
          · refine k_callR (k_atV (As := [.int (nI j2), .int (nI 2)]) hx hb hown hE.1 (K0.w tw_266) (hts _ tw_263) (hts _ tw_265) (hts _ tw_9003) (hts _ tw_1) (by decide) np_FK_isMyPage (va_recv hK hP (ci := nFK) (q0 := 0) rfl rfl) rfl d_FK_fillEntry_21) (kb_t hq21 (c_FK_isMyPage K0 ad r σ j2 2 ok (by omega) (by omega))) (hl.1.trans hml.symm) (Nat.le_of_ble_eq_true rfl) ⟨Nat.le_of_ble_eq_true rfl, Nat.le_of_ble_eq_true rfl, Nat.le_of_ble_eq_true rfl, Nat.le_of_ble_eq_true rfl⟩ (fun U hU hW => ⟨hE.go hW hU hS, by rw [hU]; exact hP, hD⟩) ?_
            refine k_ifN0 (tgt := 38) (by decide) hx hb d_FK_fillEntry_24 (by decide) (fun _ => ?_) (fun h9 => absurd h9 (by decide))
            refine lv_aload_n hx hb d_FK_fillEntry_38 rfl (lv_at hl 0 rfl) ?_
            refine lv_iload hx hb d_FK_fillEntry_39 (lv_at hl 4 rfl) ?_
            rcases hq22 : (σ.1 0 j12 == 0) with _ | _
            · exact k_callE (k_atV (As := [.int (nI j12)]) hx hb hown hE.1 (K0.w tw_239) (hts _ tw_236) (hts _ tw_238) (hts _ tw_9001) (hts _ tw_1) (by decide) np_FK_checkPageIsFree (va_recv hK hP (ci := nFK) (q0 := 0) rfl rfl) rfl d_FK_fillEntry_41) (kr_f hq22 (c_FK_checkPageIsFree K0 ad r σ j12 ok (by omega) )) (hl.1.trans hml.symm) (Nat.le_of_ble_eq_true rfl) ⟨Nat.le_of_ble_eq_true rfl, Nat.le_of_ble_eq_true rfl, Nat.le_of_ble_eq_true rfl, Nat.le_of_ble_eq_true rfl⟩ (fun U hU hW => ⟨hE.go hW hU hS, by rw [hU]; exact hP, hD⟩) hex hlocks (by first | rfl | (simp [sp_fill, inr, req, wit, eIA, eIS, eUO, eNS, hq1, hq6, hq11, hq16, hq21, hq22]; done) | (simp [sp_fill, inr, req, wit, eIA, eIS, eUO, eNS, hq1, hq6, hq11, hq16, hq21, hq22]; rfl) | (simp [sp_fill, inr, req, wit, eIA, eIS, eUO, eNS, hq1, hq6, hq11, hq16, hq21, hq22]; done) | (simp [sp_fill, inr, req, wit, eIA, eIS, eUO, eNS, hq1, hq6, hq11, hq16, hq21, hq22]; rfl) | (simp only [sp_fill, inr, req, wit, eIA, eIS, eUO, eNS, hq1, hq6, hq11, hq16, hq21, hq22]; rfl))
            · refine k_callR (k_atV (As := [.int (nI j12)]) hx hb hown hE.1 (K0.w tw_239) (hts _ tw_236) (hts _ tw_238) (hts _ tw_9001) (hts _ tw_1) (by decide) np_FK_checkPageIsFree (va_recv hK hP (ci := nFK) (q0 := 0) rfl rfl) rfl d_FK_fillEntry_41) (kr_t hq22 (c_FK_checkPageIsFree K0 ad r σ j12 ok (by omega) )) (hl.1.trans hml.symm) (Nat.le_of_ble_eq_true rfl) ⟨Nat.le_of_ble_eq_true rfl, Nat.le_of_ble_eq_true rfl, Nat.le_of_ble_eq_true rfl, Nat.le_of_ble_eq_true rfl⟩ (fun U hU hW => ⟨hE.go hW hU hS, by rw [hU]; exact hP, hD⟩) ?_
              refine lv_aload_n hx hb d_FK_fillEntry_44 rfl (lv_at hl 0 rfl) ?_
              refine va_get (D := D) (ci := nFK) (v := .ref (ad 1)) (C := R_FK) (T := T_FK) (N := 4) hx hb hts i_FK hown hK hP 0 rfl rfl 0 (by decide) (hts _ tw_116) (fun _ h9 => h9) rfl d_FK_fillEntry_45 ?_
              refine lv_iload_n hx hb d_FK_fillEntry_48 rfl (lv_at hl 1 rfl) ?_
              refine lv_iload_n hx hb d_FK_fillEntry_49 rfl (lv_at hl 3 rfl) ?_
              refine k_callR (k_atV (As := [.int (nI j2), .int (nI j7)]) hx hb hown hE.1 (K0.w tw_302) (hts _ tw_299) (hts _ tw_300) (hts _ tw_301) (hts _ tw_2) (by decide) np_Mem_pageIn (va_recv hK hP (ci := nMem) (q0 := 1) rfl rfl) rfl d_FK_fillEntry_50) (c_Mem_pageIn K0 ad r σ j2 j7 (by omega) (by omega)) (hl.1.trans hml.symm) (Nat.le_of_ble_eq_true rfl) ⟨Nat.le_of_ble_eq_true rfl, Nat.le_of_ble_eq_true rfl, Nat.le_of_ble_eq_true rfl, Nat.le_of_ble_eq_true rfl⟩ (fun U hU hW => ⟨hE.go hW hU hS, by rw [hU]; exact hP, hD⟩) ?_
              have ho23 := o2 (j2 * 4 + j7) (by omega)
              refine lv_iconst (v := (pI 0)) hx hb d_FK_fillEntry_53 (by decide) ?_
              refine k_eqP (tgt := 68) (ok.b2 _ (by omega)) (by omega) hx hb d_FK_fillEntry_54 (by decide) (fun h24 => ?_) (fun h24 => ?_)
              · refine lv_iload_n hx hb d_FK_fillEntry_68 rfl (lv_at hl 2 rfl) ?_
                refine lv_iconst (v := (nI 1)) hx hb d_FK_fillEntry_69 (by decide) ?_
                refine k_neN (tgt := 77) (by decide) (by decide) hx hb d_FK_fillEntry_70 (by decide) (fun _ => ?_) (fun h9 => absurd h9 (by decide))
                refine lv_iconst (v := (nI 3)) hx hb d_FK_fillEntry_77 (by decide) ?_
                refine lv_istore (lv' := [(6, .int (nI 3)), (0, .ref (ad 0)), (1, .int (nI j2)), (2, .int (nI 2)), (3, .int (nI j7)), (4, .int (nI j12)), (5, .int (nI j17))]) hx hb d_FK_fillEntry_78 hl (by decide) rfl (fun ls hl => ?_)
                refine lv_aload_n hx hb d_FK_fillEntry_80 rfl (lv_at hl 1 rfl) ?_
                refine va_get (D := D) (ci := nFK) (v := .ref (ad 1)) (C := R_FK) (T := T_FK) (N := 4) hx hb hts i_FK hown hK hP 0 rfl rfl 0 (by decide) (hts _ tw_116) (fun _ h9 => h9) rfl d_FK_fillEntry_81 ?_
                refine lv_iload hx hb d_FK_fillEntry_84 (lv_at hl 5 rfl) ?_
                refine lv_iload hx hb d_FK_fillEntry_86 (lv_at hl 0 rfl) ?_
                refine lv_aload_n hx hb d_FK_fillEntry_88 rfl (lv_at hl 1 rfl) ?_
                refine va_get (D := D) (ci := nFK) (v := .ref (ad 1)) (C := R_FK) (T := T_FK) (N := 4) hx hb hts i_FK hown hK hP 0 rfl rfl 0 (by decide) (hts _ tw_116) (fun _ h9 => h9) rfl d_FK_fillEntry_89 ?_
                refine lv_iload_n hx hb d_FK_fillEntry_92 rfl (lv_at hl 2 rfl) ?_
                refine k_callR (k_atV (As := [.int (nI j2)]) hx hb hown hE.1 (K0.w tw_270) (hts _ tw_267) (hts _ tw_268) (hts _ tw_269) (hts _ tw_2) (by decide) np_Mem_ownerOf (va_recv hK hP (ci := nMem) (q0 := 1) rfl rfl) rfl d_FK_fillEntry_93) (c_Mem_ownerOf K0 ad r σ j2 (by omega)) (hl.1.trans hml.symm) (Nat.le_of_ble_eq_true rfl) ⟨Nat.le_of_ble_eq_true rfl, Nat.le_of_ble_eq_true rfl, Nat.le_of_ble_eq_true rfl, Nat.le_of_ble_eq_true rfl⟩ (fun U hU hW => ⟨hE.go hW hU hS, by rw [hU]; exact hP, hD⟩) ?_
                have ho25 := o1 j2 (by omega)
                refine k_callW (k_atV (As := [.int (nI j12), .int (nI 3), .int (nI (σ.1 1 j2))]) hx hb hown hE.1 (K0.w tw_34) (hts _ tw_114) (hts _ tw_32) (hts _ tw_33) (hts _ tw_2) (by decide) np_Mem_become (va_recv hK hP (ci := nMem) (q0 := 1) rfl rfl) rfl d_FK_fillEntry_96) (c_Mem_become K0 ad r σ j12 3 (σ.1 1 j2) (by omega)) (hl.1.trans hml.symm) (Nat.le_of_ble_eq_true rfl) ⟨Nat.le_of_ble_eq_true rfl, Nat.le_of_ble_eq_true rfl, Nat.le_of_ble_eq_true rfl, Nat.le_of_ble_eq_true rfl⟩ (fun U hU hW => ⟨hE.go hW hU hS, by rw [hU]; exact hP, hD⟩) hS (fun H locs hP hD hS => ?_)
                obtain ⟨σ26, eσ26⟩ : ∃ z : kS, z = (m_become σ j12 3 (σ.1 1 j2)) := ⟨_, rfl⟩
                have hP : va_P D vwCl (wC ad cI r σ26) H := by rw [eσ26]; exact hP
                have hD : va_D (kA s0) (wC ad cI r σ26) := by rw [eσ26]; exact hD
                refine lv_aload_n hx hb d_FK_fillEntry_99 rfl (lv_at hl 1 rfl) ?_
                refine va_get (D := D) (ci := nFK) (v := .ref (ad 1)) (C := R_FK) (T := T_FK) (N := 4) hx hb hts i_FK hown hK hP 0 rfl rfl 0 (by decide) (hts _ tw_116) (fun _ h9 => h9) rfl d_FK_fillEntry_100 ?_
                refine lv_iload_n hx hb d_FK_fillEntry_103 rfl (lv_at hl 2 rfl) ?_
                refine lv_iload_n hx hb d_FK_fillEntry_104 rfl (lv_at hl 4 rfl) ?_
                refine lv_iload hx hb d_FK_fillEntry_105 (lv_at hl 5 rfl) ?_
                refine lv_iload hx hb d_FK_fillEntry_107 (lv_at hl 6 rfl) ?_
                refine k_st (st' := [.int (nI j17), .int (pI (j12 + 1)), .int (nI j7), .int (nI j2), .ref (ad 1)]) (by show ([.int (nI j17), .int (nI j12), .int (nI j7), .int (nI j2), .ref (ad 1)] : List Value) = _; simp only [pI_succ]) ?_
                refine k_callW (k_atV (As := [.int (nI j2), .int (nI j7), .int (pI (j12 + 1)), .int (nI j17)]) hx hb hown hE.1 (K0.w tw_42) (hts _ tw_304) (hts _ tw_40) (hts _ tw_41) (hts _ tw_2) (by decide) np_Mem_setEntry (va_recv hK hP (ci := nMem) (q0 := 1) rfl rfl) rfl d_FK_fillEntry_109) (c_Mem_setEntry K0 ad r σ26 j2 j7 (j12 + 1) j17 (by omega) (by omega)) (hl.1.trans hml.symm) (Nat.le_of_ble_eq_true rfl) ⟨Nat.le_of_ble_eq_true rfl, Nat.le_of_ble_eq_true rfl, Nat.le_of_ble_eq_true rfl, Nat.le_of_ble_eq_true rfl⟩ (fun U hU hW => ⟨hE.go hW hU hS, by rw [hU]; exact hP, hD⟩) hS (fun H locs hP hD hS => ?_)
                obtain ⟨σ27, eσ27⟩ : ∃ z : kS, z = (m_setEntry σ26 j2 j7 (j12 + 1) j17) := ⟨_, rfl⟩
                have hP : va_P D vwCl (wC ad cI r σ27) H := by rw [eσ27]; exact hP
                have hD : va_D (kA s0) (wC ad cI r σ27) := by rw [eσ27]; exact hD
                refine lv_iconst (v := (nI 1)) hx hb d_FK_fillEntry_112 (by decide) ?_
                exact k_retWI hx hb hr hlocks d_FK_fillEntry_113 hP hD hS (by subst eσ27 eσ26; first | rfl | (simp [sp_fill, inr, req, wit, eIA, eIS, eUO, eNS, hq1, hq6, hq11, hq16, hq21, hq22, h24]; done) | (simp [sp_fill, inr, req, wit, eIA, eIS, eUO, eNS, hq1, hq6, hq11, hq16, hq21, hq22, h24]; rfl) | (simp [sp_fill, inr, req, wit, eIA, eIS, eUO, eNS, hq1, hq6, hq11, hq16, hq21, hq22, beq_iff_eq.mpr h24]; done) | (simp [sp_fill, inr, req, wit, eIA, eIS, eUO, eNS, hq1, hq6, hq11, hq16, hq21, hq22, beq_iff_eq.mpr h24]; rfl) | (simp only [sp_fill, inr, req, wit, eIA, eIS, eUO, eNS, hq1, hq6, hq11, hq16, hq21, hq22, h24]; rfl))
              · exact k_throwW hx hb K0.tr hown (text := "the entry is not empty") (names := kNames) (by decide +kernel) (by decide +kernel) (hts _ tw_220) (hts _ tw_10) (K0.str hE sr_287) (K0.own hE oa_57) (hl.1.trans hml.symm) d_FK_fillEntry_57 d_FK_fillEntry_60 d_FK_fillEntry_61 d_FK_fillEntry_64 d_FK_fillEntry_67 hex hlocks ⟨Nat.le_of_ble_eq_true rfl, Nat.le_of_ble_eq_true rfl, Nat.le_of_ble_eq_true rfl, Nat.le_of_ble_eq_true rfl⟩ (by first | rfl | (simp [sp_fill, inr, req, wit, eIA, eIS, eUO, eNS, hq1, hq6, hq11, hq16, hq21, hq22, h24, beq_false_of_ne h24, bne_iff_ne.mpr h24]; done) | (simp [sp_fill, inr, req, wit, eIA, eIS, eUO, eNS, hq1, hq6, hq11, hq16, hq21, hq22, h24, beq_false_of_ne h24, bne_iff_ne.mpr h24]; rfl) | (simp [sp_fill, inr, req, wit, eIA, eIS, eUO, eNS, hq1, hq6, hq11, hq16, hq21, hq22, h24, beq_false_of_ne h24, bne_iff_ne.mpr h24]; done) | (simp [sp_fill, inr, req, wit, eIA, eIS, eUO, eNS, hq1, hq6, hq11, hq16, hq21, hq22, h24, beq_false_of_ne h24, bne_iff_ne.mpr h24]; rfl) | (simp only [sp_fill, inr, req, wit, eIA, eIS, eUO, eNS, hq1, hq6, hq11, hq16, hq21, hq22, h24, beq_false_of_ne h24, bne_iff_ne.mpr h24]; rfl))
set_option maxHeartbeats 4000000 in
set_option maxRecDepth 100000 in
theorem c_FK_table {l : Launch} {s0 : State} {a0 : Array Value} {D : va_G} {cI cL : ClassId} (K0 : k0 l s0 a0 D cI cL) (ad : Nat → Nat) (r : va_W) (σ : kS) (x : Int32) (y : Int32) (z : Int32) (w : Int32) (ok : kOk σ) : kMet l y_FK_table (Cond.code y_FK_table b_FK_table 5 (some .int)) (rmL 9) [.ref (ad 0), .int x, .int y, .int z, .int w] (kPre D vwCl s0 (wC ad cI r) σ) (sp_fill 1 σ x y z w) (kBw D vwCl s0 (wC ad cI r)) := by
  refine k_of (by decide) (Nat.le_of_ble_eq_true rfl) ?_
  intro p e9 s m below meth c hx hb hr hlocks hown hml hex hpre ls hl
  obtain ⟨hE, hP, hD⟩ := hpre
  obtain ⟨hts, hK⟩ := K0.at (args := ([.ref (ad 0), .int x, .int y, .int z, .int w] : List Value).toArray) hE
  have hl : lv_has ls 5 [(0, .ref (ad 0)), (1, .int x), (2, .int y), (3, .int z), (4, .int w)] := hl
  have hS : va_S (kA s0) s.heap s.heap [] := va_S.rf
  obtain ⟨o1, o2, o3, o4, o5, o6, o7, o8, o9, o10, o0, ⟨oc1, oc2⟩, oc3, or6⟩ := id ok
  have hr0 : σ.1 6 (σ.1 11 0) ≠ 0 := or6 _ oc2 (by omega)
  have hr1 : σ.1 6 (σ.1 11 0) < 21 := o6 _ oc2
  refine lv_aload_n hx hb d_FK_table_0 rfl (lv_at hl 0 rfl) ?_
  refine lv_iload_n hx hb d_FK_table_1 rfl (lv_at hl 1 rfl) ?_
  refine lv_iconst (v := (nI 1)) hx hb d_FK_table_2 (by decide) ?_
  refine lv_iload_n hx hb d_FK_table_3 rfl (lv_at hl 2 rfl) ?_
  refine lv_iload_n hx hb d_FK_table_4 rfl (lv_at hl 3 rfl) ?_
  refine lv_iload hx hb d_FK_table_5 (lv_at hl 4 rfl) ?_
  rcases hq1 : sp_fill 1 σ x y z w with E1 | ⟨v1, u1⟩
  · exact k_callE (k_atV (As := [.int x, .int (nI 1), .int y, .int z, .int w]) hx hb hown hE.1 (K0.w tw_256) (hts _ tw_253) (hts _ tw_255) (hts _ tw_9002) (hts _ tw_1) (by decide) np_FK_fillEntry (va_recv hK hP (ci := nFK) (q0 := 0) rfl rfl) rfl d_FK_table_7) (kq_e hq1 (c_FK_fillEntry1 K0 ad r σ x y z w ok)) (hl.1.trans hml.symm) (Nat.le_of_ble_eq_true rfl) ⟨Nat.le_of_ble_eq_true rfl, Nat.le_of_ble_eq_true rfl, Nat.le_of_ble_eq_true rfl, Nat.le_of_ble_eq_true rfl⟩ (fun U hU hW => ⟨hE.go hW hU hS, by rw [hU]; exact hP, hD⟩) hex hlocks (by first | rfl | (simp [sp_table, inr, req, wit, eIA, eIS, eUO, eNS, hq1]; done) | (simp [sp_table, inr, req, wit, eIA, eIS, eUO, eNS, hq1]; rfl) | (simp [sp_table, inr, req, wit, eIA, eIS, eUO, eNS, hq1]; done) | (simp [sp_table, inr, req, wit, eIA, eIS, eUO, eNS, hq1]; rfl) | (simp only [sp_table, inr, req, wit, eIA, eIS, eUO, eNS, hq1]; rfl))
  · obtain rfl := sp_fill_v hq1
    refine k_callW (k_atV (As := [.int x, .int (nI 1), .int y, .int z, .int w]) hx hb hown hE.1 (K0.w tw_256) (hts _ tw_253) (hts _ tw_255) (hts _ tw_9002) (hts _ tw_1) (by decide) np_FK_fillEntry (va_recv hK hP (ci := nFK) (q0 := 0) rfl rfl) rfl d_FK_table_7) (kq_o hq1 (c_FK_fillEntry1 K0 ad r σ x y z w ok)) (hl.1.trans hml.symm) (Nat.le_of_ble_eq_true rfl) ⟨Nat.le_of_ble_eq_true rfl, Nat.le_of_ble_eq_true rfl, Nat.le_of_ble_eq_true rfl, Nat.le_of_ble_eq_true rfl⟩ (fun U hU hW => ⟨hE.go hW hU hS, by rw [hU]; exact hP, hD⟩) hS (fun H locs hP hD hS => ?_)
    obtain ⟨σ2, eσ2⟩ : ∃ z : kS, z = u1 := ⟨_, rfl⟩
    have hP : va_P D vwCl (wC ad cI r σ2) H := by rw [eσ2]; exact hP
    have hD : va_D (kA s0) (wC ad cI r σ2) := by rw [eσ2]; exact hD
    exact k_retWI hx hb hr hlocks d_FK_table_10 hP hD hS (by subst eσ2; first | rfl | (simp [sp_table, inr, req, wit, eIA, eIS, eUO, eNS, hq1]; done) | (simp [sp_table, inr, req, wit, eIA, eIS, eUO, eNS, hq1]; rfl) | (simp [sp_table, inr, req, wit, eIA, eIS, eUO, eNS, hq1]; done) | (simp [sp_table, inr, req, wit, eIA, eIS, eUO, eNS, hq1]; rfl) | (simp only [sp_table, inr, req, wit, eIA, eIS, eUO, eNS, hq1]; rfl))
set_option maxHeartbeats 4000000 in
set_option maxRecDepth 100000 in
theorem c_FK_frame {l : Launch} {s0 : State} {a0 : Array Value} {D : va_G} {cI cL : ClassId} (K0 : k0 l s0 a0 D cI cL) (ad : Nat → Nat) (r : va_W) (σ : kS) (x : Int32) (y : Int32) (z : Int32) (w : Int32) (ok : kOk σ) : kMet l y_FK_frame (Cond.code y_FK_frame b_FK_frame 5 (some .int)) (rmL 9) [.ref (ad 0), .int x, .int y, .int z, .int w] (kPre D vwCl s0 (wC ad cI r) σ) (sp_fill 2 σ x y z w) (kBw D vwCl s0 (wC ad cI r)) := by
  refine k_of (by decide) (Nat.le_of_ble_eq_true rfl) ?_
  intro p e9 s m below meth c hx hb hr hlocks hown hml hex hpre ls hl
  obtain ⟨hE, hP, hD⟩ := hpre
  obtain ⟨hts, hK⟩ := K0.at (args := ([.ref (ad 0), .int x, .int y, .int z, .int w] : List Value).toArray) hE
  have hl : lv_has ls 5 [(0, .ref (ad 0)), (1, .int x), (2, .int y), (3, .int z), (4, .int w)] := hl
  have hS : va_S (kA s0) s.heap s.heap [] := va_S.rf
  obtain ⟨o1, o2, o3, o4, o5, o6, o7, o8, o9, o10, o0, ⟨oc1, oc2⟩, oc3, or6⟩ := id ok
  have hr0 : σ.1 6 (σ.1 11 0) ≠ 0 := or6 _ oc2 (by omega)
  have hr1 : σ.1 6 (σ.1 11 0) < 21 := o6 _ oc2
  refine lv_aload_n hx hb d_FK_frame_0 rfl (lv_at hl 0 rfl) ?_
  refine lv_iload_n hx hb d_FK_frame_1 rfl (lv_at hl 1 rfl) ?_
  refine lv_iconst (v := (nI 2)) hx hb d_FK_frame_2 (by decide) ?_
  refine lv_iload_n hx hb d_FK_frame_3 rfl (lv_at hl 2 rfl) ?_
  refine lv_iload_n hx hb d_FK_frame_4 rfl (lv_at hl 3 rfl) ?_
  refine lv_iload hx hb d_FK_frame_5 (lv_at hl 4 rfl) ?_
  rcases hq1 : sp_fill 2 σ x y z w with E1 | ⟨v1, u1⟩
  · exact k_callE (k_atV (As := [.int x, .int (nI 2), .int y, .int z, .int w]) hx hb hown hE.1 (K0.w tw_256) (hts _ tw_253) (hts _ tw_255) (hts _ tw_9002) (hts _ tw_1) (by decide) np_FK_fillEntry (va_recv hK hP (ci := nFK) (q0 := 0) rfl rfl) rfl d_FK_frame_7) (kq_e hq1 (c_FK_fillEntry2 K0 ad r σ x y z w ok)) (hl.1.trans hml.symm) (Nat.le_of_ble_eq_true rfl) ⟨Nat.le_of_ble_eq_true rfl, Nat.le_of_ble_eq_true rfl, Nat.le_of_ble_eq_true rfl, Nat.le_of_ble_eq_true rfl⟩ (fun U hU hW => ⟨hE.go hW hU hS, by rw [hU]; exact hP, hD⟩) hex hlocks (by first | rfl | (simp [sp_frame, inr, req, wit, eIA, eIS, eUO, eNS, hq1]; done) | (simp [sp_frame, inr, req, wit, eIA, eIS, eUO, eNS, hq1]; rfl) | (simp [sp_frame, inr, req, wit, eIA, eIS, eUO, eNS, hq1]; done) | (simp [sp_frame, inr, req, wit, eIA, eIS, eUO, eNS, hq1]; rfl) | (simp only [sp_frame, inr, req, wit, eIA, eIS, eUO, eNS, hq1]; rfl))
  · obtain rfl := sp_fill_v hq1
    refine k_callW (k_atV (As := [.int x, .int (nI 2), .int y, .int z, .int w]) hx hb hown hE.1 (K0.w tw_256) (hts _ tw_253) (hts _ tw_255) (hts _ tw_9002) (hts _ tw_1) (by decide) np_FK_fillEntry (va_recv hK hP (ci := nFK) (q0 := 0) rfl rfl) rfl d_FK_frame_7) (kq_o hq1 (c_FK_fillEntry2 K0 ad r σ x y z w ok)) (hl.1.trans hml.symm) (Nat.le_of_ble_eq_true rfl) ⟨Nat.le_of_ble_eq_true rfl, Nat.le_of_ble_eq_true rfl, Nat.le_of_ble_eq_true rfl, Nat.le_of_ble_eq_true rfl⟩ (fun U hU hW => ⟨hE.go hW hU hS, by rw [hU]; exact hP, hD⟩) hS (fun H locs hP hD hS => ?_)
    obtain ⟨σ2, eσ2⟩ : ∃ z : kS, z = u1 := ⟨_, rfl⟩
    have hP : va_P D vwCl (wC ad cI r σ2) H := by rw [eσ2]; exact hP
    have hD : va_D (kA s0) (wC ad cI r σ2) := by rw [eσ2]; exact hD
    exact k_retWI hx hb hr hlocks d_FK_frame_10 hP hD hS (by subst eσ2; first | rfl | (simp [sp_frame, inr, req, wit, eIA, eIS, eUO, eNS, hq1]; done) | (simp [sp_frame, inr, req, wit, eIA, eIS, eUO, eNS, hq1]; rfl) | (simp [sp_frame, inr, req, wit, eIA, eIS, eUO, eNS, hq1]; done) | (simp [sp_frame, inr, req, wit, eIA, eIS, eUO, eNS, hq1]; rfl) | (simp only [sp_frame, inr, req, wit, eIA, eIS, eUO, eNS, hq1]; rfl))
set_option maxHeartbeats 4000000 in
set_option maxRecDepth 100000 in
theorem c_FK_protect {l : Launch} {s0 : State} {a0 : Array Value} {D : va_G} {cI cL : ClassId} (K0 : k0 l s0 a0 D cI cL) (ad : Nat → Nat) (r : va_W) (σ : kS) (x : Int32) (y : Int32) (z : Int32) (ok : kOk σ) : kMet l y_FK_protect (Cond.code y_FK_protect b_FK_protect 5 (some .int)) (rmL 8) [.ref (ad 0), .int x, .int y, .int z] (kPre D vwCl s0 (wC ad cI r) σ) (sp_protect σ x y z) (kBw D vwCl s0 (wC ad cI r)) := by
  refine k_of (by decide) (Nat.le_of_ble_eq_true rfl) ?_
  intro p e9 s m below meth c hx hb hr hlocks hown hml hex hpre ls hl
  obtain ⟨hE, hP, hD⟩ := hpre
  obtain ⟨hts, hK⟩ := K0.at (args := ([.ref (ad 0), .int x, .int y, .int z] : List Value).toArray) hE
  have hl : lv_has ls 5 [(0, .ref (ad 0)), (1, .int x), (2, .int y), (3, .int z)] := hl
  have hS : va_S (kA s0) s.heap s.heap [] := va_S.rf
  obtain ⟨o1, o2, o3, o4, o5, o6, o7, o8, o9, o10, o0, ⟨oc1, oc2⟩, oc3, or6⟩ := id ok
  have hr0 : σ.1 6 (σ.1 11 0) ≠ 0 := or6 _ oc2 (by omega)
  have hr1 : σ.1 6 (σ.1 11 0) < 21 := o6 _ oc2
  refine lv_iload_n hx hb d_FK_protect_0 rfl (lv_at hl 1 rfl) ?_
  rcases hq1 : rg x 0 19 with _ | j2
  · exact k_callE (k_atS (As := [.int x]) hx hb hown hE.1 (K0.w tw_215) rfl k_w9 (hts _ tw_213) (hts _ tw_214) (hts _ tw_1) (by decide) np_FK_checkPage rfl d_FK_protect_1) (kn_n hq1 (c_FK_checkPage K0 ad r σ x)) (hl.1.trans hml.symm) (Nat.le_of_ble_eq_true rfl) ⟨Nat.le_of_ble_eq_true rfl, Nat.le_of_ble_eq_true rfl, Nat.le_of_ble_eq_true rfl, Nat.le_of_ble_eq_true rfl⟩ (fun U hU hW => ⟨hE.go hW hU hS, by rw [hU]; exact hP, hD⟩) hex hlocks (by first | rfl | (simp [sp_protect, inr, req, wit, eIA, eIS, eUO, eNS, hq1]; done) | (simp [sp_protect, inr, req, wit, eIA, eIS, eUO, eNS, hq1]; rfl) | (simp [sp_protect, inr, req, wit, eIA, eIS, eUO, eNS, hq1]; done) | (simp [sp_protect, inr, req, wit, eIA, eIS, eUO, eNS, hq1]; rfl) | (simp only [sp_protect, inr, req, wit, eIA, eIS, eUO, eNS, hq1]; rfl))
  · refine k_callR (k_atS (As := [.int x]) hx hb hown hE.1 (K0.w tw_215) rfl k_w9 (hts _ tw_213) (hts _ tw_214) (hts _ tw_1) (by decide) np_FK_checkPage rfl d_FK_protect_1) (kn_s hq1 (c_FK_checkPage K0 ad r σ x)) (hl.1.trans hml.symm) (Nat.le_of_ble_eq_true rfl) ⟨Nat.le_of_ble_eq_true rfl, Nat.le_of_ble_eq_true rfl, Nat.le_of_ble_eq_true rfl, Nat.le_of_ble_eq_true rfl⟩ (fun U hU hW => ⟨hE.go hW hU hS, by rw [hU]; exact hP, hD⟩) ?_
    obtain ⟨rfl, ha3, hb_4, hc_5⟩ := rg_some hq1
    refine lv_iload_n hx hb d_FK_protect_4 rfl (lv_at hl 2 rfl) ?_
    rcases hq6 : rg y 0 3 with _ | j7
    · exact k_callE (k_atS (As := [.int y]) hx hb hown hE.1 (K0.w tw_259) rfl k_w9 (hts _ tw_257) (hts _ tw_258) (hts _ tw_1) (by decide) np_FK_checkEntry rfl d_FK_protect_5) (kn_n hq6 (c_FK_checkEntry K0 ad r σ y)) (hl.1.trans hml.symm) (Nat.le_of_ble_eq_true rfl) ⟨Nat.le_of_ble_eq_true rfl, Nat.le_of_ble_eq_true rfl, Nat.le_of_ble_eq_true rfl, Nat.le_of_ble_eq_true rfl⟩ (fun U hU hW => ⟨hE.go hW hU hS, by rw [hU]; exact hP, hD⟩) hex hlocks (by first | rfl | (simp [sp_protect, inr, req, wit, eIA, eIS, eUO, eNS, hq1, hq6]; done) | (simp [sp_protect, inr, req, wit, eIA, eIS, eUO, eNS, hq1, hq6]; rfl) | (simp [sp_protect, inr, req, wit, eIA, eIS, eUO, eNS, hq1, hq6]; done) | (simp [sp_protect, inr, req, wit, eIA, eIS, eUO, eNS, hq1, hq6]; rfl) | (simp only [sp_protect, inr, req, wit, eIA, eIS, eUO, eNS, hq1, hq6]; rfl))
    · refine k_callR (k_atS (As := [.int y]) hx hb hown hE.1 (K0.w tw_259) rfl k_w9 (hts _ tw_257) (hts _ tw_258) (hts _ tw_1) (by decide) np_FK_checkEntry rfl d_FK_protect_5) (kn_s hq6 (c_FK_checkEntry K0 ad r σ y)) (hl.1.trans hml.symm) (Nat.le_of_ble_eq_true rfl) ⟨Nat.le_of_ble_eq_true rfl, Nat.le_of_ble_eq_true rfl, Nat.le_of_ble_eq_true rfl, Nat.le_of_ble_eq_true rfl⟩ (fun U hU hW => ⟨hE.go hW hU hS, by rw [hU]; exact hP, hD⟩) ?_
      obtain ⟨rfl, ha8, hb_9, hc_10⟩ := rg_some hq6
      refine lv_iload_n hx hb d_FK_protect_8 rfl (lv_at hl 3 rfl) ?_
      rcases hq11 : rg z 1 3 with _ | j12
      · exact k_callE (k_atS (As := [.int z]) hx hb hown hE.1 (K0.w tw_262) rfl k_w9 (hts _ tw_260) (hts _ tw_261) (hts _ tw_1) (by decide) np_FK_checkRights rfl d_FK_protect_9) (kn_n hq11 (c_FK_checkRights K0 ad r σ z)) (hl.1.trans hml.symm) (Nat.le_of_ble_eq_true rfl) ⟨Nat.le_of_ble_eq_true rfl, Nat.le_of_ble_eq_true rfl, Nat.le_of_ble_eq_true rfl, Nat.le_of_ble_eq_true rfl⟩ (fun U hU hW => ⟨hE.go hW hU hS, by rw [hU]; exact hP, hD⟩) hex hlocks (by first | rfl | (simp [sp_protect, inr, req, wit, eIA, eIS, eUO, eNS, hq1, hq6, hq11]; done) | (simp [sp_protect, inr, req, wit, eIA, eIS, eUO, eNS, hq1, hq6, hq11]; rfl) | (simp [sp_protect, inr, req, wit, eIA, eIS, eUO, eNS, hq1, hq6, hq11]; done) | (simp [sp_protect, inr, req, wit, eIA, eIS, eUO, eNS, hq1, hq6, hq11]; rfl) | (simp only [sp_protect, inr, req, wit, eIA, eIS, eUO, eNS, hq1, hq6, hq11]; rfl))
      · refine k_callR (k_atS (As := [.int z]) hx hb hown hE.1 (K0.w tw_262) rfl k_w9 (hts _ tw_260) (hts _ tw_261) (hts _ tw_1) (by decide) np_FK_checkRights rfl d_FK_protect_9) (kn_s hq11 (c_FK_checkRights K0 ad r σ z)) (hl.1.trans hml.symm) (Nat.le_of_ble_eq_true rfl) ⟨Nat.le_of_ble_eq_true rfl, Nat.le_of_ble_eq_true rfl, Nat.le_of_ble_eq_true rfl, Nat.le_of_ble_eq_true rfl⟩ (fun U hU hW => ⟨hE.go hW hU hS, by rw [hU]; exact hP, hD⟩) ?_
        obtain ⟨rfl, ha13, hb_14, hc_15⟩ := rg_some hq11
        refine lv_aload_n hx hb d_FK_protect_12 rfl (lv_at hl 0 rfl) ?_
        refine lv_iload_n hx hb d_FK_protect_13 rfl (lv_at hl 1 rfl) ?_
        refine lv_iload_n hx hb d_FK_protect_14 rfl (lv_at hl 2 rfl) ?_
        rcases hq16 : mhold σ j2 with _ | _
        · exact k_callE (k_atV (As := [.int (nI j2), .int (nI j7)]) hx hb hown hE.1 (K0.w tw_323) (hts _ tw_320) (hts _ tw_322) (hts _ tw_9006) (hts _ tw_1) (by decide) np_FK_checkMyEntryIsFilled (va_recv hK hP (ci := nFK) (q0 := 0) rfl rfl) rfl d_FK_protect_15) (kr_f hq16 (c_FK_checkMyEntryIsFilled K0 ad r σ j2 j7 ok (by omega) (by omega) )) (hl.1.trans hml.symm) (Nat.le_of_ble_eq_true rfl) ⟨Nat.le_of_ble_eq_true rfl, Nat.le_of_ble_eq_true rfl, Nat.le_of_ble_eq_true rfl, Nat.le_of_ble_eq_true rfl⟩ (fun U hU hW => ⟨hE.go hW hU hS, by rw [hU]; exact hP, hD⟩) hex hlocks (by first | rfl | (simp [sp_protect, inr, req, wit, eIA, eIS, eUO, eNS, hq1, hq6, hq11, hq16]; done) | (simp [sp_protect, inr, req, wit, eIA, eIS, eUO, eNS, hq1, hq6, hq11, hq16]; rfl) | (simp [sp_protect, inr, req, wit, eIA, eIS, eUO, eNS, hq1, hq6, hq11, hq16]; done) | (simp [sp_protect, inr, req, wit, eIA, eIS, eUO, eNS, hq1, hq6, hq11, hq16]; rfl) | (simp only [sp_protect, inr, req, wit, eIA, eIS, eUO, eNS, hq1, hq6, hq11, hq16]; rfl))
        · skip
          rcases hq17 : (σ.1 2 (j2 * 4 + j7) != 0) with _ | _
          · exact k_callE (k_atV (As := [.int (nI j2), .int (nI j7)]) hx hb hown hE.1 (K0.w tw_323) (hts _ tw_320) (hts _ tw_322) (hts _ tw_9006) (hts _ tw_1) (by decide) np_FK_checkMyEntryIsFilled (va_recv hK hP (ci := nFK) (q0 := 0) rfl rfl) rfl d_FK_protect_15) (kr_f hq17 (kr_t hq16 (c_FK_checkMyEntryIsFilled K0 ad r σ j2 j7 ok (by omega) (by omega) ))) (hl.1.trans hml.symm) (Nat.le_of_ble_eq_true rfl) ⟨Nat.le_of_ble_eq_true rfl, Nat.le_of_ble_eq_true rfl, Nat.le_of_ble_eq_true rfl, Nat.le_of_ble_eq_true rfl⟩ (fun U hU hW => ⟨hE.go hW hU hS, by rw [hU]; exact hP, hD⟩) hex hlocks (by first | rfl | (simp [sp_protect, inr, req, wit, eIA, eIS, eUO, eNS, hq1, hq6, hq11, hq16, hq17]; done) | (simp [sp_protect, inr, req, wit, eIA, eIS, eUO, eNS, hq1, hq6, hq11, hq16, hq17]; rfl) | (simp [sp_protect, inr, req, wit, eIA, eIS, eUO, eNS, hq1, hq6, hq11, hq16, hq17]; done) | (simp [sp_protect, inr, req, wit, eIA, eIS, eUO, eNS, hq1, hq6, hq11, hq16, hq17]; rfl) | (simp only [sp_protect, inr, req, wit, eIA, eIS, eUO, eNS, hq1, hq6, hq11, hq16, hq17]; rfl))
          · skip
            refine k_callR (k_atV (As := [.int (nI j2), .int (nI j7)]) hx hb hown hE.1 (K0.w tw_323) (hts _ tw_320) (hts _ tw_322) (hts _ tw_9006) (hts _ tw_1) (by decide) np_FK_checkMyEntryIsFilled (va_recv hK hP (ci := nFK) (q0 := 0) rfl rfl) rfl d_FK_protect_15) (kr_t hq17 (kr_t hq16 (c_FK_checkMyEntryIsFilled K0 ad r σ j2 j7 ok (by omega) (by omega) ))) (hl.1.trans hml.symm) (Nat.le_of_ble_eq_true rfl) ⟨Nat.le_of_ble_eq_true rfl, Nat.le_of_ble_eq_true rfl, Nat.le_of_ble_eq_true rfl, Nat.le_of_ble_eq_true rfl⟩ (fun U hU hW => ⟨hE.go hW hU hS, by rw [hU]; exact hP, hD⟩) ?_
            have hnz : σ.1 2 (j2 * 4 + j7) ≠ 0 := by simpa using hq17
            have hbd := o2 (j2 * 4 + j7) (by omega)
            refine lv_aload_n hx hb d_FK_protect_18 rfl (lv_at hl 0 rfl) ?_
            refine va_get (D := D) (ci := nFK) (v := .ref (ad 1)) (C := R_FK) (T := T_FK) (N := 4) hx hb hts i_FK hown hK hP 0 rfl rfl 0 (by decide) (hts _ tw_116) (fun _ h9 => h9) rfl d_FK_protect_19 ?_
            refine lv_iload_n hx hb d_FK_protect_22 rfl (lv_at hl 1 rfl) ?_
            refine lv_iload_n hx hb d_FK_protect_23 rfl (lv_at hl 2 rfl) ?_
            refine k_callR (k_atV (As := [.int (nI j2), .int (nI j7)]) hx hb hown hE.1 (K0.w tw_344) (hts _ tw_341) (hts _ tw_342) (hts _ tw_343) (hts _ tw_2) (by decide) np_Mem_rightsIn (va_recv hK hP (ci := nMem) (q0 := 1) rfl rfl) rfl d_FK_protect_24) (c_Mem_rightsIn K0 ad r σ j2 j7 (by omega) (by omega)) (hl.1.trans hml.symm) (Nat.le_of_ble_eq_true rfl) ⟨Nat.le_of_ble_eq_true rfl, Nat.le_of_ble_eq_true rfl, Nat.le_of_ble_eq_true rfl, Nat.le_of_ble_eq_true rfl⟩ (fun U hU hW => ⟨hE.go hW hU hS, by rw [hU]; exact hP, hD⟩) ?_
            have ho18 := o3 (j2 * 4 + j7) (by omega)
            refine lv_istore (lv' := [(4, .int (nI (σ.1 3 (j2 * 4 + j7)))), (0, .ref (ad 0)), (1, .int (nI j2)), (2, .int (nI j7)), (3, .int (nI j12))]) hx hb d_FK_protect_27 hl (by decide) rfl (fun ls hl => ?_)
            refine lv_aload_n hx hb d_FK_protect_29 rfl (lv_at hl 1 rfl) ?_
            refine va_get (D := D) (ci := nFK) (v := .ref (ad 1)) (C := R_FK) (T := T_FK) (N := 4) hx hb hts i_FK hown hK hP 0 rfl rfl 0 (by decide) (hts _ tw_116) (fun _ h9 => h9) rfl d_FK_protect_30 ?_
            refine lv_iload_n hx hb d_FK_protect_33 rfl (lv_at hl 2 rfl) ?_
            refine lv_iload_n hx hb d_FK_protect_34 rfl (lv_at hl 3 rfl) ?_
            refine lv_aload_n hx hb d_FK_protect_35 rfl (lv_at hl 1 rfl) ?_
            refine va_get (D := D) (ci := nFK) (v := .ref (ad 1)) (C := R_FK) (T := T_FK) (N := 4) hx hb hts i_FK hown hK hP 0 rfl rfl 0 (by decide) (hts _ tw_116) (fun _ h9 => h9) rfl d_FK_protect_36 ?_
            refine lv_iload_n hx hb d_FK_protect_39 rfl (lv_at hl 2 rfl) ?_
            refine lv_iload_n hx hb d_FK_protect_40 rfl (lv_at hl 3 rfl) ?_
            refine k_callR (k_atV (As := [.int (nI j2), .int (nI j7)]) hx hb hown hE.1 (K0.w tw_302) (hts _ tw_299) (hts _ tw_300) (hts _ tw_301) (hts _ tw_2) (by decide) np_Mem_pageIn (va_recv hK hP (ci := nMem) (q0 := 1) rfl rfl) rfl d_FK_protect_41) (c_Mem_pageIn K0 ad r σ j2 j7 (by omega) (by omega)) (hl.1.trans hml.symm) (Nat.le_of_ble_eq_true rfl) ⟨Nat.le_of_ble_eq_true rfl, Nat.le_of_ble_eq_true rfl, Nat.le_of_ble_eq_true rfl, Nat.le_of_ble_eq_true rfl⟩ (fun U hU hW => ⟨hE.go hW hU hS, by rw [hU]; exact hP, hD⟩) ?_
            have ho19 := o2 (j2 * 4 + j7) (by omega)
            refine lv_iload_n hx hb d_FK_protect_44 rfl (lv_at hl 4 rfl) ?_
            refine k_callW (k_atV (As := [.int (nI j2), .int (nI j7), .int (pI (σ.1 2 (j2 * 4 + j7))), .int (nI j12)]) hx hb hown hE.1 (K0.w tw_42) (hts _ tw_304) (hts _ tw_40) (hts _ tw_41) (hts _ tw_2) (by decide) np_Mem_setEntry (va_recv hK hP (ci := nMem) (q0 := 1) rfl rfl) rfl d_FK_protect_45) (c_Mem_setEntry K0 ad r σ j2 j7 (σ.1 2 (j2 * 4 + j7)) j12 (by omega) (by omega)) (hl.1.trans hml.symm) (Nat.le_of_ble_eq_true rfl) ⟨Nat.le_of_ble_eq_true rfl, Nat.le_of_ble_eq_true rfl, Nat.le_of_ble_eq_true rfl, Nat.le_of_ble_eq_true rfl⟩ (fun U hU hW => ⟨hE.go hW hU hS, by rw [hU]; exact hP, hD⟩) hS (fun H locs hP hD hS => ?_)
            obtain ⟨σ20, eσ20⟩ : ∃ z : kS, z = (m_setEntry σ j2 j7 (σ.1 2 (j2 * 4 + j7)) j12) := ⟨_, rfl⟩
            have hP : va_P D vwCl (wC ad cI r σ20) H := by rw [eσ20]; exact hP
            have hD : va_D (kA s0) (wC ad cI r σ20) := by rw [eσ20]; exact hD
            refine lv_iload hx hb d_FK_protect_48 (lv_at hl 0 rfl) ?_
            exact k_retWI hx hb hr hlocks d_FK_protect_50 hP hD hS (by subst eσ20; first | rfl | (simp [sp_protect, inr, req, wit, eIA, eIS, eUO, eNS, hq1, hq6, hq11, hq16, hq17]; done) | (simp [sp_protect, inr, req, wit, eIA, eIS, eUO, eNS, hq1, hq6, hq11, hq16, hq17]; rfl) | (simp [sp_protect, inr, req, wit, eIA, eIS, eUO, eNS, hq1, hq6, hq11, hq16, hq17]; done) | (simp [sp_protect, inr, req, wit, eIA, eIS, eUO, eNS, hq1, hq6, hq11, hq16, hq17]; rfl) | (simp only [sp_protect, inr, req, wit, eIA, eIS, eUO, eNS, hq1, hq6, hq11, hq16, hq17]; rfl))
set_option maxHeartbeats 4000000 in
set_option maxRecDepth 100000 in
theorem c_FK_copy {l : Launch} {s0 : State} {a0 : Array Value} {D : va_G} {cI cL : ClassId} (K0 : k0 l s0 a0 D cI cL) (ad : Nat → Nat) (r : va_W) (σ : kS) (x : Int32) (y : Int32) (ok : kOk σ) : kMet l y_FK_copy (Cond.code y_FK_copy b_FK_copy 3 (some .int)) (rmL 8) [.ref (ad 0), .int x, .int y] (kPre D vwCl s0 (wC ad cI r) σ) (sp_copy σ x y) (kBw D vwCl s0 (wC ad cI r)) := by
  refine k_of (by decide) (Nat.le_of_ble_eq_true rfl) ?_
  intro p e9 s m below meth c hx hb hr hlocks hown hml hex hpre ls hl
  obtain ⟨hE, hP, hD⟩ := hpre
  obtain ⟨hts, hK⟩ := K0.at (args := ([.ref (ad 0), .int x, .int y] : List Value).toArray) hE
  have hl : lv_has ls 3 [(0, .ref (ad 0)), (1, .int x), (2, .int y)] := hl
  have hS : va_S (kA s0) s.heap s.heap [] := va_S.rf
  obtain ⟨o1, o2, o3, o4, o5, o6, o7, o8, o9, o10, o0, ⟨oc1, oc2⟩, oc3, or6⟩ := id ok
  have hr0 : σ.1 6 (σ.1 11 0) ≠ 0 := or6 _ oc2 (by omega)
  have hr1 : σ.1 6 (σ.1 11 0) < 21 := o6 _ oc2
  refine lv_iload_n hx hb d_FK_copy_0 rfl (lv_at hl 1 rfl) ?_
  rcases hq1 : rg x 0 19 with _ | j2
  · exact k_callE (k_atS (As := [.int x]) hx hb hown hE.1 (K0.w tw_215) rfl k_w9 (hts _ tw_213) (hts _ tw_214) (hts _ tw_1) (by decide) np_FK_checkPage rfl d_FK_copy_1) (kn_n hq1 (c_FK_checkPage K0 ad r σ x)) (hl.1.trans hml.symm) (Nat.le_of_ble_eq_true rfl) ⟨Nat.le_of_ble_eq_true rfl, Nat.le_of_ble_eq_true rfl, Nat.le_of_ble_eq_true rfl, Nat.le_of_ble_eq_true rfl⟩ (fun U hU hW => ⟨hE.go hW hU hS, by rw [hU]; exact hP, hD⟩) hex hlocks (by first | rfl | (simp [sp_copy, inr, req, wit, eIA, eIS, eUO, eNS, hq1]; done) | (simp [sp_copy, inr, req, wit, eIA, eIS, eUO, eNS, hq1]; rfl) | (simp [sp_copy, inr, req, wit, eIA, eIS, eUO, eNS, hq1]; done) | (simp [sp_copy, inr, req, wit, eIA, eIS, eUO, eNS, hq1]; rfl) | (simp only [sp_copy, inr, req, wit, eIA, eIS, eUO, eNS, hq1]; rfl))
  · refine k_callR (k_atS (As := [.int x]) hx hb hown hE.1 (K0.w tw_215) rfl k_w9 (hts _ tw_213) (hts _ tw_214) (hts _ tw_1) (by decide) np_FK_checkPage rfl d_FK_copy_1) (kn_s hq1 (c_FK_checkPage K0 ad r σ x)) (hl.1.trans hml.symm) (Nat.le_of_ble_eq_true rfl) ⟨Nat.le_of_ble_eq_true rfl, Nat.le_of_ble_eq_true rfl, Nat.le_of_ble_eq_true rfl, Nat.le_of_ble_eq_true rfl⟩ (fun U hU hW => ⟨hE.go hW hU hS, by rw [hU]; exact hP, hD⟩) ?_
    obtain ⟨rfl, ha3, hb_4, hc_5⟩ := rg_some hq1
    refine lv_iload_n hx hb d_FK_copy_4 rfl (lv_at hl 2 rfl) ?_
    rcases hq6 : rg y 0 19 with _ | j7
    · exact k_callE (k_atS (As := [.int y]) hx hb hown hE.1 (K0.w tw_215) rfl k_w9 (hts _ tw_213) (hts _ tw_214) (hts _ tw_1) (by decide) np_FK_checkPage rfl d_FK_copy_5) (kn_n hq6 (c_FK_checkPage K0 ad r σ y)) (hl.1.trans hml.symm) (Nat.le_of_ble_eq_true rfl) ⟨Nat.le_of_ble_eq_true rfl, Nat.le_of_ble_eq_true rfl, Nat.le_of_ble_eq_true rfl, Nat.le_of_ble_eq_true rfl⟩ (fun U hU hW => ⟨hE.go hW hU hS, by rw [hU]; exact hP, hD⟩) hex hlocks (by first | rfl | (simp [sp_copy, inr, req, wit, eIA, eIS, eUO, eNS, hq1, hq6]; done) | (simp [sp_copy, inr, req, wit, eIA, eIS, eUO, eNS, hq1, hq6]; rfl) | (simp [sp_copy, inr, req, wit, eIA, eIS, eUO, eNS, hq1, hq6]; done) | (simp [sp_copy, inr, req, wit, eIA, eIS, eUO, eNS, hq1, hq6]; rfl) | (simp only [sp_copy, inr, req, wit, eIA, eIS, eUO, eNS, hq1, hq6]; rfl))
    · refine k_callR (k_atS (As := [.int y]) hx hb hown hE.1 (K0.w tw_215) rfl k_w9 (hts _ tw_213) (hts _ tw_214) (hts _ tw_1) (by decide) np_FK_checkPage rfl d_FK_copy_5) (kn_s hq6 (c_FK_checkPage K0 ad r σ y)) (hl.1.trans hml.symm) (Nat.le_of_ble_eq_true rfl) ⟨Nat.le_of_ble_eq_true rfl, Nat.le_of_ble_eq_true rfl, Nat.le_of_ble_eq_true rfl, Nat.le_of_ble_eq_true rfl⟩ (fun U hU hW => ⟨hE.go hW hU hS, by rw [hU]; exact hP, hD⟩) ?_
      obtain ⟨rfl, ha8, hb_9, hc_10⟩ := rg_some hq6
      refine lv_aload_n hx hb d_FK_copy_8 rfl (lv_at hl 0 rfl) ?_
      refine lv_iload_n hx hb d_FK_copy_9 rfl (lv_at hl 1 rfl) ?_
      refine lv_iconst (v := (nI 3)) hx hb d_FK_copy_10 (by decide) ?_
      rcases hq11 : mpage σ j2 3 with _ | _
      · refine k_callR (k_atV (As := [.int (nI j2), .int (nI 3)]) hx hb hown hE.1 (K0.w tw_266) (hts _ tw_263) (hts _ tw_265) (hts _ tw_9003) (hts _ tw_1) (by decide) np_FK_isMyPage (va_recv hK hP (ci := nFK) (q0 := 0) rfl rfl) rfl d_FK_copy_11) (kb_f hq11 (c_FK_isMyPage K0 ad r σ j2 3 ok (by omega) (by omega))) (hl.1.trans hml.symm) (Nat.le_of_ble_eq_true rfl) ⟨Nat.le_of_ble_eq_true rfl, Nat.le_of_ble_eq_true rfl, Nat.le_of_ble_eq_true rfl, Nat.le_of_ble_eq_true rfl⟩ (fun U hU hW => ⟨hE.go hW hU hS, by rw [hU]; exact hP, hD⟩) ?_
        refine k_if0 (tgt := 26) (by decide) hx hb d_FK_copy_14 (by decide) (fun _ => ?_) (fun h9 => absurd h9 (by decide))
        exact k_throw hx hb K0.tr hown (text := "one of the pages is no frame of the caller's") (names := kNames) (by decide +kernel) (by decide +kernel) (hts _ tw_283) (hts _ tw_11) (K0.str hE sr_93) (K0.own hE oa_95) (hl.1.trans hml.symm) d_FK_copy_26 d_FK_copy_29 d_FK_copy_30 d_FK_copy_32 d_FK_copy_35 hex hlocks ⟨Nat.le_of_ble_eq_true rfl, Nat.le_of_ble_eq_true rfl, Nat.le_of_ble_eq_true rfl, Nat.le_of_ble_eq_true rfl⟩ (by first | rfl | (simp [sp_copy, inr, req, wit, eIA, eIS, eUO, eNS, hq1, hq6, hq11]; done) | (simp [sp_copy, inr, req, wit, eIA, eIS, eUO, eNS, hq1, hq6, hq11]; rfl) | (simp [sp_copy, inr, req, wit, eIA, eIS, eUO, eNS, hq1, hq6, hq11]; done) | (simp [sp_copy, inr, req, wit, eIA, eIS, eUO, eNS, hq1, hq6, hq11]; rfl) | (simp only [sp_copy, inr, req, wit, eIA, eIS, eUO, eNS, hq1, hq6, hq11]; rfl))
      · refine k_callR (k_atV (As := [.int (nI j2), .int (nI 3)]) hx hb hown hE.1 (K0.w tw_266) (hts _ tw_263) (hts _ tw_265) (hts _ tw_9003) (hts _ tw_1) (by decide) np_FK_isMyPage (va_recv hK hP (ci := nFK) (q0 := 0) rfl rfl) rfl d_FK_copy_11) (kb_t hq11 (c_FK_isMyPage K0 ad r σ j2 3 ok (by omega) (by omega))) (hl.1.trans hml.symm) (Nat.le_of_ble_eq_true rfl) ⟨Nat.le_of_ble_eq_true rfl, Nat.le_of_ble_eq_true rfl, Nat.le_of_ble_eq_true rfl, Nat.le_of_ble_eq_true rfl⟩ (fun U hU hW => ⟨hE.go hW hU hS, by rw [hU]; exact hP, hD⟩) ?_
        refine k_if0 (tgt := 26) (by decide) hx hb d_FK_copy_14 (by decide) (fun h9 => absurd h9 (by decide)) (fun _ => ?_)
        refine lv_aload_n hx hb d_FK_copy_17 rfl (lv_at hl 0 rfl) ?_
        refine lv_iload_n hx hb d_FK_copy_18 rfl (lv_at hl 2 rfl) ?_
        refine lv_iconst (v := (nI 3)) hx hb d_FK_copy_19 (by decide) ?_
        rcases hq12 : mpage σ j7 3 with _ | _
        · refine k_callR (k_atV (As := [.int (nI j7), .int (nI 3)]) hx hb hown hE.1 (K0.w tw_266) (hts _ tw_263) (hts _ tw_265) (hts _ tw_9003) (hts _ tw_1) (by decide) np_FK_isMyPage (va_recv hK hP (ci := nFK) (q0 := 0) rfl rfl) rfl d_FK_copy_20) (kb_f hq12 (c_FK_isMyPage K0 ad r σ j7 3 ok (by omega) (by omega))) (hl.1.trans hml.symm) (Nat.le_of_ble_eq_true rfl) ⟨Nat.le_of_ble_eq_true rfl, Nat.le_of_ble_eq_true rfl, Nat.le_of_ble_eq_true rfl, Nat.le_of_ble_eq_true rfl⟩ (fun U hU hW => ⟨hE.go hW hU hS, by rw [hU]; exact hP, hD⟩) ?_
          refine k_ifN0 (tgt := 36) (by decide) hx hb d_FK_copy_23 (by decide) (fun h9 => absurd h9 (by decide)) (fun _ => ?_)
          exact k_throw hx hb K0.tr hown (text := "one of the pages is no frame of the caller's") (names := kNames) (by decide +kernel) (by decide +kernel) (hts _ tw_283) (hts _ tw_11) (K0.str hE sr_93) (K0.own hE oa_95) (hl.1.trans hml.symm) d_FK_copy_26 d_FK_copy_29 d_FK_copy_30 d_FK_copy_32 d_FK_copy_35 hex hlocks ⟨Nat.le_of_ble_eq_true rfl, Nat.le_of_ble_eq_true rfl, Nat.le_of_ble_eq_true rfl, Nat.le_of_ble_eq_true rfl⟩ (by first | rfl | (simp [sp_copy, inr, req, wit, eIA, eIS, eUO, eNS, hq1, hq6, hq11, hq12]; done) | (simp [sp_copy, inr, req, wit, eIA, eIS, eUO, eNS, hq1, hq6, hq11, hq12]; rfl) | (simp [sp_copy, inr, req, wit, eIA, eIS, eUO, eNS, hq1, hq6, hq11, hq12]; done) | (simp [sp_copy, inr, req, wit, eIA, eIS, eUO, eNS, hq1, hq6, hq11, hq12]; rfl) | (simp only [sp_copy, inr, req, wit, eIA, eIS, eUO, eNS, hq1, hq6, hq11, hq12]; rfl))
        · refine k_callR (k_atV (As := [.int (nI j7), .int (nI 3)]) hx hb hown hE.1 (K0.w tw_266) (hts _ tw_263) (hts _ tw_265) (hts _ tw_9003) (hts _ tw_1) (by decide) np_FK_isMyPage (va_recv hK hP (ci := nFK) (q0 := 0) rfl rfl) rfl d_FK_copy_20) (kb_t hq12 (c_FK_isMyPage K0 ad r σ j7 3 ok (by omega) (by omega))) (hl.1.trans hml.symm) (Nat.le_of_ble_eq_true rfl) ⟨Nat.le_of_ble_eq_true rfl, Nat.le_of_ble_eq_true rfl, Nat.le_of_ble_eq_true rfl, Nat.le_of_ble_eq_true rfl⟩ (fun U hU hW => ⟨hE.go hW hU hS, by rw [hU]; exact hP, hD⟩) ?_
          refine k_ifN0 (tgt := 36) (by decide) hx hb d_FK_copy_23 (by decide) (fun _ => ?_) (fun h9 => absurd h9 (by decide))
          refine lv_aload_n hx hb d_FK_copy_36 rfl (lv_at hl 0 rfl) ?_
          refine va_get (D := D) (ci := nFK) (v := .ref (ad 1)) (C := R_FK) (T := T_FK) (N := 4) hx hb hts i_FK hown hK hP 0 rfl rfl 0 (by decide) (hts _ tw_116) (fun _ h9 => h9) rfl d_FK_copy_37 ?_
          refine lv_iload_n hx hb d_FK_copy_40 rfl (lv_at hl 1 rfl) ?_
          refine lv_iload_n hx hb d_FK_copy_41 rfl (lv_at hl 2 rfl) ?_
          refine k_callW (k_atV (As := [.int (nI j2), .int (nI j7)]) hx hb hown hE.1 (K0.w tw_356) (hts _ tw_353) (hts _ tw_354) (hts _ tw_355) (hts _ tw_2) (by decide) np_Mem_copyWords (va_recv hK hP (ci := nMem) (q0 := 1) rfl rfl) rfl d_FK_copy_42) (c_Mem_copyWords K0 ad r σ j2 j7 (by omega) (by omega)) (hl.1.trans hml.symm) (Nat.le_of_ble_eq_true rfl) ⟨Nat.le_of_ble_eq_true rfl, Nat.le_of_ble_eq_true rfl, Nat.le_of_ble_eq_true rfl, Nat.le_of_ble_eq_true rfl⟩ (fun U hU hW => ⟨hE.go hW hU hS, by rw [hU]; exact hP, hD⟩) hS (fun H locs hP hD hS => ?_)
          obtain ⟨σ13, eσ13⟩ : ∃ z : kS, z = (m_copy σ j2 j7) := ⟨_, rfl⟩
          have hP : va_P D vwCl (wC ad cI r σ13) H := by rw [eσ13]; exact hP
          have hD : va_D (kA s0) (wC ad cI r σ13) := by rw [eσ13]; exact hD
          refine lv_iconst (v := (nI 1)) hx hb d_FK_copy_45 (by decide) ?_
          exact k_retWI hx hb hr hlocks d_FK_copy_46 hP hD hS (by subst eσ13; first | rfl | (simp [sp_copy, inr, req, wit, eIA, eIS, eUO, eNS, hq1, hq6, hq11, hq12]; done) | (simp [sp_copy, inr, req, wit, eIA, eIS, eUO, eNS, hq1, hq6, hq11, hq12]; rfl) | (simp [sp_copy, inr, req, wit, eIA, eIS, eUO, eNS, hq1, hq6, hq11, hq12]; done) | (simp [sp_copy, inr, req, wit, eIA, eIS, eUO, eNS, hq1, hq6, hq11, hq12]; rfl) | (simp only [sp_copy, inr, req, wit, eIA, eIS, eUO, eNS, hq1, hq6, hq11, hq12]; rfl))
set_option maxHeartbeats 4000000 in
set_option maxRecDepth 100000 in
theorem c_FK_release {l : Launch} {s0 : State} {a0 : Array Value} {D : va_G} {cI cL : ClassId} (K0 : k0 l s0 a0 D cI cL) (ad : Nat → Nat) (r : va_W) (σ : kS) (x : Int32) (y : Int32) (ok : kOk σ) : kMet l y_FK_release (Cond.code y_FK_release b_FK_release 4 (some .int)) (rmL 8) [.ref (ad 0), .int x, .int y] (kPre D vwCl s0 (wC ad cI r) σ) (sp_release σ x y) (kBw D vwCl s0 (wC ad cI r)) := by
  refine k_of (by decide) (Nat.le_of_ble_eq_true rfl) ?_
  intro p e9 s m below meth c hx hb hr hlocks hown hml hex hpre ls hl
  obtain ⟨hE, hP, hD⟩ := hpre
  obtain ⟨hts, hK⟩ := K0.at (args := ([.ref (ad 0), .int x, .int y] : List Value).toArray) hE
  have hl : lv_has ls 4 [(0, .ref (ad 0)), (1, .int x), (2, .int y)] := hl
  have hS : va_S (kA s0) s.heap s.heap [] := va_S.rf
  obtain ⟨o1, o2, o3, o4, o5, o6, o7, o8, o9, o10, o0, ⟨oc1, oc2⟩, oc3, or6⟩ := id ok
  have hr0 : σ.1 6 (σ.1 11 0) ≠ 0 := or6 _ oc2 (by omega)
  have hr1 : σ.1 6 (σ.1 11 0) < 21 := o6 _ oc2
  refine lv_iload_n hx hb d_FK_release_0 rfl (lv_at hl 1 rfl) ?_
  rcases hq1 : rg x 0 19 with _ | j2
  · exact k_callE (k_atS (As := [.int x]) hx hb hown hE.1 (K0.w tw_215) rfl k_w9 (hts _ tw_213) (hts _ tw_214) (hts _ tw_1) (by decide) np_FK_checkPage rfl d_FK_release_1) (kn_n hq1 (c_FK_checkPage K0 ad r σ x)) (hl.1.trans hml.symm) (Nat.le_of_ble_eq_true rfl) ⟨Nat.le_of_ble_eq_true rfl, Nat.le_of_ble_eq_true rfl, Nat.le_of_ble_eq_true rfl, Nat.le_of_ble_eq_true rfl⟩ (fun U hU hW => ⟨hE.go hW hU hS, by rw [hU]; exact hP, hD⟩) hex hlocks (by (try rw [pI_pred hnz]); first | rfl | (simp [sp_release, inr, req, wit, eIA, eIS, eUO, eNS, hq1]; done) | (simp [sp_release, inr, req, wit, eIA, eIS, eUO, eNS, hq1]; rfl) | (simp [sp_release, inr, req, wit, eIA, eIS, eUO, eNS, hq1]; done) | (simp [sp_release, inr, req, wit, eIA, eIS, eUO, eNS, hq1]; rfl) | (simp only [sp_release, inr, req, wit, eIA, eIS, eUO, eNS, hq1]; rfl))
  · refine k_callR (k_atS (As := [.int x]) hx hb hown hE.1 (K0.w tw_215) rfl k_w9 (hts _ tw_213) (hts _ tw_214) (hts _ tw_1) (by decide) np_FK_checkPage rfl d_FK_release_1) (kn_s hq1 (c_FK_checkPage K0 ad r σ x)) (hl.1.trans hml.symm) (Nat.le_of_ble_eq_true rfl) ⟨Nat.le_of_ble_eq_true rfl, Nat.le_of_ble_eq_true rfl, Nat.le_of_ble_eq_true rfl, Nat.le_of_ble_eq_true rfl⟩ (fun U hU hW => ⟨hE.go hW hU hS, by rw [hU]; exact hP, hD⟩) ?_
    obtain ⟨rfl, ha3, hb_4, hc_5⟩ := rg_some hq1
    refine lv_iload_n hx hb d_FK_release_4 rfl (lv_at hl 2 rfl) ?_
    rcases hq6 : rg y 0 3 with _ | j7
    · exact k_callE (k_atS (As := [.int y]) hx hb hown hE.1 (K0.w tw_259) rfl k_w9 (hts _ tw_257) (hts _ tw_258) (hts _ tw_1) (by decide) np_FK_checkEntry rfl d_FK_release_5) (kn_n hq6 (c_FK_checkEntry K0 ad r σ y)) (hl.1.trans hml.symm) (Nat.le_of_ble_eq_true rfl) ⟨Nat.le_of_ble_eq_true rfl, Nat.le_of_ble_eq_true rfl, Nat.le_of_ble_eq_true rfl, Nat.le_of_ble_eq_true rfl⟩ (fun U hU hW => ⟨hE.go hW hU hS, by rw [hU]; exact hP, hD⟩) hex hlocks (by (try rw [pI_pred hnz]); first | rfl | (simp [sp_release, inr, req, wit, eIA, eIS, eUO, eNS, hq1, hq6]; done) | (simp [sp_release, inr, req, wit, eIA, eIS, eUO, eNS, hq1, hq6]; rfl) | (simp [sp_release, inr, req, wit, eIA, eIS, eUO, eNS, hq1, hq6]; done) | (simp [sp_release, inr, req, wit, eIA, eIS, eUO, eNS, hq1, hq6]; rfl) | (simp only [sp_release, inr, req, wit, eIA, eIS, eUO, eNS, hq1, hq6]; rfl))
    · refine k_callR (k_atS (As := [.int y]) hx hb hown hE.1 (K0.w tw_259) rfl k_w9 (hts _ tw_257) (hts _ tw_258) (hts _ tw_1) (by decide) np_FK_checkEntry rfl d_FK_release_5) (kn_s hq6 (c_FK_checkEntry K0 ad r σ y)) (hl.1.trans hml.symm) (Nat.le_of_ble_eq_true rfl) ⟨Nat.le_of_ble_eq_true rfl, Nat.le_of_ble_eq_true rfl, Nat.le_of_ble_eq_true rfl, Nat.le_of_ble_eq_true rfl⟩ (fun U hU hW => ⟨hE.go hW hU hS, by rw [hU]; exact hP, hD⟩) ?_
      obtain ⟨rfl, ha8, hb_9, hc_10⟩ := rg_some hq6
      refine lv_aload_n hx hb d_FK_release_8 rfl (lv_at hl 0 rfl) ?_
      refine lv_iload_n hx hb d_FK_release_9 rfl (lv_at hl 1 rfl) ?_
      refine lv_iload_n hx hb d_FK_release_10 rfl (lv_at hl 2 rfl) ?_
      rcases hq11 : mhold σ j2 with _ | _
      · exact k_callE (k_atV (As := [.int (nI j2), .int (nI j7)]) hx hb hown hE.1 (K0.w tw_323) (hts _ tw_320) (hts _ tw_322) (hts _ tw_9006) (hts _ tw_1) (by decide) np_FK_checkMyEntryIsFilled (va_recv hK hP (ci := nFK) (q0 := 0) rfl rfl) rfl d_FK_release_11) (kr_f hq11 (c_FK_checkMyEntryIsFilled K0 ad r σ j2 j7 ok (by omega) (by omega) )) (hl.1.trans hml.symm) (Nat.le_of_ble_eq_true rfl) ⟨Nat.le_of_ble_eq_true rfl, Nat.le_of_ble_eq_true rfl, Nat.le_of_ble_eq_true rfl, Nat.le_of_ble_eq_true rfl⟩ (fun U hU hW => ⟨hE.go hW hU hS, by rw [hU]; exact hP, hD⟩) hex hlocks (by (try rw [pI_pred hnz]); first | rfl | (simp [sp_release, inr, req, wit, eIA, eIS, eUO, eNS, hq1, hq6, hq11]; done) | (simp [sp_release, inr, req, wit, eIA, eIS, eUO, eNS, hq1, hq6, hq11]; rfl) | (simp [sp_release, inr, req, wit, eIA, eIS, eUO, eNS, hq1, hq6, hq11]; done) | (simp [sp_release, inr, req, wit, eIA, eIS, eUO, eNS, hq1, hq6, hq11]; rfl) | (simp only [sp_release, inr, req, wit, eIA, eIS, eUO, eNS, hq1, hq6, hq11]; rfl))
      · skip
        rcases hq12 : (σ.1 2 (j2 * 4 + j7) != 0) with _ | _
        · exact k_callE (k_atV (As := [.int (nI j2), .int (nI j7)]) hx hb hown hE.1 (K0.w tw_323) (hts _ tw_320) (hts _ tw_322) (hts _ tw_9006) (hts _ tw_1) (by decide) np_FK_checkMyEntryIsFilled (va_recv hK hP (ci := nFK) (q0 := 0) rfl rfl) rfl d_FK_release_11) (kr_f hq12 (kr_t hq11 (c_FK_checkMyEntryIsFilled K0 ad r σ j2 j7 ok (by omega) (by omega) ))) (hl.1.trans hml.symm) (Nat.le_of_ble_eq_true rfl) ⟨Nat.le_of_ble_eq_true rfl, Nat.le_of_ble_eq_true rfl, Nat.le_of_ble_eq_true rfl, Nat.le_of_ble_eq_true rfl⟩ (fun U hU hW => ⟨hE.go hW hU hS, by rw [hU]; exact hP, hD⟩) hex hlocks (by (try rw [pI_pred hnz]); first | rfl | (simp [sp_release, inr, req, wit, eIA, eIS, eUO, eNS, hq1, hq6, hq11, hq12]; done) | (simp [sp_release, inr, req, wit, eIA, eIS, eUO, eNS, hq1, hq6, hq11, hq12]; rfl) | (simp [sp_release, inr, req, wit, eIA, eIS, eUO, eNS, hq1, hq6, hq11, hq12]; done) | (simp [sp_release, inr, req, wit, eIA, eIS, eUO, eNS, hq1, hq6, hq11, hq12]; rfl) | (simp only [sp_release, inr, req, wit, eIA, eIS, eUO, eNS, hq1, hq6, hq11, hq12]; rfl))
        · skip
          refine k_callR (k_atV (As := [.int (nI j2), .int (nI j7)]) hx hb hown hE.1 (K0.w tw_323) (hts _ tw_320) (hts _ tw_322) (hts _ tw_9006) (hts _ tw_1) (by decide) np_FK_checkMyEntryIsFilled (va_recv hK hP (ci := nFK) (q0 := 0) rfl rfl) rfl d_FK_release_11) (kr_t hq12 (kr_t hq11 (c_FK_checkMyEntryIsFilled K0 ad r σ j2 j7 ok (by omega) (by omega) ))) (hl.1.trans hml.symm) (Nat.le_of_ble_eq_true rfl) ⟨Nat.le_of_ble_eq_true rfl, Nat.le_of_ble_eq_true rfl, Nat.le_of_ble_eq_true rfl, Nat.le_of_ble_eq_true rfl⟩ (fun U hU hW => ⟨hE.go hW hU hS, by rw [hU]; exact hP, hD⟩) ?_
          have hnz : σ.1 2 (j2 * 4 + j7) ≠ 0 := by simpa using hq12
          have hbd := o2 (j2 * 4 + j7) (by omega)
          refine lv_aload_n hx hb d_FK_release_14 rfl (lv_at hl 0 rfl) ?_
          refine va_get (D := D) (ci := nFK) (v := .ref (ad 1)) (C := R_FK) (T := T_FK) (N := 4) hx hb hts i_FK hown hK hP 0 rfl rfl 0 (by decide) (hts _ tw_116) (fun _ h9 => h9) rfl d_FK_release_15 ?_
          refine lv_iload_n hx hb d_FK_release_18 rfl (lv_at hl 1 rfl) ?_
          refine lv_iload_n hx hb d_FK_release_19 rfl (lv_at hl 2 rfl) ?_
          refine k_callR (k_atV (As := [.int (nI j2), .int (nI j7)]) hx hb hown hE.1 (K0.w tw_302) (hts _ tw_299) (hts _ tw_300) (hts _ tw_301) (hts _ tw_2) (by decide) np_Mem_pageIn (va_recv hK hP (ci := nMem) (q0 := 1) rfl rfl) rfl d_FK_release_20) (c_Mem_pageIn K0 ad r σ j2 j7 (by omega) (by omega)) (hl.1.trans hml.symm) (Nat.le_of_ble_eq_true rfl) ⟨Nat.le_of_ble_eq_true rfl, Nat.le_of_ble_eq_true rfl, Nat.le_of_ble_eq_true rfl, Nat.le_of_ble_eq_true rfl⟩ (fun U hU hW => ⟨hE.go hW hU hS, by rw [hU]; exact hP, hD⟩) ?_
          have ho13 := o2 (j2 * 4 + j7) (by omega)
          refine lv_istore_n (lv' := [(3, .int (pI (σ.1 2 (j2 * 4 + j7)))), (0, .ref (ad 0)), (1, .int (nI j2)), (2, .int (nI j7))]) hx hb d_FK_release_23 rfl hl (by decide) rfl (fun ls hl => ?_)
          refine lv_aload_n hx hb d_FK_release_24 rfl (lv_at hl 1 rfl) ?_
          refine va_get (D := D) (ci := nFK) (v := .ref (ad 1)) (C := R_FK) (T := T_FK) (N := 4) hx hb hts i_FK hown hK hP 0 rfl rfl 0 (by decide) (hts _ tw_116) (fun _ h9 => h9) rfl d_FK_release_25 ?_
          refine lv_iload_n hx hb d_FK_release_28 rfl (lv_at hl 0 rfl) ?_
          refine k_st (st' := [.int (nI ((σ.1 2 (j2 * 4 + j7)) - 1)), .ref (ad 1)]) (by show ([.int (pI (σ.1 2 (j2 * 4 + j7))), .ref (ad 1)] : List Value) = _; rw [pI_pred (by omega)]) ?_
          refine k_callR (k_atV (As := [.int (nI ((σ.1 2 (j2 * 4 + j7)) - 1))]) hx hb hown hE.1 (K0.w tw_371) (hts _ tw_368) (hts _ tw_369) (hts _ tw_370) (hts _ tw_2) (by decide) np_Mem_filledEntries (va_recv hK hP (ci := nMem) (q0 := 1) rfl rfl) rfl d_FK_release_29) (c_Mem_filledEntries K0 ad r σ ((σ.1 2 (j2 * 4 + j7)) - 1) (by omega) ok.b2) (hl.1.trans hml.symm) (Nat.le_of_ble_eq_true rfl) ⟨Nat.le_of_ble_eq_true rfl, Nat.le_of_ble_eq_true rfl, Nat.le_of_ble_eq_true rfl, Nat.le_of_ble_eq_true rfl⟩ (fun U hU hW => ⟨hE.go hW hU hS, by rw [hU]; exact hP, hD⟩) ?_
          have hc14 : (filled σ ((σ.1 2 (j2 * 4 + j7)) - 1)) ≤ 4 := cnt_le _ _
          refine k_leN0 (tgt := 45) (by omega) hx hb d_FK_release_32 (by decide) (fun h15 => ?_) (fun h15 => ?_)
          · refine lv_aload_n hx hb d_FK_release_45 rfl (lv_at hl 1 rfl) ?_
            refine va_get (D := D) (ci := nFK) (v := .ref (ad 1)) (C := R_FK) (T := T_FK) (N := 4) hx hb hts i_FK hown hK hP 0 rfl rfl 0 (by decide) (hts _ tw_116) (fun _ h9 => h9) rfl d_FK_release_46 ?_
            refine lv_iload_n hx hb d_FK_release_49 rfl (lv_at hl 2 rfl) ?_
            refine lv_iload_n hx hb d_FK_release_50 rfl (lv_at hl 3 rfl) ?_
            refine k_callW (k_atV (As := [.int (nI j2), .int (nI j7)]) hx hb hown hE.1 (K0.w tw_38) (hts _ tw_374) (hts _ tw_36) (hts _ tw_37) (hts _ tw_2) (by decide) np_Mem_clearEntry (va_recv hK hP (ci := nMem) (q0 := 1) rfl rfl) rfl d_FK_release_51) (c_Mem_clearEntry K0 ad r σ j2 j7 (by omega) (by omega)) (hl.1.trans hml.symm) (Nat.le_of_ble_eq_true rfl) ⟨Nat.le_of_ble_eq_true rfl, Nat.le_of_ble_eq_true rfl, Nat.le_of_ble_eq_true rfl, Nat.le_of_ble_eq_true rfl⟩ (fun U hU hW => ⟨hE.go hW hU hS, by rw [hU]; exact hP, hD⟩) hS (fun H locs hP hD hS => ?_)
            obtain ⟨σ16, eσ16⟩ : ∃ z : kS, z = (m_clearEntry σ j2 j7) := ⟨_, rfl⟩
            have hP : va_P D vwCl (wC ad cI r σ16) H := by rw [eσ16]; exact hP
            have hD : va_D (kA s0) (wC ad cI r σ16) := by rw [eσ16]; exact hD
            refine lv_aload_n hx hb d_FK_release_54 rfl (lv_at hl 1 rfl) ?_
            refine va_get (D := D) (ci := nFK) (v := .ref (ad 1)) (C := R_FK) (T := T_FK) (N := 4) hx hb hts i_FK hown hK hP 0 rfl rfl 0 (by decide) (hts _ tw_116) (fun _ h9 => h9) rfl d_FK_release_55 ?_
            refine lv_iload_n hx hb d_FK_release_58 rfl (lv_at hl 0 rfl) ?_
            refine k_st (st' := [.int (nI ((σ.1 2 (j2 * 4 + j7)) - 1)), .ref (ad 1)]) (by show ([.int (pI (σ.1 2 (j2 * 4 + j7))), .ref (ad 1)] : List Value) = _; rw [pI_pred (t := (σ.1 2 (j2 * 4 + j7))) (by omega)]) ?_
            refine k_callW (k_atV (As := [.int (nI ((σ.1 2 (j2 * 4 + j7)) - 1))]) hx hb hown hE.1 (K0.w tw_30) (hts _ tw_375) (hts _ tw_28) (hts _ tw_29) (hts _ tw_2) (by decide) np_Mem_setFree (va_recv hK hP (ci := nMem) (q0 := 1) rfl rfl) rfl d_FK_release_59) (c_Mem_setFree K0 ad r σ16 ((σ.1 2 (j2 * 4 + j7)) - 1) (by omega)) (hl.1.trans hml.symm) (Nat.le_of_ble_eq_true rfl) ⟨Nat.le_of_ble_eq_true rfl, Nat.le_of_ble_eq_true rfl, Nat.le_of_ble_eq_true rfl, Nat.le_of_ble_eq_true rfl⟩ (fun U hU hW => ⟨hE.go hW hU hS, by rw [hU]; exact hP, hD⟩) hS (fun H locs hP hD hS => ?_)
            obtain ⟨σ17, eσ17⟩ : ∃ z : kS, z = (m_become σ16 ((σ.1 2 (j2 * 4 + j7)) - 1) 0 0) := ⟨_, rfl⟩
            have hP : va_P D vwCl (wC ad cI r σ17) H := by rw [eσ17]; exact hP
            have hD : va_D (kA s0) (wC ad cI r σ17) := by rw [eσ17]; exact hD
            refine lv_iload_n hx hb d_FK_release_62 rfl (lv_at hl 0 rfl) ?_
            exact k_retWI hx hb hr hlocks d_FK_release_63 hP hD hS (by (try rw [pI_pred hnz]); subst eσ17 eσ16; first | rfl | (simp [sp_release, inr, req, wit, eIA, eIS, eUO, eNS, hq1, hq6, hq11, hq12, h15]; done) | (simp [sp_release, inr, req, wit, eIA, eIS, eUO, eNS, hq1, hq6, hq11, hq12, h15]; rfl) | (simp [sp_release, inr, req, wit, eIA, eIS, eUO, eNS, hq1, hq6, hq11, hq12, beq_iff_eq.mpr h15]; done) | (simp [sp_release, inr, req, wit, eIA, eIS, eUO, eNS, hq1, hq6, hq11, hq12, beq_iff_eq.mpr h15]; rfl) | (simp only [sp_release, inr, req, wit, eIA, eIS, eUO, eNS, hq1, hq6, hq11, hq12, h15]; rfl))
          · exact k_throw hx hb K0.tr hown (text := "the table still has an entry") (names := kNames) (by decide +kernel) (by decide +kernel) (hts _ tw_220) (hts _ tw_10) (K0.str hE sr_102) (K0.own hE oa_57) (hl.1.trans hml.symm) d_FK_release_35 d_FK_release_38 d_FK_release_39 d_FK_release_41 d_FK_release_44 hex hlocks ⟨Nat.le_of_ble_eq_true rfl, Nat.le_of_ble_eq_true rfl, Nat.le_of_ble_eq_true rfl, Nat.le_of_ble_eq_true rfl⟩ (by (try rw [pI_pred hnz]); first | rfl | (simp [sp_release, inr, req, wit, eIA, eIS, eUO, eNS, hq1, hq6, hq11, hq12, h15, beq_false_of_ne h15, bne_iff_ne.mpr h15]; done) | (simp [sp_release, inr, req, wit, eIA, eIS, eUO, eNS, hq1, hq6, hq11, hq12, h15, beq_false_of_ne h15, bne_iff_ne.mpr h15]; rfl) | (simp [sp_release, inr, req, wit, eIA, eIS, eUO, eNS, hq1, hq6, hq11, hq12, h15, beq_false_of_ne h15, bne_iff_ne.mpr h15]; done) | (simp [sp_release, inr, req, wit, eIA, eIS, eUO, eNS, hq1, hq6, hq11, hq12, h15, beq_false_of_ne h15, bne_iff_ne.mpr h15]; rfl) | (simp only [sp_release, inr, req, wit, eIA, eIS, eUO, eNS, hq1, hq6, hq11, hq12, h15, beq_false_of_ne h15, bne_iff_ne.mpr h15]; rfl))
set_option maxHeartbeats 4000000 in
set_option maxRecDepth 100000 in
theorem c_FK_start {l : Launch} {s0 : State} {a0 : Array Value} {D : va_G} {cI cL : ClassId} (K0 : k0 l s0 a0 D cI cL) (ad : Nat → Nat) (r : va_W) (σ : kS) (x : Int32) (ok : kOk σ) : kMet l y_FK_start (Cond.code y_FK_start b_FK_start 2 (some .int)) (rmL 8) [.ref (ad 0), .int x] (kPre D vwCl s0 (wC ad cI r) σ) (sp_start σ x) (kBw D vwCl s0 (wC ad cI r)) := by
  refine k_of (by decide) (Nat.le_of_ble_eq_true rfl) ?_
  intro p e9 s m below meth c hx hb hr hlocks hown hml hex hpre ls hl
  obtain ⟨hE, hP, hD⟩ := hpre
  obtain ⟨hts, hK⟩ := K0.at (args := ([.ref (ad 0), .int x] : List Value).toArray) hE
  have hl : lv_has ls 2 [(0, .ref (ad 0)), (1, .int x)] := hl
  have hS : va_S (kA s0) s.heap s.heap [] := va_S.rf
  obtain ⟨o1, o2, o3, o4, o5, o6, o7, o8, o9, o10, o0, ⟨oc1, oc2⟩, oc3, or6⟩ := id ok
  have hr0 : σ.1 6 (σ.1 11 0) ≠ 0 := or6 _ oc2 (by omega)
  have hr1 : σ.1 6 (σ.1 11 0) < 21 := o6 _ oc2
  refine lv_iload_n hx hb d_FK_start_0 rfl (lv_at hl 1 rfl) ?_
  rcases hq1 : rg x 1 5 with _ | j2
  · exact k_callE (k_atS (As := [.int x]) hx hb hown hE.1 (K0.w tw_140) rfl k_w9 (hts _ tw_138) (hts _ tw_139) (hts _ tw_1) (by decide) np_FK_checkProcess rfl d_FK_start_1) (kn_n hq1 (c_FK_checkProcess K0 ad r σ x)) (hl.1.trans hml.symm) (Nat.le_of_ble_eq_true rfl) ⟨Nat.le_of_ble_eq_true rfl, Nat.le_of_ble_eq_true rfl, Nat.le_of_ble_eq_true rfl, Nat.le_of_ble_eq_true rfl⟩ (fun U hU hW => ⟨hE.go hW hU hS, by rw [hU]; exact hP, hD⟩) hex hlocks (by first | rfl | (simp [sp_start, inr, req, wit, eIA, eIS, eUO, eNS, hq1]; done) | (simp [sp_start, inr, req, wit, eIA, eIS, eUO, eNS, hq1]; rfl) | (simp [sp_start, inr, req, wit, eIA, eIS, eUO, eNS, hq1]; done) | (simp [sp_start, inr, req, wit, eIA, eIS, eUO, eNS, hq1]; rfl) | (simp only [sp_start, inr, req, wit, eIA, eIS, eUO, eNS, hq1]; rfl))
  · refine k_callR (k_atS (As := [.int x]) hx hb hown hE.1 (K0.w tw_140) rfl k_w9 (hts _ tw_138) (hts _ tw_139) (hts _ tw_1) (by decide) np_FK_checkProcess rfl d_FK_start_1) (kn_s hq1 (c_FK_checkProcess K0 ad r σ x)) (hl.1.trans hml.symm) (Nat.le_of_ble_eq_true rfl) ⟨Nat.le_of_ble_eq_true rfl, Nat.le_of_ble_eq_true rfl, Nat.le_of_ble_eq_true rfl, Nat.le_of_ble_eq_true rfl⟩ (fun U hU hW => ⟨hE.go hW hU hS, by rw [hU]; exact hP, hD⟩) ?_
    obtain ⟨rfl, ha3, hb_4, hc_5⟩ := rg_some hq1
    refine lv_aload_n hx hb d_FK_start_4 rfl (lv_at hl 0 rfl) ?_
    refine lv_iload_n hx hb d_FK_start_5 rfl (lv_at hl 1 rfl) ?_
    refine lv_iconst (v := (nI 1)) hx hb d_FK_start_6 (by decide) ?_
    rcases hq6 : mchild σ j2 1 with _ | _
    · refine k_callR (k_atV (As := [.int (nI j2), .int (nI 1)]) hx hb hown hE.1 (K0.w tw_278) (hts _ tw_275) (hts _ tw_277) (hts _ tw_9005) (hts _ tw_1) (by decide) np_FK_isMyChild (va_recv hK hP (ci := nFK) (q0 := 0) rfl rfl) rfl d_FK_start_7) (kb_f hq6 (c_FK_isMyChild K0 ad r σ j2 1 ok (by omega) (by omega))) (hl.1.trans hml.symm) (Nat.le_of_ble_eq_true rfl) ⟨Nat.le_of_ble_eq_true rfl, Nat.le_of_ble_eq_true rfl, Nat.le_of_ble_eq_true rfl, Nat.le_of_ble_eq_true rfl⟩ (fun U hU hW => ⟨hE.go hW hU hS, by rw [hU]; exact hP, hD⟩) ?_
      refine k_ifN0 (tgt := 23) (by decide) hx hb d_FK_start_10 (by decide) (fun h9 => absurd h9 (by decide)) (fun _ => ?_)
      exact k_throw hx hb K0.tr hown (text := "the process is no embryo of the caller's") (names := kNames) (by decide +kernel) (by decide +kernel) (hts _ tw_220) (hts _ tw_10) (K0.str hE sr_113) (K0.own hE oa_57) (hl.1.trans hml.symm) d_FK_start_13 d_FK_start_16 d_FK_start_17 d_FK_start_19 d_FK_start_22 hex hlocks ⟨Nat.le_of_ble_eq_true rfl, Nat.le_of_ble_eq_true rfl, Nat.le_of_ble_eq_true rfl, Nat.le_of_ble_eq_true rfl⟩ (by first | rfl | (simp [sp_start, inr, req, wit, eIA, eIS, eUO, eNS, hq1, hq6]; done) | (simp [sp_start, inr, req, wit, eIA, eIS, eUO, eNS, hq1, hq6]; rfl) | (simp [sp_start, inr, req, wit, eIA, eIS, eUO, eNS, hq1, hq6]; done) | (simp [sp_start, inr, req, wit, eIA, eIS, eUO, eNS, hq1, hq6]; rfl) | (simp only [sp_start, inr, req, wit, eIA, eIS, eUO, eNS, hq1, hq6]; rfl))
    · refine k_callR (k_atV (As := [.int (nI j2), .int (nI 1)]) hx hb hown hE.1 (K0.w tw_278) (hts _ tw_275) (hts _ tw_277) (hts _ tw_9005) (hts _ tw_1) (by decide) np_FK_isMyChild (va_recv hK hP (ci := nFK) (q0 := 0) rfl rfl) rfl d_FK_start_7) (kb_t hq6 (c_FK_isMyChild K0 ad r σ j2 1 ok (by omega) (by omega))) (hl.1.trans hml.symm) (Nat.le_of_ble_eq_true rfl) ⟨Nat.le_of_ble_eq_true rfl, Nat.le_of_ble_eq_true rfl, Nat.le_of_ble_eq_true rfl, Nat.le_of_ble_eq_true rfl⟩ (fun U hU hW => ⟨hE.go hW hU hS, by rw [hU]; exact hP, hD⟩) ?_
      have hst9 := mchild_st hq6
      have hr6 : σ.1 6 j2 ≠ 0 := or6 _ (by omega) (by omega)
      have ho6 := o6 j2 (by omega)
      refine k_ifN0 (tgt := 23) (by decide) hx hb d_FK_start_10 (by decide) (fun _ => ?_) (fun h9 => absurd h9 (by decide))
      refine lv_aload_n hx hb d_FK_start_23 rfl (lv_at hl 0 rfl) ?_
      refine va_get (D := D) (ci := nFK) (v := .ref (ad 2)) (C := R_FK) (T := T_FK) (N := 4) hx hb hts i_FK hown hK hP 0 rfl rfl 1 (by decide) (hts _ tw_117) (fun _ h9 => h9) rfl d_FK_start_24 ?_
      refine lv_iload_n hx hb d_FK_start_27 rfl (lv_at hl 1 rfl) ?_
      refine lv_iconst (v := (nI 2)) hx hb d_FK_start_28 (by decide) ?_
      refine k_callW (k_atV (As := [.int (nI j2), .int (nI 2)]) hx hb hown hE.1 (K0.w tw_387) (hts _ tw_384) (hts _ tw_385) (hts _ tw_386) (hts _ tw_3) (by decide) np_Pro_setState (va_recv hK hP (ci := nPro) (q0 := 2) rfl rfl) rfl d_FK_start_29) (c_Pro_setState K0 ad r σ j2 2 (by omega)) (hl.1.trans hml.symm) (Nat.le_of_ble_eq_true rfl) ⟨Nat.le_of_ble_eq_true rfl, Nat.le_of_ble_eq_true rfl, Nat.le_of_ble_eq_true rfl, Nat.le_of_ble_eq_true rfl⟩ (fun U hU hW => ⟨hE.go hW hU hS, by rw [hU]; exact hP, hD⟩) hS (fun H locs hP hD hS => ?_)
      obtain ⟨σ7, eσ7⟩ : ∃ z : kS, z = (st σ 4 j2 2) := ⟨_, rfl⟩
      have hP : va_P D vwCl (wC ad cI r σ7) H := by rw [eσ7]; exact hP
      have hD : va_D (kA s0) (wC ad cI r σ7) := by rw [eσ7]; exact hD
      refine lv_iconst (v := (nI 1)) hx hb d_FK_start_32 (by decide) ?_
      exact k_retWI hx hb hr hlocks d_FK_start_33 hP hD hS (by subst eσ7; first | rfl | (simp [sp_start, inr, req, wit, eIA, eIS, eUO, eNS, hq1, hq6]; done) | (simp [sp_start, inr, req, wit, eIA, eIS, eUO, eNS, hq1, hq6]; rfl) | (simp [sp_start, inr, req, wit, eIA, eIS, eUO, eNS, hq1, hq6]; done) | (simp [sp_start, inr, req, wit, eIA, eIS, eUO, eNS, hq1, hq6]; rfl) | (simp only [sp_start, inr, req, wit, eIA, eIS, eUO, eNS, hq1, hq6]; rfl))
set_option maxHeartbeats 4000000 in
set_option maxRecDepth 100000 in
theorem c_FK_give {l : Launch} {s0 : State} {a0 : Array Value} {D : va_G} {cI cL : ClassId} (K0 : k0 l s0 a0 D cI cL) (ad : Nat → Nat) (r : va_W) (σ : kS) (x : Int32) (ok : kOk σ) : kMet l y_FK_give (Cond.code y_FK_give b_FK_give 3 (some .int)) (rmL 8) [.ref (ad 0), .int x] (kPre D vwCl s0 (wC ad cI r) σ) (sp_give σ x) (kBw D vwCl s0 (wC ad cI r)) := by
  refine k_of (by decide) (Nat.le_of_ble_eq_true rfl) ?_
  intro p e9 s m below meth c hx hb hr hlocks hown hml hex hpre ls hl
  obtain ⟨hE, hP, hD⟩ := hpre
  obtain ⟨hts, hK⟩ := K0.at (args := ([.ref (ad 0), .int x] : List Value).toArray) hE
  have hl : lv_has ls 3 [(0, .ref (ad 0)), (1, .int x)] := hl
  have hS : va_S (kA s0) s.heap s.heap [] := va_S.rf
  obtain ⟨o1, o2, o3, o4, o5, o6, o7, o8, o9, o10, o0, ⟨oc1, oc2⟩, oc3, or6⟩ := id ok
  have hr0 : σ.1 6 (σ.1 11 0) ≠ 0 := or6 _ oc2 (by omega)
  have hr1 : σ.1 6 (σ.1 11 0) < 21 := o6 _ oc2
  refine lv_iload_n hx hb d_FK_give_0 rfl (lv_at hl 1 rfl) ?_
  rcases hq1 : rg x 1 5 with _ | j2
  · exact k_callE (k_atS (As := [.int x]) hx hb hown hE.1 (K0.w tw_140) rfl k_w9 (hts _ tw_138) (hts _ tw_139) (hts _ tw_1) (by decide) np_FK_checkProcess rfl d_FK_give_1) (kn_n hq1 (c_FK_checkProcess K0 ad r σ x)) (hl.1.trans hml.symm) (Nat.le_of_ble_eq_true rfl) ⟨Nat.le_of_ble_eq_true rfl, Nat.le_of_ble_eq_true rfl, Nat.le_of_ble_eq_true rfl, Nat.le_of_ble_eq_true rfl⟩ (fun U hU hW => ⟨hE.go hW hU hS, by rw [hU]; exact hP, hD⟩) hex hlocks (by first | rfl | (simp [sp_give, inr, req, wit, eIA, eIS, eUO, eNS, hq1]; done) | (simp [sp_give, inr, req, wit, eIA, eIS, eUO, eNS, hq1]; rfl) | (simp [sp_give, inr, req, wit, eIA, eIS, eUO, eNS, hq1]; done) | (simp [sp_give, inr, req, wit, eIA, eIS, eUO, eNS, hq1]; rfl) | (simp only [sp_give, inr, req, wit, eIA, eIS, eUO, eNS, hq1]; rfl))
  · refine k_callR (k_atS (As := [.int x]) hx hb hown hE.1 (K0.w tw_140) rfl k_w9 (hts _ tw_138) (hts _ tw_139) (hts _ tw_1) (by decide) np_FK_checkProcess rfl d_FK_give_1) (kn_s hq1 (c_FK_checkProcess K0 ad r σ x)) (hl.1.trans hml.symm) (Nat.le_of_ble_eq_true rfl) ⟨Nat.le_of_ble_eq_true rfl, Nat.le_of_ble_eq_true rfl, Nat.le_of_ble_eq_true rfl, Nat.le_of_ble_eq_true rfl⟩ (fun U hU hW => ⟨hE.go hW hU hS, by rw [hU]; exact hP, hD⟩) ?_
    obtain ⟨rfl, ha3, hb_4, hc_5⟩ := rg_some hq1
    refine lv_aload_n hx hb d_FK_give_4 rfl (lv_at hl 0 rfl) ?_
    refine lv_iload_n hx hb d_FK_give_5 rfl (lv_at hl 1 rfl) ?_
    rcases hq6 : (σ.1 4 j2 == 2) with _ | _
    · exact k_callE (k_atV (As := [.int (nI j2)]) hx hb hown hE.1 (K0.w tw_398) (hts _ tw_395) (hts _ tw_397) (hts _ tw_9007) (hts _ tw_1) (by decide) np_FK_checkIsReady (va_recv hK hP (ci := nFK) (q0 := 0) rfl rfl) rfl d_FK_give_6) (kr_f hq6 (c_FK_checkIsReady K0 ad r σ j2 ok (by omega) )) (hl.1.trans hml.symm) (Nat.le_of_ble_eq_true rfl) ⟨Nat.le_of_ble_eq_true rfl, Nat.le_of_ble_eq_true rfl, Nat.le_of_ble_eq_true rfl, Nat.le_of_ble_eq_true rfl⟩ (fun U hU hW => ⟨hE.go hW hU hS, by rw [hU]; exact hP, hD⟩) hex hlocks (by first | rfl | (simp [sp_give, inr, req, wit, eIA, eIS, eUO, eNS, hq1, hq6]; done) | (simp [sp_give, inr, req, wit, eIA, eIS, eUO, eNS, hq1, hq6]; rfl) | (simp [sp_give, inr, req, wit, eIA, eIS, eUO, eNS, hq1, hq6]; done) | (simp [sp_give, inr, req, wit, eIA, eIS, eUO, eNS, hq1, hq6]; rfl) | (simp only [sp_give, inr, req, wit, eIA, eIS, eUO, eNS, hq1, hq6]; rfl))
    · refine k_callR (k_atV (As := [.int (nI j2)]) hx hb hown hE.1 (K0.w tw_398) (hts _ tw_395) (hts _ tw_397) (hts _ tw_9007) (hts _ tw_1) (by decide) np_FK_checkIsReady (va_recv hK hP (ci := nFK) (q0 := 0) rfl rfl) rfl d_FK_give_6) (kr_t hq6 (c_FK_checkIsReady K0 ad r σ j2 ok (by omega) )) (hl.1.trans hml.symm) (Nat.le_of_ble_eq_true rfl) ⟨Nat.le_of_ble_eq_true rfl, Nat.le_of_ble_eq_true rfl, Nat.le_of_ble_eq_true rfl, Nat.le_of_ble_eq_true rfl⟩ (fun U hU hW => ⟨hE.go hW hU hS, by rw [hU]; exact hP, hD⟩) ?_
      refine lv_aload_n hx hb d_FK_give_9 rfl (lv_at hl 0 rfl) ?_
      refine va_get (D := D) (ci := nFK) (v := .int (nI (σ.1 11 0))) (C := R_FK) (T := T_FK) (N := 4) hx hb hts i_FK hown hK hP 0 rfl rfl 3 (by decide) (hts _ tw_119) (fun _ h9 => h9) rfl d_FK_give_10 ?_
      refine lv_istore_n (lv' := [(2, .int (nI (σ.1 11 0))), (0, .ref (ad 0)), (1, .int (nI j2))]) hx hb d_FK_give_13 rfl hl (by decide) rfl (fun ls hl => ?_)
      refine lv_aload_n hx hb d_FK_give_14 rfl (lv_at hl 1 rfl) ?_
      refine va_get (D := D) (ci := nFK) (v := .ref (ad 2)) (C := R_FK) (T := T_FK) (N := 4) hx hb hts i_FK hown hK hP 0 rfl rfl 1 (by decide) (hts _ tw_117) (fun _ h9 => h9) rfl d_FK_give_15 ?_
      refine lv_iload_n hx hb d_FK_give_18 rfl (lv_at hl 0 rfl) ?_
      refine lv_iconst (v := (nI 2)) hx hb d_FK_give_19 (by decide) ?_
      refine k_callW (k_atV (As := [.int (nI (σ.1 11 0)), .int (nI 2)]) hx hb hown hE.1 (K0.w tw_387) (hts _ tw_384) (hts _ tw_385) (hts _ tw_386) (hts _ tw_3) (by decide) np_Pro_setState (va_recv hK hP (ci := nPro) (q0 := 2) rfl rfl) rfl d_FK_give_20) (c_Pro_setState K0 ad r σ (σ.1 11 0) 2 (by omega)) (hl.1.trans hml.symm) (Nat.le_of_ble_eq_true rfl) ⟨Nat.le_of_ble_eq_true rfl, Nat.le_of_ble_eq_true rfl, Nat.le_of_ble_eq_true rfl, Nat.le_of_ble_eq_true rfl⟩ (fun U hU hW => ⟨hE.go hW hU hS, by rw [hU]; exact hP, hD⟩) hS (fun H locs hP hD hS => ?_)
      obtain ⟨σ7, eσ7⟩ : ∃ z : kS, z = (st σ 4 (σ.1 11 0) 2) := ⟨_, rfl⟩
      have hP : va_P D vwCl (wC ad cI r σ7) H := by rw [eσ7]; exact hP
      have hD : va_D (kA s0) (wC ad cI r σ7) := by rw [eσ7]; exact hD
      refine lv_aload_n hx hb d_FK_give_23 rfl (lv_at hl 1 rfl) ?_
      refine lv_iload_n hx hb d_FK_give_24 rfl (lv_at hl 2 rfl) ?_
      refine k_callW (k_atV (As := [.int (nI j2)]) hx hb hown hE.1 (K0.w tw_403) (hts _ tw_400) (hts _ tw_402) (hts _ tw_9008) (hts _ tw_1) (by decide) np_FK_run (va_recv hK hP (ci := nFK) (q0 := 0) rfl rfl) rfl d_FK_give_25) (c_FK_run K0 ad r σ7 j2 (by omega)) (hl.1.trans hml.symm) (Nat.le_of_ble_eq_true rfl) ⟨Nat.le_of_ble_eq_true rfl, Nat.le_of_ble_eq_true rfl, Nat.le_of_ble_eq_true rfl, Nat.le_of_ble_eq_true rfl⟩ (fun U hU hW => ⟨hE.go hW hU hS, by rw [hU]; exact hP, hD⟩) hS (fun H locs hP hD hS => ?_)
      obtain ⟨σ8, eσ8⟩ : ∃ z : kS, z = (m_run σ7 j2) := ⟨_, rfl⟩
      have hP : va_P D vwCl (wC ad cI r σ8) H := by rw [eσ8]; exact hP
      have hD : va_D (kA s0) (wC ad cI r σ8) := by rw [eσ8]; exact hD
      refine lv_iload_n hx hb d_FK_give_28 rfl (lv_at hl 0 rfl) ?_
      exact k_retWI hx hb hr hlocks d_FK_give_29 hP hD hS (by subst eσ8 eσ7; first | rfl | (simp [sp_give, inr, req, wit, eIA, eIS, eUO, eNS, hq1, hq6]; done) | (simp [sp_give, inr, req, wit, eIA, eIS, eUO, eNS, hq1, hq6]; rfl) | (simp [sp_give, inr, req, wit, eIA, eIS, eUO, eNS, hq1, hq6]; done) | (simp [sp_give, inr, req, wit, eIA, eIS, eUO, eNS, hq1, hq6]; rfl) | (simp only [sp_give, inr, req, wit, eIA, eIS, eUO, eNS, hq1, hq6]; rfl))
end
section
/-! The calls, second half. Laid by a program of mine (wip/gen). -/
set_option maxHeartbeats 4000000 in
set_option maxRecDepth 100000 in
theorem c_FK_kill {l : Launch} {s0 : State} {a0 : Array Value} {D : va_G} {cI cL : ClassId} (K0 : k0 l s0 a0 D cI cL) (ad : Nat → Nat) (r : va_W) (σ : kS) (x : Int32) (ok : kOk σ) : kMet l y_FK_kill (Cond.code y_FK_kill b_FK_kill 2 (some .int)) (rmL 8) [.ref (ad 0), .int x] (kPre D vwCl s0 (wC ad cI r) σ) (sp_kill σ x) (kBw D vwCl s0 (wC ad cI r)) := by
  refine k_of (by decide) (Nat.le_of_ble_eq_true rfl) ?_
  intro p e9 s m below meth c hx hb hr hlocks hown hml hex hpre ls hl
  obtain ⟨hE, hP, hD⟩ := hpre
  obtain ⟨hts, hK⟩ := K0.at (args := ([.ref (ad 0), .int x] : List Value).toArray) hE
  have hl : lv_has ls 2 [(0, .ref (ad 0)), (1, .int x)] := hl
  have hS : va_S (kA s0) s.heap s.heap [] := va_S.rf
  obtain ⟨o1, o2, o3, o4, o5, o6, o7, o8, o9, o10, o0, ⟨oc1, oc2⟩, oc3, or6⟩ := id ok
  have hr0 : σ.1 6 (σ.1 11 0) ≠ 0 := or6 _ oc2 (by omega)
  have hr1 : σ.1 6 (σ.1 11 0) < 21 := o6 _ oc2
  refine lv_iload_n hx hb d_FK_kill_0 rfl (lv_at hl 1 rfl) ?_
  rcases hq1 : rg x 1 5 with _ | j2
  · exact k_callE (k_atS (As := [.int x]) hx hb hown hE.1 (K0.w tw_140) rfl k_w9 (hts _ tw_138) (hts _ tw_139) (hts _ tw_1) (by decide) np_FK_checkProcess rfl d_FK_kill_1) (kn_n hq1 (c_FK_checkProcess K0 ad r σ x)) (hl.1.trans hml.symm) (Nat.le_of_ble_eq_true rfl) ⟨Nat.le_of_ble_eq_true rfl, Nat.le_of_ble_eq_true rfl, Nat.le_of_ble_eq_true rfl, Nat.le_of_ble_eq_true rfl⟩ (fun U hU hW => ⟨hE.go hW hU hS, by rw [hU]; exact hP, hD⟩) hex hlocks (by first | rfl | (simp [sp_kill, inr, req, wit, eIA, eIS, eUO, eNS, hq1]; done) | (simp [sp_kill, inr, req, wit, eIA, eIS, eUO, eNS, hq1]; rfl) | (simp [sp_kill, inr, req, wit, eIA, eIS, eUO, eNS, hq1]; done) | (simp [sp_kill, inr, req, wit, eIA, eIS, eUO, eNS, hq1]; rfl) | (simp only [sp_kill, inr, req, wit, eIA, eIS, eUO, eNS, hq1]; rfl))
  · refine k_callR (k_atS (As := [.int x]) hx hb hown hE.1 (K0.w tw_140) rfl k_w9 (hts _ tw_138) (hts _ tw_139) (hts _ tw_1) (by decide) np_FK_checkProcess rfl d_FK_kill_1) (kn_s hq1 (c_FK_checkProcess K0 ad r σ x)) (hl.1.trans hml.symm) (Nat.le_of_ble_eq_true rfl) ⟨Nat.le_of_ble_eq_true rfl, Nat.le_of_ble_eq_true rfl, Nat.le_of_ble_eq_true rfl, Nat.le_of_ble_eq_true rfl⟩ (fun U hU hW => ⟨hE.go hW hU hS, by rw [hU]; exact hP, hD⟩) ?_
    obtain ⟨rfl, ha3, hb_4, hc_5⟩ := rg_some hq1
    refine lv_iload_n hx hb d_FK_kill_4 rfl (lv_at hl 1 rfl) ?_
    refine lv_iconst (v := (nI 1)) hx hb d_FK_kill_5 (by decide) ?_
    refine k_neN (tgt := 19) (by omega) (by omega) hx hb d_FK_kill_6 (by decide) (fun h6 => ?_) (fun h6 => ?_)
    · refine lv_iload_n hx hb d_FK_kill_19 rfl (lv_at hl 1 rfl) ?_
      refine lv_aload_n hx hb d_FK_kill_20 rfl (lv_at hl 0 rfl) ?_
      refine va_get (D := D) (ci := nFK) (v := .int (nI (σ.1 11 0))) (C := R_FK) (T := T_FK) (N := 4) hx hb hts i_FK hown hK hP 0 rfl rfl 3 (by decide) (hts _ tw_119) (fun _ h9 => h9) rfl d_FK_kill_21 ?_
      refine k_neN (tgt := 34) (by omega) (by omega) hx hb d_FK_kill_24 (by decide) (fun h7 => ?_) (fun h7 => ?_)
      · refine lv_aload_n hx hb d_FK_kill_34 rfl (lv_at hl 0 rfl) ?_
        refine lv_iload_n hx hb d_FK_kill_35 rfl (lv_at hl 1 rfl) ?_
        rcases hq8 : mlive σ j2 with _ | _
        · refine k_callR (k_atV (As := [.int (nI j2)]) hx hb hown hE.1 (K0.w tw_424) (hts _ tw_421) (hts _ tw_423) (hts _ tw_9010) (hts _ tw_1) (by decide) np_FK_isMyLivingChild (va_recv hK hP (ci := nFK) (q0 := 0) rfl rfl) rfl d_FK_kill_36) (kb_f hq8 (c_FK_isMyLivingChild K0 ad r σ j2 ok (by omega))) (hl.1.trans hml.symm) (Nat.le_of_ble_eq_true rfl) ⟨Nat.le_of_ble_eq_true rfl, Nat.le_of_ble_eq_true rfl, Nat.le_of_ble_eq_true rfl, Nat.le_of_ble_eq_true rfl⟩ (fun U hU hW => ⟨hE.go hW hU hS, by rw [hU]; exact hP, hD⟩) ?_
          refine k_ifN0 (tgt := 52) (by decide) hx hb d_FK_kill_39 (by decide) (fun h9 => absurd h9 (by decide)) (fun _ => ?_)
          exact k_throw hx hb K0.tr hown (text := "the process is not the caller or a living child of it") (names := kNames) (by decide +kernel) (by decide +kernel) (hts _ tw_220) (hts _ tw_10) (K0.str hE sr_133) (K0.own hE oa_57) (hl.1.trans hml.symm) d_FK_kill_42 d_FK_kill_45 d_FK_kill_46 d_FK_kill_48 d_FK_kill_51 hex hlocks ⟨Nat.le_of_ble_eq_true rfl, Nat.le_of_ble_eq_true rfl, Nat.le_of_ble_eq_true rfl, Nat.le_of_ble_eq_true rfl⟩ (by first | rfl | (simp [sp_kill, inr, req, wit, eIA, eIS, eUO, eNS, hq1, h6, h7, hq8, beq_false_of_ne h6, beq_false_of_ne h7, bne_iff_ne.mpr h6, bne_iff_ne.mpr h7]; done) | (simp [sp_kill, inr, req, wit, eIA, eIS, eUO, eNS, hq1, h6, h7, hq8, beq_false_of_ne h6, beq_false_of_ne h7, bne_iff_ne.mpr h6, bne_iff_ne.mpr h7]; rfl) | (simp [sp_kill, inr, req, wit, eIA, eIS, eUO, eNS, hq1, h6, h7, hq8, beq_false_of_ne h6, beq_false_of_ne h7, bne_iff_ne.mpr h6, bne_iff_ne.mpr h7]; done) | (simp [sp_kill, inr, req, wit, eIA, eIS, eUO, eNS, hq1, h6, h7, hq8, beq_false_of_ne h6, beq_false_of_ne h7, bne_iff_ne.mpr h6, bne_iff_ne.mpr h7]; rfl) | (simp only [sp_kill, inr, req, wit, eIA, eIS, eUO, eNS, hq1, h6, h7, hq8, beq_false_of_ne h6, beq_false_of_ne h7, bne_iff_ne.mpr h6, bne_iff_ne.mpr h7]; rfl))
        · refine k_callR (k_atV (As := [.int (nI j2)]) hx hb hown hE.1 (K0.w tw_424) (hts _ tw_421) (hts _ tw_423) (hts _ tw_9010) (hts _ tw_1) (by decide) np_FK_isMyLivingChild (va_recv hK hP (ci := nFK) (q0 := 0) rfl rfl) rfl d_FK_kill_36) (kb_t hq8 (c_FK_isMyLivingChild K0 ad r σ j2 ok (by omega))) (hl.1.trans hml.symm) (Nat.le_of_ble_eq_true rfl) ⟨Nat.le_of_ble_eq_true rfl, Nat.le_of_ble_eq_true rfl, Nat.le_of_ble_eq_true rfl, Nat.le_of_ble_eq_true rfl⟩ (fun U hU hW => ⟨hE.go hW hU hS, by rw [hU]; exact hP, hD⟩) ?_
          refine k_ifN0 (tgt := 52) (by decide) hx hb d_FK_kill_39 (by decide) (fun _ => ?_) (fun h9 => absurd h9 (by decide))
          refine lv_aload_n hx hb d_FK_kill_52 rfl (lv_at hl 0 rfl) ?_
          refine va_get (D := D) (ci := nFK) (v := .ref (ad 2)) (C := R_FK) (T := T_FK) (N := 4) hx hb hts i_FK hown hK hP 0 rfl rfl 1 (by decide) (hts _ tw_117) (fun _ h9 => h9) rfl d_FK_kill_53 ?_
          refine lv_iload_n hx hb d_FK_kill_56 rfl (lv_at hl 1 rfl) ?_
          refine lv_iconst (v := (nI 5)) hx hb d_FK_kill_57 (by decide) ?_
          refine k_callW (k_atV (As := [.int (nI j2), .int (nI 5)]) hx hb hown hE.1 (K0.w tw_387) (hts _ tw_384) (hts _ tw_385) (hts _ tw_386) (hts _ tw_3) (by decide) np_Pro_setState (va_recv hK hP (ci := nPro) (q0 := 2) rfl rfl) rfl d_FK_kill_58) (c_Pro_setState K0 ad r σ j2 5 (by omega)) (hl.1.trans hml.symm) (Nat.le_of_ble_eq_true rfl) ⟨Nat.le_of_ble_eq_true rfl, Nat.le_of_ble_eq_true rfl, Nat.le_of_ble_eq_true rfl, Nat.le_of_ble_eq_true rfl⟩ (fun U hU hW => ⟨hE.go hW hU hS, by rw [hU]; exact hP, hD⟩) hS (fun H locs hP hD hS => ?_)
          obtain ⟨σ9, eσ9⟩ : ∃ z : kS, z = (st σ 4 j2 5) := ⟨_, rfl⟩
          have hP : va_P D vwCl (wC ad cI r σ9) H := by rw [eσ9]; exact hP
          have hD : va_D (kA s0) (wC ad cI r σ9) := by rw [eσ9]; exact hD
          refine lv_aload_n hx hb d_FK_kill_61 rfl (lv_at hl 0 rfl) ?_
          refine va_get (D := D) (ci := nFK) (v := .ref (ad 2)) (C := R_FK) (T := T_FK) (N := 4) hx hb hts i_FK hown hK hP 0 rfl rfl 1 (by decide) (hts _ tw_117) (fun _ h9 => h9) rfl d_FK_kill_62 ?_
          refine lv_iload_n hx hb d_FK_kill_65 rfl (lv_at hl 1 rfl) ?_
          refine k_callR (k_atV (As := [.int (nI j2)]) hx hb hown hE.1 (K0.w tw_429) (hts _ tw_426) (hts _ tw_427) (hts _ tw_428) (hts _ tw_3) (by decide) np_Pro_descriptorsInUse (va_recv hK hP (ci := nPro) (q0 := 2) rfl rfl) rfl d_FK_kill_66) (c_Pro_descriptorsInUse K0 ad r σ9 j2 (by omega) (by subst eσ9; first | exact ok.b7 | exact st_b ok.b7 (by omega))) (hl.1.trans hml.symm) (Nat.le_of_ble_eq_true rfl) ⟨Nat.le_of_ble_eq_true rfl, Nat.le_of_ble_eq_true rfl, Nat.le_of_ble_eq_true rfl, Nat.le_of_ble_eq_true rfl⟩ (fun U hU hW => ⟨hE.go hW hU hS, by rw [hU]; exact hP, hD⟩) ?_
          have hc10 : (inuse σ9 j2) ≤ 4 := cnt_le _ _
          exact k_retWI hx hb hr hlocks d_FK_kill_69 hP hD hS (by subst eσ9; first | rfl | (simp [sp_kill, inr, req, wit, eIA, eIS, eUO, eNS, hq1, h6, h7, hq8, beq_false_of_ne h6, beq_false_of_ne h7, bne_iff_ne.mpr h6, bne_iff_ne.mpr h7]; done) | (simp [sp_kill, inr, req, wit, eIA, eIS, eUO, eNS, hq1, h6, h7, hq8, beq_false_of_ne h6, beq_false_of_ne h7, bne_iff_ne.mpr h6, bne_iff_ne.mpr h7]; rfl) | (simp [sp_kill, inr, req, wit, eIA, eIS, eUO, eNS, hq1, h6, h7, hq8, beq_false_of_ne h6, beq_false_of_ne h7, bne_iff_ne.mpr h6, bne_iff_ne.mpr h7]; done) | (simp [sp_kill, inr, req, wit, eIA, eIS, eUO, eNS, hq1, h6, h7, hq8, beq_false_of_ne h6, beq_false_of_ne h7, bne_iff_ne.mpr h6, bne_iff_ne.mpr h7]; rfl) | (simp only [sp_kill, inr, req, wit, eIA, eIS, eUO, eNS, hq1, h6, h7, hq8, beq_false_of_ne h6, beq_false_of_ne h7, bne_iff_ne.mpr h6, bne_iff_ne.mpr h7]; rfl))
      · refine lv_aload_n hx hb d_FK_kill_27 rfl (lv_at hl 0 rfl) ?_
        rcases hq11 : (nxr σ (σ.1 11 0) != 0) with _ | _
        · exact k_callE (k_atV (As := []) hx hb hown hE.1 (K0.w tw_415) (hts _ tw_412) (hts _ tw_414) (hts _ tw_9009) (hts _ tw_1) (by decide) np_FK_handOverToNextReady (va_recv hK hP (ci := nFK) (q0 := 0) rfl rfl) rfl d_FK_kill_28) (kr_f hq11 (c_FK_handOverToNextReady K0 ad r σ ok)) (hl.1.trans hml.symm) (Nat.le_of_ble_eq_true rfl) ⟨Nat.le_of_ble_eq_true rfl, Nat.le_of_ble_eq_true rfl, Nat.le_of_ble_eq_true rfl, Nat.le_of_ble_eq_true rfl⟩ (fun U hU hW => ⟨hE.go hW hU hS, by rw [hU]; exact hP, hD⟩) hex hlocks (by first | rfl | (simp [sp_kill, inr, req, wit, eIA, eIS, eUO, eNS, hq1, h6, h7, hq11, beq_false_of_ne h6, bne_iff_ne.mpr h6]; done) | (simp [sp_kill, inr, req, wit, eIA, eIS, eUO, eNS, hq1, h6, h7, hq11, beq_false_of_ne h6, bne_iff_ne.mpr h6]; rfl) | (simp [sp_kill, inr, req, wit, eIA, eIS, eUO, eNS, hq1, h6, hq11, beq_iff_eq.mpr h7, beq_false_of_ne h6, bne_iff_ne.mpr h6]; done) | (simp [sp_kill, inr, req, wit, eIA, eIS, eUO, eNS, hq1, h6, hq11, beq_iff_eq.mpr h7, beq_false_of_ne h6, bne_iff_ne.mpr h6]; rfl) | (simp only [sp_kill, inr, req, wit, eIA, eIS, eUO, eNS, hq1, h6, h7, hq11, beq_false_of_ne h6, bne_iff_ne.mpr h6]; rfl))
        · refine k_callW (k_atV (As := []) hx hb hown hE.1 (K0.w tw_415) (hts _ tw_412) (hts _ tw_414) (hts _ tw_9009) (hts _ tw_1) (by decide) np_FK_handOverToNextReady (va_recv hK hP (ci := nFK) (q0 := 0) rfl rfl) rfl d_FK_kill_28) (kr_t hq11 (c_FK_handOverToNextReady K0 ad r σ ok)) (hl.1.trans hml.symm) (Nat.le_of_ble_eq_true rfl) ⟨Nat.le_of_ble_eq_true rfl, Nat.le_of_ble_eq_true rfl, Nat.le_of_ble_eq_true rfl, Nat.le_of_ble_eq_true rfl⟩ (fun U hU hW => ⟨hE.go hW hU hS, by rw [hU]; exact hP, hD⟩) hS (fun H locs hP hD hS => ?_)
          obtain ⟨σ12, eσ12⟩ : ∃ z : kS, z = (m_run σ (nxr σ (σ.1 11 0))) := ⟨_, rfl⟩
          have hP : va_P D vwCl (wC ad cI r σ12) H := by rw [eσ12]; exact hP
          have hD : va_D (kA s0) (wC ad cI r σ12) := by rw [eσ12]; exact hD
          refine lv_goto (tgt := 52) hx hb d_FK_kill_31 (by decide) ?_
          refine lv_aload_n hx hb d_FK_kill_52 rfl (lv_at hl 0 rfl) ?_
          refine va_get (D := D) (ci := nFK) (v := .ref (ad 2)) (C := R_FK) (T := T_FK) (N := 4) hx hb hts i_FK hown hK hP 0 rfl rfl 1 (by decide) (hts _ tw_117) (fun _ h9 => h9) rfl d_FK_kill_53 ?_
          refine lv_iload_n hx hb d_FK_kill_56 rfl (lv_at hl 1 rfl) ?_
          refine lv_iconst (v := (nI 5)) hx hb d_FK_kill_57 (by decide) ?_
          refine k_callW (k_atV (As := [.int (nI j2), .int (nI 5)]) hx hb hown hE.1 (K0.w tw_387) (hts _ tw_384) (hts _ tw_385) (hts _ tw_386) (hts _ tw_3) (by decide) np_Pro_setState (va_recv hK hP (ci := nPro) (q0 := 2) rfl rfl) rfl d_FK_kill_58) (c_Pro_setState K0 ad r σ12 j2 5 (by omega)) (hl.1.trans hml.symm) (Nat.le_of_ble_eq_true rfl) ⟨Nat.le_of_ble_eq_true rfl, Nat.le_of_ble_eq_true rfl, Nat.le_of_ble_eq_true rfl, Nat.le_of_ble_eq_true rfl⟩ (fun U hU hW => ⟨hE.go hW hU hS, by rw [hU]; exact hP, hD⟩) hS (fun H locs hP hD hS => ?_)
          obtain ⟨σ13, eσ13⟩ : ∃ z : kS, z = (st σ12 4 j2 5) := ⟨_, rfl⟩
          have hP : va_P D vwCl (wC ad cI r σ13) H := by rw [eσ13]; exact hP
          have hD : va_D (kA s0) (wC ad cI r σ13) := by rw [eσ13]; exact hD
          refine lv_aload_n hx hb d_FK_kill_61 rfl (lv_at hl 0 rfl) ?_
          refine va_get (D := D) (ci := nFK) (v := .ref (ad 2)) (C := R_FK) (T := T_FK) (N := 4) hx hb hts i_FK hown hK hP 0 rfl rfl 1 (by decide) (hts _ tw_117) (fun _ h9 => h9) rfl d_FK_kill_62 ?_
          refine lv_iload_n hx hb d_FK_kill_65 rfl (lv_at hl 1 rfl) ?_
          refine k_callR (k_atV (As := [.int (nI j2)]) hx hb hown hE.1 (K0.w tw_429) (hts _ tw_426) (hts _ tw_427) (hts _ tw_428) (hts _ tw_3) (by decide) np_Pro_descriptorsInUse (va_recv hK hP (ci := nPro) (q0 := 2) rfl rfl) rfl d_FK_kill_66) (c_Pro_descriptorsInUse K0 ad r σ13 j2 (by omega) (by subst eσ13 eσ12; first | exact ok.b7 | exact st_b ok.b7 (by omega))) (hl.1.trans hml.symm) (Nat.le_of_ble_eq_true rfl) ⟨Nat.le_of_ble_eq_true rfl, Nat.le_of_ble_eq_true rfl, Nat.le_of_ble_eq_true rfl, Nat.le_of_ble_eq_true rfl⟩ (fun U hU hW => ⟨hE.go hW hU hS, by rw [hU]; exact hP, hD⟩) ?_
          have hc14 : (inuse σ13 j2) ≤ 4 := cnt_le _ _
          exact k_retWI hx hb hr hlocks d_FK_kill_69 hP hD hS (by subst eσ13 eσ12; first | rfl | (simp [sp_kill, inr, req, wit, eIA, eIS, eUO, eNS, hq1, h6, h7, hq11, beq_false_of_ne h6, bne_iff_ne.mpr h6]; done) | (simp [sp_kill, inr, req, wit, eIA, eIS, eUO, eNS, hq1, h6, h7, hq11, beq_false_of_ne h6, bne_iff_ne.mpr h6]; rfl) | (simp [sp_kill, inr, req, wit, eIA, eIS, eUO, eNS, hq1, h6, hq11, beq_iff_eq.mpr h7, beq_false_of_ne h6, bne_iff_ne.mpr h6]; done) | (simp [sp_kill, inr, req, wit, eIA, eIS, eUO, eNS, hq1, h6, hq11, beq_iff_eq.mpr h7, beq_false_of_ne h6, bne_iff_ne.mpr h6]; rfl) | (simp only [sp_kill, inr, req, wit, eIA, eIS, eUO, eNS, hq1, h6, h7, hq11, beq_false_of_ne h6, bne_iff_ne.mpr h6]; rfl))
    · exact k_throw hx hb K0.tr hown (text := "process 1 can't be killed") (names := kNames) (by decide +kernel) (by decide +kernel) (hts _ tw_283) (hts _ tw_11) (K0.str hE sr_124) (K0.own hE oa_95) (hl.1.trans hml.symm) d_FK_kill_9 d_FK_kill_12 d_FK_kill_13 d_FK_kill_15 d_FK_kill_18 hex hlocks ⟨Nat.le_of_ble_eq_true rfl, Nat.le_of_ble_eq_true rfl, Nat.le_of_ble_eq_true rfl, Nat.le_of_ble_eq_true rfl⟩ (by first | rfl | (simp [sp_kill, inr, req, wit, eIA, eIS, eUO, eNS, hq1, h6]; done) | (simp [sp_kill, inr, req, wit, eIA, eIS, eUO, eNS, hq1, h6]; rfl) | (simp [sp_kill, inr, req, wit, eIA, eIS, eUO, eNS, hq1, beq_iff_eq.mpr h6]; done) | (simp [sp_kill, inr, req, wit, eIA, eIS, eUO, eNS, hq1, beq_iff_eq.mpr h6]; rfl) | (simp only [sp_kill, inr, req, wit, eIA, eIS, eUO, eNS, hq1, h6]; rfl))
set_option maxHeartbeats 4000000 in
set_option maxRecDepth 100000 in
theorem c_FK_reap {l : Launch} {s0 : State} {a0 : Array Value} {D : va_G} {cI cL : ClassId} (K0 : k0 l s0 a0 D cI cL) (ad : Nat → Nat) (r : va_W) (σ : kS) (x : Int32) (ok : kOk σ) : kMet l y_FK_reap (Cond.code y_FK_reap b_FK_reap 2 (some .int)) (rmL 8) [.ref (ad 0), .int x] (kPre D vwCl s0 (wC ad cI r) σ) (sp_reap σ x) (kBw D vwCl s0 (wC ad cI r)) := by
  refine k_of (by decide) (Nat.le_of_ble_eq_true rfl) ?_
  intro p e9 s m below meth c hx hb hr hlocks hown hml hex hpre ls hl
  obtain ⟨hE, hP, hD⟩ := hpre
  obtain ⟨hts, hK⟩ := K0.at (args := ([.ref (ad 0), .int x] : List Value).toArray) hE
  have hl : lv_has ls 2 [(0, .ref (ad 0)), (1, .int x)] := hl
  have hS : va_S (kA s0) s.heap s.heap [] := va_S.rf
  obtain ⟨o1, o2, o3, o4, o5, o6, o7, o8, o9, o10, o0, ⟨oc1, oc2⟩, oc3, or6⟩ := id ok
  have hr0 : σ.1 6 (σ.1 11 0) ≠ 0 := or6 _ oc2 (by omega)
  have hr1 : σ.1 6 (σ.1 11 0) < 21 := o6 _ oc2
  refine lv_iload_n hx hb d_FK_reap_0 rfl (lv_at hl 1 rfl) ?_
  rcases hq1 : rg x 1 5 with _ | j2
  · exact k_callE (k_atS (As := [.int x]) hx hb hown hE.1 (K0.w tw_140) rfl k_w9 (hts _ tw_138) (hts _ tw_139) (hts _ tw_1) (by decide) np_FK_checkProcess rfl d_FK_reap_1) (kn_n hq1 (c_FK_checkProcess K0 ad r σ x)) (hl.1.trans hml.symm) (Nat.le_of_ble_eq_true rfl) ⟨Nat.le_of_ble_eq_true rfl, Nat.le_of_ble_eq_true rfl, Nat.le_of_ble_eq_true rfl, Nat.le_of_ble_eq_true rfl⟩ (fun U hU hW => ⟨hE.go hW hU hS, by rw [hU]; exact hP, hD⟩) hex hlocks (by first | rfl | (simp [sp_reap, inr, req, wit, eIA, eIS, eUO, eNS, hq1]; done) | (simp [sp_reap, inr, req, wit, eIA, eIS, eUO, eNS, hq1]; rfl) | (simp [sp_reap, inr, req, wit, eIA, eIS, eUO, eNS, hq1]; done) | (simp [sp_reap, inr, req, wit, eIA, eIS, eUO, eNS, hq1]; rfl) | (simp only [sp_reap, inr, req, wit, eIA, eIS, eUO, eNS, hq1]; rfl))
  · refine k_callR (k_atS (As := [.int x]) hx hb hown hE.1 (K0.w tw_140) rfl k_w9 (hts _ tw_138) (hts _ tw_139) (hts _ tw_1) (by decide) np_FK_checkProcess rfl d_FK_reap_1) (kn_s hq1 (c_FK_checkProcess K0 ad r σ x)) (hl.1.trans hml.symm) (Nat.le_of_ble_eq_true rfl) ⟨Nat.le_of_ble_eq_true rfl, Nat.le_of_ble_eq_true rfl, Nat.le_of_ble_eq_true rfl, Nat.le_of_ble_eq_true rfl⟩ (fun U hU hW => ⟨hE.go hW hU hS, by rw [hU]; exact hP, hD⟩) ?_
    obtain ⟨rfl, ha3, hb_4, hc_5⟩ := rg_some hq1
    refine lv_aload_n hx hb d_FK_reap_4 rfl (lv_at hl 0 rfl) ?_
    refine lv_iload_n hx hb d_FK_reap_5 rfl (lv_at hl 1 rfl) ?_
    refine lv_iconst (v := (nI 5)) hx hb d_FK_reap_6 (by decide) ?_
    rcases hq6 : mchild σ j2 5 with _ | _
    · refine k_callR (k_atV (As := [.int (nI j2), .int (nI 5)]) hx hb hown hE.1 (K0.w tw_278) (hts _ tw_275) (hts _ tw_277) (hts _ tw_9005) (hts _ tw_1) (by decide) np_FK_isMyChild (va_recv hK hP (ci := nFK) (q0 := 0) rfl rfl) rfl d_FK_reap_7) (kb_f hq6 (c_FK_isMyChild K0 ad r σ j2 5 ok (by omega) (by omega))) (hl.1.trans hml.symm) (Nat.le_of_ble_eq_true rfl) ⟨Nat.le_of_ble_eq_true rfl, Nat.le_of_ble_eq_true rfl, Nat.le_of_ble_eq_true rfl, Nat.le_of_ble_eq_true rfl⟩ (fun U hU hW => ⟨hE.go hW hU hS, by rw [hU]; exact hP, hD⟩) ?_
      refine k_ifN0 (tgt := 23) (by decide) hx hb d_FK_reap_10 (by decide) (fun h9 => absurd h9 (by decide)) (fun _ => ?_)
      exact k_throw hx hb K0.tr hown (text := "the process is no zombie of the caller's") (names := kNames) (by decide +kernel) (by decide +kernel) (hts _ tw_220) (hts _ tw_10) (K0.str hE sr_138) (K0.own hE oa_57) (hl.1.trans hml.symm) d_FK_reap_13 d_FK_reap_16 d_FK_reap_17 d_FK_reap_19 d_FK_reap_22 hex hlocks ⟨Nat.le_of_ble_eq_true rfl, Nat.le_of_ble_eq_true rfl, Nat.le_of_ble_eq_true rfl, Nat.le_of_ble_eq_true rfl⟩ (by first | rfl | (simp [sp_reap, inr, req, wit, eIA, eIS, eUO, eNS, hq1, hq6]; done) | (simp [sp_reap, inr, req, wit, eIA, eIS, eUO, eNS, hq1, hq6]; rfl) | (simp [sp_reap, inr, req, wit, eIA, eIS, eUO, eNS, hq1, hq6]; done) | (simp [sp_reap, inr, req, wit, eIA, eIS, eUO, eNS, hq1, hq6]; rfl) | (simp only [sp_reap, inr, req, wit, eIA, eIS, eUO, eNS, hq1, hq6]; rfl))
    · refine k_callR (k_atV (As := [.int (nI j2), .int (nI 5)]) hx hb hown hE.1 (K0.w tw_278) (hts _ tw_275) (hts _ tw_277) (hts _ tw_9005) (hts _ tw_1) (by decide) np_FK_isMyChild (va_recv hK hP (ci := nFK) (q0 := 0) rfl rfl) rfl d_FK_reap_7) (kb_t hq6 (c_FK_isMyChild K0 ad r σ j2 5 ok (by omega) (by omega))) (hl.1.trans hml.symm) (Nat.le_of_ble_eq_true rfl) ⟨Nat.le_of_ble_eq_true rfl, Nat.le_of_ble_eq_true rfl, Nat.le_of_ble_eq_true rfl, Nat.le_of_ble_eq_true rfl⟩ (fun U hU hW => ⟨hE.go hW hU hS, by rw [hU]; exact hP, hD⟩) ?_
      have hst9 := mchild_st hq6
      have hr6 : σ.1 6 j2 ≠ 0 := or6 _ (by omega) (by omega)
      have ho6 := o6 j2 (by omega)
      refine k_ifN0 (tgt := 23) (by decide) hx hb d_FK_reap_10 (by decide) (fun _ => ?_) (fun h9 => absurd h9 (by decide))
      refine lv_aload_n hx hb d_FK_reap_23 rfl (lv_at hl 0 rfl) ?_
      refine lv_iload_n hx hb d_FK_reap_24 rfl (lv_at hl 1 rfl) ?_
      rcases hq7 : mhas σ j2 with _ | _
      · refine k_callR (k_atV (As := [.int (nI j2)]) hx hb hown hE.1 (K0.w tw_445) (hts _ tw_442) (hts _ tw_444) (hts _ tw_9011) (hts _ tw_1) (by decide) np_FK_holdsMoreThanRoot (va_recv hK hP (ci := nFK) (q0 := 0) rfl rfl) rfl d_FK_reap_25) (kb_f hq7 (c_FK_holdsMoreThanRoot K0 ad r σ j2 ok (by omega) (by omega))) (hl.1.trans hml.symm) (Nat.le_of_ble_eq_true rfl) ⟨Nat.le_of_ble_eq_true rfl, Nat.le_of_ble_eq_true rfl, Nat.le_of_ble_eq_true rfl, Nat.le_of_ble_eq_true rfl⟩ (fun U hU hW => ⟨hE.go hW hU hS, by rw [hU]; exact hP, hD⟩) ?_
        refine k_if0 (tgt := 41) (by decide) hx hb d_FK_reap_28 (by decide) (fun _ => ?_) (fun h9 => absurd h9 (by decide))
        refine lv_aload_n hx hb d_FK_reap_41 rfl (lv_at hl 0 rfl) ?_
        refine va_get (D := D) (ci := nFK) (v := .ref (ad 1)) (C := R_FK) (T := T_FK) (N := 4) hx hb hts i_FK hown hK hP 0 rfl rfl 0 (by decide) (hts _ tw_116) (fun _ h9 => h9) rfl d_FK_reap_42 ?_
        refine lv_aload_n hx hb d_FK_reap_45 rfl (lv_at hl 0 rfl) ?_
        refine va_get (D := D) (ci := nFK) (v := .ref (ad 2)) (C := R_FK) (T := T_FK) (N := 4) hx hb hts i_FK hown hK hP 0 rfl rfl 1 (by decide) (hts _ tw_117) (fun _ h9 => h9) rfl d_FK_reap_46 ?_
        refine lv_iload_n hx hb d_FK_reap_49 rfl (lv_at hl 1 rfl) ?_
        refine k_callR (k_atV (As := [.int (nI j2)]) hx hb hown hE.1 (K0.w tw_453) (hts _ tw_450) (hts _ tw_451) (hts _ tw_452) (hts _ tw_3) (by decide) np_Pro_rootOf (va_recv hK hP (ci := nPro) (q0 := 2) rfl rfl) rfl d_FK_reap_50) (c_Pro_rootOf K0 ad r σ j2 (by omega)) (hl.1.trans hml.symm) (Nat.le_of_ble_eq_true rfl) ⟨Nat.le_of_ble_eq_true rfl, Nat.le_of_ble_eq_true rfl, Nat.le_of_ble_eq_true rfl, Nat.le_of_ble_eq_true rfl⟩ (fun U hU hW => ⟨hE.go hW hU hS, by rw [hU]; exact hP, hD⟩) ?_
        have ho8 := o6 j2 (by omega)
        refine k_st (st' := [.int (nI ((σ.1 6 j2) - 1)), .ref (ad 1)]) (by show ([.int (pI (σ.1 6 j2)), .ref (ad 1)] : List Value) = _; rw [pI_pred (t := (σ.1 6 j2)) (by omega)]) ?_
        refine k_callW (k_atV (As := [.int (nI ((σ.1 6 j2) - 1))]) hx hb hown hE.1 (K0.w tw_30) (hts _ tw_375) (hts _ tw_28) (hts _ tw_29) (hts _ tw_2) (by decide) np_Mem_setFree (va_recv hK hP (ci := nMem) (q0 := 1) rfl rfl) rfl d_FK_reap_53) (c_Mem_setFree K0 ad r σ ((σ.1 6 j2) - 1) (by omega)) (hl.1.trans hml.symm) (Nat.le_of_ble_eq_true rfl) ⟨Nat.le_of_ble_eq_true rfl, Nat.le_of_ble_eq_true rfl, Nat.le_of_ble_eq_true rfl, Nat.le_of_ble_eq_true rfl⟩ (fun U hU hW => ⟨hE.go hW hU hS, by rw [hU]; exact hP, hD⟩) hS (fun H locs hP hD hS => ?_)
        obtain ⟨σ9, eσ9⟩ : ∃ z : kS, z = (m_become σ ((σ.1 6 j2) - 1) 0 0) := ⟨_, rfl⟩
        have hP : va_P D vwCl (wC ad cI r σ9) H := by rw [eσ9]; exact hP
        have hD : va_D (kA s0) (wC ad cI r σ9) := by rw [eσ9]; exact hD
        refine lv_aload_n hx hb d_FK_reap_56 rfl (lv_at hl 0 rfl) ?_
        refine va_get (D := D) (ci := nFK) (v := .ref (ad 2)) (C := R_FK) (T := T_FK) (N := 4) hx hb hts i_FK hown hK hP 0 rfl rfl 1 (by decide) (hts _ tw_117) (fun _ h9 => h9) rfl d_FK_reap_57 ?_
        refine lv_iload_n hx hb d_FK_reap_60 rfl (lv_at hl 1 rfl) ?_
        refine k_callW (k_atV (As := [.int (nI j2)]) hx hb hown hE.1 (K0.w tw_73) (hts _ tw_455) (hts _ tw_71) (hts _ tw_72) (hts _ tw_3) (by decide) np_Pro_end (va_recv hK hP (ci := nPro) (q0 := 2) rfl rfl) rfl d_FK_reap_61) (c_Pro_end K0 ad r σ9 j2 (by omega)) (hl.1.trans hml.symm) (Nat.le_of_ble_eq_true rfl) ⟨Nat.le_of_ble_eq_true rfl, Nat.le_of_ble_eq_true rfl, Nat.le_of_ble_eq_true rfl, Nat.le_of_ble_eq_true rfl⟩ (fun U hU hW => ⟨hE.go hW hU hS, by rw [hU]; exact hP, hD⟩) hS (fun H locs hP hD hS => ?_)
        obtain ⟨σ10, eσ10⟩ : ∃ z : kS, z = (m_begin σ9 j2 0 0 0) := ⟨_, rfl⟩
        have hP : va_P D vwCl (wC ad cI r σ10) H := by rw [eσ10]; exact hP
        have hD : va_D (kA s0) (wC ad cI r σ10) := by rw [eσ10]; exact hD
        refine lv_aload_n hx hb d_FK_reap_64 rfl (lv_at hl 0 rfl) ?_
        refine va_get (D := D) (ci := nFK) (v := .ref (ad 2)) (C := R_FK) (T := T_FK) (N := 4) hx hb hts i_FK hown hK hP 0 rfl rfl 1 (by decide) (hts _ tw_117) (fun _ h9 => h9) rfl d_FK_reap_65 ?_
        refine lv_iload_n hx hb d_FK_reap_68 rfl (lv_at hl 1 rfl) ?_
        refine lv_iconst (v := (nI 1)) hx hb d_FK_reap_69 (by decide) ?_
        refine k_callW (k_atV (As := [.int (nI j2), .int (nI 1)]) hx hb hown hE.1 (K0.w tw_459) (hts _ tw_456) (hts _ tw_457) (hts _ tw_458) (hts _ tw_3) (by decide) np_Pro_moveChildren (va_recv hK hP (ci := nPro) (q0 := 2) rfl rfl) rfl d_FK_reap_70) (c_Pro_moveChildren K0 ad r σ10 j2 (by omega) (by subst eσ10 eσ9; exact b5_begin ok)) (hl.1.trans hml.symm) (Nat.le_of_ble_eq_true rfl) ⟨Nat.le_of_ble_eq_true rfl, Nat.le_of_ble_eq_true rfl, Nat.le_of_ble_eq_true rfl, Nat.le_of_ble_eq_true rfl⟩ (fun U hU hW => ⟨hE.go hW hU hS, by rw [hU]; exact hP, hD⟩) hS (fun H locs hP hD hS => ?_)
        obtain ⟨σ11, eσ11⟩ : ∃ z : kS, z = (mv σ10 j2 6) := ⟨_, rfl⟩
        have hP : va_P D vwCl (wC ad cI r σ11) H := by rw [eσ11]; exact hP
        have hD : va_D (kA s0) (wC ad cI r σ11) := by rw [eσ11]; exact hD
        exact k_retWI hx hb hr hlocks d_FK_reap_73 hP hD hS (by subst eσ11 eσ10 eσ9; first | rfl | (simp [sp_reap, inr, req, wit, eIA, eIS, eUO, eNS, hq1, hq6, hq7]; done) | (simp [sp_reap, inr, req, wit, eIA, eIS, eUO, eNS, hq1, hq6, hq7]; rfl) | (simp [sp_reap, inr, req, wit, eIA, eIS, eUO, eNS, hq1, hq6, hq7]; done) | (simp [sp_reap, inr, req, wit, eIA, eIS, eUO, eNS, hq1, hq6, hq7]; rfl) | (simp only [sp_reap, inr, req, wit, eIA, eIS, eUO, eNS, hq1, hq6, hq7]; rfl))
      · refine k_callR (k_atV (As := [.int (nI j2)]) hx hb hown hE.1 (K0.w tw_445) (hts _ tw_442) (hts _ tw_444) (hts _ tw_9011) (hts _ tw_1) (by decide) np_FK_holdsMoreThanRoot (va_recv hK hP (ci := nFK) (q0 := 0) rfl rfl) rfl d_FK_reap_25) (kb_t hq7 (c_FK_holdsMoreThanRoot K0 ad r σ j2 ok (by omega) (by omega))) (hl.1.trans hml.symm) (Nat.le_of_ble_eq_true rfl) ⟨Nat.le_of_ble_eq_true rfl, Nat.le_of_ble_eq_true rfl, Nat.le_of_ble_eq_true rfl, Nat.le_of_ble_eq_true rfl⟩ (fun U hU hW => ⟨hE.go hW hU hS, by rw [hU]; exact hP, hD⟩) ?_
        refine k_if0 (tgt := 41) (by decide) hx hb d_FK_reap_28 (by decide) (fun h9 => absurd h9 (by decide)) (fun _ => ?_)
        exact k_throw hx hb K0.tr hown (text := "the zombie still holds a page or a descriptor") (names := kNames) (by decide +kernel) (by decide +kernel) (hts _ tw_220) (hts _ tw_10) (K0.str hE sr_143) (K0.own hE oa_57) (hl.1.trans hml.symm) d_FK_reap_31 d_FK_reap_34 d_FK_reap_35 d_FK_reap_37 d_FK_reap_40 hex hlocks ⟨Nat.le_of_ble_eq_true rfl, Nat.le_of_ble_eq_true rfl, Nat.le_of_ble_eq_true rfl, Nat.le_of_ble_eq_true rfl⟩ (by first | rfl | (simp [sp_reap, inr, req, wit, eIA, eIS, eUO, eNS, hq1, hq6, hq7]; done) | (simp [sp_reap, inr, req, wit, eIA, eIS, eUO, eNS, hq1, hq6, hq7]; rfl) | (simp [sp_reap, inr, req, wit, eIA, eIS, eUO, eNS, hq1, hq6, hq7]; done) | (simp [sp_reap, inr, req, wit, eIA, eIS, eUO, eNS, hq1, hq6, hq7]; rfl) | (simp only [sp_reap, inr, req, wit, eIA, eIS, eUO, eNS, hq1, hq6, hq7]; rfl))
set_option maxHeartbeats 4000000 in
set_option maxRecDepth 100000 in
theorem c_FK_open {l : Launch} {s0 : State} {a0 : Array Value} {D : va_G} {cI cL : ClassId} (K0 : k0 l s0 a0 D cI cL) (ad : Nat → Nat) (r : va_W) (σ : kS) (x : Int32) (y : Int32) (z : Int32) (ok : kOk σ) : kMet l y_FK_open (Cond.code y_FK_open b_FK_open 4 (some .int)) (rmL 8) [.ref (ad 0), .int x, .int y, .int z] (kPre D vwCl s0 (wC ad cI r) σ) (sp_open σ x y z) (kBw D vwCl s0 (wC ad cI r)) := by
  refine k_of (by decide) (Nat.le_of_ble_eq_true rfl) ?_
  intro p e9 s m below meth c hx hb hr hlocks hown hml hex hpre ls hl
  obtain ⟨hE, hP, hD⟩ := hpre
  obtain ⟨hts, hK⟩ := K0.at (args := ([.ref (ad 0), .int x, .int y, .int z] : List Value).toArray) hE
  have hl : lv_has ls 4 [(0, .ref (ad 0)), (1, .int x), (2, .int y), (3, .int z)] := hl
  have hS : va_S (kA s0) s.heap s.heap [] := va_S.rf
  obtain ⟨o1, o2, o3, o4, o5, o6, o7, o8, o9, o10, o0, ⟨oc1, oc2⟩, oc3, or6⟩ := id ok
  have hr0 : σ.1 6 (σ.1 11 0) ≠ 0 := or6 _ oc2 (by omega)
  have hr1 : σ.1 6 (σ.1 11 0) < 21 := o6 _ oc2
  refine lv_iload_n hx hb d_FK_open_0 rfl (lv_at hl 1 rfl) ?_
  rcases hq1 : rg x 1 5 with _ | j2
  · exact k_callE (k_atS (As := [.int x]) hx hb hown hE.1 (K0.w tw_140) rfl k_w9 (hts _ tw_138) (hts _ tw_139) (hts _ tw_1) (by decide) np_FK_checkProcess rfl d_FK_open_1) (kn_n hq1 (c_FK_checkProcess K0 ad r σ x)) (hl.1.trans hml.symm) (Nat.le_of_ble_eq_true rfl) ⟨Nat.le_of_ble_eq_true rfl, Nat.le_of_ble_eq_true rfl, Nat.le_of_ble_eq_true rfl, Nat.le_of_ble_eq_true rfl⟩ (fun U hU hW => ⟨hE.go hW hU hS, by rw [hU]; exact hP, hD⟩) hex hlocks (by first | rfl | (simp [sp_open, inr, req, wit, eIA, eIS, eUO, eNS, hq1]; done) | (simp [sp_open, inr, req, wit, eIA, eIS, eUO, eNS, hq1]; rfl) | (simp [sp_open, inr, req, wit, eIA, eIS, eUO, eNS, hq1]; done) | (simp [sp_open, inr, req, wit, eIA, eIS, eUO, eNS, hq1]; rfl) | (simp only [sp_open, inr, req, wit, eIA, eIS, eUO, eNS, hq1]; rfl))
  · refine k_callR (k_atS (As := [.int x]) hx hb hown hE.1 (K0.w tw_140) rfl k_w9 (hts _ tw_138) (hts _ tw_139) (hts _ tw_1) (by decide) np_FK_checkProcess rfl d_FK_open_1) (kn_s hq1 (c_FK_checkProcess K0 ad r σ x)) (hl.1.trans hml.symm) (Nat.le_of_ble_eq_true rfl) ⟨Nat.le_of_ble_eq_true rfl, Nat.le_of_ble_eq_true rfl, Nat.le_of_ble_eq_true rfl, Nat.le_of_ble_eq_true rfl⟩ (fun U hU hW => ⟨hE.go hW hU hS, by rw [hU]; exact hP, hD⟩) ?_
    obtain ⟨rfl, ha3, hb_4, hc_5⟩ := rg_some hq1
    refine lv_iload_n hx hb d_FK_open_4 rfl (lv_at hl 2 rfl) ?_
    rcases hq6 : rg y 0 3 with _ | j7
    · exact k_callE (k_atS (As := [.int y]) hx hb hown hE.1 (K0.w tw_469) rfl k_w9 (hts _ tw_467) (hts _ tw_468) (hts _ tw_1) (by decide) np_FK_checkDescriptor rfl d_FK_open_5) (kn_n hq6 (c_FK_checkDescriptor K0 ad r σ y)) (hl.1.trans hml.symm) (Nat.le_of_ble_eq_true rfl) ⟨Nat.le_of_ble_eq_true rfl, Nat.le_of_ble_eq_true rfl, Nat.le_of_ble_eq_true rfl, Nat.le_of_ble_eq_true rfl⟩ (fun U hU hW => ⟨hE.go hW hU hS, by rw [hU]; exact hP, hD⟩) hex hlocks (by first | rfl | (simp [sp_open, inr, req, wit, eIA, eIS, eUO, eNS, hq1, hq6]; done) | (simp [sp_open, inr, req, wit, eIA, eIS, eUO, eNS, hq1, hq6]; rfl) | (simp [sp_open, inr, req, wit, eIA, eIS, eUO, eNS, hq1, hq6]; done) | (simp [sp_open, inr, req, wit, eIA, eIS, eUO, eNS, hq1, hq6]; rfl) | (simp only [sp_open, inr, req, wit, eIA, eIS, eUO, eNS, hq1, hq6]; rfl))
    · refine k_callR (k_atS (As := [.int y]) hx hb hown hE.1 (K0.w tw_469) rfl k_w9 (hts _ tw_467) (hts _ tw_468) (hts _ tw_1) (by decide) np_FK_checkDescriptor rfl d_FK_open_5) (kn_s hq6 (c_FK_checkDescriptor K0 ad r σ y)) (hl.1.trans hml.symm) (Nat.le_of_ble_eq_true rfl) ⟨Nat.le_of_ble_eq_true rfl, Nat.le_of_ble_eq_true rfl, Nat.le_of_ble_eq_true rfl, Nat.le_of_ble_eq_true rfl⟩ (fun U hU hW => ⟨hE.go hW hU hS, by rw [hU]; exact hP, hD⟩) ?_
      obtain ⟨rfl, ha8, hb_9, hc_10⟩ := rg_some hq6
      refine lv_iload_n hx hb d_FK_open_8 rfl (lv_at hl 3 rfl) ?_
      rcases hq11 : rg z 0 2 with _ | j12
      · exact k_callE (k_atS (As := [.int z]) hx hb hown hE.1 (K0.w tw_472) rfl k_w9 (hts _ tw_470) (hts _ tw_471) (hts _ tw_1) (by decide) np_FK_checkPipe rfl d_FK_open_9) (kn_n hq11 (c_FK_checkPipe K0 ad r σ z)) (hl.1.trans hml.symm) (Nat.le_of_ble_eq_true rfl) ⟨Nat.le_of_ble_eq_true rfl, Nat.le_of_ble_eq_true rfl, Nat.le_of_ble_eq_true rfl, Nat.le_of_ble_eq_true rfl⟩ (fun U hU hW => ⟨hE.go hW hU hS, by rw [hU]; exact hP, hD⟩) hex hlocks (by first | rfl | (simp [sp_open, inr, req, wit, eIA, eIS, eUO, eNS, hq1, hq6, hq11]; done) | (simp [sp_open, inr, req, wit, eIA, eIS, eUO, eNS, hq1, hq6, hq11]; rfl) | (simp [sp_open, inr, req, wit, eIA, eIS, eUO, eNS, hq1, hq6, hq11]; done) | (simp [sp_open, inr, req, wit, eIA, eIS, eUO, eNS, hq1, hq6, hq11]; rfl) | (simp only [sp_open, inr, req, wit, eIA, eIS, eUO, eNS, hq1, hq6, hq11]; rfl))
      · refine k_callR (k_atS (As := [.int z]) hx hb hown hE.1 (K0.w tw_472) rfl k_w9 (hts _ tw_470) (hts _ tw_471) (hts _ tw_1) (by decide) np_FK_checkPipe rfl d_FK_open_9) (kn_s hq11 (c_FK_checkPipe K0 ad r σ z)) (hl.1.trans hml.symm) (Nat.le_of_ble_eq_true rfl) ⟨Nat.le_of_ble_eq_true rfl, Nat.le_of_ble_eq_true rfl, Nat.le_of_ble_eq_true rfl, Nat.le_of_ble_eq_true rfl⟩ (fun U hU hW => ⟨hE.go hW hU hS, by rw [hU]; exact hP, hD⟩) ?_
        obtain ⟨rfl, ha13, hb_14, hc_15⟩ := rg_some hq11
        refine lv_aload_n hx hb d_FK_open_12 rfl (lv_at hl 0 rfl) ?_
        refine lv_iload_n hx hb d_FK_open_13 rfl (lv_at hl 1 rfl) ?_
        rcases hq16 : mine σ j2 with _ | _
        · exact k_callE (k_atV (As := [.int (nI j2)]) hx hb hown hE.1 (K0.w tw_476) (hts _ tw_473) (hts _ tw_475) (hts _ tw_9012) (hts _ tw_1) (by decide) np_FK_checkIsMine (va_recv hK hP (ci := nFK) (q0 := 0) rfl rfl) rfl d_FK_open_14) (kr_f hq16 (c_FK_checkIsMine K0 ad r σ j2 ok (by omega) )) (hl.1.trans hml.symm) (Nat.le_of_ble_eq_true rfl) ⟨Nat.le_of_ble_eq_true rfl, Nat.le_of_ble_eq_true rfl, Nat.le_of_ble_eq_true rfl, Nat.le_of_ble_eq_true rfl⟩ (fun U hU hW => ⟨hE.go hW hU hS, by rw [hU]; exact hP, hD⟩) hex hlocks (by first | rfl | (simp [sp_open, inr, req, wit, eIA, eIS, eUO, eNS, hq1, hq6, hq11, hq16]; done) | (simp [sp_open, inr, req, wit, eIA, eIS, eUO, eNS, hq1, hq6, hq11, hq16]; rfl) | (simp [sp_open, inr, req, wit, eIA, eIS, eUO, eNS, hq1, hq6, hq11, hq16]; done) | (simp [sp_open, inr, req, wit, eIA, eIS, eUO, eNS, hq1, hq6, hq11, hq16]; rfl) | (simp only [sp_open, inr, req, wit, eIA, eIS, eUO, eNS, hq1, hq6, hq11, hq16]; rfl))
        · refine k_callR (k_atV (As := [.int (nI j2)]) hx hb hown hE.1 (K0.w tw_476) (hts _ tw_473) (hts _ tw_475) (hts _ tw_9012) (hts _ tw_1) (by decide) np_FK_checkIsMine (va_recv hK hP (ci := nFK) (q0 := 0) rfl rfl) rfl d_FK_open_14) (kr_t hq16 (c_FK_checkIsMine K0 ad r σ j2 ok (by omega) )) (hl.1.trans hml.symm) (Nat.le_of_ble_eq_true rfl) ⟨Nat.le_of_ble_eq_true rfl, Nat.le_of_ble_eq_true rfl, Nat.le_of_ble_eq_true rfl, Nat.le_of_ble_eq_true rfl⟩ (fun U hU hW => ⟨hE.go hW hU hS, by rw [hU]; exact hP, hD⟩) ?_
          refine lv_aload_n hx hb d_FK_open_17 rfl (lv_at hl 0 rfl) ?_
          refine lv_iload_n hx hb d_FK_open_18 rfl (lv_at hl 1 rfl) ?_
          refine lv_iload_n hx hb d_FK_open_19 rfl (lv_at hl 2 rfl) ?_
          rcases hq17 : (σ.1 7 (j2 * 4 + j7) == 0) with _ | _
          · exact k_callE (k_atV (As := [.int (nI j2), .int (nI j7)]) hx hb hown hE.1 (K0.w tw_481) (hts _ tw_478) (hts _ tw_480) (hts _ tw_9013) (hts _ tw_1) (by decide) np_FK_checkDescriptorIsUnused (va_recv hK hP (ci := nFK) (q0 := 0) rfl rfl) rfl d_FK_open_20) (kr_f hq17 (c_FK_checkDescriptorIsUnused K0 ad r σ j2 j7 ok (by omega) (by omega) )) (hl.1.trans hml.symm) (Nat.le_of_ble_eq_true rfl) ⟨Nat.le_of_ble_eq_true rfl, Nat.le_of_ble_eq_true rfl, Nat.le_of_ble_eq_true rfl, Nat.le_of_ble_eq_true rfl⟩ (fun U hU hW => ⟨hE.go hW hU hS, by rw [hU]; exact hP, hD⟩) hex hlocks (by first | rfl | (simp [sp_open, inr, req, wit, eIA, eIS, eUO, eNS, hq1, hq6, hq11, hq16, hq17]; done) | (simp [sp_open, inr, req, wit, eIA, eIS, eUO, eNS, hq1, hq6, hq11, hq16, hq17]; rfl) | (simp [sp_open, inr, req, wit, eIA, eIS, eUO, eNS, hq1, hq6, hq11, hq16, hq17]; done) | (simp [sp_open, inr, req, wit, eIA, eIS, eUO, eNS, hq1, hq6, hq11, hq16, hq17]; rfl) | (simp only [sp_open, inr, req, wit, eIA, eIS, eUO, eNS, hq1, hq6, hq11, hq16, hq17]; rfl))
          · refine k_callR (k_atV (As := [.int (nI j2), .int (nI j7)]) hx hb hown hE.1 (K0.w tw_481) (hts _ tw_478) (hts _ tw_480) (hts _ tw_9013) (hts _ tw_1) (by decide) np_FK_checkDescriptorIsUnused (va_recv hK hP (ci := nFK) (q0 := 0) rfl rfl) rfl d_FK_open_20) (kr_t hq17 (c_FK_checkDescriptorIsUnused K0 ad r σ j2 j7 ok (by omega) (by omega) )) (hl.1.trans hml.symm) (Nat.le_of_ble_eq_true rfl) ⟨Nat.le_of_ble_eq_true rfl, Nat.le_of_ble_eq_true rfl, Nat.le_of_ble_eq_true rfl, Nat.le_of_ble_eq_true rfl⟩ (fun U hU hW => ⟨hE.go hW hU hS, by rw [hU]; exact hP, hD⟩) ?_
            refine lv_aload_n hx hb d_FK_open_23 rfl (lv_at hl 0 rfl) ?_
            refine va_get (D := D) (ci := nFK) (v := .ref (ad 2)) (C := R_FK) (T := T_FK) (N := 4) hx hb hts i_FK hown hK hP 0 rfl rfl 1 (by decide) (hts _ tw_117) (fun _ h9 => h9) rfl d_FK_open_24 ?_
            refine lv_iload_n hx hb d_FK_open_27 rfl (lv_at hl 3 rfl) ?_
            refine k_callR (k_atV (As := [.int (nI j12)]) hx hb hown hE.1 (K0.w tw_487) (hts _ tw_484) (hts _ tw_485) (hts _ tw_486) (hts _ tw_3) (by decide) np_Pro_descriptorsOfPipe (va_recv hK hP (ci := nPro) (q0 := 2) rfl rfl) rfl d_FK_open_28) (c_Pro_descriptorsOfPipe K0 ad r σ j12 (by omega) ok.b7) (hl.1.trans hml.symm) (Nat.le_of_ble_eq_true rfl) ⟨Nat.le_of_ble_eq_true rfl, Nat.le_of_ble_eq_true rfl, Nat.le_of_ble_eq_true rfl, Nat.le_of_ble_eq_true rfl⟩ (fun U hU hW => ⟨hE.go hW hU hS, by rw [hU]; exact hP, hD⟩) ?_
            have hc18 : (cof σ j12) ≤ 24 := cnt_le _ _
            refine k_leN0 (tgt := 44) (by omega) hx hb d_FK_open_31 (by decide) (fun h19 => ?_) (fun h19 => ?_)
            · refine lv_aload_n hx hb d_FK_open_44 rfl (lv_at hl 0 rfl) ?_
              refine va_get (D := D) (ci := nFK) (v := .ref (ad 3)) (C := R_FK) (T := T_FK) (N := 4) hx hb hts i_FK hown hK hP 0 rfl rfl 2 (by decide) (hts _ tw_118) (fun _ h9 => h9) rfl d_FK_open_45 ?_
              refine lv_iload_n hx hb d_FK_open_48 rfl (lv_at hl 3 rfl) ?_
              refine k_callW (k_atV (As := [.int (nI j12)]) hx hb hown hE.1 (K0.w tw_492) (hts _ tw_489) (hts _ tw_490) (hts _ tw_491) (hts _ tw_4) (by decide) np_Pip_makeEmpty (va_recv hK hP (ci := nPip) (q0 := 3) rfl rfl) rfl d_FK_open_49) (c_Pip_makeEmpty K0 ad r σ j12 (by omega)) (hl.1.trans hml.symm) (Nat.le_of_ble_eq_true rfl) ⟨Nat.le_of_ble_eq_true rfl, Nat.le_of_ble_eq_true rfl, Nat.le_of_ble_eq_true rfl, Nat.le_of_ble_eq_true rfl⟩ (fun U hU hW => ⟨hE.go hW hU hS, by rw [hU]; exact hP, hD⟩) hS (fun H locs hP hD hS => ?_)
              obtain ⟨σ20, eσ20⟩ : ∃ z : kS, z = (st σ 10 j12 0) := ⟨_, rfl⟩
              have hP : va_P D vwCl (wC ad cI r σ20) H := by rw [eσ20]; exact hP
              have hD : va_D (kA s0) (wC ad cI r σ20) := by rw [eσ20]; exact hD
              refine lv_aload_n hx hb d_FK_open_52 rfl (lv_at hl 0 rfl) ?_
              refine lv_iload_n hx hb d_FK_open_53 rfl (lv_at hl 1 rfl) ?_
              refine lv_iload_n hx hb d_FK_open_54 rfl (lv_at hl 2 rfl) ?_
              refine lv_iload_n hx hb d_FK_open_55 rfl (lv_at hl 3 rfl) ?_
              refine k_callW (k_atV (As := [.int (nI j2), .int (nI j7), .int (nI j12)]) hx hb hown hE.1 (K0.w tw_496) (hts _ tw_493) (hts _ tw_495) (hts _ tw_9014) (hts _ tw_1) (by decide) np_FK_connect (va_recv hK hP (ci := nFK) (q0 := 0) rfl rfl) rfl d_FK_open_56) (c_FK_connect K0 ad r σ20 j2 j7 j12 (by subst eσ20; exact ok.b7) (by omega) (by omega) (by omega)) (hl.1.trans hml.symm) (Nat.le_of_ble_eq_true rfl) ⟨Nat.le_of_ble_eq_true rfl, Nat.le_of_ble_eq_true rfl, Nat.le_of_ble_eq_true rfl, Nat.le_of_ble_eq_true rfl⟩ (fun U hU hW => ⟨hE.go hW hU hS, by rw [hU]; exact hP, hD⟩) hS (fun H locs hP hD hS => ?_)
              obtain ⟨σ21, eσ21⟩ : ∃ z : kS, z = (st σ20 7 (j2 * 4 + j7) (j12 + 1)) := ⟨_, rfl⟩
              have hP : va_P D vwCl (wC ad cI r σ21) H := by rw [eσ21]; exact hP
              have hD : va_D (kA s0) (wC ad cI r σ21) := by rw [eσ21]; exact hD
              exact k_retWI hx hb hr hlocks d_FK_open_59 hP hD hS (by subst eσ21 eσ20; first | rfl | (simp [sp_open, inr, req, wit, eIA, eIS, eUO, eNS, hq1, hq6, hq11, hq16, hq17, h19]; done) | (simp [sp_open, inr, req, wit, eIA, eIS, eUO, eNS, hq1, hq6, hq11, hq16, hq17, h19]; rfl) | (simp [sp_open, inr, req, wit, eIA, eIS, eUO, eNS, hq1, hq6, hq11, hq16, hq17, beq_iff_eq.mpr h19]; done) | (simp [sp_open, inr, req, wit, eIA, eIS, eUO, eNS, hq1, hq6, hq11, hq16, hq17, beq_iff_eq.mpr h19]; rfl) | (simp only [sp_open, inr, req, wit, eIA, eIS, eUO, eNS, hq1, hq6, hq11, hq16, hq17, h19]; rfl))
            · exact k_throw hx hb K0.tr hown (text := "the pipe is open already") (names := kNames) (by decide +kernel) (by decide +kernel) (hts _ tw_220) (hts _ tw_10) (K0.str hE sr_169) (K0.own hE oa_57) (hl.1.trans hml.symm) d_FK_open_34 d_FK_open_37 d_FK_open_38 d_FK_open_40 d_FK_open_43 hex hlocks ⟨Nat.le_of_ble_eq_true rfl, Nat.le_of_ble_eq_true rfl, Nat.le_of_ble_eq_true rfl, Nat.le_of_ble_eq_true rfl⟩ (by first | rfl | (simp [sp_open, inr, req, wit, eIA, eIS, eUO, eNS, hq1, hq6, hq11, hq16, hq17, h19, beq_false_of_ne h19, bne_iff_ne.mpr h19]; done) | (simp [sp_open, inr, req, wit, eIA, eIS, eUO, eNS, hq1, hq6, hq11, hq16, hq17, h19, beq_false_of_ne h19, bne_iff_ne.mpr h19]; rfl) | (simp [sp_open, inr, req, wit, eIA, eIS, eUO, eNS, hq1, hq6, hq11, hq16, hq17, h19, beq_false_of_ne h19, bne_iff_ne.mpr h19]; done) | (simp [sp_open, inr, req, wit, eIA, eIS, eUO, eNS, hq1, hq6, hq11, hq16, hq17, h19, beq_false_of_ne h19, bne_iff_ne.mpr h19]; rfl) | (simp only [sp_open, inr, req, wit, eIA, eIS, eUO, eNS, hq1, hq6, hq11, hq16, hq17, h19, beq_false_of_ne h19, bne_iff_ne.mpr h19]; rfl))
set_option maxHeartbeats 4000000 in
set_option maxRecDepth 100000 in
theorem c_FK_share {l : Launch} {s0 : State} {a0 : Array Value} {D : va_G} {cI cL : ClassId} (K0 : k0 l s0 a0 D cI cL) (ad : Nat → Nat) (r : va_W) (σ : kS) (x : Int32) (y : Int32) (z : Int32) (ok : kOk σ) : kMet l y_FK_share (Cond.code y_FK_share b_FK_share 5 (some .int)) (rmL 8) [.ref (ad 0), .int x, .int y, .int z] (kPre D vwCl s0 (wC ad cI r) σ) (sp_share σ x y z) (kBw D vwCl s0 (wC ad cI r)) := by
  refine k_of (by decide) (Nat.le_of_ble_eq_true rfl) ?_
  intro p e9 s m below meth c hx hb hr hlocks hown hml hex hpre ls hl
  obtain ⟨hE, hP, hD⟩ := hpre
  obtain ⟨hts, hK⟩ := K0.at (args := ([.ref (ad 0), .int x, .int y, .int z] : List Value).toArray) hE
  have hl : lv_has ls 5 [(0, .ref (ad 0)), (1, .int x), (2, .int y), (3, .int z)] := hl
  have hS : va_S (kA s0) s.heap s.heap [] := va_S.rf
  obtain ⟨o1, o2, o3, o4, o5, o6, o7, o8, o9, o10, o0, ⟨oc1, oc2⟩, oc3, or6⟩ := id ok
  have hr0 : σ.1 6 (σ.1 11 0) ≠ 0 := or6 _ oc2 (by omega)
  have hr1 : σ.1 6 (σ.1 11 0) < 21 := o6 _ oc2
  refine lv_iload_n hx hb d_FK_share_0 rfl (lv_at hl 1 rfl) ?_
  rcases hq1 : rg x 0 3 with _ | j2
  · exact k_callE (k_atS (As := [.int x]) hx hb hown hE.1 (K0.w tw_469) rfl k_w9 (hts _ tw_467) (hts _ tw_468) (hts _ tw_1) (by decide) np_FK_checkDescriptor rfl d_FK_share_1) (kn_n hq1 (c_FK_checkDescriptor K0 ad r σ x)) (hl.1.trans hml.symm) (Nat.le_of_ble_eq_true rfl) ⟨Nat.le_of_ble_eq_true rfl, Nat.le_of_ble_eq_true rfl, Nat.le_of_ble_eq_true rfl, Nat.le_of_ble_eq_true rfl⟩ (fun U hU hW => ⟨hE.go hW hU hS, by rw [hU]; exact hP, hD⟩) hex hlocks (by first | rfl | (simp [sp_share, inr, req, wit, eIA, eIS, eUO, eNS, hq1]; done) | (simp [sp_share, inr, req, wit, eIA, eIS, eUO, eNS, hq1]; rfl) | (simp [sp_share, inr, req, wit, eIA, eIS, eUO, eNS, hq1]; done) | (simp [sp_share, inr, req, wit, eIA, eIS, eUO, eNS, hq1]; rfl) | (simp only [sp_share, inr, req, wit, eIA, eIS, eUO, eNS, hq1]; rfl))
  · refine k_callR (k_atS (As := [.int x]) hx hb hown hE.1 (K0.w tw_469) rfl k_w9 (hts _ tw_467) (hts _ tw_468) (hts _ tw_1) (by decide) np_FK_checkDescriptor rfl d_FK_share_1) (kn_s hq1 (c_FK_checkDescriptor K0 ad r σ x)) (hl.1.trans hml.symm) (Nat.le_of_ble_eq_true rfl) ⟨Nat.le_of_ble_eq_true rfl, Nat.le_of_ble_eq_true rfl, Nat.le_of_ble_eq_true rfl, Nat.le_of_ble_eq_true rfl⟩ (fun U hU hW => ⟨hE.go hW hU hS, by rw [hU]; exact hP, hD⟩) ?_
    obtain ⟨rfl, ha3, hb_4, hc_5⟩ := rg_some hq1
    refine lv_iload_n hx hb d_FK_share_4 rfl (lv_at hl 2 rfl) ?_
    rcases hq6 : rg y 1 5 with _ | j7
    · exact k_callE (k_atS (As := [.int y]) hx hb hown hE.1 (K0.w tw_140) rfl k_w9 (hts _ tw_138) (hts _ tw_139) (hts _ tw_1) (by decide) np_FK_checkProcess rfl d_FK_share_5) (kn_n hq6 (c_FK_checkProcess K0 ad r σ y)) (hl.1.trans hml.symm) (Nat.le_of_ble_eq_true rfl) ⟨Nat.le_of_ble_eq_true rfl, Nat.le_of_ble_eq_true rfl, Nat.le_of_ble_eq_true rfl, Nat.le_of_ble_eq_true rfl⟩ (fun U hU hW => ⟨hE.go hW hU hS, by rw [hU]; exact hP, hD⟩) hex hlocks (by first | rfl | (simp [sp_share, inr, req, wit, eIA, eIS, eUO, eNS, hq1, hq6]; done) | (simp [sp_share, inr, req, wit, eIA, eIS, eUO, eNS, hq1, hq6]; rfl) | (simp [sp_share, inr, req, wit, eIA, eIS, eUO, eNS, hq1, hq6]; done) | (simp [sp_share, inr, req, wit, eIA, eIS, eUO, eNS, hq1, hq6]; rfl) | (simp only [sp_share, inr, req, wit, eIA, eIS, eUO, eNS, hq1, hq6]; rfl))
    · refine k_callR (k_atS (As := [.int y]) hx hb hown hE.1 (K0.w tw_140) rfl k_w9 (hts _ tw_138) (hts _ tw_139) (hts _ tw_1) (by decide) np_FK_checkProcess rfl d_FK_share_5) (kn_s hq6 (c_FK_checkProcess K0 ad r σ y)) (hl.1.trans hml.symm) (Nat.le_of_ble_eq_true rfl) ⟨Nat.le_of_ble_eq_true rfl, Nat.le_of_ble_eq_true rfl, Nat.le_of_ble_eq_true rfl, Nat.le_of_ble_eq_true rfl⟩ (fun U hU hW => ⟨hE.go hW hU hS, by rw [hU]; exact hP, hD⟩) ?_
      obtain ⟨rfl, ha8, hb_9, hc_10⟩ := rg_some hq6
      refine lv_iload_n hx hb d_FK_share_8 rfl (lv_at hl 3 rfl) ?_
      rcases hq11 : rg z 0 3 with _ | j12
      · exact k_callE (k_atS (As := [.int z]) hx hb hown hE.1 (K0.w tw_469) rfl k_w9 (hts _ tw_467) (hts _ tw_468) (hts _ tw_1) (by decide) np_FK_checkDescriptor rfl d_FK_share_9) (kn_n hq11 (c_FK_checkDescriptor K0 ad r σ z)) (hl.1.trans hml.symm) (Nat.le_of_ble_eq_true rfl) ⟨Nat.le_of_ble_eq_true rfl, Nat.le_of_ble_eq_true rfl, Nat.le_of_ble_eq_true rfl, Nat.le_of_ble_eq_true rfl⟩ (fun U hU hW => ⟨hE.go hW hU hS, by rw [hU]; exact hP, hD⟩) hex hlocks (by first | rfl | (simp [sp_share, inr, req, wit, eIA, eIS, eUO, eNS, hq1, hq6, hq11]; done) | (simp [sp_share, inr, req, wit, eIA, eIS, eUO, eNS, hq1, hq6, hq11]; rfl) | (simp [sp_share, inr, req, wit, eIA, eIS, eUO, eNS, hq1, hq6, hq11]; done) | (simp [sp_share, inr, req, wit, eIA, eIS, eUO, eNS, hq1, hq6, hq11]; rfl) | (simp only [sp_share, inr, req, wit, eIA, eIS, eUO, eNS, hq1, hq6, hq11]; rfl))
      · refine k_callR (k_atS (As := [.int z]) hx hb hown hE.1 (K0.w tw_469) rfl k_w9 (hts _ tw_467) (hts _ tw_468) (hts _ tw_1) (by decide) np_FK_checkDescriptor rfl d_FK_share_9) (kn_s hq11 (c_FK_checkDescriptor K0 ad r σ z)) (hl.1.trans hml.symm) (Nat.le_of_ble_eq_true rfl) ⟨Nat.le_of_ble_eq_true rfl, Nat.le_of_ble_eq_true rfl, Nat.le_of_ble_eq_true rfl, Nat.le_of_ble_eq_true rfl⟩ (fun U hU hW => ⟨hE.go hW hU hS, by rw [hU]; exact hP, hD⟩) ?_
        obtain ⟨rfl, ha13, hb_14, hc_15⟩ := rg_some hq11
        refine lv_aload_n hx hb d_FK_share_12 rfl (lv_at hl 0 rfl) ?_
        refine lv_iload_n hx hb d_FK_share_13 rfl (lv_at hl 2 rfl) ?_
        rcases hq16 : mine σ j7 with _ | _
        · exact k_callE (k_atV (As := [.int (nI j7)]) hx hb hown hE.1 (K0.w tw_476) (hts _ tw_473) (hts _ tw_475) (hts _ tw_9012) (hts _ tw_1) (by decide) np_FK_checkIsMine (va_recv hK hP (ci := nFK) (q0 := 0) rfl rfl) rfl d_FK_share_14) (kr_f hq16 (c_FK_checkIsMine K0 ad r σ j7 ok (by omega) )) (hl.1.trans hml.symm) (Nat.le_of_ble_eq_true rfl) ⟨Nat.le_of_ble_eq_true rfl, Nat.le_of_ble_eq_true rfl, Nat.le_of_ble_eq_true rfl, Nat.le_of_ble_eq_true rfl⟩ (fun U hU hW => ⟨hE.go hW hU hS, by rw [hU]; exact hP, hD⟩) hex hlocks (by first | rfl | (simp [sp_share, inr, req, wit, eIA, eIS, eUO, eNS, hq1, hq6, hq11, hq16]; done) | (simp [sp_share, inr, req, wit, eIA, eIS, eUO, eNS, hq1, hq6, hq11, hq16]; rfl) | (simp [sp_share, inr, req, wit, eIA, eIS, eUO, eNS, hq1, hq6, hq11, hq16]; done) | (simp [sp_share, inr, req, wit, eIA, eIS, eUO, eNS, hq1, hq6, hq11, hq16]; rfl) | (simp only [sp_share, inr, req, wit, eIA, eIS, eUO, eNS, hq1, hq6, hq11, hq16]; rfl))
        · refine k_callR (k_atV (As := [.int (nI j7)]) hx hb hown hE.1 (K0.w tw_476) (hts _ tw_473) (hts _ tw_475) (hts _ tw_9012) (hts _ tw_1) (by decide) np_FK_checkIsMine (va_recv hK hP (ci := nFK) (q0 := 0) rfl rfl) rfl d_FK_share_14) (kr_t hq16 (c_FK_checkIsMine K0 ad r σ j7 ok (by omega) )) (hl.1.trans hml.symm) (Nat.le_of_ble_eq_true rfl) ⟨Nat.le_of_ble_eq_true rfl, Nat.le_of_ble_eq_true rfl, Nat.le_of_ble_eq_true rfl, Nat.le_of_ble_eq_true rfl⟩ (fun U hU hW => ⟨hE.go hW hU hS, by rw [hU]; exact hP, hD⟩) ?_
          refine lv_aload_n hx hb d_FK_share_17 rfl (lv_at hl 0 rfl) ?_
          refine lv_aload_n hx hb d_FK_share_18 rfl (lv_at hl 0 rfl) ?_
          refine va_get (D := D) (ci := nFK) (v := .int (nI (σ.1 11 0))) (C := R_FK) (T := T_FK) (N := 4) hx hb hts i_FK hown hK hP 0 rfl rfl 3 (by decide) (hts _ tw_119) (fun _ h9 => h9) rfl d_FK_share_19 ?_
          refine lv_iload_n hx hb d_FK_share_22 rfl (lv_at hl 1 rfl) ?_
          rcases hq17 : (σ.1 7 ((σ.1 11 0) * 4 + j2) != 0) with _ | _
          · exact k_callE (k_atV (As := [.int (nI (σ.1 11 0)), .int (nI j2)]) hx hb hown hE.1 (K0.w tw_508) (hts _ tw_505) (hts _ tw_507) (hts _ tw_9015) (hts _ tw_1) (by decide) np_FK_pipeBehind (va_recv hK hP (ci := nFK) (q0 := 0) rfl rfl) rfl d_FK_share_23) (kr_f hq17 (c_FK_pipeBehind K0 ad r σ (σ.1 11 0) j2 ok (by omega) (by omega) )) (hl.1.trans hml.symm) (Nat.le_of_ble_eq_true rfl) ⟨Nat.le_of_ble_eq_true rfl, Nat.le_of_ble_eq_true rfl, Nat.le_of_ble_eq_true rfl, Nat.le_of_ble_eq_true rfl⟩ (fun U hU hW => ⟨hE.go hW hU hS, by rw [hU]; exact hP, hD⟩) hex hlocks (by first | rfl | (simp [sp_share, inr, req, wit, eIA, eIS, eUO, eNS, hq1, hq6, hq11, hq16, hq17]; done) | (simp [sp_share, inr, req, wit, eIA, eIS, eUO, eNS, hq1, hq6, hq11, hq16, hq17]; rfl) | (simp [sp_share, inr, req, wit, eIA, eIS, eUO, eNS, hq1, hq6, hq11, hq16, hq17]; done) | (simp [sp_share, inr, req, wit, eIA, eIS, eUO, eNS, hq1, hq6, hq11, hq16, hq17]; rfl) | (simp only [sp_share, inr, req, wit, eIA, eIS, eUO, eNS, hq1, hq6, hq11, hq16, hq17]; rfl))
          · refine k_callR (k_atV (As := [.int (nI (σ.1 11 0)), .int (nI j2)]) hx hb hown hE.1 (K0.w tw_508) (hts _ tw_505) (hts _ tw_507) (hts _ tw_9015) (hts _ tw_1) (by decide) np_FK_pipeBehind (va_recv hK hP (ci := nFK) (q0 := 0) rfl rfl) rfl d_FK_share_23) (kr_t hq17 (c_FK_pipeBehind K0 ad r σ (σ.1 11 0) j2 ok (by omega) (by omega) )) (hl.1.trans hml.symm) (Nat.le_of_ble_eq_true rfl) ⟨Nat.le_of_ble_eq_true rfl, Nat.le_of_ble_eq_true rfl, Nat.le_of_ble_eq_true rfl, Nat.le_of_ble_eq_true rfl⟩ (fun U hU hW => ⟨hE.go hW hU hS, by rw [hU]; exact hP, hD⟩) ?_
            have hnzp : σ.1 7 ((σ.1 11 0) * 4 + j2) ≠ 0 := by simpa using hq17
            have hbdp := o7 ((σ.1 11 0) * 4 + j2) (by omega)
            refine lv_istore (lv' := [(4, .int (pI (σ.1 7 ((σ.1 11 0) * 4 + j2)))), (0, .ref (ad 0)), (1, .int (nI j2)), (2, .int (nI j7)), (3, .int (nI j12))]) hx hb d_FK_share_26 hl (by decide) rfl (fun ls hl => ?_)
            refine lv_aload_n hx hb d_FK_share_28 rfl (lv_at hl 1 rfl) ?_
            refine lv_iload_n hx hb d_FK_share_29 rfl (lv_at hl 3 rfl) ?_
            refine lv_iload_n hx hb d_FK_share_30 rfl (lv_at hl 4 rfl) ?_
            rcases hq18 : (σ.1 7 (j7 * 4 + j12) == 0) with _ | _
            · exact k_callE (k_atV (As := [.int (nI j7), .int (nI j12)]) hx hb hown hE.1 (K0.w tw_481) (hts _ tw_478) (hts _ tw_480) (hts _ tw_9013) (hts _ tw_1) (by decide) np_FK_checkDescriptorIsUnused (va_recv hK hP (ci := nFK) (q0 := 0) rfl rfl) rfl d_FK_share_31) (kr_f hq18 (c_FK_checkDescriptorIsUnused K0 ad r σ j7 j12 ok (by omega) (by omega) )) (hl.1.trans hml.symm) (Nat.le_of_ble_eq_true rfl) ⟨Nat.le_of_ble_eq_true rfl, Nat.le_of_ble_eq_true rfl, Nat.le_of_ble_eq_true rfl, Nat.le_of_ble_eq_true rfl⟩ (fun U hU hW => ⟨hE.go hW hU hS, by rw [hU]; exact hP, hD⟩) hex hlocks (by first | rfl | (simp [sp_share, inr, req, wit, eIA, eIS, eUO, eNS, hq1, hq6, hq11, hq16, hq17, hq18]; done) | (simp [sp_share, inr, req, wit, eIA, eIS, eUO, eNS, hq1, hq6, hq11, hq16, hq17, hq18]; rfl) | (simp [sp_share, inr, req, wit, eIA, eIS, eUO, eNS, hq1, hq6, hq11, hq16, hq17, hq18]; done) | (simp [sp_share, inr, req, wit, eIA, eIS, eUO, eNS, hq1, hq6, hq11, hq16, hq17, hq18]; rfl) | (simp only [sp_share, inr, req, wit, eIA, eIS, eUO, eNS, hq1, hq6, hq11, hq16, hq17, hq18]; rfl))
            · refine k_callR (k_atV (As := [.int (nI j7), .int (nI j12)]) hx hb hown hE.1 (K0.w tw_481) (hts _ tw_478) (hts _ tw_480) (hts _ tw_9013) (hts _ tw_1) (by decide) np_FK_checkDescriptorIsUnused (va_recv hK hP (ci := nFK) (q0 := 0) rfl rfl) rfl d_FK_share_31) (kr_t hq18 (c_FK_checkDescriptorIsUnused K0 ad r σ j7 j12 ok (by omega) (by omega) )) (hl.1.trans hml.symm) (Nat.le_of_ble_eq_true rfl) ⟨Nat.le_of_ble_eq_true rfl, Nat.le_of_ble_eq_true rfl, Nat.le_of_ble_eq_true rfl, Nat.le_of_ble_eq_true rfl⟩ (fun U hU hW => ⟨hE.go hW hU hS, by rw [hU]; exact hP, hD⟩) ?_
              refine lv_aload_n hx hb d_FK_share_34 rfl (lv_at hl 1 rfl) ?_
              refine lv_iload_n hx hb d_FK_share_35 rfl (lv_at hl 3 rfl) ?_
              refine lv_iload_n hx hb d_FK_share_36 rfl (lv_at hl 4 rfl) ?_
              refine lv_iload hx hb d_FK_share_37 (lv_at hl 0 rfl) ?_
              refine k_st (st' := [.int (nI ((σ.1 7 ((σ.1 11 0) * 4 + j2)) - 1)), .int (nI j12), .int (nI j7), .ref (ad 0)]) (by show ([.int (pI (σ.1 7 ((σ.1 11 0) * 4 + j2))), .int (nI j12), .int (nI j7), .ref (ad 0)] : List Value) = _; rw [pI_pred (by omega)]) ?_
              refine k_callW (k_atV (As := [.int (nI j7), .int (nI j12), .int (nI ((σ.1 7 ((σ.1 11 0) * 4 + j2)) - 1))]) hx hb hown hE.1 (K0.w tw_496) (hts _ tw_493) (hts _ tw_495) (hts _ tw_9014) (hts _ tw_1) (by decide) np_FK_connect (va_recv hK hP (ci := nFK) (q0 := 0) rfl rfl) rfl d_FK_share_39) (c_FK_connect K0 ad r σ j7 j12 ((σ.1 7 ((σ.1 11 0) * 4 + j2)) - 1) ok.b7 (by omega) (by omega) (by omega)) (hl.1.trans hml.symm) (Nat.le_of_ble_eq_true rfl) ⟨Nat.le_of_ble_eq_true rfl, Nat.le_of_ble_eq_true rfl, Nat.le_of_ble_eq_true rfl, Nat.le_of_ble_eq_true rfl⟩ (fun U hU hW => ⟨hE.go hW hU hS, by rw [hU]; exact hP, hD⟩) hS (fun H locs hP hD hS => ?_)
              obtain ⟨σ19, eσ19⟩ : ∃ z : kS, z = (st σ 7 (j7 * 4 + j12) (((σ.1 7 ((σ.1 11 0) * 4 + j2)) - 1) + 1)) := ⟨_, rfl⟩
              have hP : va_P D vwCl (wC ad cI r σ19) H := by rw [eσ19]; exact hP
              have hD : va_D (kA s0) (wC ad cI r σ19) := by rw [eσ19]; exact hD
              exact k_retWI hx hb hr hlocks d_FK_share_42 hP hD hS (by subst eσ19; first | rfl | (simp [sp_share, inr, req, wit, eIA, eIS, eUO, eNS, hq1, hq6, hq11, hq16, hq17, hq18]; done) | (simp [sp_share, inr, req, wit, eIA, eIS, eUO, eNS, hq1, hq6, hq11, hq16, hq17, hq18]; rfl) | (simp [sp_share, inr, req, wit, eIA, eIS, eUO, eNS, hq1, hq6, hq11, hq16, hq17, hq18]; done) | (simp [sp_share, inr, req, wit, eIA, eIS, eUO, eNS, hq1, hq6, hq11, hq16, hq17, hq18]; rfl) | (simp only [sp_share, inr, req, wit, eIA, eIS, eUO, eNS, hq1, hq6, hq11, hq16, hq17, hq18]; rfl))
set_option maxHeartbeats 4000000 in
set_option maxRecDepth 100000 in
theorem c_FK_close {l : Launch} {s0 : State} {a0 : Array Value} {D : va_G} {cI cL : ClassId} (K0 : k0 l s0 a0 D cI cL) (ad : Nat → Nat) (r : va_W) (σ : kS) (x : Int32) (y : Int32) (ok : kOk σ) : kMet l y_FK_close (Cond.code y_FK_close b_FK_close 4 (some .int)) (rmL 8) [.ref (ad 0), .int x, .int y] (kPre D vwCl s0 (wC ad cI r) σ) (sp_close σ x y) (kBw D vwCl s0 (wC ad cI r)) := by
  refine k_of (by decide) (Nat.le_of_ble_eq_true rfl) ?_
  intro p e9 s m below meth c hx hb hr hlocks hown hml hex hpre ls hl
  obtain ⟨hE, hP, hD⟩ := hpre
  obtain ⟨hts, hK⟩ := K0.at (args := ([.ref (ad 0), .int x, .int y] : List Value).toArray) hE
  have hl : lv_has ls 4 [(0, .ref (ad 0)), (1, .int x), (2, .int y)] := hl
  have hS : va_S (kA s0) s.heap s.heap [] := va_S.rf
  obtain ⟨o1, o2, o3, o4, o5, o6, o7, o8, o9, o10, o0, ⟨oc1, oc2⟩, oc3, or6⟩ := id ok
  have hr0 : σ.1 6 (σ.1 11 0) ≠ 0 := or6 _ oc2 (by omega)
  have hr1 : σ.1 6 (σ.1 11 0) < 21 := o6 _ oc2
  refine lv_iload_n hx hb d_FK_close_0 rfl (lv_at hl 1 rfl) ?_
  rcases hq1 : rg x 1 5 with _ | j2
  · exact k_callE (k_atS (As := [.int x]) hx hb hown hE.1 (K0.w tw_140) rfl k_w9 (hts _ tw_138) (hts _ tw_139) (hts _ tw_1) (by decide) np_FK_checkProcess rfl d_FK_close_1) (kn_n hq1 (c_FK_checkProcess K0 ad r σ x)) (hl.1.trans hml.symm) (Nat.le_of_ble_eq_true rfl) ⟨Nat.le_of_ble_eq_true rfl, Nat.le_of_ble_eq_true rfl, Nat.le_of_ble_eq_true rfl, Nat.le_of_ble_eq_true rfl⟩ (fun U hU hW => ⟨hE.go hW hU hS, by rw [hU]; exact hP, hD⟩) hex hlocks (by first | rfl | (simp [sp_close, inr, req, wit, eIA, eIS, eUO, eNS, hq1]; done) | (simp [sp_close, inr, req, wit, eIA, eIS, eUO, eNS, hq1]; rfl) | (simp [sp_close, inr, req, wit, eIA, eIS, eUO, eNS, hq1]; done) | (simp [sp_close, inr, req, wit, eIA, eIS, eUO, eNS, hq1]; rfl) | (simp only [sp_close, inr, req, wit, eIA, eIS, eUO, eNS, hq1]; rfl))
  · refine k_callR (k_atS (As := [.int x]) hx hb hown hE.1 (K0.w tw_140) rfl k_w9 (hts _ tw_138) (hts _ tw_139) (hts _ tw_1) (by decide) np_FK_checkProcess rfl d_FK_close_1) (kn_s hq1 (c_FK_checkProcess K0 ad r σ x)) (hl.1.trans hml.symm) (Nat.le_of_ble_eq_true rfl) ⟨Nat.le_of_ble_eq_true rfl, Nat.le_of_ble_eq_true rfl, Nat.le_of_ble_eq_true rfl, Nat.le_of_ble_eq_true rfl⟩ (fun U hU hW => ⟨hE.go hW hU hS, by rw [hU]; exact hP, hD⟩) ?_
    obtain ⟨rfl, ha3, hb_4, hc_5⟩ := rg_some hq1
    refine lv_iload_n hx hb d_FK_close_4 rfl (lv_at hl 2 rfl) ?_
    rcases hq6 : rg y 0 3 with _ | j7
    · exact k_callE (k_atS (As := [.int y]) hx hb hown hE.1 (K0.w tw_469) rfl k_w9 (hts _ tw_467) (hts _ tw_468) (hts _ tw_1) (by decide) np_FK_checkDescriptor rfl d_FK_close_5) (kn_n hq6 (c_FK_checkDescriptor K0 ad r σ y)) (hl.1.trans hml.symm) (Nat.le_of_ble_eq_true rfl) ⟨Nat.le_of_ble_eq_true rfl, Nat.le_of_ble_eq_true rfl, Nat.le_of_ble_eq_true rfl, Nat.le_of_ble_eq_true rfl⟩ (fun U hU hW => ⟨hE.go hW hU hS, by rw [hU]; exact hP, hD⟩) hex hlocks (by first | rfl | (simp [sp_close, inr, req, wit, eIA, eIS, eUO, eNS, hq1, hq6]; done) | (simp [sp_close, inr, req, wit, eIA, eIS, eUO, eNS, hq1, hq6]; rfl) | (simp [sp_close, inr, req, wit, eIA, eIS, eUO, eNS, hq1, hq6]; done) | (simp [sp_close, inr, req, wit, eIA, eIS, eUO, eNS, hq1, hq6]; rfl) | (simp only [sp_close, inr, req, wit, eIA, eIS, eUO, eNS, hq1, hq6]; rfl))
    · refine k_callR (k_atS (As := [.int y]) hx hb hown hE.1 (K0.w tw_469) rfl k_w9 (hts _ tw_467) (hts _ tw_468) (hts _ tw_1) (by decide) np_FK_checkDescriptor rfl d_FK_close_5) (kn_s hq6 (c_FK_checkDescriptor K0 ad r σ y)) (hl.1.trans hml.symm) (Nat.le_of_ble_eq_true rfl) ⟨Nat.le_of_ble_eq_true rfl, Nat.le_of_ble_eq_true rfl, Nat.le_of_ble_eq_true rfl, Nat.le_of_ble_eq_true rfl⟩ (fun U hU hW => ⟨hE.go hW hU hS, by rw [hU]; exact hP, hD⟩) ?_
      obtain ⟨rfl, ha8, hb_9, hc_10⟩ := rg_some hq6
      refine lv_aload_n hx hb d_FK_close_8 rfl (lv_at hl 0 rfl) ?_
      refine lv_iload_n hx hb d_FK_close_9 rfl (lv_at hl 1 rfl) ?_
      rcases hq11 : mine σ j2 with _ | _
      · exact k_callE (k_atV (As := [.int (nI j2)]) hx hb hown hE.1 (K0.w tw_476) (hts _ tw_473) (hts _ tw_475) (hts _ tw_9012) (hts _ tw_1) (by decide) np_FK_checkIsMine (va_recv hK hP (ci := nFK) (q0 := 0) rfl rfl) rfl d_FK_close_10) (kr_f hq11 (c_FK_checkIsMine K0 ad r σ j2 ok (by omega) )) (hl.1.trans hml.symm) (Nat.le_of_ble_eq_true rfl) ⟨Nat.le_of_ble_eq_true rfl, Nat.le_of_ble_eq_true rfl, Nat.le_of_ble_eq_true rfl, Nat.le_of_ble_eq_true rfl⟩ (fun U hU hW => ⟨hE.go hW hU hS, by rw [hU]; exact hP, hD⟩) hex hlocks (by first | rfl | (simp [sp_close, inr, req, wit, eIA, eIS, eUO, eNS, hq1, hq6, hq11]; done) | (simp [sp_close, inr, req, wit, eIA, eIS, eUO, eNS, hq1, hq6, hq11]; rfl) | (simp [sp_close, inr, req, wit, eIA, eIS, eUO, eNS, hq1, hq6, hq11]; done) | (simp [sp_close, inr, req, wit, eIA, eIS, eUO, eNS, hq1, hq6, hq11]; rfl) | (simp only [sp_close, inr, req, wit, eIA, eIS, eUO, eNS, hq1, hq6, hq11]; rfl))
      · refine k_callR (k_atV (As := [.int (nI j2)]) hx hb hown hE.1 (K0.w tw_476) (hts _ tw_473) (hts _ tw_475) (hts _ tw_9012) (hts _ tw_1) (by decide) np_FK_checkIsMine (va_recv hK hP (ci := nFK) (q0 := 0) rfl rfl) rfl d_FK_close_10) (kr_t hq11 (c_FK_checkIsMine K0 ad r σ j2 ok (by omega) )) (hl.1.trans hml.symm) (Nat.le_of_ble_eq_true rfl) ⟨Nat.le_of_ble_eq_true rfl, Nat.le_of_ble_eq_true rfl, Nat.le_of_ble_eq_true rfl, Nat.le_of_ble_eq_true rfl⟩ (fun U hU hW => ⟨hE.go hW hU hS, by rw [hU]; exact hP, hD⟩) ?_
        refine lv_aload_n hx hb d_FK_close_13 rfl (lv_at hl 0 rfl) ?_
        refine lv_iload_n hx hb d_FK_close_14 rfl (lv_at hl 1 rfl) ?_
        refine lv_iload_n hx hb d_FK_close_15 rfl (lv_at hl 2 rfl) ?_
        rcases hq12 : (σ.1 7 (j2 * 4 + j7) != 0) with _ | _
        · exact k_callE (k_atV (As := [.int (nI j2), .int (nI j7)]) hx hb hown hE.1 (K0.w tw_508) (hts _ tw_505) (hts _ tw_507) (hts _ tw_9015) (hts _ tw_1) (by decide) np_FK_pipeBehind (va_recv hK hP (ci := nFK) (q0 := 0) rfl rfl) rfl d_FK_close_16) (kr_f hq12 (c_FK_pipeBehind K0 ad r σ j2 j7 ok (by omega) (by omega) )) (hl.1.trans hml.symm) (Nat.le_of_ble_eq_true rfl) ⟨Nat.le_of_ble_eq_true rfl, Nat.le_of_ble_eq_true rfl, Nat.le_of_ble_eq_true rfl, Nat.le_of_ble_eq_true rfl⟩ (fun U hU hW => ⟨hE.go hW hU hS, by rw [hU]; exact hP, hD⟩) hex hlocks (by first | rfl | (simp [sp_close, inr, req, wit, eIA, eIS, eUO, eNS, hq1, hq6, hq11, hq12]; done) | (simp [sp_close, inr, req, wit, eIA, eIS, eUO, eNS, hq1, hq6, hq11, hq12]; rfl) | (simp [sp_close, inr, req, wit, eIA, eIS, eUO, eNS, hq1, hq6, hq11, hq12]; done) | (simp [sp_close, inr, req, wit, eIA, eIS, eUO, eNS, hq1, hq6, hq11, hq12]; rfl) | (simp only [sp_close, inr, req, wit, eIA, eIS, eUO, eNS, hq1, hq6, hq11, hq12]; rfl))
        · refine k_callR (k_atV (As := [.int (nI j2), .int (nI j7)]) hx hb hown hE.1 (K0.w tw_508) (hts _ tw_505) (hts _ tw_507) (hts _ tw_9015) (hts _ tw_1) (by decide) np_FK_pipeBehind (va_recv hK hP (ci := nFK) (q0 := 0) rfl rfl) rfl d_FK_close_16) (kr_t hq12 (c_FK_pipeBehind K0 ad r σ j2 j7 ok (by omega) (by omega) )) (hl.1.trans hml.symm) (Nat.le_of_ble_eq_true rfl) ⟨Nat.le_of_ble_eq_true rfl, Nat.le_of_ble_eq_true rfl, Nat.le_of_ble_eq_true rfl, Nat.le_of_ble_eq_true rfl⟩ (fun U hU hW => ⟨hE.go hW hU hS, by rw [hU]; exact hP, hD⟩) ?_
          have hnzp : σ.1 7 (j2 * 4 + j7) ≠ 0 := by simpa using hq12
          have hbdp := o7 (j2 * 4 + j7) (by omega)
          refine lv_istore_n (lv' := [(3, .int (pI (σ.1 7 (j2 * 4 + j7)))), (0, .ref (ad 0)), (1, .int (nI j2)), (2, .int (nI j7))]) hx hb d_FK_close_19 rfl hl (by decide) rfl (fun ls hl => ?_)
          refine lv_aload_n hx hb d_FK_close_20 rfl (lv_at hl 1 rfl) ?_
          refine va_get (D := D) (ci := nFK) (v := .ref (ad 2)) (C := R_FK) (T := T_FK) (N := 4) hx hb hts i_FK hown hK hP 0 rfl rfl 1 (by decide) (hts _ tw_117) (fun _ h9 => h9) rfl d_FK_close_21 ?_
          refine lv_iload_n hx hb d_FK_close_24 rfl (lv_at hl 2 rfl) ?_
          refine lv_iload_n hx hb d_FK_close_25 rfl (lv_at hl 3 rfl) ?_
          refine lv_iconst (v := (pI 0)) hx hb d_FK_close_26 (by decide) ?_
          refine k_callW (k_atV (As := [.int (nI j2), .int (nI j7), .int (pI 0)]) hx hb hown hE.1 (K0.w tw_81) (hts _ tw_497) (hts _ tw_79) (hts _ tw_80) (hts _ tw_3) (by decide) np_Pro_setPipe (va_recv hK hP (ci := nPro) (q0 := 2) rfl rfl) rfl d_FK_close_27) (c_Pro_setPipe K0 ad r σ j2 j7 0 (by omega) (by omega)) (hl.1.trans hml.symm) (Nat.le_of_ble_eq_true rfl) ⟨Nat.le_of_ble_eq_true rfl, Nat.le_of_ble_eq_true rfl, Nat.le_of_ble_eq_true rfl, Nat.le_of_ble_eq_true rfl⟩ (fun U hU hW => ⟨hE.go hW hU hS, by rw [hU]; exact hP, hD⟩) hS (fun H locs hP hD hS => ?_)
          obtain ⟨σ13, eσ13⟩ : ∃ z : kS, z = (st σ 7 (j2 * 4 + j7) 0) := ⟨_, rfl⟩
          have hP : va_P D vwCl (wC ad cI r σ13) H := by rw [eσ13]; exact hP
          have hD : va_D (kA s0) (wC ad cI r σ13) := by rw [eσ13]; exact hD
          refine lv_aload_n hx hb d_FK_close_30 rfl (lv_at hl 1 rfl) ?_
          refine va_get (D := D) (ci := nFK) (v := .ref (ad 2)) (C := R_FK) (T := T_FK) (N := 4) hx hb hts i_FK hown hK hP 0 rfl rfl 1 (by decide) (hts _ tw_117) (fun _ h9 => h9) rfl d_FK_close_31 ?_
          refine lv_iload_n hx hb d_FK_close_34 rfl (lv_at hl 0 rfl) ?_
          refine k_st (st' := [.int (nI ((σ.1 7 (j2 * 4 + j7)) - 1)), .ref (ad 2)]) (by show ([.int (pI (σ.1 7 (j2 * 4 + j7))), .ref (ad 2)] : List Value) = _; rw [pI_pred (by omega)]) ?_
          refine k_callR (k_atV (As := [.int (nI ((σ.1 7 (j2 * 4 + j7)) - 1))]) hx hb hown hE.1 (K0.w tw_487) (hts _ tw_484) (hts _ tw_485) (hts _ tw_486) (hts _ tw_3) (by decide) np_Pro_descriptorsOfPipe (va_recv hK hP (ci := nPro) (q0 := 2) rfl rfl) rfl d_FK_close_35) (c_Pro_descriptorsOfPipe K0 ad r σ13 ((σ.1 7 (j2 * 4 + j7)) - 1) (by omega) (by subst eσ13; first | exact ok.b7 | exact st_b ok.b7 (by omega))) (hl.1.trans hml.symm) (Nat.le_of_ble_eq_true rfl) ⟨Nat.le_of_ble_eq_true rfl, Nat.le_of_ble_eq_true rfl, Nat.le_of_ble_eq_true rfl, Nat.le_of_ble_eq_true rfl⟩ (fun U hU hW => ⟨hE.go hW hU hS, by rw [hU]; exact hP, hD⟩) ?_
          have hc14 : (cof σ13 ((σ.1 7 (j2 * 4 + j7)) - 1)) ≤ 24 := cnt_le _ _
          exact k_retWI hx hb hr hlocks d_FK_close_38 hP hD hS (by subst eσ13; first | rfl | (simp [sp_close, inr, req, wit, eIA, eIS, eUO, eNS, hq1, hq6, hq11, hq12]; done) | (simp [sp_close, inr, req, wit, eIA, eIS, eUO, eNS, hq1, hq6, hq11, hq12]; rfl) | (simp [sp_close, inr, req, wit, eIA, eIS, eUO, eNS, hq1, hq6, hq11, hq12]; done) | (simp [sp_close, inr, req, wit, eIA, eIS, eUO, eNS, hq1, hq6, hq11, hq12]; rfl) | (simp only [sp_close, inr, req, wit, eIA, eIS, eUO, eNS, hq1, hq6, hq11, hq12]; rfl))
set_option maxHeartbeats 4000000 in
set_option maxRecDepth 100000 in
theorem c_FK_put {l : Launch} {s0 : State} {a0 : Array Value} {D : va_G} {cI cL : ClassId} (K0 : k0 l s0 a0 D cI cL) (ad : Nat → Nat) (r : va_W) (σ : kS) (x : Int32) (y : Int32) (ok : kOk σ) : kMet l y_FK_put (Cond.code y_FK_put b_FK_put 5 (some .int)) (rmL 9) [.ref (ad 0), .int x, .int y] (kPre D vwCl s0 (wC ad cI r) σ) (sp_put σ x y) (kBw D vwCl s0 (wC ad cI r)) := by
  refine k_of (by decide) (Nat.le_of_ble_eq_true rfl) ?_
  intro p e9 s m below meth c hx hb hr hlocks hown hml hex hpre ls hl
  obtain ⟨hE, hP, hD⟩ := hpre
  obtain ⟨hts, hK⟩ := K0.at (args := ([.ref (ad 0), .int x, .int y] : List Value).toArray) hE
  have hl : lv_has ls 5 [(0, .ref (ad 0)), (1, .int x), (2, .int y)] := hl
  have hS : va_S (kA s0) s.heap s.heap [] := va_S.rf
  obtain ⟨o1, o2, o3, o4, o5, o6, o7, o8, o9, o10, o0, ⟨oc1, oc2⟩, oc3, or6⟩ := id ok
  have hr0 : σ.1 6 (σ.1 11 0) ≠ 0 := or6 _ oc2 (by omega)
  have hr1 : σ.1 6 (σ.1 11 0) < 21 := o6 _ oc2
  refine lv_iload_n hx hb d_FK_put_0 rfl (lv_at hl 1 rfl) ?_
  rcases hq1 : rg x 0 3 with _ | j2
  · exact k_callE (k_atS (As := [.int x]) hx hb hown hE.1 (K0.w tw_469) rfl k_w9 (hts _ tw_467) (hts _ tw_468) (hts _ tw_1) (by decide) np_FK_checkDescriptor rfl d_FK_put_1) (kn_n hq1 (c_FK_checkDescriptor K0 ad r σ x)) (hl.1.trans hml.symm) (Nat.le_of_ble_eq_true rfl) ⟨Nat.le_of_ble_eq_true rfl, Nat.le_of_ble_eq_true rfl, Nat.le_of_ble_eq_true rfl, Nat.le_of_ble_eq_true rfl⟩ (fun U hU hW => ⟨hE.go hW hU hS, by rw [hU]; exact hP, hD⟩) hex hlocks (by first | rfl | (simp [sp_put, inr, req, wit, st_get, wd, eIA, eIS, eUO, eNS, hq1]; done) | (simp [sp_put, inr, req, wit, st_get, wd, eIA, eIS, eUO, eNS, hq1]; rfl) | (simp [sp_put, inr, req, wit, st_get, wd, eIA, eIS, eUO, eNS, hq1]; done) | (simp [sp_put, inr, req, wit, st_get, wd, eIA, eIS, eUO, eNS, hq1]; rfl) | (simp only [sp_put, inr, req, wit, st_get, wd, eIA, eIS, eUO, eNS, hq1]; rfl))
  · refine k_callR (k_atS (As := [.int x]) hx hb hown hE.1 (K0.w tw_469) rfl k_w9 (hts _ tw_467) (hts _ tw_468) (hts _ tw_1) (by decide) np_FK_checkDescriptor rfl d_FK_put_1) (kn_s hq1 (c_FK_checkDescriptor K0 ad r σ x)) (hl.1.trans hml.symm) (Nat.le_of_ble_eq_true rfl) ⟨Nat.le_of_ble_eq_true rfl, Nat.le_of_ble_eq_true rfl, Nat.le_of_ble_eq_true rfl, Nat.le_of_ble_eq_true rfl⟩ (fun U hU hW => ⟨hE.go hW hU hS, by rw [hU]; exact hP, hD⟩) ?_
    obtain ⟨rfl, ha3, hb_4, hc_5⟩ := rg_some hq1
    refine lv_iload_n hx hb d_FK_put_4 rfl (lv_at hl 2 rfl) ?_
    rcases hq6 : rg y 0 63 with _ | j7
    · exact k_callE (k_atS (As := [.int y]) hx hb hown hE.1 (K0.w tw_526) rfl k_w9 (hts _ tw_524) (hts _ tw_525) (hts _ tw_1) (by decide) np_FK_checkAddress rfl d_FK_put_5) (kn_n hq6 (c_FK_checkAddress K0 ad r σ y)) (hl.1.trans hml.symm) (Nat.le_of_ble_eq_true rfl) ⟨Nat.le_of_ble_eq_true rfl, Nat.le_of_ble_eq_true rfl, Nat.le_of_ble_eq_true rfl, Nat.le_of_ble_eq_true rfl⟩ (fun U hU hW => ⟨hE.go hW hU hS, by rw [hU]; exact hP, hD⟩) hex hlocks (by first | rfl | (simp [sp_put, inr, req, wit, st_get, wd, eIA, eIS, eUO, eNS, hq1, hq6]; done) | (simp [sp_put, inr, req, wit, st_get, wd, eIA, eIS, eUO, eNS, hq1, hq6]; rfl) | (simp [sp_put, inr, req, wit, st_get, wd, eIA, eIS, eUO, eNS, hq1, hq6]; done) | (simp [sp_put, inr, req, wit, st_get, wd, eIA, eIS, eUO, eNS, hq1, hq6]; rfl) | (simp only [sp_put, inr, req, wit, st_get, wd, eIA, eIS, eUO, eNS, hq1, hq6]; rfl))
    · refine k_callR (k_atS (As := [.int y]) hx hb hown hE.1 (K0.w tw_526) rfl k_w9 (hts _ tw_524) (hts _ tw_525) (hts _ tw_1) (by decide) np_FK_checkAddress rfl d_FK_put_5) (kn_s hq6 (c_FK_checkAddress K0 ad r σ y)) (hl.1.trans hml.symm) (Nat.le_of_ble_eq_true rfl) ⟨Nat.le_of_ble_eq_true rfl, Nat.le_of_ble_eq_true rfl, Nat.le_of_ble_eq_true rfl, Nat.le_of_ble_eq_true rfl⟩ (fun U hU hW => ⟨hE.go hW hU hS, by rw [hU]; exact hP, hD⟩) ?_
      obtain ⟨rfl, ha8, hb_9, hc_10⟩ := rg_some hq6
      refine lv_aload_n hx hb d_FK_put_8 rfl (lv_at hl 0 rfl) ?_
      refine lv_aload_n hx hb d_FK_put_9 rfl (lv_at hl 0 rfl) ?_
      refine va_get (D := D) (ci := nFK) (v := .int (nI (σ.1 11 0))) (C := R_FK) (T := T_FK) (N := 4) hx hb hts i_FK hown hK hP 0 rfl rfl 3 (by decide) (hts _ tw_119) (fun _ h9 => h9) rfl d_FK_put_10 ?_
      refine lv_iload_n hx hb d_FK_put_13 rfl (lv_at hl 1 rfl) ?_
      rcases hq11 : (σ.1 7 ((σ.1 11 0) * 4 + j2) != 0) with _ | _
      · exact k_callE (k_atV (As := [.int (nI (σ.1 11 0)), .int (nI j2)]) hx hb hown hE.1 (K0.w tw_508) (hts _ tw_505) (hts _ tw_507) (hts _ tw_9015) (hts _ tw_1) (by decide) np_FK_pipeBehind (va_recv hK hP (ci := nFK) (q0 := 0) rfl rfl) rfl d_FK_put_14) (kr_f hq11 (c_FK_pipeBehind K0 ad r σ (σ.1 11 0) j2 ok (by omega) (by omega) )) (hl.1.trans hml.symm) (Nat.le_of_ble_eq_true rfl) ⟨Nat.le_of_ble_eq_true rfl, Nat.le_of_ble_eq_true rfl, Nat.le_of_ble_eq_true rfl, Nat.le_of_ble_eq_true rfl⟩ (fun U hU hW => ⟨hE.go hW hU hS, by rw [hU]; exact hP, hD⟩) hex hlocks (by first | rfl | (simp [sp_put, inr, req, wit, st_get, wd, eIA, eIS, eUO, eNS, hq1, hq6, hq11]; done) | (simp [sp_put, inr, req, wit, st_get, wd, eIA, eIS, eUO, eNS, hq1, hq6, hq11]; rfl) | (simp [sp_put, inr, req, wit, st_get, wd, eIA, eIS, eUO, eNS, hq1, hq6, hq11]; done) | (simp [sp_put, inr, req, wit, st_get, wd, eIA, eIS, eUO, eNS, hq1, hq6, hq11]; rfl) | (simp only [sp_put, inr, req, wit, st_get, wd, eIA, eIS, eUO, eNS, hq1, hq6, hq11]; rfl))
      · refine k_callR (k_atV (As := [.int (nI (σ.1 11 0)), .int (nI j2)]) hx hb hown hE.1 (K0.w tw_508) (hts _ tw_505) (hts _ tw_507) (hts _ tw_9015) (hts _ tw_1) (by decide) np_FK_pipeBehind (va_recv hK hP (ci := nFK) (q0 := 0) rfl rfl) rfl d_FK_put_14) (kr_t hq11 (c_FK_pipeBehind K0 ad r σ (σ.1 11 0) j2 ok (by omega) (by omega) )) (hl.1.trans hml.symm) (Nat.le_of_ble_eq_true rfl) ⟨Nat.le_of_ble_eq_true rfl, Nat.le_of_ble_eq_true rfl, Nat.le_of_ble_eq_true rfl, Nat.le_of_ble_eq_true rfl⟩ (fun U hU hW => ⟨hE.go hW hU hS, by rw [hU]; exact hP, hD⟩) ?_
        have hnzp : σ.1 7 ((σ.1 11 0) * 4 + j2) ≠ 0 := by simpa using hq11
        have hbdp := o7 ((σ.1 11 0) * 4 + j2) (by omega)
        refine lv_istore_n (lv' := [(3, .int (pI (σ.1 7 ((σ.1 11 0) * 4 + j2)))), (0, .ref (ad 0)), (1, .int (nI j2)), (2, .int (nI j7))]) hx hb d_FK_put_17 rfl hl (by decide) rfl (fun ls hl => ?_)
        refine lv_aload_n hx hb d_FK_put_18 rfl (lv_at hl 1 rfl) ?_
        refine lv_iload_n hx hb d_FK_put_19 rfl (lv_at hl 3 rfl) ?_
        refine lv_iconst (v := (nI 1)) hx hb d_FK_put_20 (by decide) ?_
        rcases hq12 : (tb σ j7 != 0) with _ | _
        · exact k_callE (k_atV (As := [.int (nI j7), .int (nI 1)]) hx hb hown hE.1 (K0.w tw_530) (hts _ tw_527) (hts _ tw_529) (hts _ tw_9016) (hts _ tw_1) (by decide) np_FK_frameWithRight (va_recv hK hP (ci := nFK) (q0 := 0) rfl rfl) rfl d_FK_put_21) (kr_f hq12 (c_FK_frameWithRight K0 ad r σ j7 1 ok (by omega) )) (hl.1.trans hml.symm) (Nat.le_of_ble_eq_true rfl) ⟨Nat.le_of_ble_eq_true rfl, Nat.le_of_ble_eq_true rfl, Nat.le_of_ble_eq_true rfl, Nat.le_of_ble_eq_true rfl⟩ (fun U hU hW => ⟨hE.go hW hU hS, by rw [hU]; exact hP, hD⟩) hex hlocks (by first | rfl | (simp [sp_put, inr, req, wit, st_get, wd, eIA, eIS, eUO, eNS, hq1, hq6, hq11, hq12]; done) | (simp [sp_put, inr, req, wit, st_get, wd, eIA, eIS, eUO, eNS, hq1, hq6, hq11, hq12]; rfl) | (simp [sp_put, inr, req, wit, st_get, wd, eIA, eIS, eUO, eNS, hq1, hq6, hq11, hq12]; done) | (simp [sp_put, inr, req, wit, st_get, wd, eIA, eIS, eUO, eNS, hq1, hq6, hq11, hq12]; rfl) | (simp only [sp_put, inr, req, wit, st_get, wd, eIA, eIS, eUO, eNS, hq1, hq6, hq11, hq12]; rfl))
        · skip
          rcases hq13 : (fr σ j7 != 0) with _ | _
          · exact k_callE (k_atV (As := [.int (nI j7), .int (nI 1)]) hx hb hown hE.1 (K0.w tw_530) (hts _ tw_527) (hts _ tw_529) (hts _ tw_9016) (hts _ tw_1) (by decide) np_FK_frameWithRight (va_recv hK hP (ci := nFK) (q0 := 0) rfl rfl) rfl d_FK_put_21) (kr_f hq13 (kr_t hq12 (c_FK_frameWithRight K0 ad r σ j7 1 ok (by omega) ))) (hl.1.trans hml.symm) (Nat.le_of_ble_eq_true rfl) ⟨Nat.le_of_ble_eq_true rfl, Nat.le_of_ble_eq_true rfl, Nat.le_of_ble_eq_true rfl, Nat.le_of_ble_eq_true rfl⟩ (fun U hU hW => ⟨hE.go hW hU hS, by rw [hU]; exact hP, hD⟩) hex hlocks (by first | rfl | (simp [sp_put, inr, req, wit, st_get, wd, eIA, eIS, eUO, eNS, hq1, hq6, hq11, hq12, hq13]; done) | (simp [sp_put, inr, req, wit, st_get, wd, eIA, eIS, eUO, eNS, hq1, hq6, hq11, hq12, hq13]; rfl) | (simp [sp_put, inr, req, wit, st_get, wd, eIA, eIS, eUO, eNS, hq1, hq6, hq11, hq12, hq13]; done) | (simp [sp_put, inr, req, wit, st_get, wd, eIA, eIS, eUO, eNS, hq1, hq6, hq11, hq12, hq13]; rfl) | (simp only [sp_put, inr, req, wit, st_get, wd, eIA, eIS, eUO, eNS, hq1, hq6, hq11, hq12, hq13]; rfl))
          · skip
            rcases hq14 : (rgt σ j7 1 != 0) with _ | _
            · exact k_callE (k_atV (As := [.int (nI j7), .int (nI 1)]) hx hb hown hE.1 (K0.w tw_530) (hts _ tw_527) (hts _ tw_529) (hts _ tw_9016) (hts _ tw_1) (by decide) np_FK_frameWithRight (va_recv hK hP (ci := nFK) (q0 := 0) rfl rfl) rfl d_FK_put_21) (kr_f hq14 (kr_t hq13 (kr_t hq12 (c_FK_frameWithRight K0 ad r σ j7 1 ok (by omega) )))) (hl.1.trans hml.symm) (Nat.le_of_ble_eq_true rfl) ⟨Nat.le_of_ble_eq_true rfl, Nat.le_of_ble_eq_true rfl, Nat.le_of_ble_eq_true rfl, Nat.le_of_ble_eq_true rfl⟩ (fun U hU hW => ⟨hE.go hW hU hS, by rw [hU]; exact hP, hD⟩) hex hlocks (by first | rfl | (simp [sp_put, inr, req, wit, st_get, wd, eIA, eIS, eUO, eNS, hq1, hq6, hq11, hq12, hq13, hq14]; done) | (simp [sp_put, inr, req, wit, st_get, wd, eIA, eIS, eUO, eNS, hq1, hq6, hq11, hq12, hq13, hq14]; rfl) | (simp [sp_put, inr, req, wit, st_get, wd, eIA, eIS, eUO, eNS, hq1, hq6, hq11, hq12, hq13, hq14]; done) | (simp [sp_put, inr, req, wit, st_get, wd, eIA, eIS, eUO, eNS, hq1, hq6, hq11, hq12, hq13, hq14]; rfl) | (simp only [sp_put, inr, req, wit, st_get, wd, eIA, eIS, eUO, eNS, hq1, hq6, hq11, hq12, hq13, hq14]; rfl))
            · skip
              refine k_callR (k_atV (As := [.int (nI j7), .int (nI 1)]) hx hb hown hE.1 (K0.w tw_530) (hts _ tw_527) (hts _ tw_529) (hts _ tw_9016) (hts _ tw_1) (by decide) np_FK_frameWithRight (va_recv hK hP (ci := nFK) (q0 := 0) rfl rfl) rfl d_FK_put_21) (kr_t hq14 (kr_t hq13 (kr_t hq12 (c_FK_frameWithRight K0 ad r σ j7 1 ok (by omega) )))) (hl.1.trans hml.symm) (Nat.le_of_ble_eq_true rfl) ⟨Nat.le_of_ble_eq_true rfl, Nat.le_of_ble_eq_true rfl, Nat.le_of_ble_eq_true rfl, Nat.le_of_ble_eq_true rfl⟩ (fun U hU hW => ⟨hE.go hW hU hS, by rw [hU]; exact hP, hD⟩) ?_
              have hnzt : tb σ j7 ≠ 0 := by simpa using hq12
              have hnzf : fr σ j7 ≠ 0 := by simpa using hq13
              have hbdt := ok.tbl j7 (by omega)
              have hbdf := ok.frl j7 (by omega) hnzt
              refine lv_istore (lv' := [(4, .int (pI (fr σ j7))), (3, .int (pI (σ.1 7 ((σ.1 11 0) * 4 + j2)))), (0, .ref (ad 0)), (1, .int (nI j2)), (2, .int (nI j7))]) hx hb d_FK_put_24 hl (by decide) rfl (fun ls hl => ?_)
              refine lv_aload_n hx hb d_FK_put_26 rfl (lv_at hl 2 rfl) ?_
              refine va_get (D := D) (ci := nFK) (v := .ref (ad 3)) (C := R_FK) (T := T_FK) (N := 4) hx hb hts i_FK hown hK hP 0 rfl rfl 2 (by decide) (hts _ tw_118) (fun _ h9 => h9) rfl d_FK_put_27 ?_
              refine lv_iload_n hx hb d_FK_put_30 rfl (lv_at hl 1 rfl) ?_
              refine k_st (st' := [.int (nI ((σ.1 7 ((σ.1 11 0) * 4 + j2)) - 1)), .ref (ad 3)]) (by show ([.int (pI (σ.1 7 ((σ.1 11 0) * 4 + j2))), .ref (ad 3)] : List Value) = _; rw [pI_pred (t := (σ.1 7 ((σ.1 11 0) * 4 + j2))) (by omega)]) ?_
              refine k_callR (k_atV (As := [.int (nI ((σ.1 7 ((σ.1 11 0) * 4 + j2)) - 1))]) hx hb hown hE.1 (K0.w tw_551) (hts _ tw_548) (hts _ tw_549) (hts _ tw_550) (hts _ tw_4) (by decide) np_Pip_held (va_recv hK hP (ci := nPip) (q0 := 3) rfl rfl) rfl d_FK_put_31) (c_Pip_held K0 ad r σ ((σ.1 7 ((σ.1 11 0) * 4 + j2)) - 1) (by omega)) (hl.1.trans hml.symm) (Nat.le_of_ble_eq_true rfl) ⟨Nat.le_of_ble_eq_true rfl, Nat.le_of_ble_eq_true rfl, Nat.le_of_ble_eq_true rfl, Nat.le_of_ble_eq_true rfl⟩ (fun U hU hW => ⟨hE.go hW hU hS, by rw [hU]; exact hP, hD⟩) ?_
              have ho15 := o10 ((σ.1 7 ((σ.1 11 0) * 4 + j2)) - 1) (by omega)
              refine lv_iconst (v := (nI 4)) hx hb d_FK_put_34 (by decide) ?_
              refine k_neN (tgt := 48) (Nat.lt_of_lt_of_le (ok.b10 _ (by omega)) (by decide)) (by omega) hx hb d_FK_put_35 (by decide) (fun h16 => ?_) (fun h16 => ?_)
              · refine lv_aload_n hx hb d_FK_put_48 rfl (lv_at hl 2 rfl) ?_
                refine va_get (D := D) (ci := nFK) (v := .ref (ad 3)) (C := R_FK) (T := T_FK) (N := 4) hx hb hts i_FK hown hK hP 0 rfl rfl 2 (by decide) (hts _ tw_118) (fun _ h9 => h9) rfl d_FK_put_49 ?_
                refine lv_iload_n hx hb d_FK_put_52 rfl (lv_at hl 1 rfl) ?_
                refine lv_aload_n hx hb d_FK_put_53 rfl (lv_at hl 2 rfl) ?_
                refine va_get (D := D) (ci := nFK) (v := .ref (ad 1)) (C := R_FK) (T := T_FK) (N := 4) hx hb hts i_FK hown hK hP 0 rfl rfl 0 (by decide) (hts _ tw_116) (fun _ h9 => h9) rfl d_FK_put_54 ?_
                refine lv_iload hx hb d_FK_put_57 (lv_at hl 0 rfl) ?_
                refine lv_iload_n hx hb d_FK_put_59 rfl (lv_at hl 4 rfl) ?_
                refine k_callR (k_atS (As := [.int (nI j7)]) hx hb hown hE.1 (K0.w tw_555) rfl k_w9 (hts _ tw_553) (hts _ tw_554) (hts _ tw_1) (by decide) np_FK_wordOf rfl d_FK_put_60) (c_FK_wordOf K0 ad r σ j7 (by omega)) (hl.1.trans hml.symm) (Nat.le_of_ble_eq_true rfl) ⟨Nat.le_of_ble_eq_true rfl, Nat.le_of_ble_eq_true rfl, Nat.le_of_ble_eq_true rfl, Nat.le_of_ble_eq_true rfl⟩ (fun U hU hW => ⟨hE.go hW hU hS, by rw [hU]; exact hP, hD⟩) ?_
                refine k_st (st' := [.int (nI (j7 % 4)), .int (nI ((fr σ j7) - 1)), .ref (ad 1), .int (pI (σ.1 7 ((σ.1 11 0) * 4 + j2))), .ref (ad 3)]) (by show ([.int (nI (j7 % 4)), .int (pI (fr σ j7)), .ref (ad 1), .int (pI (σ.1 7 ((σ.1 11 0) * 4 + j2))), .ref (ad 3)] : List Value) = _; rw [pI_pred (t := (fr σ j7)) (by omega)]) ?_
                refine k_callR (k_atV (As := [.int (nI ((fr σ j7) - 1)), .int (nI (j7 % 4))]) hx hb hown hE.1 (K0.w tw_360) (hts _ tw_556) (hts _ tw_358) (hts _ tw_359) (hts _ tw_2) (by decide) np_Mem_word (va_recv hK hP (ci := nMem) (q0 := 1) rfl rfl) rfl d_FK_put_63) (c_Mem_word K0 ad r σ ((fr σ j7) - 1) (j7 % 4) (by omega) (by omega)) (hl.1.trans hml.symm) (Nat.le_of_ble_eq_true rfl) ⟨Nat.le_of_ble_eq_true rfl, Nat.le_of_ble_eq_true rfl, Nat.le_of_ble_eq_true rfl, Nat.le_of_ble_eq_true rfl⟩ (fun U hU hW => ⟨hE.go hW hU hS, by rw [hU]; exact hP, hD⟩) ?_
                refine k_st (st' := [.int (σ.2 0 (((fr σ j7) - 1) * 4 + (j7 % 4))), .int (nI ((σ.1 7 ((σ.1 11 0) * 4 + j2)) - 1)), .ref (ad 3)]) (by show ([.int (σ.2 0 (((fr σ j7) - 1) * 4 + (j7 % 4))), .int (pI (σ.1 7 ((σ.1 11 0) * 4 + j2))), .ref (ad 3)] : List Value) = _; rw [pI_pred (t := (σ.1 7 ((σ.1 11 0) * 4 + j2))) (by omega)]) ?_
                refine k_callW (k_atV (As := [.int (nI ((σ.1 7 ((σ.1 11 0) * 4 + j2)) - 1)), .int (σ.2 0 (((fr σ j7) - 1) * 4 + (j7 % 4)))]) hx hb hown hE.1 (K0.w tw_560) (hts _ tw_557) (hts _ tw_558) (hts _ tw_559) (hts _ tw_4) (by decide) np_Pip_append (va_recv hK hP (ci := nPip) (q0 := 3) rfl rfl) rfl d_FK_put_66) (c_Pip_append K0 ad r σ ((σ.1 7 ((σ.1 11 0) * 4 + j2)) - 1) (σ.2 0 (((fr σ j7) - 1) * 4 + (j7 % 4))) (by omega) (by omega)) (hl.1.trans hml.symm) (Nat.le_of_ble_eq_true rfl) ⟨Nat.le_of_ble_eq_true rfl, Nat.le_of_ble_eq_true rfl, Nat.le_of_ble_eq_true rfl, Nat.le_of_ble_eq_true rfl⟩ (fun U hU hW => ⟨hE.go hW hU hS, by rw [hU]; exact hP, hD⟩) hS (fun H locs hP hD hS => ?_)
                obtain ⟨σ17, eσ17⟩ : ∃ z : kS, z = (st (sw σ 1 (((σ.1 7 ((σ.1 11 0) * 4 + j2)) - 1) * 4 + σ.1 10 ((σ.1 7 ((σ.1 11 0) * 4 + j2)) - 1)) (σ.2 0 (((fr σ j7) - 1) * 4 + (j7 % 4)))) 10 ((σ.1 7 ((σ.1 11 0) * 4 + j2)) - 1) (σ.1 10 ((σ.1 7 ((σ.1 11 0) * 4 + j2)) - 1) + 1)) := ⟨_, rfl⟩
                have hP : va_P D vwCl (wC ad cI r σ17) H := by rw [eσ17]; exact hP
                have hD : va_D (kA s0) (wC ad cI r σ17) := by rw [eσ17]; exact hD
                refine lv_aload_n hx hb d_FK_put_69 rfl (lv_at hl 2 rfl) ?_
                refine va_get (D := D) (ci := nFK) (v := .ref (ad 3)) (C := R_FK) (T := T_FK) (N := 4) hx hb hts i_FK hown hK hP 0 rfl rfl 2 (by decide) (hts _ tw_118) (fun _ h9 => h9) rfl d_FK_put_70 ?_
                refine lv_iload_n hx hb d_FK_put_73 rfl (lv_at hl 1 rfl) ?_
                refine k_st (st' := [.int (nI ((σ.1 7 ((σ.1 11 0) * 4 + j2)) - 1)), .ref (ad 3)]) (by show ([.int (pI (σ.1 7 ((σ.1 11 0) * 4 + j2))), .ref (ad 3)] : List Value) = _; rw [pI_pred (t := (σ.1 7 ((σ.1 11 0) * 4 + j2))) (by omega)]) ?_
                refine k_callR (k_atV (As := [.int (nI ((σ.1 7 ((σ.1 11 0) * 4 + j2)) - 1))]) hx hb hown hE.1 (K0.w tw_551) (hts _ tw_548) (hts _ tw_549) (hts _ tw_550) (hts _ tw_4) (by decide) np_Pip_held (va_recv hK hP (ci := nPip) (q0 := 3) rfl rfl) rfl d_FK_put_74) (c_Pip_held K0 ad r σ17 ((σ.1 7 ((σ.1 11 0) * 4 + j2)) - 1) (by omega)) (hl.1.trans hml.symm) (Nat.le_of_ble_eq_true rfl) ⟨Nat.le_of_ble_eq_true rfl, Nat.le_of_ble_eq_true rfl, Nat.le_of_ble_eq_true rfl, Nat.le_of_ble_eq_true rfl⟩ (fun U hU hW => ⟨hE.go hW hU hS, by rw [hU]; exact hP, hD⟩) ?_
                exact k_retWI hx hb hr hlocks d_FK_put_77 hP hD hS (by subst eσ17; first | rfl | (simp [sp_put, inr, req, wit, st_get, wd, eIA, eIS, eUO, eNS, hq1, hq6, hq11, hq12, hq13, hq14, h16, beq_false_of_ne h16, bne_iff_ne.mpr h16]; done) | (simp [sp_put, inr, req, wit, st_get, wd, eIA, eIS, eUO, eNS, hq1, hq6, hq11, hq12, hq13, hq14, h16, beq_false_of_ne h16, bne_iff_ne.mpr h16]; rfl) | (simp [sp_put, inr, req, wit, st_get, wd, eIA, eIS, eUO, eNS, hq1, hq6, hq11, hq12, hq13, hq14, h16, beq_false_of_ne h16, bne_iff_ne.mpr h16]; done) | (simp [sp_put, inr, req, wit, st_get, wd, eIA, eIS, eUO, eNS, hq1, hq6, hq11, hq12, hq13, hq14, h16, beq_false_of_ne h16, bne_iff_ne.mpr h16]; rfl) | (simp only [sp_put, inr, req, wit, st_get, wd, eIA, eIS, eUO, eNS, hq1, hq6, hq11, hq12, hq13, hq14, h16, beq_false_of_ne h16, bne_iff_ne.mpr h16]; rfl))
              · exact k_throw hx hb K0.tr hown (text := "the pipe is full") (names := kNames) (by decide +kernel) (by decide +kernel) (hts _ tw_220) (hts _ tw_10) (K0.str hE sr_193) (K0.own hE oa_57) (hl.1.trans hml.symm) d_FK_put_38 d_FK_put_41 d_FK_put_42 d_FK_put_44 d_FK_put_47 hex hlocks ⟨Nat.le_of_ble_eq_true rfl, Nat.le_of_ble_eq_true rfl, Nat.le_of_ble_eq_true rfl, Nat.le_of_ble_eq_true rfl⟩ (by first | rfl | (simp [sp_put, inr, req, wit, st_get, wd, eIA, eIS, eUO, eNS, hq1, hq6, hq11, hq12, hq13, hq14, h16]; done) | (simp [sp_put, inr, req, wit, st_get, wd, eIA, eIS, eUO, eNS, hq1, hq6, hq11, hq12, hq13, hq14, h16]; rfl) | (simp [sp_put, inr, req, wit, st_get, wd, eIA, eIS, eUO, eNS, hq1, hq6, hq11, hq12, hq13, hq14, beq_iff_eq.mpr h16]; done) | (simp [sp_put, inr, req, wit, st_get, wd, eIA, eIS, eUO, eNS, hq1, hq6, hq11, hq12, hq13, hq14, beq_iff_eq.mpr h16]; rfl) | (simp only [sp_put, inr, req, wit, st_get, wd, eIA, eIS, eUO, eNS, hq1, hq6, hq11, hq12, hq13, hq14, h16]; rfl))
set_option maxHeartbeats 4000000 in
set_option maxRecDepth 100000 in
theorem c_FK_take {l : Launch} {s0 : State} {a0 : Array Value} {D : va_G} {cI cL : ClassId} (K0 : k0 l s0 a0 D cI cL) (ad : Nat → Nat) (r : va_W) (σ : kS) (x : Int32) (y : Int32) (ok : kOk σ) : kMet l y_FK_take (Cond.code y_FK_take b_FK_take 6 (some .int)) (rmL 9) [.ref (ad 0), .int x, .int y] (kPre D vwCl s0 (wC ad cI r) σ) (sp_take σ x y) (kBw D vwCl s0 (wC ad cI r)) := by
  refine k_of (by decide) (Nat.le_of_ble_eq_true rfl) ?_
  intro p e9 s m below meth c hx hb hr hlocks hown hml hex hpre ls hl
  obtain ⟨hE, hP, hD⟩ := hpre
  obtain ⟨hts, hK⟩ := K0.at (args := ([.ref (ad 0), .int x, .int y] : List Value).toArray) hE
  have hl : lv_has ls 6 [(0, .ref (ad 0)), (1, .int x), (2, .int y)] := hl
  have hS : va_S (kA s0) s.heap s.heap [] := va_S.rf
  obtain ⟨o1, o2, o3, o4, o5, o6, o7, o8, o9, o10, o0, ⟨oc1, oc2⟩, oc3, or6⟩ := id ok
  have hr0 : σ.1 6 (σ.1 11 0) ≠ 0 := or6 _ oc2 (by omega)
  have hr1 : σ.1 6 (σ.1 11 0) < 21 := o6 _ oc2
  refine lv_iload_n hx hb d_FK_take_0 rfl (lv_at hl 1 rfl) ?_
  rcases hq1 : rg x 0 3 with _ | j2
  · exact k_callE (k_atS (As := [.int x]) hx hb hown hE.1 (K0.w tw_469) rfl k_w9 (hts _ tw_467) (hts _ tw_468) (hts _ tw_1) (by decide) np_FK_checkDescriptor rfl d_FK_take_1) (kn_n hq1 (c_FK_checkDescriptor K0 ad r σ x)) (hl.1.trans hml.symm) (Nat.le_of_ble_eq_true rfl) ⟨Nat.le_of_ble_eq_true rfl, Nat.le_of_ble_eq_true rfl, Nat.le_of_ble_eq_true rfl, Nat.le_of_ble_eq_true rfl⟩ (fun U hU hW => ⟨hE.go hW hU hS, by rw [hU]; exact hP, hD⟩) hex hlocks (by first | rfl | (simp [sp_take, inr, req, wit, eIA, eIS, eUO, eNS, hq1]; done) | (simp [sp_take, inr, req, wit, eIA, eIS, eUO, eNS, hq1]; rfl) | (simp [sp_take, inr, req, wit, eIA, eIS, eUO, eNS, hq1]; done) | (simp [sp_take, inr, req, wit, eIA, eIS, eUO, eNS, hq1]; rfl) | (simp only [sp_take, inr, req, wit, eIA, eIS, eUO, eNS, hq1]; rfl))
  · refine k_callR (k_atS (As := [.int x]) hx hb hown hE.1 (K0.w tw_469) rfl k_w9 (hts _ tw_467) (hts _ tw_468) (hts _ tw_1) (by decide) np_FK_checkDescriptor rfl d_FK_take_1) (kn_s hq1 (c_FK_checkDescriptor K0 ad r σ x)) (hl.1.trans hml.symm) (Nat.le_of_ble_eq_true rfl) ⟨Nat.le_of_ble_eq_true rfl, Nat.le_of_ble_eq_true rfl, Nat.le_of_ble_eq_true rfl, Nat.le_of_ble_eq_true rfl⟩ (fun U hU hW => ⟨hE.go hW hU hS, by rw [hU]; exact hP, hD⟩) ?_
    obtain ⟨rfl, ha3, hb_4, hc_5⟩ := rg_some hq1
    refine lv_iload_n hx hb d_FK_take_4 rfl (lv_at hl 2 rfl) ?_
    rcases hq6 : rg y 0 63 with _ | j7
    · exact k_callE (k_atS (As := [.int y]) hx hb hown hE.1 (K0.w tw_526) rfl k_w9 (hts _ tw_524) (hts _ tw_525) (hts _ tw_1) (by decide) np_FK_checkAddress rfl d_FK_take_5) (kn_n hq6 (c_FK_checkAddress K0 ad r σ y)) (hl.1.trans hml.symm) (Nat.le_of_ble_eq_true rfl) ⟨Nat.le_of_ble_eq_true rfl, Nat.le_of_ble_eq_true rfl, Nat.le_of_ble_eq_true rfl, Nat.le_of_ble_eq_true rfl⟩ (fun U hU hW => ⟨hE.go hW hU hS, by rw [hU]; exact hP, hD⟩) hex hlocks (by first | rfl | (simp [sp_take, inr, req, wit, eIA, eIS, eUO, eNS, hq1, hq6]; done) | (simp [sp_take, inr, req, wit, eIA, eIS, eUO, eNS, hq1, hq6]; rfl) | (simp [sp_take, inr, req, wit, eIA, eIS, eUO, eNS, hq1, hq6]; done) | (simp [sp_take, inr, req, wit, eIA, eIS, eUO, eNS, hq1, hq6]; rfl) | (simp only [sp_take, inr, req, wit, eIA, eIS, eUO, eNS, hq1, hq6]; rfl))
    · refine k_callR (k_atS (As := [.int y]) hx hb hown hE.1 (K0.w tw_526) rfl k_w9 (hts _ tw_524) (hts _ tw_525) (hts _ tw_1) (by decide) np_FK_checkAddress rfl d_FK_take_5) (kn_s hq6 (c_FK_checkAddress K0 ad r σ y)) (hl.1.trans hml.symm) (Nat.le_of_ble_eq_true rfl) ⟨Nat.le_of_ble_eq_true rfl, Nat.le_of_ble_eq_true rfl, Nat.le_of_ble_eq_true rfl, Nat.le_of_ble_eq_true rfl⟩ (fun U hU hW => ⟨hE.go hW hU hS, by rw [hU]; exact hP, hD⟩) ?_
      obtain ⟨rfl, ha8, hb_9, hc_10⟩ := rg_some hq6
      refine lv_aload_n hx hb d_FK_take_8 rfl (lv_at hl 0 rfl) ?_
      refine lv_aload_n hx hb d_FK_take_9 rfl (lv_at hl 0 rfl) ?_
      refine va_get (D := D) (ci := nFK) (v := .int (nI (σ.1 11 0))) (C := R_FK) (T := T_FK) (N := 4) hx hb hts i_FK hown hK hP 0 rfl rfl 3 (by decide) (hts _ tw_119) (fun _ h9 => h9) rfl d_FK_take_10 ?_
      refine lv_iload_n hx hb d_FK_take_13 rfl (lv_at hl 1 rfl) ?_
      rcases hq11 : (σ.1 7 ((σ.1 11 0) * 4 + j2) != 0) with _ | _
      · exact k_callE (k_atV (As := [.int (nI (σ.1 11 0)), .int (nI j2)]) hx hb hown hE.1 (K0.w tw_508) (hts _ tw_505) (hts _ tw_507) (hts _ tw_9015) (hts _ tw_1) (by decide) np_FK_pipeBehind (va_recv hK hP (ci := nFK) (q0 := 0) rfl rfl) rfl d_FK_take_14) (kr_f hq11 (c_FK_pipeBehind K0 ad r σ (σ.1 11 0) j2 ok (by omega) (by omega) )) (hl.1.trans hml.symm) (Nat.le_of_ble_eq_true rfl) ⟨Nat.le_of_ble_eq_true rfl, Nat.le_of_ble_eq_true rfl, Nat.le_of_ble_eq_true rfl, Nat.le_of_ble_eq_true rfl⟩ (fun U hU hW => ⟨hE.go hW hU hS, by rw [hU]; exact hP, hD⟩) hex hlocks (by first | rfl | (simp [sp_take, inr, req, wit, eIA, eIS, eUO, eNS, hq1, hq6, hq11]; done) | (simp [sp_take, inr, req, wit, eIA, eIS, eUO, eNS, hq1, hq6, hq11]; rfl) | (simp [sp_take, inr, req, wit, eIA, eIS, eUO, eNS, hq1, hq6, hq11]; done) | (simp [sp_take, inr, req, wit, eIA, eIS, eUO, eNS, hq1, hq6, hq11]; rfl) | (simp only [sp_take, inr, req, wit, eIA, eIS, eUO, eNS, hq1, hq6, hq11]; rfl))
      · refine k_callR (k_atV (As := [.int (nI (σ.1 11 0)), .int (nI j2)]) hx hb hown hE.1 (K0.w tw_508) (hts _ tw_505) (hts _ tw_507) (hts _ tw_9015) (hts _ tw_1) (by decide) np_FK_pipeBehind (va_recv hK hP (ci := nFK) (q0 := 0) rfl rfl) rfl d_FK_take_14) (kr_t hq11 (c_FK_pipeBehind K0 ad r σ (σ.1 11 0) j2 ok (by omega) (by omega) )) (hl.1.trans hml.symm) (Nat.le_of_ble_eq_true rfl) ⟨Nat.le_of_ble_eq_true rfl, Nat.le_of_ble_eq_true rfl, Nat.le_of_ble_eq_true rfl, Nat.le_of_ble_eq_true rfl⟩ (fun U hU hW => ⟨hE.go hW hU hS, by rw [hU]; exact hP, hD⟩) ?_
        have hnzp : σ.1 7 ((σ.1 11 0) * 4 + j2) ≠ 0 := by simpa using hq11
        have hbdp := o7 ((σ.1 11 0) * 4 + j2) (by omega)
        refine lv_istore_n (lv' := [(3, .int (pI (σ.1 7 ((σ.1 11 0) * 4 + j2)))), (0, .ref (ad 0)), (1, .int (nI j2)), (2, .int (nI j7))]) hx hb d_FK_take_17 rfl hl (by decide) rfl (fun ls hl => ?_)
        refine lv_aload_n hx hb d_FK_take_18 rfl (lv_at hl 1 rfl) ?_
        refine lv_iload_n hx hb d_FK_take_19 rfl (lv_at hl 3 rfl) ?_
        refine lv_iconst (v := (nI 2)) hx hb d_FK_take_20 (by decide) ?_
        rcases hq12 : (tb σ j7 != 0) with _ | _
        · exact k_callE (k_atV (As := [.int (nI j7), .int (nI 2)]) hx hb hown hE.1 (K0.w tw_530) (hts _ tw_527) (hts _ tw_529) (hts _ tw_9016) (hts _ tw_1) (by decide) np_FK_frameWithRight (va_recv hK hP (ci := nFK) (q0 := 0) rfl rfl) rfl d_FK_take_21) (kr_f hq12 (c_FK_frameWithRight K0 ad r σ j7 2 ok (by omega) )) (hl.1.trans hml.symm) (Nat.le_of_ble_eq_true rfl) ⟨Nat.le_of_ble_eq_true rfl, Nat.le_of_ble_eq_true rfl, Nat.le_of_ble_eq_true rfl, Nat.le_of_ble_eq_true rfl⟩ (fun U hU hW => ⟨hE.go hW hU hS, by rw [hU]; exact hP, hD⟩) hex hlocks (by first | rfl | (simp [sp_take, inr, req, wit, eIA, eIS, eUO, eNS, hq1, hq6, hq11, hq12]; done) | (simp [sp_take, inr, req, wit, eIA, eIS, eUO, eNS, hq1, hq6, hq11, hq12]; rfl) | (simp [sp_take, inr, req, wit, eIA, eIS, eUO, eNS, hq1, hq6, hq11, hq12]; done) | (simp [sp_take, inr, req, wit, eIA, eIS, eUO, eNS, hq1, hq6, hq11, hq12]; rfl) | (simp only [sp_take, inr, req, wit, eIA, eIS, eUO, eNS, hq1, hq6, hq11, hq12]; rfl))
        · skip
          rcases hq13 : (fr σ j7 != 0) with _ | _
          · exact k_callE (k_atV (As := [.int (nI j7), .int (nI 2)]) hx hb hown hE.1 (K0.w tw_530) (hts _ tw_527) (hts _ tw_529) (hts _ tw_9016) (hts _ tw_1) (by decide) np_FK_frameWithRight (va_recv hK hP (ci := nFK) (q0 := 0) rfl rfl) rfl d_FK_take_21) (kr_f hq13 (kr_t hq12 (c_FK_frameWithRight K0 ad r σ j7 2 ok (by omega) ))) (hl.1.trans hml.symm) (Nat.le_of_ble_eq_true rfl) ⟨Nat.le_of_ble_eq_true rfl, Nat.le_of_ble_eq_true rfl, Nat.le_of_ble_eq_true rfl, Nat.le_of_ble_eq_true rfl⟩ (fun U hU hW => ⟨hE.go hW hU hS, by rw [hU]; exact hP, hD⟩) hex hlocks (by first | rfl | (simp [sp_take, inr, req, wit, eIA, eIS, eUO, eNS, hq1, hq6, hq11, hq12, hq13]; done) | (simp [sp_take, inr, req, wit, eIA, eIS, eUO, eNS, hq1, hq6, hq11, hq12, hq13]; rfl) | (simp [sp_take, inr, req, wit, eIA, eIS, eUO, eNS, hq1, hq6, hq11, hq12, hq13]; done) | (simp [sp_take, inr, req, wit, eIA, eIS, eUO, eNS, hq1, hq6, hq11, hq12, hq13]; rfl) | (simp only [sp_take, inr, req, wit, eIA, eIS, eUO, eNS, hq1, hq6, hq11, hq12, hq13]; rfl))
          · skip
            rcases hq14 : (rgt σ j7 2 != 0) with _ | _
            · exact k_callE (k_atV (As := [.int (nI j7), .int (nI 2)]) hx hb hown hE.1 (K0.w tw_530) (hts _ tw_527) (hts _ tw_529) (hts _ tw_9016) (hts _ tw_1) (by decide) np_FK_frameWithRight (va_recv hK hP (ci := nFK) (q0 := 0) rfl rfl) rfl d_FK_take_21) (kr_f hq14 (kr_t hq13 (kr_t hq12 (c_FK_frameWithRight K0 ad r σ j7 2 ok (by omega) )))) (hl.1.trans hml.symm) (Nat.le_of_ble_eq_true rfl) ⟨Nat.le_of_ble_eq_true rfl, Nat.le_of_ble_eq_true rfl, Nat.le_of_ble_eq_true rfl, Nat.le_of_ble_eq_true rfl⟩ (fun U hU hW => ⟨hE.go hW hU hS, by rw [hU]; exact hP, hD⟩) hex hlocks (by first | rfl | (simp [sp_take, inr, req, wit, eIA, eIS, eUO, eNS, hq1, hq6, hq11, hq12, hq13, hq14]; done) | (simp [sp_take, inr, req, wit, eIA, eIS, eUO, eNS, hq1, hq6, hq11, hq12, hq13, hq14]; rfl) | (simp [sp_take, inr, req, wit, eIA, eIS, eUO, eNS, hq1, hq6, hq11, hq12, hq13, hq14]; done) | (simp [sp_take, inr, req, wit, eIA, eIS, eUO, eNS, hq1, hq6, hq11, hq12, hq13, hq14]; rfl) | (simp only [sp_take, inr, req, wit, eIA, eIS, eUO, eNS, hq1, hq6, hq11, hq12, hq13, hq14]; rfl))
            · skip
              refine k_callR (k_atV (As := [.int (nI j7), .int (nI 2)]) hx hb hown hE.1 (K0.w tw_530) (hts _ tw_527) (hts _ tw_529) (hts _ tw_9016) (hts _ tw_1) (by decide) np_FK_frameWithRight (va_recv hK hP (ci := nFK) (q0 := 0) rfl rfl) rfl d_FK_take_21) (kr_t hq14 (kr_t hq13 (kr_t hq12 (c_FK_frameWithRight K0 ad r σ j7 2 ok (by omega) )))) (hl.1.trans hml.symm) (Nat.le_of_ble_eq_true rfl) ⟨Nat.le_of_ble_eq_true rfl, Nat.le_of_ble_eq_true rfl, Nat.le_of_ble_eq_true rfl, Nat.le_of_ble_eq_true rfl⟩ (fun U hU hW => ⟨hE.go hW hU hS, by rw [hU]; exact hP, hD⟩) ?_
              have hnzt : tb σ j7 ≠ 0 := by simpa using hq12
              have hnzf : fr σ j7 ≠ 0 := by simpa using hq13
              have hbdt := ok.tbl j7 (by omega)
              have hbdf := ok.frl j7 (by omega) hnzt
              refine lv_istore (lv' := [(4, .int (pI (fr σ j7))), (3, .int (pI (σ.1 7 ((σ.1 11 0) * 4 + j2)))), (0, .ref (ad 0)), (1, .int (nI j2)), (2, .int (nI j7))]) hx hb d_FK_take_24 hl (by decide) rfl (fun ls hl => ?_)
              refine lv_aload_n hx hb d_FK_take_26 rfl (lv_at hl 2 rfl) ?_
              refine va_get (D := D) (ci := nFK) (v := .ref (ad 3)) (C := R_FK) (T := T_FK) (N := 4) hx hb hts i_FK hown hK hP 0 rfl rfl 2 (by decide) (hts _ tw_118) (fun _ h9 => h9) rfl d_FK_take_27 ?_
              refine lv_iload_n hx hb d_FK_take_30 rfl (lv_at hl 1 rfl) ?_
              refine k_st (st' := [.int (nI ((σ.1 7 ((σ.1 11 0) * 4 + j2)) - 1)), .ref (ad 3)]) (by show ([.int (pI (σ.1 7 ((σ.1 11 0) * 4 + j2))), .ref (ad 3)] : List Value) = _; rw [pI_pred (t := (σ.1 7 ((σ.1 11 0) * 4 + j2))) (by omega)]) ?_
              refine k_callR (k_atV (As := [.int (nI ((σ.1 7 ((σ.1 11 0) * 4 + j2)) - 1))]) hx hb hown hE.1 (K0.w tw_551) (hts _ tw_548) (hts _ tw_549) (hts _ tw_550) (hts _ tw_4) (by decide) np_Pip_held (va_recv hK hP (ci := nPip) (q0 := 3) rfl rfl) rfl d_FK_take_31) (c_Pip_held K0 ad r σ ((σ.1 7 ((σ.1 11 0) * 4 + j2)) - 1) (by omega)) (hl.1.trans hml.symm) (Nat.le_of_ble_eq_true rfl) ⟨Nat.le_of_ble_eq_true rfl, Nat.le_of_ble_eq_true rfl, Nat.le_of_ble_eq_true rfl, Nat.le_of_ble_eq_true rfl⟩ (fun U hU hW => ⟨hE.go hW hU hS, by rw [hU]; exact hP, hD⟩) ?_
              have ho15 := o10 ((σ.1 7 ((σ.1 11 0) * 4 + j2)) - 1) (by omega)
              refine k_ifN0 (tgt := 47) (Nat.lt_of_lt_of_le (ok.b10 _ (by omega)) (by decide)) hx hb d_FK_take_34 (by decide) (fun h16 => ?_) (fun h16 => ?_)
              · refine lv_aload_n hx hb d_FK_take_47 rfl (lv_at hl 2 rfl) ?_
                refine va_get (D := D) (ci := nFK) (v := .ref (ad 3)) (C := R_FK) (T := T_FK) (N := 4) hx hb hts i_FK hown hK hP 0 rfl rfl 2 (by decide) (hts _ tw_118) (fun _ h9 => h9) rfl d_FK_take_48 ?_
                refine lv_iload_n hx hb d_FK_take_51 rfl (lv_at hl 1 rfl) ?_
                have hsz := o10 ((σ.1 7 ((σ.1 11 0) * 4 + j2)) - 1) (by omega)
                refine k_st (st' := [.int (nI ((σ.1 7 ((σ.1 11 0) * 4 + j2)) - 1)), .ref (ad 3)]) (by show ([.int (pI (σ.1 7 ((σ.1 11 0) * 4 + j2))), .ref (ad 3)] : List Value) = _; rw [pI_pred (by omega)]) ?_
                refine k_callW (k_atV (As := [.int (nI ((σ.1 7 ((σ.1 11 0) * 4 + j2)) - 1))]) hx hb hown hE.1 (K0.w tw_572) (hts _ tw_569) (hts _ tw_570) (hts _ tw_571) (hts _ tw_4) (by decide) np_Pip_removeFirst (va_recv hK hP (ci := nPip) (q0 := 3) rfl rfl) rfl d_FK_take_52) (c_Pip_removeFirst K0 ad r σ ((σ.1 7 ((σ.1 11 0) * 4 + j2)) - 1) (by omega) (by omega) (by omega)) (hl.1.trans hml.symm) (Nat.le_of_ble_eq_true rfl) ⟨Nat.le_of_ble_eq_true rfl, Nat.le_of_ble_eq_true rfl, Nat.le_of_ble_eq_true rfl, Nat.le_of_ble_eq_true rfl⟩ (fun U hU hW => ⟨hE.go hW hU hS, by rw [hU]; exact hP, hD⟩) hS (fun H locs hP hD hS => ?_)
                obtain ⟨σ17, eσ17⟩ : ∃ z : kS, z = (m_rem σ ((σ.1 7 ((σ.1 11 0) * 4 + j2)) - 1)) := ⟨_, rfl⟩
                have hP : va_P D vwCl (wC ad cI r σ17) H := by rw [eσ17]; exact hP
                have hD : va_D (kA s0) (wC ad cI r σ17) := by rw [eσ17]; exact hD
                refine lv_istore (lv' := [(5, .int (σ.2 1 (((σ.1 7 ((σ.1 11 0) * 4 + j2)) - 1) * 4))), (4, .int (pI (fr σ j7))), (3, .int (pI (σ.1 7 ((σ.1 11 0) * 4 + j2)))), (0, .ref (ad 0)), (1, .int (nI j2)), (2, .int (nI j7))]) hx hb d_FK_take_55 hl (by decide) rfl (fun ls hl => ?_)
                refine lv_aload_n hx hb d_FK_take_57 rfl (lv_at hl 3 rfl) ?_
                refine va_get (D := D) (ci := nFK) (v := .ref (ad 1)) (C := R_FK) (T := T_FK) (N := 4) hx hb hts i_FK hown hK hP 0 rfl rfl 0 (by decide) (hts _ tw_116) (fun _ h9 => h9) rfl d_FK_take_58 ?_
                refine lv_iload hx hb d_FK_take_61 (lv_at hl 1 rfl) ?_
                refine lv_iload_n hx hb d_FK_take_63 rfl (lv_at hl 5 rfl) ?_
                refine k_callR (k_atS (As := [.int (nI j7)]) hx hb hown hE.1 (K0.w tw_555) rfl k_w9 (hts _ tw_553) (hts _ tw_554) (hts _ tw_1) (by decide) np_FK_wordOf rfl d_FK_take_64) (c_FK_wordOf K0 ad r σ17 j7 (by omega)) (hl.1.trans hml.symm) (Nat.le_of_ble_eq_true rfl) ⟨Nat.le_of_ble_eq_true rfl, Nat.le_of_ble_eq_true rfl, Nat.le_of_ble_eq_true rfl, Nat.le_of_ble_eq_true rfl⟩ (fun U hU hW => ⟨hE.go hW hU hS, by rw [hU]; exact hP, hD⟩) ?_
                refine lv_iload hx hb d_FK_take_67 (lv_at hl 0 rfl) ?_
                refine k_st (st' := [.int (σ.2 1 (((σ.1 7 ((σ.1 11 0) * 4 + j2)) - 1) * 4)), .int (nI (j7 % 4)), .int (nI ((fr σ j7) - 1)), .ref (ad 1)]) (by show ([.int (σ.2 1 (((σ.1 7 ((σ.1 11 0) * 4 + j2)) - 1) * 4)), .int (nI (j7 % 4)), .int (pI (fr σ j7)), .ref (ad 1)] : List Value) = _; rw [pI_pred (t := (fr σ j7)) (by omega)]) ?_
                refine k_callW (k_atV (As := [.int (nI ((fr σ j7) - 1)), .int (nI (j7 % 4)), .int (σ.2 1 (((σ.1 7 ((σ.1 11 0) * 4 + j2)) - 1) * 4))]) hx hb hown hE.1 (K0.w tw_46) (hts _ tw_573) (hts _ tw_44) (hts _ tw_45) (hts _ tw_2) (by decide) np_Mem_setWord (va_recv hK hP (ci := nMem) (q0 := 1) rfl rfl) rfl d_FK_take_69) (c_Mem_setWord K0 ad r σ17 ((fr σ j7) - 1) (j7 % 4) (σ.2 1 (((σ.1 7 ((σ.1 11 0) * 4 + j2)) - 1) * 4)) (by omega) (by omega)) (hl.1.trans hml.symm) (Nat.le_of_ble_eq_true rfl) ⟨Nat.le_of_ble_eq_true rfl, Nat.le_of_ble_eq_true rfl, Nat.le_of_ble_eq_true rfl, Nat.le_of_ble_eq_true rfl⟩ (fun U hU hW => ⟨hE.go hW hU hS, by rw [hU]; exact hP, hD⟩) hS (fun H locs hP hD hS => ?_)
                obtain ⟨σ18, eσ18⟩ : ∃ z : kS, z = (sw σ17 0 (((fr σ j7) - 1) * 4 + (j7 % 4)) (σ.2 1 (((σ.1 7 ((σ.1 11 0) * 4 + j2)) - 1) * 4))) := ⟨_, rfl⟩
                have hP : va_P D vwCl (wC ad cI r σ18) H := by rw [eσ18]; exact hP
                have hD : va_D (kA s0) (wC ad cI r σ18) := by rw [eσ18]; exact hD
                refine lv_iload hx hb d_FK_take_72 (lv_at hl 0 rfl) ?_
                exact k_retWI hx hb hr hlocks d_FK_take_74 hP hD hS (by subst eσ18 eσ17; first | rfl | (simp [sp_take, inr, req, wit, eIA, eIS, eUO, eNS, hq1, hq6, hq11, hq12, hq13, hq14, h16, beq_false_of_ne h16, bne_iff_ne.mpr h16]; done) | (simp [sp_take, inr, req, wit, eIA, eIS, eUO, eNS, hq1, hq6, hq11, hq12, hq13, hq14, h16, beq_false_of_ne h16, bne_iff_ne.mpr h16]; rfl) | (simp [sp_take, inr, req, wit, eIA, eIS, eUO, eNS, hq1, hq6, hq11, hq12, hq13, hq14, h16, beq_false_of_ne h16, bne_iff_ne.mpr h16]; done) | (simp [sp_take, inr, req, wit, eIA, eIS, eUO, eNS, hq1, hq6, hq11, hq12, hq13, hq14, h16, beq_false_of_ne h16, bne_iff_ne.mpr h16]; rfl) | (simp only [sp_take, inr, req, wit, eIA, eIS, eUO, eNS, hq1, hq6, hq11, hq12, hq13, hq14, h16, beq_false_of_ne h16, bne_iff_ne.mpr h16]; rfl))
              · exact k_throw hx hb K0.tr hown (text := "the pipe is empty") (names := kNames) (by decide +kernel) (by decide +kernel) (hts _ tw_220) (hts _ tw_10) (K0.str hE sr_204) (K0.own hE oa_57) (hl.1.trans hml.symm) d_FK_take_37 d_FK_take_40 d_FK_take_41 d_FK_take_43 d_FK_take_46 hex hlocks ⟨Nat.le_of_ble_eq_true rfl, Nat.le_of_ble_eq_true rfl, Nat.le_of_ble_eq_true rfl, Nat.le_of_ble_eq_true rfl⟩ (by first | rfl | (simp [sp_take, inr, req, wit, eIA, eIS, eUO, eNS, hq1, hq6, hq11, hq12, hq13, hq14, h16]; done) | (simp [sp_take, inr, req, wit, eIA, eIS, eUO, eNS, hq1, hq6, hq11, hq12, hq13, hq14, h16]; rfl) | (simp [sp_take, inr, req, wit, eIA, eIS, eUO, eNS, hq1, hq6, hq11, hq12, hq13, hq14, beq_iff_eq.mpr h16]; done) | (simp [sp_take, inr, req, wit, eIA, eIS, eUO, eNS, hq1, hq6, hq11, hq12, hq13, hq14, beq_iff_eq.mpr h16]; rfl) | (simp only [sp_take, inr, req, wit, eIA, eIS, eUO, eNS, hq1, hq6, hq11, hq12, hq13, hq14, h16]; rfl))
set_option maxHeartbeats 4000000 in
set_option maxRecDepth 100000 in
theorem c_FK_read {l : Launch} {s0 : State} {a0 : Array Value} {D : va_G} {cI cL : ClassId} (K0 : k0 l s0 a0 D cI cL) (ad : Nat → Nat) (r : va_W) (σ : kS) (y : Int32) (ok : kOk σ) : kMet l y_FK_read (Cond.code y_FK_read b_FK_read 3 (some .int)) (rmL 9) [.ref (ad 0), .int y] (kPre D vwCl s0 (wC ad cI r) σ) (sp_read σ y) (kBw D vwCl s0 (wC ad cI r)) := by
  refine k_of (by decide) (Nat.le_of_ble_eq_true rfl) ?_
  intro p e9 s m below meth c hx hb hr hlocks hown hml hex hpre ls hl
  obtain ⟨hE, hP, hD⟩ := hpre
  obtain ⟨hts, hK⟩ := K0.at (args := ([.ref (ad 0), .int y] : List Value).toArray) hE
  have hl : lv_has ls 3 [(0, .ref (ad 0)), (1, .int y)] := hl
  have hS : va_S (kA s0) s.heap s.heap [] := va_S.rf
  obtain ⟨o1, o2, o3, o4, o5, o6, o7, o8, o9, o10, o0, ⟨oc1, oc2⟩, oc3, or6⟩ := id ok
  have hr0 : σ.1 6 (σ.1 11 0) ≠ 0 := or6 _ oc2 (by omega)
  have hr1 : σ.1 6 (σ.1 11 0) < 21 := o6 _ oc2
  refine lv_iload_n hx hb d_FK_read_0 rfl (lv_at hl 1 rfl) ?_
  rcases hq1 : rg y 0 63 with _ | j2
  · exact k_callE (k_atS (As := [.int y]) hx hb hown hE.1 (K0.w tw_526) rfl k_w9 (hts _ tw_524) (hts _ tw_525) (hts _ tw_1) (by decide) np_FK_checkAddress rfl d_FK_read_1) (kn_n hq1 (c_FK_checkAddress K0 ad r σ y)) (hl.1.trans hml.symm) (Nat.le_of_ble_eq_true rfl) ⟨Nat.le_of_ble_eq_true rfl, Nat.le_of_ble_eq_true rfl, Nat.le_of_ble_eq_true rfl, Nat.le_of_ble_eq_true rfl⟩ (fun U hU hW => ⟨hE.go hW hU hS, by rw [hU]; exact hP, hD⟩) hex hlocks (by first | rfl | (simp [sp_read, inr, req, wit, eIA, eIS, eUO, eNS, hq1]; done) | (simp [sp_read, inr, req, wit, eIA, eIS, eUO, eNS, hq1]; rfl) | (simp [sp_read, inr, req, wit, eIA, eIS, eUO, eNS, hq1]; done) | (simp [sp_read, inr, req, wit, eIA, eIS, eUO, eNS, hq1]; rfl) | (simp only [sp_read, inr, req, wit, eIA, eIS, eUO, eNS, hq1]; rfl))
  · refine k_callR (k_atS (As := [.int y]) hx hb hown hE.1 (K0.w tw_526) rfl k_w9 (hts _ tw_524) (hts _ tw_525) (hts _ tw_1) (by decide) np_FK_checkAddress rfl d_FK_read_1) (kn_s hq1 (c_FK_checkAddress K0 ad r σ y)) (hl.1.trans hml.symm) (Nat.le_of_ble_eq_true rfl) ⟨Nat.le_of_ble_eq_true rfl, Nat.le_of_ble_eq_true rfl, Nat.le_of_ble_eq_true rfl, Nat.le_of_ble_eq_true rfl⟩ (fun U hU hW => ⟨hE.go hW hU hS, by rw [hU]; exact hP, hD⟩) ?_
    obtain ⟨rfl, ha3, hb_4, hc_5⟩ := rg_some hq1
    refine lv_aload_n hx hb d_FK_read_4 rfl (lv_at hl 0 rfl) ?_
    refine lv_iload_n hx hb d_FK_read_5 rfl (lv_at hl 1 rfl) ?_
    refine lv_iconst (v := (nI 1)) hx hb d_FK_read_6 (by decide) ?_
    rcases hq6 : (tb σ j2 != 0) with _ | _
    · exact k_callE (k_atV (As := [.int (nI j2), .int (nI 1)]) hx hb hown hE.1 (K0.w tw_530) (hts _ tw_527) (hts _ tw_529) (hts _ tw_9016) (hts _ tw_1) (by decide) np_FK_frameWithRight (va_recv hK hP (ci := nFK) (q0 := 0) rfl rfl) rfl d_FK_read_7) (kr_f hq6 (c_FK_frameWithRight K0 ad r σ j2 1 ok (by omega) )) (hl.1.trans hml.symm) (Nat.le_of_ble_eq_true rfl) ⟨Nat.le_of_ble_eq_true rfl, Nat.le_of_ble_eq_true rfl, Nat.le_of_ble_eq_true rfl, Nat.le_of_ble_eq_true rfl⟩ (fun U hU hW => ⟨hE.go hW hU hS, by rw [hU]; exact hP, hD⟩) hex hlocks (by first | rfl | (simp [sp_read, inr, req, wit, eIA, eIS, eUO, eNS, hq1, hq6]; done) | (simp [sp_read, inr, req, wit, eIA, eIS, eUO, eNS, hq1, hq6]; rfl) | (simp [sp_read, inr, req, wit, eIA, eIS, eUO, eNS, hq1, hq6]; done) | (simp [sp_read, inr, req, wit, eIA, eIS, eUO, eNS, hq1, hq6]; rfl) | (simp only [sp_read, inr, req, wit, eIA, eIS, eUO, eNS, hq1, hq6]; rfl))
    · skip
      rcases hq7 : (fr σ j2 != 0) with _ | _
      · exact k_callE (k_atV (As := [.int (nI j2), .int (nI 1)]) hx hb hown hE.1 (K0.w tw_530) (hts _ tw_527) (hts _ tw_529) (hts _ tw_9016) (hts _ tw_1) (by decide) np_FK_frameWithRight (va_recv hK hP (ci := nFK) (q0 := 0) rfl rfl) rfl d_FK_read_7) (kr_f hq7 (kr_t hq6 (c_FK_frameWithRight K0 ad r σ j2 1 ok (by omega) ))) (hl.1.trans hml.symm) (Nat.le_of_ble_eq_true rfl) ⟨Nat.le_of_ble_eq_true rfl, Nat.le_of_ble_eq_true rfl, Nat.le_of_ble_eq_true rfl, Nat.le_of_ble_eq_true rfl⟩ (fun U hU hW => ⟨hE.go hW hU hS, by rw [hU]; exact hP, hD⟩) hex hlocks (by first | rfl | (simp [sp_read, inr, req, wit, eIA, eIS, eUO, eNS, hq1, hq6, hq7]; done) | (simp [sp_read, inr, req, wit, eIA, eIS, eUO, eNS, hq1, hq6, hq7]; rfl) | (simp [sp_read, inr, req, wit, eIA, eIS, eUO, eNS, hq1, hq6, hq7]; done) | (simp [sp_read, inr, req, wit, eIA, eIS, eUO, eNS, hq1, hq6, hq7]; rfl) | (simp only [sp_read, inr, req, wit, eIA, eIS, eUO, eNS, hq1, hq6, hq7]; rfl))
      · skip
        rcases hq8 : (rgt σ j2 1 != 0) with _ | _
        · exact k_callE (k_atV (As := [.int (nI j2), .int (nI 1)]) hx hb hown hE.1 (K0.w tw_530) (hts _ tw_527) (hts _ tw_529) (hts _ tw_9016) (hts _ tw_1) (by decide) np_FK_frameWithRight (va_recv hK hP (ci := nFK) (q0 := 0) rfl rfl) rfl d_FK_read_7) (kr_f hq8 (kr_t hq7 (kr_t hq6 (c_FK_frameWithRight K0 ad r σ j2 1 ok (by omega) )))) (hl.1.trans hml.symm) (Nat.le_of_ble_eq_true rfl) ⟨Nat.le_of_ble_eq_true rfl, Nat.le_of_ble_eq_true rfl, Nat.le_of_ble_eq_true rfl, Nat.le_of_ble_eq_true rfl⟩ (fun U hU hW => ⟨hE.go hW hU hS, by rw [hU]; exact hP, hD⟩) hex hlocks (by first | rfl | (simp [sp_read, inr, req, wit, eIA, eIS, eUO, eNS, hq1, hq6, hq7, hq8]; done) | (simp [sp_read, inr, req, wit, eIA, eIS, eUO, eNS, hq1, hq6, hq7, hq8]; rfl) | (simp [sp_read, inr, req, wit, eIA, eIS, eUO, eNS, hq1, hq6, hq7, hq8]; done) | (simp [sp_read, inr, req, wit, eIA, eIS, eUO, eNS, hq1, hq6, hq7, hq8]; rfl) | (simp only [sp_read, inr, req, wit, eIA, eIS, eUO, eNS, hq1, hq6, hq7, hq8]; rfl))
        · skip
          refine k_callR (k_atV (As := [.int (nI j2), .int (nI 1)]) hx hb hown hE.1 (K0.w tw_530) (hts _ tw_527) (hts _ tw_529) (hts _ tw_9016) (hts _ tw_1) (by decide) np_FK_frameWithRight (va_recv hK hP (ci := nFK) (q0 := 0) rfl rfl) rfl d_FK_read_7) (kr_t hq8 (kr_t hq7 (kr_t hq6 (c_FK_frameWithRight K0 ad r σ j2 1 ok (by omega) )))) (hl.1.trans hml.symm) (Nat.le_of_ble_eq_true rfl) ⟨Nat.le_of_ble_eq_true rfl, Nat.le_of_ble_eq_true rfl, Nat.le_of_ble_eq_true rfl, Nat.le_of_ble_eq_true rfl⟩ (fun U hU hW => ⟨hE.go hW hU hS, by rw [hU]; exact hP, hD⟩) ?_
          have hnzt : tb σ j2 ≠ 0 := by simpa using hq6
          have hnzf : fr σ j2 ≠ 0 := by simpa using hq7
          have hbdt := ok.tbl j2 (by omega)
          have hbdf := ok.frl j2 (by omega) hnzt
          refine lv_istore_n (lv' := [(2, .int (pI (fr σ j2))), (0, .ref (ad 0)), (1, .int (nI j2))]) hx hb d_FK_read_10 rfl hl (by decide) rfl (fun ls hl => ?_)
          refine lv_aload_n hx hb d_FK_read_11 rfl (lv_at hl 1 rfl) ?_
          refine va_get (D := D) (ci := nFK) (v := .ref (ad 1)) (C := R_FK) (T := T_FK) (N := 4) hx hb hts i_FK hown hK hP 0 rfl rfl 0 (by decide) (hts _ tw_116) (fun _ h9 => h9) rfl d_FK_read_12 ?_
          refine lv_iload_n hx hb d_FK_read_15 rfl (lv_at hl 0 rfl) ?_
          refine lv_iload_n hx hb d_FK_read_16 rfl (lv_at hl 2 rfl) ?_
          refine k_callR (k_atS (As := [.int (nI j2)]) hx hb hown hE.1 (K0.w tw_555) rfl k_w9 (hts _ tw_553) (hts _ tw_554) (hts _ tw_1) (by decide) np_FK_wordOf rfl d_FK_read_17) (c_FK_wordOf K0 ad r σ j2 (by omega)) (hl.1.trans hml.symm) (Nat.le_of_ble_eq_true rfl) ⟨Nat.le_of_ble_eq_true rfl, Nat.le_of_ble_eq_true rfl, Nat.le_of_ble_eq_true rfl, Nat.le_of_ble_eq_true rfl⟩ (fun U hU hW => ⟨hE.go hW hU hS, by rw [hU]; exact hP, hD⟩) ?_
          refine k_st (st' := [.int (nI (j2 % 4)), .int (nI ((fr σ j2) - 1)), .ref (ad 1)]) (by show ([.int (nI (j2 % 4)), .int (pI (fr σ j2)), .ref (ad 1)] : List Value) = _; rw [pI_pred (t := (fr σ j2)) (by omega)]) ?_
          refine k_callR (k_atV (As := [.int (nI ((fr σ j2) - 1)), .int (nI (j2 % 4))]) hx hb hown hE.1 (K0.w tw_360) (hts _ tw_556) (hts _ tw_358) (hts _ tw_359) (hts _ tw_2) (by decide) np_Mem_word (va_recv hK hP (ci := nMem) (q0 := 1) rfl rfl) rfl d_FK_read_20) (c_Mem_word K0 ad r σ ((fr σ j2) - 1) (j2 % 4) (by omega) (by omega)) (hl.1.trans hml.symm) (Nat.le_of_ble_eq_true rfl) ⟨Nat.le_of_ble_eq_true rfl, Nat.le_of_ble_eq_true rfl, Nat.le_of_ble_eq_true rfl, Nat.le_of_ble_eq_true rfl⟩ (fun U hU hW => ⟨hE.go hW hU hS, by rw [hU]; exact hP, hD⟩) ?_
          exact k_retWI hx hb hr hlocks d_FK_read_23 hP hD hS (by first | rfl | (simp [sp_read, inr, req, wit, eIA, eIS, eUO, eNS, hq1, hq6, hq7, hq8]; done) | (simp [sp_read, inr, req, wit, eIA, eIS, eUO, eNS, hq1, hq6, hq7, hq8]; rfl) | (simp [sp_read, inr, req, wit, eIA, eIS, eUO, eNS, hq1, hq6, hq7, hq8]; done) | (simp [sp_read, inr, req, wit, eIA, eIS, eUO, eNS, hq1, hq6, hq7, hq8]; rfl) | (simp only [sp_read, inr, req, wit, eIA, eIS, eUO, eNS, hq1, hq6, hq7, hq8]; rfl))
set_option maxHeartbeats 4000000 in
set_option maxRecDepth 100000 in
theorem c_FK_write {l : Launch} {s0 : State} {a0 : Array Value} {D : va_G} {cI cL : ClassId} (K0 : k0 l s0 a0 D cI cL) (ad : Nat → Nat) (r : va_W) (σ : kS) (y : Int32) (v : Int32) (ok : kOk σ) : kMet l y_FK_write (Cond.code y_FK_write b_FK_write 5 (some .int)) (rmL 9) [.ref (ad 0), .int y, .int v] (kPre D vwCl s0 (wC ad cI r) σ) (sp_write σ y v) (kBw D vwCl s0 (wC ad cI r)) := by
  refine k_of (by decide) (Nat.le_of_ble_eq_true rfl) ?_
  intro p e9 s m below meth c hx hb hr hlocks hown hml hex hpre ls hl
  obtain ⟨hE, hP, hD⟩ := hpre
  obtain ⟨hts, hK⟩ := K0.at (args := ([.ref (ad 0), .int y, .int v] : List Value).toArray) hE
  have hl : lv_has ls 5 [(0, .ref (ad 0)), (1, .int y), (2, .int v)] := hl
  have hS : va_S (kA s0) s.heap s.heap [] := va_S.rf
  obtain ⟨o1, o2, o3, o4, o5, o6, o7, o8, o9, o10, o0, ⟨oc1, oc2⟩, oc3, or6⟩ := id ok
  have hr0 : σ.1 6 (σ.1 11 0) ≠ 0 := or6 _ oc2 (by omega)
  have hr1 : σ.1 6 (σ.1 11 0) < 21 := o6 _ oc2
  refine lv_iload_n hx hb d_FK_write_0 rfl (lv_at hl 1 rfl) ?_
  rcases hq1 : rg y 0 63 with _ | j2
  · exact k_callE (k_atS (As := [.int y]) hx hb hown hE.1 (K0.w tw_526) rfl k_w9 (hts _ tw_524) (hts _ tw_525) (hts _ tw_1) (by decide) np_FK_checkAddress rfl d_FK_write_1) (kn_n hq1 (c_FK_checkAddress K0 ad r σ y)) (hl.1.trans hml.symm) (Nat.le_of_ble_eq_true rfl) ⟨Nat.le_of_ble_eq_true rfl, Nat.le_of_ble_eq_true rfl, Nat.le_of_ble_eq_true rfl, Nat.le_of_ble_eq_true rfl⟩ (fun U hU hW => ⟨hE.go hW hU hS, by rw [hU]; exact hP, hD⟩) hex hlocks (by first | rfl | (simp [sp_write, inr, req, wit, eIA, eIS, eUO, eNS, hq1]; done) | (simp [sp_write, inr, req, wit, eIA, eIS, eUO, eNS, hq1]; rfl) | (simp [sp_write, inr, req, wit, eIA, eIS, eUO, eNS, hq1]; done) | (simp [sp_write, inr, req, wit, eIA, eIS, eUO, eNS, hq1]; rfl) | (simp only [sp_write, inr, req, wit, eIA, eIS, eUO, eNS, hq1]; rfl))
  · refine k_callR (k_atS (As := [.int y]) hx hb hown hE.1 (K0.w tw_526) rfl k_w9 (hts _ tw_524) (hts _ tw_525) (hts _ tw_1) (by decide) np_FK_checkAddress rfl d_FK_write_1) (kn_s hq1 (c_FK_checkAddress K0 ad r σ y)) (hl.1.trans hml.symm) (Nat.le_of_ble_eq_true rfl) ⟨Nat.le_of_ble_eq_true rfl, Nat.le_of_ble_eq_true rfl, Nat.le_of_ble_eq_true rfl, Nat.le_of_ble_eq_true rfl⟩ (fun U hU hW => ⟨hE.go hW hU hS, by rw [hU]; exact hP, hD⟩) ?_
    obtain ⟨rfl, ha3, hb_4, hc_5⟩ := rg_some hq1
    refine lv_aload_n hx hb d_FK_write_4 rfl (lv_at hl 0 rfl) ?_
    refine lv_iload_n hx hb d_FK_write_5 rfl (lv_at hl 1 rfl) ?_
    refine lv_iconst (v := (nI 2)) hx hb d_FK_write_6 (by decide) ?_
    rcases hq6 : (tb σ j2 != 0) with _ | _
    · exact k_callE (k_atV (As := [.int (nI j2), .int (nI 2)]) hx hb hown hE.1 (K0.w tw_530) (hts _ tw_527) (hts _ tw_529) (hts _ tw_9016) (hts _ tw_1) (by decide) np_FK_frameWithRight (va_recv hK hP (ci := nFK) (q0 := 0) rfl rfl) rfl d_FK_write_7) (kr_f hq6 (c_FK_frameWithRight K0 ad r σ j2 2 ok (by omega) )) (hl.1.trans hml.symm) (Nat.le_of_ble_eq_true rfl) ⟨Nat.le_of_ble_eq_true rfl, Nat.le_of_ble_eq_true rfl, Nat.le_of_ble_eq_true rfl, Nat.le_of_ble_eq_true rfl⟩ (fun U hU hW => ⟨hE.go hW hU hS, by rw [hU]; exact hP, hD⟩) hex hlocks (by first | rfl | (simp [sp_write, inr, req, wit, eIA, eIS, eUO, eNS, hq1, hq6]; done) | (simp [sp_write, inr, req, wit, eIA, eIS, eUO, eNS, hq1, hq6]; rfl) | (simp [sp_write, inr, req, wit, eIA, eIS, eUO, eNS, hq1, hq6]; done) | (simp [sp_write, inr, req, wit, eIA, eIS, eUO, eNS, hq1, hq6]; rfl) | (simp only [sp_write, inr, req, wit, eIA, eIS, eUO, eNS, hq1, hq6]; rfl))
    · skip
      rcases hq7 : (fr σ j2 != 0) with _ | _
      · exact k_callE (k_atV (As := [.int (nI j2), .int (nI 2)]) hx hb hown hE.1 (K0.w tw_530) (hts _ tw_527) (hts _ tw_529) (hts _ tw_9016) (hts _ tw_1) (by decide) np_FK_frameWithRight (va_recv hK hP (ci := nFK) (q0 := 0) rfl rfl) rfl d_FK_write_7) (kr_f hq7 (kr_t hq6 (c_FK_frameWithRight K0 ad r σ j2 2 ok (by omega) ))) (hl.1.trans hml.symm) (Nat.le_of_ble_eq_true rfl) ⟨Nat.le_of_ble_eq_true rfl, Nat.le_of_ble_eq_true rfl, Nat.le_of_ble_eq_true rfl, Nat.le_of_ble_eq_true rfl⟩ (fun U hU hW => ⟨hE.go hW hU hS, by rw [hU]; exact hP, hD⟩) hex hlocks (by first | rfl | (simp [sp_write, inr, req, wit, eIA, eIS, eUO, eNS, hq1, hq6, hq7]; done) | (simp [sp_write, inr, req, wit, eIA, eIS, eUO, eNS, hq1, hq6, hq7]; rfl) | (simp [sp_write, inr, req, wit, eIA, eIS, eUO, eNS, hq1, hq6, hq7]; done) | (simp [sp_write, inr, req, wit, eIA, eIS, eUO, eNS, hq1, hq6, hq7]; rfl) | (simp only [sp_write, inr, req, wit, eIA, eIS, eUO, eNS, hq1, hq6, hq7]; rfl))
      · skip
        rcases hq8 : (rgt σ j2 2 != 0) with _ | _
        · exact k_callE (k_atV (As := [.int (nI j2), .int (nI 2)]) hx hb hown hE.1 (K0.w tw_530) (hts _ tw_527) (hts _ tw_529) (hts _ tw_9016) (hts _ tw_1) (by decide) np_FK_frameWithRight (va_recv hK hP (ci := nFK) (q0 := 0) rfl rfl) rfl d_FK_write_7) (kr_f hq8 (kr_t hq7 (kr_t hq6 (c_FK_frameWithRight K0 ad r σ j2 2 ok (by omega) )))) (hl.1.trans hml.symm) (Nat.le_of_ble_eq_true rfl) ⟨Nat.le_of_ble_eq_true rfl, Nat.le_of_ble_eq_true rfl, Nat.le_of_ble_eq_true rfl, Nat.le_of_ble_eq_true rfl⟩ (fun U hU hW => ⟨hE.go hW hU hS, by rw [hU]; exact hP, hD⟩) hex hlocks (by first | rfl | (simp [sp_write, inr, req, wit, eIA, eIS, eUO, eNS, hq1, hq6, hq7, hq8]; done) | (simp [sp_write, inr, req, wit, eIA, eIS, eUO, eNS, hq1, hq6, hq7, hq8]; rfl) | (simp [sp_write, inr, req, wit, eIA, eIS, eUO, eNS, hq1, hq6, hq7, hq8]; done) | (simp [sp_write, inr, req, wit, eIA, eIS, eUO, eNS, hq1, hq6, hq7, hq8]; rfl) | (simp only [sp_write, inr, req, wit, eIA, eIS, eUO, eNS, hq1, hq6, hq7, hq8]; rfl))
        · skip
          refine k_callR (k_atV (As := [.int (nI j2), .int (nI 2)]) hx hb hown hE.1 (K0.w tw_530) (hts _ tw_527) (hts _ tw_529) (hts _ tw_9016) (hts _ tw_1) (by decide) np_FK_frameWithRight (va_recv hK hP (ci := nFK) (q0 := 0) rfl rfl) rfl d_FK_write_7) (kr_t hq8 (kr_t hq7 (kr_t hq6 (c_FK_frameWithRight K0 ad r σ j2 2 ok (by omega) )))) (hl.1.trans hml.symm) (Nat.le_of_ble_eq_true rfl) ⟨Nat.le_of_ble_eq_true rfl, Nat.le_of_ble_eq_true rfl, Nat.le_of_ble_eq_true rfl, Nat.le_of_ble_eq_true rfl⟩ (fun U hU hW => ⟨hE.go hW hU hS, by rw [hU]; exact hP, hD⟩) ?_
          have hnzt : tb σ j2 ≠ 0 := by simpa using hq6
          have hnzf : fr σ j2 ≠ 0 := by simpa using hq7
          have hbdt := ok.tbl j2 (by omega)
          have hbdf := ok.frl j2 (by omega) hnzt
          refine lv_istore_n (lv' := [(3, .int (pI (fr σ j2))), (0, .ref (ad 0)), (1, .int (nI j2)), (2, .int v)]) hx hb d_FK_write_10 rfl hl (by decide) rfl (fun ls hl => ?_)
          refine lv_aload_n hx hb d_FK_write_11 rfl (lv_at hl 1 rfl) ?_
          refine va_get (D := D) (ci := nFK) (v := .ref (ad 1)) (C := R_FK) (T := T_FK) (N := 4) hx hb hts i_FK hown hK hP 0 rfl rfl 0 (by decide) (hts _ tw_116) (fun _ h9 => h9) rfl d_FK_write_12 ?_
          refine lv_iload_n hx hb d_FK_write_15 rfl (lv_at hl 0 rfl) ?_
          refine lv_iload_n hx hb d_FK_write_16 rfl (lv_at hl 2 rfl) ?_
          refine k_callR (k_atS (As := [.int (nI j2)]) hx hb hown hE.1 (K0.w tw_555) rfl k_w9 (hts _ tw_553) (hts _ tw_554) (hts _ tw_1) (by decide) np_FK_wordOf rfl d_FK_write_17) (c_FK_wordOf K0 ad r σ j2 (by omega)) (hl.1.trans hml.symm) (Nat.le_of_ble_eq_true rfl) ⟨Nat.le_of_ble_eq_true rfl, Nat.le_of_ble_eq_true rfl, Nat.le_of_ble_eq_true rfl, Nat.le_of_ble_eq_true rfl⟩ (fun U hU hW => ⟨hE.go hW hU hS, by rw [hU]; exact hP, hD⟩) ?_
          refine k_st (st' := [.int (nI (j2 % 4)), .int (nI ((fr σ j2) - 1)), .ref (ad 1)]) (by show ([.int (nI (j2 % 4)), .int (pI (fr σ j2)), .ref (ad 1)] : List Value) = _; rw [pI_pred (t := (fr σ j2)) (by omega)]) ?_
          refine k_callR (k_atV (As := [.int (nI ((fr σ j2) - 1)), .int (nI (j2 % 4))]) hx hb hown hE.1 (K0.w tw_360) (hts _ tw_556) (hts _ tw_358) (hts _ tw_359) (hts _ tw_2) (by decide) np_Mem_word (va_recv hK hP (ci := nMem) (q0 := 1) rfl rfl) rfl d_FK_write_20) (c_Mem_word K0 ad r σ ((fr σ j2) - 1) (j2 % 4) (by omega) (by omega)) (hl.1.trans hml.symm) (Nat.le_of_ble_eq_true rfl) ⟨Nat.le_of_ble_eq_true rfl, Nat.le_of_ble_eq_true rfl, Nat.le_of_ble_eq_true rfl, Nat.le_of_ble_eq_true rfl⟩ (fun U hU hW => ⟨hE.go hW hU hS, by rw [hU]; exact hP, hD⟩) ?_
          refine lv_istore (lv' := [(4, .int (σ.2 0 (((fr σ j2) - 1) * 4 + (j2 % 4)))), (3, .int (pI (fr σ j2))), (0, .ref (ad 0)), (1, .int (nI j2)), (2, .int v)]) hx hb d_FK_write_23 hl (by decide) rfl (fun ls hl => ?_)
          refine lv_aload_n hx hb d_FK_write_25 rfl (lv_at hl 2 rfl) ?_
          refine va_get (D := D) (ci := nFK) (v := .ref (ad 1)) (C := R_FK) (T := T_FK) (N := 4) hx hb hts i_FK hown hK hP 0 rfl rfl 0 (by decide) (hts _ tw_116) (fun _ h9 => h9) rfl d_FK_write_26 ?_
          refine lv_iload_n hx hb d_FK_write_29 rfl (lv_at hl 1 rfl) ?_
          refine lv_iload_n hx hb d_FK_write_30 rfl (lv_at hl 3 rfl) ?_
          refine k_callR (k_atS (As := [.int (nI j2)]) hx hb hown hE.1 (K0.w tw_555) rfl k_w9 (hts _ tw_553) (hts _ tw_554) (hts _ tw_1) (by decide) np_FK_wordOf rfl d_FK_write_31) (c_FK_wordOf K0 ad r σ j2 (by omega)) (hl.1.trans hml.symm) (Nat.le_of_ble_eq_true rfl) ⟨Nat.le_of_ble_eq_true rfl, Nat.le_of_ble_eq_true rfl, Nat.le_of_ble_eq_true rfl, Nat.le_of_ble_eq_true rfl⟩ (fun U hU hW => ⟨hE.go hW hU hS, by rw [hU]; exact hP, hD⟩) ?_
          refine lv_iload_n hx hb d_FK_write_34 rfl (lv_at hl 4 rfl) ?_
          refine k_st (st' := [.int v, .int (nI (j2 % 4)), .int (nI ((fr σ j2) - 1)), .ref (ad 1)]) (by show ([.int v, .int (nI (j2 % 4)), .int (pI (fr σ j2)), .ref (ad 1)] : List Value) = _; rw [pI_pred (t := (fr σ j2)) (by omega)]) ?_
          refine k_callW (k_atV (As := [.int (nI ((fr σ j2) - 1)), .int (nI (j2 % 4)), .int v]) hx hb hown hE.1 (K0.w tw_46) (hts _ tw_573) (hts _ tw_44) (hts _ tw_45) (hts _ tw_2) (by decide) np_Mem_setWord (va_recv hK hP (ci := nMem) (q0 := 1) rfl rfl) rfl d_FK_write_35) (c_Mem_setWord K0 ad r σ ((fr σ j2) - 1) (j2 % 4) v (by omega) (by omega)) (hl.1.trans hml.symm) (Nat.le_of_ble_eq_true rfl) ⟨Nat.le_of_ble_eq_true rfl, Nat.le_of_ble_eq_true rfl, Nat.le_of_ble_eq_true rfl, Nat.le_of_ble_eq_true rfl⟩ (fun U hU hW => ⟨hE.go hW hU hS, by rw [hU]; exact hP, hD⟩) hS (fun H locs hP hD hS => ?_)
          obtain ⟨σ9, eσ9⟩ : ∃ z : kS, z = (sw σ 0 (((fr σ j2) - 1) * 4 + (j2 % 4)) v) := ⟨_, rfl⟩
          have hP : va_P D vwCl (wC ad cI r σ9) H := by rw [eσ9]; exact hP
          have hD : va_D (kA s0) (wC ad cI r σ9) := by rw [eσ9]; exact hD
          refine lv_iload hx hb d_FK_write_38 (lv_at hl 0 rfl) ?_
          exact k_retWI hx hb hr hlocks d_FK_write_40 hP hD hS (by subst eσ9; first | rfl | (simp [sp_write, inr, req, wit, eIA, eIS, eUO, eNS, hq1, hq6, hq7, hq8]; done) | (simp [sp_write, inr, req, wit, eIA, eIS, eUO, eNS, hq1, hq6, hq7, hq8]; rfl) | (simp [sp_write, inr, req, wit, eIA, eIS, eUO, eNS, hq1, hq6, hq7, hq8]; done) | (simp [sp_write, inr, req, wit, eIA, eIS, eUO, eNS, hq1, hq6, hq7, hq8]; rfl) | (simp only [sp_write, inr, req, wit, eIA, eIS, eUO, eNS, hq1, hq6, hq7, hq8]; rfl))
set_option maxHeartbeats 4000000 in
set_option maxRecDepth 100000 in
theorem c_FK_expect {l : Launch} {s0 : State} {a0 : Array Value} {D : va_G} {cI cL : ClassId} (K0 : k0 l s0 a0 D cI cL) (ad : Nat → Nat) (r : va_W) (σ : kS) (x : Int32) (y : Int32) (ok : kOk σ) : kMet l y_FK_expect (Cond.code y_FK_expect b_FK_expect 5 (some .int)) (rmL 8) [.ref (ad 0), .int x, .int y] (kPre D vwCl s0 (wC ad cI r) σ) (sp_expect σ x y) (kBw D vwCl s0 (wC ad cI r)) := by
  refine k_of (by decide) (Nat.le_of_ble_eq_true rfl) ?_
  intro p e9 s m below meth c hx hb hr hlocks hown hml hex hpre ls hl
  obtain ⟨hE, hP, hD⟩ := hpre
  obtain ⟨hts, hK⟩ := K0.at (args := ([.ref (ad 0), .int x, .int y] : List Value).toArray) hE
  have hl : lv_has ls 5 [(0, .ref (ad 0)), (1, .int x), (2, .int y)] := hl
  have hS : va_S (kA s0) s.heap s.heap [] := va_S.rf
  obtain ⟨o1, o2, o3, o4, o5, o6, o7, o8, o9, o10, o0, ⟨oc1, oc2⟩, oc3, or6⟩ := id ok
  have hr0 : σ.1 6 (σ.1 11 0) ≠ 0 := or6 _ oc2 (by omega)
  have hr1 : σ.1 6 (σ.1 11 0) < 21 := o6 _ oc2
  refine lv_iload_n hx hb d_FK_expect_0 rfl (lv_at hl 1 rfl) ?_
  rcases hq1 : rg x 1 5 with _ | j2
  · exact k_callE (k_atS (As := [.int x]) hx hb hown hE.1 (K0.w tw_140) rfl k_w9 (hts _ tw_138) (hts _ tw_139) (hts _ tw_1) (by decide) np_FK_checkProcess rfl d_FK_expect_1) (kn_n hq1 (c_FK_checkProcess K0 ad r σ x)) (hl.1.trans hml.symm) (Nat.le_of_ble_eq_true rfl) ⟨Nat.le_of_ble_eq_true rfl, Nat.le_of_ble_eq_true rfl, Nat.le_of_ble_eq_true rfl, Nat.le_of_ble_eq_true rfl⟩ (fun U hU hW => ⟨hE.go hW hU hS, by rw [hU]; exact hP, hD⟩) hex hlocks (by first | rfl | (simp [sp_expect, inr, req, wit, fr, fe, eIA, eIS, eUO, eNS, hq1]; done) | (simp [sp_expect, inr, req, wit, fr, fe, eIA, eIS, eUO, eNS, hq1]; rfl) | (simp [sp_expect, inr, req, wit, fr, fe, eIA, eIS, eUO, eNS, hq1]; done) | (simp [sp_expect, inr, req, wit, fr, fe, eIA, eIS, eUO, eNS, hq1]; rfl) | (simp only [sp_expect, inr, req, wit, fr, fe, eIA, eIS, eUO, eNS, hq1]; rfl))
  · refine k_callR (k_atS (As := [.int x]) hx hb hown hE.1 (K0.w tw_140) rfl k_w9 (hts _ tw_138) (hts _ tw_139) (hts _ tw_1) (by decide) np_FK_checkProcess rfl d_FK_expect_1) (kn_s hq1 (c_FK_checkProcess K0 ad r σ x)) (hl.1.trans hml.symm) (Nat.le_of_ble_eq_true rfl) ⟨Nat.le_of_ble_eq_true rfl, Nat.le_of_ble_eq_true rfl, Nat.le_of_ble_eq_true rfl, Nat.le_of_ble_eq_true rfl⟩ (fun U hU hW => ⟨hE.go hW hU hS, by rw [hU]; exact hP, hD⟩) ?_
    obtain ⟨rfl, ha3, hb_4, hc_5⟩ := rg_some hq1
    refine lv_iload_n hx hb d_FK_expect_4 rfl (lv_at hl 2 rfl) ?_
    rcases hq6 : rg y 0 63 with _ | j7
    · exact k_callE (k_atS (As := [.int y]) hx hb hown hE.1 (K0.w tw_526) rfl k_w9 (hts _ tw_524) (hts _ tw_525) (hts _ tw_1) (by decide) np_FK_checkAddress rfl d_FK_expect_5) (kn_n hq6 (c_FK_checkAddress K0 ad r σ y)) (hl.1.trans hml.symm) (Nat.le_of_ble_eq_true rfl) ⟨Nat.le_of_ble_eq_true rfl, Nat.le_of_ble_eq_true rfl, Nat.le_of_ble_eq_true rfl, Nat.le_of_ble_eq_true rfl⟩ (fun U hU hW => ⟨hE.go hW hU hS, by rw [hU]; exact hP, hD⟩) hex hlocks (by first | rfl | (simp [sp_expect, inr, req, wit, fr, fe, eIA, eIS, eUO, eNS, hq1, hq6]; done) | (simp [sp_expect, inr, req, wit, fr, fe, eIA, eIS, eUO, eNS, hq1, hq6]; rfl) | (simp [sp_expect, inr, req, wit, fr, fe, eIA, eIS, eUO, eNS, hq1, hq6]; done) | (simp [sp_expect, inr, req, wit, fr, fe, eIA, eIS, eUO, eNS, hq1, hq6]; rfl) | (simp only [sp_expect, inr, req, wit, fr, fe, eIA, eIS, eUO, eNS, hq1, hq6]; rfl))
    · refine k_callR (k_atS (As := [.int y]) hx hb hown hE.1 (K0.w tw_526) rfl k_w9 (hts _ tw_524) (hts _ tw_525) (hts _ tw_1) (by decide) np_FK_checkAddress rfl d_FK_expect_5) (kn_s hq6 (c_FK_checkAddress K0 ad r σ y)) (hl.1.trans hml.symm) (Nat.le_of_ble_eq_true rfl) ⟨Nat.le_of_ble_eq_true rfl, Nat.le_of_ble_eq_true rfl, Nat.le_of_ble_eq_true rfl, Nat.le_of_ble_eq_true rfl⟩ (fun U hU hW => ⟨hE.go hW hU hS, by rw [hU]; exact hP, hD⟩) ?_
      obtain ⟨rfl, ha8, hb_9, hc_10⟩ := rg_some hq6
      refine lv_aload_n hx hb d_FK_expect_8 rfl (lv_at hl 0 rfl) ?_
      refine lv_iload_n hx hb d_FK_expect_9 rfl (lv_at hl 1 rfl) ?_
      rcases hq11 : (σ.1 4 j2 == 2) with _ | _
      · exact k_callE (k_atV (As := [.int (nI j2)]) hx hb hown hE.1 (K0.w tw_398) (hts _ tw_395) (hts _ tw_397) (hts _ tw_9007) (hts _ tw_1) (by decide) np_FK_checkIsReady (va_recv hK hP (ci := nFK) (q0 := 0) rfl rfl) rfl d_FK_expect_10) (kr_f hq11 (c_FK_checkIsReady K0 ad r σ j2 ok (by omega) )) (hl.1.trans hml.symm) (Nat.le_of_ble_eq_true rfl) ⟨Nat.le_of_ble_eq_true rfl, Nat.le_of_ble_eq_true rfl, Nat.le_of_ble_eq_true rfl, Nat.le_of_ble_eq_true rfl⟩ (fun U hU hW => ⟨hE.go hW hU hS, by rw [hU]; exact hP, hD⟩) hex hlocks (by first | rfl | (simp [sp_expect, inr, req, wit, fr, fe, eIA, eIS, eUO, eNS, hq1, hq6, hq11]; done) | (simp [sp_expect, inr, req, wit, fr, fe, eIA, eIS, eUO, eNS, hq1, hq6, hq11]; rfl) | (simp [sp_expect, inr, req, wit, fr, fe, eIA, eIS, eUO, eNS, hq1, hq6, hq11]; done) | (simp [sp_expect, inr, req, wit, fr, fe, eIA, eIS, eUO, eNS, hq1, hq6, hq11]; rfl) | (simp only [sp_expect, inr, req, wit, fr, fe, eIA, eIS, eUO, eNS, hq1, hq6, hq11]; rfl))
      · refine k_callR (k_atV (As := [.int (nI j2)]) hx hb hown hE.1 (K0.w tw_398) (hts _ tw_395) (hts _ tw_397) (hts _ tw_9007) (hts _ tw_1) (by decide) np_FK_checkIsReady (va_recv hK hP (ci := nFK) (q0 := 0) rfl rfl) rfl d_FK_expect_10) (kr_t hq11 (c_FK_checkIsReady K0 ad r σ j2 ok (by omega) )) (hl.1.trans hml.symm) (Nat.le_of_ble_eq_true rfl) ⟨Nat.le_of_ble_eq_true rfl, Nat.le_of_ble_eq_true rfl, Nat.le_of_ble_eq_true rfl, Nat.le_of_ble_eq_true rfl⟩ (fun U hU hW => ⟨hE.go hW hU hS, by rw [hU]; exact hP, hD⟩) ?_
        refine lv_aload_n hx hb d_FK_expect_13 rfl (lv_at hl 0 rfl) ?_
        refine lv_iload_n hx hb d_FK_expect_14 rfl (lv_at hl 2 rfl) ?_
        rcases hq12 : (tb σ j7 != 0) with _ | _
        · exact k_callE (k_atV (As := [.int (nI j7)]) hx hb hown hE.1 (K0.w tw_538) (hts _ tw_535) (hts _ tw_537) (hts _ tw_9018) (hts _ tw_1) (by decide) np_FK_tableAt (va_recv hK hP (ci := nFK) (q0 := 0) rfl rfl) rfl d_FK_expect_15) (kr_f hq12 (c_FK_tableAt K0 ad r σ j7 ok (by omega) )) (hl.1.trans hml.symm) (Nat.le_of_ble_eq_true rfl) ⟨Nat.le_of_ble_eq_true rfl, Nat.le_of_ble_eq_true rfl, Nat.le_of_ble_eq_true rfl, Nat.le_of_ble_eq_true rfl⟩ (fun U hU hW => ⟨hE.go hW hU hS, by rw [hU]; exact hP, hD⟩) hex hlocks (by first | rfl | (simp [sp_expect, inr, req, wit, fr, fe, eIA, eIS, eUO, eNS, hq1, hq6, hq11, hq12]; done) | (simp [sp_expect, inr, req, wit, fr, fe, eIA, eIS, eUO, eNS, hq1, hq6, hq11, hq12]; rfl) | (simp [sp_expect, inr, req, wit, fr, fe, eIA, eIS, eUO, eNS, hq1, hq6, hq11, hq12]; done) | (simp [sp_expect, inr, req, wit, fr, fe, eIA, eIS, eUO, eNS, hq1, hq6, hq11, hq12]; rfl) | (simp only [sp_expect, inr, req, wit, fr, fe, eIA, eIS, eUO, eNS, hq1, hq6, hq11, hq12]; rfl))
        · refine k_callR (k_atV (As := [.int (nI j7)]) hx hb hown hE.1 (K0.w tw_538) (hts _ tw_535) (hts _ tw_537) (hts _ tw_9018) (hts _ tw_1) (by decide) np_FK_tableAt (va_recv hK hP (ci := nFK) (q0 := 0) rfl rfl) rfl d_FK_expect_15) (kr_t hq12 (c_FK_tableAt K0 ad r σ j7 ok (by omega) )) (hl.1.trans hml.symm) (Nat.le_of_ble_eq_true rfl) ⟨Nat.le_of_ble_eq_true rfl, Nat.le_of_ble_eq_true rfl, Nat.le_of_ble_eq_true rfl, Nat.le_of_ble_eq_true rfl⟩ (fun U hU hW => ⟨hE.go hW hU hS, by rw [hU]; exact hP, hD⟩) ?_
          have hnzt : tb σ j7 ≠ 0 := by simpa using hq12
          have hbdt := ok.tbl j7 (by omega)
          refine lv_istore_n (lv' := [(3, .int (pI (tb σ j7))), (0, .ref (ad 0)), (1, .int (nI j2)), (2, .int (nI j7))]) hx hb d_FK_expect_18 rfl hl (by decide) rfl (fun ls hl => ?_)
          refine lv_iload_n hx hb d_FK_expect_19 rfl (lv_at hl 3 rfl) ?_
          refine k_callR (k_atS (As := [.int (nI j7)]) hx hb hown hE.1 (K0.w tw_545) rfl k_w9 (hts _ tw_543) (hts _ tw_544) (hts _ tw_1) (by decide) np_FK_frameEntryOf rfl d_FK_expect_20) (c_FK_frameEntryOf K0 ad r σ j7 (by omega)) (hl.1.trans hml.symm) (Nat.le_of_ble_eq_true rfl) ⟨Nat.le_of_ble_eq_true rfl, Nat.le_of_ble_eq_true rfl, Nat.le_of_ble_eq_true rfl, Nat.le_of_ble_eq_true rfl⟩ (fun U hU hW => ⟨hE.go hW hU hS, by rw [hU]; exact hP, hD⟩) ?_
          refine lv_istore (lv' := [(4, .int (nI (j7 / 4 % 4))), (3, .int (pI (tb σ j7))), (0, .ref (ad 0)), (1, .int (nI j2)), (2, .int (nI j7))]) hx hb d_FK_expect_23 hl (by decide) rfl (fun ls hl => ?_)
          refine lv_aload_n hx hb d_FK_expect_25 rfl (lv_at hl 2 rfl) ?_
          refine va_get (D := D) (ci := nFK) (v := .ref (ad 1)) (C := R_FK) (T := T_FK) (N := 4) hx hb hts i_FK hown hK hP 0 rfl rfl 0 (by decide) (hts _ tw_116) (fun _ h9 => h9) rfl d_FK_expect_26 ?_
          refine lv_iload_n hx hb d_FK_expect_29 rfl (lv_at hl 1 rfl) ?_
          refine lv_iload hx hb d_FK_expect_30 (lv_at hl 0 rfl) ?_
          refine k_st (st' := [.int (nI (j7 / 4 % 4)), .int (nI ((tb σ j7) - 1)), .ref (ad 1)]) (by show ([.int (nI (j7 / 4 % 4)), .int (pI (tb σ j7)), .ref (ad 1)] : List Value) = _; rw [pI_pred (t := (tb σ j7)) (by omega)]) ?_
          refine k_callR (k_atV (As := [.int (nI ((tb σ j7) - 1)), .int (nI (j7 / 4 % 4))]) hx hb hown hE.1 (K0.w tw_302) (hts _ tw_299) (hts _ tw_300) (hts _ tw_301) (hts _ tw_2) (by decide) np_Mem_pageIn (va_recv hK hP (ci := nMem) (q0 := 1) rfl rfl) rfl d_FK_expect_32) (c_Mem_pageIn K0 ad r σ ((tb σ j7) - 1) (j7 / 4 % 4) (by omega) (by omega)) (hl.1.trans hml.symm) (Nat.le_of_ble_eq_true rfl) ⟨Nat.le_of_ble_eq_true rfl, Nat.le_of_ble_eq_true rfl, Nat.le_of_ble_eq_true rfl, Nat.le_of_ble_eq_true rfl⟩ (fun U hU hW => ⟨hE.go hW hU hS, by rw [hU]; exact hP, hD⟩) ?_
          have ho13 := o2 (((tb σ j7) - 1) * 4 + (j7 / 4 % 4)) (by omega)
          refine lv_iconst (v := (pI 0)) hx hb d_FK_expect_35 (by decide) ?_
          refine k_eqP (tgt := 49) (ok.b2 _ (by omega)) (by omega) hx hb d_FK_expect_36 (by decide) (fun h14 => ?_) (fun h14 => ?_)
          · refine lv_aload_n hx hb d_FK_expect_49 rfl (lv_at hl 2 rfl) ?_
            refine va_get (D := D) (ci := nFK) (v := .ref (ad 2)) (C := R_FK) (T := T_FK) (N := 4) hx hb hts i_FK hown hK hP 0 rfl rfl 1 (by decide) (hts _ tw_117) (fun _ h9 => h9) rfl d_FK_expect_50 ?_
            refine lv_aload_n hx hb d_FK_expect_53 rfl (lv_at hl 2 rfl) ?_
            refine va_get (D := D) (ci := nFK) (v := .int (nI (σ.1 11 0))) (C := R_FK) (T := T_FK) (N := 4) hx hb hts i_FK hown hK hP 0 rfl rfl 3 (by decide) (hts _ tw_119) (fun _ h9 => h9) rfl d_FK_expect_54 ?_
            refine lv_iload_n hx hb d_FK_expect_57 rfl (lv_at hl 1 rfl) ?_
            refine lv_iload hx hb d_FK_expect_58 (lv_at hl 0 rfl) ?_
            refine k_st (st' := [.int (nI (j7 / 4 % 4)), .int (nI ((tb σ j7) - 1)), .int (nI (σ.1 11 0)), .ref (ad 2)]) (by show ([.int (nI (j7 / 4 % 4)), .int (pI (tb σ j7)), .int (nI (σ.1 11 0)), .ref (ad 2)] : List Value) = _; rw [pI_pred (t := (tb σ j7)) (by omega)]) ?_
            refine k_callW (k_atV (As := [.int (nI (σ.1 11 0)), .int (nI ((tb σ j7) - 1)), .int (nI (j7 / 4 % 4))]) hx hb hown hE.1 (K0.w tw_599) (hts _ tw_596) (hts _ tw_597) (hts _ tw_598) (hts _ tw_3) (by decide) np_Pro_await (va_recv hK hP (ci := nPro) (q0 := 2) rfl rfl) rfl d_FK_expect_60) (c_Pro_await K0 ad r σ (σ.1 11 0) ((tb σ j7) - 1) (j7 / 4 % 4) (by omega)) (hl.1.trans hml.symm) (Nat.le_of_ble_eq_true rfl) ⟨Nat.le_of_ble_eq_true rfl, Nat.le_of_ble_eq_true rfl, Nat.le_of_ble_eq_true rfl, Nat.le_of_ble_eq_true rfl⟩ (fun U hU hW => ⟨hE.go hW hU hS, by rw [hU]; exact hP, hD⟩) hS (fun H locs hP hD hS => ?_)
            obtain ⟨σ15, eσ15⟩ : ∃ z : kS, z = (st (st (st σ 4 (σ.1 11 0) 4) 8 (σ.1 11 0) ((tb σ j7) - 1)) 9 (σ.1 11 0) (j7 / 4 % 4)) := ⟨_, rfl⟩
            have hP : va_P D vwCl (wC ad cI r σ15) H := by rw [eσ15]; exact hP
            have hD : va_D (kA s0) (wC ad cI r σ15) := by rw [eσ15]; exact hD
            refine lv_aload_n hx hb d_FK_expect_63 rfl (lv_at hl 2 rfl) ?_
            refine lv_iload_n hx hb d_FK_expect_64 rfl (lv_at hl 3 rfl) ?_
            refine k_callW (k_atV (As := [.int (nI j2)]) hx hb hown hE.1 (K0.w tw_403) (hts _ tw_400) (hts _ tw_402) (hts _ tw_9008) (hts _ tw_1) (by decide) np_FK_run (va_recv hK hP (ci := nFK) (q0 := 0) rfl rfl) rfl d_FK_expect_65) (c_FK_run K0 ad r σ15 j2 (by omega)) (hl.1.trans hml.symm) (Nat.le_of_ble_eq_true rfl) ⟨Nat.le_of_ble_eq_true rfl, Nat.le_of_ble_eq_true rfl, Nat.le_of_ble_eq_true rfl, Nat.le_of_ble_eq_true rfl⟩ (fun U hU hW => ⟨hE.go hW hU hS, by rw [hU]; exact hP, hD⟩) hS (fun H locs hP hD hS => ?_)
            obtain ⟨σ16, eσ16⟩ : ∃ z : kS, z = (m_run σ15 j2) := ⟨_, rfl⟩
            have hP : va_P D vwCl (wC ad cI r σ16) H := by rw [eσ16]; exact hP
            have hD : va_D (kA s0) (wC ad cI r σ16) := by rw [eσ16]; exact hD
            refine lv_iload_n hx hb d_FK_expect_68 rfl (lv_at hl 3 rfl) ?_
            exact k_retWI hx hb hr hlocks d_FK_expect_69 hP hD hS (by subst eσ16 eσ15; first | rfl | (simp [sp_expect, inr, req, wit, fr, fe, eIA, eIS, eUO, eNS, hq1, hq6, hq11, hq12, h14]; done) | (simp [sp_expect, inr, req, wit, fr, fe, eIA, eIS, eUO, eNS, hq1, hq6, hq11, hq12, h14]; rfl) | (simp [sp_expect, inr, req, wit, fr, fe, eIA, eIS, eUO, eNS, hq1, hq6, hq11, hq12, beq_iff_eq.mpr h14]; done) | (simp [sp_expect, inr, req, wit, fr, fe, eIA, eIS, eUO, eNS, hq1, hq6, hq11, hq12, beq_iff_eq.mpr h14]; rfl) | (simp only [sp_expect, inr, req, wit, fr, fe, eIA, eIS, eUO, eNS, hq1, hq6, hq11, hq12, h14]; rfl))
          · exact k_throw hx hb K0.tr hown (text := "the frame entry is not empty") (names := kNames) (by decide +kernel) (by decide +kernel) (hts _ tw_283) (hts _ tw_11) (K0.str hE sr_218) (K0.own hE oa_95) (hl.1.trans hml.symm) d_FK_expect_39 d_FK_expect_42 d_FK_expect_43 d_FK_expect_45 d_FK_expect_48 hex hlocks ⟨Nat.le_of_ble_eq_true rfl, Nat.le_of_ble_eq_true rfl, Nat.le_of_ble_eq_true rfl, Nat.le_of_ble_eq_true rfl⟩ (by first | rfl | (simp [sp_expect, inr, req, wit, fr, fe, eIA, eIS, eUO, eNS, hq1, hq6, hq11, hq12, h14, beq_false_of_ne h14, bne_iff_ne.mpr h14]; done) | (simp [sp_expect, inr, req, wit, fr, fe, eIA, eIS, eUO, eNS, hq1, hq6, hq11, hq12, h14, beq_false_of_ne h14, bne_iff_ne.mpr h14]; rfl) | (simp [sp_expect, inr, req, wit, fr, fe, eIA, eIS, eUO, eNS, hq1, hq6, hq11, hq12, h14, beq_false_of_ne h14, bne_iff_ne.mpr h14]; done) | (simp [sp_expect, inr, req, wit, fr, fe, eIA, eIS, eUO, eNS, hq1, hq6, hq11, hq12, h14, beq_false_of_ne h14, bne_iff_ne.mpr h14]; rfl) | (simp only [sp_expect, inr, req, wit, fr, fe, eIA, eIS, eUO, eNS, hq1, hq6, hq11, hq12, h14, beq_false_of_ne h14, bne_iff_ne.mpr h14]; rfl))
set_option maxHeartbeats 4000000 in
set_option maxRecDepth 100000 in
theorem c_FK_send {l : Launch} {s0 : State} {a0 : Array Value} {D : va_G} {cI cL : ClassId} (K0 : k0 l s0 a0 D cI cL) (ad : Nat → Nat) (r : va_W) (σ : kS) (x : Int32) (y : Int32) (ok : kOk σ) : kMet l y_FK_send (Cond.code y_FK_send b_FK_send 7 (some .int)) (rmL 8) [.ref (ad 0), .int x, .int y] (kPre D vwCl s0 (wC ad cI r) σ) (sp_send σ x y) (kBw D vwCl s0 (wC ad cI r)) := by
  refine k_of (by decide) (Nat.le_of_ble_eq_true rfl) ?_
  intro p e9 s m below meth c hx hb hr hlocks hown hml hex hpre ls hl
  obtain ⟨hE, hP, hD⟩ := hpre
  obtain ⟨hts, hK⟩ := K0.at (args := ([.ref (ad 0), .int x, .int y] : List Value).toArray) hE
  have hl : lv_has ls 7 [(0, .ref (ad 0)), (1, .int x), (2, .int y)] := hl
  have hS : va_S (kA s0) s.heap s.heap [] := va_S.rf
  obtain ⟨o1, o2, o3, o4, o5, o6, o7, o8, o9, o10, o0, ⟨oc1, oc2⟩, oc3, or6⟩ := id ok
  have hr0 : σ.1 6 (σ.1 11 0) ≠ 0 := or6 _ oc2 (by omega)
  have hr1 : σ.1 6 (σ.1 11 0) < 21 := o6 _ oc2
  refine lv_iload_n hx hb d_FK_send_0 rfl (lv_at hl 1 rfl) ?_
  rcases hq1 : rg x 1 5 with _ | j2
  · exact k_callE (k_atS (As := [.int x]) hx hb hown hE.1 (K0.w tw_140) rfl k_w9 (hts _ tw_138) (hts _ tw_139) (hts _ tw_1) (by decide) np_FK_checkProcess rfl d_FK_send_1) (kn_n hq1 (c_FK_checkProcess K0 ad r σ x)) (hl.1.trans hml.symm) (Nat.le_of_ble_eq_true rfl) ⟨Nat.le_of_ble_eq_true rfl, Nat.le_of_ble_eq_true rfl, Nat.le_of_ble_eq_true rfl, Nat.le_of_ble_eq_true rfl⟩ (fun U hU hW => ⟨hE.go hW hU hS, by rw [hU]; exact hP, hD⟩) hex hlocks (by (try rw [pI_pred hnzf]); first | rfl | (simp [sp_send, inr, req, wit, eIA, eIS, eUO, eNS, hq1]; done) | (simp [sp_send, inr, req, wit, eIA, eIS, eUO, eNS, hq1]; rfl) | (simp [sp_send, inr, req, wit, eIA, eIS, eUO, eNS, hq1]; done) | (simp [sp_send, inr, req, wit, eIA, eIS, eUO, eNS, hq1]; rfl) | (simp only [sp_send, inr, req, wit, eIA, eIS, eUO, eNS, hq1]; rfl))
  · refine k_callR (k_atS (As := [.int x]) hx hb hown hE.1 (K0.w tw_140) rfl k_w9 (hts _ tw_138) (hts _ tw_139) (hts _ tw_1) (by decide) np_FK_checkProcess rfl d_FK_send_1) (kn_s hq1 (c_FK_checkProcess K0 ad r σ x)) (hl.1.trans hml.symm) (Nat.le_of_ble_eq_true rfl) ⟨Nat.le_of_ble_eq_true rfl, Nat.le_of_ble_eq_true rfl, Nat.le_of_ble_eq_true rfl, Nat.le_of_ble_eq_true rfl⟩ (fun U hU hW => ⟨hE.go hW hU hS, by rw [hU]; exact hP, hD⟩) ?_
    obtain ⟨rfl, ha3, hb_4, hc_5⟩ := rg_some hq1
    refine lv_iload_n hx hb d_FK_send_4 rfl (lv_at hl 2 rfl) ?_
    rcases hq6 : rg y 0 63 with _ | j7
    · exact k_callE (k_atS (As := [.int y]) hx hb hown hE.1 (K0.w tw_526) rfl k_w9 (hts _ tw_524) (hts _ tw_525) (hts _ tw_1) (by decide) np_FK_checkAddress rfl d_FK_send_5) (kn_n hq6 (c_FK_checkAddress K0 ad r σ y)) (hl.1.trans hml.symm) (Nat.le_of_ble_eq_true rfl) ⟨Nat.le_of_ble_eq_true rfl, Nat.le_of_ble_eq_true rfl, Nat.le_of_ble_eq_true rfl, Nat.le_of_ble_eq_true rfl⟩ (fun U hU hW => ⟨hE.go hW hU hS, by rw [hU]; exact hP, hD⟩) hex hlocks (by (try rw [pI_pred hnzf]); first | rfl | (simp [sp_send, inr, req, wit, eIA, eIS, eUO, eNS, hq1, hq6]; done) | (simp [sp_send, inr, req, wit, eIA, eIS, eUO, eNS, hq1, hq6]; rfl) | (simp [sp_send, inr, req, wit, eIA, eIS, eUO, eNS, hq1, hq6]; done) | (simp [sp_send, inr, req, wit, eIA, eIS, eUO, eNS, hq1, hq6]; rfl) | (simp only [sp_send, inr, req, wit, eIA, eIS, eUO, eNS, hq1, hq6]; rfl))
    · refine k_callR (k_atS (As := [.int y]) hx hb hown hE.1 (K0.w tw_526) rfl k_w9 (hts _ tw_524) (hts _ tw_525) (hts _ tw_1) (by decide) np_FK_checkAddress rfl d_FK_send_5) (kn_s hq6 (c_FK_checkAddress K0 ad r σ y)) (hl.1.trans hml.symm) (Nat.le_of_ble_eq_true rfl) ⟨Nat.le_of_ble_eq_true rfl, Nat.le_of_ble_eq_true rfl, Nat.le_of_ble_eq_true rfl, Nat.le_of_ble_eq_true rfl⟩ (fun U hU hW => ⟨hE.go hW hU hS, by rw [hU]; exact hP, hD⟩) ?_
      obtain ⟨rfl, ha8, hb_9, hc_10⟩ := rg_some hq6
      refine lv_aload_n hx hb d_FK_send_8 rfl (lv_at hl 0 rfl) ?_
      refine va_get (D := D) (ci := nFK) (v := .ref (ad 2)) (C := R_FK) (T := T_FK) (N := 4) hx hb hts i_FK hown hK hP 0 rfl rfl 1 (by decide) (hts _ tw_117) (fun _ h9 => h9) rfl d_FK_send_9 ?_
      refine lv_iload_n hx hb d_FK_send_12 rfl (lv_at hl 1 rfl) ?_
      refine k_callR (k_atV (As := [.int (nI j2)]) hx hb hown hE.1 (K0.w tw_219) (hts _ tw_216) (hts _ tw_217) (hts _ tw_218) (hts _ tw_3) (by decide) np_Pro_stateOf (va_recv hK hP (ci := nPro) (q0 := 2) rfl rfl) rfl d_FK_send_13) (c_Pro_stateOf K0 ad r σ j2 (by omega)) (hl.1.trans hml.symm) (Nat.le_of_ble_eq_true rfl) ⟨Nat.le_of_ble_eq_true rfl, Nat.le_of_ble_eq_true rfl, Nat.le_of_ble_eq_true rfl, Nat.le_of_ble_eq_true rfl⟩ (fun U hU hW => ⟨hE.go hW hU hS, by rw [hU]; exact hP, hD⟩) ?_
      have ho11 := o4 j2 (by omega)
      refine lv_iconst (v := (nI 4)) hx hb d_FK_send_16 (by decide) ?_
      refine k_eqN (tgt := 30) (Nat.lt_of_lt_of_le (ok.b4 _ (by omega)) (by decide)) (by omega) hx hb d_FK_send_17 (by decide) (fun h12 => ?_) (fun h12 => ?_)
      · refine lv_aload_n hx hb d_FK_send_30 rfl (lv_at hl 0 rfl) ?_
        refine lv_iload_n hx hb d_FK_send_31 rfl (lv_at hl 2 rfl) ?_
        rcases hq13 : (tb σ j7 != 0) with _ | _
        · exact k_callE (k_atV (As := [.int (nI j7)]) hx hb hown hE.1 (K0.w tw_538) (hts _ tw_535) (hts _ tw_537) (hts _ tw_9018) (hts _ tw_1) (by decide) np_FK_tableAt (va_recv hK hP (ci := nFK) (q0 := 0) rfl rfl) rfl d_FK_send_32) (kr_f hq13 (c_FK_tableAt K0 ad r σ j7 ok (by omega) )) (hl.1.trans hml.symm) (Nat.le_of_ble_eq_true rfl) ⟨Nat.le_of_ble_eq_true rfl, Nat.le_of_ble_eq_true rfl, Nat.le_of_ble_eq_true rfl, Nat.le_of_ble_eq_true rfl⟩ (fun U hU hW => ⟨hE.go hW hU hS, by rw [hU]; exact hP, hD⟩) hex hlocks (by (try rw [pI_pred hnzf]); first | rfl | (simp [sp_send, inr, req, wit, eIA, eIS, eUO, eNS, hq1, hq6, h12, hq13]; done) | (simp [sp_send, inr, req, wit, eIA, eIS, eUO, eNS, hq1, hq6, h12, hq13]; rfl) | (simp [sp_send, inr, req, wit, eIA, eIS, eUO, eNS, hq1, hq6, hq13, beq_iff_eq.mpr h12]; done) | (simp [sp_send, inr, req, wit, eIA, eIS, eUO, eNS, hq1, hq6, hq13, beq_iff_eq.mpr h12]; rfl) | (simp only [sp_send, inr, req, wit, eIA, eIS, eUO, eNS, hq1, hq6, h12, hq13]; rfl))
        · refine k_callR (k_atV (As := [.int (nI j7)]) hx hb hown hE.1 (K0.w tw_538) (hts _ tw_535) (hts _ tw_537) (hts _ tw_9018) (hts _ tw_1) (by decide) np_FK_tableAt (va_recv hK hP (ci := nFK) (q0 := 0) rfl rfl) rfl d_FK_send_32) (kr_t hq13 (c_FK_tableAt K0 ad r σ j7 ok (by omega) )) (hl.1.trans hml.symm) (Nat.le_of_ble_eq_true rfl) ⟨Nat.le_of_ble_eq_true rfl, Nat.le_of_ble_eq_true rfl, Nat.le_of_ble_eq_true rfl, Nat.le_of_ble_eq_true rfl⟩ (fun U hU hW => ⟨hE.go hW hU hS, by rw [hU]; exact hP, hD⟩) ?_
          have hnzt : tb σ j7 ≠ 0 := by simpa using hq13
          have hbdt := ok.tbl j7 (by omega)
          refine lv_istore_n (lv' := [(3, .int (pI (tb σ j7))), (0, .ref (ad 0)), (1, .int (nI j2)), (2, .int (nI j7))]) hx hb d_FK_send_35 rfl hl (by decide) rfl (fun ls hl => ?_)
          refine lv_iload_n hx hb d_FK_send_36 rfl (lv_at hl 3 rfl) ?_
          refine k_callR (k_atS (As := [.int (nI j7)]) hx hb hown hE.1 (K0.w tw_545) rfl k_w9 (hts _ tw_543) (hts _ tw_544) (hts _ tw_1) (by decide) np_FK_frameEntryOf rfl d_FK_send_37) (c_FK_frameEntryOf K0 ad r σ j7 (by omega)) (hl.1.trans hml.symm) (Nat.le_of_ble_eq_true rfl) ⟨Nat.le_of_ble_eq_true rfl, Nat.le_of_ble_eq_true rfl, Nat.le_of_ble_eq_true rfl, Nat.le_of_ble_eq_true rfl⟩ (fun U hU hW => ⟨hE.go hW hU hS, by rw [hU]; exact hP, hD⟩) ?_
          refine lv_istore (lv' := [(4, .int (nI (j7 / 4 % 4))), (3, .int (pI (tb σ j7))), (0, .ref (ad 0)), (1, .int (nI j2)), (2, .int (nI j7))]) hx hb d_FK_send_40 hl (by decide) rfl (fun ls hl => ?_)
          refine lv_aload_n hx hb d_FK_send_42 rfl (lv_at hl 2 rfl) ?_
          refine lv_iload_n hx hb d_FK_send_43 rfl (lv_at hl 4 rfl) ?_
          rcases hq14 : (fr σ j7 != 0) with _ | _
          · exact k_callE (k_atV (As := [.int (nI j7)]) hx hb hown hE.1 (K0.w tw_534) (hts _ tw_531) (hts _ tw_533) (hts _ tw_9017) (hts _ tw_1) (by decide) np_FK_frameAt (va_recv hK hP (ci := nFK) (q0 := 0) rfl rfl) rfl d_FK_send_44) (kr_f hq14 (kr_t hq13 (c_FK_frameAt K0 ad r σ j7 ok (by omega) ))) (hl.1.trans hml.symm) (Nat.le_of_ble_eq_true rfl) ⟨Nat.le_of_ble_eq_true rfl, Nat.le_of_ble_eq_true rfl, Nat.le_of_ble_eq_true rfl, Nat.le_of_ble_eq_true rfl⟩ (fun U hU hW => ⟨hE.go hW hU hS, by rw [hU]; exact hP, hD⟩) hex hlocks (by (try rw [pI_pred hnzf]); first | rfl | (simp [sp_send, inr, req, wit, eIA, eIS, eUO, eNS, hq1, hq6, h12, hq13, hq14]; done) | (simp [sp_send, inr, req, wit, eIA, eIS, eUO, eNS, hq1, hq6, h12, hq13, hq14]; rfl) | (simp [sp_send, inr, req, wit, eIA, eIS, eUO, eNS, hq1, hq6, hq13, hq14, beq_iff_eq.mpr h12]; done) | (simp [sp_send, inr, req, wit, eIA, eIS, eUO, eNS, hq1, hq6, hq13, hq14, beq_iff_eq.mpr h12]; rfl) | (simp only [sp_send, inr, req, wit, eIA, eIS, eUO, eNS, hq1, hq6, h12, hq13, hq14]; rfl))
          · refine k_callR (k_atV (As := [.int (nI j7)]) hx hb hown hE.1 (K0.w tw_534) (hts _ tw_531) (hts _ tw_533) (hts _ tw_9017) (hts _ tw_1) (by decide) np_FK_frameAt (va_recv hK hP (ci := nFK) (q0 := 0) rfl rfl) rfl d_FK_send_44) (kr_t hq14 (kr_t hq13 (c_FK_frameAt K0 ad r σ j7 ok (by omega) ))) (hl.1.trans hml.symm) (Nat.le_of_ble_eq_true rfl) ⟨Nat.le_of_ble_eq_true rfl, Nat.le_of_ble_eq_true rfl, Nat.le_of_ble_eq_true rfl, Nat.le_of_ble_eq_true rfl⟩ (fun U hU hW => ⟨hE.go hW hU hS, by rw [hU]; exact hP, hD⟩) ?_
            have hnzt : tb σ j7 ≠ 0 := by simpa using hq13
            have hnzf : fr σ j7 ≠ 0 := by simpa using hq14
            have hbdt := ok.tbl j7 (by omega)
            have hbdf := ok.frl j7 (by omega) hnzt
            refine lv_istore (lv' := [(5, .int (pI (fr σ j7))), (4, .int (nI (j7 / 4 % 4))), (3, .int (pI (tb σ j7))), (0, .ref (ad 0)), (1, .int (nI j2)), (2, .int (nI j7))]) hx hb d_FK_send_47 hl (by decide) rfl (fun ls hl => ?_)
            refine lv_aload_n hx hb d_FK_send_49 rfl (lv_at hl 3 rfl) ?_
            refine va_get (D := D) (ci := nFK) (v := .ref (ad 1)) (C := R_FK) (T := T_FK) (N := 4) hx hb hts i_FK hown hK hP 0 rfl rfl 0 (by decide) (hts _ tw_116) (fun _ h9 => h9) rfl d_FK_send_50 ?_
            refine lv_iload_n hx hb d_FK_send_53 rfl (lv_at hl 2 rfl) ?_
            refine lv_iload hx hb d_FK_send_54 (lv_at hl 1 rfl) ?_
            refine k_st (st' := [.int (nI (j7 / 4 % 4)), .int (nI ((tb σ j7) - 1)), .ref (ad 1)]) (by show ([.int (nI (j7 / 4 % 4)), .int (pI (tb σ j7)), .ref (ad 1)] : List Value) = _; rw [pI_pred (t := (tb σ j7)) (by omega)]) ?_
            refine k_callR (k_atV (As := [.int (nI ((tb σ j7) - 1)), .int (nI (j7 / 4 % 4))]) hx hb hown hE.1 (K0.w tw_344) (hts _ tw_341) (hts _ tw_342) (hts _ tw_343) (hts _ tw_2) (by decide) np_Mem_rightsIn (va_recv hK hP (ci := nMem) (q0 := 1) rfl rfl) rfl d_FK_send_56) (c_Mem_rightsIn K0 ad r σ ((tb σ j7) - 1) (j7 / 4 % 4) (by omega) (by omega)) (hl.1.trans hml.symm) (Nat.le_of_ble_eq_true rfl) ⟨Nat.le_of_ble_eq_true rfl, Nat.le_of_ble_eq_true rfl, Nat.le_of_ble_eq_true rfl, Nat.le_of_ble_eq_true rfl⟩ (fun U hU hW => ⟨hE.go hW hU hS, by rw [hU]; exact hP, hD⟩) ?_
            have ho15 := o3 (((tb σ j7) - 1) * 4 + (j7 / 4 % 4)) (by omega)
            refine lv_istore (lv' := [(6, .int (nI (σ.1 3 (((tb σ j7) - 1) * 4 + (j7 / 4 % 4))))), (5, .int (pI (fr σ j7))), (4, .int (nI (j7 / 4 % 4))), (3, .int (pI (tb σ j7))), (0, .ref (ad 0)), (1, .int (nI j2)), (2, .int (nI j7))]) hx hb d_FK_send_59 hl (by decide) rfl (fun ls hl => ?_)
            refine lv_aload_n hx hb d_FK_send_61 rfl (lv_at hl 4 rfl) ?_
            refine va_get (D := D) (ci := nFK) (v := .ref (ad 1)) (C := R_FK) (T := T_FK) (N := 4) hx hb hts i_FK hown hK hP 0 rfl rfl 0 (by decide) (hts _ tw_116) (fun _ h9 => h9) rfl d_FK_send_62 ?_
            refine lv_iload_n hx hb d_FK_send_65 rfl (lv_at hl 3 rfl) ?_
            refine lv_iload hx hb d_FK_send_66 (lv_at hl 2 rfl) ?_
            refine k_st (st' := [.int (nI (j7 / 4 % 4)), .int (nI ((tb σ j7) - 1)), .ref (ad 1)]) (by show ([.int (nI (j7 / 4 % 4)), .int (pI (tb σ j7)), .ref (ad 1)] : List Value) = _; rw [pI_pred (t := (tb σ j7)) (by omega)]) ?_
            refine k_callW (k_atV (As := [.int (nI ((tb σ j7) - 1)), .int (nI (j7 / 4 % 4))]) hx hb hown hE.1 (K0.w tw_38) (hts _ tw_374) (hts _ tw_36) (hts _ tw_37) (hts _ tw_2) (by decide) np_Mem_clearEntry (va_recv hK hP (ci := nMem) (q0 := 1) rfl rfl) rfl d_FK_send_68) (c_Mem_clearEntry K0 ad r σ ((tb σ j7) - 1) (j7 / 4 % 4) (by omega) (by omega)) (hl.1.trans hml.symm) (Nat.le_of_ble_eq_true rfl) ⟨Nat.le_of_ble_eq_true rfl, Nat.le_of_ble_eq_true rfl, Nat.le_of_ble_eq_true rfl, Nat.le_of_ble_eq_true rfl⟩ (fun U hU hW => ⟨hE.go hW hU hS, by rw [hU]; exact hP, hD⟩) hS (fun H locs hP hD hS => ?_)
            obtain ⟨σ16, eσ16⟩ : ∃ z : kS, z = (m_clearEntry σ ((tb σ j7) - 1) (j7 / 4 % 4)) := ⟨_, rfl⟩
            have hP : va_P D vwCl (wC ad cI r σ16) H := by rw [eσ16]; exact hP
            have hD : va_D (kA s0) (wC ad cI r σ16) := by rw [eσ16]; exact hD
            refine lv_aload_n hx hb d_FK_send_71 rfl (lv_at hl 4 rfl) ?_
            refine va_get (D := D) (ci := nFK) (v := .ref (ad 1)) (C := R_FK) (T := T_FK) (N := 4) hx hb hts i_FK hown hK hP 0 rfl rfl 0 (by decide) (hts _ tw_116) (fun _ h9 => h9) rfl d_FK_send_72 ?_
            refine lv_aload_n hx hb d_FK_send_75 rfl (lv_at hl 4 rfl) ?_
            refine va_get (D := D) (ci := nFK) (v := .ref (ad 2)) (C := R_FK) (T := T_FK) (N := 4) hx hb hts i_FK hown hK hP 0 rfl rfl 1 (by decide) (hts _ tw_117) (fun _ h9 => h9) rfl d_FK_send_76 ?_
            refine lv_iload_n hx hb d_FK_send_79 rfl (lv_at hl 5 rfl) ?_
            refine k_callR (k_atV (As := [.int (nI j2)]) hx hb hown hE.1 (K0.w tw_611) (hts _ tw_608) (hts _ tw_609) (hts _ tw_610) (hts _ tw_3) (by decide) np_Pro_awaitedTable (va_recv hK hP (ci := nPro) (q0 := 2) rfl rfl) rfl d_FK_send_80) (c_Pro_awaitedTable K0 ad r σ16 j2 (by omega)) (hl.1.trans hml.symm) (Nat.le_of_ble_eq_true rfl) ⟨Nat.le_of_ble_eq_true rfl, Nat.le_of_ble_eq_true rfl, Nat.le_of_ble_eq_true rfl, Nat.le_of_ble_eq_true rfl⟩ (fun U hU hW => ⟨hE.go hW hU hS, by rw [hU]; exact hP, hD⟩) ?_
            have ho17 : σ16.1 8 j2 < 20 := by rw [eσ16]; exact o8 _ (by omega)
            refine lv_aload_n hx hb d_FK_send_83 rfl (lv_at hl 4 rfl) ?_
            refine va_get (D := D) (ci := nFK) (v := .ref (ad 2)) (C := R_FK) (T := T_FK) (N := 4) hx hb hts i_FK hown hK hP 0 rfl rfl 1 (by decide) (hts _ tw_117) (fun _ h9 => h9) rfl d_FK_send_84 ?_
            refine lv_iload_n hx hb d_FK_send_87 rfl (lv_at hl 5 rfl) ?_
            refine k_callR (k_atV (As := [.int (nI j2)]) hx hb hown hE.1 (K0.w tw_615) (hts _ tw_612) (hts _ tw_613) (hts _ tw_614) (hts _ tw_3) (by decide) np_Pro_awaitedEntry (va_recv hK hP (ci := nPro) (q0 := 2) rfl rfl) rfl d_FK_send_88) (c_Pro_awaitedEntry K0 ad r σ16 j2 (by omega)) (hl.1.trans hml.symm) (Nat.le_of_ble_eq_true rfl) ⟨Nat.le_of_ble_eq_true rfl, Nat.le_of_ble_eq_true rfl, Nat.le_of_ble_eq_true rfl, Nat.le_of_ble_eq_true rfl⟩ (fun U hU hW => ⟨hE.go hW hU hS, by rw [hU]; exact hP, hD⟩) ?_
            have ho18 : σ16.1 9 j2 < 4 := by rw [eσ16]; exact o9 _ (by omega)
            refine lv_iload hx hb d_FK_send_91 (lv_at hl 1 rfl) ?_
            refine lv_iload hx hb d_FK_send_93 (lv_at hl 0 rfl) ?_
            refine k_callW (k_atV (As := [.int (nI (σ16.1 8 j2)), .int (nI (σ16.1 9 j2)), .int (pI (fr σ j7)), .int (nI (σ.1 3 (((tb σ j7) - 1) * 4 + (j7 / 4 % 4))))]) hx hb hown hE.1 (K0.w tw_42) (hts _ tw_304) (hts _ tw_40) (hts _ tw_41) (hts _ tw_2) (by decide) np_Mem_setEntry (va_recv hK hP (ci := nMem) (q0 := 1) rfl rfl) rfl d_FK_send_95) (c_Mem_setEntry K0 ad r σ16 (σ16.1 8 j2) (σ16.1 9 j2) (fr σ j7) (σ.1 3 (((tb σ j7) - 1) * 4 + (j7 / 4 % 4))) (by omega) (by omega)) (hl.1.trans hml.symm) (Nat.le_of_ble_eq_true rfl) ⟨Nat.le_of_ble_eq_true rfl, Nat.le_of_ble_eq_true rfl, Nat.le_of_ble_eq_true rfl, Nat.le_of_ble_eq_true rfl⟩ (fun U hU hW => ⟨hE.go hW hU hS, by rw [hU]; exact hP, hD⟩) hS (fun H locs hP hD hS => ?_)
            obtain ⟨σ19, eσ19⟩ : ∃ z : kS, z = (m_setEntry σ16 (σ16.1 8 j2) (σ16.1 9 j2) (fr σ j7) (σ.1 3 (((tb σ j7) - 1) * 4 + (j7 / 4 % 4)))) := ⟨_, rfl⟩
            have hP : va_P D vwCl (wC ad cI r σ19) H := by rw [eσ19]; exact hP
            have hD : va_D (kA s0) (wC ad cI r σ19) := by rw [eσ19]; exact hD
            refine lv_aload_n hx hb d_FK_send_98 rfl (lv_at hl 4 rfl) ?_
            refine va_get (D := D) (ci := nFK) (v := .ref (ad 1)) (C := R_FK) (T := T_FK) (N := 4) hx hb hts i_FK hown hK hP 0 rfl rfl 0 (by decide) (hts _ tw_116) (fun _ h9 => h9) rfl d_FK_send_99 ?_
            refine lv_iload hx hb d_FK_send_102 (lv_at hl 1 rfl) ?_
            refine lv_iload_n hx hb d_FK_send_104 rfl (lv_at hl 5 rfl) ?_
            refine k_st (st' := [.int (nI j2), .int (nI ((fr σ j7) - 1)), .ref (ad 1)]) (by show ([.int (nI j2), .int (pI (fr σ j7)), .ref (ad 1)] : List Value) = _; rw [pI_pred (t := (fr σ j7)) (by omega)]) ?_
            refine k_callW (k_atV (As := [.int (nI ((fr σ j7) - 1)), .int (nI j2)]) hx hb hown hE.1 (K0.w tw_619) (hts _ tw_616) (hts _ tw_617) (hts _ tw_618) (hts _ tw_2) (by decide) np_Mem_setOwner (va_recv hK hP (ci := nMem) (q0 := 1) rfl rfl) rfl d_FK_send_105) (c_Mem_setOwner K0 ad r σ19 ((fr σ j7) - 1) j2 (by omega)) (hl.1.trans hml.symm) (Nat.le_of_ble_eq_true rfl) ⟨Nat.le_of_ble_eq_true rfl, Nat.le_of_ble_eq_true rfl, Nat.le_of_ble_eq_true rfl, Nat.le_of_ble_eq_true rfl⟩ (fun U hU hW => ⟨hE.go hW hU hS, by rw [hU]; exact hP, hD⟩) hS (fun H locs hP hD hS => ?_)
            obtain ⟨σ20, eσ20⟩ : ∃ z : kS, z = (st σ19 1 ((fr σ j7) - 1) j2) := ⟨_, rfl⟩
            have hP : va_P D vwCl (wC ad cI r σ20) H := by rw [eσ20]; exact hP
            have hD : va_D (kA s0) (wC ad cI r σ20) := by rw [eσ20]; exact hD
            refine lv_aload_n hx hb d_FK_send_108 rfl (lv_at hl 4 rfl) ?_
            refine va_get (D := D) (ci := nFK) (v := .ref (ad 2)) (C := R_FK) (T := T_FK) (N := 4) hx hb hts i_FK hown hK hP 0 rfl rfl 1 (by decide) (hts _ tw_117) (fun _ h9 => h9) rfl d_FK_send_109 ?_
            refine lv_iload_n hx hb d_FK_send_112 rfl (lv_at hl 5 rfl) ?_
            refine lv_iconst (v := (nI 2)) hx hb d_FK_send_113 (by decide) ?_
            refine k_callW (k_atV (As := [.int (nI j2), .int (nI 2)]) hx hb hown hE.1 (K0.w tw_387) (hts _ tw_384) (hts _ tw_385) (hts _ tw_386) (hts _ tw_3) (by decide) np_Pro_setState (va_recv hK hP (ci := nPro) (q0 := 2) rfl rfl) rfl d_FK_send_114) (c_Pro_setState K0 ad r σ20 j2 2 (by omega)) (hl.1.trans hml.symm) (Nat.le_of_ble_eq_true rfl) ⟨Nat.le_of_ble_eq_true rfl, Nat.le_of_ble_eq_true rfl, Nat.le_of_ble_eq_true rfl, Nat.le_of_ble_eq_true rfl⟩ (fun U hU hW => ⟨hE.go hW hU hS, by rw [hU]; exact hP, hD⟩) hS (fun H locs hP hD hS => ?_)
            obtain ⟨σ21, eσ21⟩ : ∃ z : kS, z = (st σ20 4 j2 2) := ⟨_, rfl⟩
            have hP : va_P D vwCl (wC ad cI r σ21) H := by rw [eσ21]; exact hP
            have hD : va_D (kA s0) (wC ad cI r σ21) := by rw [eσ21]; exact hD
            refine lv_iload hx hb d_FK_send_117 (lv_at hl 1 rfl) ?_
            exact k_retWI hx hb hr hlocks d_FK_send_119 hP hD hS (by (try rw [pI_pred hnzf]); subst eσ21 eσ20 eσ19 eσ16; first | rfl | (simp [sp_send, inr, req, wit, eIA, eIS, eUO, eNS, hq1, hq6, h12, hq13, hq14]; done) | (simp [sp_send, inr, req, wit, eIA, eIS, eUO, eNS, hq1, hq6, h12, hq13, hq14]; rfl) | (simp [sp_send, inr, req, wit, eIA, eIS, eUO, eNS, hq1, hq6, hq13, hq14, beq_iff_eq.mpr h12]; done) | (simp [sp_send, inr, req, wit, eIA, eIS, eUO, eNS, hq1, hq6, hq13, hq14, beq_iff_eq.mpr h12]; rfl) | (simp only [sp_send, inr, req, wit, eIA, eIS, eUO, eNS, hq1, hq6, h12, hq13, hq14]; rfl))
      · exact k_throw hx hb K0.tr hown (text := "the process is not waiting") (names := kNames) (by decide +kernel) (by decide +kernel) (hts _ tw_220) (hts _ tw_10) (K0.str hE sr_223) (K0.own hE oa_57) (hl.1.trans hml.symm) d_FK_send_20 d_FK_send_23 d_FK_send_24 d_FK_send_26 d_FK_send_29 hex hlocks ⟨Nat.le_of_ble_eq_true rfl, Nat.le_of_ble_eq_true rfl, Nat.le_of_ble_eq_true rfl, Nat.le_of_ble_eq_true rfl⟩ (by (try rw [pI_pred hnzf]); first | rfl | (simp [sp_send, inr, req, wit, eIA, eIS, eUO, eNS, hq1, hq6, h12, beq_false_of_ne h12, bne_iff_ne.mpr h12]; done) | (simp [sp_send, inr, req, wit, eIA, eIS, eUO, eNS, hq1, hq6, h12, beq_false_of_ne h12, bne_iff_ne.mpr h12]; rfl) | (simp [sp_send, inr, req, wit, eIA, eIS, eUO, eNS, hq1, hq6, h12, beq_false_of_ne h12, bne_iff_ne.mpr h12]; done) | (simp [sp_send, inr, req, wit, eIA, eIS, eUO, eNS, hq1, hq6, h12, beq_false_of_ne h12, bne_iff_ne.mpr h12]; rfl) | (simp only [sp_send, inr, req, wit, eIA, eIS, eUO, eNS, hq1, hq6, h12, beq_false_of_ne h12, bne_iff_ne.mpr h12]; rfl))
set_option maxHeartbeats 4000000 in
set_option maxRecDepth 100000 in
theorem c_FK_process {l : Launch} {s0 : State} {a0 : Array Value} {D : va_G} {cI cL : ClassId} (K0 : k0 l s0 a0 D cI cL) (ad : Nat → Nat) (r : va_W) (σ : kS) (x : Int32) (y : Int32) (ok : kOk σ) : kMet l y_FK_process (Cond.code y_FK_process b_FK_process 3 (some .int)) (rmL 8) [.ref (ad 0), .int x, .int y] (kPre D vwCl s0 (wC ad cI r) σ) (sp_process σ x y) (kBw D vwCl s0 (wC ad cI r)) := by
  refine k_of (by decide) (Nat.le_of_ble_eq_true rfl) ?_
  intro p e9 s m below meth c hx hb hr hlocks hown hml hex hpre ls hl
  obtain ⟨hE, hP, hD⟩ := hpre
  obtain ⟨hts, hK⟩ := K0.at (args := ([.ref (ad 0), .int x, .int y] : List Value).toArray) hE
  have hl : lv_has ls 3 [(0, .ref (ad 0)), (1, .int x), (2, .int y)] := hl
  have hS : va_S (kA s0) s.heap s.heap [] := va_S.rf
  obtain ⟨o1, o2, o3, o4, o5, o6, o7, o8, o9, o10, o0, ⟨oc1, oc2⟩, oc3, or6⟩ := id ok
  have hr0 : σ.1 6 (σ.1 11 0) ≠ 0 := or6 _ oc2 (by omega)
  have hr1 : σ.1 6 (σ.1 11 0) < 21 := o6 _ oc2
  refine lv_iload_n hx hb d_FK_process_0 rfl (lv_at hl 1 rfl) ?_
  rcases hq1 : rg x 1 5 with _ | j2
  · exact k_callE (k_atS (As := [.int x]) hx hb hown hE.1 (K0.w tw_140) rfl k_w9 (hts _ tw_138) (hts _ tw_139) (hts _ tw_1) (by decide) np_FK_checkProcess rfl d_FK_process_1) (kn_n hq1 (c_FK_checkProcess K0 ad r σ x)) (hl.1.trans hml.symm) (Nat.le_of_ble_eq_true rfl) ⟨Nat.le_of_ble_eq_true rfl, Nat.le_of_ble_eq_true rfl, Nat.le_of_ble_eq_true rfl, Nat.le_of_ble_eq_true rfl⟩ (fun U hU hW => ⟨hE.go hW hU hS, by rw [hU]; exact hP, hD⟩) hex hlocks (by first | rfl | (simp [sp_process, inr, req, wit, eIA, eIS, eUO, eNS, hq1]; done) | (simp [sp_process, inr, req, wit, eIA, eIS, eUO, eNS, hq1]; rfl) | (simp [sp_process, inr, req, wit, eIA, eIS, eUO, eNS, hq1]; done) | (simp [sp_process, inr, req, wit, eIA, eIS, eUO, eNS, hq1]; rfl) | (simp only [sp_process, inr, req, wit, eIA, eIS, eUO, eNS, hq1]; rfl))
  · refine k_callR (k_atS (As := [.int x]) hx hb hown hE.1 (K0.w tw_140) rfl k_w9 (hts _ tw_138) (hts _ tw_139) (hts _ tw_1) (by decide) np_FK_checkProcess rfl d_FK_process_1) (kn_s hq1 (c_FK_checkProcess K0 ad r σ x)) (hl.1.trans hml.symm) (Nat.le_of_ble_eq_true rfl) ⟨Nat.le_of_ble_eq_true rfl, Nat.le_of_ble_eq_true rfl, Nat.le_of_ble_eq_true rfl, Nat.le_of_ble_eq_true rfl⟩ (fun U hU hW => ⟨hE.go hW hU hS, by rw [hU]; exact hP, hD⟩) ?_
    obtain ⟨rfl, ha3, hb_4, hc_5⟩ := rg_some hq1
    refine lv_iload_n hx hb d_FK_process_4 rfl (lv_at hl 2 rfl) ?_
    refine lv_iconst (v := (nI 0)) hx hb d_FK_process_5 (by decide) ?_
    refine lv_iconst (v := (nI 4)) hx hb d_FK_process_6 (by decide) ?_
    rcases hq6 : rg y 0 4 with _ | j7
    · exact k_callE (k_atS (As := [.int y, .int (nI 0), .int (nI 4)]) hx hb hown hE.1 (K0.w tw_143) rfl k_w9 (hts _ tw_141) (hts _ tw_142) (hts _ tw_1) (by decide) np_FK_checkWithin rfl d_FK_process_7) (kn_n hq6 (c_FK_checkWithin K0 ad r σ y 0 4 (by decide) (by decide))) (hl.1.trans hml.symm) (Nat.le_of_ble_eq_true rfl) ⟨Nat.le_of_ble_eq_true rfl, Nat.le_of_ble_eq_true rfl, Nat.le_of_ble_eq_true rfl, Nat.le_of_ble_eq_true rfl⟩ (fun U hU hW => ⟨hE.go hW hU hS, by rw [hU]; exact hP, hD⟩) hex hlocks (by first | rfl | (simp [sp_process, inr, req, wit, eIA, eIS, eUO, eNS, hq1, hq6]; done) | (simp [sp_process, inr, req, wit, eIA, eIS, eUO, eNS, hq1, hq6]; rfl) | (simp [sp_process, inr, req, wit, eIA, eIS, eUO, eNS, hq1, hq6]; done) | (simp [sp_process, inr, req, wit, eIA, eIS, eUO, eNS, hq1, hq6]; rfl) | (simp only [sp_process, inr, req, wit, eIA, eIS, eUO, eNS, hq1, hq6]; rfl))
    · refine k_callR (k_atS (As := [.int y, .int (nI 0), .int (nI 4)]) hx hb hown hE.1 (K0.w tw_143) rfl k_w9 (hts _ tw_141) (hts _ tw_142) (hts _ tw_1) (by decide) np_FK_checkWithin rfl d_FK_process_7) (kn_s hq6 (c_FK_checkWithin K0 ad r σ y 0 4 (by decide) (by decide))) (hl.1.trans hml.symm) (Nat.le_of_ble_eq_true rfl) ⟨Nat.le_of_ble_eq_true rfl, Nat.le_of_ble_eq_true rfl, Nat.le_of_ble_eq_true rfl, Nat.le_of_ble_eq_true rfl⟩ (fun U hU hW => ⟨hE.go hW hU hS, by rw [hU]; exact hP, hD⟩) ?_
      obtain ⟨rfl, ha8, hb_9, hc_10⟩ := rg_some hq6
      refine lv_iload_n hx hb d_FK_process_10 rfl (lv_at hl 2 rfl) ?_
      rcases (show j7 = 0 ∨ j7 = 1 ∨ j7 = 2 ∨ j7 = 3 ∨ j7 = 4 by omega) with rfl | rfl | rfl | rfl | rfl
      · refine lv_tableIn (off := 29) (tgt := 40) hx hb d_FK_process_11 (by decide +kernel) (by decide +kernel) (by decide +kernel) (by decide) ?_
        refine lv_aload_n hx hb d_FK_process_40 rfl (lv_at hl 0 rfl) ?_
        refine va_get (D := D) (ci := nFK) (v := .ref (ad 2)) (C := R_FK) (T := T_FK) (N := 4) hx hb hts i_FK hown hK hP 0 rfl rfl 1 (by decide) (hts _ tw_117) (fun _ h9 => h9) rfl d_FK_process_41 ?_
        refine lv_iload_n hx hb d_FK_process_44 rfl (lv_at hl 1 rfl) ?_
        refine k_callR (k_atV (As := [.int (nI j2)]) hx hb hown hE.1 (K0.w tw_219) (hts _ tw_216) (hts _ tw_217) (hts _ tw_218) (hts _ tw_3) (by decide) np_Pro_stateOf (va_recv hK hP (ci := nPro) (q0 := 2) rfl rfl) rfl d_FK_process_45) (c_Pro_stateOf K0 ad r σ j2 (by omega)) (hl.1.trans hml.symm) (Nat.le_of_ble_eq_true rfl) ⟨Nat.le_of_ble_eq_true rfl, Nat.le_of_ble_eq_true rfl, Nat.le_of_ble_eq_true rfl, Nat.le_of_ble_eq_true rfl⟩ (fun U hU hW => ⟨hE.go hW hU hS, by rw [hU]; exact hP, hD⟩) ?_
        have ho11 := o4 j2 (by omega)
        exact k_retWI hx hb hr hlocks d_FK_process_48 hP hD hS (by first | rfl | (simp [sp_process, inr, req, wit, eIA, eIS, eUO, eNS, hq1, hq6]; done) | (simp [sp_process, inr, req, wit, eIA, eIS, eUO, eNS, hq1, hq6]; rfl) | (simp [sp_process, inr, req, wit, eIA, eIS, eUO, eNS, hq1, hq6]; done) | (simp [sp_process, inr, req, wit, eIA, eIS, eUO, eNS, hq1, hq6]; rfl) | (simp only [sp_process, inr, req, wit, eIA, eIS, eUO, eNS, hq1, hq6]; rfl))
      · refine lv_tableIn (off := 38) (tgt := 49) hx hb d_FK_process_11 (by decide +kernel) (by decide +kernel) (by decide +kernel) (by decide) ?_
        refine lv_aload_n hx hb d_FK_process_49 rfl (lv_at hl 0 rfl) ?_
        refine va_get (D := D) (ci := nFK) (v := .ref (ad 2)) (C := R_FK) (T := T_FK) (N := 4) hx hb hts i_FK hown hK hP 0 rfl rfl 1 (by decide) (hts _ tw_117) (fun _ h9 => h9) rfl d_FK_process_50 ?_
        refine lv_iload_n hx hb d_FK_process_53 rfl (lv_at hl 1 rfl) ?_
        refine k_callR (k_atV (As := [.int (nI j2)]) hx hb hown hE.1 (K0.w tw_282) (hts _ tw_279) (hts _ tw_280) (hts _ tw_281) (hts _ tw_3) (by decide) np_Pro_parentOf (va_recv hK hP (ci := nPro) (q0 := 2) rfl rfl) rfl d_FK_process_54) (c_Pro_parentOf K0 ad r σ j2 (by omega)) (hl.1.trans hml.symm) (Nat.le_of_ble_eq_true rfl) ⟨Nat.le_of_ble_eq_true rfl, Nat.le_of_ble_eq_true rfl, Nat.le_of_ble_eq_true rfl, Nat.le_of_ble_eq_true rfl⟩ (fun U hU hW => ⟨hE.go hW hU hS, by rw [hU]; exact hP, hD⟩) ?_
        have ho12 := o5 j2 (by omega)
        exact k_retWI hx hb hr hlocks d_FK_process_57 hP hD hS (by first | rfl | (simp [sp_process, inr, req, wit, eIA, eIS, eUO, eNS, hq1, hq6]; done) | (simp [sp_process, inr, req, wit, eIA, eIS, eUO, eNS, hq1, hq6]; rfl) | (simp [sp_process, inr, req, wit, eIA, eIS, eUO, eNS, hq1, hq6]; done) | (simp [sp_process, inr, req, wit, eIA, eIS, eUO, eNS, hq1, hq6]; rfl) | (simp only [sp_process, inr, req, wit, eIA, eIS, eUO, eNS, hq1, hq6]; rfl))
      · refine lv_tableIn (off := 47) (tgt := 58) hx hb d_FK_process_11 (by decide +kernel) (by decide +kernel) (by decide +kernel) (by decide) ?_
        refine lv_aload_n hx hb d_FK_process_58 rfl (lv_at hl 0 rfl) ?_
        refine va_get (D := D) (ci := nFK) (v := .ref (ad 2)) (C := R_FK) (T := T_FK) (N := 4) hx hb hts i_FK hown hK hP 0 rfl rfl 1 (by decide) (hts _ tw_117) (fun _ h9 => h9) rfl d_FK_process_59 ?_
        refine lv_iload_n hx hb d_FK_process_62 rfl (lv_at hl 1 rfl) ?_
        refine k_callR (k_atV (As := [.int (nI j2)]) hx hb hown hE.1 (K0.w tw_453) (hts _ tw_450) (hts _ tw_451) (hts _ tw_452) (hts _ tw_3) (by decide) np_Pro_rootOf (va_recv hK hP (ci := nPro) (q0 := 2) rfl rfl) rfl d_FK_process_63) (c_Pro_rootOf K0 ad r σ j2 (by omega)) (hl.1.trans hml.symm) (Nat.le_of_ble_eq_true rfl) ⟨Nat.le_of_ble_eq_true rfl, Nat.le_of_ble_eq_true rfl, Nat.le_of_ble_eq_true rfl, Nat.le_of_ble_eq_true rfl⟩ (fun U hU hW => ⟨hE.go hW hU hS, by rw [hU]; exact hP, hD⟩) ?_
        have ho13 := o6 j2 (by omega)
        exact k_retWI hx hb hr hlocks d_FK_process_66 hP hD hS (by first | rfl | (simp [sp_process, inr, req, wit, eIA, eIS, eUO, eNS, hq1, hq6]; done) | (simp [sp_process, inr, req, wit, eIA, eIS, eUO, eNS, hq1, hq6]; rfl) | (simp [sp_process, inr, req, wit, eIA, eIS, eUO, eNS, hq1, hq6]; done) | (simp [sp_process, inr, req, wit, eIA, eIS, eUO, eNS, hq1, hq6]; rfl) | (simp only [sp_process, inr, req, wit, eIA, eIS, eUO, eNS, hq1, hq6]; rfl))
      · refine lv_tableIn (off := 56) (tgt := 67) hx hb d_FK_process_11 (by decide +kernel) (by decide +kernel) (by decide +kernel) (by decide) ?_
        refine lv_aload_n hx hb d_FK_process_67 rfl (lv_at hl 0 rfl) ?_
        refine va_get (D := D) (ci := nFK) (v := .ref (ad 1)) (C := R_FK) (T := T_FK) (N := 4) hx hb hts i_FK hown hK hP 0 rfl rfl 0 (by decide) (hts _ tw_116) (fun _ h9 => h9) rfl d_FK_process_68 ?_
        refine lv_iload_n hx hb d_FK_process_71 rfl (lv_at hl 1 rfl) ?_
        refine k_callR (k_atV (As := [.int (nI j2)]) hx hb hown hE.1 (K0.w tw_449) (hts _ tw_446) (hts _ tw_447) (hts _ tw_448) (hts _ tw_2) (by decide) np_Mem_pagesOf (va_recv hK hP (ci := nMem) (q0 := 1) rfl rfl) rfl d_FK_process_72) (c_Mem_pagesOf K0 ad r σ j2 (by omega) ok.b1) (hl.1.trans hml.symm) (Nat.le_of_ble_eq_true rfl) ⟨Nat.le_of_ble_eq_true rfl, Nat.le_of_ble_eq_true rfl, Nat.le_of_ble_eq_true rfl, Nat.le_of_ble_eq_true rfl⟩ (fun U hU hW => ⟨hE.go hW hU hS, by rw [hU]; exact hP, hD⟩) ?_
        have hc14 : (owned σ j2) ≤ 20 := cnt_le _ _
        exact k_retWI hx hb hr hlocks d_FK_process_75 hP hD hS (by first | rfl | (simp [sp_process, inr, req, wit, eIA, eIS, eUO, eNS, hq1, hq6]; done) | (simp [sp_process, inr, req, wit, eIA, eIS, eUO, eNS, hq1, hq6]; rfl) | (simp [sp_process, inr, req, wit, eIA, eIS, eUO, eNS, hq1, hq6]; done) | (simp [sp_process, inr, req, wit, eIA, eIS, eUO, eNS, hq1, hq6]; rfl) | (simp only [sp_process, inr, req, wit, eIA, eIS, eUO, eNS, hq1, hq6]; rfl))
      · refine lv_tableOut (tgt := 76) hx hb d_FK_process_11 (by decide +kernel) (by decide) ?_
        refine lv_aload_n hx hb d_FK_process_76 rfl (lv_at hl 0 rfl) ?_
        refine va_get (D := D) (ci := nFK) (v := .ref (ad 2)) (C := R_FK) (T := T_FK) (N := 4) hx hb hts i_FK hown hK hP 0 rfl rfl 1 (by decide) (hts _ tw_117) (fun _ h9 => h9) rfl d_FK_process_77 ?_
        refine lv_iload_n hx hb d_FK_process_80 rfl (lv_at hl 1 rfl) ?_
        refine k_callR (k_atV (As := [.int (nI j2)]) hx hb hown hE.1 (K0.w tw_429) (hts _ tw_426) (hts _ tw_427) (hts _ tw_428) (hts _ tw_3) (by decide) np_Pro_descriptorsInUse (va_recv hK hP (ci := nPro) (q0 := 2) rfl rfl) rfl d_FK_process_81) (c_Pro_descriptorsInUse K0 ad r σ j2 (by omega) ok.b7) (hl.1.trans hml.symm) (Nat.le_of_ble_eq_true rfl) ⟨Nat.le_of_ble_eq_true rfl, Nat.le_of_ble_eq_true rfl, Nat.le_of_ble_eq_true rfl, Nat.le_of_ble_eq_true rfl⟩ (fun U hU hW => ⟨hE.go hW hU hS, by rw [hU]; exact hP, hD⟩) ?_
        have hc15 : (inuse σ j2) ≤ 4 := cnt_le _ _
        exact k_retWI hx hb hr hlocks d_FK_process_84 hP hD hS (by first | rfl | (simp [sp_process, inr, req, wit, eIA, eIS, eUO, eNS, hq1, hq6]; done) | (simp [sp_process, inr, req, wit, eIA, eIS, eUO, eNS, hq1, hq6]; rfl) | (simp [sp_process, inr, req, wit, eIA, eIS, eUO, eNS, hq1, hq6]; done) | (simp [sp_process, inr, req, wit, eIA, eIS, eUO, eNS, hq1, hq6]; rfl) | (simp only [sp_process, inr, req, wit, eIA, eIS, eUO, eNS, hq1, hq6]; rfl))
set_option maxHeartbeats 4000000 in
set_option maxRecDepth 100000 in
theorem c_FK_page {l : Launch} {s0 : State} {a0 : Array Value} {D : va_G} {cI cL : ClassId} (K0 : k0 l s0 a0 D cI cL) (ad : Nat → Nat) (r : va_W) (σ : kS) (x : Int32) (y : Int32) (ok : kOk σ) : kMet l y_FK_page (Cond.code y_FK_page b_FK_page 3 (some .int)) (rmL 8) [.ref (ad 0), .int x, .int y] (kPre D vwCl s0 (wC ad cI r) σ) (sp_page σ x y) (kBw D vwCl s0 (wC ad cI r)) := by
  refine k_of (by decide) (Nat.le_of_ble_eq_true rfl) ?_
  intro p e9 s m below meth c hx hb hr hlocks hown hml hex hpre ls hl
  obtain ⟨hE, hP, hD⟩ := hpre
  obtain ⟨hts, hK⟩ := K0.at (args := ([.ref (ad 0), .int x, .int y] : List Value).toArray) hE
  have hl : lv_has ls 3 [(0, .ref (ad 0)), (1, .int x), (2, .int y)] := hl
  have hS : va_S (kA s0) s.heap s.heap [] := va_S.rf
  obtain ⟨o1, o2, o3, o4, o5, o6, o7, o8, o9, o10, o0, ⟨oc1, oc2⟩, oc3, or6⟩ := id ok
  have hr0 : σ.1 6 (σ.1 11 0) ≠ 0 := or6 _ oc2 (by omega)
  have hr1 : σ.1 6 (σ.1 11 0) < 21 := o6 _ oc2
  refine lv_iload_n hx hb d_FK_page_0 rfl (lv_at hl 1 rfl) ?_
  rcases hq1 : rg x 0 19 with _ | j2
  · exact k_callE (k_atS (As := [.int x]) hx hb hown hE.1 (K0.w tw_215) rfl k_w9 (hts _ tw_213) (hts _ tw_214) (hts _ tw_1) (by decide) np_FK_checkPage rfl d_FK_page_1) (kn_n hq1 (c_FK_checkPage K0 ad r σ x)) (hl.1.trans hml.symm) (Nat.le_of_ble_eq_true rfl) ⟨Nat.le_of_ble_eq_true rfl, Nat.le_of_ble_eq_true rfl, Nat.le_of_ble_eq_true rfl, Nat.le_of_ble_eq_true rfl⟩ (fun U hU hW => ⟨hE.go hW hU hS, by rw [hU]; exact hP, hD⟩) hex hlocks (by first | rfl | (simp [sp_page, inr, req, wit, eIA, eIS, eUO, eNS, hq1]; done) | (simp [sp_page, inr, req, wit, eIA, eIS, eUO, eNS, hq1]; rfl) | (simp [sp_page, inr, req, wit, eIA, eIS, eUO, eNS, hq1]; done) | (simp [sp_page, inr, req, wit, eIA, eIS, eUO, eNS, hq1]; rfl) | (simp only [sp_page, inr, req, wit, eIA, eIS, eUO, eNS, hq1]; rfl))
  · refine k_callR (k_atS (As := [.int x]) hx hb hown hE.1 (K0.w tw_215) rfl k_w9 (hts _ tw_213) (hts _ tw_214) (hts _ tw_1) (by decide) np_FK_checkPage rfl d_FK_page_1) (kn_s hq1 (c_FK_checkPage K0 ad r σ x)) (hl.1.trans hml.symm) (Nat.le_of_ble_eq_true rfl) ⟨Nat.le_of_ble_eq_true rfl, Nat.le_of_ble_eq_true rfl, Nat.le_of_ble_eq_true rfl, Nat.le_of_ble_eq_true rfl⟩ (fun U hU hW => ⟨hE.go hW hU hS, by rw [hU]; exact hP, hD⟩) ?_
    obtain ⟨rfl, ha3, hb_4, hc_5⟩ := rg_some hq1
    refine lv_iload_n hx hb d_FK_page_4 rfl (lv_at hl 2 rfl) ?_
    refine lv_iconst (v := (nI 0)) hx hb d_FK_page_5 (by decide) ?_
    refine lv_iconst (v := (nI 2)) hx hb d_FK_page_6 (by decide) ?_
    rcases hq6 : rg y 0 2 with _ | j7
    · exact k_callE (k_atS (As := [.int y, .int (nI 0), .int (nI 2)]) hx hb hown hE.1 (K0.w tw_143) rfl k_w9 (hts _ tw_141) (hts _ tw_142) (hts _ tw_1) (by decide) np_FK_checkWithin rfl d_FK_page_7) (kn_n hq6 (c_FK_checkWithin K0 ad r σ y 0 2 (by decide) (by decide))) (hl.1.trans hml.symm) (Nat.le_of_ble_eq_true rfl) ⟨Nat.le_of_ble_eq_true rfl, Nat.le_of_ble_eq_true rfl, Nat.le_of_ble_eq_true rfl, Nat.le_of_ble_eq_true rfl⟩ (fun U hU hW => ⟨hE.go hW hU hS, by rw [hU]; exact hP, hD⟩) hex hlocks (by first | rfl | (simp [sp_page, inr, req, wit, eIA, eIS, eUO, eNS, hq1, hq6]; done) | (simp [sp_page, inr, req, wit, eIA, eIS, eUO, eNS, hq1, hq6]; rfl) | (simp [sp_page, inr, req, wit, eIA, eIS, eUO, eNS, hq1, hq6]; done) | (simp [sp_page, inr, req, wit, eIA, eIS, eUO, eNS, hq1, hq6]; rfl) | (simp only [sp_page, inr, req, wit, eIA, eIS, eUO, eNS, hq1, hq6]; rfl))
    · refine k_callR (k_atS (As := [.int y, .int (nI 0), .int (nI 2)]) hx hb hown hE.1 (K0.w tw_143) rfl k_w9 (hts _ tw_141) (hts _ tw_142) (hts _ tw_1) (by decide) np_FK_checkWithin rfl d_FK_page_7) (kn_s hq6 (c_FK_checkWithin K0 ad r σ y 0 2 (by decide) (by decide))) (hl.1.trans hml.symm) (Nat.le_of_ble_eq_true rfl) ⟨Nat.le_of_ble_eq_true rfl, Nat.le_of_ble_eq_true rfl, Nat.le_of_ble_eq_true rfl, Nat.le_of_ble_eq_true rfl⟩ (fun U hU hW => ⟨hE.go hW hU hS, by rw [hU]; exact hP, hD⟩) ?_
      obtain ⟨rfl, ha8, hb_9, hc_10⟩ := rg_some hq6
      refine lv_iload_n hx hb d_FK_page_10 rfl (lv_at hl 2 rfl) ?_
      rcases (show j7 = 0 ∨ j7 = 1 ∨ j7 = 2 by omega) with rfl | rfl | rfl
      · refine lv_lookup (off := 25) (tgt := 36) hx hb d_FK_page_11 (by decide +kernel) (by decide +kernel) (by decide) ?_
        refine lv_aload_n hx hb d_FK_page_36 rfl (lv_at hl 0 rfl) ?_
        refine va_get (D := D) (ci := nFK) (v := .ref (ad 1)) (C := R_FK) (T := T_FK) (N := 4) hx hb hts i_FK hown hK hP 0 rfl rfl 0 (by decide) (hts _ tw_116) (fun _ h9 => h9) rfl d_FK_page_37 ?_
        refine lv_iload_n hx hb d_FK_page_40 rfl (lv_at hl 1 rfl) ?_
        refine k_callR (k_atV (As := [.int (nI j2)]) hx hb hown hE.1 (K0.w tw_243) (hts _ tw_240) (hts _ tw_241) (hts _ tw_242) (hts _ tw_2) (by decide) np_Mem_kindOf (va_recv hK hP (ci := nMem) (q0 := 1) rfl rfl) rfl d_FK_page_41) (c_Mem_kindOf K0 ad r σ j2 (by omega)) (hl.1.trans hml.symm) (Nat.le_of_ble_eq_true rfl) ⟨Nat.le_of_ble_eq_true rfl, Nat.le_of_ble_eq_true rfl, Nat.le_of_ble_eq_true rfl, Nat.le_of_ble_eq_true rfl⟩ (fun U hU hW => ⟨hE.go hW hU hS, by rw [hU]; exact hP, hD⟩) ?_
        have ho11 := o0 j2 (by omega)
        exact k_retWI hx hb hr hlocks d_FK_page_44 hP hD hS (by first | rfl | (simp [sp_page, inr, req, wit, eIA, eIS, eUO, eNS, hq1, hq6]; done) | (simp [sp_page, inr, req, wit, eIA, eIS, eUO, eNS, hq1, hq6]; rfl) | (simp [sp_page, inr, req, wit, eIA, eIS, eUO, eNS, hq1, hq6]; done) | (simp [sp_page, inr, req, wit, eIA, eIS, eUO, eNS, hq1, hq6]; rfl) | (simp only [sp_page, inr, req, wit, eIA, eIS, eUO, eNS, hq1, hq6]; rfl))
      · refine lv_lookup (off := 34) (tgt := 45) hx hb d_FK_page_11 (by decide +kernel) (by decide +kernel) (by decide) ?_
        refine lv_aload_n hx hb d_FK_page_45 rfl (lv_at hl 0 rfl) ?_
        refine va_get (D := D) (ci := nFK) (v := .ref (ad 1)) (C := R_FK) (T := T_FK) (N := 4) hx hb hts i_FK hown hK hP 0 rfl rfl 0 (by decide) (hts _ tw_116) (fun _ h9 => h9) rfl d_FK_page_46 ?_
        refine lv_iload_n hx hb d_FK_page_49 rfl (lv_at hl 1 rfl) ?_
        refine k_callR (k_atV (As := [.int (nI j2)]) hx hb hown hE.1 (K0.w tw_270) (hts _ tw_267) (hts _ tw_268) (hts _ tw_269) (hts _ tw_2) (by decide) np_Mem_ownerOf (va_recv hK hP (ci := nMem) (q0 := 1) rfl rfl) rfl d_FK_page_50) (c_Mem_ownerOf K0 ad r σ j2 (by omega)) (hl.1.trans hml.symm) (Nat.le_of_ble_eq_true rfl) ⟨Nat.le_of_ble_eq_true rfl, Nat.le_of_ble_eq_true rfl, Nat.le_of_ble_eq_true rfl, Nat.le_of_ble_eq_true rfl⟩ (fun U hU hW => ⟨hE.go hW hU hS, by rw [hU]; exact hP, hD⟩) ?_
        have ho12 := o1 j2 (by omega)
        exact k_retWI hx hb hr hlocks d_FK_page_53 hP hD hS (by first | rfl | (simp [sp_page, inr, req, wit, eIA, eIS, eUO, eNS, hq1, hq6]; done) | (simp [sp_page, inr, req, wit, eIA, eIS, eUO, eNS, hq1, hq6]; rfl) | (simp [sp_page, inr, req, wit, eIA, eIS, eUO, eNS, hq1, hq6]; done) | (simp [sp_page, inr, req, wit, eIA, eIS, eUO, eNS, hq1, hq6]; rfl) | (simp only [sp_page, inr, req, wit, eIA, eIS, eUO, eNS, hq1, hq6]; rfl))
      · refine lv_lookup (off := 43) (tgt := 54) hx hb d_FK_page_11 (by decide +kernel) (by decide +kernel) (by decide) ?_
        refine lv_aload_n hx hb d_FK_page_54 rfl (lv_at hl 0 rfl) ?_
        refine va_get (D := D) (ci := nFK) (v := .ref (ad 1)) (C := R_FK) (T := T_FK) (N := 4) hx hb hts i_FK hown hK hP 0 rfl rfl 0 (by decide) (hts _ tw_116) (fun _ h9 => h9) rfl d_FK_page_55 ?_
        refine lv_iload_n hx hb d_FK_page_58 rfl (lv_at hl 1 rfl) ?_
        refine k_callR (k_atV (As := [.int (nI j2)]) hx hb hown hE.1 (K0.w tw_371) (hts _ tw_368) (hts _ tw_369) (hts _ tw_370) (hts _ tw_2) (by decide) np_Mem_filledEntries (va_recv hK hP (ci := nMem) (q0 := 1) rfl rfl) rfl d_FK_page_59) (c_Mem_filledEntries K0 ad r σ j2 (by omega) ok.b2) (hl.1.trans hml.symm) (Nat.le_of_ble_eq_true rfl) ⟨Nat.le_of_ble_eq_true rfl, Nat.le_of_ble_eq_true rfl, Nat.le_of_ble_eq_true rfl, Nat.le_of_ble_eq_true rfl⟩ (fun U hU hW => ⟨hE.go hW hU hS, by rw [hU]; exact hP, hD⟩) ?_
        have hc13 : (filled σ j2) ≤ 4 := cnt_le _ _
        exact k_retWI hx hb hr hlocks d_FK_page_62 hP hD hS (by first | rfl | (simp [sp_page, inr, req, wit, eIA, eIS, eUO, eNS, hq1, hq6]; done) | (simp [sp_page, inr, req, wit, eIA, eIS, eUO, eNS, hq1, hq6]; rfl) | (simp [sp_page, inr, req, wit, eIA, eIS, eUO, eNS, hq1, hq6]; done) | (simp [sp_page, inr, req, wit, eIA, eIS, eUO, eNS, hq1, hq6]; rfl) | (simp only [sp_page, inr, req, wit, eIA, eIS, eUO, eNS, hq1, hq6]; rfl))
set_option maxHeartbeats 4000000 in
set_option maxRecDepth 100000 in
theorem c_FK_count {l : Launch} {s0 : State} {a0 : Array Value} {D : va_G} {cI cL : ClassId} (K0 : k0 l s0 a0 D cI cL) (ad : Nat → Nat) (r : va_W) (σ : kS) (y : Int32) (ok : kOk σ) : kMet l y_FK_count (Cond.code y_FK_count b_FK_count 2 (some .int)) (rmL 7) [.ref (ad 0), .int y] (kPre D vwCl s0 (wC ad cI r) σ) (sp_count σ y) (kBw D vwCl s0 (wC ad cI r)) := by
  refine k_of (by decide) (Nat.le_of_ble_eq_true rfl) ?_
  intro p e9 s m below meth c hx hb hr hlocks hown hml hex hpre ls hl
  obtain ⟨hE, hP, hD⟩ := hpre
  obtain ⟨hts, hK⟩ := K0.at (args := ([.ref (ad 0), .int y] : List Value).toArray) hE
  have hl : lv_has ls 2 [(0, .ref (ad 0)), (1, .int y)] := hl
  have hS : va_S (kA s0) s.heap s.heap [] := va_S.rf
  obtain ⟨o1, o2, o3, o4, o5, o6, o7, o8, o9, o10, o0, ⟨oc1, oc2⟩, oc3, or6⟩ := id ok
  have hr0 : σ.1 6 (σ.1 11 0) ≠ 0 := or6 _ oc2 (by omega)
  have hr1 : σ.1 6 (σ.1 11 0) < 21 := o6 _ oc2
  refine lv_iload_n hx hb d_FK_count_0 rfl (lv_at hl 1 rfl) ?_
  refine lv_iconst (v := (nI 0)) hx hb d_FK_count_1 (by decide) ?_
  refine lv_iconst (v := (nI 3)) hx hb d_FK_count_2 (by decide) ?_
  rcases hq1 : rg y 0 3 with _ | j2
  · exact k_callE (k_atS (As := [.int y, .int (nI 0), .int (nI 3)]) hx hb hown hE.1 (K0.w tw_143) rfl k_w9 (hts _ tw_141) (hts _ tw_142) (hts _ tw_1) (by decide) np_FK_checkWithin rfl d_FK_count_3) (kn_n hq1 (c_FK_checkWithin K0 ad r σ y 0 3 (by decide) (by decide))) (hl.1.trans hml.symm) (Nat.le_of_ble_eq_true rfl) ⟨Nat.le_of_ble_eq_true rfl, Nat.le_of_ble_eq_true rfl, Nat.le_of_ble_eq_true rfl, Nat.le_of_ble_eq_true rfl⟩ (fun U hU hW => ⟨hE.go hW hU hS, by rw [hU]; exact hP, hD⟩) hex hlocks (by first | rfl | (simp [sp_count, inr, req, wit, eIA, eIS, eUO, eNS, hq1]; done) | (simp [sp_count, inr, req, wit, eIA, eIS, eUO, eNS, hq1]; rfl) | (simp [sp_count, inr, req, wit, eIA, eIS, eUO, eNS, hq1]; done) | (simp [sp_count, inr, req, wit, eIA, eIS, eUO, eNS, hq1]; rfl) | (simp only [sp_count, inr, req, wit, eIA, eIS, eUO, eNS, hq1]; rfl))
  · refine k_callR (k_atS (As := [.int y, .int (nI 0), .int (nI 3)]) hx hb hown hE.1 (K0.w tw_143) rfl k_w9 (hts _ tw_141) (hts _ tw_142) (hts _ tw_1) (by decide) np_FK_checkWithin rfl d_FK_count_3) (kn_s hq1 (c_FK_checkWithin K0 ad r σ y 0 3 (by decide) (by decide))) (hl.1.trans hml.symm) (Nat.le_of_ble_eq_true rfl) ⟨Nat.le_of_ble_eq_true rfl, Nat.le_of_ble_eq_true rfl, Nat.le_of_ble_eq_true rfl, Nat.le_of_ble_eq_true rfl⟩ (fun U hU hW => ⟨hE.go hW hU hS, by rw [hU]; exact hP, hD⟩) ?_
    obtain ⟨rfl, ha3, hb_4, hc_5⟩ := rg_some hq1
    refine lv_iload_n hx hb d_FK_count_6 rfl (lv_at hl 1 rfl) ?_
    rcases (show j2 = 0 ∨ j2 = 1 ∨ j2 = 2 ∨ j2 = 3 by omega) with rfl | rfl | rfl | rfl
    · refine lv_tableIn (off := 25) (tgt := 32) hx hb d_FK_count_7 (by decide +kernel) (by decide +kernel) (by decide +kernel) (by decide) ?_
      refine lv_aload_n hx hb d_FK_count_32 rfl (lv_at hl 0 rfl) ?_
      refine va_get (D := D) (ci := nFK) (v := .int (nI (σ.1 11 0))) (C := R_FK) (T := T_FK) (N := 4) hx hb hts i_FK hown hK hP 0 rfl rfl 3 (by decide) (hts _ tw_119) (fun _ h9 => h9) rfl d_FK_count_33 ?_
      exact k_retWI hx hb hr hlocks d_FK_count_36 hP hD hS (by first | rfl | (simp [sp_count, inr, req, wit, eIA, eIS, eUO, eNS, hq1]; done) | (simp [sp_count, inr, req, wit, eIA, eIS, eUO, eNS, hq1]; rfl) | (simp [sp_count, inr, req, wit, eIA, eIS, eUO, eNS, hq1]; done) | (simp [sp_count, inr, req, wit, eIA, eIS, eUO, eNS, hq1]; rfl) | (simp only [sp_count, inr, req, wit, eIA, eIS, eUO, eNS, hq1]; rfl))
    · refine lv_tableIn (off := 30) (tgt := 37) hx hb d_FK_count_7 (by decide +kernel) (by decide +kernel) (by decide +kernel) (by decide) ?_
      refine lv_aload_n hx hb d_FK_count_37 rfl (lv_at hl 0 rfl) ?_
      refine va_get (D := D) (ci := nFK) (v := .ref (ad 1)) (C := R_FK) (T := T_FK) (N := 4) hx hb hts i_FK hown hK hP 0 rfl rfl 0 (by decide) (hts _ tw_116) (fun _ h9 => h9) rfl d_FK_count_38 ?_
      refine lv_iconst (v := (nI 0)) hx hb d_FK_count_41 (by decide) ?_
      refine k_callR (k_atV (As := [.int (nI 0)]) hx hb hown hE.1 (K0.w tw_449) (hts _ tw_446) (hts _ tw_447) (hts _ tw_448) (hts _ tw_2) (by decide) np_Mem_pagesOf (va_recv hK hP (ci := nMem) (q0 := 1) rfl rfl) rfl d_FK_count_42) (c_Mem_pagesOf K0 ad r σ 0 (by omega) ok.b1) (hl.1.trans hml.symm) (Nat.le_of_ble_eq_true rfl) ⟨Nat.le_of_ble_eq_true rfl, Nat.le_of_ble_eq_true rfl, Nat.le_of_ble_eq_true rfl, Nat.le_of_ble_eq_true rfl⟩ (fun U hU hW => ⟨hE.go hW hU hS, by rw [hU]; exact hP, hD⟩) ?_
      have hc6 : (owned σ 0) ≤ 20 := cnt_le _ _
      exact k_retWI hx hb hr hlocks d_FK_count_45 hP hD hS (by first | rfl | (simp [sp_count, inr, req, wit, eIA, eIS, eUO, eNS, hq1]; done) | (simp [sp_count, inr, req, wit, eIA, eIS, eUO, eNS, hq1]; rfl) | (simp [sp_count, inr, req, wit, eIA, eIS, eUO, eNS, hq1]; done) | (simp [sp_count, inr, req, wit, eIA, eIS, eUO, eNS, hq1]; rfl) | (simp only [sp_count, inr, req, wit, eIA, eIS, eUO, eNS, hq1]; rfl))
    · refine lv_tableIn (off := 39) (tgt := 46) hx hb d_FK_count_7 (by decide +kernel) (by decide +kernel) (by decide +kernel) (by decide) ?_
      refine lv_aload_n hx hb d_FK_count_46 rfl (lv_at hl 0 rfl) ?_
      refine va_get (D := D) (ci := nFK) (v := .ref (ad 2)) (C := R_FK) (T := T_FK) (N := 4) hx hb hts i_FK hown hK hP 0 rfl rfl 1 (by decide) (hts _ tw_117) (fun _ h9 => h9) rfl d_FK_count_47 ?_
      refine k_callR (k_atV (As := []) hx hb hown hE.1 (K0.w tw_644) (hts _ tw_641) (hts _ tw_642) (hts _ tw_643) (hts _ tw_3) (by decide) np_Pro_notFree (va_recv hK hP (ci := nPro) (q0 := 2) rfl rfl) rfl d_FK_count_50) (c_Pro_notFree K0 ad r σ   ok.b4) (hl.1.trans hml.symm) (Nat.le_of_ble_eq_true rfl) ⟨Nat.le_of_ble_eq_true rfl, Nat.le_of_ble_eq_true rfl, Nat.le_of_ble_eq_true rfl, Nat.le_of_ble_eq_true rfl⟩ (fun U hU hW => ⟨hE.go hW hU hS, by rw [hU]; exact hP, hD⟩) ?_
      have hc7 : (live σ) ≤ 6 := cnt_le _ _
      exact k_retWI hx hb hr hlocks d_FK_count_53 hP hD hS (by first | rfl | (simp [sp_count, inr, req, wit, eIA, eIS, eUO, eNS, hq1]; done) | (simp [sp_count, inr, req, wit, eIA, eIS, eUO, eNS, hq1]; rfl) | (simp [sp_count, inr, req, wit, eIA, eIS, eUO, eNS, hq1]; done) | (simp [sp_count, inr, req, wit, eIA, eIS, eUO, eNS, hq1]; rfl) | (simp only [sp_count, inr, req, wit, eIA, eIS, eUO, eNS, hq1]; rfl))
    · refine lv_tableOut (tgt := 54) hx hb d_FK_count_7 (by decide +kernel) (by decide) ?_
      refine lv_aload_n hx hb d_FK_count_54 rfl (lv_at hl 0 rfl) ?_
      refine k_callR (k_atV (As := []) hx hb hown hE.1 (K0.w tw_648) (hts _ tw_645) (hts _ tw_647) (hts _ tw_9019) (hts _ tw_1) (by decide) np_FK_intsInOpenPipes (va_recv hK hP (ci := nFK) (q0 := 0) rfl rfl) rfl d_FK_count_55) (c_FK_intsInOpenPipes K0 ad r σ ok) (hl.1.trans hml.symm) (Nat.le_of_ble_eq_true rfl) ⟨Nat.le_of_ble_eq_true rfl, Nat.le_of_ble_eq_true rfl, Nat.le_of_ble_eq_true rfl, Nat.le_of_ble_eq_true rfl⟩ (fun U hU hW => ⟨hE.go hW hU hS, by rw [hU]; exact hP, hD⟩) ?_
      exact k_retWI hx hb hr hlocks d_FK_count_58 hP hD hS (by first | rfl | (simp [sp_count, inr, req, wit, eIA, eIS, eUO, eNS, hq1]; done) | (simp [sp_count, inr, req, wit, eIA, eIS, eUO, eNS, hq1]; rfl) | (simp [sp_count, inr, req, wit, eIA, eIS, eUO, eNS, hq1]; done) | (simp [sp_count, inr, req, wit, eIA, eIS, eUO, eNS, hq1]; rfl) | (simp only [sp_count, inr, req, wit, eIA, eIS, eUO, eNS, hq1]; rfl))
end
