/-! Names: printed by a program of mine (wip/gen/names.py) out of the class files' listing; ahead of them the skeleton's PART A. -/
/-- a private method of a class that the tables say can be made, by its rows of tables_1 -/
def lw_okq (q : MethodName × Nat) : Prop := (q.1.cls ≠ "java/lang/invoke/MethodHandle" ∧ q.1.cls ≠ "java/lang/invoke/VarHandle") ∧ Cond.instantiable q.1.cls q.2 ∈ tables_1 ∧ Cond.privateMethod q.1 ∈ tables_1 ∧ Cond.instanceMethod q.1 ∈ tables_1
theorem lw_p0 : lw_okq (⟨"java/lang/Throwable", "fillInStackTrace", "(I)Ljava/lang/Throwable;"⟩, 6) := ⟨⟨by decide +kernel, by decide +kernel⟩, List.mem_of_getElem? (i := 184) (by decide +kernel), List.mem_of_getElem? (i := 182) (by decide +kernel), List.mem_of_getElem? (i := 183) (by decide +kernel)⟩
theorem lw_p1 : lw_okq (⟨"FiniteKernel", "checkPageIsFree", "(I)V"⟩, 4) := ⟨⟨by decide +kernel, by decide +kernel⟩, List.mem_of_getElem? (i := 14) (by decide +kernel), List.mem_of_getElem? (i := 237) (by decide +kernel), List.mem_of_getElem? (i := 238) (by decide +kernel)⟩
theorem lw_p2 : lw_okq (⟨"FiniteKernel", "fillEntry", "(IIIII)I"⟩, 4) := ⟨⟨by decide +kernel, by decide +kernel⟩, List.mem_of_getElem? (i := 14) (by decide +kernel), List.mem_of_getElem? (i := 254) (by decide +kernel), List.mem_of_getElem? (i := 255) (by decide +kernel)⟩
theorem lw_p3 : lw_okq (⟨"FiniteKernel", "isMyPage", "(II)Z"⟩, 4) := ⟨⟨by decide +kernel, by decide +kernel⟩, List.mem_of_getElem? (i := 14) (by decide +kernel), List.mem_of_getElem? (i := 264) (by decide +kernel), List.mem_of_getElem? (i := 265) (by decide +kernel)⟩
theorem lw_p4 : lw_okq (⟨"FiniteKernel", "isMine", "(I)Z"⟩, 4) := ⟨⟨by decide +kernel, by decide +kernel⟩, List.mem_of_getElem? (i := 14) (by decide +kernel), List.mem_of_getElem? (i := 272) (by decide +kernel), List.mem_of_getElem? (i := 273) (by decide +kernel)⟩
theorem lw_p5 : lw_okq (⟨"FiniteKernel", "isMyChild", "(II)Z"⟩, 4) := ⟨⟨by decide +kernel, by decide +kernel⟩, List.mem_of_getElem? (i := 14) (by decide +kernel), List.mem_of_getElem? (i := 276) (by decide +kernel), List.mem_of_getElem? (i := 277) (by decide +kernel)⟩
theorem lw_p6 : lw_okq (⟨"FiniteKernel", "checkMyEntryIsFilled", "(II)V"⟩, 4) := ⟨⟨by decide +kernel, by decide +kernel⟩, List.mem_of_getElem? (i := 14) (by decide +kernel), List.mem_of_getElem? (i := 321) (by decide +kernel), List.mem_of_getElem? (i := 322) (by decide +kernel)⟩
theorem lw_p7 : lw_okq (⟨"FiniteKernel", "checkIsReady", "(I)V"⟩, 4) := ⟨⟨by decide +kernel, by decide +kernel⟩, List.mem_of_getElem? (i := 14) (by decide +kernel), List.mem_of_getElem? (i := 396) (by decide +kernel), List.mem_of_getElem? (i := 397) (by decide +kernel)⟩
theorem lw_p8 : lw_okq (⟨"FiniteKernel", "run", "(I)V"⟩, 4) := ⟨⟨by decide +kernel, by decide +kernel⟩, List.mem_of_getElem? (i := 14) (by decide +kernel), List.mem_of_getElem? (i := 401) (by decide +kernel), List.mem_of_getElem? (i := 402) (by decide +kernel)⟩
theorem lw_p9 : lw_okq (⟨"FiniteKernel", "handOverToNextReady", "()V"⟩, 4) := ⟨⟨by decide +kernel, by decide +kernel⟩, List.mem_of_getElem? (i := 14) (by decide +kernel), List.mem_of_getElem? (i := 413) (by decide +kernel), List.mem_of_getElem? (i := 414) (by decide +kernel)⟩
theorem lw_p10 : lw_okq (⟨"FiniteKernel", "isMyLivingChild", "(I)Z"⟩, 4) := ⟨⟨by decide +kernel, by decide +kernel⟩, List.mem_of_getElem? (i := 14) (by decide +kernel), List.mem_of_getElem? (i := 422) (by decide +kernel), List.mem_of_getElem? (i := 423) (by decide +kernel)⟩
theorem lw_p11 : lw_okq (⟨"FiniteKernel", "holdsMoreThanRoot", "(I)Z"⟩, 4) := ⟨⟨by decide +kernel, by decide +kernel⟩, List.mem_of_getElem? (i := 14) (by decide +kernel), List.mem_of_getElem? (i := 443) (by decide +kernel), List.mem_of_getElem? (i := 444) (by decide +kernel)⟩
theorem lw_p12 : lw_okq (⟨"FiniteKernel", "checkIsMine", "(I)V"⟩, 4) := ⟨⟨by decide +kernel, by decide +kernel⟩, List.mem_of_getElem? (i := 14) (by decide +kernel), List.mem_of_getElem? (i := 474) (by decide +kernel), List.mem_of_getElem? (i := 475) (by decide +kernel)⟩
theorem lw_p13 : lw_okq (⟨"FiniteKernel", "checkDescriptorIsUnused", "(II)V"⟩, 4) := ⟨⟨by decide +kernel, by decide +kernel⟩, List.mem_of_getElem? (i := 14) (by decide +kernel), List.mem_of_getElem? (i := 479) (by decide +kernel), List.mem_of_getElem? (i := 480) (by decide +kernel)⟩
theorem lw_p14 : lw_okq (⟨"FiniteKernel", "connect", "(III)I"⟩, 4) := ⟨⟨by decide +kernel, by decide +kernel⟩, List.mem_of_getElem? (i := 14) (by decide +kernel), List.mem_of_getElem? (i := 494) (by decide +kernel), List.mem_of_getElem? (i := 495) (by decide +kernel)⟩
theorem lw_p15 : lw_okq (⟨"FiniteKernel", "pipeBehind", "(II)I"⟩, 4) := ⟨⟨by decide +kernel, by decide +kernel⟩, List.mem_of_getElem? (i := 14) (by decide +kernel), List.mem_of_getElem? (i := 506) (by decide +kernel), List.mem_of_getElem? (i := 507) (by decide +kernel)⟩
def lw_privs_1 : List (MethodName × Nat) := [(⟨"java/lang/Throwable", "fillInStackTrace", "(I)Ljava/lang/Throwable;"⟩, 6), (⟨"FiniteKernel", "checkPageIsFree", "(I)V"⟩, 4), (⟨"FiniteKernel", "fillEntry", "(IIIII)I"⟩, 4), (⟨"FiniteKernel", "isMyPage", "(II)Z"⟩, 4), (⟨"FiniteKernel", "isMine", "(I)Z"⟩, 4), (⟨"FiniteKernel", "isMyChild", "(II)Z"⟩, 4), (⟨"FiniteKernel", "checkMyEntryIsFilled", "(II)V"⟩, 4), (⟨"FiniteKernel", "checkIsReady", "(I)V"⟩, 4), (⟨"FiniteKernel", "run", "(I)V"⟩, 4), (⟨"FiniteKernel", "handOverToNextReady", "()V"⟩, 4), (⟨"FiniteKernel", "isMyLivingChild", "(I)Z"⟩, 4), (⟨"FiniteKernel", "holdsMoreThanRoot", "(I)Z"⟩, 4), (⟨"FiniteKernel", "checkIsMine", "(I)V"⟩, 4), (⟨"FiniteKernel", "checkDescriptorIsUnused", "(II)V"⟩, 4), (⟨"FiniteKernel", "connect", "(III)I"⟩, 4), (⟨"FiniteKernel", "pipeBehind", "(II)I"⟩, 4)]
theorem lw_r1 : ∀ q ∈ lw_privs_1, lw_okq q := List.forall_mem_cons.mpr ⟨lw_p0, List.forall_mem_cons.mpr ⟨lw_p1, List.forall_mem_cons.mpr ⟨lw_p2, List.forall_mem_cons.mpr ⟨lw_p3, List.forall_mem_cons.mpr ⟨lw_p4, List.forall_mem_cons.mpr ⟨lw_p5, List.forall_mem_cons.mpr ⟨lw_p6, List.forall_mem_cons.mpr ⟨lw_p7, List.forall_mem_cons.mpr ⟨lw_p8, List.forall_mem_cons.mpr ⟨lw_p9, List.forall_mem_cons.mpr ⟨lw_p10, List.forall_mem_cons.mpr ⟨lw_p11, List.forall_mem_cons.mpr ⟨lw_p12, List.forall_mem_cons.mpr ⟨lw_p13, List.forall_mem_cons.mpr ⟨lw_p14, List.forall_mem_cons.mpr ⟨lw_p15, fun _ h => absurd h List.not_mem_nil⟩⟩⟩⟩⟩⟩⟩⟩⟩⟩⟩⟩⟩⟩⟩⟩
theorem lw_p16 : lw_okq (⟨"FiniteKernel", "frameWithRight", "(II)I"⟩, 4) := ⟨⟨by decide +kernel, by decide +kernel⟩, List.mem_of_getElem? (i := 14) (by decide +kernel), List.mem_of_getElem? (i := 528) (by decide +kernel), List.mem_of_getElem? (i := 529) (by decide +kernel)⟩
theorem lw_p17 : lw_okq (⟨"FiniteKernel", "frameAt", "(I)I"⟩, 4) := ⟨⟨by decide +kernel, by decide +kernel⟩, List.mem_of_getElem? (i := 14) (by decide +kernel), List.mem_of_getElem? (i := 532) (by decide +kernel), List.mem_of_getElem? (i := 533) (by decide +kernel)⟩
theorem lw_p18 : lw_okq (⟨"FiniteKernel", "tableAt", "(I)I"⟩, 4) := ⟨⟨by decide +kernel, by decide +kernel⟩, List.mem_of_getElem? (i := 14) (by decide +kernel), List.mem_of_getElem? (i := 536) (by decide +kernel), List.mem_of_getElem? (i := 537) (by decide +kernel)⟩
theorem lw_p19 : lw_okq (⟨"FiniteKernel", "intsInOpenPipes", "()I"⟩, 4) := ⟨⟨by decide +kernel, by decide +kernel⟩, List.mem_of_getElem? (i := 14) (by decide +kernel), List.mem_of_getElem? (i := 646) (by decide +kernel), List.mem_of_getElem? (i := 647) (by decide +kernel)⟩
theorem lw_p20 : lw_okq (⟨"FiniteKernelModel", "raise", "(I)I"⟩, 15) := ⟨⟨by decide +kernel, by decide +kernel⟩, List.mem_of_getElem? (i := 650) (by decide +kernel), List.mem_of_getElem? (i := 719) (by decide +kernel), List.mem_of_getElem? (i := 720) (by decide +kernel)⟩
theorem lw_p21 : lw_okq (⟨"FiniteKernelModel", "become", "(III)V"⟩, 15) := ⟨⟨by decide +kernel, by decide +kernel⟩, List.mem_of_getElem? (i := 650) (by decide +kernel), List.mem_of_getElem? (i := 723) (by decide +kernel), List.mem_of_getElem? (i := 724) (by decide +kernel)⟩
theorem lw_p22 : lw_okq (⟨"FiniteKernelModel", "hang", "(IIIII)I"⟩, 15) := ⟨⟨by decide +kernel, by decide +kernel⟩, List.mem_of_getElem? (i := 650) (by decide +kernel), List.mem_of_getElem? (i := 731) (by decide +kernel), List.mem_of_getElem? (i := 732) (by decide +kernel)⟩
theorem lw_p23 : lw_okq (⟨"FiniteKernelModel", "minePage", "(II)Z"⟩, 15) := ⟨⟨by decide +kernel, by decide +kernel⟩, List.mem_of_getElem? (i := 650) (by decide +kernel), List.mem_of_getElem? (i := 735) (by decide +kernel), List.mem_of_getElem? (i := 736) (by decide +kernel)⟩
theorem lw_p24 : lw_okq (⟨"FiniteKernelModel", "mine", "(I)Z"⟩, 15) := ⟨⟨by decide +kernel, by decide +kernel⟩, List.mem_of_getElem? (i := 650) (by decide +kernel), List.mem_of_getElem? (i := 739) (by decide +kernel), List.mem_of_getElem? (i := 740) (by decide +kernel)⟩
theorem lw_p25 : lw_okq (⟨"FiniteKernelModel", "holder", "(I)Z"⟩, 15) := ⟨⟨by decide +kernel, by decide +kernel⟩, List.mem_of_getElem? (i := 650) (by decide +kernel), List.mem_of_getElem? (i := 751) (by decide +kernel), List.mem_of_getElem? (i := 752) (by decide +kernel)⟩
theorem lw_p26 : lw_okq (⟨"FiniteKernelModel", "filled", "(I)I"⟩, 15) := ⟨⟨by decide +kernel, by decide +kernel⟩, List.mem_of_getElem? (i := 650) (by decide +kernel), List.mem_of_getElem? (i := 763) (by decide +kernel), List.mem_of_getElem? (i := 764) (by decide +kernel)⟩
theorem lw_p27 : lw_okq (⟨"FiniteKernelModel", "hand", "(II)I"⟩, 15) := ⟨⟨by decide +kernel, by decide +kernel⟩, List.mem_of_getElem? (i := 650) (by decide +kernel), List.mem_of_getElem? (i := 775) (by decide +kernel), List.mem_of_getElem? (i := 776) (by decide +kernel)⟩
theorem lw_p28 : lw_okq (⟨"FiniteKernelModel", "nextReady", "(I)I"⟩, 15) := ⟨⟨by decide +kernel, by decide +kernel⟩, List.mem_of_getElem? (i := 650) (by decide +kernel), List.mem_of_getElem? (i := 783) (by decide +kernel), List.mem_of_getElem? (i := 784) (by decide +kernel)⟩
theorem lw_p29 : lw_okq (⟨"FiniteKernelModel", "descriptors", "(I)I"⟩, 15) := ⟨⟨by decide +kernel, by decide +kernel⟩, List.mem_of_getElem? (i := 650) (by decide +kernel), List.mem_of_getElem? (i := 787) (by decide +kernel), List.mem_of_getElem? (i := 788) (by decide +kernel)⟩
theorem lw_p30 : lw_okq (⟨"FiniteKernelModel", "owned", "(I)I"⟩, 15) := ⟨⟨by decide +kernel, by decide +kernel⟩, List.mem_of_getElem? (i := 650) (by decide +kernel), List.mem_of_getElem? (i := 795) (by decide +kernel), List.mem_of_getElem? (i := 796) (by decide +kernel)⟩
theorem lw_p31 : lw_okq (⟨"FiniteKernelModel", "countOf", "(I)I"⟩, 15) := ⟨⟨by decide +kernel, by decide +kernel⟩, List.mem_of_getElem? (i := 650) (by decide +kernel), List.mem_of_getElem? (i := 803) (by decide +kernel), List.mem_of_getElem? (i := 804) (by decide +kernel)⟩
def lw_privs_2 : List (MethodName × Nat) := [(⟨"FiniteKernel", "frameWithRight", "(II)I"⟩, 4), (⟨"FiniteKernel", "frameAt", "(I)I"⟩, 4), (⟨"FiniteKernel", "tableAt", "(I)I"⟩, 4), (⟨"FiniteKernel", "intsInOpenPipes", "()I"⟩, 4), (⟨"FiniteKernelModel", "raise", "(I)I"⟩, 15), (⟨"FiniteKernelModel", "become", "(III)V"⟩, 15), (⟨"FiniteKernelModel", "hang", "(IIIII)I"⟩, 15), (⟨"FiniteKernelModel", "minePage", "(II)Z"⟩, 15), (⟨"FiniteKernelModel", "mine", "(I)Z"⟩, 15), (⟨"FiniteKernelModel", "holder", "(I)Z"⟩, 15), (⟨"FiniteKernelModel", "filled", "(I)I"⟩, 15), (⟨"FiniteKernelModel", "hand", "(II)I"⟩, 15), (⟨"FiniteKernelModel", "nextReady", "(I)I"⟩, 15), (⟨"FiniteKernelModel", "descriptors", "(I)I"⟩, 15), (⟨"FiniteKernelModel", "owned", "(I)I"⟩, 15), (⟨"FiniteKernelModel", "countOf", "(I)I"⟩, 15)]
theorem lw_r2 : ∀ q ∈ lw_privs_2, lw_okq q := List.forall_mem_cons.mpr ⟨lw_p16, List.forall_mem_cons.mpr ⟨lw_p17, List.forall_mem_cons.mpr ⟨lw_p18, List.forall_mem_cons.mpr ⟨lw_p19, List.forall_mem_cons.mpr ⟨lw_p20, List.forall_mem_cons.mpr ⟨lw_p21, List.forall_mem_cons.mpr ⟨lw_p22, List.forall_mem_cons.mpr ⟨lw_p23, List.forall_mem_cons.mpr ⟨lw_p24, List.forall_mem_cons.mpr ⟨lw_p25, List.forall_mem_cons.mpr ⟨lw_p26, List.forall_mem_cons.mpr ⟨lw_p27, List.forall_mem_cons.mpr ⟨lw_p28, List.forall_mem_cons.mpr ⟨lw_p29, List.forall_mem_cons.mpr ⟨lw_p30, List.forall_mem_cons.mpr ⟨lw_p31, fun _ h => absurd h List.not_mem_nil⟩⟩⟩⟩⟩⟩⟩⟩⟩⟩⟩⟩⟩⟩⟩⟩
theorem lw_p32 : lw_okq (⟨"FiniteKernelModel", "walk", "(II)I"⟩, 15) := ⟨⟨by decide +kernel, by decide +kernel⟩, List.mem_of_getElem? (i := 650) (by decide +kernel), List.mem_of_getElem? (i := 819) (by decide +kernel), List.mem_of_getElem? (i := 820) (by decide +kernel)⟩
theorem lw_p33 : lw_okq (⟨"FiniteKernelModel", "frameEntry", "(II)I"⟩, 15) := ⟨⟨by decide +kernel, by decide +kernel⟩, List.mem_of_getElem? (i := 650) (by decide +kernel), List.mem_of_getElem? (i := 823) (by decide +kernel), List.mem_of_getElem? (i := 824) (by decide +kernel)⟩
def lw_privs_3 : List (MethodName × Nat) := [(⟨"FiniteKernelModel", "walk", "(II)I"⟩, 15), (⟨"FiniteKernelModel", "frameEntry", "(II)I"⟩, 15)]
theorem lw_r3 : ∀ q ∈ lw_privs_3, lw_okq q := List.forall_mem_cons.mpr ⟨lw_p32, List.forall_mem_cons.mpr ⟨lw_p33, fun _ h => absurd h List.not_mem_nil⟩⟩
def lw_privs : List (MethodName × Nat) := lw_privs_1 ++ (lw_privs_2 ++ (lw_privs_3))
def lw_tbl : List Cond := k2_sels lw_privs ++ tables_1
theorem lw_privs_ok : ∀ q ∈ lw_privs, lw_okq q := by
  show ∀ q ∈ lw_privs_1 ++ (lw_privs_2 ++ (lw_privs_3)), lw_okq q
  exact List.forall_mem_append.mpr ⟨lw_r1, List.forall_mem_append.mpr ⟨lw_r2, lw_r3⟩⟩

def R_FK : String := "FiniteKernel"
def R_Mem : String := "FiniteKernel$Memory"
def R_Pro : String := "FiniteKernel$Processes"
def R_Pip : String := "FiniteKernel$Pipes"
def R_Mod : String := "FiniteKernelModel"
def R_Law : String := "FiniteKernelLaw"
def T_FK : u_T := fun k => match k with
  | 0 => ("FiniteKernel", "memory", "LFiniteKernel$Memory;", true)
  | 1 => ("FiniteKernel", "processes", "LFiniteKernel$Processes;", true)
  | 2 => ("FiniteKernel", "pipes", "LFiniteKernel$Pipes;", true)
  | _ => ("FiniteKernel", "caller", "I", false)
def ty_FK : Nat → FieldType := fun k => match k with
  | 0 => .object "FiniteKernel$Memory"
  | 1 => .object "FiniteKernel$Processes"
  | 2 => .object "FiniteKernel$Pipes"
  | _ => .int
theorem nm_FK : ∀ a, a < 4 → ∀ b, b < 4 → a ≠ b → (T_FK a).2.1 ≠ (T_FK b).2.1 := by decide +kernel
theorem ty_FK_ok : ∀ k, k < 4 → parseFieldDescriptor (T_FK k).2.2.1 = some (ty_FK k) := by decide +kernel
def T_Mem : u_T := fun k => match k with
  | 0 => ("FiniteKernel$Memory", "kinds", "[I", true)
  | 1 => ("FiniteKernel$Memory", "owners", "[I", true)
  | 2 => ("FiniteKernel$Memory", "entryPages", "[I", true)
  | 3 => ("FiniteKernel$Memory", "entryRights", "[I", true)
  | _ => ("FiniteKernel$Memory", "words", "[I", true)
def ty_Mem : Nat → FieldType := fun k => match k with
  | 0 => .array .int
  | 1 => .array .int
  | 2 => .array .int
  | 3 => .array .int
  | _ => .array .int
theorem nm_Mem : ∀ a, a < 5 → ∀ b, b < 5 → a ≠ b → (T_Mem a).2.1 ≠ (T_Mem b).2.1 := by decide +kernel
theorem ty_Mem_ok : ∀ k, k < 5 → parseFieldDescriptor (T_Mem k).2.2.1 = some (ty_Mem k) := by decide +kernel
def T_Pro : u_T := fun k => match k with
  | 0 => ("FiniteKernel$Processes", "states", "[I", true)
  | 1 => ("FiniteKernel$Processes", "parents", "[I", true)
  | 2 => ("FiniteKernel$Processes", "roots", "[I", true)
  | 3 => ("FiniteKernel$Processes", "descriptors", "[I", true)
  | 4 => ("FiniteKernel$Processes", "awaitedTables", "[I", true)
  | _ => ("FiniteKernel$Processes", "awaitedEntries", "[I", true)
def ty_Pro : Nat → FieldType := fun k => match k with
  | 0 => .array .int
  | 1 => .array .int
  | 2 => .array .int
  | 3 => .array .int
  | 4 => .array .int
  | _ => .array .int
theorem nm_Pro : ∀ a, a < 6 → ∀ b, b < 6 → a ≠ b → (T_Pro a).2.1 ≠ (T_Pro b).2.1 := by decide +kernel
theorem ty_Pro_ok : ∀ k, k < 6 → parseFieldDescriptor (T_Pro k).2.2.1 = some (ty_Pro k) := by decide +kernel
def T_Pip : u_T := fun k => match k with
  | 0 => ("FiniteKernel$Pipes", "sizes", "[I", true)
  | _ => ("FiniteKernel$Pipes", "ints", "[I", true)
def ty_Pip : Nat → FieldType := fun k => match k with
  | 0 => .array .int
  | _ => .array .int
theorem nm_Pip : ∀ a, a < 2 → ∀ b, b < 2 → a ≠ b → (T_Pip a).2.1 ≠ (T_Pip b).2.1 := by decide +kernel
theorem ty_Pip_ok : ∀ k, k < 2 → parseFieldDescriptor (T_Pip k).2.2.1 = some (ty_Pip k) := by decide +kernel
def T_Mod : u_T := fun k => match k with
  | 0 => ("FiniteKernelModel", "thrown", "I", false)
  | 1 => ("FiniteKernelModel", "state", "[I", true)
  | 2 => ("FiniteKernelModel", "parent", "[I", true)
  | 3 => ("FiniteKernelModel", "root", "[I", true)
  | 4 => ("FiniteKernelModel", "descriptor", "[I", true)
  | 5 => ("FiniteKernelModel", "expects", "[I", true)
  | 6 => ("FiniteKernelModel", "kind", "[I", true)
  | 7 => ("FiniteKernelModel", "owner", "[I", true)
  | 8 => ("FiniteKernelModel", "entry", "[I", true)
  | 9 => ("FiniteKernelModel", "rights", "[I", true)
  | 10 => ("FiniteKernelModel", "word", "[I", true)
  | 11 => ("FiniteKernelModel", "pipe", "[I", true)
  | 12 => ("FiniteKernelModel", "held", "[I", true)
  | 13 => ("FiniteKernelModel", "caller", "I", false)
  | _ => ("FiniteKernelModel", "wrong", "I", false)
def ty_Mod : Nat → FieldType := fun k => match k with
  | 0 => .int
  | 1 => .array .int
  | 2 => .array .int
  | 3 => .array .int
  | 4 => .array .int
  | 5 => .array .int
  | 6 => .array .int
  | 7 => .array .int
  | 8 => .array .int
  | 9 => .array .int
  | 10 => .array .int
  | 11 => .array .int
  | 12 => .array .int
  | 13 => .int
  | _ => .int
theorem nm_Mod : ∀ a, a < 15 → ∀ b, b < 15 → a ≠ b → (T_Mod a).2.1 ≠ (T_Mod b).2.1 := by decide +kernel
theorem ty_Mod_ok : ∀ k, k < 15 → parseFieldDescriptor (T_Mod k).2.2.1 = some (ty_Mod k) := by decide +kernel
abbrev b_FK_init : ByteArray := prog_1_method_1_code
def y_FK_init : MethodName := ⟨R_FK, "<init>", "()V"⟩
abbrev b_Mem_init : ByteArray := prog_2_method_1_code
def y_Mem_init : MethodName := ⟨R_Mem, "<init>", "()V"⟩
abbrev b_Mem_setFree : ByteArray := prog_2_method_3_code
def y_Mem_setFree : MethodName := ⟨R_Mem, "setFree", "(I)V"⟩
abbrev b_Mem_become : ByteArray := prog_2_method_2_code
def y_Mem_become : MethodName := ⟨R_Mem, "become", "(III)V"⟩
abbrev b_Mem_clearEntry : ByteArray := prog_2_method_10_code
def y_Mem_clearEntry : MethodName := ⟨R_Mem, "clearEntry", "(II)V"⟩
abbrev b_Mem_setEntry : ByteArray := prog_2_method_9_code
def y_Mem_setEntry : MethodName := ⟨R_Mem, "setEntry", "(IIII)V"⟩
abbrev b_Mem_setWord : ByteArray := prog_2_method_14_code
def y_Mem_setWord : MethodName := ⟨R_Mem, "setWord", "(III)V"⟩
abbrev b_Pro_init : ByteArray := prog_4_method_1_code
def y_Pro_init : MethodName := ⟨R_Pro, "<init>", "()V"⟩
abbrev b_Pro_end : ByteArray := prog_4_method_3_code
def y_Pro_end : MethodName := ⟨R_Pro, "end", "(I)V"⟩
abbrev b_Pro_begin : ByteArray := prog_4_method_2_code
def y_Pro_begin : MethodName := ⟨R_Pro, "begin", "(IIII)V"⟩
abbrev b_Pro_setPipe : ByteArray := prog_4_method_15_code
def y_Pro_setPipe : MethodName := ⟨R_Pro, "setPipe", "(III)V"⟩
abbrev b_Pip_init : ByteArray := prog_3_method_1_code
def y_Pip_init : MethodName := ⟨R_Pip, "<init>", "()V"⟩
abbrev b_Law_spawn : ByteArray := method_3_code
def y_Law_spawn : MethodName := ⟨R_Law, "spawn", "(LFiniteKernel;II[J)I"⟩
abbrev b_FK_spawn : ByteArray := prog_1_method_2_code
def y_FK_spawn : MethodName := ⟨R_FK, "spawn", "(II)I"⟩
abbrev b_FK_checkProcess : ByteArray := prog_1_method_25_code
def y_FK_checkProcess : MethodName := ⟨R_FK, "checkProcess", "(I)V"⟩
abbrev b_FK_checkWithin : ByteArray := prog_1_method_24_code
def y_FK_checkWithin : MethodName := ⟨R_FK, "checkWithin", "(III)V"⟩
abbrev b_FK_checkPage : ByteArray := prog_1_method_26_code
def y_FK_checkPage : MethodName := ⟨R_FK, "checkPage", "(I)V"⟩
abbrev b_Pro_stateOf : ByteArray := prog_4_method_4_code
def y_Pro_stateOf : MethodName := ⟨R_Pro, "stateOf", "(I)I"⟩
abbrev b_FK_checkPageIsFree : ByteArray := prog_1_method_42_code
def y_FK_checkPageIsFree : MethodName := ⟨R_FK, "checkPageIsFree", "(I)V"⟩
abbrev b_Mem_kindOf : ByteArray := prog_2_method_4_code
def y_Mem_kindOf : MethodName := ⟨R_Mem, "kindOf", "(I)I"⟩
abbrev b_Law_table : ByteArray := method_4_code
def y_Law_table : MethodName := ⟨R_Law, "table", "(LFiniteKernel;IIII[J)I"⟩
abbrev b_FK_table : ByteArray := prog_1_method_3_code
def y_FK_table : MethodName := ⟨R_FK, "table", "(IIII)I"⟩
abbrev b_FK_fillEntry : ByteArray := prog_1_method_45_code
def y_FK_fillEntry : MethodName := ⟨R_FK, "fillEntry", "(IIIII)I"⟩
abbrev b_FK_checkEntry : ByteArray := prog_1_method_27_code
def y_FK_checkEntry : MethodName := ⟨R_FK, "checkEntry", "(I)V"⟩
abbrev b_FK_checkRights : ByteArray := prog_1_method_28_code
def y_FK_checkRights : MethodName := ⟨R_FK, "checkRights", "(I)V"⟩
abbrev b_FK_isMyPage : ByteArray := prog_1_method_38_code
def y_FK_isMyPage : MethodName := ⟨R_FK, "isMyPage", "(II)Z"⟩
abbrev b_Mem_ownerOf : ByteArray := prog_2_method_5_code
def y_Mem_ownerOf : MethodName := ⟨R_Mem, "ownerOf", "(I)I"⟩
abbrev b_FK_isMine : ByteArray := prog_1_method_35_code
def y_FK_isMine : MethodName := ⟨R_FK, "isMine", "(I)Z"⟩
abbrev b_FK_isMyChild : ByteArray := prog_1_method_36_code
def y_FK_isMyChild : MethodName := ⟨R_FK, "isMyChild", "(II)Z"⟩
abbrev b_Pro_parentOf : ByteArray := prog_4_method_6_code
def y_Pro_parentOf : MethodName := ⟨R_Pro, "parentOf", "(I)I"⟩
abbrev b_Mem_pageIn : ByteArray := prog_2_method_7_code
def y_Mem_pageIn : MethodName := ⟨R_Mem, "pageIn", "(II)I"⟩
abbrev b_Law_frame : ByteArray := method_5_code
def y_Law_frame : MethodName := ⟨R_Law, "frame", "(LFiniteKernel;IIII[J)I"⟩
abbrev b_FK_frame : ByteArray := prog_1_method_4_code
def y_FK_frame : MethodName := ⟨R_FK, "frame", "(IIII)I"⟩
abbrev b_Law_protect : ByteArray := method_6_code
def y_Law_protect : MethodName := ⟨R_Law, "protect", "(LFiniteKernel;III[J)I"⟩
abbrev b_FK_protect : ByteArray := prog_1_method_5_code
def y_FK_protect : MethodName := ⟨R_FK, "protect", "(III)I"⟩
abbrev b_FK_checkMyEntryIsFilled : ByteArray := prog_1_method_44_code
def y_FK_checkMyEntryIsFilled : MethodName := ⟨R_FK, "checkMyEntryIsFilled", "(II)V"⟩
abbrev b_Mem_rightsIn : ByteArray := prog_2_method_8_code
def y_Mem_rightsIn : MethodName := ⟨R_Mem, "rightsIn", "(II)I"⟩
abbrev b_Law_copy : ByteArray := method_7_code
def y_Law_copy : MethodName := ⟨R_Law, "copy", "(LFiniteKernel;II[J)I"⟩
abbrev b_FK_copy : ByteArray := prog_1_method_6_code
def y_FK_copy : MethodName := ⟨R_FK, "copy", "(II)I"⟩
abbrev b_Mem_copyWords : ByteArray := prog_2_method_15_code
def y_Mem_copyWords : MethodName := ⟨R_Mem, "copyWords", "(II)V"⟩
abbrev b_Mem_word : ByteArray := prog_2_method_13_code
def y_Mem_word : MethodName := ⟨R_Mem, "word", "(II)I"⟩
abbrev b_Law_release : ByteArray := method_8_code
def y_Law_release : MethodName := ⟨R_Law, "release", "(LFiniteKernel;II[J)I"⟩
abbrev b_FK_release : ByteArray := prog_1_method_7_code
def y_FK_release : MethodName := ⟨R_FK, "release", "(II)I"⟩
abbrev b_Mem_filledEntries : ByteArray := prog_2_method_11_code
def y_Mem_filledEntries : MethodName := ⟨R_Mem, "filledEntries", "(I)I"⟩
abbrev b_Law_start : ByteArray := method_9_code
def y_Law_start : MethodName := ⟨R_Law, "start", "(LFiniteKernel;I[J)I"⟩
abbrev b_FK_start : ByteArray := prog_1_method_8_code
def y_FK_start : MethodName := ⟨R_FK, "start", "(I)I"⟩
abbrev b_Pro_setState : ByteArray := prog_4_method_5_code
def y_Pro_setState : MethodName := ⟨R_Pro, "setState", "(II)V"⟩
abbrev b_Law_give : ByteArray := method_10_code
def y_Law_give : MethodName := ⟨R_Law, "give", "(LFiniteKernel;I[J)I"⟩
abbrev b_FK_give : ByteArray := prog_1_method_9_code
def y_FK_give : MethodName := ⟨R_FK, "give", "(I)I"⟩
abbrev b_FK_checkIsReady : ByteArray := prog_1_method_41_code
def y_FK_checkIsReady : MethodName := ⟨R_FK, "checkIsReady", "(I)V"⟩
abbrev b_FK_run : ByteArray := prog_1_method_51_code
def y_FK_run : MethodName := ⟨R_FK, "run", "(I)V"⟩
abbrev b_Law_kill : ByteArray := method_11_code
def y_Law_kill : MethodName := ⟨R_Law, "kill", "(LFiniteKernel;I[J)I"⟩
abbrev b_FK_kill : ByteArray := prog_1_method_10_code
def y_FK_kill : MethodName := ⟨R_FK, "kill", "(I)I"⟩
abbrev b_FK_handOverToNextReady : ByteArray := prog_1_method_52_code
def y_FK_handOverToNextReady : MethodName := ⟨R_FK, "handOverToNextReady", "()V"⟩
abbrev b_Pro_nextReady : ByteArray := prog_4_method_11_code
def y_Pro_nextReady : MethodName := ⟨R_Pro, "nextReady", "(I)I"⟩
abbrev b_FK_isMyLivingChild : ByteArray := prog_1_method_37_code
def y_FK_isMyLivingChild : MethodName := ⟨R_FK, "isMyLivingChild", "(I)Z"⟩
abbrev b_Pro_descriptorsInUse : ByteArray := prog_4_method_16_code
def y_Pro_descriptorsInUse : MethodName := ⟨R_Pro, "descriptorsInUse", "(I)I"⟩
abbrev b_Pro_pipeOf : ByteArray := prog_4_method_14_code
def y_Pro_pipeOf : MethodName := ⟨R_Pro, "pipeOf", "(II)I"⟩
abbrev b_Law_reap : ByteArray := method_12_code
def y_Law_reap : MethodName := ⟨R_Law, "reap", "(LFiniteKernel;I[J)I"⟩
abbrev b_FK_reap : ByteArray := prog_1_method_11_code
def y_FK_reap : MethodName := ⟨R_FK, "reap", "(I)I"⟩
abbrev b_FK_holdsMoreThanRoot : ByteArray := prog_1_method_39_code
def y_FK_holdsMoreThanRoot : MethodName := ⟨R_FK, "holdsMoreThanRoot", "(I)Z"⟩
abbrev b_Mem_pagesOf : ByteArray := prog_2_method_12_code
def y_Mem_pagesOf : MethodName := ⟨R_Mem, "pagesOf", "(I)I"⟩
abbrev b_Pro_rootOf : ByteArray := prog_4_method_7_code
def y_Pro_rootOf : MethodName := ⟨R_Pro, "rootOf", "(I)I"⟩
abbrev b_Pro_moveChildren : ByteArray := prog_4_method_12_code
def y_Pro_moveChildren : MethodName := ⟨R_Pro, "moveChildren", "(II)I"⟩
abbrev b_Law_open : ByteArray := method_13_code
def y_Law_open : MethodName := ⟨R_Law, "open", "(LFiniteKernel;III[J)I"⟩
abbrev b_FK_open : ByteArray := prog_1_method_12_code
def y_FK_open : MethodName := ⟨R_FK, "open", "(III)I"⟩
abbrev b_FK_checkDescriptor : ByteArray := prog_1_method_29_code
def y_FK_checkDescriptor : MethodName := ⟨R_FK, "checkDescriptor", "(I)V"⟩
abbrev b_FK_checkPipe : ByteArray := prog_1_method_30_code
def y_FK_checkPipe : MethodName := ⟨R_FK, "checkPipe", "(I)V"⟩
abbrev b_FK_checkIsMine : ByteArray := prog_1_method_40_code
def y_FK_checkIsMine : MethodName := ⟨R_FK, "checkIsMine", "(I)V"⟩
abbrev b_FK_checkDescriptorIsUnused : ByteArray := prog_1_method_43_code
def y_FK_checkDescriptorIsUnused : MethodName := ⟨R_FK, "checkDescriptorIsUnused", "(II)V"⟩
abbrev b_Pro_descriptorsOfPipe : ByteArray := prog_4_method_17_code
def y_Pro_descriptorsOfPipe : MethodName := ⟨R_Pro, "descriptorsOfPipe", "(I)I"⟩
abbrev b_Pip_makeEmpty : ByteArray := prog_3_method_2_code
def y_Pip_makeEmpty : MethodName := ⟨R_Pip, "makeEmpty", "(I)V"⟩
abbrev b_FK_connect : ByteArray := prog_1_method_50_code
def y_FK_connect : MethodName := ⟨R_FK, "connect", "(III)I"⟩
abbrev b_Law_share : ByteArray := method_14_code
def y_Law_share : MethodName := ⟨R_Law, "share", "(LFiniteKernel;III[J)I"⟩
abbrev b_FK_share : ByteArray := prog_1_method_13_code
def y_FK_share : MethodName := ⟨R_FK, "share", "(III)I"⟩
abbrev b_FK_pipeBehind : ByteArray := prog_1_method_49_code
def y_FK_pipeBehind : MethodName := ⟨R_FK, "pipeBehind", "(II)I"⟩
abbrev b_Law_close : ByteArray := method_15_code
def y_Law_close : MethodName := ⟨R_Law, "close", "(LFiniteKernel;II[J)I"⟩
abbrev b_FK_close : ByteArray := prog_1_method_14_code
def y_FK_close : MethodName := ⟨R_FK, "close", "(II)I"⟩
abbrev b_Law_put : ByteArray := method_16_code
def y_Law_put : MethodName := ⟨R_Law, "put", "(LFiniteKernel;II[J)I"⟩
abbrev b_FK_put : ByteArray := prog_1_method_15_code
def y_FK_put : MethodName := ⟨R_FK, "put", "(II)I"⟩
abbrev b_FK_checkAddress : ByteArray := prog_1_method_31_code
def y_FK_checkAddress : MethodName := ⟨R_FK, "checkAddress", "(I)V"⟩
abbrev b_FK_frameWithRight : ByteArray := prog_1_method_48_code
def y_FK_frameWithRight : MethodName := ⟨R_FK, "frameWithRight", "(II)I"⟩
abbrev b_FK_frameAt : ByteArray := prog_1_method_47_code
def y_FK_frameAt : MethodName := ⟨R_FK, "frameAt", "(I)I"⟩
abbrev b_FK_tableAt : ByteArray := prog_1_method_46_code
def y_FK_tableAt : MethodName := ⟨R_FK, "tableAt", "(I)I"⟩
abbrev b_FK_tableEntryOf : ByteArray := prog_1_method_32_code
def y_FK_tableEntryOf : MethodName := ⟨R_FK, "tableEntryOf", "(I)I"⟩
abbrev b_FK_frameEntryOf : ByteArray := prog_1_method_33_code
def y_FK_frameEntryOf : MethodName := ⟨R_FK, "frameEntryOf", "(I)I"⟩
abbrev b_Pip_held : ByteArray := prog_3_method_3_code
def y_Pip_held : MethodName := ⟨R_Pip, "held", "(I)I"⟩
abbrev b_FK_wordOf : ByteArray := prog_1_method_34_code
def y_FK_wordOf : MethodName := ⟨R_FK, "wordOf", "(I)I"⟩
abbrev b_Pip_append : ByteArray := prog_3_method_4_code
def y_Pip_append : MethodName := ⟨R_Pip, "append", "(II)V"⟩
abbrev b_Law_take : ByteArray := method_17_code
def y_Law_take : MethodName := ⟨R_Law, "take", "(LFiniteKernel;II[J)I"⟩
abbrev b_FK_take : ByteArray := prog_1_method_16_code
def y_FK_take : MethodName := ⟨R_FK, "take", "(II)I"⟩
abbrev b_Pip_removeFirst : ByteArray := prog_3_method_5_code
def y_Pip_removeFirst : MethodName := ⟨R_Pip, "removeFirst", "(I)I"⟩
abbrev b_Law_read : ByteArray := method_18_code
def y_Law_read : MethodName := ⟨R_Law, "read", "(LFiniteKernel;I[J)I"⟩
abbrev b_FK_read : ByteArray := prog_1_method_17_code
def y_FK_read : MethodName := ⟨R_FK, "read", "(I)I"⟩
abbrev b_Law_write : ByteArray := method_19_code
def y_Law_write : MethodName := ⟨R_Law, "write", "(LFiniteKernel;II[J)I"⟩
abbrev b_FK_write : ByteArray := prog_1_method_18_code
def y_FK_write : MethodName := ⟨R_FK, "write", "(II)I"⟩
abbrev b_Law_expect : ByteArray := method_20_code
def y_Law_expect : MethodName := ⟨R_Law, "expect", "(LFiniteKernel;II[J)I"⟩
abbrev b_FK_expect : ByteArray := prog_1_method_19_code
def y_FK_expect : MethodName := ⟨R_FK, "expect", "(II)I"⟩
abbrev b_Pro_await : ByteArray := prog_4_method_8_code
def y_Pro_await : MethodName := ⟨R_Pro, "await", "(III)V"⟩
abbrev b_Law_send : ByteArray := method_21_code
def y_Law_send : MethodName := ⟨R_Law, "send", "(LFiniteKernel;II[J)I"⟩
abbrev b_FK_send : ByteArray := prog_1_method_20_code
def y_FK_send : MethodName := ⟨R_FK, "send", "(II)I"⟩
abbrev b_Pro_awaitedTable : ByteArray := prog_4_method_9_code
def y_Pro_awaitedTable : MethodName := ⟨R_Pro, "awaitedTable", "(I)I"⟩
abbrev b_Pro_awaitedEntry : ByteArray := prog_4_method_10_code
def y_Pro_awaitedEntry : MethodName := ⟨R_Pro, "awaitedEntry", "(I)I"⟩
abbrev b_Mem_setOwner : ByteArray := prog_2_method_6_code
def y_Mem_setOwner : MethodName := ⟨R_Mem, "setOwner", "(II)V"⟩
abbrev b_Law_process : ByteArray := method_22_code
def y_Law_process : MethodName := ⟨R_Law, "process", "(LFiniteKernel;II[J)I"⟩
abbrev b_FK_process : ByteArray := prog_1_method_21_code
def y_FK_process : MethodName := ⟨R_FK, "process", "(II)I"⟩
abbrev b_Law_page : ByteArray := method_23_code
def y_Law_page : MethodName := ⟨R_Law, "page", "(LFiniteKernel;II[J)I"⟩
abbrev b_FK_page : ByteArray := prog_1_method_22_code
def y_FK_page : MethodName := ⟨R_FK, "page", "(II)I"⟩
abbrev b_Law_count : ByteArray := method_24_code
def y_Law_count : MethodName := ⟨R_Law, "count", "(LFiniteKernel;I[J)I"⟩
abbrev b_FK_count : ByteArray := prog_1_method_23_code
def y_FK_count : MethodName := ⟨R_FK, "count", "(I)I"⟩
abbrev b_Pro_notFree : ByteArray := prog_4_method_13_code
def y_Pro_notFree : MethodName := ⟨R_Pro, "notFree", "()I"⟩
abbrev b_FK_intsInOpenPipes : ByteArray := prog_1_method_53_code
def y_FK_intsInOpenPipes : MethodName := ⟨R_FK, "intsInOpenPipes", "()I"⟩
abbrev b_Mod_init : ByteArray := prog_6_method_1_code
def y_Mod_init : MethodName := ⟨R_Mod, "<init>", "()V"⟩
abbrev b_Mod_thrown : ByteArray := prog_6_method_2_code
def y_Mod_thrown : MethodName := ⟨R_Mod, "thrown", "()I"⟩
abbrev b_Mod_spawn : ByteArray := prog_6_method_11_code
def y_Mod_spawn : MethodName := ⟨R_Mod, "spawn", "(II)I"⟩
abbrev b_Mod_isProcess : ByteArray := prog_6_method_5_code
def y_Mod_isProcess : MethodName := ⟨R_Mod, "isProcess", "(I)Z"⟩
abbrev b_Mod_in : ByteArray := prog_6_method_4_code
def y_Mod_in : MethodName := ⟨R_Mod, "in", "(III)Z"⟩
abbrev b_Mod_isPage : ByteArray := prog_6_method_6_code
def y_Mod_isPage : MethodName := ⟨R_Mod, "isPage", "(I)Z"⟩
abbrev b_Mod_raise : ByteArray := prog_6_method_3_code
def y_Mod_raise : MethodName := ⟨R_Mod, "raise", "(I)I"⟩
abbrev b_Mod_become : ByteArray := prog_6_method_9_code
def y_Mod_become : MethodName := ⟨R_Mod, "become", "(III)V"⟩
abbrev b_Mod_table : ByteArray := prog_6_method_13_code
def y_Mod_table : MethodName := ⟨R_Mod, "table", "(IIII)I"⟩
abbrev b_Mod_hang : ByteArray := prog_6_method_12_code
def y_Mod_hang : MethodName := ⟨R_Mod, "hang", "(IIIII)I"⟩
abbrev b_Mod_minePage : ByteArray := prog_6_method_8_code
def y_Mod_minePage : MethodName := ⟨R_Mod, "minePage", "(II)Z"⟩
abbrev b_Mod_mine : ByteArray := prog_6_method_7_code
def y_Mod_mine : MethodName := ⟨R_Mod, "mine", "(I)Z"⟩
abbrev b_Mod_frame : ByteArray := prog_6_method_14_code
def y_Mod_frame : MethodName := ⟨R_Mod, "frame", "(IIII)I"⟩
abbrev b_Mod_protect : ByteArray := prog_6_method_16_code
def y_Mod_protect : MethodName := ⟨R_Mod, "protect", "(III)I"⟩
abbrev b_Mod_holder : ByteArray := prog_6_method_15_code
def y_Mod_holder : MethodName := ⟨R_Mod, "holder", "(I)Z"⟩
abbrev b_Mod_copy : ByteArray := prog_6_method_17_code
def y_Mod_copy : MethodName := ⟨R_Mod, "copy", "(II)I"⟩
abbrev b_Mod_release : ByteArray := prog_6_method_18_code
def y_Mod_release : MethodName := ⟨R_Mod, "release", "(II)I"⟩
abbrev b_Mod_filled : ByteArray := prog_6_method_10_code
def y_Mod_filled : MethodName := ⟨R_Mod, "filled", "(I)I"⟩
abbrev b_Mod_start : ByteArray := prog_6_method_19_code
def y_Mod_start : MethodName := ⟨R_Mod, "start", "(I)I"⟩
abbrev b_Mod_give : ByteArray := prog_6_method_21_code
def y_Mod_give : MethodName := ⟨R_Mod, "give", "(I)I"⟩
abbrev b_Mod_hand : ByteArray := prog_6_method_20_code
def y_Mod_hand : MethodName := ⟨R_Mod, "hand", "(II)I"⟩
abbrev b_Mod_kill : ByteArray := prog_6_method_24_code
def y_Mod_kill : MethodName := ⟨R_Mod, "kill", "(I)I"⟩
abbrev b_Mod_nextReady : ByteArray := prog_6_method_23_code
def y_Mod_nextReady : MethodName := ⟨R_Mod, "nextReady", "(I)I"⟩
abbrev b_Mod_descriptors : ByteArray := prog_6_method_22_code
def y_Mod_descriptors : MethodName := ⟨R_Mod, "descriptors", "(I)I"⟩
abbrev b_Mod_reap : ByteArray := prog_6_method_26_code
def y_Mod_reap : MethodName := ⟨R_Mod, "reap", "(I)I"⟩
abbrev b_Mod_owned : ByteArray := prog_6_method_25_code
def y_Mod_owned : MethodName := ⟨R_Mod, "owned", "(I)I"⟩
abbrev b_Mod_open : ByteArray := prog_6_method_28_code
def y_Mod_open : MethodName := ⟨R_Mod, "open", "(III)I"⟩
abbrev b_Mod_countOf : ByteArray := prog_6_method_27_code
def y_Mod_countOf : MethodName := ⟨R_Mod, "countOf", "(I)I"⟩
abbrev b_Mod_share : ByteArray := prog_6_method_29_code
def y_Mod_share : MethodName := ⟨R_Mod, "share", "(III)I"⟩
abbrev b_Mod_close : ByteArray := prog_6_method_30_code
def y_Mod_close : MethodName := ⟨R_Mod, "close", "(II)I"⟩
abbrev b_Mod_put : ByteArray := prog_6_method_33_code
def y_Mod_put : MethodName := ⟨R_Mod, "put", "(II)I"⟩
abbrev b_Mod_walk : ByteArray := prog_6_method_32_code
def y_Mod_walk : MethodName := ⟨R_Mod, "walk", "(II)I"⟩
abbrev b_Mod_frameEntry : ByteArray := prog_6_method_31_code
def y_Mod_frameEntry : MethodName := ⟨R_Mod, "frameEntry", "(II)I"⟩
abbrev b_Mod_take : ByteArray := prog_6_method_34_code
def y_Mod_take : MethodName := ⟨R_Mod, "take", "(II)I"⟩
abbrev b_Mod_read : ByteArray := prog_6_method_35_code
def y_Mod_read : MethodName := ⟨R_Mod, "read", "(I)I"⟩
abbrev b_Mod_write : ByteArray := prog_6_method_36_code
def y_Mod_write : MethodName := ⟨R_Mod, "write", "(II)I"⟩
abbrev b_Mod_expect : ByteArray := prog_6_method_37_code
def y_Mod_expect : MethodName := ⟨R_Mod, "expect", "(II)I"⟩
abbrev b_Mod_send : ByteArray := prog_6_method_38_code
def y_Mod_send : MethodName := ⟨R_Mod, "send", "(II)I"⟩
abbrev b_Mod_process : ByteArray := prog_6_method_39_code
def y_Mod_process : MethodName := ⟨R_Mod, "process", "(II)I"⟩
abbrev b_Mod_page : ByteArray := prog_6_method_40_code
def y_Mod_page : MethodName := ⟨R_Mod, "page", "(II)I"⟩
abbrev b_Mod_count : ByteArray := prog_6_method_41_code
def y_Mod_count : MethodName := ⟨R_Mod, "count", "(I)I"⟩
abbrev b_Law_law : ByteArray := code
def y_Law_law : MethodName := ⟨R_Law, "law", "([I)Z"⟩
abbrev vwCl : List vw_C := [(R_FK, T_FK, 4), (R_Mem, T_Mem, 5), (R_Pro, T_Pro, 6), (R_Pip, T_Pip, 2), (R_Mod, T_Mod, 15)]
abbrev nFK : Nat := 0
abbrev nMem : Nat := 1
abbrev nPro : Nat := 2
abbrev nPip : Nat := 3
abbrev nMod : Nat := 4
