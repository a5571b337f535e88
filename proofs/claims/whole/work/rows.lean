section
-- ===== PART A: goes FIRST, ahead of the names: the tables' words, and 'selects' of the private methods out of them =====
/-- a private method of a class that the tables say can be made, by its rows of tables_1 -/
def lw_okq (q : MethodName × Nat) : Prop := (q.1.cls ≠ "java/lang/invoke/MethodHandle" ∧ q.1.cls ≠ "java/lang/invoke/VarHandle") ∧ Cond.instantiable q.1.cls q.2 ∈ tables_1 ∧ Cond.privateMethod q.1 ∈ tables_1 ∧ Cond.instanceMethod q.1 ∈ tables_1
theorem lw_p0 : lw_okq (⟨"BranchingKernel", "firstFree", "()I"⟩, 7) := ⟨⟨by decide +kernel, by decide +kernel⟩, List.mem_of_getElem? (i := 7) (by decide +kernel), List.mem_of_getElem? (i := 118) (by decide +kernel), List.mem_of_getElem? (i := 119) (by decide +kernel)⟩
theorem lw_p1 : lw_okq (⟨"BranchingKernel", "ownPage", "(LBranchingKernel$Proc;I)I"⟩, 7) := ⟨⟨by decide +kernel, by decide +kernel⟩, List.mem_of_getElem? (i := 7) (by decide +kernel), List.mem_of_getElem? (i := 130) (by decide +kernel), List.mem_of_getElem? (i := 131) (by decide +kernel)⟩
theorem lw_p2 : lw_okq (⟨"BranchingKernel", "putWord", "(LBranchingKernel$Proc;II)V"⟩, 7) := ⟨⟨by decide +kernel, by decide +kernel⟩, List.mem_of_getElem? (i := 7) (by decide +kernel), List.mem_of_getElem? (i := 146) (by decide +kernel), List.mem_of_getElem? (i := 147) (by decide +kernel)⟩
theorem lw_p3 : lw_okq (⟨"BranchingKernel", "takeStep", "()I"⟩, 7) := ⟨⟨by decide +kernel, by decide +kernel⟩, List.mem_of_getElem? (i := 7) (by decide +kernel), List.mem_of_getElem? (i := 154) (by decide +kernel), List.mem_of_getElem? (i := 155) (by decide +kernel)⟩
theorem lw_p4 : lw_okq (⟨"BranchingKernel", "rowGoesOn", "()Z"⟩, 7) := ⟨⟨by decide +kernel, by decide +kernel⟩, List.mem_of_getElem? (i := 7) (by decide +kernel), List.mem_of_getElem? (i := 158) (by decide +kernel), List.mem_of_getElem? (i := 159) (by decide +kernel)⟩
theorem lw_p5 : lw_okq (⟨"BranchingKernel", "nextReady", "()I"⟩, 7) := ⟨⟨by decide +kernel, by decide +kernel⟩, List.mem_of_getElem? (i := 7) (by decide +kernel), List.mem_of_getElem? (i := 162) (by decide +kernel), List.mem_of_getElem? (i := 163) (by decide +kernel)⟩
theorem lw_p6 : lw_okq (⟨"BranchingKernel", "fetchAndDo", "(I)I"⟩, 7) := ⟨⟨by decide +kernel, by decide +kernel⟩, List.mem_of_getElem? (i := 7) (by decide +kernel), List.mem_of_getElem? (i := 166) (by decide +kernel), List.mem_of_getElem? (i := 167) (by decide +kernel)⟩
theorem lw_p7 : lw_okq (⟨"BranchingKernel", "touchToRead", "(LBranchingKernel$Proc;I)I"⟩, 7) := ⟨⟨by decide +kernel, by decide +kernel⟩, List.mem_of_getElem? (i := 7) (by decide +kernel), List.mem_of_getElem? (i := 170) (by decide +kernel), List.mem_of_getElem? (i := 171) (by decide +kernel)⟩
theorem lw_p8 : lw_okq (⟨"BranchingKernel", "end", "(II)I"⟩, 7) := ⟨⟨by decide +kernel, by decide +kernel⟩, List.mem_of_getElem? (i := 7) (by decide +kernel), List.mem_of_getElem? (i := 178) (by decide +kernel), List.mem_of_getElem? (i := 179) (by decide +kernel)⟩
theorem lw_p9 : lw_okq (⟨"BranchingKernel", "releaseFrom", "(LBranchingKernel$Proc;I)V"⟩, 7) := ⟨⟨by decide +kernel, by decide +kernel⟩, List.mem_of_getElem? (i := 7) (by decide +kernel), List.mem_of_getElem? (i := 182) (by decide +kernel), List.mem_of_getElem? (i := 183) (by decide +kernel)⟩
theorem lw_p10 : lw_okq (⟨"BranchingKernel", "wordAt", "(LBranchingKernel$Proc;I)I"⟩, 7) := ⟨⟨by decide +kernel, by decide +kernel⟩, List.mem_of_getElem? (i := 7) (by decide +kernel), List.mem_of_getElem? (i := 186) (by decide +kernel), List.mem_of_getElem? (i := 187) (by decide +kernel)⟩
theorem lw_p11 : lw_okq (⟨"BranchingKernel", "doOwnOp", "(IIIII)I"⟩, 7) := ⟨⟨by decide +kernel, by decide +kernel⟩, List.mem_of_getElem? (i := 7) (by decide +kernel), List.mem_of_getElem? (i := 190) (by decide +kernel), List.mem_of_getElem? (i := 191) (by decide +kernel)⟩
theorem lw_p12 : lw_okq (⟨"BranchingKernel", "readInto", "(III)I"⟩, 7) := ⟨⟨by decide +kernel, by decide +kernel⟩, List.mem_of_getElem? (i := 7) (by decide +kernel), List.mem_of_getElem? (i := 194) (by decide +kernel), List.mem_of_getElem? (i := 195) (by decide +kernel)⟩
theorem lw_p13 : lw_okq (⟨"BranchingKernel", "writeFrom", "(III)I"⟩, 7) := ⟨⟨by decide +kernel, by decide +kernel⟩, List.mem_of_getElem? (i := 7) (by decide +kernel), List.mem_of_getElem? (i := 198) (by decide +kernel), List.mem_of_getElem? (i := 199) (by decide +kernel)⟩
theorem lw_p14 : lw_okq (⟨"BranchingKernel", "doKernelOp", "(IIII)I"⟩, 7) := ⟨⟨by decide +kernel, by decide +kernel⟩, List.mem_of_getElem? (i := 7) (by decide +kernel), List.mem_of_getElem? (i := 209) (by decide +kernel), List.mem_of_getElem? (i := 210) (by decide +kernel)⟩
theorem lw_p15 : lw_okq (⟨"BranchingKernel", "fork", "(II)I"⟩, 7) := ⟨⟨by decide +kernel, by decide +kernel⟩, List.mem_of_getElem? (i := 7) (by decide +kernel), List.mem_of_getElem? (i := 213) (by decide +kernel), List.mem_of_getElem? (i := 214) (by decide +kernel)⟩
def lw_privs_1 : List (MethodName × Nat) := [(⟨"BranchingKernel", "firstFree", "()I"⟩, 7), (⟨"BranchingKernel", "ownPage", "(LBranchingKernel$Proc;I)I"⟩, 7), (⟨"BranchingKernel", "putWord", "(LBranchingKernel$Proc;II)V"⟩, 7), (⟨"BranchingKernel", "takeStep", "()I"⟩, 7), (⟨"BranchingKernel", "rowGoesOn", "()Z"⟩, 7), (⟨"BranchingKernel", "nextReady", "()I"⟩, 7), (⟨"BranchingKernel", "fetchAndDo", "(I)I"⟩, 7), (⟨"BranchingKernel", "touchToRead", "(LBranchingKernel$Proc;I)I"⟩, 7), (⟨"BranchingKernel", "end", "(II)I"⟩, 7), (⟨"BranchingKernel", "releaseFrom", "(LBranchingKernel$Proc;I)V"⟩, 7), (⟨"BranchingKernel", "wordAt", "(LBranchingKernel$Proc;I)I"⟩, 7), (⟨"BranchingKernel", "doOwnOp", "(IIIII)I"⟩, 7), (⟨"BranchingKernel", "readInto", "(III)I"⟩, 7), (⟨"BranchingKernel", "writeFrom", "(III)I"⟩, 7), (⟨"BranchingKernel", "doKernelOp", "(IIII)I"⟩, 7), (⟨"BranchingKernel", "fork", "(II)I"⟩, 7)]
theorem lw_r1 : ∀ q ∈ lw_privs_1, lw_okq q := List.forall_mem_cons.mpr ⟨lw_p0, List.forall_mem_cons.mpr ⟨lw_p1, List.forall_mem_cons.mpr ⟨lw_p2, List.forall_mem_cons.mpr ⟨lw_p3, List.forall_mem_cons.mpr ⟨lw_p4, List.forall_mem_cons.mpr ⟨lw_p5, List.forall_mem_cons.mpr ⟨lw_p6, List.forall_mem_cons.mpr ⟨lw_p7, List.forall_mem_cons.mpr ⟨lw_p8, List.forall_mem_cons.mpr ⟨lw_p9, List.forall_mem_cons.mpr ⟨lw_p10, List.forall_mem_cons.mpr ⟨lw_p11, List.forall_mem_cons.mpr ⟨lw_p12, List.forall_mem_cons.mpr ⟨lw_p13, List.forall_mem_cons.mpr ⟨lw_p14, List.forall_mem_cons.mpr ⟨lw_p15, fun _ h => absurd h List.not_mem_nil⟩⟩⟩⟩⟩⟩⟩⟩⟩⟩⟩⟩⟩⟩⟩⟩
theorem lw_p16 : lw_okq (⟨"BranchingKernel", "moveBreak", "(III)I"⟩, 7) := ⟨⟨by decide +kernel, by decide +kernel⟩, List.mem_of_getElem? (i := 7) (by decide +kernel), List.mem_of_getElem? (i := 221) (by decide +kernel), List.mem_of_getElem? (i := 222) (by decide +kernel)⟩
theorem lw_p17 : lw_okq (⟨"BranchingKernel", "clearFrom", "(LBranchingKernel$Proc;I)V"⟩, 7) := ⟨⟨by decide +kernel, by decide +kernel⟩, List.mem_of_getElem? (i := 7) (by decide +kernel), List.mem_of_getElem? (i := 225) (by decide +kernel), List.mem_of_getElem? (i := 226) (by decide +kernel)⟩
theorem lw_p18 : lw_okq (⟨"BranchingKernel", "waitForChild", "(II)I"⟩, 7) := ⟨⟨by decide +kernel, by decide +kernel⟩, List.mem_of_getElem? (i := 7) (by decide +kernel), List.mem_of_getElem? (i := 229) (by decide +kernel), List.mem_of_getElem? (i := 230) (by decide +kernel)⟩
theorem lw_p19 : lw_okq (⟨"BranchingKernel", "firstZombieChild", "(I)I"⟩, 7) := ⟨⟨by decide +kernel, by decide +kernel⟩, List.mem_of_getElem? (i := 7) (by decide +kernel), List.mem_of_getElem? (i := 233) (by decide +kernel), List.mem_of_getElem? (i := 234) (by decide +kernel)⟩
theorem lw_p20 : lw_okq (⟨"BranchingKernel", "hasChild", "(I)Z"⟩, 7) := ⟨⟨by decide +kernel, by decide +kernel⟩, List.mem_of_getElem? (i := 7) (by decide +kernel), List.mem_of_getElem? (i := 241) (by decide +kernel), List.mem_of_getElem? (i := 242) (by decide +kernel)⟩
theorem lw_p21 : lw_okq (⟨"BranchingKernel", "isLive", "(I)Z"⟩, 7) := ⟨⟨by decide +kernel, by decide +kernel⟩, List.mem_of_getElem? (i := 7) (by decide +kernel), List.mem_of_getElem? (i := 253) (by decide +kernel), List.mem_of_getElem? (i := 254) (by decide +kernel)⟩
theorem lw_p22 : lw_okq (⟨"BranchingKernel", "isZombie", "(I)Z"⟩, 7) := ⟨⟨by decide +kernel, by decide +kernel⟩, List.mem_of_getElem? (i := 7) (by decide +kernel), List.mem_of_getElem? (i := 264) (by decide +kernel), List.mem_of_getElem? (i := 265) (by decide +kernel)⟩
theorem lw_p23 : lw_okq (⟨"BranchingKernelModel", "firstFree", "()I"⟩, 17) := ⟨⟨by decide +kernel, by decide +kernel⟩, List.mem_of_getElem? (i := 315) (by decide +kernel), List.mem_of_getElem? (i := 385) (by decide +kernel), List.mem_of_getElem? (i := 386) (by decide +kernel)⟩
theorem lw_p24 : lw_okq (⟨"BranchingKernelModel", "lives", "(I)Z"⟩, 17) := ⟨⟨by decide +kernel, by decide +kernel⟩, List.mem_of_getElem? (i := 315) (by decide +kernel), List.mem_of_getElem? (i := 394) (by decide +kernel), List.mem_of_getElem? (i := 395) (by decide +kernel)⟩
theorem lw_p25 : lw_okq (⟨"BranchingKernelModel", "end", "(II)V"⟩, 17) := ⟨⟨by decide +kernel, by decide +kernel⟩, List.mem_of_getElem? (i := 315) (by decide +kernel), List.mem_of_getElem? (i := 401) (by decide +kernel), List.mem_of_getElem? (i := 402) (by decide +kernel)⟩
theorem lw_p26 : lw_okq (⟨"BranchingKernelModel", "release", "(I)V"⟩, 17) := ⟨⟨by decide +kernel, by decide +kernel⟩, List.mem_of_getElem? (i := 315) (by decide +kernel), List.mem_of_getElem? (i := 405) (by decide +kernel), List.mem_of_getElem? (i := 406) (by decide +kernel)⟩
theorem lw_p27 : lw_okq (⟨"BranchingKernelModel", "free", "(I)V"⟩, 17) := ⟨⟨by decide +kernel, by decide +kernel⟩, List.mem_of_getElem? (i := 315) (by decide +kernel), List.mem_of_getElem? (i := 413) (by decide +kernel), List.mem_of_getElem? (i := 414) (by decide +kernel)⟩
theorem lw_p28 : lw_okq (⟨"BranchingKernelModel", "choose", "()Z"⟩, 17) := ⟨⟨by decide +kernel, by decide +kernel⟩, List.mem_of_getElem? (i := 315) (by decide +kernel), List.mem_of_getElem? (i := 421) (by decide +kernel), List.mem_of_getElem? (i := 422) (by decide +kernel)⟩
theorem lw_p29 : lw_okq (⟨"BranchingKernelModel", "reach", "(IIZ)Z"⟩, 17) := ⟨⟨by decide +kernel, by decide +kernel⟩, List.mem_of_getElem? (i := 315) (by decide +kernel), List.mem_of_getElem? (i := 425) (by decide +kernel), List.mem_of_getElem? (i := 426) (by decide +kernel)⟩
theorem lw_p30 : lw_okq (⟨"BranchingKernelModel", "sharers", "(I)I"⟩, 17) := ⟨⟨by decide +kernel, by decide +kernel⟩, List.mem_of_getElem? (i := 315) (by decide +kernel), List.mem_of_getElem? (i := 429) (by decide +kernel), List.mem_of_getElem? (i := 430) (by decide +kernel)⟩
theorem lw_p31 : lw_okq (⟨"BranchingKernelModel", "alone", "(I)Z"⟩, 17) := ⟨⟨by decide +kernel, by decide +kernel⟩, List.mem_of_getElem? (i := 315) (by decide +kernel), List.mem_of_getElem? (i := 433) (by decide +kernel), List.mem_of_getElem? (i := 434) (by decide +kernel)⟩
def lw_privs_2 : List (MethodName × Nat) := [(⟨"BranchingKernel", "moveBreak", "(III)I"⟩, 7), (⟨"BranchingKernel", "clearFrom", "(LBranchingKernel$Proc;I)V"⟩, 7), (⟨"BranchingKernel", "waitForChild", "(II)I"⟩, 7), (⟨"BranchingKernel", "firstZombieChild", "(I)I"⟩, 7), (⟨"BranchingKernel", "hasChild", "(I)Z"⟩, 7), (⟨"BranchingKernel", "isLive", "(I)Z"⟩, 7), (⟨"BranchingKernel", "isZombie", "(I)Z"⟩, 7), (⟨"BranchingKernelModel", "firstFree", "()I"⟩, 17), (⟨"BranchingKernelModel", "lives", "(I)Z"⟩, 17), (⟨"BranchingKernelModel", "end", "(II)V"⟩, 17), (⟨"BranchingKernelModel", "release", "(I)V"⟩, 17), (⟨"BranchingKernelModel", "free", "(I)V"⟩, 17), (⟨"BranchingKernelModel", "choose", "()Z"⟩, 17), (⟨"BranchingKernelModel", "reach", "(IIZ)Z"⟩, 17), (⟨"BranchingKernelModel", "sharers", "(I)I"⟩, 17), (⟨"BranchingKernelModel", "alone", "(I)Z"⟩, 17)]
theorem lw_r2 : ∀ q ∈ lw_privs_2, lw_okq q := List.forall_mem_cons.mpr ⟨lw_p16, List.forall_mem_cons.mpr ⟨lw_p17, List.forall_mem_cons.mpr ⟨lw_p18, List.forall_mem_cons.mpr ⟨lw_p19, List.forall_mem_cons.mpr ⟨lw_p20, List.forall_mem_cons.mpr ⟨lw_p21, List.forall_mem_cons.mpr ⟨lw_p22, List.forall_mem_cons.mpr ⟨lw_p23, List.forall_mem_cons.mpr ⟨lw_p24, List.forall_mem_cons.mpr ⟨lw_p25, List.forall_mem_cons.mpr ⟨lw_p26, List.forall_mem_cons.mpr ⟨lw_p27, List.forall_mem_cons.mpr ⟨lw_p28, List.forall_mem_cons.mpr ⟨lw_p29, List.forall_mem_cons.mpr ⟨lw_p30, List.forall_mem_cons.mpr ⟨lw_p31, fun _ h => absurd h List.not_mem_nil⟩⟩⟩⟩⟩⟩⟩⟩⟩⟩⟩⟩⟩⟩⟩⟩
theorem lw_p32 : lw_okq (⟨"BranchingKernelModel", "perform", "(II)I"⟩, 17) := ⟨⟨by decide +kernel, by decide +kernel⟩, List.mem_of_getElem? (i := 315) (by decide +kernel), List.mem_of_getElem? (i := 437) (by decide +kernel), List.mem_of_getElem? (i := 438) (by decide +kernel)⟩
theorem lw_p33 : lw_okq (⟨"BranchingKernelModel", "simple", "(IIIII)I"⟩, 17) := ⟨⟨by decide +kernel, by decide +kernel⟩, List.mem_of_getElem? (i := 315) (by decide +kernel), List.mem_of_getElem? (i := 441) (by decide +kernel), List.mem_of_getElem? (i := 442) (by decide +kernel)⟩
theorem lw_p34 : lw_okq (⟨"BranchingKernelModel", "fork", "(II)I"⟩, 17) := ⟨⟨by decide +kernel, by decide +kernel⟩, List.mem_of_getElem? (i := 315) (by decide +kernel), List.mem_of_getElem? (i := 445) (by decide +kernel), List.mem_of_getElem? (i := 446) (by decide +kernel)⟩
theorem lw_p35 : lw_okq (⟨"BranchingKernelModel", "grow", "(III)V"⟩, 17) := ⟨⟨by decide +kernel, by decide +kernel⟩, List.mem_of_getElem? (i := 315) (by decide +kernel), List.mem_of_getElem? (i := 449) (by decide +kernel), List.mem_of_getElem? (i := 450) (by decide +kernel)⟩
theorem lw_p36 : lw_okq (⟨"BranchingKernelModel", "await", "(II)I"⟩, 17) := ⟨⟨by decide +kernel, by decide +kernel⟩, List.mem_of_getElem? (i := 315) (by decide +kernel), List.mem_of_getElem? (i := 453) (by decide +kernel), List.mem_of_getElem? (i := 454) (by decide +kernel)⟩
def lw_privs_3 : List (MethodName × Nat) := [(⟨"BranchingKernelModel", "perform", "(II)I"⟩, 17), (⟨"BranchingKernelModel", "simple", "(IIIII)I"⟩, 17), (⟨"BranchingKernelModel", "fork", "(II)I"⟩, 17), (⟨"BranchingKernelModel", "grow", "(III)V"⟩, 17), (⟨"BranchingKernelModel", "await", "(II)I"⟩, 17)]
theorem lw_r3 : ∀ q ∈ lw_privs_3, lw_okq q := List.forall_mem_cons.mpr ⟨lw_p32, List.forall_mem_cons.mpr ⟨lw_p33, List.forall_mem_cons.mpr ⟨lw_p34, List.forall_mem_cons.mpr ⟨lw_p35, List.forall_mem_cons.mpr ⟨lw_p36, fun _ h => absurd h List.not_mem_nil⟩⟩⟩⟩⟩
def lw_privs : List (MethodName × Nat) := lw_privs_1 ++ (lw_privs_2 ++ (lw_privs_3))
def lw_tbl : List Cond := k2_sels lw_privs ++ tables_1
theorem lw_privs_ok : ∀ q ∈ lw_privs, lw_okq q := by
  show ∀ q ∈ lw_privs_1 ++ (lw_privs_2 ++ (lw_privs_3)), lw_okq q
  exact List.forall_mem_append.mpr ⟨lw_r1, List.forall_mem_append.mpr ⟨lw_r2, lw_r3⟩⟩
end
section
/-! names of classes, fields and methods (written by wip/whole/mk_names.py out of javap's listing and the tables) -/
def RX0 : String := "BranchingKernel$FramePool"
def TX0 : u_T := fun k => match k with
  | 0 => ("BranchingKernel$FramePool", "size", "I", true)
  | 1 => ("BranchingKernel$FramePool", "words", "[I", true)
  | 2 => ("BranchingKernel$FramePool", "users", "[I", true)
  | _ => ("BranchingKernel$FramePool", "used", "I", false)
def tyX0 : Nat → FieldType := fun k => match k with
  | 0 => .int
  | 1 => .array .int
  | 2 => .array .int
  | _ => .int
theorem nmX0 : ∀ a, a < 4 → ∀ b, b < 4 → a ≠ b → (TX0 a).2.1 ≠ (TX0 b).2.1 := by decide +kernel
theorem tyX0_ok : ∀ k, k < 4 → parseFieldDescriptor (TX0 k).2.2.1 = some (tyX0 k) := by decide +kernel
def RX1 : String := "BranchingKernel$PrintLog"
def TX1 : u_T := fun k => match k with
  | 0 => ("BranchingKernel$PrintLog", "kept", "[I", true)
  | _ => ("BranchingKernel$PrintLog", "count", "I", false)
def tyX1 : Nat → FieldType := fun k => match k with
  | 0 => .array .int
  | _ => .int
theorem nmX1 : ∀ a, a < 2 → ∀ b, b < 2 → a ≠ b → (TX1 a).2.1 ≠ (TX1 b).2.1 := by decide +kernel
theorem tyX1_ok : ∀ k, k < 2 → parseFieldDescriptor (TX1 k).2.2.1 = some (tyX1 k) := by decide +kernel
def RX2 : String := "BranchingKernel$Proc"
def TX2 : u_T := fun k => match k with
  | 0 => ("BranchingKernel$Proc", "state", "I", false)
  | 1 => ("BranchingKernel$Proc", "parent", "I", false)
  | 2 => ("BranchingKernel$Proc", "code", "I", false)
  | 3 => ("BranchingKernel$Proc", "counter", "I", false)
  | 4 => ("BranchingKernel$Proc", "limit", "I", false)
  | 5 => ("BranchingKernel$Proc", "registers", "[I", true)
  | _ => ("BranchingKernel$Proc", "pages", "[I", true)
def tyX2 : Nat → FieldType := fun k => match k with
  | 0 => .int
  | 1 => .int
  | 2 => .int
  | 3 => .int
  | 4 => .int
  | 5 => .array .int
  | _ => .array .int
theorem nmX2 : ∀ a, a < 7 → ∀ b, b < 7 → a ≠ b → (TX2 a).2.1 ≠ (TX2 b).2.1 := by decide +kernel
theorem tyX2_ok : ∀ k, k < 7 → parseFieldDescriptor (TX2 k).2.2.1 = some (tyX2 k) := by decide +kernel
def RX3 : String := "BranchingKernel"
def TX3 : u_T := fun k => match k with
  | 0 => ("BranchingKernel", "pool", "LBranchingKernel$FramePool;", true)
  | 1 => ("BranchingKernel", "procs", "[LBranchingKernel$Proc;", true)
  | 2 => ("BranchingKernel", "log", "LBranchingKernel$PrintLog;", true)
  | 3 => ("BranchingKernel", "image", "[I", true)
  | 4 => ("BranchingKernel", "quantum", "I", true)
  | 5 => ("BranchingKernel", "current", "I", false)
  | _ => ("BranchingKernel", "row", "I", false)
def tyX3 : Nat → FieldType := fun k => match k with
  | 0 => .object "BranchingKernel$FramePool"
  | 1 => .array (.object "BranchingKernel$Proc")
  | 2 => .object "BranchingKernel$PrintLog"
  | 3 => .array .int
  | 4 => .int
  | 5 => .int
  | _ => .int
theorem nmX3 : ∀ a, a < 7 → ∀ b, b < 7 → a ≠ b → (TX3 a).2.1 ≠ (TX3 b).2.1 := by decide +kernel
theorem tyX3_ok : ∀ k, k < 7 → parseFieldDescriptor (TX3 k).2.2.1 = some (tyX3 k) := by decide +kernel
def RX4 : String := "BranchingKernelModel"
def TX4 : u_T := fun k => match k with
  | 0 => ("BranchingKernelModel", "limit", "I", true)
  | 1 => ("BranchingKernelModel", "quantum", "I", true)
  | 2 => ("BranchingKernelModel", "image", "[I", true)
  | 3 => ("BranchingKernelModel", "states", "[I", true)
  | 4 => ("BranchingKernelModel", "parents", "[I", true)
  | 5 => ("BranchingKernelModel", "codes", "[I", true)
  | 6 => ("BranchingKernelModel", "registers", "[I", true)
  | 7 => ("BranchingKernelModel", "counters", "[I", true)
  | 8 => ("BranchingKernelModel", "breaks", "[I", true)
  | 9 => ("BranchingKernelModel", "words", "[I", true)
  | 10 => ("BranchingKernelModel", "labels", "[I", true)
  | 11 => ("BranchingKernelModel", "latest", "I", false)
  | 12 => ("BranchingKernelModel", "current", "I", false)
  | 13 => ("BranchingKernelModel", "row", "I", false)
  | 14 => ("BranchingKernelModel", "fault", "I", false)
  | 15 => ("BranchingKernelModel", "prints", "I", false)
  | _ => ("BranchingKernelModel", "shown", "[I", true)
def tyX4 : Nat → FieldType := fun k => match k with
  | 0 => .int
  | 1 => .int
  | 2 => .array .int
  | 3 => .array .int
  | 4 => .array .int
  | 5 => .array .int
  | 6 => .array .int
  | 7 => .array .int
  | 8 => .array .int
  | 9 => .array .int
  | 10 => .array .int
  | 11 => .int
  | 12 => .int
  | 13 => .int
  | 14 => .int
  | 15 => .int
  | _ => .array .int
theorem nmX4 : ∀ a, a < 17 → ∀ b, b < 17 → a ≠ b → (TX4 a).2.1 ≠ (TX4 b).2.1 := by decide +kernel
theorem tyX4_ok : ∀ k, k < 17 → parseFieldDescriptor (TX4 k).2.2.1 = some (tyX4 k) := by decide +kernel
def RL : String := "BranchingKernelLaw"
abbrev vwCl : List vw_C := [(RX0, TX0, 4), (RX1, TX1, 2), (RX2, TX2, 7), (RX3, TX3, 7), (RX4, TX4, 17)]
abbrev cL_cell : ByteArray := method_2_code
def yL_cell : MethodName := ⟨RL, "cell", "([II)I"⟩
abbrev cX0_copyWords : ByteArray := prog_2_method_6_code
def yX0_copyWords : MethodName := ⟨RX0, "copyWords", "(II)V"⟩
abbrev cX0_init : ByteArray := prog_2_method_1_code
def yX0_init : MethodName := ⟨RX0, "<init>", "(I)V"⟩
abbrev cX0_join : ByteArray := prog_2_method_4_code
def yX0_join : MethodName := ⟨RX0, "join", "(I)V"⟩
abbrev cX0_leave : ByteArray := prog_2_method_5_code
def yX0_leave : MethodName := ⟨RX0, "leave", "(I)V"⟩
abbrev cX0_take : ByteArray := prog_2_method_3_code
def yX0_take : MethodName := ⟨RX0, "take", "()I"⟩
abbrev cX0_unused : ByteArray := prog_2_method_2_code
def yX0_unused : MethodName := ⟨RX0, "unused", "()I"⟩
abbrev cX1_append : ByteArray := prog_3_method_2_code
def yX1_append : MethodName := ⟨RX1, "append", "(I)V"⟩
abbrev cX1_init : ByteArray := prog_3_method_1_code
def yX1_init : MethodName := ⟨RX1, "<init>", "()V"⟩
abbrev cX1_latest : ByteArray := prog_3_method_3_code
def yX1_latest : MethodName := ⟨RX1, "latest", "(I)I"⟩
abbrev cX2_begin : ByteArray := prog_4_method_2_code
def yX2_begin : MethodName := ⟨RX2, "begin", "(I)V"⟩
abbrev cX2_holds : ByteArray := prog_4_method_4_code
def yX2_holds : MethodName := ⟨RX2, "holds", "(I)Z"⟩
abbrev cX2_init : ByteArray := prog_4_method_1_code
def yX2_init : MethodName := ⟨RX2, "<init>", "()V"⟩
abbrev cX2_vacate : ByteArray := prog_4_method_3_code
def yX2_vacate : MethodName := ⟨RX2, "vacate", "()I"⟩
abbrev cX3_clearFrom : ByteArray := prog_1_method_39_code
def yX3_clearFrom : MethodName := ⟨RX3, "clearFrom", "(LBranchingKernel$Proc;I)V"⟩
abbrev cX3_code : ByteArray := prog_1_method_10_code
def yX3_code : MethodName := ⟨RX3, "code", "(I)I"⟩
abbrev cX3_doKernelOp : ByteArray := prog_1_method_29_code
def yX3_doKernelOp : MethodName := ⟨RX3, "doKernelOp", "(IIII)I"⟩
abbrev cX3_doOwnOp : ByteArray := prog_1_method_28_code
def yX3_doOwnOp : MethodName := ⟨RX3, "doOwnOp", "(IIIII)I"⟩
abbrev cX3_end : ByteArray := prog_1_method_36_code
def yX3_end : MethodName := ⟨RX3, "end", "(II)I"⟩
abbrev cX3_fetchAndDo : ByteArray := prog_1_method_27_code
def yX3_fetchAndDo : MethodName := ⟨RX3, "fetchAndDo", "(I)I"⟩
abbrev cX3_firstFree : ByteArray := prog_1_method_21_code
def yX3_firstFree : MethodName := ⟨RX3, "firstFree", "()I"⟩
abbrev cX3_firstZombieChild : ByteArray := prog_1_method_23_code
def yX3_firstZombieChild : MethodName := ⟨RX3, "firstZombieChild", "(I)I"⟩
abbrev cX3_fork : ByteArray := prog_1_method_33_code
def yX3_fork : MethodName := ⟨RX3, "fork", "(II)I"⟩
abbrev cX3_frames : ByteArray := prog_1_method_15_code
def yX3_frames : MethodName := ⟨RX3, "frames", "()I"⟩
abbrev cX3_hasChild : ByteArray := prog_1_method_22_code
def yX3_hasChild : MethodName := ⟨RX3, "hasChild", "(I)Z"⟩
abbrev cX3_init : ByteArray := prog_1_method_1_code
def yX3_init : MethodName := ⟨RX3, "<init>", "(II)V"⟩
abbrev cX3_isLive : ByteArray := prog_1_method_19_code
def yX3_isLive : MethodName := ⟨RX3, "isLive", "(I)Z"⟩
abbrev cX3_isNumber : ByteArray := prog_1_method_18_code
def yX3_isNumber : MethodName := ⟨RX3, "isNumber", "(I)Z"⟩
abbrev cX3_isZombie : ByteArray := prog_1_method_20_code
def yX3_isZombie : MethodName := ⟨RX3, "isZombie", "(I)Z"⟩
abbrev cX3_jumpIf : ByteArray := prog_1_method_32_code
def yX3_jumpIf : MethodName := ⟨RX3, "jumpIf", "(LBranchingKernel$Proc;ZI)I"⟩
abbrev cX3_kill : ByteArray := prog_1_method_6_code
def yX3_kill : MethodName := ⟨RX3, "kill", "(I)Z"⟩
abbrev cX3_load : ByteArray := prog_1_method_3_code
def yX3_load : MethodName := ⟨RX3, "load", "(I)I"⟩
abbrev cX3_moveBreak : ByteArray := prog_1_method_34_code
def yX3_moveBreak : MethodName := ⟨RX3, "moveBreak", "(III)I"⟩
abbrev cX3_nextReady : ByteArray := prog_1_method_25_code
def yX3_nextReady : MethodName := ⟨RX3, "nextReady", "()I"⟩
abbrev cX3_ownPage : ByteArray := prog_1_method_38_code
def yX3_ownPage : MethodName := ⟨RX3, "ownPage", "(LBranchingKernel$Proc;I)I"⟩
abbrev cX3_parent : ByteArray := prog_1_method_9_code
def yX3_parent : MethodName := ⟨RX3, "parent", "(I)I"⟩
abbrev cX3_peek : ByteArray := prog_1_method_13_code
def yX3_peek : MethodName := ⟨RX3, "peek", "(II)I"⟩
abbrev cX3_print : ByteArray := prog_1_method_17_code
def yX3_print : MethodName := ⟨RX3, "print", "(I)I"⟩
abbrev cX3_printed : ByteArray := prog_1_method_16_code
def yX3_printed : MethodName := ⟨RX3, "printed", "()I"⟩
abbrev cX3_putWord : ByteArray := prog_1_method_42_code
def yX3_putWord : MethodName := ⟨RX3, "putWord", "(LBranchingKernel$Proc;II)V"⟩
abbrev cX3_readInto : ByteArray := prog_1_method_30_code
def yX3_readInto : MethodName := ⟨RX3, "readInto", "(III)I"⟩
abbrev cX3_reap : ByteArray := prog_1_method_7_code
def yX3_reap : MethodName := ⟨RX3, "reap", "(I)I"⟩
abbrev cX3_register : ByteArray := prog_1_method_12_code
def yX3_register : MethodName := ⟨RX3, "register", "(II)I"⟩
abbrev cX3_releaseFrom : ByteArray := prog_1_method_40_code
def yX3_releaseFrom : MethodName := ⟨RX3, "releaseFrom", "(LBranchingKernel$Proc;I)V"⟩
abbrev cX3_rowGoesOn : ByteArray := prog_1_method_24_code
def yX3_rowGoesOn : MethodName := ⟨RX3, "rowGoesOn", "()Z"⟩
abbrev cX3_running : ByteArray := prog_1_method_11_code
def yX3_running : MethodName := ⟨RX3, "running", "()I"⟩
abbrev cX3_sharing : ByteArray := prog_1_method_14_code
def yX3_sharing : MethodName := ⟨RX3, "sharing", "(II)I"⟩
abbrev cX3_stage : ByteArray := prog_1_method_2_code
def yX3_stage : MethodName := ⟨RX3, "stage", "(II)Z"⟩
abbrev cX3_state : ByteArray := prog_1_method_8_code
def yX3_state : MethodName := ⟨RX3, "state", "(I)I"⟩
abbrev cX3_step : ByteArray := prog_1_method_4_code
def yX3_step : MethodName := ⟨RX3, "step", "()I"⟩
abbrev cX3_steps : ByteArray := prog_1_method_5_code
def yX3_steps : MethodName := ⟨RX3, "steps", "(I)I"⟩
abbrev cX3_takeStep : ByteArray := prog_1_method_26_code
def yX3_takeStep : MethodName := ⟨RX3, "takeStep", "()I"⟩
abbrev cX3_touchToRead : ByteArray := prog_1_method_37_code
def yX3_touchToRead : MethodName := ⟨RX3, "touchToRead", "(LBranchingKernel$Proc;I)I"⟩
abbrev cX3_waitForChild : ByteArray := prog_1_method_35_code
def yX3_waitForChild : MethodName := ⟨RX3, "waitForChild", "(II)I"⟩
abbrev cX3_wordAt : ByteArray := prog_1_method_41_code
def yX3_wordAt : MethodName := ⟨RX3, "wordAt", "(LBranchingKernel$Proc;I)I"⟩
abbrev cX3_writeFrom : ByteArray := prog_1_method_31_code
def yX3_writeFrom : MethodName := ⟨RX3, "writeFrom", "(III)I"⟩
abbrev cX4_alone : ByteArray := prog_6_method_5_code
def yX4_alone : MethodName := ⟨RX4, "alone", "(I)Z"⟩
abbrev cX4_await : ByteArray := prog_6_method_19_code
def yX4_await : MethodName := ⟨RX4, "await", "(II)I"⟩
abbrev cX4_choose : ByteArray := prog_6_method_16_code
def yX4_choose : MethodName := ⟨RX4, "choose", "()Z"⟩
abbrev cX4_code : ByteArray := prog_6_method_26_code
def yX4_code : MethodName := ⟨RX4, "code", "(I)I"⟩
abbrev cX4_end : ByteArray := prog_6_method_12_code
def yX4_end : MethodName := ⟨RX4, "end", "(II)V"⟩
abbrev cX4_firstFree : ByteArray := prog_6_method_10_code
def yX4_firstFree : MethodName := ⟨RX4, "firstFree", "()I"⟩
abbrev cX4_fork : ByteArray := prog_6_method_17_code
def yX4_fork : MethodName := ⟨RX4, "fork", "(II)I"⟩
abbrev cX4_frames : ByteArray := prog_6_method_3_code
def yX4_frames : MethodName := ⟨RX4, "frames", "()I"⟩
abbrev cX4_free : ByteArray := prog_6_method_13_code
def yX4_free : MethodName := ⟨RX4, "free", "(I)V"⟩
abbrev cX4_grow : ByteArray := prog_6_method_18_code
def yX4_grow : MethodName := ⟨RX4, "grow", "(III)V"⟩
abbrev cX4_init : ByteArray := prog_6_method_1_code
def yX4_init : MethodName := ⟨RX4, "<init>", "(II)V"⟩
abbrev cX4_isProcess : ByteArray := prog_6_method_8_code
def yX4_isProcess : MethodName := ⟨RX4, "isProcess", "(I)Z"⟩
abbrev cX4_kill : ByteArray := prog_6_method_14_code
def yX4_kill : MethodName := ⟨RX4, "kill", "(I)Z"⟩
abbrev cX4_lives : ByteArray := prog_6_method_9_code
def yX4_lives : MethodName := ⟨RX4, "lives", "(I)Z"⟩
abbrev cX4_load : ByteArray := prog_6_method_11_code
def yX4_load : MethodName := ⟨RX4, "load", "(I)I"⟩
abbrev cX4_parent : ByteArray := prog_6_method_25_code
def yX4_parent : MethodName := ⟨RX4, "parent", "(I)I"⟩
abbrev cX4_peek : ByteArray := prog_6_method_29_code
def yX4_peek : MethodName := ⟨RX4, "peek", "(II)I"⟩
abbrev cX4_perform : ByteArray := prog_6_method_21_code
def yX4_perform : MethodName := ⟨RX4, "perform", "(II)I"⟩
abbrev cX4_print : ByteArray := prog_6_method_32_code
def yX4_print : MethodName := ⟨RX4, "print", "(I)I"⟩
abbrev cX4_printed : ByteArray := prog_6_method_31_code
def yX4_printed : MethodName := ⟨RX4, "printed", "()I"⟩
abbrev cX4_reach : ByteArray := prog_6_method_6_code
def yX4_reach : MethodName := ⟨RX4, "reach", "(IIZ)Z"⟩
abbrev cX4_reap : ByteArray := prog_6_method_15_code
def yX4_reap : MethodName := ⟨RX4, "reap", "(I)I"⟩
abbrev cX4_register : ByteArray := prog_6_method_28_code
def yX4_register : MethodName := ⟨RX4, "register", "(II)I"⟩
abbrev cX4_release : ByteArray := prog_6_method_7_code
def yX4_release : MethodName := ⟨RX4, "release", "(I)V"⟩
abbrev cX4_running : ByteArray := prog_6_method_27_code
def yX4_running : MethodName := ⟨RX4, "running", "()I"⟩
abbrev cX4_sharers : ByteArray := prog_6_method_4_code
def yX4_sharers : MethodName := ⟨RX4, "sharers", "(I)I"⟩
abbrev cX4_sharing : ByteArray := prog_6_method_30_code
def yX4_sharing : MethodName := ⟨RX4, "sharing", "(II)I"⟩
abbrev cX4_simple : ByteArray := prog_6_method_20_code
def yX4_simple : MethodName := ⟨RX4, "simple", "(IIIII)I"⟩
abbrev cX4_stage : ByteArray := prog_6_method_2_code
def yX4_stage : MethodName := ⟨RX4, "stage", "(II)Z"⟩
abbrev cX4_state : ByteArray := prog_6_method_24_code
def yX4_state : MethodName := ⟨RX4, "state", "(I)I"⟩
abbrev cX4_step : ByteArray := prog_6_method_22_code
def yX4_step : MethodName := ⟨RX4, "step", "()I"⟩
abbrev cX4_steps : ByteArray := prog_6_method_23_code
def yX4_steps : MethodName := ⟨RX4, "steps", "(I)I"⟩
end
section
/-! my own machine over whole worlds: cells by index (kind, number), their ints in one store, their shape (references, lengths) fixed -/
def q_ws : List Cond := lw_tbl.filter goodWord
theorem q_ws_good {w : Cond} (h : w ∈ q_ws) : (w.onTables && w.keeps) = true ∨ ∃ ty, w = .arrayClass ty := good_of_word (List.mem_filter.mp h).2
theorem q_ws_in {w : Cond} (h : w ∈ lw_tbl) (hg : goodWord w = true) : w ∈ q_ws := List.mem_filter.mpr ⟨h, hg⟩
abbrev q_ix : Type := Nat × Nat
abbrev q_v : Type := Int32 ⊕ Option q_ix
abbrev q_sh : Type := (Nat × List (Option (Option q_ix))) ⊕ ((ClassId × Nat) ⊕ (ClassId × Nat × (Nat → Option q_ix)))
abbrev q_st : Type := q_ix → Nat → Int32
abbrev q_wd : Type := List q_ix × (q_ix → Nat) × (q_ix → q_sh)
abbrev q_g : Type := va_G × ClassId × ClassId
abbrev q_cx : Type := Program × Launch × Env × State × MethodId × Array Value × List Frame × Method × Code × (Nat → Prop) × (State → Prop)
abbrev q_in : Type := ByteArray × MethodName × Nat × Option FieldType × Room
abbrev q_post : Type := Option q_v → q_wd → q_st → Prop
def q_ref (ad : q_ix → Nat) (r : Option q_ix) : Value := match r with
  | none => .null
  | some i => .ref (ad i)
def q_val (ad : q_ix → Nat) (v : q_v) : Value := match v with
  | .inl x => .int x
  | .inr r => q_ref ad r
def q_fld (ad : q_ix → Nat) (s : Nat → Int32) (k : Nat) (t : Option (Option q_ix)) : Value := match t with
  | none => .int (s k)
  | some r => q_ref ad r
def q_cell (ad : q_ix → Nat) (s : Nat → Int32) (h : q_sh) : va_E := match h with
  | .inl (c, fl) => .inr (c, fl.mapIdx (q_fld ad s))
  | .inr (.inl (cA, n)) => .inl (cA, n, .inl s)
  | .inr (.inr (cA, n, f)) => .inl (cA, n, .inr (.inr (.inr (.inr (fun j => (f j).map ad)))))
def q_wl (w : q_wd) (S : q_st) : va_W := w.1.map (fun i => (w.2.1 i, q_cell w.2.1 (S i) (w.2.2 i)))
def q_up (S : q_st) (i : q_ix) (k : Nat) (v : Int32) : q_st := fun j n => if j = i ∧ n = k then v else S j n
def q_tys (G : q_g) : List (ClassId × FieldType) := [(G.2.1, .int), (G.2.2, .object "BranchingKernel$Proc")]
theorem q_val_cat (ad : q_ix → Nat) (v : q_v) : (q_val ad v).category = 1 := by
  rcases v with x | (_ | i) <;> rfl
theorem q_wl_at {w : q_wd} {S : q_st} {i : q_ix} {k : Nat} (h : w.1[k]? = some i) : (q_wl w S)[k]? = some (w.2.1 i, q_cell w.2.1 (S i) (w.2.2 i)) := by
  unfold q_wl
  rw [List.getElem?_map, h]
  rfl
theorem q_set {w : q_wd} {S S' : q_st} {A : Nat → Prop} {i : q_ix} {k : Nat} {e : va_E} (hD : va_D A (q_wl w S)) (hk : w.1[k]? = some i) (he : q_cell w.2.1 (S' i) (w.2.2 i) = e) (ho : ∀ j, j ≠ i → S' j = S j) : (q_wl w S).set k (w.2.1 i, e) = q_wl w S' := by
  subst he
  apply List.ext_getElem?
  intro n
  have hlen : k < (q_wl w S).length := (List.getElem?_eq_some_iff.mp (q_wl_at (S := S) hk)).1
  by_cases hn : n = k
  · subst hn
    rw [List.getElem?_set_self hlen, q_wl_at hk]
  · rw [List.getElem?_set_ne (Ne.symm hn)]
    cases hj : w.1[n]? with
    | none =>
      unfold q_wl
      rw [List.getElem?_map, List.getElem?_map, hj]
      rfl
    | some j =>
      have hji : j ≠ i := by
        intro h
        subst h
        exact hn (hD.1 n k _ _ (q_wl_at hj) (q_wl_at hk) rfl)
      rw [q_wl_at hj, q_wl_at hj, ho j hji]
theorem q_up_self (S : q_st) (i : q_ix) (k : Nat) (v : Int32) : q_up S i k v i = upd (S i) k v := by
  funext n
  simp [q_up, upd]
theorem q_up_other (S : q_st) (i : q_ix) (k : Nat) (v : Int32) (j : q_ix) (h : j ≠ i) : q_up S i k v j = S j := by
  funext n
  simp [q_up, h]
theorem q_fld_set {ad : q_ix → Nat} {s : Nat → Int32} {fl : List (Option (Option q_ix))} {k : Nat} {v : Int32} (hk : fl[k]? = some none) : fl.mapIdx (q_fld ad (upd s k v)) = (fl.mapIdx (q_fld ad s)).set k (.int v) := by
  apply List.ext_getElem?
  intro n
  by_cases hn : n = k
  · subst hn
    have hl : n < (fl.mapIdx (q_fld ad s)).length := by
      rw [List.length_mapIdx]
      exact (List.getElem?_eq_some_iff.mp hk).1
    rw [List.getElem?_set_self hl, List.getElem?_mapIdx, hk]
    simp [q_fld, upd]
  · rw [List.getElem?_set_ne (Ne.symm hn), List.getElem?_mapIdx, List.getElem?_mapIdx]
    cases fl[n]? with
    | none => rfl
    | some t =>
      rcases t with _ | r
      · simp [q_fld, upd, hn]
      · rfl
/-- the locals: what the list says of them -/
def q_ll (ad : q_ix → Nat) : Nat → List (Option q_v) → List (Nat × Value)
  | _, [] => []
  | k, none :: r => q_ll ad (k + 1) r
  | k, some v :: r => (k, q_val ad v) :: q_ll ad (k + 1) r
theorem q_ll_mem {ad : q_ix → Nat} {q : Nat × Value} : ∀ (ls : List (Option q_v)) (k : Nat), q ∈ q_ll ad k ls ↔ ∃ i v, ls[i]? = some (some v) ∧ q = (k + i, q_val ad v)
  | [], k => by simp [q_ll]
  | none :: r, k => by
    show q ∈ q_ll ad (k + 1) r ↔ _
    rw [q_ll_mem r (k + 1)]
    constructor
    · rintro ⟨i, v, h1, h2⟩
      exact ⟨i + 1, v, by simpa using h1, by rw [h2]; congr 1; omega⟩
    · rintro ⟨i, v, h1, h2⟩
      cases i with
      | zero => simp at h1
      | succ i => exact ⟨i, v, by simpa using h1, by rw [h2]; congr 1; omega⟩
  | some u :: r, k => by
    show q ∈ (k, q_val ad u) :: q_ll ad (k + 1) r ↔ _
    rw [List.mem_cons, q_ll_mem r (k + 1)]
    constructor
    · rintro (h | ⟨i, v, h1, h2⟩)
      · exact ⟨0, u, rfl, h⟩
      · exact ⟨i + 1, v, by simpa using h1, by rw [h2]; congr 1; omega⟩
    · rintro ⟨i, v, h1, h2⟩
      cases i with
      | zero =>
        left
        simp at h1
        rw [h2, h1]
        rfl
      | succ i => exact Or.inr ⟨i, v, by simpa using h1, by rw [h2]; congr 1; omega⟩
def q_lo (la : Array Slot) (nL : Nat) (ad : q_ix → Nat) (ls : List (Option q_v)) : Prop := lv_has la nL (q_ll ad 0 ls)
theorem q_lo_at {la : Array Slot} {nL : Nat} {ad : q_ix → Nat} {ls : List (Option q_v)} (h : q_lo la nL ad ls) {i : Nat} {v : q_v} (hi : ls[i]? = some (some v)) : la[i]? = some (.val (q_val ad v)) :=
  h.2.2 (i, q_val ad v) ((q_ll_mem ls 0).mpr ⟨i, v, hi, by rw [Nat.zero_add]⟩)
theorem q_lo_of {la : Array Slot} {nL : Nat} {ad ad' : q_ix → Nat} {ls ls' : List (Option q_v)} (h : q_lo la nL ad ls) (hh : ∀ (i : Nat) (v : q_v), ls'[i]? = some (some v) → ∃ u : q_v, ls[i]? = some (some u) ∧ q_val ad u = q_val ad' v) : q_lo la nL ad' ls' := by
  refine ⟨h.1, h.2.1, fun q hq => ?_⟩
  obtain ⟨i, v, h1, rfl⟩ := (q_ll_mem ls' 0).mp hq
  obtain ⟨u, h2, h3⟩ := hh i v h1
  show la[0 + i]? = _
  rw [Nat.zero_add]
  rw [← h3]
  exact q_lo_at h h2
theorem q_lo_st {la : Array Slot} {nL : Nat} {ad : q_ix → Nat} {ls : List (Option q_v)} {i : Nat} {v : q_v} (h : lv_has la nL ((i, q_val ad v) :: (q_ll ad 0 ls).filter (fun q => !(q.1 == i) && !(q.1 + 1 == i && q.2.category == 2)))) : q_lo la nL ad (ls.set i (some v)) := by
  refine ⟨h.1, h.2.1, fun q hq => h.2.2 q ?_⟩
  obtain ⟨j, u, h1, rfl⟩ := (q_ll_mem _ 0).mp hq
  by_cases hj : j = i
  · subst hj
    have hl : j < ls.length := by
      have := (List.getElem?_eq_some_iff.mp h1).1
      simpa using this
    rw [List.getElem?_set_self hl] at h1
    cases h1
    rw [Nat.zero_add]
    exact List.mem_cons_self
  · rw [List.getElem?_set_ne (Ne.symm hj)] at h1
    refine List.mem_cons_of_mem _ (List.mem_filter.mpr ⟨(q_ll_mem _ 0).mpr ⟨j, u, h1, rfl⟩, ?_⟩)
    have hc := q_val_cat ad u
    simp [hj, hc]
/-- what a method's walk knows -/
def q_fx (G : q_g) (X : q_cx) (I : q_in) : Prop := match X with
  | (p, _, _, s, m, args, _, meth, c, A, _) => p.tables.exec = Jvm.exec ∧ c.code = I.1 ∧ c.maxLocals = I.2.2.1 ∧ (∀ w ∈ q_ws, w.before args s = true) ∧ s.vm.findClass I.2.1.cls = some m.cls ∧ meth.name = I.2.1.name ∧ meth.sig.returnType = I.2.2.2.1 ∧ meth.locks = false ∧ va_K G.1 vwCl (q_tys G) s ∧ (∀ q : Nat, s.heap.size ≤ q → A q)
def q_Q (G : q_g) (A : Nat → Prop) (post : q_post) : Array Value → State → Outcome → State → Prop := fun _ st oc t => (∃ (r : Option q_v) (w : q_wd) (S : q_st), oc = .returned (r.map (q_val w.2.1)) ∧ post r w S ∧ va_P G.1 vwCl (q_wl w S) t.heap ∧ va_K G.1 vwCl (q_tys G) t ∧ va_D A (q_wl w S)) ∧ va_F A st t
def q_W (G : q_g) (X : q_cx) (I : q_in) (w : q_wd) (cn : Nat × Nat) (pc : Nat) (ls : List (Option q_v)) (st : List q_v) (S : q_st) : Prop := match X with
  | (p, l, e, s, m, args, below, meth, c, A, Qf) => ∀ (H : Heap) (locs : List Loc) (la : Array Slot), va_P G.1 vwCl (q_wl w S) H → va_D A (q_wl w S) → va_S A s.heap H locs → q_lo la I.2.2.1 w.2.1 ls → W p l e I.2.2.2.2 s m args below meth c H locs cn.1 cn.2 Qf (F0 m pc la (st.map (q_val w.2.1)))
/-- what the walk of a method is to end in -/
def q_en (G : q_g) (X : q_cx) (I : q_in) (post : q_post) : Prop := match X with
  | (_, _, _, s, _, args, below, _, _, A, Qf) => Qf = MQ below (q_Q G A post) args s I.2.2.2.2.cells I.2.2.2.2.slots A
/-- a method's contract at these arguments, in this world -/
def q_Ct (l : Launch) (G : q_g) (I : q_in) (av : List q_v) (w : q_wd) (S : q_st) (post : q_post) : Prop := ∀ sz : Nat, Met l I.2.1 (.code I.2.1 I.1 I.2.2.1 I.2.2.2.1 :: q_ws) I.2.2.2.2 (va_Pc (av.map (q_val w.2.1)) (fun U => U.heap.size = sz ∧ va_P G.1 vwCl (q_wl w S) U.heap ∧ va_K G.1 vwCl (q_tys G) U ∧ va_D (fun _ => True) (q_wl w S))) (q_Q G (va_A (q_wl w S) sz) post) I.2.2.2.2.cells I.2.2.2.2.slots (va_A (q_wl w S) sz)
theorem q_enter {l : Launch} {G : q_g} {I : q_in} {av : List q_v} {w : q_wd} {S : q_st} {post : q_post} (hy : plainName I.2.1.cls = true) (ha : av.length ≤ I.2.2.1) (h : ∀ X : q_cx, q_fx G X I → q_en G X I post → q_W G X I w (0, 0) 0 (av.map some ++ List.replicate (I.2.2.1 - av.length) none) [] S) : q_Ct l G I av w S post := by
  intro sz
  refine Met.ofW (cc := I.1) (maxL := I.2.2.1) (ret := I.2.2.2.1) hy rfl ?_
  intro p e s m args below meth c s₁ B hml hv
  obtain ⟨rfl, hsz, hP, hK, hD0⟩ := hv
  have hts := atoms_spec (ws := .code I.2.1 I.1 I.2.2.1 I.2.2.2.1 :: q_ws) B.pre
  have hown : s.vm.findClass I.2.1.cls = some m.cls := findClass_of_methodNamed B.named
  have hnm : meth.name = I.2.1.name := (name_of_methodNamed B.named B.method).1
  subst hsz
  have hD := hD0.self (sz := s.heap.size)
  have hcat : ∀ (vs : List q_v), (lg_sl (vs.map (q_val w.2.1))) = vs.map (fun v => Slot.val (q_val w.2.1 v)) := by
    intro vs
    induction vs with
    | nil => rfl
    | cons v t ih =>
      have hc := q_val_cat w.2.1 v
      simp only [lg_sl, List.map_cons, List.flatMap_cons] at ih ⊢
      rw [ih, hc]
      rfl
  have hl := lv_entry (av.map (q_val w.2.1)) (n := I.2.2.1) (by rw [hcat]; simpa using ha)
  rw [lg_entry_eq]
  generalize (lg_sl (av.map (q_val w.2.1)) ++ List.replicate (I.2.2.1 - (lg_sl (av.map (q_val w.2.1))).length) Slot.unset).toArray = la at hl ⊢
  have hargs : ∀ (vs : List q_v) (k i : Nat) (v : q_v), vs[i]? = some v → (k + i, q_val w.2.1 v) ∈ lv_args k (vs.map (q_val w.2.1)) := by
    intro vs
    induction vs with
    | nil => intro k i v hv; simp at hv
    | cons u t ih =>
      intro k i v hv
      have hc : ¬ (q_val w.2.1 u).category = 2 := by rw [q_val_cat]; decide
      show _ ∈ (k, q_val w.2.1 u) :: lv_args (if (q_val w.2.1 u).category = 2 then k + 2 else k + 1) (t.map (q_val w.2.1))
      rw [if_neg hc]
      cases i with
      | zero =>
        simp at hv
        subst hv
        exact List.mem_cons_self
      | succ i =>
        refine List.mem_cons_of_mem _ ?_
        have := ih (k + 1) i v (by simpa using hv)
        rw [show k + (i + 1) = k + 1 + i by omega]
        exact this
  refine h (p, l, e, s, m, _, below, meth, c, va_A (q_wl w S) s.heap.size, _) ⟨B.exec, B.bytes, hml, fun w hw => hts w (List.mem_cons_of_mem _ hw), hown, hnm, B.returns, B.notSynchronized, hK, fun q hq => Or.inr hq⟩ rfl s.heap [] la hP hD va_S.rf ⟨hl.1, hl.2.1, fun q hq => ?_⟩
  obtain ⟨i, v, h1, rfl⟩ := (q_ll_mem _ 0).mp hq
  refine hl.2.2 _ ?_
  by_cases hi : i < av.length
  · rw [List.getElem?_append_left (by simpa using hi), List.getElem?_map] at h1
    cases hv : av[i]? with
    | none => rw [hv] at h1; cases h1
    | some u =>
      rw [hv] at h1
      cases h1
      exact hargs av 0 i _ hv
  · rw [List.getElem?_append_right (by simpa using hi)] at h1
    rw [List.getElem?_replicate] at h1
    split at h1 <;> cases h1
end
section
/-! rows of my machine: one for each kind of instruction (written by wip/whole/mk_rows.py) -/
theorem q_ltI (x y : Int32) : x < y ↔ x.toInt < y.toInt := Int32.lt_iff_toInt_lt
theorem q_leI (x y : Int32) : x ≤ y ↔ x.toInt ≤ y.toInt := Int32.le_iff_toInt_le
theorem q_forget {G : q_g} {X : q_cx} {I : q_in} {w : q_wd} {cn : Nat × Nat} {pc : Nat} {ls : List (Option q_v)} {st : List q_v} {S : q_st} {ls' : List (Option q_v)} (h : ∀ (i : Nat) (v : q_v), ls'[i]? = some (some v) → ls[i]? = some (some v)) (kk : q_W G X I w cn (pc) ls' (st) S) : q_W G X I w cn (pc) ls (st) S := by
  obtain ⟨p, l, e, s, m, args, below, meth, c, A, Qf⟩ := X
  intro H locs la hP hD hS hl
  exact kk H locs la hP hD hS (q_lo_of hl (fun i v hi => ⟨v, h i v hi, rfl⟩))
theorem q_iconst {G : q_g} {X : q_cx} {I : q_in} {w : q_wd} {cn : Nat × Nat} {pc : Nat} {ls : List (Option q_v)} {st : List q_v} {S : q_st} (F : q_fx G X I) {n : Int} (v : Int32) (hd : decode I.1 pc = .ok (.iconst n, 1)) (hv : Int32.ofInt n = v) (kk : q_W G X I w cn (pc + 1) ls (.inl v :: st) S) : q_W G X I w cn (pc) ls (st) S := by
  obtain ⟨p, l, e, s, m, args, below, meth, c, A, Qf⟩ := X
  obtain ⟨hx, hb, hml, hts, hown, hnm, hr, hlk, hK, hA⟩ := F
  intro H locs la hP hD hS hl
  exact lv_iconst hx hb hd hv (kk H locs la hP hD hS hl)
theorem q_bipush {G : q_g} {X : q_cx} {I : q_in} {w : q_wd} {cn : Nat × Nat} {pc : Nat} {ls : List (Option q_v)} {st : List q_v} {S : q_st} (F : q_fx G X I) {n : Int} (v : Int32) (hd : decode I.1 pc = .ok (.bipush n, 2)) (hv : (Int8.ofInt n).toInt32 = v) (kk : q_W G X I w cn (pc + 2) ls (.inl v :: st) S) : q_W G X I w cn (pc) ls (st) S := by
  obtain ⟨p, l, e, s, m, args, below, meth, c, A, Qf⟩ := X
  obtain ⟨hx, hb, hml, hts, hown, hnm, hr, hlk, hK, hA⟩ := F
  intro H locs la hP hD hS hl
  exact lv_bipush hx hb hd hv (kk H locs la hP hD hS hl)
theorem q_sipush {G : q_g} {X : q_cx} {I : q_in} {w : q_wd} {cn : Nat × Nat} {pc : Nat} {ls : List (Option q_v)} {st : List q_v} {S : q_st} (F : q_fx G X I) {n : Int} (v : Int32) (hd : decode I.1 pc = .ok (.sipush n, 3)) (hv : (Int16.ofInt n).toInt32 = v) (kk : q_W G X I w cn (pc + 3) ls (.inl v :: st) S) : q_W G X I w cn (pc) ls (st) S := by
  obtain ⟨p, l, e, s, m, args, below, meth, c, A, Qf⟩ := X
  obtain ⟨hx, hb, hml, hts, hown, hnm, hr, hlk, hK, hA⟩ := F
  intro H locs la hP hD hS hl
  exact lv_sipush hx hb hd hv (kk H locs la hP hD hS hl)
theorem q_iload_n {G : q_g} {X : q_cx} {I : q_in} {w : q_wd} {cn : Nat × Nat} {pc : Nat} {ls : List (Option q_v)} {st : List q_v} {S : q_st} (F : q_fx G X I) {k : Fin 4} {x : Int32} (hd : decode I.1 pc = .ok (.iload_n k, 1)) (hl0 : ls[(k : Nat)]? = some (some (.inl x))) (kk : q_W G X I w cn (pc + 1) ls (.inl x :: st) S) : q_W G X I w cn (pc) ls (st) S := by
  obtain ⟨p, l, e, s, m, args, below, meth, c, A, Qf⟩ := X
  obtain ⟨hx, hb, hml, hts, hown, hnm, hr, hlk, hK, hA⟩ := F
  intro H locs la hP hD hS hl
  exact lv_iload_n hx hb hd rfl (q_lo_at hl hl0) (kk H locs la hP hD hS hl)
theorem q_iload {G : q_g} {X : q_cx} {I : q_in} {w : q_wd} {cn : Nat × Nat} {pc : Nat} {ls : List (Option q_v)} {st : List q_v} {S : q_st} (F : q_fx G X I) {i : Nat} {x : Int32} (hd : decode I.1 pc = .ok (.iload i, 2)) (hl0 : ls[i]? = some (some (.inl x))) (kk : q_W G X I w cn (pc + 2) ls (.inl x :: st) S) : q_W G X I w cn (pc) ls (st) S := by
  obtain ⟨p, l, e, s, m, args, below, meth, c, A, Qf⟩ := X
  obtain ⟨hx, hb, hml, hts, hown, hnm, hr, hlk, hK, hA⟩ := F
  intro H locs la hP hD hS hl
  exact lv_iload hx hb hd (q_lo_at hl hl0) (kk H locs la hP hD hS hl)
theorem q_aload_n {G : q_g} {X : q_cx} {I : q_in} {w : q_wd} {cn : Nat × Nat} {pc : Nat} {ls : List (Option q_v)} {st : List q_v} {S : q_st} (F : q_fx G X I) {k : Fin 4} {x : q_ix} (hd : decode I.1 pc = .ok (.aload_n k, 1)) (hl0 : ls[(k : Nat)]? = some (some (.inr (some x)))) (kk : q_W G X I w cn (pc + 1) ls (.inr (some x) :: st) S) : q_W G X I w cn (pc) ls (st) S := by
  obtain ⟨p, l, e, s, m, args, below, meth, c, A, Qf⟩ := X
  obtain ⟨hx, hb, hml, hts, hown, hnm, hr, hlk, hK, hA⟩ := F
  intro H locs la hP hD hS hl
  exact lv_aload_n hx hb hd rfl (q_lo_at hl hl0) (kk H locs la hP hD hS hl)
theorem q_aload {G : q_g} {X : q_cx} {I : q_in} {w : q_wd} {cn : Nat × Nat} {pc : Nat} {ls : List (Option q_v)} {st : List q_v} {S : q_st} (F : q_fx G X I) {i : Nat} {x : q_ix} (hd : decode I.1 pc = .ok (.aload i, 2)) (hl0 : ls[i]? = some (some (.inr (some x)))) (kk : q_W G X I w cn (pc + 2) ls (.inr (some x) :: st) S) : q_W G X I w cn (pc) ls (st) S := by
  obtain ⟨p, l, e, s, m, args, below, meth, c, A, Qf⟩ := X
  obtain ⟨hx, hb, hml, hts, hown, hnm, hr, hlk, hK, hA⟩ := F
  intro H locs la hP hD hS hl
  exact lv_aload hx hb hd (q_lo_at hl hl0) (kk H locs la hP hD hS hl)
theorem q_istore_n0 {G : q_g} {X : q_cx} {I : q_in} {w : q_wd} {cn : Nat × Nat} {pc : Nat} {ls : List (Option q_v)} {st : List q_v} {S : q_st} (F : q_fx G X I) {k : Fin 4} {x : Int32} (hd : decode I.1 pc = .ok (.istore_n k, 1)) (hn : (k : Nat) < I.2.2.1) (kk : q_W G X I w cn (pc + 1) (ls.set (k : Nat) (some (.inl x))) (st) S) : q_W G X I w cn (pc) ls (.inl x :: st) S := by
  obtain ⟨p, l, e, s, m, args, below, meth, c, A, Qf⟩ := X
  obtain ⟨hx, hb, hml, hts, hown, hnm, hr, hlk, hK, hA⟩ := F
  intro H locs la hP hD hS hl
  exact lv_istore_n hx hb hd rfl hl hn rfl (fun la' h' => kk H locs la' hP hD hS (q_lo_st (v := .inl x) h'))
theorem q_istore0 {G : q_g} {X : q_cx} {I : q_in} {w : q_wd} {cn : Nat × Nat} {pc : Nat} {ls : List (Option q_v)} {st : List q_v} {S : q_st} (F : q_fx G X I) {i : Nat} {x : Int32} (hd : decode I.1 pc = .ok (.istore i, 2)) (hn : i < I.2.2.1) (kk : q_W G X I w cn (pc + 2) (ls.set i (some (.inl x))) (st) S) : q_W G X I w cn (pc) ls (.inl x :: st) S := by
  obtain ⟨p, l, e, s, m, args, below, meth, c, A, Qf⟩ := X
  obtain ⟨hx, hb, hml, hts, hown, hnm, hr, hlk, hK, hA⟩ := F
  intro H locs la hP hD hS hl
  exact lv_istore hx hb hd hl hn rfl (fun la' h' => kk H locs la' hP hD hS (q_lo_st (v := .inl x) h'))
theorem q_astore_n0 {G : q_g} {X : q_cx} {I : q_in} {w : q_wd} {cn : Nat × Nat} {pc : Nat} {ls : List (Option q_v)} {st : List q_v} {S : q_st} (F : q_fx G X I) {k : Fin 4} {x : q_ix} (hd : decode I.1 pc = .ok (.astore_n k, 1)) (hn : (k : Nat) < I.2.2.1) (kk : q_W G X I w cn (pc + 1) (ls.set (k : Nat) (some (.inr (some x)))) (st) S) : q_W G X I w cn (pc) ls (.inr (some x) :: st) S := by
  obtain ⟨p, l, e, s, m, args, below, meth, c, A, Qf⟩ := X
  obtain ⟨hx, hb, hml, hts, hown, hnm, hr, hlk, hK, hA⟩ := F
  intro H locs la hP hD hS hl
  exact lv_astore_n hx hb hd rfl hl hn rfl (fun la' h' => kk H locs la' hP hD hS (q_lo_st (v := .inr (some x)) h'))
theorem q_astore0 {G : q_g} {X : q_cx} {I : q_in} {w : q_wd} {cn : Nat × Nat} {pc : Nat} {ls : List (Option q_v)} {st : List q_v} {S : q_st} (F : q_fx G X I) {i : Nat} {x : q_ix} (hd : decode I.1 pc = .ok (.astore i, 2)) (hn : i < I.2.2.1) (kk : q_W G X I w cn (pc + 2) (ls.set i (some (.inr (some x)))) (st) S) : q_W G X I w cn (pc) ls (.inr (some x) :: st) S := by
  obtain ⟨p, l, e, s, m, args, below, meth, c, A, Qf⟩ := X
  obtain ⟨hx, hb, hml, hts, hown, hnm, hr, hlk, hK, hA⟩ := F
  intro H locs la hP hD hS hl
  exact lv_astore hx hb hd hl hn rfl (fun la' h' => kk H locs la' hP hD hS (q_lo_st (v := .inr (some x)) h'))
theorem q_iinc0 {G : q_g} {X : q_cx} {I : q_in} {w : q_wd} {cn : Nat × Nat} {pc : Nat} {ls : List (Option q_v)} {st : List q_v} {S : q_st} (F : q_fx G X I) {i : Nat} {n : Int} {x : Int32} (hd : decode I.1 pc = .ok (.iinc i n, 3)) (hl0 : ls[i]? = some (some (.inl x))) (v : Int32) (hv : x + Int32.ofInt n = v) (hn : i < I.2.2.1) (kk : q_W G X I w cn (pc + 3) (ls.set i (some (.inl v))) (st) S) : q_W G X I w cn (pc) ls (st) S := by
  obtain ⟨p, l, e, s, m, args, below, meth, c, A, Qf⟩ := X
  obtain ⟨hx, hb, hml, hts, hown, hnm, hr, hlk, hK, hA⟩ := F
  intro H locs la hP hD hS hl
  obtain ⟨k, hk⟩ := List.getElem?_of_mem ((q_ll_mem (q := (i, .int x)) ls 0).mpr ⟨i, .inl x, hl0, by rw [Nat.zero_add]; rfl⟩)
  exact lv_iinc hx hb hd hl hk hv hn rfl (fun la' h' => kk H locs la' hP hD hS (q_lo_st (v := .inl v) h'))
theorem q_istore_n_0 {G : q_g} {X : q_cx} {I : q_in} {w : q_wd} {cn : Nat × Nat} {pc : Nat} {st : List q_v} {S : q_st} {a0 : Option q_v} {r : List (Option q_v)} (F : q_fx G X I) {x : Int32} (hd : decode I.1 pc = .ok (.istore_n 0, 1)) (hn : 0 < I.2.2.1) (kk : q_W G X I w cn (pc + 1) (some (.inl x) :: r) (st) S) : q_W G X I w cn (pc) (a0 :: r) (.inl x :: st) S := q_istore_n0 (k := 0) F hd hn kk
theorem q_astore_n_0 {G : q_g} {X : q_cx} {I : q_in} {w : q_wd} {cn : Nat × Nat} {pc : Nat} {st : List q_v} {S : q_st} {a0 : Option q_v} {r : List (Option q_v)} (F : q_fx G X I) {x : q_ix} (hd : decode I.1 pc = .ok (.astore_n 0, 1)) (hn : 0 < I.2.2.1) (kk : q_W G X I w cn (pc + 1) (some (.inr (some x)) :: r) (st) S) : q_W G X I w cn (pc) (a0 :: r) (.inr (some x) :: st) S := q_astore_n0 (k := 0) F hd hn kk
theorem q_iinc_0 {G : q_g} {X : q_cx} {I : q_in} {w : q_wd} {cn : Nat × Nat} {pc : Nat} {st : List q_v} {S : q_st} {r : List (Option q_v)} (F : q_fx G X I) {n : Int} {x : Int32} (v : Int32) (hd : decode I.1 pc = .ok (.iinc 0 n, 3)) (hv : x + Int32.ofInt n = v) (hn : 0 < I.2.2.1) (kk : q_W G X I w cn (pc + 3) (some (.inl v) :: r) (st) S) : q_W G X I w cn (pc) (some (.inl x) :: r) (st) S := q_iinc0 (i := 0) F hd rfl v hv hn kk
theorem q_drop_0 {G : q_g} {X : q_cx} {I : q_in} {w : q_wd} {cn : Nat × Nat} {pc : Nat} {st : List q_v} {S : q_st} {a0 : Option q_v} {r : List (Option q_v)} (kk : q_W G X I w cn (pc) (none :: r) (st) S) : q_W G X I w cn (pc) (a0 :: r) (st) S := q_forget (fun i v h => by
  by_cases hi : i = 0
  · subst hi; cases h
  · have h2 : ((a0 :: r).set 0 none)[i]? = some (some v) := h
    rw [List.getElem?_set_ne (Ne.symm hi)] at h2
    exact h2) kk
theorem q_istore_n_1 {G : q_g} {X : q_cx} {I : q_in} {w : q_wd} {cn : Nat × Nat} {pc : Nat} {st : List q_v} {S : q_st} {a0 a1 : Option q_v} {r : List (Option q_v)} (F : q_fx G X I) {x : Int32} (hd : decode I.1 pc = .ok (.istore_n 1, 1)) (hn : 1 < I.2.2.1) (kk : q_W G X I w cn (pc + 1) (a0 :: some (.inl x) :: r) (st) S) : q_W G X I w cn (pc) (a0 :: a1 :: r) (.inl x :: st) S := q_istore_n0 (k := 1) F hd hn kk
theorem q_astore_n_1 {G : q_g} {X : q_cx} {I : q_in} {w : q_wd} {cn : Nat × Nat} {pc : Nat} {st : List q_v} {S : q_st} {a0 a1 : Option q_v} {r : List (Option q_v)} (F : q_fx G X I) {x : q_ix} (hd : decode I.1 pc = .ok (.astore_n 1, 1)) (hn : 1 < I.2.2.1) (kk : q_W G X I w cn (pc + 1) (a0 :: some (.inr (some x)) :: r) (st) S) : q_W G X I w cn (pc) (a0 :: a1 :: r) (.inr (some x) :: st) S := q_astore_n0 (k := 1) F hd hn kk
theorem q_iinc_1 {G : q_g} {X : q_cx} {I : q_in} {w : q_wd} {cn : Nat × Nat} {pc : Nat} {st : List q_v} {S : q_st} {a0 : Option q_v} {r : List (Option q_v)} (F : q_fx G X I) {n : Int} {x : Int32} (v : Int32) (hd : decode I.1 pc = .ok (.iinc 1 n, 3)) (hv : x + Int32.ofInt n = v) (hn : 1 < I.2.2.1) (kk : q_W G X I w cn (pc + 3) (a0 :: some (.inl v) :: r) (st) S) : q_W G X I w cn (pc) (a0 :: some (.inl x) :: r) (st) S := q_iinc0 (i := 1) F hd rfl v hv hn kk
theorem q_drop_1 {G : q_g} {X : q_cx} {I : q_in} {w : q_wd} {cn : Nat × Nat} {pc : Nat} {st : List q_v} {S : q_st} {a0 a1 : Option q_v} {r : List (Option q_v)} (kk : q_W G X I w cn (pc) (a0 :: none :: r) (st) S) : q_W G X I w cn (pc) (a0 :: a1 :: r) (st) S := q_forget (fun i v h => by
  by_cases hi : i = 1
  · subst hi; cases h
  · have h2 : ((a0 :: a1 :: r).set 1 none)[i]? = some (some v) := h
    rw [List.getElem?_set_ne (Ne.symm hi)] at h2
    exact h2) kk
theorem q_istore_n_2 {G : q_g} {X : q_cx} {I : q_in} {w : q_wd} {cn : Nat × Nat} {pc : Nat} {st : List q_v} {S : q_st} {a0 a1 a2 : Option q_v} {r : List (Option q_v)} (F : q_fx G X I) {x : Int32} (hd : decode I.1 pc = .ok (.istore_n 2, 1)) (hn : 2 < I.2.2.1) (kk : q_W G X I w cn (pc + 1) (a0 :: a1 :: some (.inl x) :: r) (st) S) : q_W G X I w cn (pc) (a0 :: a1 :: a2 :: r) (.inl x :: st) S := q_istore_n0 (k := 2) F hd hn kk
theorem q_astore_n_2 {G : q_g} {X : q_cx} {I : q_in} {w : q_wd} {cn : Nat × Nat} {pc : Nat} {st : List q_v} {S : q_st} {a0 a1 a2 : Option q_v} {r : List (Option q_v)} (F : q_fx G X I) {x : q_ix} (hd : decode I.1 pc = .ok (.astore_n 2, 1)) (hn : 2 < I.2.2.1) (kk : q_W G X I w cn (pc + 1) (a0 :: a1 :: some (.inr (some x)) :: r) (st) S) : q_W G X I w cn (pc) (a0 :: a1 :: a2 :: r) (.inr (some x) :: st) S := q_astore_n0 (k := 2) F hd hn kk
theorem q_iinc_2 {G : q_g} {X : q_cx} {I : q_in} {w : q_wd} {cn : Nat × Nat} {pc : Nat} {st : List q_v} {S : q_st} {a0 a1 : Option q_v} {r : List (Option q_v)} (F : q_fx G X I) {n : Int} {x : Int32} (v : Int32) (hd : decode I.1 pc = .ok (.iinc 2 n, 3)) (hv : x + Int32.ofInt n = v) (hn : 2 < I.2.2.1) (kk : q_W G X I w cn (pc + 3) (a0 :: a1 :: some (.inl v) :: r) (st) S) : q_W G X I w cn (pc) (a0 :: a1 :: some (.inl x) :: r) (st) S := q_iinc0 (i := 2) F hd rfl v hv hn kk
theorem q_drop_2 {G : q_g} {X : q_cx} {I : q_in} {w : q_wd} {cn : Nat × Nat} {pc : Nat} {st : List q_v} {S : q_st} {a0 a1 a2 : Option q_v} {r : List (Option q_v)} (kk : q_W G X I w cn (pc) (a0 :: a1 :: none :: r) (st) S) : q_W G X I w cn (pc) (a0 :: a1 :: a2 :: r) (st) S := q_forget (fun i v h => by
  by_cases hi : i = 2
  · subst hi; cases h
  · have h2 : ((a0 :: a1 :: a2 :: r).set 2 none)[i]? = some (some v) := h
    rw [List.getElem?_set_ne (Ne.symm hi)] at h2
    exact h2) kk
theorem q_istore_n_3 {G : q_g} {X : q_cx} {I : q_in} {w : q_wd} {cn : Nat × Nat} {pc : Nat} {st : List q_v} {S : q_st} {a0 a1 a2 a3 : Option q_v} {r : List (Option q_v)} (F : q_fx G X I) {x : Int32} (hd : decode I.1 pc = .ok (.istore_n 3, 1)) (hn : 3 < I.2.2.1) (kk : q_W G X I w cn (pc + 1) (a0 :: a1 :: a2 :: some (.inl x) :: r) (st) S) : q_W G X I w cn (pc) (a0 :: a1 :: a2 :: a3 :: r) (.inl x :: st) S := q_istore_n0 (k := 3) F hd hn kk
theorem q_astore_n_3 {G : q_g} {X : q_cx} {I : q_in} {w : q_wd} {cn : Nat × Nat} {pc : Nat} {st : List q_v} {S : q_st} {a0 a1 a2 a3 : Option q_v} {r : List (Option q_v)} (F : q_fx G X I) {x : q_ix} (hd : decode I.1 pc = .ok (.astore_n 3, 1)) (hn : 3 < I.2.2.1) (kk : q_W G X I w cn (pc + 1) (a0 :: a1 :: a2 :: some (.inr (some x)) :: r) (st) S) : q_W G X I w cn (pc) (a0 :: a1 :: a2 :: a3 :: r) (.inr (some x) :: st) S := q_astore_n0 (k := 3) F hd hn kk
theorem q_iinc_3 {G : q_g} {X : q_cx} {I : q_in} {w : q_wd} {cn : Nat × Nat} {pc : Nat} {st : List q_v} {S : q_st} {a0 a1 a2 : Option q_v} {r : List (Option q_v)} (F : q_fx G X I) {n : Int} {x : Int32} (v : Int32) (hd : decode I.1 pc = .ok (.iinc 3 n, 3)) (hv : x + Int32.ofInt n = v) (hn : 3 < I.2.2.1) (kk : q_W G X I w cn (pc + 3) (a0 :: a1 :: a2 :: some (.inl v) :: r) (st) S) : q_W G X I w cn (pc) (a0 :: a1 :: a2 :: some (.inl x) :: r) (st) S := q_iinc0 (i := 3) F hd rfl v hv hn kk
theorem q_drop_3 {G : q_g} {X : q_cx} {I : q_in} {w : q_wd} {cn : Nat × Nat} {pc : Nat} {st : List q_v} {S : q_st} {a0 a1 a2 a3 : Option q_v} {r : List (Option q_v)} (kk : q_W G X I w cn (pc) (a0 :: a1 :: a2 :: none :: r) (st) S) : q_W G X I w cn (pc) (a0 :: a1 :: a2 :: a3 :: r) (st) S := q_forget (fun i v h => by
  by_cases hi : i = 3
  · subst hi; cases h
  · have h2 : ((a0 :: a1 :: a2 :: a3 :: r).set 3 none)[i]? = some (some v) := h
    rw [List.getElem?_set_ne (Ne.symm hi)] at h2
    exact h2) kk
theorem q_istore_4 {G : q_g} {X : q_cx} {I : q_in} {w : q_wd} {cn : Nat × Nat} {pc : Nat} {st : List q_v} {S : q_st} {a0 a1 a2 a3 a4 : Option q_v} {r : List (Option q_v)} (F : q_fx G X I) {x : Int32} (hd : decode I.1 pc = .ok (.istore 4, 2)) (hn : 4 < I.2.2.1) (kk : q_W G X I w cn (pc + 2) (a0 :: a1 :: a2 :: a3 :: some (.inl x) :: r) (st) S) : q_W G X I w cn (pc) (a0 :: a1 :: a2 :: a3 :: a4 :: r) (.inl x :: st) S := q_istore0 (i := 4) F hd hn kk
theorem q_astore_4 {G : q_g} {X : q_cx} {I : q_in} {w : q_wd} {cn : Nat × Nat} {pc : Nat} {st : List q_v} {S : q_st} {a0 a1 a2 a3 a4 : Option q_v} {r : List (Option q_v)} (F : q_fx G X I) {x : q_ix} (hd : decode I.1 pc = .ok (.astore 4, 2)) (hn : 4 < I.2.2.1) (kk : q_W G X I w cn (pc + 2) (a0 :: a1 :: a2 :: a3 :: some (.inr (some x)) :: r) (st) S) : q_W G X I w cn (pc) (a0 :: a1 :: a2 :: a3 :: a4 :: r) (.inr (some x) :: st) S := q_astore0 (i := 4) F hd hn kk
theorem q_iinc_4 {G : q_g} {X : q_cx} {I : q_in} {w : q_wd} {cn : Nat × Nat} {pc : Nat} {st : List q_v} {S : q_st} {a0 a1 a2 a3 : Option q_v} {r : List (Option q_v)} (F : q_fx G X I) {n : Int} {x : Int32} (v : Int32) (hd : decode I.1 pc = .ok (.iinc 4 n, 3)) (hv : x + Int32.ofInt n = v) (hn : 4 < I.2.2.1) (kk : q_W G X I w cn (pc + 3) (a0 :: a1 :: a2 :: a3 :: some (.inl v) :: r) (st) S) : q_W G X I w cn (pc) (a0 :: a1 :: a2 :: a3 :: some (.inl x) :: r) (st) S := q_iinc0 (i := 4) F hd rfl v hv hn kk
theorem q_drop_4 {G : q_g} {X : q_cx} {I : q_in} {w : q_wd} {cn : Nat × Nat} {pc : Nat} {st : List q_v} {S : q_st} {a0 a1 a2 a3 a4 : Option q_v} {r : List (Option q_v)} (kk : q_W G X I w cn (pc) (a0 :: a1 :: a2 :: a3 :: none :: r) (st) S) : q_W G X I w cn (pc) (a0 :: a1 :: a2 :: a3 :: a4 :: r) (st) S := q_forget (fun i v h => by
  by_cases hi : i = 4
  · subst hi; cases h
  · have h2 : ((a0 :: a1 :: a2 :: a3 :: a4 :: r).set 4 none)[i]? = some (some v) := h
    rw [List.getElem?_set_ne (Ne.symm hi)] at h2
    exact h2) kk
theorem q_istore_5 {G : q_g} {X : q_cx} {I : q_in} {w : q_wd} {cn : Nat × Nat} {pc : Nat} {st : List q_v} {S : q_st} {a0 a1 a2 a3 a4 a5 : Option q_v} {r : List (Option q_v)} (F : q_fx G X I) {x : Int32} (hd : decode I.1 pc = .ok (.istore 5, 2)) (hn : 5 < I.2.2.1) (kk : q_W G X I w cn (pc + 2) (a0 :: a1 :: a2 :: a3 :: a4 :: some (.inl x) :: r) (st) S) : q_W G X I w cn (pc) (a0 :: a1 :: a2 :: a3 :: a4 :: a5 :: r) (.inl x :: st) S := q_istore0 (i := 5) F hd hn kk
theorem q_astore_5 {G : q_g} {X : q_cx} {I : q_in} {w : q_wd} {cn : Nat × Nat} {pc : Nat} {st : List q_v} {S : q_st} {a0 a1 a2 a3 a4 a5 : Option q_v} {r : List (Option q_v)} (F : q_fx G X I) {x : q_ix} (hd : decode I.1 pc = .ok (.astore 5, 2)) (hn : 5 < I.2.2.1) (kk : q_W G X I w cn (pc + 2) (a0 :: a1 :: a2 :: a3 :: a4 :: some (.inr (some x)) :: r) (st) S) : q_W G X I w cn (pc) (a0 :: a1 :: a2 :: a3 :: a4 :: a5 :: r) (.inr (some x) :: st) S := q_astore0 (i := 5) F hd hn kk
theorem q_iinc_5 {G : q_g} {X : q_cx} {I : q_in} {w : q_wd} {cn : Nat × Nat} {pc : Nat} {st : List q_v} {S : q_st} {a0 a1 a2 a3 a4 : Option q_v} {r : List (Option q_v)} (F : q_fx G X I) {n : Int} {x : Int32} (v : Int32) (hd : decode I.1 pc = .ok (.iinc 5 n, 3)) (hv : x + Int32.ofInt n = v) (hn : 5 < I.2.2.1) (kk : q_W G X I w cn (pc + 3) (a0 :: a1 :: a2 :: a3 :: a4 :: some (.inl v) :: r) (st) S) : q_W G X I w cn (pc) (a0 :: a1 :: a2 :: a3 :: a4 :: some (.inl x) :: r) (st) S := q_iinc0 (i := 5) F hd rfl v hv hn kk
theorem q_drop_5 {G : q_g} {X : q_cx} {I : q_in} {w : q_wd} {cn : Nat × Nat} {pc : Nat} {st : List q_v} {S : q_st} {a0 a1 a2 a3 a4 a5 : Option q_v} {r : List (Option q_v)} (kk : q_W G X I w cn (pc) (a0 :: a1 :: a2 :: a3 :: a4 :: none :: r) (st) S) : q_W G X I w cn (pc) (a0 :: a1 :: a2 :: a3 :: a4 :: a5 :: r) (st) S := q_forget (fun i v h => by
  by_cases hi : i = 5
  · subst hi; cases h
  · have h2 : ((a0 :: a1 :: a2 :: a3 :: a4 :: a5 :: r).set 5 none)[i]? = some (some v) := h
    rw [List.getElem?_set_ne (Ne.symm hi)] at h2
    exact h2) kk
theorem q_istore_6 {G : q_g} {X : q_cx} {I : q_in} {w : q_wd} {cn : Nat × Nat} {pc : Nat} {st : List q_v} {S : q_st} {a0 a1 a2 a3 a4 a5 a6 : Option q_v} {r : List (Option q_v)} (F : q_fx G X I) {x : Int32} (hd : decode I.1 pc = .ok (.istore 6, 2)) (hn : 6 < I.2.2.1) (kk : q_W G X I w cn (pc + 2) (a0 :: a1 :: a2 :: a3 :: a4 :: a5 :: some (.inl x) :: r) (st) S) : q_W G X I w cn (pc) (a0 :: a1 :: a2 :: a3 :: a4 :: a5 :: a6 :: r) (.inl x :: st) S := q_istore0 (i := 6) F hd hn kk
theorem q_astore_6 {G : q_g} {X : q_cx} {I : q_in} {w : q_wd} {cn : Nat × Nat} {pc : Nat} {st : List q_v} {S : q_st} {a0 a1 a2 a3 a4 a5 a6 : Option q_v} {r : List (Option q_v)} (F : q_fx G X I) {x : q_ix} (hd : decode I.1 pc = .ok (.astore 6, 2)) (hn : 6 < I.2.2.1) (kk : q_W G X I w cn (pc + 2) (a0 :: a1 :: a2 :: a3 :: a4 :: a5 :: some (.inr (some x)) :: r) (st) S) : q_W G X I w cn (pc) (a0 :: a1 :: a2 :: a3 :: a4 :: a5 :: a6 :: r) (.inr (some x) :: st) S := q_astore0 (i := 6) F hd hn kk
theorem q_iinc_6 {G : q_g} {X : q_cx} {I : q_in} {w : q_wd} {cn : Nat × Nat} {pc : Nat} {st : List q_v} {S : q_st} {a0 a1 a2 a3 a4 a5 : Option q_v} {r : List (Option q_v)} (F : q_fx G X I) {n : Int} {x : Int32} (v : Int32) (hd : decode I.1 pc = .ok (.iinc 6 n, 3)) (hv : x + Int32.ofInt n = v) (hn : 6 < I.2.2.1) (kk : q_W G X I w cn (pc + 3) (a0 :: a1 :: a2 :: a3 :: a4 :: a5 :: some (.inl v) :: r) (st) S) : q_W G X I w cn (pc) (a0 :: a1 :: a2 :: a3 :: a4 :: a5 :: some (.inl x) :: r) (st) S := q_iinc0 (i := 6) F hd rfl v hv hn kk
theorem q_drop_6 {G : q_g} {X : q_cx} {I : q_in} {w : q_wd} {cn : Nat × Nat} {pc : Nat} {st : List q_v} {S : q_st} {a0 a1 a2 a3 a4 a5 a6 : Option q_v} {r : List (Option q_v)} (kk : q_W G X I w cn (pc) (a0 :: a1 :: a2 :: a3 :: a4 :: a5 :: none :: r) (st) S) : q_W G X I w cn (pc) (a0 :: a1 :: a2 :: a3 :: a4 :: a5 :: a6 :: r) (st) S := q_forget (fun i v h => by
  by_cases hi : i = 6
  · subst hi; cases h
  · have h2 : ((a0 :: a1 :: a2 :: a3 :: a4 :: a5 :: a6 :: r).set 6 none)[i]? = some (some v) := h
    rw [List.getElem?_set_ne (Ne.symm hi)] at h2
    exact h2) kk
theorem q_istore_7 {G : q_g} {X : q_cx} {I : q_in} {w : q_wd} {cn : Nat × Nat} {pc : Nat} {st : List q_v} {S : q_st} {a0 a1 a2 a3 a4 a5 a6 a7 : Option q_v} {r : List (Option q_v)} (F : q_fx G X I) {x : Int32} (hd : decode I.1 pc = .ok (.istore 7, 2)) (hn : 7 < I.2.2.1) (kk : q_W G X I w cn (pc + 2) (a0 :: a1 :: a2 :: a3 :: a4 :: a5 :: a6 :: some (.inl x) :: r) (st) S) : q_W G X I w cn (pc) (a0 :: a1 :: a2 :: a3 :: a4 :: a5 :: a6 :: a7 :: r) (.inl x :: st) S := q_istore0 (i := 7) F hd hn kk
theorem q_astore_7 {G : q_g} {X : q_cx} {I : q_in} {w : q_wd} {cn : Nat × Nat} {pc : Nat} {st : List q_v} {S : q_st} {a0 a1 a2 a3 a4 a5 a6 a7 : Option q_v} {r : List (Option q_v)} (F : q_fx G X I) {x : q_ix} (hd : decode I.1 pc = .ok (.astore 7, 2)) (hn : 7 < I.2.2.1) (kk : q_W G X I w cn (pc + 2) (a0 :: a1 :: a2 :: a3 :: a4 :: a5 :: a6 :: some (.inr (some x)) :: r) (st) S) : q_W G X I w cn (pc) (a0 :: a1 :: a2 :: a3 :: a4 :: a5 :: a6 :: a7 :: r) (.inr (some x) :: st) S := q_astore0 (i := 7) F hd hn kk
theorem q_iinc_7 {G : q_g} {X : q_cx} {I : q_in} {w : q_wd} {cn : Nat × Nat} {pc : Nat} {st : List q_v} {S : q_st} {a0 a1 a2 a3 a4 a5 a6 : Option q_v} {r : List (Option q_v)} (F : q_fx G X I) {n : Int} {x : Int32} (v : Int32) (hd : decode I.1 pc = .ok (.iinc 7 n, 3)) (hv : x + Int32.ofInt n = v) (hn : 7 < I.2.2.1) (kk : q_W G X I w cn (pc + 3) (a0 :: a1 :: a2 :: a3 :: a4 :: a5 :: a6 :: some (.inl v) :: r) (st) S) : q_W G X I w cn (pc) (a0 :: a1 :: a2 :: a3 :: a4 :: a5 :: a6 :: some (.inl x) :: r) (st) S := q_iinc0 (i := 7) F hd rfl v hv hn kk
theorem q_drop_7 {G : q_g} {X : q_cx} {I : q_in} {w : q_wd} {cn : Nat × Nat} {pc : Nat} {st : List q_v} {S : q_st} {a0 a1 a2 a3 a4 a5 a6 a7 : Option q_v} {r : List (Option q_v)} (kk : q_W G X I w cn (pc) (a0 :: a1 :: a2 :: a3 :: a4 :: a5 :: a6 :: none :: r) (st) S) : q_W G X I w cn (pc) (a0 :: a1 :: a2 :: a3 :: a4 :: a5 :: a6 :: a7 :: r) (st) S := q_forget (fun i v h => by
  by_cases hi : i = 7
  · subst hi; cases h
  · have h2 : ((a0 :: a1 :: a2 :: a3 :: a4 :: a5 :: a6 :: a7 :: r).set 7 none)[i]? = some (some v) := h
    rw [List.getElem?_set_ne (Ne.symm hi)] at h2
    exact h2) kk
theorem q_istore_8 {G : q_g} {X : q_cx} {I : q_in} {w : q_wd} {cn : Nat × Nat} {pc : Nat} {st : List q_v} {S : q_st} {a0 a1 a2 a3 a4 a5 a6 a7 a8 : Option q_v} {r : List (Option q_v)} (F : q_fx G X I) {x : Int32} (hd : decode I.1 pc = .ok (.istore 8, 2)) (hn : 8 < I.2.2.1) (kk : q_W G X I w cn (pc + 2) (a0 :: a1 :: a2 :: a3 :: a4 :: a5 :: a6 :: a7 :: some (.inl x) :: r) (st) S) : q_W G X I w cn (pc) (a0 :: a1 :: a2 :: a3 :: a4 :: a5 :: a6 :: a7 :: a8 :: r) (.inl x :: st) S := q_istore0 (i := 8) F hd hn kk
theorem q_astore_8 {G : q_g} {X : q_cx} {I : q_in} {w : q_wd} {cn : Nat × Nat} {pc : Nat} {st : List q_v} {S : q_st} {a0 a1 a2 a3 a4 a5 a6 a7 a8 : Option q_v} {r : List (Option q_v)} (F : q_fx G X I) {x : q_ix} (hd : decode I.1 pc = .ok (.astore 8, 2)) (hn : 8 < I.2.2.1) (kk : q_W G X I w cn (pc + 2) (a0 :: a1 :: a2 :: a3 :: a4 :: a5 :: a6 :: a7 :: some (.inr (some x)) :: r) (st) S) : q_W G X I w cn (pc) (a0 :: a1 :: a2 :: a3 :: a4 :: a5 :: a6 :: a7 :: a8 :: r) (.inr (some x) :: st) S := q_astore0 (i := 8) F hd hn kk
theorem q_iinc_8 {G : q_g} {X : q_cx} {I : q_in} {w : q_wd} {cn : Nat × Nat} {pc : Nat} {st : List q_v} {S : q_st} {a0 a1 a2 a3 a4 a5 a6 a7 : Option q_v} {r : List (Option q_v)} (F : q_fx G X I) {n : Int} {x : Int32} (v : Int32) (hd : decode I.1 pc = .ok (.iinc 8 n, 3)) (hv : x + Int32.ofInt n = v) (hn : 8 < I.2.2.1) (kk : q_W G X I w cn (pc + 3) (a0 :: a1 :: a2 :: a3 :: a4 :: a5 :: a6 :: a7 :: some (.inl v) :: r) (st) S) : q_W G X I w cn (pc) (a0 :: a1 :: a2 :: a3 :: a4 :: a5 :: a6 :: a7 :: some (.inl x) :: r) (st) S := q_iinc0 (i := 8) F hd rfl v hv hn kk
theorem q_drop_8 {G : q_g} {X : q_cx} {I : q_in} {w : q_wd} {cn : Nat × Nat} {pc : Nat} {st : List q_v} {S : q_st} {a0 a1 a2 a3 a4 a5 a6 a7 a8 : Option q_v} {r : List (Option q_v)} (kk : q_W G X I w cn (pc) (a0 :: a1 :: a2 :: a3 :: a4 :: a5 :: a6 :: a7 :: none :: r) (st) S) : q_W G X I w cn (pc) (a0 :: a1 :: a2 :: a3 :: a4 :: a5 :: a6 :: a7 :: a8 :: r) (st) S := q_forget (fun i v h => by
  by_cases hi : i = 8
  · subst hi; cases h
  · have h2 : ((a0 :: a1 :: a2 :: a3 :: a4 :: a5 :: a6 :: a7 :: a8 :: r).set 8 none)[i]? = some (some v) := h
    rw [List.getElem?_set_ne (Ne.symm hi)] at h2
    exact h2) kk
theorem q_istore_9 {G : q_g} {X : q_cx} {I : q_in} {w : q_wd} {cn : Nat × Nat} {pc : Nat} {st : List q_v} {S : q_st} {a0 a1 a2 a3 a4 a5 a6 a7 a8 a9 : Option q_v} {r : List (Option q_v)} (F : q_fx G X I) {x : Int32} (hd : decode I.1 pc = .ok (.istore 9, 2)) (hn : 9 < I.2.2.1) (kk : q_W G X I w cn (pc + 2) (a0 :: a1 :: a2 :: a3 :: a4 :: a5 :: a6 :: a7 :: a8 :: some (.inl x) :: r) (st) S) : q_W G X I w cn (pc) (a0 :: a1 :: a2 :: a3 :: a4 :: a5 :: a6 :: a7 :: a8 :: a9 :: r) (.inl x :: st) S := q_istore0 (i := 9) F hd hn kk
theorem q_astore_9 {G : q_g} {X : q_cx} {I : q_in} {w : q_wd} {cn : Nat × Nat} {pc : Nat} {st : List q_v} {S : q_st} {a0 a1 a2 a3 a4 a5 a6 a7 a8 a9 : Option q_v} {r : List (Option q_v)} (F : q_fx G X I) {x : q_ix} (hd : decode I.1 pc = .ok (.astore 9, 2)) (hn : 9 < I.2.2.1) (kk : q_W G X I w cn (pc + 2) (a0 :: a1 :: a2 :: a3 :: a4 :: a5 :: a6 :: a7 :: a8 :: some (.inr (some x)) :: r) (st) S) : q_W G X I w cn (pc) (a0 :: a1 :: a2 :: a3 :: a4 :: a5 :: a6 :: a7 :: a8 :: a9 :: r) (.inr (some x) :: st) S := q_astore0 (i := 9) F hd hn kk
theorem q_iinc_9 {G : q_g} {X : q_cx} {I : q_in} {w : q_wd} {cn : Nat × Nat} {pc : Nat} {st : List q_v} {S : q_st} {a0 a1 a2 a3 a4 a5 a6 a7 a8 : Option q_v} {r : List (Option q_v)} (F : q_fx G X I) {n : Int} {x : Int32} (v : Int32) (hd : decode I.1 pc = .ok (.iinc 9 n, 3)) (hv : x + Int32.ofInt n = v) (hn : 9 < I.2.2.1) (kk : q_W G X I w cn (pc + 3) (a0 :: a1 :: a2 :: a3 :: a4 :: a5 :: a6 :: a7 :: a8 :: some (.inl v) :: r) (st) S) : q_W G X I w cn (pc) (a0 :: a1 :: a2 :: a3 :: a4 :: a5 :: a6 :: a7 :: a8 :: some (.inl x) :: r) (st) S := q_iinc0 (i := 9) F hd rfl v hv hn kk
theorem q_drop_9 {G : q_g} {X : q_cx} {I : q_in} {w : q_wd} {cn : Nat × Nat} {pc : Nat} {st : List q_v} {S : q_st} {a0 a1 a2 a3 a4 a5 a6 a7 a8 a9 : Option q_v} {r : List (Option q_v)} (kk : q_W G X I w cn (pc) (a0 :: a1 :: a2 :: a3 :: a4 :: a5 :: a6 :: a7 :: a8 :: none :: r) (st) S) : q_W G X I w cn (pc) (a0 :: a1 :: a2 :: a3 :: a4 :: a5 :: a6 :: a7 :: a8 :: a9 :: r) (st) S := q_forget (fun i v h => by
  by_cases hi : i = 9
  · subst hi; cases h
  · have h2 : ((a0 :: a1 :: a2 :: a3 :: a4 :: a5 :: a6 :: a7 :: a8 :: a9 :: r).set 9 none)[i]? = some (some v) := h
    rw [List.getElem?_set_ne (Ne.symm hi)] at h2
    exact h2) kk
theorem q_istore_10 {G : q_g} {X : q_cx} {I : q_in} {w : q_wd} {cn : Nat × Nat} {pc : Nat} {st : List q_v} {S : q_st} {a0 a1 a2 a3 a4 a5 a6 a7 a8 a9 a10 : Option q_v} {r : List (Option q_v)} (F : q_fx G X I) {x : Int32} (hd : decode I.1 pc = .ok (.istore 10, 2)) (hn : 10 < I.2.2.1) (kk : q_W G X I w cn (pc + 2) (a0 :: a1 :: a2 :: a3 :: a4 :: a5 :: a6 :: a7 :: a8 :: a9 :: some (.inl x) :: r) (st) S) : q_W G X I w cn (pc) (a0 :: a1 :: a2 :: a3 :: a4 :: a5 :: a6 :: a7 :: a8 :: a9 :: a10 :: r) (.inl x :: st) S := q_istore0 (i := 10) F hd hn kk
theorem q_astore_10 {G : q_g} {X : q_cx} {I : q_in} {w : q_wd} {cn : Nat × Nat} {pc : Nat} {st : List q_v} {S : q_st} {a0 a1 a2 a3 a4 a5 a6 a7 a8 a9 a10 : Option q_v} {r : List (Option q_v)} (F : q_fx G X I) {x : q_ix} (hd : decode I.1 pc = .ok (.astore 10, 2)) (hn : 10 < I.2.2.1) (kk : q_W G X I w cn (pc + 2) (a0 :: a1 :: a2 :: a3 :: a4 :: a5 :: a6 :: a7 :: a8 :: a9 :: some (.inr (some x)) :: r) (st) S) : q_W G X I w cn (pc) (a0 :: a1 :: a2 :: a3 :: a4 :: a5 :: a6 :: a7 :: a8 :: a9 :: a10 :: r) (.inr (some x) :: st) S := q_astore0 (i := 10) F hd hn kk
theorem q_iinc_10 {G : q_g} {X : q_cx} {I : q_in} {w : q_wd} {cn : Nat × Nat} {pc : Nat} {st : List q_v} {S : q_st} {a0 a1 a2 a3 a4 a5 a6 a7 a8 a9 : Option q_v} {r : List (Option q_v)} (F : q_fx G X I) {n : Int} {x : Int32} (v : Int32) (hd : decode I.1 pc = .ok (.iinc 10 n, 3)) (hv : x + Int32.ofInt n = v) (hn : 10 < I.2.2.1) (kk : q_W G X I w cn (pc + 3) (a0 :: a1 :: a2 :: a3 :: a4 :: a5 :: a6 :: a7 :: a8 :: a9 :: some (.inl v) :: r) (st) S) : q_W G X I w cn (pc) (a0 :: a1 :: a2 :: a3 :: a4 :: a5 :: a6 :: a7 :: a8 :: a9 :: some (.inl x) :: r) (st) S := q_iinc0 (i := 10) F hd rfl v hv hn kk
theorem q_drop_10 {G : q_g} {X : q_cx} {I : q_in} {w : q_wd} {cn : Nat × Nat} {pc : Nat} {st : List q_v} {S : q_st} {a0 a1 a2 a3 a4 a5 a6 a7 a8 a9 a10 : Option q_v} {r : List (Option q_v)} (kk : q_W G X I w cn (pc) (a0 :: a1 :: a2 :: a3 :: a4 :: a5 :: a6 :: a7 :: a8 :: a9 :: none :: r) (st) S) : q_W G X I w cn (pc) (a0 :: a1 :: a2 :: a3 :: a4 :: a5 :: a6 :: a7 :: a8 :: a9 :: a10 :: r) (st) S := q_forget (fun i v h => by
  by_cases hi : i = 10
  · subst hi; cases h
  · have h2 : ((a0 :: a1 :: a2 :: a3 :: a4 :: a5 :: a6 :: a7 :: a8 :: a9 :: a10 :: r).set 10 none)[i]? = some (some v) := h
    rw [List.getElem?_set_ne (Ne.symm hi)] at h2
    exact h2) kk
theorem q_istore_11 {G : q_g} {X : q_cx} {I : q_in} {w : q_wd} {cn : Nat × Nat} {pc : Nat} {st : List q_v} {S : q_st} {a0 a1 a2 a3 a4 a5 a6 a7 a8 a9 a10 a11 : Option q_v} {r : List (Option q_v)} (F : q_fx G X I) {x : Int32} (hd : decode I.1 pc = .ok (.istore 11, 2)) (hn : 11 < I.2.2.1) (kk : q_W G X I w cn (pc + 2) (a0 :: a1 :: a2 :: a3 :: a4 :: a5 :: a6 :: a7 :: a8 :: a9 :: a10 :: some (.inl x) :: r) (st) S) : q_W G X I w cn (pc) (a0 :: a1 :: a2 :: a3 :: a4 :: a5 :: a6 :: a7 :: a8 :: a9 :: a10 :: a11 :: r) (.inl x :: st) S := q_istore0 (i := 11) F hd hn kk
theorem q_astore_11 {G : q_g} {X : q_cx} {I : q_in} {w : q_wd} {cn : Nat × Nat} {pc : Nat} {st : List q_v} {S : q_st} {a0 a1 a2 a3 a4 a5 a6 a7 a8 a9 a10 a11 : Option q_v} {r : List (Option q_v)} (F : q_fx G X I) {x : q_ix} (hd : decode I.1 pc = .ok (.astore 11, 2)) (hn : 11 < I.2.2.1) (kk : q_W G X I w cn (pc + 2) (a0 :: a1 :: a2 :: a3 :: a4 :: a5 :: a6 :: a7 :: a8 :: a9 :: a10 :: some (.inr (some x)) :: r) (st) S) : q_W G X I w cn (pc) (a0 :: a1 :: a2 :: a3 :: a4 :: a5 :: a6 :: a7 :: a8 :: a9 :: a10 :: a11 :: r) (.inr (some x) :: st) S := q_astore0 (i := 11) F hd hn kk
theorem q_iinc_11 {G : q_g} {X : q_cx} {I : q_in} {w : q_wd} {cn : Nat × Nat} {pc : Nat} {st : List q_v} {S : q_st} {a0 a1 a2 a3 a4 a5 a6 a7 a8 a9 a10 : Option q_v} {r : List (Option q_v)} (F : q_fx G X I) {n : Int} {x : Int32} (v : Int32) (hd : decode I.1 pc = .ok (.iinc 11 n, 3)) (hv : x + Int32.ofInt n = v) (hn : 11 < I.2.2.1) (kk : q_W G X I w cn (pc + 3) (a0 :: a1 :: a2 :: a3 :: a4 :: a5 :: a6 :: a7 :: a8 :: a9 :: a10 :: some (.inl v) :: r) (st) S) : q_W G X I w cn (pc) (a0 :: a1 :: a2 :: a3 :: a4 :: a5 :: a6 :: a7 :: a8 :: a9 :: a10 :: some (.inl x) :: r) (st) S := q_iinc0 (i := 11) F hd rfl v hv hn kk
theorem q_drop_11 {G : q_g} {X : q_cx} {I : q_in} {w : q_wd} {cn : Nat × Nat} {pc : Nat} {st : List q_v} {S : q_st} {a0 a1 a2 a3 a4 a5 a6 a7 a8 a9 a10 a11 : Option q_v} {r : List (Option q_v)} (kk : q_W G X I w cn (pc) (a0 :: a1 :: a2 :: a3 :: a4 :: a5 :: a6 :: a7 :: a8 :: a9 :: a10 :: none :: r) (st) S) : q_W G X I w cn (pc) (a0 :: a1 :: a2 :: a3 :: a4 :: a5 :: a6 :: a7 :: a8 :: a9 :: a10 :: a11 :: r) (st) S := q_forget (fun i v h => by
  by_cases hi : i = 11
  · subst hi; cases h
  · have h2 : ((a0 :: a1 :: a2 :: a3 :: a4 :: a5 :: a6 :: a7 :: a8 :: a9 :: a10 :: a11 :: r).set 11 none)[i]? = some (some v) := h
    rw [List.getElem?_set_ne (Ne.symm hi)] at h2
    exact h2) kk
theorem q_iadd {G : q_g} {X : q_cx} {I : q_in} {w : q_wd} {cn : Nat × Nat} {pc : Nat} {ls : List (Option q_v)} {st : List q_v} {S : q_st} (F : q_fx G X I) {x y : Int32} (hd : decode I.1 pc = .ok (.iadd, 1)) (kk : q_W G X I w cn (pc + 1) ls (.inl (x + y) :: st) S) : q_W G X I w cn (pc) ls (.inl y :: .inl x :: st) S := by
  obtain ⟨p, l, e, s, m, args, below, meth, c, A, Qf⟩ := X
  obtain ⟨hx, hb, hml, hts, hown, hnm, hr, hlk, hK, hA⟩ := F
  intro H locs la hP hD hS hl
  exact lv_iadd hx hb hd (kk H locs la hP hD hS hl)
theorem q_isub {G : q_g} {X : q_cx} {I : q_in} {w : q_wd} {cn : Nat × Nat} {pc : Nat} {ls : List (Option q_v)} {st : List q_v} {S : q_st} (F : q_fx G X I) {x y : Int32} (hd : decode I.1 pc = .ok (.isub, 1)) (kk : q_W G X I w cn (pc + 1) ls (.inl (x - y) :: st) S) : q_W G X I w cn (pc) ls (.inl y :: .inl x :: st) S := by
  obtain ⟨p, l, e, s, m, args, below, meth, c, A, Qf⟩ := X
  obtain ⟨hx, hb, hml, hts, hown, hnm, hr, hlk, hK, hA⟩ := F
  intro H locs la hP hD hS hl
  exact lv_isub hx hb hd (kk H locs la hP hD hS hl)
theorem q_imul {G : q_g} {X : q_cx} {I : q_in} {w : q_wd} {cn : Nat × Nat} {pc : Nat} {ls : List (Option q_v)} {st : List q_v} {S : q_st} (F : q_fx G X I) {x y : Int32} (hd : decode I.1 pc = .ok (.imul, 1)) (kk : q_W G X I w cn (pc + 1) ls (.inl (x * y) :: st) S) : q_W G X I w cn (pc) ls (.inl y :: .inl x :: st) S := by
  obtain ⟨p, l, e, s, m, args, below, meth, c, A, Qf⟩ := X
  obtain ⟨hx, hb, hml, hts, hown, hnm, hr, hlk, hK, hA⟩ := F
  intro H locs la hP hD hS hl
  exact lv_imul hx hb hd (kk H locs la hP hD hS hl)
theorem q_iand {G : q_g} {X : q_cx} {I : q_in} {w : q_wd} {cn : Nat × Nat} {pc : Nat} {ls : List (Option q_v)} {st : List q_v} {S : q_st} (F : q_fx G X I) {x y : Int32} (hd : decode I.1 pc = .ok (.iand, 1)) (kk : q_W G X I w cn (pc + 1) ls (.inl (x &&& y) :: st) S) : q_W G X I w cn (pc) ls (.inl y :: .inl x :: st) S := by
  obtain ⟨p, l, e, s, m, args, below, meth, c, A, Qf⟩ := X
  obtain ⟨hx, hb, hml, hts, hown, hnm, hr, hlk, hK, hA⟩ := F
  intro H locs la hP hD hS hl
  exact lv_iand hx hb hd (kk H locs la hP hD hS hl)
theorem q_ishr {G : q_g} {X : q_cx} {I : q_in} {w : q_wd} {cn : Nat × Nat} {pc : Nat} {ls : List (Option q_v)} {st : List q_v} {S : q_st} (F : q_fx G X I) {x y : Int32} (hd : decode I.1 pc = .ok (.ishr, 1)) (kk : q_W G X I w cn (pc + 1) ls (.inl (x >>> (y &&& 31)) :: st) S) : q_W G X I w cn (pc) ls (.inl y :: .inl x :: st) S := by
  obtain ⟨p, l, e, s, m, args, below, meth, c, A, Qf⟩ := X
  obtain ⟨hx, hb, hml, hts, hown, hnm, hr, hlk, hK, hA⟩ := F
  intro H locs la hP hD hS hl
  exact lv_ishr hx hb hd (kk H locs la hP hD hS hl)
theorem q_ior {G : q_g} {X : q_cx} {I : q_in} {w : q_wd} {cn : Nat × Nat} {pc : Nat} {ls : List (Option q_v)} {st : List q_v} {S : q_st} (F : q_fx G X I) {x y : Int32} (hd : decode I.1 pc = .ok (.ior, 1)) (kk : q_W G X I w cn (pc + 1) ls (.inl (x ||| y) :: st) S) : q_W G X I w cn (pc) ls (.inl y :: .inl x :: st) S := by
  obtain ⟨p, l, e, s, m, args, below, meth, c, A, Qf⟩ := X
  obtain ⟨hx, hb, hml, hts, hown, hnm, hr, hlk, hK, hA⟩ := F
  intro H locs la hP hD hS hl
  exact lv_ior hx hb hd (kk H locs la hP hD hS hl)
theorem q_ixor {G : q_g} {X : q_cx} {I : q_in} {w : q_wd} {cn : Nat × Nat} {pc : Nat} {ls : List (Option q_v)} {st : List q_v} {S : q_st} (F : q_fx G X I) {x y : Int32} (hd : decode I.1 pc = .ok (.ixor, 1)) (kk : q_W G X I w cn (pc + 1) ls (.inl (x ^^^ y) :: st) S) : q_W G X I w cn (pc) ls (.inl y :: .inl x :: st) S := by
  obtain ⟨p, l, e, s, m, args, below, meth, c, A, Qf⟩ := X
  obtain ⟨hx, hb, hml, hts, hown, hnm, hr, hlk, hK, hA⟩ := F
  intro H locs la hP hD hS hl
  exact lv_ixor hx hb hd (kk H locs la hP hD hS hl)
theorem q_idiv {G : q_g} {X : q_cx} {I : q_in} {w : q_wd} {cn : Nat × Nat} {pc : Nat} {ls : List (Option q_v)} {st : List q_v} {S : q_st} (F : q_fx G X I) {x y : Int32} (hd : decode I.1 pc = .ok (.idiv, 1)) (hne : ¬ y = 0) (kk : q_W G X I w cn (pc + 1) ls (.inl (x / y) :: st) S) : q_W G X I w cn (pc) ls (.inl y :: .inl x :: st) S := by
  obtain ⟨p, l, e, s, m, args, below, meth, c, A, Qf⟩ := X
  obtain ⟨hx, hb, hml, hts, hown, hnm, hr, hlk, hK, hA⟩ := F
  intro H locs la hP hD hS hl
  exact lv_idiv hx hb hd hne (kk H locs la hP hD hS hl)
theorem q_irem {G : q_g} {X : q_cx} {I : q_in} {w : q_wd} {cn : Nat × Nat} {pc : Nat} {ls : List (Option q_v)} {st : List q_v} {S : q_st} (F : q_fx G X I) {x y : Int32} (hd : decode I.1 pc = .ok (.irem, 1)) (hne : ¬ y = 0) (kk : q_W G X I w cn (pc + 1) ls (.inl (x - x / y * y) :: st) S) : q_W G X I w cn (pc) ls (.inl y :: .inl x :: st) S := by
  obtain ⟨p, l, e, s, m, args, below, meth, c, A, Qf⟩ := X
  obtain ⟨hx, hb, hml, hts, hown, hnm, hr, hlk, hK, hA⟩ := F
  intro H locs la hP hD hS hl
  exact lv_irem hx hb hd hne (kk H locs la hP hD hS hl)
theorem q_dup {G : q_g} {X : q_cx} {I : q_in} {w : q_wd} {cn : Nat × Nat} {pc : Nat} {ls : List (Option q_v)} {st : List q_v} {S : q_st} (F : q_fx G X I) {x : q_v} (hd : decode I.1 pc = .ok (.dup, 1)) (kk : q_W G X I w cn (pc + 1) ls (x :: x :: st) S) : q_W G X I w cn (pc) ls (x :: st) S := by
  obtain ⟨p, l, e, s, m, args, below, meth, c, A, Qf⟩ := X
  obtain ⟨hx, hb, hml, hts, hown, hnm, hr, hlk, hK, hA⟩ := F
  intro H locs la hP hD hS hl
  exact lv_dup hx hb hd (q_val_cat _ _) (kk H locs la hP hD hS hl)
theorem q_pop {G : q_g} {X : q_cx} {I : q_in} {w : q_wd} {cn : Nat × Nat} {pc : Nat} {ls : List (Option q_v)} {st : List q_v} {S : q_st} (F : q_fx G X I) {x : q_v} (hd : decode I.1 pc = .ok (.pop, 1)) (kk : q_W G X I w cn (pc + 1) ls (st) S) : q_W G X I w cn (pc) ls (x :: st) S := by
  obtain ⟨p, l, e, s, m, args, below, meth, c, A, Qf⟩ := X
  obtain ⟨hx, hb, hml, hts, hown, hnm, hr, hlk, hK, hA⟩ := F
  intro H locs la hP hD hS hl
  exact lv_pop hx hb hd (q_val_cat _ _) (kk H locs la hP hD hS hl)
theorem q_dup_x1 {G : q_g} {X : q_cx} {I : q_in} {w : q_wd} {cn : Nat × Nat} {pc : Nat} {ls : List (Option q_v)} {st : List q_v} {S : q_st} (F : q_fx G X I) {x y : q_v} (hd : decode I.1 pc = .ok (.dup_x1, 1)) (kk : q_W G X I w cn (pc + 1) ls (x :: y :: x :: st) S) : q_W G X I w cn (pc) ls (x :: y :: st) S := by
  obtain ⟨p, l, e, s, m, args, below, meth, c, A, Qf⟩ := X
  obtain ⟨hx, hb, hml, hts, hown, hnm, hr, hlk, hK, hA⟩ := F
  intro H locs la hP hD hS hl
  exact lv_dup_x1 hx hb hd (q_val_cat _ _) (q_val_cat _ _) (kk H locs la hP hD hS hl)
theorem q_dup2 {G : q_g} {X : q_cx} {I : q_in} {w : q_wd} {cn : Nat × Nat} {pc : Nat} {ls : List (Option q_v)} {st : List q_v} {S : q_st} (F : q_fx G X I) {x y : q_v} (hd : decode I.1 pc = .ok (.dup2, 1)) (kk : q_W G X I w cn (pc + 1) ls (x :: y :: x :: y :: st) S) : q_W G X I w cn (pc) ls (x :: y :: st) S := by
  obtain ⟨p, l, e, s, m, args, below, meth, c, A, Qf⟩ := X
  obtain ⟨hx, hb, hml, hts, hown, hnm, hr, hlk, hK, hA⟩ := F
  intro H locs la hP hD hS hl
  exact lv_dup2_11 hx hb hd (q_val_cat _ _) (q_val_cat _ _) (kk H locs la hP hD hS hl)
theorem q_if_eq {G : q_g} {X : q_cx} {I : q_in} {w : q_wd} {cn : Nat × Nat} {pc : Nat} {ls : List (Option q_v)} {st : List q_v} {S : q_st} (F : q_fx G X I) {x : Int32} {off : Int} (tgt : Nat) (hd : decode I.1 pc = .ok (.ifCond .eq off, 3)) (ht : (pc : Int) + off = (tgt : Int)) (kt : x = 0 → q_W G X I w cn (tgt) ls (st) S) (kf : ¬ x = 0 → q_W G X I w cn (pc + 3) ls (st) S) : q_W G X I w cn (pc) ls (.inl x :: st) S := by
  obtain ⟨p, l, e, s, m, args, below, meth, c, A, Qf⟩ := X
  obtain ⟨hx, hb, hml, hts, hown, hnm, hr, hlk, hK, hA⟩ := F
  intro H locs la hP hD hS hl
  exact lv_if_eq hx hb hd ht (fun h => kt h H locs la hP hD hS hl) (fun h => kf h H locs la hP hD hS hl)
theorem q_icmp_eq {G : q_g} {X : q_cx} {I : q_in} {w : q_wd} {cn : Nat × Nat} {pc : Nat} {ls : List (Option q_v)} {st : List q_v} {S : q_st} (F : q_fx G X I) {x y : Int32} {off : Int} (tgt : Nat) (hd : decode I.1 pc = .ok (.if_icmp .eq off, 3)) (ht : (pc : Int) + off = (tgt : Int)) (kt : x = y → q_W G X I w cn (tgt) ls (st) S) (kf : ¬ x = y → q_W G X I w cn (pc + 3) ls (st) S) : q_W G X I w cn (pc) ls (.inl y :: .inl x :: st) S := by
  obtain ⟨p, l, e, s, m, args, below, meth, c, A, Qf⟩ := X
  obtain ⟨hx, hb, hml, hts, hown, hnm, hr, hlk, hK, hA⟩ := F
  intro H locs la hP hD hS hl
  exact lv_icmp_eq hx hb hd ht (fun h => kt h H locs la hP hD hS hl) (fun h => kf h H locs la hP hD hS hl)
theorem q_if_ne {G : q_g} {X : q_cx} {I : q_in} {w : q_wd} {cn : Nat × Nat} {pc : Nat} {ls : List (Option q_v)} {st : List q_v} {S : q_st} (F : q_fx G X I) {x : Int32} {off : Int} (tgt : Nat) (hd : decode I.1 pc = .ok (.ifCond .ne off, 3)) (ht : (pc : Int) + off = (tgt : Int)) (kt : ¬ x = 0 → q_W G X I w cn (tgt) ls (st) S) (kf : x = 0 → q_W G X I w cn (pc + 3) ls (st) S) : q_W G X I w cn (pc) ls (.inl x :: st) S := by
  obtain ⟨p, l, e, s, m, args, below, meth, c, A, Qf⟩ := X
  obtain ⟨hx, hb, hml, hts, hown, hnm, hr, hlk, hK, hA⟩ := F
  intro H locs la hP hD hS hl
  exact lv_if_ne hx hb hd ht (fun h => kt h H locs la hP hD hS hl) (fun h => kf h H locs la hP hD hS hl)
theorem q_icmp_ne {G : q_g} {X : q_cx} {I : q_in} {w : q_wd} {cn : Nat × Nat} {pc : Nat} {ls : List (Option q_v)} {st : List q_v} {S : q_st} (F : q_fx G X I) {x y : Int32} {off : Int} (tgt : Nat) (hd : decode I.1 pc = .ok (.if_icmp .ne off, 3)) (ht : (pc : Int) + off = (tgt : Int)) (kt : ¬ x = y → q_W G X I w cn (tgt) ls (st) S) (kf : x = y → q_W G X I w cn (pc + 3) ls (st) S) : q_W G X I w cn (pc) ls (.inl y :: .inl x :: st) S := by
  obtain ⟨p, l, e, s, m, args, below, meth, c, A, Qf⟩ := X
  obtain ⟨hx, hb, hml, hts, hown, hnm, hr, hlk, hK, hA⟩ := F
  intro H locs la hP hD hS hl
  exact lv_icmp_ne hx hb hd ht (fun h => kt h H locs la hP hD hS hl) (fun h => kf h H locs la hP hD hS hl)
theorem q_if_lt {G : q_g} {X : q_cx} {I : q_in} {w : q_wd} {cn : Nat × Nat} {pc : Nat} {ls : List (Option q_v)} {st : List q_v} {S : q_st} (F : q_fx G X I) {x : Int32} {off : Int} (tgt : Nat) (hd : decode I.1 pc = .ok (.ifCond .lt off, 3)) (ht : (pc : Int) + off = (tgt : Int)) (kt : x.toInt < 0 → q_W G X I w cn (tgt) ls (st) S) (kf : 0 ≤ x.toInt → q_W G X I w cn (pc + 3) ls (st) S) : q_W G X I w cn (pc) ls (.inl x :: st) S := by
  obtain ⟨p, l, e, s, m, args, below, meth, c, A, Qf⟩ := X
  obtain ⟨hx, hb, hml, hts, hown, hnm, hr, hlk, hK, hA⟩ := F
  intro H locs la hP hD hS hl
  exact lv_if_lt hx hb hd ht (fun h => kt ((q_ltI x 0).mp h) H locs la hP hD hS hl) (fun h => kf (by have h2 := mt (q_ltI x 0).mpr h; have h0 : (0 : Int32).toInt = 0 := rfl; omega) H locs la hP hD hS hl)
theorem q_icmp_lt {G : q_g} {X : q_cx} {I : q_in} {w : q_wd} {cn : Nat × Nat} {pc : Nat} {ls : List (Option q_v)} {st : List q_v} {S : q_st} (F : q_fx G X I) {x y : Int32} {off : Int} (tgt : Nat) (hd : decode I.1 pc = .ok (.if_icmp .lt off, 3)) (ht : (pc : Int) + off = (tgt : Int)) (kt : x.toInt < y.toInt → q_W G X I w cn (tgt) ls (st) S) (kf : y.toInt ≤ x.toInt → q_W G X I w cn (pc + 3) ls (st) S) : q_W G X I w cn (pc) ls (.inl y :: .inl x :: st) S := by
  obtain ⟨p, l, e, s, m, args, below, meth, c, A, Qf⟩ := X
  obtain ⟨hx, hb, hml, hts, hown, hnm, hr, hlk, hK, hA⟩ := F
  intro H locs la hP hD hS hl
  exact lv_icmp_lt hx hb hd ht (fun h => kt ((q_ltI x y).mp h) H locs la hP hD hS hl) (fun h => kf (by have h2 := mt (q_ltI x y).mpr h; have h0 : (0 : Int32).toInt = 0 := rfl; omega) H locs la hP hD hS hl)
theorem q_if_ge {G : q_g} {X : q_cx} {I : q_in} {w : q_wd} {cn : Nat × Nat} {pc : Nat} {ls : List (Option q_v)} {st : List q_v} {S : q_st} (F : q_fx G X I) {x : Int32} {off : Int} (tgt : Nat) (hd : decode I.1 pc = .ok (.ifCond .ge off, 3)) (ht : (pc : Int) + off = (tgt : Int)) (kt : 0 ≤ x.toInt → q_W G X I w cn (tgt) ls (st) S) (kf : x.toInt < 0 → q_W G X I w cn (pc + 3) ls (st) S) : q_W G X I w cn (pc) ls (.inl x :: st) S := by
  obtain ⟨p, l, e, s, m, args, below, meth, c, A, Qf⟩ := X
  obtain ⟨hx, hb, hml, hts, hown, hnm, hr, hlk, hK, hA⟩ := F
  intro H locs la hP hD hS hl
  exact lv_if_ge hx hb hd ht (fun h => kt ((q_leI 0 x).mp h) H locs la hP hD hS hl) (fun h => kf (by have h2 := mt (q_leI 0 x).mpr h; have h0 : (0 : Int32).toInt = 0 := rfl; omega) H locs la hP hD hS hl)
theorem q_icmp_ge {G : q_g} {X : q_cx} {I : q_in} {w : q_wd} {cn : Nat × Nat} {pc : Nat} {ls : List (Option q_v)} {st : List q_v} {S : q_st} (F : q_fx G X I) {x y : Int32} {off : Int} (tgt : Nat) (hd : decode I.1 pc = .ok (.if_icmp .ge off, 3)) (ht : (pc : Int) + off = (tgt : Int)) (kt : y.toInt ≤ x.toInt → q_W G X I w cn (tgt) ls (st) S) (kf : x.toInt < y.toInt → q_W G X I w cn (pc + 3) ls (st) S) : q_W G X I w cn (pc) ls (.inl y :: .inl x :: st) S := by
  obtain ⟨p, l, e, s, m, args, below, meth, c, A, Qf⟩ := X
  obtain ⟨hx, hb, hml, hts, hown, hnm, hr, hlk, hK, hA⟩ := F
  intro H locs la hP hD hS hl
  exact lv_icmp_ge hx hb hd ht (fun h => kt ((q_leI y x).mp h) H locs la hP hD hS hl) (fun h => kf (by have h2 := mt (q_leI y x).mpr h; have h0 : (0 : Int32).toInt = 0 := rfl; omega) H locs la hP hD hS hl)
theorem q_if_gt {G : q_g} {X : q_cx} {I : q_in} {w : q_wd} {cn : Nat × Nat} {pc : Nat} {ls : List (Option q_v)} {st : List q_v} {S : q_st} (F : q_fx G X I) {x : Int32} {off : Int} (tgt : Nat) (hd : decode I.1 pc = .ok (.ifCond .gt off, 3)) (ht : (pc : Int) + off = (tgt : Int)) (kt : 0 < x.toInt → q_W G X I w cn (tgt) ls (st) S) (kf : x.toInt ≤ 0 → q_W G X I w cn (pc + 3) ls (st) S) : q_W G X I w cn (pc) ls (.inl x :: st) S := by
  obtain ⟨p, l, e, s, m, args, below, meth, c, A, Qf⟩ := X
  obtain ⟨hx, hb, hml, hts, hown, hnm, hr, hlk, hK, hA⟩ := F
  intro H locs la hP hD hS hl
  exact lv_if_gt hx hb hd ht (fun h => kt ((q_ltI 0 x).mp h) H locs la hP hD hS hl) (fun h => kf (by have h2 := mt (q_ltI 0 x).mpr h; have h0 : (0 : Int32).toInt = 0 := rfl; omega) H locs la hP hD hS hl)
theorem q_icmp_gt {G : q_g} {X : q_cx} {I : q_in} {w : q_wd} {cn : Nat × Nat} {pc : Nat} {ls : List (Option q_v)} {st : List q_v} {S : q_st} (F : q_fx G X I) {x y : Int32} {off : Int} (tgt : Nat) (hd : decode I.1 pc = .ok (.if_icmp .gt off, 3)) (ht : (pc : Int) + off = (tgt : Int)) (kt : y.toInt < x.toInt → q_W G X I w cn (tgt) ls (st) S) (kf : x.toInt ≤ y.toInt → q_W G X I w cn (pc + 3) ls (st) S) : q_W G X I w cn (pc) ls (.inl y :: .inl x :: st) S := by
  obtain ⟨p, l, e, s, m, args, below, meth, c, A, Qf⟩ := X
  obtain ⟨hx, hb, hml, hts, hown, hnm, hr, hlk, hK, hA⟩ := F
  intro H locs la hP hD hS hl
  exact lv_icmp_gt hx hb hd ht (fun h => kt ((q_ltI y x).mp h) H locs la hP hD hS hl) (fun h => kf (by have h2 := mt (q_ltI y x).mpr h; have h0 : (0 : Int32).toInt = 0 := rfl; omega) H locs la hP hD hS hl)
theorem q_if_le {G : q_g} {X : q_cx} {I : q_in} {w : q_wd} {cn : Nat × Nat} {pc : Nat} {ls : List (Option q_v)} {st : List q_v} {S : q_st} (F : q_fx G X I) {x : Int32} {off : Int} (tgt : Nat) (hd : decode I.1 pc = .ok (.ifCond .le off, 3)) (ht : (pc : Int) + off = (tgt : Int)) (kt : x.toInt ≤ 0 → q_W G X I w cn (tgt) ls (st) S) (kf : 0 < x.toInt → q_W G X I w cn (pc + 3) ls (st) S) : q_W G X I w cn (pc) ls (.inl x :: st) S := by
  obtain ⟨p, l, e, s, m, args, below, meth, c, A, Qf⟩ := X
  obtain ⟨hx, hb, hml, hts, hown, hnm, hr, hlk, hK, hA⟩ := F
  intro H locs la hP hD hS hl
  exact lv_if_le hx hb hd ht (fun h => kt ((q_leI x 0).mp h) H locs la hP hD hS hl) (fun h => kf (by have h2 := mt (q_leI x 0).mpr h; have h0 : (0 : Int32).toInt = 0 := rfl; omega) H locs la hP hD hS hl)
theorem q_icmp_le {G : q_g} {X : q_cx} {I : q_in} {w : q_wd} {cn : Nat × Nat} {pc : Nat} {ls : List (Option q_v)} {st : List q_v} {S : q_st} (F : q_fx G X I) {x y : Int32} {off : Int} (tgt : Nat) (hd : decode I.1 pc = .ok (.if_icmp .le off, 3)) (ht : (pc : Int) + off = (tgt : Int)) (kt : x.toInt ≤ y.toInt → q_W G X I w cn (tgt) ls (st) S) (kf : y.toInt < x.toInt → q_W G X I w cn (pc + 3) ls (st) S) : q_W G X I w cn (pc) ls (.inl y :: .inl x :: st) S := by
  obtain ⟨p, l, e, s, m, args, below, meth, c, A, Qf⟩ := X
  obtain ⟨hx, hb, hml, hts, hown, hnm, hr, hlk, hK, hA⟩ := F
  intro H locs la hP hD hS hl
  exact lv_icmp_le hx hb hd ht (fun h => kt ((q_leI x y).mp h) H locs la hP hD hS hl) (fun h => kf (by have h2 := mt (q_leI x y).mpr h; have h0 : (0 : Int32).toInt = 0 := rfl; omega) H locs la hP hD hS hl)
theorem q_goto {G : q_g} {X : q_cx} {I : q_in} {w : q_wd} {cn : Nat × Nat} {pc : Nat} {ls : List (Option q_v)} {st : List q_v} {S : q_st} (F : q_fx G X I) {off : Int} (tgt : Nat) (hd : decode I.1 pc = .ok (.goto off, 3)) (ht : (pc : Int) + off = (tgt : Int)) (kk : q_W G X I w cn (tgt) ls (st) S) : q_W G X I w cn (pc) ls (st) S := by
  obtain ⟨p, l, e, s, m, args, below, meth, c, A, Qf⟩ := X
  obtain ⟨hx, hb, hml, hts, hown, hnm, hr, hlk, hK, hA⟩ := F
  intro H locs la hP hD hS hl
  exact lv_goto hx hb hd ht (kk H locs la hP hD hS hl)
theorem q_tsw_in {G : q_g} {X : q_cx} {I : q_in} {w : q_wd} {cn : Nat × Nat} {pc : Nat} {ls : List (Option q_v)} {st : List q_v} {S : q_st} (F : q_fx G X I) {dflt lo hi : Int} {offs : Array Int} {len : Nat} {x : Int32} {off : Int} (tgt : Nat) (hd : decode I.1 pc = .ok (.tableswitch dflt lo hi offs, len)) (h1 : ¬ x.toInt < lo) (h2 : ¬ hi < x.toInt) (ho : offs[(x.toInt - lo).toNat]? = some off) (ht : (pc : Int) + off = (tgt : Int)) (kk : q_W G X I w cn (tgt) ls (st) S) : q_W G X I w cn (pc) ls (.inl x :: st) S := by
  obtain ⟨p, l, e, s, m, args, below, meth, c, A, Qf⟩ := X
  obtain ⟨hx, hb, hml, hts, hown, hnm, hr, hlk, hK, hA⟩ := F
  intro H locs la hP hD hS hl
  exact lv_tableIn hx hb hd h1 h2 ho ht (kk H locs la hP hD hS hl)
theorem q_tsw_out {G : q_g} {X : q_cx} {I : q_in} {w : q_wd} {cn : Nat × Nat} {pc : Nat} {ls : List (Option q_v)} {st : List q_v} {S : q_st} (F : q_fx G X I) {dflt lo hi : Int} {offs : Array Int} {len : Nat} {x : Int32} (tgt : Nat) (hd : decode I.1 pc = .ok (.tableswitch dflt lo hi offs, len)) (h : x.toInt < lo ∨ hi < x.toInt) (ht : (pc : Int) + dflt = (tgt : Int)) (kk : q_W G X I w cn (tgt) ls (st) S) : q_W G X I w cn (pc) ls (.inl x :: st) S := by
  obtain ⟨p, l, e, s, m, args, below, meth, c, A, Qf⟩ := X
  obtain ⟨hx, hb, hml, hts, hown, hnm, hr, hlk, hK, hA⟩ := F
  intro H locs la hP hD hS hl
  exact lv_tableOut hx hb hd h ht (kk H locs la hP hD hS hl)
theorem q_iaddN {G : q_g} {X : q_cx} {I : q_in} {w : q_wd} {cn : Nat × Nat} {pc : Nat} {ls : List (Option q_v)} {st : List q_v} {S : q_st} (F : q_fx G X I) {a b : Nat} (hd : decode I.1 pc = .ok (.iadd, 1)) (kk : q_W G X I w cn (pc + 1) ls (.inl (nI (a + b)) :: st) S) : q_W G X I w cn (pc) ls (.inl (nI b) :: .inl (nI a) :: st) S := q_iadd F hd (by rw [nI_add a b]; exact kk)
theorem q_imulN {G : q_g} {X : q_cx} {I : q_in} {w : q_wd} {cn : Nat × Nat} {pc : Nat} {ls : List (Option q_v)} {st : List q_v} {S : q_st} (F : q_fx G X I) {a b : Nat} (hd : decode I.1 pc = .ok (.imul, 1)) (kk : q_W G X I w cn (pc + 1) ls (.inl (nI (a * b)) :: st) S) : q_W G X I w cn (pc) ls (.inl (nI b) :: .inl (nI a) :: st) S := q_imul F hd (by rw [pk_mul a b]; exact kk)
theorem q_isubN {G : q_g} {X : q_cx} {I : q_in} {w : q_wd} {cn : Nat × Nat} {pc : Nat} {ls : List (Option q_v)} {st : List q_v} {S : q_st} (F : q_fx G X I) {a b : Nat} (hd : decode I.1 pc = .ok (.isub, 1)) (h : b ≤ a) (kk : q_W G X I w cn (pc + 1) ls (.inl (nI (a - b)) :: st) S) : q_W G X I w cn (pc) ls (.inl (nI b) :: .inl (nI a) :: st) S := q_isub F hd (by rw [pk_sub h]; exact kk)
theorem q_idivN {G : q_g} {X : q_cx} {I : q_in} {w : q_wd} {cn : Nat × Nat} {pc : Nat} {ls : List (Option q_v)} {st : List q_v} {S : q_st} (F : q_fx G X I) {a b : Nat} (hd : decode I.1 pc = .ok (.idiv, 1)) (ha : a < 2 ^ 31) (h0 : 0 < b) (hb : b < 2 ^ 31) (kk : q_W G X I w cn (pc + 1) ls (.inl (nI (a / b)) :: st) S) : q_W G X I w cn (pc) ls (.inl (nI b) :: .inl (nI a) :: st) S := q_idiv F hd (nI_ne0 h0 hb) (by rw [pk_div ha h0 hb]; exact kk)
theorem q_iremN {G : q_g} {X : q_cx} {I : q_in} {w : q_wd} {cn : Nat × Nat} {pc : Nat} {ls : List (Option q_v)} {st : List q_v} {S : q_st} (F : q_fx G X I) {a b : Nat} (hd : decode I.1 pc = .ok (.irem, 1)) (ha : a < 2 ^ 31) (h0 : 0 < b) (hb : b < 2 ^ 31) (kk : q_W G X I w cn (pc + 1) ls (.inl (nI (a % b)) :: st) S) : q_W G X I w cn (pc) ls (.inl (nI b) :: .inl (nI a) :: st) S := q_irem F hd (nI_ne0 h0 hb) (by rw [pk_rem ha h0 hb]; exact kk)
theorem q_icmpN_eq {G : q_g} {X : q_cx} {I : q_in} {w : q_wd} {cn : Nat × Nat} {pc : Nat} {ls : List (Option q_v)} {st : List q_v} {S : q_st} (F : q_fx G X I) {a b : Nat} {off : Int} (tgt : Nat) (hd : decode I.1 pc = .ok (.if_icmp .eq off, 3)) (ht : (pc : Int) + off = (tgt : Int)) (ha : a < 2 ^ 31) (hb : b < 2 ^ 31) (kt : a = b → q_W G X I w cn (tgt) ls (st) S) (kf : ¬ a = b → q_W G X I w cn (pc + 3) ls (st) S) : q_W G X I w cn (pc) ls (.inl (nI b) :: .inl (nI a) :: st) S := q_icmp_eq F tgt hd ht (fun h => kt (by simpa only [nI_eq ha hb] using h)) (fun h => kf (by simpa only [nI_eq ha hb] using h))
theorem q_ifN_eq {G : q_g} {X : q_cx} {I : q_in} {w : q_wd} {cn : Nat × Nat} {pc : Nat} {ls : List (Option q_v)} {st : List q_v} {S : q_st} (F : q_fx G X I) {a : Nat} {off : Int} (tgt : Nat) (hd : decode I.1 pc = .ok (.ifCond .eq off, 3)) (ht : (pc : Int) + off = (tgt : Int)) (ha : a < 2 ^ 31) (kt : a = 0 → q_W G X I w cn (tgt) ls (st) S) (kf : ¬ a = 0 → q_W G X I w cn (pc + 3) ls (st) S) : q_W G X I w cn (pc) ls (.inl (nI a) :: st) S := q_if_eq F tgt hd ht (fun h => kt (by rw [← nI_0, nI_eq ha (by decide)] at h; exact h)) (fun h => kf (by rw [← nI_0, nI_eq ha (by decide)] at h; exact h))
theorem q_icmpN_ne {G : q_g} {X : q_cx} {I : q_in} {w : q_wd} {cn : Nat × Nat} {pc : Nat} {ls : List (Option q_v)} {st : List q_v} {S : q_st} (F : q_fx G X I) {a b : Nat} {off : Int} (tgt : Nat) (hd : decode I.1 pc = .ok (.if_icmp .ne off, 3)) (ht : (pc : Int) + off = (tgt : Int)) (ha : a < 2 ^ 31) (hb : b < 2 ^ 31) (kt : ¬ a = b → q_W G X I w cn (tgt) ls (st) S) (kf : a = b → q_W G X I w cn (pc + 3) ls (st) S) : q_W G X I w cn (pc) ls (.inl (nI b) :: .inl (nI a) :: st) S := q_icmp_ne F tgt hd ht (fun h => kt (by simpa only [nI_eq ha hb] using h)) (fun h => kf (by simpa only [nI_eq ha hb] using h))
theorem q_ifN_ne {G : q_g} {X : q_cx} {I : q_in} {w : q_wd} {cn : Nat × Nat} {pc : Nat} {ls : List (Option q_v)} {st : List q_v} {S : q_st} (F : q_fx G X I) {a : Nat} {off : Int} (tgt : Nat) (hd : decode I.1 pc = .ok (.ifCond .ne off, 3)) (ht : (pc : Int) + off = (tgt : Int)) (ha : a < 2 ^ 31) (kt : ¬ a = 0 → q_W G X I w cn (tgt) ls (st) S) (kf : a = 0 → q_W G X I w cn (pc + 3) ls (st) S) : q_W G X I w cn (pc) ls (.inl (nI a) :: st) S := q_if_ne F tgt hd ht (fun h => kt (by rw [← nI_0, nI_eq ha (by decide)] at h; exact h)) (fun h => kf (by rw [← nI_0, nI_eq ha (by decide)] at h; exact h))
theorem q_icmpN_lt {G : q_g} {X : q_cx} {I : q_in} {w : q_wd} {cn : Nat × Nat} {pc : Nat} {ls : List (Option q_v)} {st : List q_v} {S : q_st} (F : q_fx G X I) {a b : Nat} {off : Int} (tgt : Nat) (hd : decode I.1 pc = .ok (.if_icmp .lt off, 3)) (ht : (pc : Int) + off = (tgt : Int)) (ha : a < 2 ^ 31) (hb : b < 2 ^ 31) (kt : a < b → q_W G X I w cn (tgt) ls (st) S) (kf : b ≤ a → q_W G X I w cn (pc + 3) ls (st) S) : q_W G X I w cn (pc) ls (.inl (nI b) :: .inl (nI a) :: st) S := q_icmp_lt F tgt hd ht (fun h => kt (by rw [nI_toInt ha, nI_toInt hb] at h; omega)) (fun h => kf (by rw [nI_toInt ha, nI_toInt hb] at h; omega))
theorem q_ifN_lt {G : q_g} {X : q_cx} {I : q_in} {w : q_wd} {cn : Nat × Nat} {pc : Nat} {ls : List (Option q_v)} {st : List q_v} {S : q_st} (F : q_fx G X I) {a : Nat} {off : Int} (tgt : Nat) (hd : decode I.1 pc = .ok (.ifCond .lt off, 3)) (ht : (pc : Int) + off = (tgt : Int)) (ha : a < 2 ^ 31) (kt : a < 0 → q_W G X I w cn (tgt) ls (st) S) (kf : 0 ≤ a → q_W G X I w cn (pc + 3) ls (st) S) : q_W G X I w cn (pc) ls (.inl (nI a) :: st) S := q_if_lt F tgt hd ht (fun h => kt (by rw [nI_toInt ha] at h; omega)) (fun h => kf (by rw [nI_toInt ha] at h; omega))
theorem q_icmpN_ge {G : q_g} {X : q_cx} {I : q_in} {w : q_wd} {cn : Nat × Nat} {pc : Nat} {ls : List (Option q_v)} {st : List q_v} {S : q_st} (F : q_fx G X I) {a b : Nat} {off : Int} (tgt : Nat) (hd : decode I.1 pc = .ok (.if_icmp .ge off, 3)) (ht : (pc : Int) + off = (tgt : Int)) (ha : a < 2 ^ 31) (hb : b < 2 ^ 31) (kt : b ≤ a → q_W G X I w cn (tgt) ls (st) S) (kf : a < b → q_W G X I w cn (pc + 3) ls (st) S) : q_W G X I w cn (pc) ls (.inl (nI b) :: .inl (nI a) :: st) S := q_icmp_ge F tgt hd ht (fun h => kt (by rw [nI_toInt ha, nI_toInt hb] at h; omega)) (fun h => kf (by rw [nI_toInt ha, nI_toInt hb] at h; omega))
theorem q_ifN_ge {G : q_g} {X : q_cx} {I : q_in} {w : q_wd} {cn : Nat × Nat} {pc : Nat} {ls : List (Option q_v)} {st : List q_v} {S : q_st} (F : q_fx G X I) {a : Nat} {off : Int} (tgt : Nat) (hd : decode I.1 pc = .ok (.ifCond .ge off, 3)) (ht : (pc : Int) + off = (tgt : Int)) (ha : a < 2 ^ 31) (kt : 0 ≤ a → q_W G X I w cn (tgt) ls (st) S) (kf : a < 0 → q_W G X I w cn (pc + 3) ls (st) S) : q_W G X I w cn (pc) ls (.inl (nI a) :: st) S := q_if_ge F tgt hd ht (fun h => kt (by rw [nI_toInt ha] at h; omega)) (fun h => kf (by rw [nI_toInt ha] at h; omega))
theorem q_icmpN_gt {G : q_g} {X : q_cx} {I : q_in} {w : q_wd} {cn : Nat × Nat} {pc : Nat} {ls : List (Option q_v)} {st : List q_v} {S : q_st} (F : q_fx G X I) {a b : Nat} {off : Int} (tgt : Nat) (hd : decode I.1 pc = .ok (.if_icmp .gt off, 3)) (ht : (pc : Int) + off = (tgt : Int)) (ha : a < 2 ^ 31) (hb : b < 2 ^ 31) (kt : b < a → q_W G X I w cn (tgt) ls (st) S) (kf : a ≤ b → q_W G X I w cn (pc + 3) ls (st) S) : q_W G X I w cn (pc) ls (.inl (nI b) :: .inl (nI a) :: st) S := q_icmp_gt F tgt hd ht (fun h => kt (by rw [nI_toInt ha, nI_toInt hb] at h; omega)) (fun h => kf (by rw [nI_toInt ha, nI_toInt hb] at h; omega))
theorem q_ifN_gt {G : q_g} {X : q_cx} {I : q_in} {w : q_wd} {cn : Nat × Nat} {pc : Nat} {ls : List (Option q_v)} {st : List q_v} {S : q_st} (F : q_fx G X I) {a : Nat} {off : Int} (tgt : Nat) (hd : decode I.1 pc = .ok (.ifCond .gt off, 3)) (ht : (pc : Int) + off = (tgt : Int)) (ha : a < 2 ^ 31) (kt : 0 < a → q_W G X I w cn (tgt) ls (st) S) (kf : a ≤ 0 → q_W G X I w cn (pc + 3) ls (st) S) : q_W G X I w cn (pc) ls (.inl (nI a) :: st) S := q_if_gt F tgt hd ht (fun h => kt (by rw [nI_toInt ha] at h; omega)) (fun h => kf (by rw [nI_toInt ha] at h; omega))
theorem q_icmpN_le {G : q_g} {X : q_cx} {I : q_in} {w : q_wd} {cn : Nat × Nat} {pc : Nat} {ls : List (Option q_v)} {st : List q_v} {S : q_st} (F : q_fx G X I) {a b : Nat} {off : Int} (tgt : Nat) (hd : decode I.1 pc = .ok (.if_icmp .le off, 3)) (ht : (pc : Int) + off = (tgt : Int)) (ha : a < 2 ^ 31) (hb : b < 2 ^ 31) (kt : a ≤ b → q_W G X I w cn (tgt) ls (st) S) (kf : b < a → q_W G X I w cn (pc + 3) ls (st) S) : q_W G X I w cn (pc) ls (.inl (nI b) :: .inl (nI a) :: st) S := q_icmp_le F tgt hd ht (fun h => kt (by rw [nI_toInt ha, nI_toInt hb] at h; omega)) (fun h => kf (by rw [nI_toInt ha, nI_toInt hb] at h; omega))
theorem q_ifN_le {G : q_g} {X : q_cx} {I : q_in} {w : q_wd} {cn : Nat × Nat} {pc : Nat} {ls : List (Option q_v)} {st : List q_v} {S : q_st} (F : q_fx G X I) {a : Nat} {off : Int} (tgt : Nat) (hd : decode I.1 pc = .ok (.ifCond .le off, 3)) (ht : (pc : Int) + off = (tgt : Int)) (ha : a < 2 ^ 31) (kt : a ≤ 0 → q_W G X I w cn (tgt) ls (st) S) (kf : 0 < a → q_W G X I w cn (pc + 3) ls (st) S) : q_W G X I w cn (pc) ls (.inl (nI a) :: st) S := q_if_le F tgt hd ht (fun h => kt (by rw [nI_toInt ha] at h; omega)) (fun h => kf (by rw [nI_toInt ha] at h; omega))
theorem q_top {G : q_g} {X : q_cx} {I : q_in} {w : q_wd} {cn : Nat × Nat} {pc : Nat} {ls : List (Option q_v)} {st : List q_v} {S : q_st} {x : Int32} (y : Int32) (h : x = y) (kk : q_W G X I w cn (pc) ls (.inl y :: st) S) : q_W G X I w cn (pc) ls (.inl x :: st) S := h ▸ kk
theorem q_pc {G : q_g} {X : q_cx} {I : q_in} {w : q_wd} {cn : Nat × Nat} {pc : Nat} {ls : List (Option q_v)} {st : List q_v} {S : q_st} (pc' : Nat) (h : pc = pc') (kk : q_W G X I w cn (pc') ls (st) S) : q_W G X I w cn (pc) ls (st) S := h ▸ kk
end
section
/-! rows of my machine: fields, arrays, calls, answers -/
/-- a field's link: owner, place in its pool; the class's number in vwCl, the field's slot -/
def q_fk (own : String) (idx ci k : Nat) : Prop := ∃ (C : String) (T : u_T) (N : Nat), vwCl[ci]? = some (C, T, N) ∧ k < N ∧ (∀ w ∈ u_ws C T N, w ∈ q_ws) ∧ Cond.fieldLink own idx (T k).1 (T k).2.1 (T k).2.2.1 ∈ q_ws
/-- what a store into a field wants of its class -/
def q_fp (ci k : Nat) (ty : FieldType) (fin : Bool) : Prop := ∃ (C : String) (T : u_T) (N : Nat) (ty0 : Nat → FieldType), vwCl[ci]? = some (C, T, N) ∧ (∀ k, k < N → parseFieldDescriptor (T k).2.2.1 = some (ty0 k)) ∧ (∀ a, a < N → ∀ b, b < N → a ≠ b → (T a).2.1 ≠ (T b).2.1) ∧ (T k).2.2.2 = fin ∧ parseFieldDescriptor (T k).2.2.1 = some ty
section QH
variable {G : q_g} {X : q_cx} {I : q_in} {w : q_wd} {cn : Nat × Nat} {pc : Nat} {ls : List (Option q_v)} {st : List q_v} {S : q_st}
theorem q_get0 (F : q_fx G X I) {i : q_ix} {ci k idx : Nat} {fl : List (Option (Option q_ix))} {t : Option (Option q_ix)} {v : q_v} (L : q_fk I.2.1.cls idx ci k) (hi : i ∈ w.1) (hsh : w.2.2 i = .inl (ci, fl)) (hk : fl[k]? = some t) (hv : q_fld w.2.1 (S i) k t = q_val w.2.1 v) (hd : decode I.1 pc = .ok (.getfield idx, 3)) (kk : q_W G X I w cn (pc + 3) ls (v :: st) S) : q_W G X I w cn pc ls (.inr (some i) :: st) S := by
  obtain ⟨p, l, e, s, m, args, below, meth, c, A, Qf⟩ := X
  obtain ⟨hx, hb, hml, hts, hown, hnm, hr, hlk, hK, hA⟩ := F
  obtain ⟨C, T, N, hC, hN, hin, hlink⟩ := L
  intro H locs la hP hD hS hl
  obtain ⟨q0, hq⟩ := List.getElem?_of_mem hi
  have he := q_wl_at (S := S) hq
  rw [hsh] at he
  exact va_get (fs := fl.mapIdx (q_fld w.2.1 (S i))) (v := q_val w.2.1 v) hx hb hts hin hown hK hP q0 he hC k hN (hts _ hlink) (fun _ h => h) (by rw [List.getElem?_mapIdx, hk, ← hv]; rfl) hd (kk H locs la hP hD hS hl)
theorem q_geti (F : q_fx G X I) {i : q_ix} {ci k idx : Nat} {fl : List (Option (Option q_ix))} (L : q_fk I.2.1.cls idx ci k) (hi : i ∈ w.1) (hsh : w.2.2 i = .inl (ci, fl)) (hk : fl[k]? = some none) (hd : decode I.1 pc = .ok (.getfield idx, 3)) (kk : q_W G X I w cn (pc + 3) ls (.inl (S i k) :: st) S) : q_W G X I w cn pc ls (.inr (some i) :: st) S :=
  q_get0 F L hi hsh hk rfl hd kk
theorem q_getr (F : q_fx G X I) {i j : q_ix} {ci k idx : Nat} {fl : List (Option (Option q_ix))} (L : q_fk I.2.1.cls idx ci k) (hi : i ∈ w.1) (hsh : w.2.2 i = .inl (ci, fl)) (hk : fl[k]? = some (some (some j))) (hd : decode I.1 pc = .ok (.getfield idx, 3)) (kk : q_W G X I w cn (pc + 3) ls (.inr (some j) :: st) S) : q_W G X I w cn pc ls (.inr (some i) :: st) S :=
  q_get0 F L hi hsh hk rfl hd kk
theorem q_puti (F : q_fx G X I) {i : q_ix} {ci k idx : Nat} {v : Int32} {fl : List (Option (Option q_ix))} (L : q_fk I.2.1.cls idx ci k) (M : q_fp ci k .int false) (hi : i ∈ w.1) (hsh : w.2.2 i = .inl (ci, fl)) (hk : fl[k]? = some none) (hd : decode I.1 pc = .ok (.putfield idx, 3)) (kk : q_W G X I w cn (pc + 3) ls st (q_up S i k v)) : q_W G X I w cn pc ls (.inl v :: .inr (some i) :: st) S := by
  obtain ⟨p, l, e, s, m, args, below, meth, c, A, Qf⟩ := X
  obtain ⟨hx, hb, hml, hts, hown, hnm, hr, hlk, hK, hA⟩ := F
  obtain ⟨C, T, N, hC, hN, hin, hlink⟩ := L
  obtain ⟨C', T', N', ty0, hC', hty, hap, hfin, hd'⟩ := M
  cases (hC.symm.trans hC')
  intro H locs la hP hD hS hl
  obtain ⟨q0, hq⟩ := List.getElem?_of_mem hi
  have he := q_wl_at (S := S) hq
  rw [hsh] at he
  refine va_put (fs := fl.mapIdx (q_fld w.2.1 (S i))) (v := .int v) (ty := .int) hx hb hts hin ty0 hty hap hown hK hP hD hS q0 he hC k hN (hts _ hlink) (fun _ h => h) hfin hd' rfl rfl (by rw [List.length_mapIdx]; exact (List.getElem?_eq_some_iff.mp hk).1) hd (fun H1 locs1 hP1 hD1 hS1 => ?_)
  rw [q_set (S' := q_up S i k v) hD hq (by rw [hsh, q_up_self]; show Sum.inr (ci, _) = _; rw [q_fld_set hk]) (fun j hj => q_up_other S i k v j hj)] at hP1 hD1
  exact kk H1 locs1 la hP1 hD1 hS1 hl
theorem q_iald (F : q_fx G X I) {i : q_ix} {n : Nat} {x : Int32} (k : Nat) (hi : i ∈ w.1) (hsh : w.2.2 i = .inr (.inl (G.2.1, n))) (hx0 : x = nI k) (hk : k < n) (hn : n < 2 ^ 31) (hd : decode I.1 pc = .ok (.iaload, 1)) (kk : q_W G X I w cn (pc + 1) ls (.inl (S i k) :: st) S) : q_W G X I w cn pc ls (.inl x :: .inr (some i) :: st) S := by
  obtain ⟨p, l, e, s, m, args, below, meth, c, A, Qf⟩ := X
  obtain ⟨hx, hb, hml, hts, hown, hnm, hr, hlk, hK, hA⟩ := F
  subst hx0
  intro H locs la hP hD hS hl
  obtain ⟨q0, hq⟩ := List.getElem?_of_mem hi
  have he := q_wl_at (S := S) hq
  rw [hsh] at he
  have hk' := kk H locs la hP hD hS hl
  refine va_iald (n := n) (f := S i) hx hb hK hP q0 0 he rfl (vp_in_nI hk hn) hd ?_
  rw [nI_clamp (by omega)]
  exact hk'
theorem q_iast (F : q_fx G X I) {i : q_ix} {n : Nat} {x v : Int32} (k : Nat) (hi : i ∈ w.1) (hsh : w.2.2 i = .inr (.inl (G.2.1, n))) (hx0 : x = nI k) (hk : k < n) (hn : n < 2 ^ 31) (hd : decode I.1 pc = .ok (.iastore, 1)) (kk : q_W G X I w cn (pc + 1) ls st (q_up S i k v)) : q_W G X I w cn pc ls (.inl v :: .inl x :: .inr (some i) :: st) S := by
  obtain ⟨p, l, e, s, m, args, below, meth, c, A, Qf⟩ := X
  obtain ⟨hx, hb, hml, hts, hown, hnm, hr, hlk, hK, hA⟩ := F
  subst hx0
  intro H locs la hP hD hS hl
  obtain ⟨q0, hq⟩ := List.getElem?_of_mem hi
  have he := q_wl_at (S := S) hq
  rw [hsh] at he
  refine va_iast (n := n) (f := S i) hx hb hK hP hD hS q0 0 he rfl (vp_in_nI hk hn) hd (fun H1 locs1 hP1 hD1 hS1 => ?_)
  rw [nI_clamp (by omega)] at hP1 hD1
  rw [q_set (S' := q_up S i k v) hD hq (by rw [hsh, q_up_self]; rfl) (fun j hj => q_up_other S i k v j hj)] at hP1 hD1
  exact kk H1 locs1 la hP1 hD1 hS1 hl
theorem q_aald (F : q_fx G X I) {i j : q_ix} {n : Nat} {x : Int32} {f : Nat → Option q_ix} (k : Nat) (hi : i ∈ w.1) (hsh : w.2.2 i = .inr (.inr (G.2.2, n, f))) (hx0 : x = nI k) (hk : k < n) (hn : n < 2 ^ 31) (hf : f k = some j) (hd : decode I.1 pc = .ok (.aaload, 1)) (kk : q_W G X I w cn (pc + 1) ls (.inr (some j) :: st) S) : q_W G X I w cn pc ls (.inl x :: .inr (some i) :: st) S := by
  obtain ⟨p, l, e, s, m, args, below, meth, c, A, Qf⟩ := X
  obtain ⟨hx, hb, hml, hts, hown, hnm, hr, hlk, hK, hA⟩ := F
  subst hx0
  intro H locs la hP hD hS hl
  obtain ⟨q0, hq⟩ := List.getElem?_of_mem hi
  have he := q_wl_at (S := S) hq
  rw [hsh] at he
  have hk' := kk H locs la hP hD hS hl
  refine va_aldq (C := "BranchingKernel$Proc") (n := n) (f := fun j => (f j).map w.2.1) hx hb hK hP q0 1 he rfl (vp_in_nI hk hn) hd ?_
  rw [nI_clamp (by omega)]
  show W _ _ _ _ _ _ _ _ _ _ _ _ _ _ _ (F0 m (pc + 1) la (va_rf ((f k).map w.2.1) :: st.map (q_val w.2.1)))
  rw [hf]
  exact hk'
/-- the ends of methods that make no cell -/
def q_pi (w : q_wd) (P : Int32 → q_st → Prop) : q_post := fun r w' S' => w' = w ∧ ∃ v, r = some (.inl v) ∧ P v S'
def q_pv (w : q_wd) (P : q_st → Prop) : q_post := fun r w' S' => w' = w ∧ r = none ∧ P S'
theorem q_iret0 (F : q_fx G X I) {post : q_post} (E : q_en G X I post) {v : Int32} {ty : FieldType} (hret : I.2.2.2.1 = some ty) (hn : narrow ty (.int v) = .int v) (hc : cn.1 ≤ I.2.2.2.2.cells ∧ cn.2 ≤ I.2.2.2.2.slots) (hp : post (some (.inl v)) w S) (hd : decode I.1 pc = .ok (.ireturn, 1)) : q_W G X I w cn pc ls [.inl v] S := by
  obtain ⟨p, l, e, s, m, args, below, meth, c, A, Qf⟩ := X
  obtain ⟨hx, hb, hml, hts, hown, hnm, hr, hlk, hK, hA⟩ := F
  change Qf = _ at E
  subst E
  intro H locs la hP hD hS hl
  refine W.widen hc.1 hc.2 ?_
  exact W.zret (v := v) hx hb (hr.trans hret) hn (fun t ht hW => ⟨⟨some (.inl v), w, S, rfl, hp, by rw [ht]; exact hP, va_K.moved hW.alike hK, hD⟩, hS.F ht⟩) hS.2.2 hd hlk
theorem q_vret0 (F : q_fx G X I) {post : q_post} (E : q_en G X I post) (hret : I.2.2.2.1 = none) (hc : cn.1 ≤ I.2.2.2.2.cells ∧ cn.2 ≤ I.2.2.2.2.slots) (hp : post none w S) (hd : decode I.1 pc = .ok (.return_, 1)) : q_W G X I w cn pc ls [] S := by
  obtain ⟨p, l, e, s, m, args, below, meth, c, A, Qf⟩ := X
  obtain ⟨hx, hb, hml, hts, hown, hnm, hr, hlk, hK, hA⟩ := F
  change Qf = _ at E
  subst E
  intro H locs la hP hD hS hl
  refine W.widen hc.1 hc.2 ?_
  exact W.vret hx hb (hr.trans hret) (fun t ht hW => ⟨⟨none, w, S, rfl, hp, by rw [ht]; exact hP, va_K.moved hW.alike hK, hD⟩, hS.F ht⟩) hS.2.2 hd hlk
theorem q_iret (F : q_fx G X I) {v : Int32} {P : Int32 → q_st → Prop} (E : q_en G X I (q_pi w P)) (hret : I.2.2.2.1 = some .int) (hp : P v S) (hd : decode I.1 pc = .ok (.ireturn, 1)) : q_W G X I w (0, 0) pc ls [.inl v] S :=
  q_iret0 F E hret rfl ⟨Nat.zero_le _, Nat.zero_le _⟩ ⟨rfl, v, rfl, hp⟩ hd
theorem q_zret (F : q_fx G X I) {v : Int32} {P : Int32 → q_st → Prop} (E : q_en G X I (q_pi w P)) (hret : I.2.2.2.1 = some .boolean) (hn : narrow .boolean (.int v) = .int v) (hp : P v S) (hd : decode I.1 pc = .ok (.ireturn, 1)) : q_W G X I w (0, 0) pc ls [.inl v] S :=
  q_iret0 F E hret hn ⟨Nat.zero_le _, Nat.zero_le _⟩ ⟨rfl, v, rfl, hp⟩ hd
theorem q_vret (F : q_fx G X I) {P : q_st → Prop} (E : q_en G X I (q_pv w P)) (hret : I.2.2.2.1 = none) (hp : P S) (hd : decode I.1 pc = .ok (.return_, 1)) : q_W G X I w (0, 0) pc ls [] S :=
  q_vret0 F E hret ⟨Nat.zero_le _, Nat.zero_le _⟩ ⟨rfl, rfl, hp⟩ hd
/-- a call's words: the caller's owner, the place in its pool, the callee -/
def q_cb (own : String) (idx n : Nat) (J : q_in) : Prop := Cond.methodLink own idx J.2.1 ∈ q_ws ∧ Cond.initialized J.2.1.cls ∈ q_ws ∧ Cond.code J.2.1 J.1 J.2.2.1 J.2.2.2.1 ∈ q_ws ∧ J.2.1.cls ≠ "java/lang/invoke/MethodHandle" ∧ J.2.1.cls ≠ "java/lang/invoke/VarHandle" ∧ (parseMethodDescriptor J.2.1.desc).map (fun d => d.parameters.length) = some n
def q_cv (own : String) (idx n : Nat) (J : q_in) : Prop := q_cb own idx n J ∧ Cond.instanceMethod J.2.1 ∈ q_ws ∧ Cond.selects J.2.1.cls J.2.1 J.2.1 ∈ q_ws
def q_cs (own : String) (idx n : Nat) (J : q_in) : Prop := q_cb own idx n J ∧ Cond.static J.2.1 ∈ q_ws
/-- the callee's room in the caller's -/
def q_rm (I J : q_in) : Prop := J.2.2.2.2.frames + 1 ≤ I.2.2.2.2.frames ∧ 8 + (J.2.2.1 + 11) + J.2.2.2.2.locals ≤ I.2.2.2.2.locals
theorem q_gin {J : q_in} (h : Cond.code J.2.1 J.1 J.2.2.1 J.2.2.2.1 ∈ q_ws) : GoodIn q_ws (Cond.code J.2.1 J.1 J.2.2.1 J.2.2.2.1 :: q_ws) := by
  intro w hw
  rcases List.mem_cons.mp hw with rfl | hw
  · exact ⟨h, q_ws_good h⟩
  · exact ⟨hw, q_ws_good hw⟩
theorem q_catsum (ad : q_ix → Nat) (l : List q_v) : ((l.map (q_val ad)).map fun v => v.category).sum = l.length := by
  induction l with
  | nil => rfl
  | cons a t ih => simp only [List.map_cons, List.sum_cons, ih, q_val_cat, List.length_cons]; omega
/-- behind a call: from the machine's run to mine -/
theorem q_back {p : Program} {l : Launch} {e : Env} {s : State} {m : MethodId} {args : Array Value} {below : List Frame} {meth : Method} {c : Code} {A : Nat → Prop} {Qf : State → Prop} {H : Heap} {locs : List Loc} {la : Array Slot} {mc ms : Nat} {st0 : List Value} {a : Array Value} {post1 : q_post}
    (hr : va_Run p l e I.2.2.2.2 s m args below meth c H locs cn.1 cn.2 mc ms (F0 m pc la st0) (st.map (q_val w.2.1)) (q_Q G (va_A (q_wl w S) H.size) post1 a) (va_A (q_wl w S) H.size)) (hP : va_P G.1 vwCl (q_wl w S) H) (hD : va_D A (q_wl w S)) (hS : va_S A s.heap H locs) (hA : ∀ q : Nat, s.heap.size ≤ q → A q) (hl : q_lo la I.2.2.1 w.2.1 ls)
    (hkeep : ∀ r w' S', post1 r w' S' → (∀ i : q_ix, (∃ k : Nat, ls[k]? = some (some (Sum.inr (some i)))) ∨ (Sum.inr (some i) : q_v) ∈ st → w'.2.1 i = w.2.1 i))
    (kk : ∀ r w' S', post1 r w' S' → q_W G (p, l, e, s, m, args, below, meth, c, A, Qf) I w' (cn.1 + mc, cn.2 + ms) (pc + 3) ls (r.toList ++ st) S') : W p l e I.2.2.2.2 s m args below meth c H locs cn.1 cn.2 Qf (F0 m pc la st0) := by
  intro T hT XX
  obtain ⟨v, st₀, t, T', L, h0, X', hL, e1, e2, ⟨⟨r, w', S', hv, hp, hP1, hK1, hD1⟩, hz, hkp⟩, sts⟩ := hr T hT XX
  cases hv
  rw [h0] at hz hkp
  have hF : ∀ q, va_A (q_wl w S) H.size q → A q := by
    intro q h
    rcases h with ⟨k, e, h⟩ | h
    · exact hD.2 k (q, e) h
    · exact hA q (Nat.le_trans hS.1 h)
  have had := hkeep r w' S' hp
  have hval : ∀ u : q_v, (∃ k : Nat, ls[k]? = some (some u)) ∨ u ∈ st → q_val w.2.1 u = q_val w'.2.1 u := by
    intro u hu
    rcases u with x | (_ | i)
    · rfl
    · rfl
    · show Value.ref _ = Value.ref _
      rw [had i hu]
  have hl' : q_lo la I.2.2.1 w'.2.1 ls := q_lo_of hl (fun i u hi => ⟨u, hi, hval u (Or.inl ⟨i, hi⟩)⟩)
  have hst : st.map (q_val w.2.1) = st.map (q_val w'.2.1) := List.map_congr_left (fun u hu => hval u (Or.inr hu))
  have hS' : va_S A s.heap T'.heap (locs ++ L) := ⟨Nat.le_trans hS.1 (by rw [e1]; exact hz), fun q h1 h2 => by rw [e1, hkp q (Nat.lt_of_lt_of_le h1 hS.1) (fun z => h2 (hF q z))]; exact hS.2.1 q h1 h2, fun q hq => by
      rcases List.mem_append.mp hq with h | h
      · exact hS.2.2 q h
      · exact hF _ (hL q h)⟩
  obtain ⟨t2, a1, b1⟩ := kk r w' S' hp T'.heap (locs ++ L) la (by rw [e1]; exact hP1) (hD1.weaken (fun _ q _ h => hF q.1 h)) hS' hl' T' rfl X'
  refine ⟨t2, sts t2 ?_, b1⟩
  have e3 : (r.toList ++ st).map (q_val w'.2.1) = (Option.map (q_val w'.2.1) r).toList ++ st.map (q_val w.2.1) := by
    rw [List.map_append, hst]
    cases r <;> rfl
  rw [e3] at a1
  exact a1
theorem q_callV (F : q_fx G X I) {J : q_in} {idx n ci : Nat} {b : q_ix} {av : List q_v} {st0 : List q_v} {fl : List (Option (Option q_ix))} {T : u_T} {N : Nat} {post1 : q_post} (hM : ∀ l, q_Ct l G J (.inr (some b) :: av) w S post1) (L : q_cv I.2.1.cls idx n J) (hst : st0 = av.reverse ++ .inr (some b) :: st) (hb : b ∈ w.1) (hsh : w.2.2 b = .inl (ci, fl)) (hC : vwCl[ci]? = some (J.2.1.cls, T, N)) (hn : av.length = n) (hR : q_rm I J) (hlen : st.length ≤ 8) (hf : cn.1 + J.2.2.2.2.cells ≤ I.2.2.2.2.cells ∧ cn.2 + J.2.2.2.2.slots ≤ I.2.2.2.2.slots) (hd : decode I.1 pc = .ok (.invokevirtual idx, 3))
    (hkeep : ∀ r w' S', post1 r w' S' → (∀ i : q_ix, (∃ k : Nat, ls[k]? = some (some (Sum.inr (some i)))) ∨ (Sum.inr (some i) : q_v) ∈ st → w'.2.1 i = w.2.1 i))
    (kk : ∀ r w' S', post1 r w' S' → q_W G X I w' (cn.1 + J.2.2.2.2.cells, cn.2 + J.2.2.2.2.slots) (pc + 3) ls (r.toList ++ st) S') : q_W G X I w cn pc ls st0 S := by
  obtain ⟨p, l, e, s, m, args, below, meth, c, A, Qf⟩ := X
  obtain ⟨hx, hbb, hml, hts, hown, hnm, hr, hlk, hK, hA⟩ := F
  obtain ⟨⟨c1, c2, c3, c4, c5, c6⟩, c7, c8⟩ := L
  intro H locs la hP hD hS hl
  obtain ⟨q0, hq⟩ := List.getElem?_of_mem hb
  have he := q_wl_at (S := S) hq
  rw [hsh] at he
  subst hst
  have cw : CallW I.2.2.2.2 s args I.2.1.cls J.2.1.cls idx J.2.1 J.1 J.2.2.1 J.2.2.2.1 (Cond.code J.2.1 J.1 J.2.2.1 J.2.2.2.1 :: q_ws) J.2.2.2.2 J.2.2.2.2.cells J.2.2.2.2.slots n :=
    ⟨callB_of n hts (q_gin c3) rfl rfl rfl (hts _ c2) (hts _ c1) ⟨c4, c5, c6⟩ hR, hts _ c7, hts _ c8⟩
  refine q_back (va_runV (As := av.map (q_val w.2.1)) (b := w.2.1 b) ⟨hx, hbb, hml, hown, hts⟩ (hM l H.size) cw ⟨fun a U g mk q => ?_, va_recv hK hP hC he, fun U hU hW => ⟨rfl, by rw [hU], by rw [hU]; exact hP, va_K.moved hW.alike hK, hD.weaken (fun _ _ _ _ => trivial)⟩⟩ rfl (by rw [List.length_map]; exact hn) hl.1 ?_ ?_ hd hf) hP hD hS hA hl hkeep kk
  · obtain ⟨q0, q1, qP, qK, qD⟩ := q
    exact ⟨q0, q1, qP, va_K.moved (u := U) (U := U.calling g mk a) (Vm.Alike.refl U.vm) qK, qD⟩
  · show List.map (q_val w.2.1) (av.reverse ++ .inr (some b) :: st) = _
    rw [List.map_append, List.map_reverse]
    rfl
  · exact lv_room (by rw [q_catsum]; exact hlen)
theorem q_callS (F : q_fx G X I) {J : q_in} {idx n : Nat} {av : List q_v} {st0 : List q_v} {post1 : q_post} (hM : ∀ l, q_Ct l G J av w S post1) (L : q_cs I.2.1.cls idx n J) (hst : st0 = av.reverse ++ st) (hn : av.length = n) (hR : q_rm I J) (hlen : st.length ≤ 8) (hf : cn.1 + J.2.2.2.2.cells ≤ I.2.2.2.2.cells ∧ cn.2 + J.2.2.2.2.slots ≤ I.2.2.2.2.slots) (hd : decode I.1 pc = .ok (.invokestatic idx, 3))
    (hkeep : ∀ r w' S', post1 r w' S' → (∀ i : q_ix, (∃ k : Nat, ls[k]? = some (some (Sum.inr (some i)))) ∨ (Sum.inr (some i) : q_v) ∈ st → w'.2.1 i = w.2.1 i))
    (kk : ∀ r w' S', post1 r w' S' → q_W G X I w' (cn.1 + J.2.2.2.2.cells, cn.2 + J.2.2.2.2.slots) (pc + 3) ls (r.toList ++ st) S') : q_W G X I w cn pc ls st0 S := by
  obtain ⟨p, l, e, s, m, args, below, meth, c, A, Qf⟩ := X
  obtain ⟨hx, hbb, hml, hts, hown, hnm, hr, hlk, hK, hA⟩ := F
  obtain ⟨⟨c1, c2, c3, c4, c5, c6⟩, c7⟩ := L
  intro H locs la hP hD hS hl
  subst hst
  have cw : CallB I.2.2.2.2 s args I.2.1.cls idx J.2.1 J.1 J.2.2.1 J.2.2.2.1 (Cond.code J.2.1 J.1 J.2.2.1 J.2.2.2.1 :: q_ws) J.2.2.2.2 J.2.2.2.2.cells J.2.2.2.2.slots n :=
    callB_of n hts (q_gin c3) rfl rfl rfl (hts _ c2) (hts _ c1) ⟨c4, c5, c6⟩ hR
  refine q_back (va_runS (As := av.map (q_val w.2.1)) ⟨hx, hbb, hml, hown, hts⟩ (hM l H.size) ⟨cw, hts _ c7⟩ ⟨fun a U g mk q => ?_, fun U hU hW => ⟨rfl, by rw [hU], by rw [hU]; exact hP, va_K.moved hW.alike hK, hD.weaken (fun _ _ _ _ => trivial)⟩⟩ rfl (by rw [List.length_map]; exact hn) hl.1 ?_ ?_ hd hf) hP hD hS hA hl hkeep kk
  · obtain ⟨q0, q1, qP, qK, qD⟩ := q
    exact ⟨q0, q1, qP, va_K.moved (u := U) (U := U.calling g mk a) (Vm.Alike.refl U.vm) qK, qD⟩
  · show List.map (q_val w.2.1) (av.reverse ++ st) = _
    rw [List.map_append, List.map_reverse]
  · exact lv_room (by rw [q_catsum]; exact hlen)
/-- calls of methods that make no cell -/
theorem q_callVi (F : q_fx G X I) {J : q_in} {idx n ci : Nat} {b : q_ix} {fl : List (Option (Option q_ix))} {T : u_T} {N : Nat} {P : Int32 → q_st → Prop} (av : List q_v) {st0 : List q_v} (hM : ∀ l, q_Ct l G J (.inr (some b) :: av) w S (q_pi w P)) (L : q_cv I.2.1.cls idx n J) (hst : st0 = av.reverse ++ .inr (some b) :: st) (hb : b ∈ w.1) (hsh : w.2.2 b = .inl (ci, fl)) (hC : vwCl[ci]? = some (J.2.1.cls, T, N)) (hn : av.length = n) (hR : q_rm I J) (hlen : st.length ≤ 8) (hf : J.2.2.2.2.cells = 0 ∧ J.2.2.2.2.slots = 0) (hc : cn.1 ≤ I.2.2.2.2.cells ∧ cn.2 ≤ I.2.2.2.2.slots) (hd : decode I.1 pc = .ok (.invokevirtual idx, 3))
    (kk : ∀ v S', P v S' → q_W G X I w cn (pc + 3) ls (.inl v :: st) S') : q_W G X I w cn pc ls st0 S := by
  refine q_callV F hM L hst hb hsh hC hn hR hlen (by rw [hf.1, hf.2]; exact hc) hd (fun r w' S' h i _ => by rw [h.1]) (fun r w' S' h => ?_)
  obtain ⟨rfl, v, rfl, h⟩ := h
  rw [hf.1, hf.2]
  exact kk v S' h
theorem q_callVv (F : q_fx G X I) {J : q_in} {idx n ci : Nat} {b : q_ix} {fl : List (Option (Option q_ix))} {T : u_T} {N : Nat} {P : q_st → Prop} (av : List q_v) {st0 : List q_v} (hM : ∀ l, q_Ct l G J (.inr (some b) :: av) w S (q_pv w P)) (L : q_cv I.2.1.cls idx n J) (hst : st0 = av.reverse ++ .inr (some b) :: st) (hb : b ∈ w.1) (hsh : w.2.2 b = .inl (ci, fl)) (hC : vwCl[ci]? = some (J.2.1.cls, T, N)) (hn : av.length = n) (hR : q_rm I J) (hlen : st.length ≤ 8) (hf : J.2.2.2.2.cells = 0 ∧ J.2.2.2.2.slots = 0) (hc : cn.1 ≤ I.2.2.2.2.cells ∧ cn.2 ≤ I.2.2.2.2.slots) (hd : decode I.1 pc = .ok (.invokevirtual idx, 3))
    (kk : ∀ S', P S' → q_W G X I w cn (pc + 3) ls st S') : q_W G X I w cn pc ls st0 S := by
  refine q_callV F hM L hst hb hsh hC hn hR hlen (by rw [hf.1, hf.2]; exact hc) hd (fun r w' S' h i _ => by rw [h.1]) (fun r w' S' h => ?_)
  obtain ⟨rfl, rfl, h⟩ := h
  rw [hf.1, hf.2]
  exact kk S' h
theorem q_callSi (F : q_fx G X I) {J : q_in} {idx n : Nat} {P : Int32 → q_st → Prop} (av : List q_v) {st0 : List q_v} (hM : ∀ l, q_Ct l G J av w S (q_pi w P)) (L : q_cs I.2.1.cls idx n J) (hst : st0 = av.reverse ++ st) (hn : av.length = n) (hR : q_rm I J) (hlen : st.length ≤ 8) (hf : J.2.2.2.2.cells = 0 ∧ J.2.2.2.2.slots = 0) (hc : cn.1 ≤ I.2.2.2.2.cells ∧ cn.2 ≤ I.2.2.2.2.slots) (hd : decode I.1 pc = .ok (.invokestatic idx, 3))
    (kk : ∀ v S', P v S' → q_W G X I w cn (pc + 3) ls (.inl v :: st) S') : q_W G X I w cn pc ls st0 S := by
  refine q_callS F hM L hst hn hR hlen (by rw [hf.1, hf.2]; exact hc) hd (fun r w' S' h i _ => by rw [h.1]) (fun r w' S' h => ?_)
  obtain ⟨rfl, v, rfl, h⟩ := h
  rw [hf.1, hf.2]
  exact kk v S' h
end QH
end
section
/-! counting, and the relation of the two memories: frames on one side, labels on the other -/
noncomputable def c_n (P : Nat → Prop) : Nat → Nat
  | 0 => 0
  | n + 1 => c_n P n + @ite Nat (P n) (Classical.propDecidable _) 1 0
theorem c_n_pos {P : Nat → Prop} {n : Nat} (h : P n) : c_n P (n + 1) = c_n P n + 1 := by
  show c_n P n + @ite Nat (P n) (Classical.propDecidable _) 1 0 = _
  rw [if_pos h]
theorem c_n_neg {P : Nat → Prop} {n : Nat} (h : ¬ P n) : c_n P (n + 1) = c_n P n := by
  show c_n P n + @ite Nat (P n) (Classical.propDecidable _) 1 0 = _
  rw [if_neg h]
  rfl
theorem c_n_congr {P Q : Nat → Prop} : ∀ {n : Nat}, (∀ i, i < n → (P i ↔ Q i)) → c_n P n = c_n Q n
  | 0, _ => rfl
  | n + 1, h => by
    have ih : c_n P n = c_n Q n := c_n_congr (fun i hi => h i (Nat.lt_succ_of_lt hi))
    by_cases hp : P n
    · rw [c_n_pos hp, c_n_pos ((h n (Nat.lt_succ_self n)).mp hp), ih]
    · rw [c_n_neg hp, c_n_neg (fun q => hp ((h n (Nat.lt_succ_self n)).mpr q)), ih]
theorem c_n_le (P : Nat → Prop) : ∀ n, c_n P n ≤ n
  | 0 => Nat.le_refl 0
  | n + 1 => by
    have ih := c_n_le P n
    by_cases hp : P n
    · rw [c_n_pos hp]; omega
    · rw [c_n_neg hp]; omega
theorem c_n_zero {P : Nat → Prop} : ∀ {n : Nat}, c_n P n = 0 ↔ ∀ i, i < n → ¬ P i
  | 0 => ⟨fun _ i hi => absurd hi (Nat.not_lt_zero i), fun _ => rfl⟩
  | n + 1 => by
    have ih := @c_n_zero P n
    by_cases hp : P n
    · rw [c_n_pos hp]
      exact ⟨fun h => by omega, fun h => absurd hp (h n (Nat.lt_succ_self n))⟩
    · rw [c_n_neg hp, ih]
      refine ⟨fun h i hi => ?_, fun h i hi => h i (Nat.lt_succ_of_lt hi)⟩
      by_cases hin : i = n
      · subst hin; exact hp
      · exact h i (by omega)
theorem c_n_full {P : Nat → Prop} : ∀ {n : Nat}, c_n P n = n ↔ ∀ i, i < n → P i
  | 0 => ⟨fun _ i hi => absurd hi (Nat.not_lt_zero i), fun _ => rfl⟩
  | n + 1 => by
    have ih := @c_n_full P n
    have hle := c_n_le P n
    by_cases hp : P n
    · rw [c_n_pos hp]
      constructor
      · intro h i hi
        by_cases hin : i = n
        · subst hin; exact hp
        · exact ih.mp (by omega) i (by omega)
      · intro h
        rw [ih.mpr (fun i hi => h i (Nat.lt_succ_of_lt hi))]
    · rw [c_n_neg hp]
      exact ⟨fun h => by omega, fun h => absurd (h n (Nat.lt_succ_self n)) hp⟩
/-- one place comes -/
theorem c_n_add {P Q : Nat → Prop} {k : Nat} (hP : ¬ P k) (hQ : Q k) (ho : ∀ i, i ≠ k → (P i ↔ Q i)) : ∀ {n : Nat}, k < n → c_n Q n = c_n P n + 1
  | 0, h => absurd h (Nat.not_lt_zero k)
  | n + 1, h => by
    by_cases hk : k = n
    · subst hk
      rw [c_n_pos hQ, c_n_neg hP, c_n_congr (fun i hi => ho i (by omega))]
    · have ih := c_n_add hP hQ ho (n := n) (by omega)
      by_cases hp : P n
      · rw [c_n_pos hp, c_n_pos ((ho n (by omega)).mp hp), ih]
      · rw [c_n_neg hp, c_n_neg (fun q => hp ((ho n (by omega)).mpr q)), ih]
theorem c_n_ex {P : Nat → Prop} {n k : Nat} (hk : k < n) (h : P k) : 0 < c_n P n := by
  rcases Nat.eq_zero_or_pos (c_n P n) with h0 | h0
  · exact absurd h (c_n_zero.mp h0 k hk)
  · exact h0
theorem c_n_one {P : Nat → Prop} {n k : Nat} (hk : k < n) (h : P k) (h1 : c_n P n = 1) : ∀ j, j < n → P j → j = k := by
  intro j hj hPj
  by_cases hjk : j = k
  · exact hjk
  · exfalso
    have e := c_n_add (P := fun i => P i ∧ i ≠ k) (Q := P) (k := k) (fun h => h.2 rfl) h (fun i hi => ⟨fun q => q.1, fun q => ⟨q, hi⟩⟩) hk
    have : c_n (fun i => P i ∧ i ≠ k) n = 0 := by omega
    exact c_n_zero.mp this j hj ⟨hPj, hjk⟩
/-- places that hold a value for the first time are as many as the values held -/
theorem c_n_first {f : Nat → Option Nat} {n : Nat} (hf : ∀ g v, f g = some v → v < n) : ∀ m, c_n (fun g => f g ≠ none ∧ ∀ j, j < g → f j ≠ f g) m = c_n (fun v => ∃ g, g < m ∧ f g = some v) n
  | 0 => by
    show 0 = _
    symm
    exact c_n_zero.mpr (fun i _ h => by obtain ⟨g, hg, -⟩ := h; omega)
  | m + 1 => by
    have ih := c_n_first hf m
    by_cases hp : f m ≠ none ∧ ∀ j, j < m → f j ≠ f m
    · rw [c_n_pos hp, ih]
      obtain ⟨h1, h2⟩ := hp
      cases hv : f m with
      | none => exact absurd hv h1
      | some v =>
        symm
        refine c_n_add (k := v) ?_ ⟨m, by omega, hv⟩ (fun i hi => ?_) (hf m v hv)
        · rintro ⟨g, hg, hgv⟩
          exact h2 g hg (by rw [hgv, hv])
        · constructor
          · rintro ⟨g, hg, hgv⟩
            exact ⟨g, by omega, hgv⟩
          · rintro ⟨g, hg, hgv⟩
            refine ⟨g, ?_, hgv⟩
            by_cases hgm : g = m
            · subst hgm
              rw [hv] at hgv
              exact absurd (Option.some.inj hgv).symm hi
            · omega
    · rw [c_n_neg hp, ih]
      refine c_n_congr (fun i _ => ?_)
      constructor
      · rintro ⟨g, hg, hgv⟩
        exact ⟨g, by omega, hgv⟩
      · rintro ⟨g, hg, hgv⟩
        by_cases hgm : g = m
        · subst hgm
          have : ∃ j, j < g ∧ f j = f g := by
            refine Classical.byContradiction fun hn => hp ⟨(by rw [hgv]; simp), fun j hj hjg => hn ⟨j, hj, hjg⟩⟩
          obtain ⟨j, hj, hjg⟩ := this
          exact ⟨j, hj, hjg.trans hgv⟩
        · exact ⟨g, by omega, hgv⟩
/-- the two memories: page g is in frame pg g (none: untouched); us: pages of each frame; cw: words of frames; lab: labels; wd: words of pages; L: no label is above it -/
def q_M (n : Nat) (pg : Nat → Option Nat) (us : Nat → Nat) (cw : Nat → Int32) (lab : Nat → Nat) (wd : Nat → Int32) (L : Nat) : Prop :=
  (∀ g f, pg g = some f → f < n ∧ g < 64) ∧ (∀ g, g < 64 → lab g ≤ L) ∧ (∀ g, g < 64 → (pg g = none ↔ lab g = 0)) ∧ (∀ g g', g < 64 → g' < 64 → lab g ≠ 0 → (pg g = pg g' ↔ lab g = lab g')) ∧ (∀ f, f < n → us f = c_n (fun g => pg g = some f) 64) ∧ (∀ g f k, pg g = some f → k < 8 → wd (8 * g + k) = cw (8 * f + k)) ∧ (∀ g k, g < 64 → pg g = none → k < 8 → wd (8 * g + k) = 0)
/-- page g goes alone into the free frame f, under the new label y -/
theorem q_M_move {n : Nat} {pg : Nat → Option Nat} {us us' : Nat → Nat} {cw cw' : Nat → Int32} {lab : Nat → Nat} {wd : Nat → Int32} {L g f y : Nat} (h : q_M n pg us cw lab wd L) (hg : g < 64) (hf : f < n) (hu : us f = 0) (hy : L < y)
    (hus : ∀ x, x < n → us' x = if x = f then 1 else if pg g = some x then us x - 1 else us x) (hcw : ∀ x, x / 8 ≠ f → cw' x = cw x) (hcf : ∀ k, k < 8 → cw' (8 * f + k) = wd (8 * g + k)) : q_M n (fun x => if x = g then some f else pg x) us' cw' (fun x => if x = g then y else lab x) wd y := by
  obtain ⟨h1, h2, h3, h4, h5, h6, h7⟩ := h
  have hfree : ∀ x, pg x ≠ some f := by
    intro x hx
    have h0 : c_n (fun g => pg g = some f) 64 = 0 := by rw [← h5 f hf]; exact hu
    exact c_n_zero.mp h0 x (h1 x f hx).2 hx
  refine ⟨?_, ?_, ?_, ?_, ?_, ?_, ?_⟩
  · intro x v hv
    by_cases hx : x = g
    · subst hx
      simp at hv
      subst hv
      exact ⟨hf, hg⟩
    · simp [hx] at hv
      exact h1 x v hv
  · intro x hx
    by_cases hxg : x = g
    · simp [hxg]
    · simp [hxg]
      have := h2 x hx
      omega
  · intro x hx
    by_cases hxg : x = g
    · simp [hxg]
      omega
    · simp [hxg]
      exact h3 x hx
  · intro x x' hx hx' hl
    by_cases hxg : x = g
    · by_cases hxg' : x' = g
      · simp [hxg, hxg']
      · have e1 := hfree x'
        have e2 := h2 x' hx'
        simp [hxg, hxg']
        constructor
        · intro q; exact absurd q.symm e1
        · intro q; omega
    · by_cases hxg' : x' = g
      · have e1 := hfree x
        have e2 := h2 x hx
        simp [hxg, hxg']
        constructor
        · intro q; exact absurd q e1
        · intro q; omega
      · simp [hxg, hxg'] at hl ⊢
        exact h4 x x' hx hx' hl
  · intro x hx
    rw [hus x hx]
    by_cases hxf : x = f
    · subst hxf
      rw [if_pos rfl]
      have h0 : c_n (fun g => pg g = some x) 64 = 0 := by rw [← h5 x hx]; exact hu
      have := c_n_add (P := fun g => pg g = some x) (Q := fun z => (if z = g then some x else pg z) = some x) (k := g) (hfree g) (by simp) (fun i hi => by simp [hi]) (n := 64) hg
      dsimp only
      omega
    · rw [if_neg hxf]
      by_cases hp : pg g = some x
      · rw [if_pos hp, h5 x hx]
        have := c_n_add (P := fun z => (if z = g then some f else pg z) = some x) (Q := fun g => pg g = some x) (k := g) (by simp; exact fun q => hxf q.symm) hp (fun i hi => by simp [hi]) (n := 64) hg
        dsimp only
        omega
      · rw [if_neg hp, h5 x hx]
        refine c_n_congr (fun i _ => ?_)
        by_cases hi : i = g
        · subst hi
          simp
          exact ⟨fun q => absurd q hp, fun q => absurd q.symm hxf⟩
        · simp [hi]
  · intro x v k hv hk
    by_cases hx : x = g
    · subst hx
      simp at hv
      subst hv
      exact (hcf k hk).symm
    · simp [hx] at hv
      rw [h6 x v k hv hk, hcw]
      intro q
      apply hfree x
      rw [hv]
      congr 1
      omega
  · intro x k hx hv hk
    by_cases hxg : x = g
    · simp [hxg] at hv
    · simp [hxg] at hv
      exact h7 x k hx hv hk
/-- page g is given back -/
theorem q_M_rel {n : Nat} {pg : Nat → Option Nat} {us us' : Nat → Nat} {cw : Nat → Int32} {lab : Nat → Nat} {wd wd' : Nat → Int32} {L g : Nat} (h : q_M n pg us cw lab wd L) (hg : g < 64)
    (hus : ∀ x, x < n → us' x = if pg g = some x then us x - 1 else us x) (hwd : ∀ x, wd' x = if x / 8 = g then 0 else wd x) : q_M n (fun x => if x = g then none else pg x) us' cw (fun x => if x = g then 0 else lab x) wd' L := by
  obtain ⟨h1, h2, h3, h4, h5, h6, h7⟩ := h
  refine ⟨?_, ?_, ?_, ?_, ?_, ?_, ?_⟩
  · intro x v hv
    by_cases hx : x = g
    · simp [hx] at hv
    · simp [hx] at hv
      exact h1 x v hv
  · intro x hx
    by_cases hxg : x = g
    · simp [hxg]
    · simp [hxg]
      exact h2 x hx
  · intro x hx
    by_cases hxg : x = g
    · simp [hxg]
    · simp [hxg]
      exact h3 x hx
  · intro x x' hx hx' hl
    by_cases hxg : x = g
    · simp [hxg] at hl
    · simp [hxg] at hl
      by_cases hxg' : x' = g
      · simp [hxg, hxg']
        have := h3 x hx
        constructor
        · intro q; exact absurd (this.mp q) hl
        · intro q; exact absurd q hl
      · simp [hxg, hxg']
        exact h4 x x' hx hx' hl
  · intro x hx
    rw [hus x hx]
    by_cases hp : pg g = some x
    · rw [if_pos hp, h5 x hx]
      have := c_n_add (P := fun z => (if z = g then none else pg z) = some x) (Q := fun g => pg g = some x) (k := g) (by simp) hp (fun i hi => by simp [hi]) (n := 64) hg
      dsimp only
      omega
    · rw [if_neg hp, h5 x hx]
      refine c_n_congr (fun i _ => ?_)
      by_cases hi : i = g
      · subst hi
        simp [hp]
      · simp [hi]
  · intro x v k hv hk
    by_cases hx : x = g
    · simp [hx] at hv
    · simp [hx] at hv
      rw [hwd, if_neg (by omega)]
      exact h6 x v k hv hk
  · intro x k hx hv hk
    rw [hwd]
    by_cases hxg : x = g
    · rw [if_pos (by omega)]
    · simp [hxg] at hv
      rw [if_neg (by omega)]
      exact h7 x k hx hv hk
/-- a word is written into a page that is alone in its frame -/
theorem q_M_put {n : Nat} {pg : Nat → Option Nat} {us : Nat → Nat} {cw cw' : Nat → Int32} {lab : Nat → Nat} {wd wd' : Nat → Int32} {L g f k : Nat} {v : Int32} (h : q_M n pg us cw lab wd L) (hp : pg g = some f) (hu : us f = 1) (hk : k < 8)
    (hcw : ∀ x, cw' x = if x = 8 * f + k then v else cw x) (hwd : ∀ x, wd' x = if x = 8 * g + k then v else wd x) : q_M n pg us cw' lab wd' L := by
  obtain ⟨h1, h2, h3, h4, h5, h6, h7⟩ := h
  obtain ⟨hf, hg⟩ := h1 g f hp
  have hone : ∀ x, pg x = some f → x = g := fun x hx => c_n_one (P := fun g => pg g = some f) hg hp (by rw [← h5 f hf]; exact hu) x (h1 x f hx).2 hx
  refine ⟨h1, h2, h3, h4, h5, ?_, ?_⟩
  · intro x u j hx hj
    rw [hcw, hwd]
    by_cases hxg : x = g
    · subst hxg
      rw [hp] at hx
      cases hx
      by_cases hjk : j = k
      · subst hjk
        rw [if_pos rfl, if_pos rfl]
      · rw [if_neg (by omega), if_neg (by omega)]
        exact h6 x f j hp hj
    · rw [if_neg (by omega)]
      rw [if_neg]
      · exact h6 x u j hx hj
      · intro q
        apply hxg
        apply hone
        rw [hx]
        congr 1
        omega
  · intro x j hx hv hj
    rw [hwd, if_neg]
    · exact h7 x j hx hv hj
    · intro q
      have : x = g := by omega
      subst this
      rw [hp] at hv
      cases hv
/-- page g' comes into the class of page g -/
theorem q_M_share {n : Nat} {pg : Nat → Option Nat} {us us' : Nat → Nat} {cw : Nat → Int32} {lab : Nat → Nat} {wd wd' : Nat → Int32} {L g g' : Nat} (h : q_M n pg us cw lab wd L) (hg : g < 64) (hg' : g' < 64) (hne : g ≠ g') (hp : pg g' = none)
    (hus : ∀ x, x < n → us' x = if pg g = some x then us x + 1 else us x) (hwd : ∀ x, wd' x = if x / 8 = g' then wd (8 * g + x % 8) else wd x) : q_M n (fun x => if x = g' then pg g else pg x) us' cw (fun x => if x = g' then lab g else lab x) wd' L := by
  obtain ⟨h1, h2, h3, h4, h5, h6, h7⟩ := h
  refine ⟨?_, ?_, ?_, ?_, ?_, ?_, ?_⟩
  · intro x v hv
    by_cases hx : x = g'
    · simp [hx] at hv
      exact ⟨(h1 g v hv).1, by omega⟩
    · simp [hx] at hv
      exact h1 x v hv
  · intro x hx
    by_cases hxg : x = g'
    · simp [hxg]
      exact h2 g hg
    · simp [hxg]
      exact h2 x hx
  · intro x hx
    by_cases hxg : x = g'
    · simp [hxg]
      exact h3 g hg
    · simp [hxg]
      exact h3 x hx
  · intro x x' hx hx' hl
    by_cases hxg : x = g' <;> by_cases hxg' : x' = g'
    · simp [hxg, hxg']
    · simp [hxg] at hl
      simp [hxg, hxg']
      exact h4 g x' hg hx' hl
    · simp [hxg] at hl
      simp [hxg, hxg']
      exact h4 x g hx hg hl
    · simp [hxg] at hl
      simp [hxg, hxg']
      exact h4 x x' hx hx' hl
  · intro x hx
    rw [hus x hx]
    by_cases hpg : pg g = some x
    · rw [if_pos hpg, h5 x hx]
      exact (c_n_add (P := fun g => pg g = some x) (Q := fun z => (if z = g' then pg g else pg z) = some x) (k := g') (by rw [hp]; exact fun q => by cases q) (by simp [hpg]) (fun i hi => by simp [hi]) (n := 64) hg').symm
    · rw [if_neg hpg, h5 x hx]
      refine c_n_congr (fun i _ => ?_)
      by_cases hi : i = g'
      · subst hi
        simp [hp, hpg]
      · simp [hi]
  · intro x v k hv hk
    rw [hwd]
    by_cases hx : x = g'
    · simp [hx] at hv
      rw [if_pos (by omega), show (8 * x + k) % 8 = k by omega]
      exact h6 g v k hv hk
    · simp [hx] at hv
      rw [if_neg (by omega)]
      exact h6 x v k hv hk
  · intro x k hx hv hk
    rw [hwd]
    by_cases hxg : x = g'
    · simp [hxg] at hv
      rw [if_pos (by omega), show (8 * x + k) % 8 = k by omega]
      exact h7 g k hg hv hk
    · simp [hxg] at hv
      rw [if_neg (by omega)]
      exact h7 x k hx hv hk
/-- labels counted for the first time are the frames in use -/
theorem q_M_frames {n : Nat} {pg : Nat → Option Nat} {us : Nat → Nat} {cw : Nat → Int32} {lab : Nat → Nat} {wd : Nat → Int32} {L : Nat} (h : q_M n pg us cw lab wd L) : c_n (fun g => 0 < lab g ∧ ∀ j, j < g → lab j ≠ lab g) 64 = c_n (fun f => us f ≠ 0) n := by
  obtain ⟨h1, h2, h3, h4, h5, h6, h7⟩ := h
  have e := c_n_first (f := pg) (n := n) (fun g v hv => (h1 g v hv).1) 64
  have e1 : c_n (fun g => 0 < lab g ∧ ∀ j, j < g → lab j ≠ lab g) 64 = c_n (fun g => pg g ≠ none ∧ ∀ j, j < g → pg j ≠ pg g) 64 := by
    refine c_n_congr (fun g hg => ?_)
    have a := h3 g hg
    constructor
    · rintro ⟨b1, b2⟩
      refine ⟨fun q => ?_, fun j hj q => ?_⟩
      · have := a.mp q; omega
      · exact b2 j hj ((h4 g j hg (by omega) (by omega)).mp q.symm).symm
    · rintro ⟨b1, b2⟩
      have hl : lab g ≠ 0 := fun q => b1 (a.mpr q)
      refine ⟨by omega, fun j hj q => ?_⟩
      exact b2 j hj ((h4 g j hg (by omega) hl).mpr q.symm).symm
  rw [e1, e]
  refine c_n_congr (fun f hf => ?_)
  rw [h5 f hf]
  constructor
  · rintro ⟨g, hg, hgf⟩ h0
    exact c_n_zero.mp h0 g hg hgf
  · intro hne
    refine Classical.byContradiction fun hn => hne (c_n_zero.mpr (fun i hi hif => hn ⟨i, hi, hif⟩))
/-- the pages with page g's label are as many as its frame has users -/
theorem q_M_sharers {n : Nat} {pg : Nat → Option Nat} {us : Nat → Nat} {cw : Nat → Int32} {lab : Nat → Nat} {wd : Nat → Int32} {L g f : Nat} (h : q_M n pg us cw lab wd L) (hp : pg g = some f) : c_n (fun k => 0 < lab g ∧ lab k = lab g) 64 = us f := by
  obtain ⟨h1, h2, h3, h4, h5, h6, h7⟩ := h
  obtain ⟨hf, hg⟩ := h1 g f hp
  have hl : lab g ≠ 0 := fun q => by
    have := (h3 g hg).mpr q
    rw [hp] at this
    cases this
  rw [h5 f hf]
  refine c_n_congr (fun i hi => ?_)
  constructor
  · rintro ⟨-, b⟩
    rw [← hp]
    exact ((h4 g i hg hi hl).mpr b.symm).symm
  · intro b
    exact ⟨by omega, ((h4 g i hg hi hl).mp (by rw [hp, b])).symm⟩
end
section
/-! the reference as functions over its own ints: K 0: its object's fields by slot; 1 image, 2 states, 3 parents, 4 codes, 5 registers, 6 counters, 7 breaks, 8 words, 9 labels, 10 shown -/
abbrev k_t : Type := Nat → Nat → Int32
def k_u (K : k_t) (a i : Nat) (v : Int32) : k_t := fun b j => if b = a ∧ j = i then v else K b j
/-- the store with the reference's part K -/
def q_put (S : q_st) (K : k_t) : q_st := fun i j => if 20 ≤ i.1 ∧ i.2 = 0 then K (i.1 - 20) j else S i j
theorem q_put_up (S : q_st) (K : k_t) (a k : Nat) (v : Int32) : q_up (q_put S K) (a + 20, 0) k v = q_put S (k_u K a k v) := by
  funext i j
  obtain ⟨i1, i2⟩ := i
  by_cases h : i1 = a + 20 ∧ i2 = 0
  · obtain ⟨rfl, rfl⟩ := h
    simp [q_up, q_put, k_u]
  · by_cases h2 : 20 ≤ i1 ∧ i2 = 0
    · have h3 : ¬ (i1 = a + 20) := fun q => h ⟨q, h2.2⟩
      have h4 : ¬ (i1 - 20 = a) := by omega
      simp [q_up, q_put, k_u, h2, h3, h4]
    · have h3 : ¬ ((i1, i2) = (a + 20, 0)) := fun q => h ⟨congrArg Prod.fst q, congrArg Prod.snd q⟩
      simp only [q_up, q_put, if_neg h2, h3, false_and, if_false]
theorem q_put_at (S : q_st) (K : k_t) (a k : Nat) : q_put S K (a + 20, 0) k = K a k := by
  simp [q_put]
/-- the first below n -/
noncomputable def f_st (P : Nat → Prop) : Nat → Option Nat
  | 0 => none
  | n + 1 => match f_st P n with
    | some p => some p
    | none => @ite _ (P n) (Classical.propDecidable _) (some n) none
theorem f_st_none {P : Nat → Prop} : ∀ {n : Nat}, (∀ i, i < n → ¬ P i) → f_st P n = none
  | 0, _ => rfl
  | n + 1, h => by
    have ih : f_st P n = none := f_st_none (fun i hi => h i (Nat.lt_succ_of_lt hi))
    simp only [f_st, ih]
    rw [if_neg (h n (Nat.lt_succ_self n))]
theorem f_st_some {P : Nat → Prop} {k : Nat} (hk : P k) (hl : ∀ i, i < k → ¬ P i) : ∀ {n : Nat}, k < n → f_st P n = some k
  | 0, h => absurd h (Nat.not_lt_zero k)
  | n + 1, h => by
    by_cases hkn : k = n
    · subst hkn
      simp only [f_st, f_st_none hl]
      rw [if_pos hk]
    · have ih : f_st P n = some k := f_st_some hk hl (n := n) (by omega)
      simp only [f_st, ih]
theorem f_st_spec {P : Nat → Prop} : ∀ (n : Nat), (f_st P n = none ∧ ∀ i, i < n → ¬ P i) ∨ ∃ k, f_st P n = some k ∧ k < n ∧ P k ∧ ∀ i, i < k → ¬ P i := by
  intro n
  by_cases h : ∃ k, k < n ∧ P k
  · obtain ⟨k, ⟨h1, h2⟩, h3⟩ := pk_least (fun k => k < n ∧ P k) h
    have h4 : ∀ i, i < k → ¬ P i := fun i hi hp => h3 i hi ⟨by omega, hp⟩
    exact Or.inr ⟨k, f_st_some h2 h4 h1, h1, h2, h4⟩
  · have h4 : ∀ i, i < n → ¬ P i := fun i hi hp => h ⟨i, hi, hp⟩
    exact Or.inl ⟨f_st_none h4, h4⟩
theorem f_st_congr {P Q : Nat → Prop} {n : Nat} (h : ∀ i, i < n → (P i ↔ Q i)) : f_st P n = f_st Q n := by
  rcases f_st_spec (P := P) n with ⟨h1, h2⟩ | ⟨k, h1, h2, h3, h4⟩
  · rw [h1, f_st_none (fun i hi hq => h2 i hi ((h i hi).mpr hq))]
  · rw [h1, f_st_some ((h k h2).mp h3) (fun i hi hq => h4 i hi ((h i (by omega)).mpr hq)) h2]
/-- a number or none, as the programs write it -/
def q_fe (o : Option Nat) : Int32 := match o with
  | none => -1
  | some f => nI f
noncomputable def k_fr (K : k_t) : Nat := c_n (fun g => 0 < (K 9 g).toInt ∧ ∀ j, j < g → ¬ K 9 j = K 9 g) 64
noncomputable def k_sh (K : k_t) (g : Nat) : Nat := c_n (fun k => 0 < (K 9 g).toInt ∧ K 9 k = K 9 g) 64
noncomputable def k_al (K : k_t) (g : Nat) : Bool × k_t := @ite _ (nI (k_fr K) = K 0 0) (Classical.propDecidable _) (false, k_u K 0 14 (-13)) (true, k_u (k_u K 0 11 (K 0 11 + 1)) 9 g (K 0 11 + 1))
/-- page g is reached: for a write it must be alone in its class -/
noncomputable def k_pg (K : k_t) (g : Nat) (wr : Bool) : Bool × k_t := @ite _ (0 < k_sh K g ∧ (wr = false ∨ k_sh K g = 1)) (Classical.propDecidable _) (true, K) (k_al K g)
noncomputable def k_re (K : k_t) (p : Nat) (a : Int32) (wr : Bool) : Bool × k_t := @ite _ (a.toInt < 0 ∨ (K 7 p).toInt ≤ a.toInt) (Classical.propDecidable _) (false, k_u K 0 14 (-11)) (k_pg K (8 * p + a.toInt.toNat / 8) wr)
def k_rl (K : k_t) (g : Nat) : k_t := fun a j => if a = 9 ∧ j = g then 0 else if a = 8 ∧ j / 8 = g then 0 else K a j
/-- the process's own part of end: zombie, its code, its pages given back, its children without a parent -/
def k_en0 (K : k_t) (p : Nat) (code : Int32) : k_t := fun a j => if a = 2 ∧ j = p then nI 3 else if a = 4 ∧ j = p then code else if a = 9 ∧ j / 8 = p then 0 else if a = 8 ∧ j / 64 = p then 0 else if a = 3 ∧ j < 8 ∧ K 3 j = nI p then -1 else K a j
def k_en (K : k_t) (p : Nat) (code : Int32) : k_t := if k_en0 K p code 3 p ≠ -1 ∧ k_en0 K p code 2 (k_en0 K p code 3 p).toInt.toNat = nI 2 then k_u (k_en0 K p code) 2 (k_en0 K p code 3 p).toInt.toNat (nI 1) else k_en0 K p code
def k_free (K : k_t) (p : Nat) : k_t := k_u (k_u K 2 p 0) 3 p (-1)
/-- where the search for the next ready process begins -/
def k_fm (K : k_t) : Nat := if K 0 12 = -1 then 0 else (K 0 12).toInt.toNat + 1
def k_on (K : k_t) : Prop := K 0 12 ≠ -1 ∧ K 2 (K 0 12).toInt.toNat = nI 1 ∧ (K 0 13).toInt < (K 0 1).toInt
noncomputable def k_ch (K : k_t) : Bool × k_t := @ite _ (k_on K) (Classical.propDecidable _) (true, K)
  (match f_st (fun k => K 2 ((k_fm K + k) % 8) = nI 1) 8 with
    | some k => (true, k_u (k_u K 0 12 (nI ((k_fm K + k) % 8))) 0 13 0)
    | none => (false, k_u K 0 12 (-1)))
noncomputable def k_ff (K : k_t) : Option Nat := f_st (fun p => K 2 p = 0) 8
def k_fk0 (K : k_t) (p a c : Nat) : k_t := fun b j => if b = 2 ∧ j = c then nI 1 else if b = 3 ∧ j = c then nI p else if b = 6 ∧ j = c then K 6 p else if b = 7 ∧ j = c then K 7 p else if b = 5 ∧ j / 8 = c then (if j % 8 = a then 0 else K 5 (8 * p + j % 8)) else if b = 9 ∧ j / 8 = c then K 9 (8 * p + j % 8) else if b = 8 ∧ j / 64 = c then K 8 (64 * p + j % 64) else K b j
noncomputable def k_fk (K : k_t) (p a : Nat) : Int32 × k_t := match k_ff K with
  | none => (nI 1, k_u K 5 (8 * p + a) (-1))
  | some c => (nI 3, k_u (k_fk0 K p a c) 5 (8 * p + a) (nI c))
/-- the words of process p from address b to the end of its page become 0 -/
def k_cl (K : k_t) (p b : Nat) : k_t := fun a j => if a = 8 ∧ 64 * p + b ≤ j ∧ j < 64 * p + 8 * (b / 8 + 1) then 0 else K a j
def k_gr0 (K : k_t) (p a b : Nat) : k_t := fun c j => if c = 9 ∧ j / 8 = p ∧ b ≤ 8 * (j % 8) then 0 else if c = 8 ∧ j / 64 = p ∧ b ≤ 8 * (j % 64 / 8) then 0 else k_u (k_u K 5 (8 * p + a) (K 7 p)) 7 p (nI b) c j
noncomputable def k_gr1 (K : k_t) (p b : Nat) : k_t := @ite _ (k_sh K (8 * p + b / 8) = 1) (Classical.propDecidable _) (k_cl K p b) (if (k_al K (8 * p + b / 8)).1 = true then k_cl (k_al K (8 * p + b / 8)).2 p b else (k_al K (8 * p + b / 8)).2)
noncomputable def k_gr (K : k_t) (p a : Nat) (c : Int32) : k_t :=
  @ite _ ((K 7 p + c).toInt < 0 ∨ 64 < (K 7 p + c).toInt) (Classical.propDecidable _) (k_u K 5 (8 * p + a) (-1))
    (@ite _ ((K 7 p + c).toInt < (K 7 p).toInt ∧ (K 7 p + c).toInt.toNat % 8 ≠ 0 ∧ 0 < (K 9 (8 * p + (K 7 p + c).toInt.toNat / 8)).toInt) (Classical.propDecidable _)
      (k_gr1 (k_gr0 K p a (K 7 p + c).toInt.toNat) p (K 7 p + c).toInt.toNat) (k_gr0 K p a (K 7 p + c).toInt.toNat))
def k_cd (K : k_t) (p k : Nat) : Prop := ¬ K 2 k = 0 ∧ K 3 k = nI p
noncomputable def k_aw (K : k_t) (p a : Nat) : Int32 × k_t := match f_st (fun k => k_cd K p k ∧ K 2 k = nI 3) 8 with
  | some z => (nI 1, k_free (k_u K 5 (8 * p + a) (K 4 z)) z)
  | none => @ite _ (∃ k, k < 8 ∧ k_cd K p k) (Classical.propDecidable _) (nI 4, k_u (k_u K 2 p (nI 2)) 6 p (K 6 p - 1)) (nI 1, k_u K 5 (8 * p + a) (-1))
/-- a load of a word, a store of a word -/
noncomputable def k_ld (K : k_t) (p a : Nat) (ad : Int32) : k_t := if (k_re K p ad false).1 = true then k_u (k_re K p ad false).2 5 (8 * p + a) ((k_re K p ad false).2 8 (64 * p + ad.toInt.toNat)) else (k_re K p ad false).2
noncomputable def k_so (K : k_t) (p a : Nat) (ad : Int32) : k_t := if (k_re K p ad true).1 = true then k_u (k_re K p ad true).2 8 (64 * p + ad.toInt.toNat) (K 5 (8 * p + a)) else (k_re K p ad true).2
def k_pr (K : k_t) (x : Int32) : k_t := k_u (k_u K 10 ((K 0 15).toInt.toNat % 32) x) 0 15 (K 0 15 + 1)
noncomputable def k_op (K : k_t) (p op a b : Nat) (c : Int32) : Int32 × k_t :=
  if op = 0 then (nI 1, k_u K 5 (8 * p + a) c)
  else if op = 1 then (nI 1, k_u K 5 (8 * p + a) (K 5 (8 * p + a) + K 5 (8 * p + b) + c))
  else if op = 2 then (nI 1, k_u K 5 (8 * p + a) (K 5 (8 * p + a) - K 5 (8 * p + b)))
  else if op = 3 then (nI 1, k_ld K p a (K 5 (8 * p + b) + c))
  else if op = 4 then (nI 1, k_so K p a (K 5 (8 * p + b) + c))
  else if op = 5 then (nI 1, if K 5 (8 * p + a) ≠ 0 then k_u K 6 p c else K)
  else if op = 6 then (nI 1, if (K 5 (8 * p + a)).toInt < (K 5 (8 * p + b)).toInt then k_u K 6 p c else K)
  else if op = 7 then (nI 2, k_pr K (K 5 (8 * p + a)))
  else if op = 8 then k_fk K p a
  else if op = 9 then (nI 1, k_gr K p a c)
  else if op = 10 then (nI 5, k_en K p (K 5 (8 * p + a)))
  else if op = 11 then k_aw K p a
  else if op = 12 then (nI 1, k_u K 0 13 (K 0 1))
  else if op = 13 then (nI 1, k_u K 5 (8 * p + a) (nI p))
  else (nI 1, k_u K 0 14 (-12))
/-- one step -/
noncomputable def k_dn (K : k_t) (p : Nat) (w : Int32) : Int32 × k_t := k_op K p (w &&& 15).toInt.toNat ((w >>> 4) &&& 7).toInt.toNat ((w >>> 7) &&& 7).toInt.toNat (w >>> 10)
noncomputable def k_s2 (K : k_t) (p : Nat) (r : Int32 × k_t) : Int32 × k_t := if r.2 0 14 = 0 then r else (nI 5, k_en r.2 p (r.2 0 14))
noncomputable def k_s1 (K : k_t) (p : Nat) : Int32 × k_t := if (k_re K p (K 6 p) false).1 = true then k_s2 K p (k_dn (k_u (k_re K p (K 6 p) false).2 6 p (K 6 p + 1)) p ((k_re K p (K 6 p) false).2 8 (64 * p + (K 6 p).toInt.toNat))) else (nI 5, k_en (k_re K p (K 6 p) false).2 p ((k_re K p (K 6 p) false).2 0 14))
noncomputable def k_s (K : k_t) : Int32 × k_t := if (k_ch K).1 = true then k_s1 (k_u (k_u (k_ch K).2 0 13 ((k_ch K).2 0 13 + 1)) 0 14 0) ((k_ch K).2 0 12).toInt.toNat else (0, (k_ch K).2)
/-- at most n steps, till one is idle -/
noncomputable def k_ss : Nat → k_t → Nat × k_t
  | 0, K => (0, K)
  | n + 1, K => if (k_ss n K).1 = n ∧ (k_s (k_ss n K).2).1 ≠ 0 then (n + 1, (k_s (k_ss n K).2).2) else if (k_ss n K).1 = n then (n, (k_s (k_ss n K).2).2) else k_ss n K
def k_ld0 (K : k_t) (p n : Nat) (L : Int32) : k_t := fun a j => if a = 2 ∧ j = p then nI 1 else if a = 3 ∧ j = p then -1 else if a = 6 ∧ j = p then 0 else if a = 7 ∧ j = p then nI n else if a = 5 ∧ j / 8 = p then 0 else if a = 8 ∧ j / 64 = p then (if j % 64 < n then K 1 (j % 64) else 0) else if a = 9 ∧ j / 8 = p then (if j % 8 < (n + 7) / 8 then L + nI (j % 8 + 1) else 0) else if a = 0 ∧ j = 11 then L + nI 8 else K a j
end
section
/-! the two memories as they stand in the cells -/
def q_R (S : q_st) (K : k_t) (n : Nat) (pg : Nat → Option Nat) (us lab : Nat → Nat) (L : Nat) : Prop :=
  (2 ≤ n ∧ n ≤ 32) ∧ q_M n pg us (S (2, 0)) lab (K 8) L ∧ (∀ p i, p < 8 → i < 8 → S (7, p) i = q_fe (pg (8 * p + i))) ∧ (∀ f, f < n → S (3, 0) f = nI (us f)) ∧ S (1, 0) 3 = nI (c_n (fun f => us f ≠ 0) n) ∧ S (1, 0) 0 = nI n ∧ K 0 0 = nI n ∧ (∀ g, g < 64 → K 9 g = nI (lab g)) ∧ K 0 11 = nI L ∧ L < 2 ^ 30
theorem q_R_us {S : q_st} {K : k_t} {n : Nat} {pg : Nat → Option Nat} {us lab : Nat → Nat} {L : Nat} (h : q_R S K n pg us lab L) {f : Nat} (hf : f < n) : us f ≤ 64 := by
  rw [h.2.1.2.2.2.2.1 f hf]
  exact c_n_le _ _
theorem q_R_us1 {S : q_st} {K : k_t} {n : Nat} {pg : Nat → Option Nat} {us lab : Nat → Nat} {L : Nat} (h : q_R S K n pg us lab L) {g f : Nat} (hp : pg g = some f) : 0 < us f := by
  obtain ⟨hf, hg⟩ := h.2.1.1 g f hp
  rw [h.2.1.2.2.2.2.1 f hf]
  exact c_n_ex (P := fun g => pg g = some f) hg hp
theorem q_R_move {S S' : q_st} {K : k_t} {n : Nat} {pg : Nat → Option Nat} {us lab : Nat → Nat} {L p i f : Nat} (h : q_R S K n pg us lab L) (hp : p < 8) (hi : i < 8) (hf : f < n) (hu : us f = 0) (hL : L + 1 < 2 ^ 30) (h2 : ∀ x, pg (8 * p + i) = some x → 2 ≤ us x)
    (e7 : ∀ p' i', p' < 8 → i' < 8 → S' (7, p') i' = if 8 * p' + i' = 8 * p + i then nI f else S (7, p') i')
    (e3 : ∀ x, x < n → S' (3, 0) x = if x = f then nI 1 else if pg (8 * p + i) = some x then nI (us x - 1) else S (3, 0) x)
    (e1 : S' (1, 0) 3 = S (1, 0) 3 + 1) (e0 : S' (1, 0) 0 = S (1, 0) 0) (ew : ∀ x, x / 8 ≠ f → S' (2, 0) x = S (2, 0) x) (ef : ∀ k, k < 8 → S' (2, 0) (8 * f + k) = K 8 (8 * (8 * p + i) + k)) :
    q_R S' (k_u (k_u K 0 11 (K 0 11 + 1)) 9 (8 * p + i) (K 0 11 + 1)) n (fun x => if x = 8 * p + i then some f else pg x) (fun x => if x = f then 1 else if pg (8 * p + i) = some x then us x - 1 else us x) (fun x => if x = 8 * p + i then L + 1 else lab x) (L + 1) := by
  obtain ⟨hn, hM, h7, h3, h1, h0, hK0, h9, hl, hL0⟩ := h
  refine ⟨hn, ?_, ?_, ?_, ?_, ?_, ?_, ?_, ?_, hL⟩
  · exact q_M_move (cw := S (2, 0)) (wd := K 8) hM (by omega) hf hu (Nat.lt_succ_self L) (fun x hx => rfl) ew ef
  · intro p' i' hp' hi'
    rw [e7 p' i' hp' hi']
    by_cases hx : 8 * p' + i' = 8 * p + i
    · simp [hx, q_fe]
    · simp [hx]
      exact h7 p' i' hp' hi'
  · intro x hx
    rw [e3 x hx]
    by_cases hxf : x = f
    · simp [hxf]
    · by_cases hpx : pg (8 * p + i) = some x
      · simp [hxf, hpx]
      · simp [hxf, hpx]
        exact h3 x hx
  · rw [e1, h1, nI_1]
    congr 1
    symm
    refine c_n_add (k := f) (by simp [hu]) (by simp) (fun x hx => ?_) hf
    by_cases hpx : pg (8 * p + i) = some x
    · have := h2 x hpx
      simp [hx, hpx]
      omega
    · simp [hx, hpx]
  · rw [e0]; exact h0
  · simp [k_u, hK0]
  · intro g hg
    by_cases hx : g = 8 * p + i
    · simp [k_u, hx, hl, nI_1]
    · simp [k_u, hx]
      exact h9 g hg
  · simp [k_u, hl, nI_1]
theorem q_R_rel {S S' : q_st} {K K' : k_t} {n : Nat} {pg : Nat → Option Nat} {us lab : Nat → Nat} {L p i : Nat} (h : q_R S K n pg us lab L) (hp : p < 8) (hi : i < 8)
    (e7 : ∀ p' i', p' < 8 → i' < 8 → S' (7, p') i' = if 8 * p' + i' = 8 * p + i then -1 else S (7, p') i')
    (e3 : ∀ x, x < n → S' (3, 0) x = if pg (8 * p + i) = some x then nI (us x - 1) else S (3, 0) x)
    (e1 : S' (1, 0) 3 = if ∃ x, pg (8 * p + i) = some x ∧ us x = 1 then S (1, 0) 3 - 1 else S (1, 0) 3) (e0 : S' (1, 0) 0 = S (1, 0) 0) (ew : S' (2, 0) = S (2, 0))
    (k0 : K' 0 = K 0) (k9 : ∀ g, K' 9 g = if g = 8 * p + i then 0 else K 9 g) (k8 : ∀ x, K' 8 x = if x / 8 = 8 * p + i then 0 else K 8 x) :
    q_R S' K' n (fun x => if x = 8 * p + i then none else pg x) (fun x => if pg (8 * p + i) = some x then us x - 1 else us x) (fun x => if x = 8 * p + i then 0 else lab x) L := by
  have hall := h
  obtain ⟨hn, hM, h7, h3, h1, h0, hK0, h9, hl, hL0⟩ := h
  refine ⟨hn, ?_, ?_, ?_, ?_, ?_, ?_, ?_, ?_, hL0⟩
  · rw [ew]
    exact q_M_rel (cw := S (2, 0)) (wd := K 8) hM (by omega) (fun x hx => rfl) k8
  · intro p' i' hp' hi'
    rw [e7 p' i' hp' hi']
    by_cases hx : 8 * p' + i' = 8 * p + i
    · simp [hx, q_fe]
    · simp [hx]
      exact h7 p' i' hp' hi'
  · intro x hx
    rw [e3 x hx]
    by_cases hpx : pg (8 * p + i) = some x
    · simp [hpx]
    · simp [hpx]
      exact h3 x hx
  · rw [e1]
    cases hpg : pg (8 * p + i) with
    | none =>
      simp
      exact h1
    | some y =>
      have hy := (hM.1 _ _ hpg).1
      have hy1 := q_R_us1 hall hpg
      by_cases h1y : us y = 1
      · rw [if_pos ⟨y, rfl, h1y⟩, h1]
        have := c_n_add (P := fun x => (if some y = some x then us x - 1 else us x) ≠ 0) (Q := fun f => us f ≠ 0) (k := y) (by simp [h1y]) (by omega) (fun x hx => by simp [Ne.symm hx]) hy
        rw [this]
        exact nI_pred _
      · rw [if_neg (by rintro ⟨x, hx, hx1⟩; cases hx; exact h1y hx1), h1]
        congr 1
        refine c_n_congr (fun x _ => ?_)
        by_cases hxy : y = x
        · subst hxy
          simp
          omega
        · simp [hxy]
  · rw [e0]; exact h0
  · rw [k0]; exact hK0
  · intro g hg
    rw [k9]
    by_cases hx : g = 8 * p + i
    · simp [hx]
      rfl
    · simp [hx]
      exact h9 g hg
  · rw [k0]; exact hl
theorem q_R_put {S S' : q_st} {K K' : k_t} {n : Nat} {pg : Nat → Option Nat} {us lab : Nat → Nat} {L g f k : Nat} {v : Int32} (h : q_R S K n pg us lab L) (hp : pg g = some f) (hu : us f = 1) (hk : k < 8)
    (ew : ∀ x, S' (2, 0) x = if x = 8 * f + k then v else S (2, 0) x) (eo : ∀ i j, i ≠ (2, 0) → S' i j = S i j) (k8 : ∀ x, K' 8 x = if x = 8 * g + k then v else K 8 x) (ko : ∀ a, a ≠ 8 → K' a = K a) : q_R S' K' n pg us lab L := by
  obtain ⟨hn, hM, h7, h3, h1, h0, hK0, h9, hl, hL0⟩ := h
  refine ⟨hn, q_M_put hM hp hu hk ew k8, ?_, ?_, ?_, ?_, ?_, ?_, ?_, hL0⟩
  · intro p' i' hp' hi'
    rw [eo _ _ (by simp)]
    exact h7 p' i' hp' hi'
  · intro x hx
    rw [eo _ _ (by simp)]
    exact h3 x hx
  · rw [eo _ _ (by simp)]; exact h1
  · rw [eo _ _ (by simp)]; exact h0
  · rw [ko 0 (by decide)]; exact hK0
  · rw [ko 9 (by decide)]; exact h9
  · rw [ko 0 (by decide)]; exact hl
theorem q_R_share {S S' : q_st} {K K' : k_t} {n : Nat} {pg : Nat → Option Nat} {us lab : Nat → Nat} {L p p' i : Nat} (h : q_R S K n pg us lab L) (hp : p < 8) (hp' : p' < 8) (hi : i < 8) (hne : p ≠ p') (hpn : pg (8 * p' + i) = none)
    (e7 : ∀ a j, a < 8 → j < 8 → S' (7, a) j = if 8 * a + j = 8 * p' + i then S (7, p) i else S (7, a) j)
    (e3 : ∀ x, x < n → S' (3, 0) x = if pg (8 * p + i) = some x then nI (us x + 1) else S (3, 0) x)
    (e1 : S' (1, 0) = S (1, 0)) (ew : S' (2, 0) = S (2, 0))
    (k0 : K' 0 = K 0) (k9 : ∀ g, K' 9 g = if g = 8 * p' + i then K 9 (8 * p + i) else K 9 g) (k8 : ∀ x, K' 8 x = if x / 8 = 8 * p' + i then K 8 (8 * (8 * p + i) + x % 8) else K 8 x) :
    q_R S' K' n (fun x => if x = 8 * p' + i then pg (8 * p + i) else pg x) (fun x => if pg (8 * p + i) = some x then us x + 1 else us x) (fun x => if x = 8 * p' + i then lab (8 * p + i) else lab x) L := by
  have hall := h
  obtain ⟨hn, hM, h7, h3, h1, h0, hK0, h9, hl, hL0⟩ := h
  refine ⟨hn, ?_, ?_, ?_, ?_, ?_, ?_, ?_, ?_, hL0⟩
  · rw [ew]
    exact q_M_share (cw := S (2, 0)) (wd := K 8) hM (by omega) (by omega) (by omega) hpn (fun x hx => rfl) k8
  · intro a j ha hj
    rw [e7 a j ha hj]
    by_cases hx : 8 * a + j = 8 * p' + i
    · simp [hx]
      exact h7 p i hp hi
    · simp [hx]
      exact h7 a j ha hj
  · intro x hx
    rw [e3 x hx]
    by_cases hpx : pg (8 * p + i) = some x
    · simp [hpx]
    · simp [hpx]
      exact h3 x hx
  · rw [e1, h1]
    congr 1
    refine c_n_congr (fun x _ => ?_)
    by_cases hpx : pg (8 * p + i) = some x
    · have := q_R_us1 hall hpx
      simp [hpx]
      omega
    · simp [hpx]
  · rw [e1]; exact h0
  · rw [k0]; exact hK0
  · intro g hg
    rw [k9]
    by_cases hx : g = 8 * p' + i
    · simp [hx]
      exact h9 _ (by omega)
    · simp [hx]
      exact h9 g hg
  · rw [k0]; exact hl
theorem q_nI0 {a : Nat} (h : a < 2 ^ 31) : nI a = 0 ↔ a = 0 := by
  rw [← nI_0, nI_eq h (by decide)]
/-- the reference's count of frames is the class's -/
theorem q_R_fr {S : q_st} {K : k_t} {n : Nat} {pg : Nat → Option Nat} {us lab : Nat → Nat} {L : Nat} (h : q_R S K n pg us lab L) : k_fr K = c_n (fun f => us f ≠ 0) n := by
  obtain ⟨hn, hM, h7, h3, h1, h0, hK0, h9, hl, hL0⟩ := h
  rw [← q_M_frames hM]
  have hb : ∀ g, g < 64 → lab g < 2 ^ 31 := fun g hg => by have := hM.2.1 g hg; omega
  refine c_n_congr (fun g hg => ?_)
  rw [h9 g hg, nI_toInt (hb g hg)]
  constructor
  · rintro ⟨b1, b2⟩
    refine ⟨by omega, fun j hj q => b2 j hj ?_⟩
    rw [h9 j (by omega), q]
  · rintro ⟨b1, b2⟩
    refine ⟨by omega, fun j hj q => b2 j hj ?_⟩
    rw [h9 j (by omega)] at q
    exact (nI_eq (hb j (by omega)) (hb g hg)).mp q
theorem q_R_sh {S : q_st} {K : k_t} {n : Nat} {pg : Nat → Option Nat} {us lab : Nat → Nat} {L g : Nat} (h : q_R S K n pg us lab L) (hg : g < 64) : k_sh K g = match pg g with | none => 0 | some f => us f := by
  obtain ⟨hn, hM, h7, h3, h1, h0, hK0, h9, hl, hL0⟩ := h
  have hb : ∀ g, g < 64 → lab g < 2 ^ 31 := fun g hg => by have := hM.2.1 g hg; omega
  have e : k_sh K g = c_n (fun k => 0 < lab g ∧ lab k = lab g) 64 := by
    refine c_n_congr (fun k hk => ?_)
    rw [h9 g hg, h9 k hk, nI_toInt (hb g hg), nI_eq (hb k hk) (hb g hg)]
    constructor
    · rintro ⟨a, b⟩; exact ⟨by omega, b⟩
    · rintro ⟨a, b⟩; exact ⟨by omega, b⟩
  rw [e]
  cases hp : pg g with
  | none =>
    refine c_n_zero.mpr (fun k hk hh => ?_)
    have := (hM.2.2.1 g hg).mp hp
    omega
  | some f => exact q_M_sharers hM hp
end
