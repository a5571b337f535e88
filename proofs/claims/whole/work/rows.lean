section
-- ===== PART A: goes FIRST, ahead of the names: the tables' words, and 'selects' of the private methods out of them =====
/-- a private method of a class that the tables say can be made, by its rows of tables_1 -/
def lw_okq (q : MethodName × Nat) : Prop := (q.1.cls ≠ "java/lang/invoke/MethodHandle" ∧ q.1.cls ≠ "java/lang/invoke/VarHandle") ∧ Cond.instantiable q.1.cls q.2 ∈ tables_1 ∧ Cond.privateMethod q.1 ∈ tables_1 ∧ Cond.instanceMethod q.1 ∈ tables_1
theorem lw_p0 : lw_okq (⟨"BranchingKernel", "firstFree", "()I"⟩, 7) := ⟨⟨by decide +kernel, by decide +kernel⟩, List.mem_of_getElem? (i := 7) (by decide +kernel), List.mem_of_getElem? (i := 118) (by decide +kernel), List.mem_of_getElem? (i := 119) (by decide +kernel)⟩
theorem lw_p1 : lw_okq (⟨"BranchingKernel", "ownPage", "(LBranchingKernel$Proc;I)I"⟩, 7) := ⟨⟨by decide +kernel, by decide +kernel⟩, List.mem_of_getElem? (i := 7) (by decide +kernel), List.mem_of_getElem? (i := 130) (by decide +kernel), List.mem_of_getElem? (i := 131) (by decide +kernel)⟩
theorem lw_p2 : lw_okq (⟨"BranchingKernel", "putWord", "(LBranchingKernel$Proc;II)V"⟩, 7) := ⟨⟨by decide +kernel, by decide +kernel⟩, List.mem_of_getElem? (i := 7) (by decide +kernel), List.mem_of_getElem? (i := 146) (by decide +kernel), List.mem_of_getElem? (i := 147) (by decide +kernel)⟩
theorem lw_p3 : lw_okq (⟨"BranchingKernel", "takeStep", "()I"⟩, 7) := ⟨⟨by decide +kernel, by decide +kernel⟩, List.mem_of_getElem? (i := 7) (by decide +kernel), List.mem_of_getElem? (i := 154) (by decide +kernel), List.mem_of_getElem? (i := 155) (by decide +kernel)⟩
theorem lw_p4 : lw_okq (⟨"BranchingKernel", "rowGoesOn", "()Z"⟩, 7) := ⟨⟨by decide +kernel, by decide +kernel⟩, List.mem_of_getElem? (i := 7) (by decide +kernel), List.mem_of_getElem? (i := 158) (by decide +kernel), List.mem_of_getElem? (i := 159) (by decide +kernel)⟩
theorem lw_p5 : lw_okq (⟨"BranchingKernel", "nextReady", "()I"⟩, 7) := ⟨⟨by decide +kernel, by decide +kernel⟩, List.mem_of_getElem? (i := 7) (by decide +kernel), List.mem_of_getElem? (i := 162) (by decide +kernel), List.mem_of_getElem? (i := 163) (by decide +kernel)⟩
theorem lw_p6 : lw_okq (⟨"BranchingKernel", "fetchAndDo", "(I)I"⟩, 7) := ⟨⟨by decide +kernel, by decide +kernel⟩, List.mem_of_getElem? (i := 7) (by decide +kernel), List.mem_of_getElem? (i := 166) (by decide +kernel), List.mem_of_getElem? (i := 167) (by decide +kernel)⟩
theorem lw_p7 : lw_okq (⟨"BranchingKernel", "touchToRead", "(LBranchingKernel$Proc;I)I"⟩, 7) := ⟨⟨by decide +kernel, by decide +kernel⟩, List.mem_of_getElem? (i := 7) (by decide +kernel), List.mem_of_getElem? (i := 170) (by decide +kernel), List.mem_of_getElem? (i := 171) (by decide +kernel)⟩
theorem lw_p8 : lw_okq (⟨"BranchingKernel", "end", "(II)I"⟩, 7) := ⟨⟨by decide +kernel, by decide +kernel⟩, List.mem_of_getElem? (i := 7) (by decide +kernel), List.mem_of_getElem? (i := 178) (by decide +kernel), List.mem_of_getElem? (i := 179) (by decide +kernel)⟩
theorem lw_p9 : lw_okq (⟨"BranchingKernel", "releaseFrom", "(LBranchingKernel$Proc;I)V"⟩, 7) := ⟨⟨by decide +kernel, by decide +kernel⟩, List.mem_of_getElem? (i := 7) (by decide +kernel), List.mem_of_getElem? (i := 182) (by decide +kernel), List.mem_of_getElem? (i := 183) (by decide +kernel)⟩
theorem lw_p10 : lw_okq (⟨"BranchingKernel", "wordAt", "(LBranchingKernel$Proc;I)I"⟩, 7) := ⟨⟨by decide +kernel, by decide +kernel⟩, List.mem_of_getElem? (i := 7) (by decide +kernel), List.mem_of_getElem? (i := 186) (by decide +kernel), List.mem_of_getElem? (i := 187) (by decide +kernel)⟩
theorem lw_p11 : lw_okq (⟨"BranchingKernel", "doOwnOp", "(IIIII)I"⟩, 7) := ⟨⟨by decide +kernel, by decide +kernel⟩, List.mem_of_getElem? (i := 7) (by decide +kernel), List.mem_of_getElem? (i := 190) (by decide +kernel), List.mem_of_getElem? (i := 191) (by decide +kernel)⟩
theorem lw_p12 : lw_okq (⟨"BranchingKernel", "readInto", "(III)I"⟩, 7) := ⟨⟨by decide +kernel, by decide +kernel⟩, List.mem_of_getElem? (i := 7) (by decide +kernel), List.mem_of_getElem? (i := 194) (by decide +kernel), List.mem_of_getElem? (i := 195) (by decide +kernel)⟩
theorem lw_p13 : lw_okq (⟨"BranchingKernel", "writeFrom", "(III)I"⟩, 7) := ⟨⟨by decide +kernel, by decide +kernel⟩, List.mem_of_getElem? (i := 7) (by decide +kernel), List.mem_of_getElem? (i := 198) (by decide +kernel), List.mem_of_getElem? (i := 199) (by decide +kernel)⟩
theorem lw_p14 : lw_okq (⟨"BranchingKernel", "doKernelOp", "(IIII)I"⟩, 7) := ⟨⟨by decide +kernel, by decide +kernel⟩, List.mem_of_getElem? (i := 7) (by decide +kernel), List.mem_of_getElem? (i := 209) (by decide +kernel), List.mem_of_getElem? (i := 210) (by decide +kernel)⟩
theorem lw_p15 : lw_okq (⟨"BranchingKernel", "fork", "(II)I"⟩, 7) := ⟨⟨by decide +kernel, by decide +kernel⟩, List.mem_of_getElem? (i := 7) (by decide +kernel), List.mem_of_getElem? (i := 213) (by decide +kernel), List.mem_of_getElem? (i := 214) (by decide +kernel)⟩
def lw_privs_1 : List (MethodName × Nat) := [(⟨"BranchingKernel", "firstFree", "()I"⟩, 7), (⟨"BranchingKernel", "ownPage", "(LBranchingKernel$Proc;I)I"⟩, 7), (⟨"BranchingKernel", "putWord", "(LBranchingKernel$Proc;II)V"⟩, 7), (⟨"BranchingKernel", "takeStep", "()I"⟩, 7), (⟨"BranchingKernel", "rowGoesOn", "()Z"⟩, 7), (⟨"BranchingKernel", "nextReady", "()I"⟩, 7), (⟨"BranchingKernel", "fetchAndDo", "(I)I"⟩, 7), (⟨"BranchingKernel", "touchToRead", "(LBranchingKernel$Proc;I)I"⟩, 7), (⟨"BranchingKernel", "end", "(II)I"⟩, 7), (⟨"BranchingKernel", "releaseFrom", "(LBranchingKernel$Proc;I)V"⟩, 7), (⟨"BranchingKernel", "wordAt", "(LBranchingKernel$Proc;I)I"⟩, 7), (⟨"BranchingKernel", "doOwnOp", "(IIIII)I"⟩, 7), (⟨"BranchingKernel", "readInto", "(III)I"⟩, 7), (⟨"BranchingKernel", "writeFrom", "(III)I"⟩, 7), (⟨"BranchingKernel", "doKernelOp", "(IIII)I"⟩, 7), (⟨"BranchingKernel", "fork", "(II)I"⟩, 7)]
theorem lw_r1 : ∀ q ∈ lw_privs_1, lw_okq q := List.forall_mem_cons.mpr ⟨lw_p0, List.forall_mem_cons.mpr ⟨lw_p1, List.forall_mem_cons.mpr ⟨lw_p2, List.forall_mem_cons.mpr ⟨lw_p3, List.forall_mem_cons.mpr ⟨lw_p4, List.forall_mem_cons.mpr ⟨lw_p5, List.forall_mem_cons.mpr ⟨lw_p6, List.forall_mem_cons.mpr ⟨lw_p7, List.forall_mem_cons.mpr ⟨lw_p8, List.forall_mem_cons.mpr ⟨lw_p9, List.forall_mem_cons.mpr ⟨lw_p10, List.forall_mem_cons.mpr ⟨lw_p11, List.forall_mem_cons.mpr ⟨lw_p12, List.forall_mem_cons.mpr ⟨lw_p13, List.forall_mem_cons.mpr ⟨lw_p14, List.forall_mem_cons.mpr ⟨lw_p15, fun _ h => absurd h List.not_mem_nil⟩⟩⟩⟩⟩⟩⟩⟩⟩⟩⟩⟩⟩⟩⟩⟩
theorem lw_p16 : lw_okq (⟨"BranchingKernel", "moveBreak", "(III)I"⟩, 7) := ⟨⟨by decide +kernel, by decide +kernel⟩, List.mem_of_getElem? (i := 7) (by decide +kernel), List.mem_of_getElem? (i := 221) (by decide +kernel), List.mem_of_getElem? (i := 222) (by decide +kernel)⟩
theorem lw_p17 : lw_okq (⟨"BranchingKernel", "clearFrom", "(LBranchingKernel$Proc;I)V"⟩, 7) := ⟨⟨by decide +kernel, by decide +kernel⟩, List.mem_of_getElem? (i := 7) (by decide +kernel), List.mem_of_getElem? (i := 225) (by decide +kernel), List.mem_of_getElem? (i := 226) (by decide +kernel)⟩
theorem lw_p18 : lw_okq (⟨"BranchingKernel", "waitForChild", "(II)I"⟩, 7) := ⟨⟨by decide +kernel, by decide +kernel⟩, List.mem_of_getElem? (i := 7) (by decide +kernel), List.mem_of_getElem? (i := 229) (by decide +kernel), List.mem_of_getElem? (i := 230) (by decide +kernel)⟩
theorem lw_p19 : lw_okq (⟨"BranchingKernel", "firstZombieChild", "(I)I"⟩, 7) := ⟨⟨by decide +kernel, by decide +kernel⟩, List.mem_of_getElem? (i := 7) (by decide +kernel), List.mem_of_getElem? (i := 233) (by decide +kernel), List.mem_of_getElem? (i := 234) (by decide +kernel)⟩
theorem lw_p20 : lw_okq (⟨"BranchingKernel", "hasChild", "(I)Z"⟩, 7) := ⟨⟨by decide +kernel, by decide +kernel⟩, List.mem_of_getElem? (i := 7) (by decide +kernel), List.mem_of_getElem? (i := 241) (by decide +kernel), List.mem_of_getElem? (i := 242) (by decide +kernel)⟩
theorem lw_p21 : lw_okq (⟨"BranchingKernel", "isLive", "(I)Z"⟩, 7) := ⟨⟨by decide +kernel, by decide +kernel⟩, List.mem_of_getElem? (i := 7) (by decide +kernel), List.mem_of_getElem? (i := 253) (by decide +kernel), List.mem_of_getElem? (i := 254) (by decide +kernel)⟩
theorem lw_p22 : lw_okq (⟨"BranchingKernel", "isZombie", "(I)Z"⟩, 7) := ⟨⟨by decide +kernel, by decide +kernel⟩, List.mem_of_getElem? (i := 7) (by decide +kernel), List.mem_of_getElem? (i := 264) (by decide +kernel), List.mem_of_getElem? (i := 265) (by decide +kernel)⟩
theorem lw_p23 : lw_okq (⟨"BranchingKernelModel", "firstFree", "()I"⟩, 17) := ⟨⟨by decide +kernel, by decide +kernel⟩, List.mem_of_getElem? (i := 315) (by decide +kernel), List.mem_of_getElem? (i := 385) (by decide +kernel), List.mem_of_getElem? (i := 386) (by decide +kernel)⟩
theorem lw_p24 : lw_okq (⟨"BranchingKernelModel", "lives", "(I)Z"⟩, 17) := ⟨⟨by decide +kernel, by decide +kernel⟩, List.mem_of_getElem? (i := 315) (by decide +kernel), List.mem_of_getElem? (i := 394) (by decide +kernel), List.mem_of_getElem? (i := 395) (by decide +kernel)⟩
theorem lw_p25 : lw_okq (⟨"BranchingKernelModel", "end", "(II)V"⟩, 17) := ⟨⟨by decide +kernel, by decide +kernel⟩, List.mem_of_getElem? (i := 315) (by decide +kernel), List.mem_of_getElem? (i := 401) (by decide +kernel), List.mem_of_getElem? (i := 402) (by decide +kernel)⟩
theorem lw_p26 : lw_okq (⟨"BranchingKernelModel", "release", "(I)V"⟩, 17) := ⟨⟨by decide +kernel, by decide +kernel⟩, List.mem_of_getElem? (i := 315) (by decide +kernel), List.mem_of_getElem? (i := 405) (by decide +kernel), List.mem_of_getElem? (i := 406) (by decide +kernel)⟩
theorem lw_p27 : lw_okq (⟨"BranchingKernelModel", "free", "(I)V"⟩, 17) := ⟨⟨by decide +kernel, by decide +kernel⟩, List.mem_of_getElem? (i := 315) (by decide +kernel), List.mem_of_getElem? (i := 413) (by decide +kernel), List.mem_of_getElem? (i := 414) (by decide +kernel)⟩
theorem lw_p28 : lw_okq (⟨"BranchingKernelModel", "choose", "()Z"⟩, 17) := ⟨⟨by decide +kernel, by decide +kernel⟩, List.mem_of_getElem? (i := 315) (by decide +kernel), List.mem_of_getElem? (i := 421) (by decide +kernel), List.mem_of_getElem? (i := 422) (by decide +kernel)⟩
theorem lw_p29 : lw_okq (⟨"BranchingKernelModel", "reach", "(IIZ)Z"⟩, 17) := ⟨⟨by decide +kernel, by decide +kernel⟩, List.mem_of_getElem? (i := 315) (by decide +kernel), List.mem_of_getElem? (i := 425) (by decide +kernel), List.mem_of_getElem? (i := 426) (by decide +kernel)⟩
theorem lw_p30 : lw_okq (⟨"BranchingKernelModel", "sharers", "(I)I"⟩, 17) := ⟨⟨by decide +kernel, by decide +kernel⟩, List.mem_of_getElem? (i := 315) (by decide +kernel), List.mem_of_getElem? (i := 429) (by decide +kernel), List.mem_of_getElem? (i := 430) (by decide +kernel)⟩
theorem lw_p31 : lw_okq (⟨"BranchingKernelModel", "alone", "(I)Z"⟩, 17) := ⟨⟨by decide +kernel, by decide +kernel⟩, List.mem_of_getElem? (i := 315) (by decide +kernel), List.mem_of_getElem? (i := 433) (by decide +kernel), List.mem_of_getElem? (i := 434) (by decide +kernel)⟩
def lw_privs_2 : List (MethodName × Nat) := [(⟨"BranchingKernel", "moveBreak", "(III)I"⟩, 7), (⟨"BranchingKernel", "clearFrom", "(LBranchingKernel$Proc;I)V"⟩, 7), (⟨"BranchingKernel", "waitForChild", "(II)I"⟩, 7), (⟨"BranchingKernel", "firstZombieChild", "(I)I"⟩, 7), (⟨"BranchingKernel", "hasChild", "(I)Z"⟩, 7), (⟨"BranchingKernel", "isLive", "(I)Z"⟩, 7), (⟨"BranchingKernel", "isZombie", "(I)Z"⟩, 7), (⟨"BranchingKernelModel", "firstFree", "()I"⟩, 17), (⟨"BranchingKernelModel", "lives", "(I)Z"⟩, 17), (⟨"BranchingKernelModel", "end", "(II)V"⟩, 17), (⟨"BranchingKernelModel", "release", "(I)V"⟩, 17), (⟨"BranchingKernelModel", "free", "(I)V"⟩, 17), (⟨"BranchingKernelModel", "choose", "()Z"⟩, 17), (⟨"BranchingKernelModel", "reach", "(IIZ)Z"⟩, 17), (⟨"BranchingKernelModel", "sharers", "(I)I"⟩, 17), (⟨"BranchingKernelModel", "alone", "(I)Z"⟩, 17)]
theorem lw_r2 : ∀ q ∈ lw_privs_2, lw_okq q := List.forall_mem_cons.mpr ⟨lw_p16, List.forall_mem_cons.mpr ⟨lw_p17, List.forall_mem_cons.mpr ⟨lw_p18, List.forall_mem_cons.mpr ⟨lw_p19, List.forall_mem_cons.mpr ⟨lw_p20, List.forall_mem_cons.mpr ⟨lw_p21, List.forall_mem_cons.mpr ⟨lw_p22, List.forall_mem_cons.mpr ⟨lw_p23, List.forall_mem_cons.mpr ⟨lw_p24, List.forall_mem_cons.mpr ⟨lw_p25, List.forall_mem_cons.mpr ⟨lw_p26, List.forall_mem_cons.mpr ⟨lw_p27, List.forall_mem_cons.mpr ⟨lw_p28, List.forall_mem_cons.mpr ⟨lw_p29, List.forall_mem_cons.mpr ⟨lw_p30, List.forall_mem_cons.mpr ⟨lw_p31, fun _ h => absurd h List.not_mem_nil⟩⟩⟩⟩⟩⟩⟩⟩⟩⟩⟩⟩⟩⟩⟩⟩
theorem lw_p32 : lw_okq (⟨"BranchingKernelModel", "perform", "(II)I"⟩, 17) := ⟨⟨by decide +kernel, by decide +kernel⟩, List.mem_of_getElem? (i := 315) (by decide +kernel), List.mem_of_getElem? (i := 437) (by decide +kernel), List.mem_of_getElem? (i := 438) (by decide +kernel)⟩
theorem lw_p33 : lw_okq (⟨"BranchingKernelModel", "simple", "(IIIII)I"⟩, 17) := ⟨⟨by decide +kernel, by decide +kernel⟩, List.mem_of_getElem? (i := 315) (by decide +kernel), List.mem_of_getElem? (i := 441) (by decide +kernel), List.mem_of_getElem? (i := 442) (by decide +kernel)⟩
theorem lw_p34 : lw_okq (⟨"BranchingKernelModel", "fork", "(II)I"⟩, 17) := ⟨⟨by decide +kernel, by decide +kernel⟩, List.mem_of_getElem? (i := 315) (by decide +kernel), List.mem_of_getElem? (i := 445) (by decide +kernel), List.mem_of_getElem? (i := 446) (by decide +kernel)⟩
theorem lw_p35 : lw_okq (⟨"BranchingKernelModel", "grow", "(III)V"⟩, 17) := ⟨⟨by decide +kernel, by decide +kernel⟩, List.mem_of_getElem? (i := 315) (by decide +kernel), List.mem_of_getElem? (i := 449) (by decide +kernel), List.mem_of_getElem? (i := 450) (by decide +kernel)⟩
theorem lw_p36 : lw_okq (⟨"BranchingKernelModel", "await", "(II)I"⟩, 17) := ⟨⟨by decide +kernel, by decide +kernel⟩, List.mem_of_getElem? (i := 315) (by decide +kernel), List.mem_of_getElem? (i := 453) (by decide +kernel), List.mem_of_getElem? (i := 454) (by decide +kernel)⟩
def lw_privs_3 : List (MethodName × Nat) := [(⟨"BranchingKernelModel", "perform", "(II)I"⟩, 17), (⟨"BranchingKernelModel", "simple", "(IIIII)I"⟩, 17), (⟨"BranchingKernelModel", "fork", "(II)I"⟩, 17), (⟨"BranchingKernelModel", "grow", "(III)V"⟩, 17), (⟨"BranchingKernelModel", "await", "(II)I"⟩, 17)]
theorem lw_r3 : ∀ q ∈ lw_privs_3, lw_okq q := List.forall_mem_cons.mpr ⟨lw_p32, List.forall_mem_cons.mpr ⟨lw_p33, List.forall_mem_cons.mpr ⟨lw_p34, List.forall_mem_cons.mpr ⟨lw_p35, List.forall_mem_cons.mpr ⟨lw_p36, fun _ h => absurd h List.not_mem_nil⟩⟩⟩⟩⟩
def lw_privs : List (MethodName × Nat) := lw_privs_1 ++ (lw_privs_2 ++ (lw_privs_3))
def lw_tbl : List Cond := k2_sels lw_privs ++ tables_1
theorem lw_privs_ok : ∀ q ∈ lw_privs, lw_okq q := by
  show ∀ q ∈ lw_privs_1 ++ (lw_privs_2 ++ (lw_privs_3)), lw_okq q
  exact List.forall_mem_append.mpr ⟨lw_r1, List.forall_mem_append.mpr ⟨lw_r2, lw_r3⟩⟩
end
section
/-! names of classes, fields and methods (written by wip/whole/mk_names.py out of javap's listing and the tables) -/
def RX0 : String := "BranchingKernel$FramePool"
def TX0 : u_T := fun k => match k with
  | 0 => ("BranchingKernel$FramePool", "size", "I", true)
  | 1 => ("BranchingKernel$FramePool", "words", "[I", true)
  | 2 => ("BranchingKernel$FramePool", "users", "[I", true)
  | _ => ("BranchingKernel$FramePool", "used", "I", false)
def tyX0 : Nat → FieldType := fun k => match k with
  | 0 => .int
  | 1 => .array .int
  | 2 => .array .int
  | _ => .int
theorem nmX0 : ∀ a, a < 4 → ∀ b, b < 4 → a ≠ b → (TX0 a).2.1 ≠ (TX0 b).2.1 := by decide +kernel
theorem tyX0_ok : ∀ k, k < 4 → parseFieldDescriptor (TX0 k).2.2.1 = some (tyX0 k) := by decide +kernel
def RX1 : String := "BranchingKernel$PrintLog"
def TX1 : u_T := fun k => match k with
  | 0 => ("BranchingKernel$PrintLog", "kept", "[I", true)
  | _ => ("BranchingKernel$PrintLog", "count", "I", false)
def tyX1 : Nat → FieldType := fun k => match k with
  | 0 => .array .int
  | _ => .int
theorem nmX1 : ∀ a, a < 2 → ∀ b, b < 2 → a ≠ b → (TX1 a).2.1 ≠ (TX1 b).2.1 := by decide +kernel
theorem tyX1_ok : ∀ k, k < 2 → parseFieldDescriptor (TX1 k).2.2.1 = some (tyX1 k) := by decide +kernel
def RX2 : String := "BranchingKernel$Proc"
def TX2 : u_T := fun k => match k with
  | 0 => ("BranchingKernel$Proc", "state", "I", false)
  | 1 => ("BranchingKernel$Proc", "parent", "I", false)
  | 2 => ("BranchingKernel$Proc", "code", "I", false)
  | 3 => ("BranchingKernel$Proc", "counter", "I", false)
  | 4 => ("BranchingKernel$Proc", "limit", "I", false)
  | 5 => ("BranchingKernel$Proc", "registers", "[I", true)
  | _ => ("BranchingKernel$Proc", "pages", "[I", true)
def tyX2 : Nat → FieldType := fun k => match k with
  | 0 => .int
  | 1 => .int
  | 2 => .int
  | 3 => .int
  | 4 => .int
  | 5 => .array .int
  | _ => .array .int
theorem nmX2 : ∀ a, a < 7 → ∀ b, b < 7 → a ≠ b → (TX2 a).2.1 ≠ (TX2 b).2.1 := by decide +kernel
theorem tyX2_ok : ∀ k, k < 7 → parseFieldDescriptor (TX2 k).2.2.1 = some (tyX2 k) := by decide +kernel
def RX3 : String := "BranchingKernel"
def TX3 : u_T := fun k => match k with
  | 0 => ("BranchingKernel", "pool", "LBranchingKernel$FramePool;", true)
  | 1 => ("BranchingKernel", "procs", "[LBranchingKernel$Proc;", true)
  | 2 => ("BranchingKernel", "log", "LBranchingKernel$PrintLog;", true)
  | 3 => ("BranchingKernel", "image", "[I", true)
  | 4 => ("BranchingKernel", "quantum", "I", true)
  | 5 => ("BranchingKernel", "current", "I", false)
  | _ => ("BranchingKernel", "row", "I", false)
def tyX3 : Nat → FieldType := fun k => match k with
  | 0 => .object "BranchingKernel$FramePool"
  | 1 => .array (.object "BranchingKernel$Proc")
  | 2 => .object "BranchingKernel$PrintLog"
  | 3 => .array .int
  | 4 => .int
  | 5 => .int
  | _ => .int
theorem nmX3 : ∀ a, a < 7 → ∀ b, b < 7 → a ≠ b → (TX3 a).2.1 ≠ (TX3 b).2.1 := by decide +kernel
theorem tyX3_ok : ∀ k, k < 7 → parseFieldDescriptor (TX3 k).2.2.1 = some (tyX3 k) := by decide +kernel
def RX4 : String := "BranchingKernelModel"
def TX4 : u_T := fun k => match k with
  | 0 => ("BranchingKernelModel", "limit", "I", true)
  | 1 => ("BranchingKernelModel", "quantum", "I", true)
  | 2 => ("BranchingKernelModel", "image", "[I", true)
  | 3 => ("BranchingKernelModel", "states", "[I", true)
  | 4 => ("BranchingKernelModel", "parents", "[I", true)
  | 5 => ("BranchingKernelModel", "codes", "[I", true)
  | 6 => ("BranchingKernelModel", "registers", "[I", true)
  | 7 => ("BranchingKernelModel", "counters", "[I", true)
  | 8 => ("BranchingKernelModel", "breaks", "[I", true)
  | 9 => ("BranchingKernelModel", "words", "[I", true)
  | 10 => ("BranchingKernelModel", "labels", "[I", true)
  | 11 => ("BranchingKernelModel", "latest", "I", false)
  | 12 => ("BranchingKernelModel", "current", "I", false)
  | 13 => ("BranchingKernelModel", "row", "I", false)
  | 14 => ("BranchingKernelModel", "fault", "I", false)
  | 15 => ("BranchingKernelModel", "prints", "I", false)
  | _ => ("BranchingKernelModel", "shown", "[I", true)
def tyX4 : Nat → FieldType := fun k => match k with
  | 0 => .int
  | 1 => .int
  | 2 => .array .int
  | 3 => .array .int
  | 4 => .array .int
  | 5 => .array .int
  | 6 => .array .int
  | 7 => .array .int
  | 8 => .array .int
  | 9 => .array .int
  | 10 => .array .int
  | 11 => .int
  | 12 => .int
  | 13 => .int
  | 14 => .int
  | 15 => .int
  | _ => .array .int
theorem nmX4 : ∀ a, a < 17 → ∀ b, b < 17 → a ≠ b → (TX4 a).2.1 ≠ (TX4 b).2.1 := by decide +kernel
theorem tyX4_ok : ∀ k, k < 17 → parseFieldDescriptor (TX4 k).2.2.1 = some (tyX4 k) := by decide +kernel
def RL : String := "BranchingKernelLaw"
abbrev vwCl : List vw_C := [(RX0, TX0, 4), (RX1, TX1, 2), (RX2, TX2, 7), (RX3, TX3, 7), (RX4, TX4, 17)]
abbrev cL_cell : ByteArray := method_2_code
def yL_cell : MethodName := ⟨RL, "cell", "([II)I"⟩
abbrev cX0_copyWords : ByteArray := prog_2_method_6_code
def yX0_copyWords : MethodName := ⟨RX0, "copyWords", "(II)V"⟩
abbrev cX0_init : ByteArray := prog_2_method_1_code
def yX0_init : MethodName := ⟨RX0, "<init>", "(I)V"⟩
abbrev cX0_join : ByteArray := prog_2_method_4_code
def yX0_join : MethodName := ⟨RX0, "join", "(I)V"⟩
abbrev cX0_leave : ByteArray := prog_2_method_5_code
def yX0_leave : MethodName := ⟨RX0, "leave", "(I)V"⟩
abbrev cX0_take : ByteArray := prog_2_method_3_code
def yX0_take : MethodName := ⟨RX0, "take", "()I"⟩
abbrev cX0_unused : ByteArray := prog_2_method_2_code
def yX0_unused : MethodName := ⟨RX0, "unused", "()I"⟩
abbrev cX1_append : ByteArray := prog_3_method_2_code
def yX1_append : MethodName := ⟨RX1, "append", "(I)V"⟩
abbrev cX1_init : ByteArray := prog_3_method_1_code
def yX1_init : MethodName := ⟨RX1, "<init>", "()V"⟩
abbrev cX1_latest : ByteArray := prog_3_method_3_code
def yX1_latest : MethodName := ⟨RX1, "latest", "(I)I"⟩
abbrev cX2_begin : ByteArray := prog_4_method_2_code
def yX2_begin : MethodName := ⟨RX2, "begin", "(I)V"⟩
abbrev cX2_holds : ByteArray := prog_4_method_4_code
def yX2_holds : MethodName := ⟨RX2, "holds", "(I)Z"⟩
abbrev cX2_init : ByteArray := prog_4_method_1_code
def yX2_init : MethodName := ⟨RX2, "<init>", "()V"⟩
abbrev cX2_vacate : ByteArray := prog_4_method_3_code
def yX2_vacate : MethodName := ⟨RX2, "vacate", "()I"⟩
abbrev cX3_clearFrom : ByteArray := prog_1_method_39_code
def yX3_clearFrom : MethodName := ⟨RX3, "clearFrom", "(LBranchingKernel$Proc;I)V"⟩
abbrev cX3_code : ByteArray := prog_1_method_10_code
def yX3_code : MethodName := ⟨RX3, "code", "(I)I"⟩
abbrev cX3_doKernelOp : ByteArray := prog_1_method_29_code
def yX3_doKernelOp : MethodName := ⟨RX3, "doKernelOp", "(IIII)I"⟩
abbrev cX3_doOwnOp : ByteArray := prog_1_method_28_code
def yX3_doOwnOp : MethodName := ⟨RX3, "doOwnOp", "(IIIII)I"⟩
abbrev cX3_end : ByteArray := prog_1_method_36_code
def yX3_end : MethodName := ⟨RX3, "end", "(II)I"⟩
abbrev cX3_fetchAndDo : ByteArray := prog_1_method_27_code
def yX3_fetchAndDo : MethodName := ⟨RX3, "fetchAndDo", "(I)I"⟩
abbrev cX3_firstFree : ByteArray := prog_1_method_21_code
def yX3_firstFree : MethodName := ⟨RX3, "firstFree", "()I"⟩
abbrev cX3_firstZombieChild : ByteArray := prog_1_method_23_code
def yX3_firstZombieChild : MethodName := ⟨RX3, "firstZombieChild", "(I)I"⟩
abbrev cX3_fork : ByteArray := prog_1_method_33_code
def yX3_fork : MethodName := ⟨RX3, "fork", "(II)I"⟩
abbrev cX3_frames : ByteArray := prog_1_method_15_code
def yX3_frames : MethodName := ⟨RX3, "frames", "()I"⟩
abbrev cX3_hasChild : ByteArray := prog_1_method_22_code
def yX3_hasChild : MethodName := ⟨RX3, "hasChild", "(I)Z"⟩
abbrev cX3_init : ByteArray := prog_1_method_1_code
def yX3_init : MethodName := ⟨RX3, "<init>", "(II)V"⟩
abbrev cX3_isLive : ByteArray := prog_1_method_19_code
def yX3_isLive : MethodName := ⟨RX3, "isLive", "(I)Z"⟩
abbrev cX3_isNumber : ByteArray := prog_1_method_18_code
def yX3_isNumber : MethodName := ⟨RX3, "isNumber", "(I)Z"⟩
abbrev cX3_isZombie : ByteArray := prog_1_method_20_code
def yX3_isZombie : MethodName := ⟨RX3, "isZombie", "(I)Z"⟩
abbrev cX3_jumpIf : ByteArray := prog_1_method_32_code
def yX3_jumpIf : MethodName := ⟨RX3, "jumpIf", "(LBranchingKernel$Proc;ZI)I"⟩
abbrev cX3_kill : ByteArray := prog_1_method_6_code
def yX3_kill : MethodName := ⟨RX3, "kill", "(I)Z"⟩
abbrev cX3_load : ByteArray := prog_1_method_3_code
def yX3_load : MethodName := ⟨RX3, "load", "(I)I"⟩
abbrev cX3_moveBreak : ByteArray := prog_1_method_34_code
def yX3_moveBreak : MethodName := ⟨RX3, "moveBreak", "(III)I"⟩
abbrev cX3_nextReady : ByteArray := prog_1_method_25_code
def yX3_nextReady : MethodName := ⟨RX3, "nextReady", "()I"⟩
abbrev cX3_ownPage : ByteArray := prog_1_method_38_code
def yX3_ownPage : MethodName := ⟨RX3, "ownPage", "(LBranchingKernel$Proc;I)I"⟩
abbrev cX3_parent : ByteArray := prog_1_method_9_code
def yX3_parent : MethodName := ⟨RX3, "parent", "(I)I"⟩
abbrev cX3_peek : ByteArray := prog_1_method_13_code
def yX3_peek : MethodName := ⟨RX3, "peek", "(II)I"⟩
abbrev cX3_print : ByteArray := prog_1_method_17_code
def yX3_print : MethodName := ⟨RX3, "print", "(I)I"⟩
abbrev cX3_printed : ByteArray := prog_1_method_16_code
def yX3_printed : MethodName := ⟨RX3, "printed", "()I"⟩
abbrev cX3_putWord : ByteArray := prog_1_method_42_code
def yX3_putWord : MethodName := ⟨RX3, "putWord", "(LBranchingKernel$Proc;II)V"⟩
abbrev cX3_readInto : ByteArray := prog_1_method_30_code
def yX3_readInto : MethodName := ⟨RX3, "readInto", "(III)I"⟩
abbrev cX3_reap : ByteArray := prog_1_method_7_code
def yX3_reap : MethodName := ⟨RX3, "reap", "(I)I"⟩
abbrev cX3_register : ByteArray := prog_1_method_12_code
def yX3_register : MethodName := ⟨RX3, "register", "(II)I"⟩
abbrev cX3_releaseFrom : ByteArray := prog_1_method_40_code
def yX3_releaseFrom : MethodName := ⟨RX3, "releaseFrom", "(LBranchingKernel$Proc;I)V"⟩
abbrev cX3_rowGoesOn : ByteArray := prog_1_method_24_code
def yX3_rowGoesOn : MethodName := ⟨RX3, "rowGoesOn", "()Z"⟩
abbrev cX3_running : ByteArray := prog_1_method_11_code
def yX3_running : MethodName := ⟨RX3, "running", "()I"⟩
abbrev cX3_sharing : ByteArray := prog_1_method_14_code
def yX3_sharing : MethodName := ⟨RX3, "sharing", "(II)I"⟩
abbrev cX3_stage : ByteArray := prog_1_method_2_code
def yX3_stage : MethodName := ⟨RX3, "stage", "(II)Z"⟩
abbrev cX3_state : ByteArray := prog_1_method_8_code
def yX3_state : MethodName := ⟨RX3, "state", "(I)I"⟩
abbrev cX3_step : ByteArray := prog_1_method_4_code
def yX3_step : MethodName := ⟨RX3, "step", "()I"⟩
abbrev cX3_steps : ByteArray := prog_1_method_5_code
def yX3_steps : MethodName := ⟨RX3, "steps", "(I)I"⟩
abbrev cX3_takeStep : ByteArray := prog_1_method_26_code
def yX3_takeStep : MethodName := ⟨RX3, "takeStep", "()I"⟩
abbrev cX3_touchToRead : ByteArray := prog_1_method_37_code
def yX3_touchToRead : MethodName := ⟨RX3, "touchToRead", "(LBranchingKernel$Proc;I)I"⟩
abbrev cX3_waitForChild : ByteArray := prog_1_method_35_code
def yX3_waitForChild : MethodName := ⟨RX3, "waitForChild", "(II)I"⟩
abbrev cX3_wordAt : ByteArray := prog_1_method_41_code
def yX3_wordAt : MethodName := ⟨RX3, "wordAt", "(LBranchingKernel$Proc;I)I"⟩
abbrev cX3_writeFrom : ByteArray := prog_1_method_31_code
def yX3_writeFrom : MethodName := ⟨RX3, "writeFrom", "(III)I"⟩
abbrev cX4_alone : ByteArray := prog_6_method_5_code
def yX4_alone : MethodName := ⟨RX4, "alone", "(I)Z"⟩
abbrev cX4_await : ByteArray := prog_6_method_19_code
def yX4_await : MethodName := ⟨RX4, "await", "(II)I"⟩
abbrev cX4_choose : ByteArray := prog_6_method_16_code
def yX4_choose : MethodName := ⟨RX4, "choose", "()Z"⟩
abbrev cX4_code : ByteArray := prog_6_method_26_code
def yX4_code : MethodName := ⟨RX4, "code", "(I)I"⟩
abbrev cX4_end : ByteArray := prog_6_method_12_code
def yX4_end : MethodName := ⟨RX4, "end", "(II)V"⟩
abbrev cX4_firstFree : ByteArray := prog_6_method_10_code
def yX4_firstFree : MethodName := ⟨RX4, "firstFree", "()I"⟩
abbrev cX4_fork : ByteArray := prog_6_method_17_code
def yX4_fork : MethodName := ⟨RX4, "fork", "(II)I"⟩
abbrev cX4_frames : ByteArray := prog_6_method_3_code
def yX4_frames : MethodName := ⟨RX4, "frames", "()I"⟩
abbrev cX4_free : ByteArray := prog_6_method_13_code
def yX4_free : MethodName := ⟨RX4, "free", "(I)V"⟩
abbrev cX4_grow : ByteArray := prog_6_method_18_code
def yX4_grow : MethodName := ⟨RX4, "grow", "(III)V"⟩
abbrev cX4_init : ByteArray := prog_6_method_1_code
def yX4_init : MethodName := ⟨RX4, "<init>", "(II)V"⟩
abbrev cX4_isProcess : ByteArray := prog_6_method_8_code
def yX4_isProcess : MethodName := ⟨RX4, "isProcess", "(I)Z"⟩
abbrev cX4_kill : ByteArray := prog_6_method_14_code
def yX4_kill : MethodName := ⟨RX4, "kill", "(I)Z"⟩
abbrev cX4_lives : ByteArray := prog_6_method_9_code
def yX4_lives : MethodName := ⟨RX4, "lives", "(I)Z"⟩
abbrev cX4_load : ByteArray := prog_6_method_11_code
def yX4_load : MethodName := ⟨RX4, "load", "(I)I"⟩
abbrev cX4_parent : ByteArray := prog_6_method_25_code
def yX4_parent : MethodName := ⟨RX4, "parent", "(I)I"⟩
abbrev cX4_peek : ByteArray := prog_6_method_29_code
def yX4_peek : MethodName := ⟨RX4, "peek", "(II)I"⟩
abbrev cX4_perform : ByteArray := prog_6_method_21_code
def yX4_perform : MethodName := ⟨RX4, "perform", "(II)I"⟩
abbrev cX4_print : ByteArray := prog_6_method_32_code
def yX4_print : MethodName := ⟨RX4, "print", "(I)I"⟩
abbrev cX4_printed : ByteArray := prog_6_method_31_code
def yX4_printed : MethodName := ⟨RX4, "printed", "()I"⟩
abbrev cX4_reach : ByteArray := prog_6_method_6_code
def yX4_reach : MethodName := ⟨RX4, "reach", "(IIZ)Z"⟩
abbrev cX4_reap : ByteArray := prog_6_method_15_code
def yX4_reap : MethodName := ⟨RX4, "reap", "(I)I"⟩
abbrev cX4_register : ByteArray := prog_6_method_28_code
def yX4_register : MethodName := ⟨RX4, "register", "(II)I"⟩
abbrev cX4_release : ByteArray := prog_6_method_7_code
def yX4_release : MethodName := ⟨RX4, "release", "(I)V"⟩
abbrev cX4_running : ByteArray := prog_6_method_27_code
def yX4_running : MethodName := ⟨RX4, "running", "()I"⟩
abbrev cX4_sharers : ByteArray := prog_6_method_4_code
def yX4_sharers : MethodName := ⟨RX4, "sharers", "(I)I"⟩
abbrev cX4_sharing : ByteArray := prog_6_method_30_code
def yX4_sharing : MethodName := ⟨RX4, "sharing", "(II)I"⟩
abbrev cX4_simple : ByteArray := prog_6_method_20_code
def yX4_simple : MethodName := ⟨RX4, "simple", "(IIIII)I"⟩
abbrev cX4_stage : ByteArray := prog_6_method_2_code
def yX4_stage : MethodName := ⟨RX4, "stage", "(II)Z"⟩
abbrev cX4_state : ByteArray := prog_6_method_24_code
def yX4_state : MethodName := ⟨RX4, "state", "(I)I"⟩
abbrev cX4_step : ByteArray := prog_6_method_22_code
def yX4_step : MethodName := ⟨RX4, "step", "()I"⟩
abbrev cX4_steps : ByteArray := prog_6_method_23_code
def yX4_steps : MethodName := ⟨RX4, "steps", "(I)I"⟩
end
section
/-! my own machine over whole worlds: cells by index (kind, number), their ints in one store, their shape (references, lengths) fixed -/
def q_ws : List Cond := lw_tbl.filter goodWord
theorem q_ws_good {w : Cond} (h : w ∈ q_ws) : (w.onTables && w.keeps) = true ∨ ∃ ty, w = .arrayClass ty := good_of_word (List.mem_filter.mp h).2
theorem q_ws_in {w : Cond} (h : w ∈ lw_tbl) (hg : goodWord w = true) : w ∈ q_ws := List.mem_filter.mpr ⟨h, hg⟩
abbrev q_ix : Type := Nat × Nat
abbrev q_v : Type := Int32 ⊕ Option q_ix
abbrev q_sh : Type := (Nat × List (Option (Option q_ix))) ⊕ ((ClassId × Nat) ⊕ (ClassId × Nat × (Nat → Option q_ix)))
abbrev q_st : Type := q_ix → Nat → Int32
abbrev q_wd : Type := List q_ix × (q_ix → Nat) × (q_ix → q_sh)
abbrev q_g : Type := va_G × ClassId × ClassId
abbrev q_cx : Type := Program × Launch × Env × State × MethodId × Array Value × List Frame × Method × Code × (Nat → Prop) × (State → Prop)
abbrev q_in : Type := ByteArray × MethodName × Nat × Option FieldType × Room
abbrev q_post : Type := Option q_v → q_wd → q_st → Prop
def q_ref (ad : q_ix → Nat) (r : Option q_ix) : Value := match r with
  | none => .null
  | some i => .ref (ad i)
def q_val (ad : q_ix → Nat) (v : q_v) : Value := match v with
  | .inl x => .int x
  | .inr r => q_ref ad r
def q_fld (ad : q_ix → Nat) (s : Nat → Int32) (k : Nat) (t : Option (Option q_ix)) : Value := match t with
  | none => .int (s k)
  | some r => q_ref ad r
def q_cell (ad : q_ix → Nat) (s : Nat → Int32) (h : q_sh) : va_E := match h with
  | .inl (c, fl) => .inr (c, fl.mapIdx (q_fld ad s))
  | .inr (.inl (cA, n)) => .inl (cA, n, .inl s)
  | .inr (.inr (cA, n, f)) => .inl (cA, n, .inr (.inr (.inr (.inr (fun j => (f j).map ad)))))
def q_wl (w : q_wd) (S : q_st) : va_W := w.1.map (fun i => (w.2.1 i, q_cell w.2.1 (S i) (w.2.2 i)))
def q_up (S : q_st) (i : q_ix) (k : Nat) (v : Int32) : q_st := fun j n => if j = i ∧ n = k then v else S j n
def q_tys (G : q_g) : List (ClassId × FieldType) := [(G.2.1, .int), (G.2.2, .object "BranchingKernel$Proc")]
theorem q_val_cat (ad : q_ix → Nat) (v : q_v) : (q_val ad v).category = 1 := by
  rcases v with x | (_ | i) <;> rfl
theorem q_wl_at {w : q_wd} {S : q_st} {i : q_ix} {k : Nat} (h : w.1[k]? = some i) : (q_wl w S)[k]? = some (w.2.1 i, q_cell w.2.1 (S i) (w.2.2 i)) := by
  unfold q_wl
  rw [List.getElem?_map, h]
  rfl
theorem q_set {w : q_wd} {S S' : q_st} {A : Nat → Prop} {i : q_ix} {k : Nat} {e : va_E} (hD : va_D A (q_wl w S)) (hk : w.1[k]? = some i) (he : q_cell w.2.1 (S' i) (w.2.2 i) = e) (ho : ∀ j, j ≠ i → S' j = S j) : (q_wl w S).set k (w.2.1 i, e) = q_wl w S' := by
  subst he
  apply List.ext_getElem?
  intro n
  have hlen : k < (q_wl w S).length := (List.getElem?_eq_some_iff.mp (q_wl_at (S := S) hk)).1
  by_cases hn : n = k
  · subst hn
    rw [List.getElem?_set_self hlen, q_wl_at hk]
  · rw [List.getElem?_set_ne (Ne.symm hn)]
    cases hj : w.1[n]? with
    | none =>
      unfold q_wl
      rw [List.getElem?_map, List.getElem?_map, hj]
      rfl
    | some j =>
      have hji : j ≠ i := by
        intro h
        subst h
        exact hn (hD.1 n k _ _ (q_wl_at hj) (q_wl_at hk) rfl)
      rw [q_wl_at hj, q_wl_at hj, ho j hji]
theorem q_up_self (S : q_st) (i : q_ix) (k : Nat) (v : Int32) : q_up S i k v i = upd (S i) k v := by
  funext n
  simp [q_up, upd]
theorem q_up_other (S : q_st) (i : q_ix) (k : Nat) (v : Int32) (j : q_ix) (h : j ≠ i) : q_up S i k v j = S j := by
  funext n
  simp [q_up, h]
theorem q_fld_set {ad : q_ix → Nat} {s : Nat → Int32} {fl : List (Option (Option q_ix))} {k : Nat} {v : Int32} (hk : fl[k]? = some none) : fl.mapIdx (q_fld ad (upd s k v)) = (fl.mapIdx (q_fld ad s)).set k (.int v) := by
  apply List.ext_getElem?
  intro n
  by_cases hn : n = k
  · subst hn
    have hl : n < (fl.mapIdx (q_fld ad s)).length := by
      rw [List.length_mapIdx]
      exact (List.getElem?_eq_some_iff.mp hk).1
    rw [List.getElem?_set_self hl, List.getElem?_mapIdx, hk]
    simp [q_fld, upd]
  · rw [List.getElem?_set_ne (Ne.symm hn), List.getElem?_mapIdx, List.getElem?_mapIdx]
    cases fl[n]? with
    | none => rfl
    | some t =>
      rcases t with _ | r
      · simp [q_fld, upd, hn]
      · rfl
/-- the locals: what the list says of them -/
def q_ll (ad : q_ix → Nat) : Nat → List (Option q_v) → List (Nat × Value)
  | _, [] => []
  | k, none :: r => q_ll ad (k + 1) r
  | k, some v :: r => (k, q_val ad v) :: q_ll ad (k + 1) r
theorem q_ll_mem {ad : q_ix → Nat} {q : Nat × Value} : ∀ (ls : List (Option q_v)) (k : Nat), q ∈ q_ll ad k ls ↔ ∃ i v, ls[i]? = some (some v) ∧ q = (k + i, q_val ad v)
  | [], k => by simp [q_ll]
  | none :: r, k => by
    show q ∈ q_ll ad (k + 1) r ↔ _
    rw [q_ll_mem r (k + 1)]
    constructor
    · rintro ⟨i, v, h1, h2⟩
      exact ⟨i + 1, v, by simpa using h1, by rw [h2]; congr 1; omega⟩
    · rintro ⟨i, v, h1, h2⟩
      cases i with
      | zero => simp at h1
      | succ i => exact ⟨i, v, by simpa using h1, by rw [h2]; congr 1; omega⟩
  | some u :: r, k => by
    show q ∈ (k, q_val ad u) :: q_ll ad (k + 1) r ↔ _
    rw [List.mem_cons, q_ll_mem r (k + 1)]
    constructor
    · rintro (h | ⟨i, v, h1, h2⟩)
      · exact ⟨0, u, rfl, h⟩
      · exact ⟨i + 1, v, by simpa using h1, by rw [h2]; congr 1; omega⟩
    · rintro ⟨i, v, h1, h2⟩
      cases i with
      | zero =>
        left
        simp at h1
        rw [h2, h1]
        rfl
      | succ i => exact Or.inr ⟨i, v, by simpa using h1, by rw [h2]; congr 1; omega⟩
def q_lo (la : Array Slot) (nL : Nat) (ad : q_ix → Nat) (ls : List (Option q_v)) : Prop := lv_has la nL (q_ll ad 0 ls)
theorem q_lo_at {la : Array Slot} {nL : Nat} {ad : q_ix → Nat} {ls : List (Option q_v)} (h : q_lo la nL ad ls) {i : Nat} {v : q_v} (hi : ls[i]? = some (some v)) : la[i]? = some (.val (q_val ad v)) :=
  h.2.2 (i, q_val ad v) ((q_ll_mem ls 0).mpr ⟨i, v, hi, by rw [Nat.zero_add]⟩)
theorem q_lo_of {la : Array Slot} {nL : Nat} {ad ad' : q_ix → Nat} {ls ls' : List (Option q_v)} (h : q_lo la nL ad ls) (hh : ∀ (i : Nat) (v : q_v), ls'[i]? = some (some v) → ∃ u : q_v, ls[i]? = some (some u) ∧ q_val ad u = q_val ad' v) : q_lo la nL ad' ls' := by
  refine ⟨h.1, h.2.1, fun q hq => ?_⟩
  obtain ⟨i, v, h1, rfl⟩ := (q_ll_mem ls' 0).mp hq
  obtain ⟨u, h2, h3⟩ := hh i v h1
  show la[0 + i]? = _
  rw [Nat.zero_add]
  rw [← h3]
  exact q_lo_at h h2
theorem q_lo_st {la : Array Slot} {nL : Nat} {ad : q_ix → Nat} {ls : List (Option q_v)} {i : Nat} {v : q_v} (h : lv_has la nL ((i, q_val ad v) :: (q_ll ad 0 ls).filter (fun q => !(q.1 == i) && !(q.1 + 1 == i && q.2.category == 2)))) : q_lo la nL ad (ls.set i (some v)) := by
  refine ⟨h.1, h.2.1, fun q hq => h.2.2 q ?_⟩
  obtain ⟨j, u, h1, rfl⟩ := (q_ll_mem _ 0).mp hq
  by_cases hj : j = i
  · subst hj
    have hl : j < ls.length := by
      have := (List.getElem?_eq_some_iff.mp h1).1
      simpa using this
    rw [List.getElem?_set_self hl] at h1
    cases h1
    rw [Nat.zero_add]
    exact List.mem_cons_self
  · rw [List.getElem?_set_ne (Ne.symm hj)] at h1
    refine List.mem_cons_of_mem _ (List.mem_filter.mpr ⟨(q_ll_mem _ 0).mpr ⟨j, u, h1, rfl⟩, ?_⟩)
    have hc := q_val_cat ad u
    simp [hj, hc]
/-- what a method's walk knows -/
def q_fx (G : q_g) (X : q_cx) (I : q_in) : Prop := match X with
  | (p, _, _, s, m, args, _, meth, c, A, _) => p.tables.exec = Jvm.exec ∧ c.code = I.1 ∧ c.maxLocals = I.2.2.1 ∧ (∀ w ∈ q_ws, w.before args s = true) ∧ s.vm.findClass I.2.1.cls = some m.cls ∧ meth.name = I.2.1.name ∧ meth.sig.returnType = I.2.2.2.1 ∧ meth.locks = false ∧ va_K G.1 vwCl (q_tys G) s ∧ (∀ q : Nat, s.heap.size ≤ q → A q)
def q_Q (G : q_g) (A : Nat → Prop) (post : q_post) : Array Value → State → Outcome → State → Prop := fun _ st oc t => (∃ (r : Option q_v) (w : q_wd) (S : q_st), oc = .returned (r.map (q_val w.2.1)) ∧ post r w S ∧ va_P G.1 vwCl (q_wl w S) t.heap ∧ va_K G.1 vwCl (q_tys G) t ∧ va_D A (q_wl w S)) ∧ va_F A st t
def q_W (G : q_g) (X : q_cx) (I : q_in) (w : q_wd) (cn : Nat × Nat) (pc : Nat) (ls : List (Option q_v)) (st : List q_v) (S : q_st) : Prop := match X with
  | (p, l, e, s, m, args, below, meth, c, A, Qf) => ∀ (H : Heap) (locs : List Loc) (la : Array Slot), va_P G.1 vwCl (q_wl w S) H → va_D A (q_wl w S) → va_S A s.heap H locs → q_lo la I.2.2.1 w.2.1 ls → W p l e I.2.2.2.2 s m args below meth c H locs cn.1 cn.2 Qf (F0 m pc la (st.map (q_val w.2.1)))
/-- what the walk of a method is to end in -/
def q_en (G : q_g) (X : q_cx) (I : q_in) (post : q_post) : Prop := match X with
  | (_, _, _, s, _, args, below, _, _, A, Qf) => Qf = MQ below (q_Q G A post) args s I.2.2.2.2.cells I.2.2.2.2.slots A
/-- a method's contract at these arguments, in this world -/
def q_Ct (l : Launch) (G : q_g) (I : q_in) (av : List q_v) (w : q_wd) (S : q_st) (post : q_post) : Prop := ∀ sz : Nat, Met l I.2.1 (.code I.2.1 I.1 I.2.2.1 I.2.2.2.1 :: q_ws) I.2.2.2.2 (va_Pc (av.map (q_val w.2.1)) (fun U => U.heap.size = sz ∧ va_P G.1 vwCl (q_wl w S) U.heap ∧ va_K G.1 vwCl (q_tys G) U ∧ va_D (fun _ => True) (q_wl w S))) (q_Q G (va_A (q_wl w S) sz) post) I.2.2.2.2.cells I.2.2.2.2.slots (va_A (q_wl w S) sz)
theorem q_enter {l : Launch} {G : q_g} {I : q_in} {av : List q_v} {w : q_wd} {S : q_st} {post : q_post} (hy : plainName I.2.1.cls = true) (ha : av.length ≤ I.2.2.1) (h : ∀ X : q_cx, q_fx G X I → q_en G X I post → q_W G X I w (0, 0) 0 (av.map some ++ List.replicate (I.2.2.1 - av.length) none) [] S) : q_Ct l G I av w S post := by
  intro sz
  refine Met.ofW (cc := I.1) (maxL := I.2.2.1) (ret := I.2.2.2.1) hy rfl ?_
  intro p e s m args below meth c s₁ B hml hv
  obtain ⟨rfl, hsz, hP, hK, hD0⟩ := hv
  have hts := atoms_spec (ws := .code I.2.1 I.1 I.2.2.1 I.2.2.2.1 :: q_ws) B.pre
  have hown : s.vm.findClass I.2.1.cls = some m.cls := findClass_of_methodNamed B.named
  have hnm : meth.name = I.2.1.name := (name_of_methodNamed B.named B.method).1
  subst hsz
  have hD := hD0.self (sz := s.heap.size)
  have hcat : ∀ (vs : List q_v), (lg_sl (vs.map (q_val w.2.1))) = vs.map (fun v => Slot.val (q_val w.2.1 v)) := by
    intro vs
    induction vs with
    | nil => rfl
    | cons v t ih =>
      have hc := q_val_cat w.2.1 v
      simp only [lg_sl, List.map_cons, List.flatMap_cons] at ih ⊢
      rw [ih, hc]
      rfl
  have hl := lv_entry (av.map (q_val w.2.1)) (n := I.2.2.1) (by rw [hcat]; simpa using ha)
  rw [lg_entry_eq]
  generalize (lg_sl (av.map (q_val w.2.1)) ++ List.replicate (I.2.2.1 - (lg_sl (av.map (q_val w.2.1))).length) Slot.unset).toArray = la at hl ⊢
  have hargs : ∀ (vs : List q_v) (k i : Nat) (v : q_v), vs[i]? = some v → (k + i, q_val w.2.1 v) ∈ lv_args k (vs.map (q_val w.2.1)) := by
    intro vs
    induction vs with
    | nil => intro k i v hv; simp at hv
    | cons u t ih =>
      intro k i v hv
      have hc : ¬ (q_val w.2.1 u).category = 2 := by rw [q_val_cat]; decide
      show _ ∈ (k, q_val w.2.1 u) :: lv_args (if (q_val w.2.1 u).category = 2 then k + 2 else k + 1) (t.map (q_val w.2.1))
      rw [if_neg hc]
      cases i with
      | zero =>
        simp at hv
        subst hv
        exact List.mem_cons_self
      | succ i =>
        refine List.mem_cons_of_mem _ ?_
        have := ih (k + 1) i v (by simpa using hv)
        rw [show k + (i + 1) = k + 1 + i by omega]
        exact this
  refine h (p, l, e, s, m, _, below, meth, c, va_A (q_wl w S) s.heap.size, _) ⟨B.exec, B.bytes, hml, fun w hw => hts w (List.mem_cons_of_mem _ hw), hown, hnm, B.returns, B.notSynchronized, hK, fun q hq => Or.inr hq⟩ rfl s.heap [] la hP hD va_S.rf ⟨hl.1, hl.2.1, fun q hq => ?_⟩
  obtain ⟨i, v, h1, rfl⟩ := (q_ll_mem _ 0).mp hq
  refine hl.2.2 _ ?_
  by_cases hi : i < av.length
  · rw [List.getElem?_append_left (by simpa using hi), List.getElem?_map] at h1
    cases hv : av[i]? with
    | none => rw [hv] at h1; cases h1
    | some u =>
      rw [hv] at h1
      cases h1
      exact hargs av 0 i _ hv
  · rw [List.getElem?_append_right (by simpa using hi)] at h1
    rw [List.getElem?_replicate] at h1
    split at h1 <;> cases h1
end
section
/-! rows of my machine: one for each kind of instruction (written by wip/whole/mk_rows.py) -/
theorem q_ltI (x y : Int32) : x < y ↔ x.toInt < y.toInt := Int32.lt_iff_toInt_lt
theorem q_leI (x y : Int32) : x ≤ y ↔ x.toInt ≤ y.toInt := Int32.le_iff_toInt_le
theorem q_forget {G : q_g} {X : q_cx} {I : q_in} {w : q_wd} {cn : Nat × Nat} {pc : Nat} {ls : List (Option q_v)} {st : List q_v} {S : q_st} {ls' : List (Option q_v)} (h : ∀ (i : Nat) (v : q_v), ls'[i]? = some (some v) → ls[i]? = some (some v)) (kk : q_W G X I w cn (pc) ls' (st) S) : q_W G X I w cn (pc) ls (st) S := by
  obtain ⟨p, l, e, s, m, args, below, meth, c, A, Qf⟩ := X
  intro H locs la hP hD hS hl
  exact kk H locs la hP hD hS (q_lo_of hl (fun i v hi => ⟨v, h i v hi, rfl⟩))
theorem q_iconst {G : q_g} {X : q_cx} {I : q_in} {w : q_wd} {cn : Nat × Nat} {pc : Nat} {ls : List (Option q_v)} {st : List q_v} {S : q_st} (F : q_fx G X I) {n : Int} (v : Int32) (hd : decode I.1 pc = .ok (.iconst n, 1)) (hv : Int32.ofInt n = v) (kk : q_W G X I w cn (pc + 1) ls (.inl v :: st) S) : q_W G X I w cn (pc) ls (st) S := by
  obtain ⟨p, l, e, s, m, args, below, meth, c, A, Qf⟩ := X
  obtain ⟨hx, hb, hml, hts, hown, hnm, hr, hlk, hK, hA⟩ := F
  intro H locs la hP hD hS hl
  exact lv_iconst hx hb hd hv (kk H locs la hP hD hS hl)
theorem q_bipush {G : q_g} {X : q_cx} {I : q_in} {w : q_wd} {cn : Nat × Nat} {pc : Nat} {ls : List (Option q_v)} {st : List q_v} {S : q_st} (F : q_fx G X I) {n : Int} (v : Int32) (hd : decode I.1 pc = .ok (.bipush n, 2)) (hv : (Int8.ofInt n).toInt32 = v) (kk : q_W G X I w cn (pc + 2) ls (.inl v :: st) S) : q_W G X I w cn (pc) ls (st) S := by
  obtain ⟨p, l, e, s, m, args, below, meth, c, A, Qf⟩ := X
  obtain ⟨hx, hb, hml, hts, hown, hnm, hr, hlk, hK, hA⟩ := F
  intro H locs la hP hD hS hl
  exact lv_bipush hx hb hd hv (kk H locs la hP hD hS hl)
theorem q_sipush {G : q_g} {X : q_cx} {I : q_in} {w : q_wd} {cn : Nat × Nat} {pc : Nat} {ls : List (Option q_v)} {st : List q_v} {S : q_st} (F : q_fx G X I) {n : Int} (v : Int32) (hd : decode I.1 pc = .ok (.sipush n, 3)) (hv : (Int16.ofInt n).toInt32 = v) (kk : q_W G X I w cn (pc + 3) ls (.inl v :: st) S) : q_W G X I w cn (pc) ls (st) S := by
  obtain ⟨p, l, e, s, m, args, below, meth, c, A, Qf⟩ := X
  obtain ⟨hx, hb, hml, hts, hown, hnm, hr, hlk, hK, hA⟩ := F
  intro H locs la hP hD hS hl
  exact lv_sipush hx hb hd hv (kk H locs la hP hD hS hl)
theorem q_iload_n {G : q_g} {X : q_cx} {I : q_in} {w : q_wd} {cn : Nat × Nat} {pc : Nat} {ls : List (Option q_v)} {st : List q_v} {S : q_st} (F : q_fx G X I) {k : Fin 4} {x : Int32} (hd : decode I.1 pc = .ok (.iload_n k, 1)) (hl0 : ls[(k : Nat)]? = some (some (.inl x))) (kk : q_W G X I w cn (pc + 1) ls (.inl x :: st) S) : q_W G X I w cn (pc) ls (st) S := by
  obtain ⟨p, l, e, s, m, args, below, meth, c, A, Qf⟩ := X
  obtain ⟨hx, hb, hml, hts, hown, hnm, hr, hlk, hK, hA⟩ := F
  intro H locs la hP hD hS hl
  exact lv_iload_n hx hb hd rfl (q_lo_at hl hl0) (kk H locs la hP hD hS hl)
theorem q_iload {G : q_g} {X : q_cx} {I : q_in} {w : q_wd} {cn : Nat × Nat} {pc : Nat} {ls : List (Option q_v)} {st : List q_v} {S : q_st} (F : q_fx G X I) {i : Nat} {x : Int32} (hd : decode I.1 pc = .ok (.iload i, 2)) (hl0 : ls[i]? = some (some (.inl x))) (kk : q_W G X I w cn (pc + 2) ls (.inl x :: st) S) : q_W G X I w cn (pc) ls (st) S := by
  obtain ⟨p, l, e, s, m, args, below, meth, c, A, Qf⟩ := X
  obtain ⟨hx, hb, hml, hts, hown, hnm, hr, hlk, hK, hA⟩ := F
  intro H locs la hP hD hS hl
  exact lv_iload hx hb hd (q_lo_at hl hl0) (kk H locs la hP hD hS hl)
theorem q_aload_n {G : q_g} {X : q_cx} {I : q_in} {w : q_wd} {cn : Nat × Nat} {pc : Nat} {ls : List (Option q_v)} {st : List q_v} {S : q_st} (F : q_fx G X I) {k : Fin 4} {x : q_ix} (hd : decode I.1 pc = .ok (.aload_n k, 1)) (hl0 : ls[(k : Nat)]? = some (some (.inr (some x)))) (kk : q_W G X I w cn (pc + 1) ls (.inr (some x) :: st) S) : q_W G X I w cn (pc) ls (st) S := by
  obtain ⟨p, l, e, s, m, args, below, meth, c, A, Qf⟩ := X
  obtain ⟨hx, hb, hml, hts, hown, hnm, hr, hlk, hK, hA⟩ := F
  intro H locs la hP hD hS hl
  exact lv_aload_n hx hb hd rfl (q_lo_at hl hl0) (kk H locs la hP hD hS hl)
theorem q_aload {G : q_g} {X : q_cx} {I : q_in} {w : q_wd} {cn : Nat × Nat} {pc : Nat} {ls : List (Option q_v)} {st : List q_v} {S : q_st} (F : q_fx G X I) {i : Nat} {x : q_ix} (hd : decode I.1 pc = .ok (.aload i, 2)) (hl0 : ls[i]? = some (some (.inr (some x)))) (kk : q_W G X I w cn (pc + 2) ls (.inr (some x) :: st) S) : q_W G X I w cn (pc) ls (st) S := by
  obtain ⟨p, l, e, s, m, args, below, meth, c, A, Qf⟩ := X
  obtain ⟨hx, hb, hml, hts, hown, hnm, hr, hlk, hK, hA⟩ := F
  intro H locs la hP hD hS hl
  exact lv_aload hx hb hd (q_lo_at hl hl0) (kk H locs la hP hD hS hl)
theorem q_istore_n0 {G : q_g} {X : q_cx} {I : q_in} {w : q_wd} {cn : Nat × Nat} {pc : Nat} {ls : List (Option q_v)} {st : List q_v} {S : q_st} (F : q_fx G X I) {k : Fin 4} {x : Int32} (hd : decode I.1 pc = .ok (.istore_n k, 1)) (hn : (k : Nat) < I.2.2.1) (kk : q_W G X I w cn (pc + 1) (ls.set (k : Nat) (some (.inl x))) (st) S) : q_W G X I w cn (pc) ls (.inl x :: st) S := by
  obtain ⟨p, l, e, s, m, args, below, meth, c, A, Qf⟩ := X
  obtain ⟨hx, hb, hml, hts, hown, hnm, hr, hlk, hK, hA⟩ := F
  intro H locs la hP hD hS hl
  exact lv_istore_n hx hb hd rfl hl hn rfl (fun la' h' => kk H locs la' hP hD hS (q_lo_st (v := .inl x) h'))
theorem q_istore0 {G : q_g} {X : q_cx} {I : q_in} {w : q_wd} {cn : Nat × Nat} {pc : Nat} {ls : List (Option q_v)} {st : List q_v} {S : q_st} (F : q_fx G X I) {i : Nat} {x : Int32} (hd : decode I.1 pc = .ok (.istore i, 2)) (hn : i < I.2.2.1) (kk : q_W G X I w cn (pc + 2) (ls.set i (some (.inl x))) (st) S) : q_W G X I w cn (pc) ls (.inl x :: st) S := by
  obtain ⟨p, l, e, s, m, args, below, meth, c, A, Qf⟩ := X
  obtain ⟨hx, hb, hml, hts, hown, hnm, hr, hlk, hK, hA⟩ := F
  intro H locs la hP hD hS hl
  exact lv_istore hx hb hd hl hn rfl (fun la' h' => kk H locs la' hP hD hS (q_lo_st (v := .inl x) h'))
theorem q_astore_n0 {G : q_g} {X : q_cx} {I : q_in} {w : q_wd} {cn : Nat × Nat} {pc : Nat} {ls : List (Option q_v)} {st : List q_v} {S : q_st} (F : q_fx G X I) {k : Fin 4} {x : q_ix} (hd : decode I.1 pc = .ok (.astore_n k, 1)) (hn : (k : Nat) < I.2.2.1) (kk : q_W G X I w cn (pc + 1) (ls.set (k : Nat) (some (.inr (some x)))) (st) S) : q_W G X I w cn (pc) ls (.inr (some x) :: st) S := by
  obtain ⟨p, l, e, s, m, args, below, meth, c, A, Qf⟩ := X
  obtain ⟨hx, hb, hml, hts, hown, hnm, hr, hlk, hK, hA⟩ := F
  intro H locs la hP hD hS hl
  exact lv_astore_n hx hb hd rfl hl hn rfl (fun la' h' => kk H locs la' hP hD hS (q_lo_st (v := .inr (some x)) h'))
theorem q_astore0 {G : q_g} {X : q_cx} {I : q_in} {w : q_wd} {cn : Nat × Nat} {pc : Nat} {ls : List (Option q_v)} {st : List q_v} {S : q_st} (F : q_fx G X I) {i : Nat} {x : q_ix} (hd : decode I.1 pc = .ok (.astore i, 2)) (hn : i < I.2.2.1) (kk : q_W G X I w cn (pc + 2) (ls.set i (some (.inr (some x)))) (st) S) : q_W G X I w cn (pc) ls (.inr (some x) :: st) S := by
  obtain ⟨p, l, e, s, m, args, below, meth, c, A, Qf⟩ := X
  obtain ⟨hx, hb, hml, hts, hown, hnm, hr, hlk, hK, hA⟩ := F
  intro H locs la hP hD hS hl
  exact lv_astore hx hb hd hl hn rfl (fun la' h' => kk H locs la' hP hD hS (q_lo_st (v := .inr (some x)) h'))
theorem q_iinc0 {G : q_g} {X : q_cx} {I : q_in} {w : q_wd} {cn : Nat × Nat} {pc : Nat} {ls : List (Option q_v)} {st : List q_v} {S : q_st} (F : q_fx G X I) {i : Nat} {n : Int} {x : Int32} (hd : decode I.1 pc = .ok (.iinc i n, 3)) (hl0 : ls[i]? = some (some (.inl x))) (v : Int32) (hv : x + Int32.ofInt n = v) (hn : i < I.2.2.1) (kk : q_W G X I w cn (pc + 3) (ls.set i (some (.inl v))) (st) S) : q_W G X I w cn (pc) ls (st) S := by
  obtain ⟨p, l, e, s, m, args, below, meth, c, A, Qf⟩ := X
  obtain ⟨hx, hb, hml, hts, hown, hnm, hr, hlk, hK, hA⟩ := F
  intro H locs la hP hD hS hl
  obtain ⟨k, hk⟩ := List.getElem?_of_mem ((q_ll_mem (q := (i, .int x)) ls 0).mpr ⟨i, .inl x, hl0, by rw [Nat.zero_add]; rfl⟩)
  exact lv_iinc hx hb hd hl hk hv hn rfl (fun la' h' => kk H locs la' hP hD hS (q_lo_st (v := .inl v) h'))
theorem q_istore_n_0 {G : q_g} {X : q_cx} {I : q_in} {w : q_wd} {cn : Nat × Nat} {pc : Nat} {st : List q_v} {S : q_st} {a0 : Option q_v} {r : List (Option q_v)} (F : q_fx G X I) {x : Int32} (hd : decode I.1 pc = .ok (.istore_n 0, 1)) (hn : 0 < I.2.2.1) (kk : q_W G X I w cn (pc + 1) (some (.inl x) :: r) (st) S) : q_W G X I w cn (pc) (a0 :: r) (.inl x :: st) S := q_istore_n0 (k := 0) F hd hn kk
theorem q_astore_n_0 {G : q_g} {X : q_cx} {I : q_in} {w : q_wd} {cn : Nat × Nat} {pc : Nat} {st : List q_v} {S : q_st} {a0 : Option q_v} {r : List (Option q_v)} (F : q_fx G X I) {x : q_ix} (hd : decode I.1 pc = .ok (.astore_n 0, 1)) (hn : 0 < I.2.2.1) (kk : q_W G X I w cn (pc + 1) (some (.inr (some x)) :: r) (st) S) : q_W G X I w cn (pc) (a0 :: r) (.inr (some x) :: st) S := q_astore_n0 (k := 0) F hd hn kk
theorem q_iinc_0 {G : q_g} {X : q_cx} {I : q_in} {w : q_wd} {cn : Nat × Nat} {pc : Nat} {st : List q_v} {S : q_st} {r : List (Option q_v)} (F : q_fx G X I) {n : Int} {x : Int32} (v : Int32) (hd : decode I.1 pc = .ok (.iinc 0 n, 3)) (hv : x + Int32.ofInt n = v) (hn : 0 < I.2.2.1) (kk : q_W G X I w cn (pc + 3) (some (.inl v) :: r) (st) S) : q_W G X I w cn (pc) (some (.inl x) :: r) (st) S := q_iinc0 (i := 0) F hd rfl v hv hn kk
theorem q_drop_0 {G : q_g} {X : q_cx} {I : q_in} {w : q_wd} {cn : Nat × Nat} {pc : Nat} {st : List q_v} {S : q_st} {a0 : Option q_v} {r : List (Option q_v)} (kk : q_W G X I w cn (pc) (none :: r) (st) S) : q_W G X I w cn (pc) (a0 :: r) (st) S := q_forget (fun i v h => by
  by_cases hi : i = 0
  · subst hi; cases h
  · have h2 : ((a0 :: r).set 0 none)[i]? = some (some v) := h
    rw [List.getElem?_set_ne (Ne.symm hi)] at h2
    exact h2) kk
theorem q_istore_n_1 {G : q_g} {X : q_cx} {I : q_in} {w : q_wd} {cn : Nat × Nat} {pc : Nat} {st : List q_v} {S : q_st} {a0 a1 : Option q_v} {r : List (Option q_v)} (F : q_fx G X I) {x : Int32} (hd : decode I.1 pc = .ok (.istore_n 1, 1)) (hn : 1 < I.2.2.1) (kk : q_W G X I w cn (pc + 1) (a0 :: some (.inl x) :: r) (st) S) : q_W G X I w cn (pc) (a0 :: a1 :: r) (.inl x :: st) S := q_istore_n0 (k := 1) F hd hn kk
theorem q_astore_n_1 {G : q_g} {X : q_cx} {I : q_in} {w : q_wd} {cn : Nat × Nat} {pc : Nat} {st : List q_v} {S : q_st} {a0 a1 : Option q_v} {r : List (Option q_v)} (F : q_fx G X I) {x : q_ix} (hd : decode I.1 pc = .ok (.astore_n 1, 1)) (hn : 1 < I.2.2.1) (kk : q_W G X I w cn (pc + 1) (a0 :: some (.inr (some x)) :: r) (st) S) : q_W G X I w cn (pc) (a0 :: a1 :: r) (.inr (some x) :: st) S := q_astore_n0 (k := 1) F hd hn kk
theorem q_iinc_1 {G : q_g} {X : q_cx} {I : q_in} {w : q_wd} {cn : Nat × Nat} {pc : Nat} {st : List q_v} {S : q_st} {a0 : Option q_v} {r : List (Option q_v)} (F : q_fx G X I) {n : Int} {x : Int32} (v : Int32) (hd : decode I.1 pc = .ok (.iinc 1 n, 3)) (hv : x + Int32.ofInt n = v) (hn : 1 < I.2.2.1) (kk : q_W G X I w cn (pc + 3) (a0 :: some (.inl v) :: r) (st) S) : q_W G X I w cn (pc) (a0 :: some (.inl x) :: r) (st) S := q_iinc0 (i := 1) F hd rfl v hv hn kk
theorem q_drop_1 {G : q_g} {X : q_cx} {I : q_in} {w : q_wd} {cn : Nat × Nat} {pc : Nat} {st : List q_v} {S : q_st} {a0 a1 : Option q_v} {r : List (Option q_v)} (kk : q_W G X I w cn (pc) (a0 :: none :: r) (st) S) : q_W G X I w cn (pc) (a0 :: a1 :: r) (st) S := q_forget (fun i v h => by
  by_cases hi : i = 1
  · subst hi; cases h
  · have h2 : ((a0 :: a1 :: r).set 1 none)[i]? = some (some v) := h
    rw [List.getElem?_set_ne (Ne.symm hi)] at h2
    exact h2) kk
theorem q_istore_n_2 {G : q_g} {X : q_cx} {I : q_in} {w : q_wd} {cn : Nat × Nat} {pc : Nat} {st : List q_v} {S : q_st} {a0 a1 a2 : Option q_v} {r : List (Option q_v)} (F : q_fx G X I) {x : Int32} (hd : decode I.1 pc = .ok (.istore_n 2, 1)) (hn : 2 < I.2.2.1) (kk : q_W G X I w cn (pc + 1) (a0 :: a1 :: some (.inl x) :: r) (st) S) : q_W G X I w cn (pc) (a0 :: a1 :: a2 :: r) (.inl x :: st) S := q_istore_n0 (k := 2) F hd hn kk
theorem q_astore_n_2 {G : q_g} {X : q_cx} {I : q_in} {w : q_wd} {cn : Nat × Nat} {pc : Nat} {st : List q_v} {S : q_st} {a0 a1 a2 : Option q_v} {r : List (Option q_v)} (F : q_fx G X I) {x : q_ix} (hd : decode I.1 pc = .ok (.astore_n 2, 1)) (hn : 2 < I.2.2.1) (kk : q_W G X I w cn (pc + 1) (a0 :: a1 :: some (.inr (some x)) :: r) (st) S) : q_W G X I w cn (pc) (a0 :: a1 :: a2 :: r) (.inr (some x) :: st) S := q_astore_n0 (k := 2) F hd hn kk
theorem q_iinc_2 {G : q_g} {X : q_cx} {I : q_in} {w : q_wd} {cn : Nat × Nat} {pc : Nat} {st : List q_v} {S : q_st} {a0 a1 : Option q_v} {r : List (Option q_v)} (F : q_fx G X I) {n : Int} {x : Int32} (v : Int32) (hd : decode I.1 pc = .ok (.iinc 2 n, 3)) (hv : x + Int32.ofInt n = v) (hn : 2 < I.2.2.1) (kk : q_W G X I w cn (pc + 3) (a0 :: a1 :: some (.inl v) :: r) (st) S) : q_W G X I w cn (pc) (a0 :: a1 :: some (.inl x) :: r) (st) S := q_iinc0 (i := 2) F hd rfl v hv hn kk
theorem q_drop_2 {G : q_g} {X : q_cx} {I : q_in} {w : q_wd} {cn : Nat × Nat} {pc : Nat} {st : List q_v} {S : q_st} {a0 a1 a2 : Option q_v} {r : List (Option q_v)} (kk : q_W G X I w cn (pc) (a0 :: a1 :: none :: r) (st) S) : q_W G X I w cn (pc) (a0 :: a1 :: a2 :: r) (st) S := q_forget (fun i v h => by
  by_cases hi : i = 2
  · subst hi; cases h
  · have h2 : ((a0 :: a1 :: a2 :: r).set 2 none)[i]? = some (some v) := h
    rw [List.getElem?_set_ne (Ne.symm hi)] at h2
    exact h2) kk
theorem q_istore_n_3 {G : q_g} {X : q_cx} {I : q_in} {w : q_wd} {cn : Nat × Nat} {pc : Nat} {st : List q_v} {S : q_st} {a0 a1 a2 a3 : Option q_v} {r : List (Option q_v)} (F : q_fx G X I) {x : Int32} (hd : decode I.1 pc = .ok (.istore_n 3, 1)) (hn : 3 < I.2.2.1) (kk : q_W G X I w cn (pc + 1) (a0 :: a1 :: a2 :: some (.inl x) :: r) (st) S) : q_W G X I w cn (pc) (a0 :: a1 :: a2 :: a3 :: r) (.inl x :: st) S := q_istore_n0 (k := 3) F hd hn kk
theorem q_astore_n_3 {G : q_g} {X : q_cx} {I : q_in} {w : q_wd} {cn : Nat × Nat} {pc : Nat} {st : List q_v} {S : q_st} {a0 a1 a2 a3 : Option q_v} {r : List (Option q_v)} (F : q_fx G X I) {x : q_ix} (hd : decode I.1 pc = .ok (.astore_n 3, 1)) (hn : 3 < I.2.2.1) (kk : q_W G X I w cn (pc + 1) (a0 :: a1 :: a2 :: some (.inr (some x)) :: r) (st) S) : q_W G X I w cn (pc) (a0 :: a1 :: a2 :: a3 :: r) (.inr (some x) :: st) S := q_astore_n0 (k := 3) F hd hn kk
theorem q_iinc_3 {G : q_g} {X : q_cx} {I : q_in} {w : q_wd} {cn : Nat × Nat} {pc : Nat} {st : List q_v} {S : q_st} {a0 a1 a2 : Option q_v} {r : List (Option q_v)} (F : q_fx G X I) {n : Int} {x : Int32} (v : Int32) (hd : decode I.1 pc = .ok (.iinc 3 n, 3)) (hv : x + Int32.ofInt n = v) (hn : 3 < I.2.2.1) (kk : q_W G X I w cn (pc + 3) (a0 :: a1 :: a2 :: some (.inl v) :: r) (st) S) : q_W G X I w cn (pc) (a0 :: a1 :: a2 :: some (.inl x) :: r) (st) S := q_iinc0 (i := 3) F hd rfl v hv hn kk
theorem q_drop_3 {G : q_g} {X : q_cx} {I : q_in} {w : q_wd} {cn : Nat × Nat} {pc : Nat} {st : List q_v} {S : q_st} {a0 a1 a2 a3 : Option q_v} {r : List (Option q_v)} (kk : q_W G X I w cn (pc) (a0 :: a1 :: a2 :: none :: r) (st) S) : q_W G X I w cn (pc) (a0 :: a1 :: a2 :: a3 :: r) (st) S := q_forget (fun i v h => by
  by_cases hi : i = 3
  · subst hi; cases h
  · have h2 : ((a0 :: a1 :: a2 :: a3 :: r).set 3 none)[i]? = some (some v) := h
    rw [List.getElem?_set_ne (Ne.symm hi)] at h2
    exact h2) kk
theorem q_istore_4 {G : q_g} {X : q_cx} {I : q_in} {w : q_wd} {cn : Nat × Nat} {pc : Nat} {st : List q_v} {S : q_st} {a0 a1 a2 a3 a4 : Option q_v} {r : List (Option q_v)} (F : q_fx G X I) {x : Int32} (hd : decode I.1 pc = .ok (.istore 4, 2)) (hn : 4 < I.2.2.1) (kk : q_W G X I w cn (pc + 2) (a0 :: a1 :: a2 :: a3 :: some (.inl x) :: r) (st) S) : q_W G X I w cn (pc) (a0 :: a1 :: a2 :: a3 :: a4 :: r) (.inl x :: st) S := q_istore0 (i := 4) F hd hn kk
theorem q_astore_4 {G : q_g} {X : q_cx} {I : q_in} {w : q_wd} {cn : Nat × Nat} {pc : Nat} {st : List q_v} {S : q_st} {a0 a1 a2 a3 a4 : Option q_v} {r : List (Option q_v)} (F : q_fx G X I) {x : q_ix} (hd : decode I.1 pc = .ok (.astore 4, 2)) (hn : 4 < I.2.2.1) (kk : q_W G X I w cn (pc + 2) (a0 :: a1 :: a2 :: a3 :: some (.inr (some x)) :: r) (st) S) : q_W G X I w cn (pc) (a0 :: a1 :: a2 :: a3 :: a4 :: r) (.inr (some x) :: st) S := q_astore0 (i := 4) F hd hn kk
theorem q_iinc_4 {G : q_g} {X : q_cx} {I : q_in} {w : q_wd} {cn : Nat × Nat} {pc : Nat} {st : List q_v} {S : q_st} {a0 a1 a2 a3 : Option q_v} {r : List (Option q_v)} (F : q_fx G X I) {n : Int} {x : Int32} (v : Int32) (hd : decode I.1 pc = .ok (.iinc 4 n, 3)) (hv : x + Int32.ofInt n = v) (hn : 4 < I.2.2.1) (kk : q_W G X I w cn (pc + 3) (a0 :: a1 :: a2 :: a3 :: some (.inl v) :: r) (st) S) : q_W G X I w cn (pc) (a0 :: a1 :: a2 :: a3 :: some (.inl x) :: r) (st) S := q_iinc0 (i := 4) F hd rfl v hv hn kk
theorem q_drop_4 {G : q_g} {X : q_cx} {I : q_in} {w : q_wd} {cn : Nat × Nat} {pc : Nat} {st : List q_v} {S : q_st} {a0 a1 a2 a3 a4 : Option q_v} {r : List (Option q_v)} (kk : q_W G X I w cn (pc) (a0 :: a1 :: a2 :: a3 :: none :: r) (st) S) : q_W G X I w cn (pc) (a0 :: a1 :: a2 :: a3 :: a4 :: r) (st) S := q_forget (fun i v h => by
  by_cases hi : i = 4
  · subst hi; cases h
  · have h2 : ((a0 :: a1 :: a2 :: a3 :: a4 :: r).set 4 none)[i]? = some (some v) := h
    rw [List.getElem?_set_ne (Ne.symm hi)] at h2
    exact h2) kk
theorem q_istore_5 {G : q_g} {X : q_cx} {I : q_in} {w : q_wd} {cn : Nat × Nat} {pc : Nat} {st : List q_v} {S : q_st} {a0 a1 a2 a3 a4 a5 : Option q_v} {r : List (Option q_v)} (F : q_fx G X I) {x : Int32} (hd : decode I.1 pc = .ok (.istore 5, 2)) (hn : 5 < I.2.2.1) (kk : q_W G X I w cn (pc + 2) (a0 :: a1 :: a2 :: a3 :: a4 :: some (.inl x) :: r) (st) S) : q_W G X I w cn (pc) (a0 :: a1 :: a2 :: a3 :: a4 :: a5 :: r) (.inl x :: st) S := q_istore0 (i := 5) F hd hn kk
theorem q_astore_5 {G : q_g} {X : q_cx} {I : q_in} {w : q_wd} {cn : Nat × Nat} {pc : Nat} {st : List q_v} {S : q_st} {a0 a1 a2 a3 a4 a5 : Option q_v} {r : List (Option q_v)} (F : q_fx G X I) {x : q_ix} (hd : decode I.1 pc = .ok (.astore 5, 2)) (hn : 5 < I.2.2.1) (kk : q_W G X I w cn (pc + 2) (a0 :: a1 :: a2 :: a3 :: a4 :: some (.inr (some x)) :: r) (st) S) : q_W G X I w cn (pc) (a0 :: a1 :: a2 :: a3 :: a4 :: a5 :: r) (.inr (some x) :: st) S := q_astore0 (i := 5) F hd hn kk
theorem q_iinc_5 {G : q_g} {X : q_cx} {I : q_in} {w : q_wd} {cn : Nat × Nat} {pc : Nat} {st : List q_v} {S : q_st} {a0 a1 a2 a3 a4 : Option q_v} {r : List (Option q_v)} (F : q_fx G X I) {n : Int} {x : Int32} (v : Int32) (hd : decode I.1 pc = .ok (.iinc 5 n, 3)) (hv : x + Int32.ofInt n = v) (hn : 5 < I.2.2.1) (kk : q_W G X I w cn (pc + 3) (a0 :: a1 :: a2 :: a3 :: a4 :: some (.inl v) :: r) (st) S) : q_W G X I w cn (pc) (a0 :: a1 :: a2 :: a3 :: a4 :: some (.inl x) :: r) (st) S := q_iinc0 (i := 5) F hd rfl v hv hn kk
theorem q_drop_5 {G : q_g} {X : q_cx} {I : q_in} {w : q_wd} {cn : Nat × Nat} {pc : Nat} {st : List q_v} {S : q_st} {a0 a1 a2 a3 a4 a5 : Option q_v} {r : List (Option q_v)} (kk : q_W G X I w cn (pc) (a0 :: a1 :: a2 :: a3 :: a4 :: none :: r) (st) S) : q_W G X I w cn (pc) (a0 :: a1 :: a2 :: a3 :: a4 :: a5 :: r) (st) S := q_forget (fun i v h => by
  by_cases hi : i = 5
  · subst hi; cases h
  · have h2 : ((a0 :: a1 :: a2 :: a3 :: a4 :: a5 :: r).set 5 none)[i]? = some (some v) := h
    rw [List.getElem?_set_ne (Ne.symm hi)] at h2
    exact h2) kk
theorem q_istore_6 {G : q_g} {X : q_cx} {I : q_in} {w : q_wd} {cn : Nat × Nat} {pc : Nat} {st : List q_v} {S : q_st} {a0 a1 a2 a3 a4 a5 a6 : Option q_v} {r : List (Option q_v)} (F : q_fx G X I) {x : Int32} (hd : decode I.1 pc = .ok (.istore 6, 2)) (hn : 6 < I.2.2.1) (kk : q_W G X I w cn (pc + 2) (a0 :: a1 :: a2 :: a3 :: a4 :: a5 :: some (.inl x) :: r) (st) S) : q_W G X I w cn (pc) (a0 :: a1 :: a2 :: a3 :: a4 :: a5 :: a6 :: r) (.inl x :: st) S := q_istore0 (i := 6) F hd hn kk
theorem q_astore_6 {G : q_g} {X : q_cx} {I : q_in} {w : q_wd} {cn : Nat × Nat} {pc : Nat} {st : List q_v} {S : q_st} {a0 a1 a2 a3 a4 a5 a6 : Option q_v} {r : List (Option q_v)} (F : q_fx G X I) {x : q_ix} (hd : decode I.1 pc = .ok (.astore 6, 2)) (hn : 6 < I.2.2.1) (kk : q_W G X I w cn (pc + 2) (a0 :: a1 :: a2 :: a3 :: a4 :: a5 :: some (.inr (some x)) :: r) (st) S) : q_W G X I w cn (pc) (a0 :: a1 :: a2 :: a3 :: a4 :: a5 :: a6 :: r) (.inr (some x) :: st) S := q_astore0 (i := 6) F hd hn kk
theorem q_iinc_6 {G : q_g} {X : q_cx} {I : q_in} {w : q_wd} {cn : Nat × Nat} {pc : Nat} {st : List q_v} {S : q_st} {a0 a1 a2 a3 a4 a5 : Option q_v} {r : List (Option q_v)} (F : q_fx G X I) {n : Int} {x : Int32} (v : Int32) (hd : decode I.1 pc = .ok (.iinc 6 n, 3)) (hv : x + Int32.ofInt n = v) (hn : 6 < I.2.2.1) (kk : q_W G X I w cn (pc + 3) (a0 :: a1 :: a2 :: a3 :: a4 :: a5 :: some (.inl v) :: r) (st) S) : q_W G X I w cn (pc) (a0 :: a1 :: a2 :: a3 :: a4 :: a5 :: some (.inl x) :: r) (st) S := q_iinc0 (i := 6) F hd rfl v hv hn kk
theorem q_drop_6 {G : q_g} {X : q_cx} {I : q_in} {w : q_wd} {cn : Nat × Nat} {pc : Nat} {st : List q_v} {S : q_st} {a0 a1 a2 a3 a4 a5 a6 : Option q_v} {r : List (Option q_v)} (kk : q_W G X I w cn (pc) (a0 :: a1 :: a2 :: a3 :: a4 :: a5 :: none :: r) (st) S) : q_W G X I w cn (pc) (a0 :: a1 :: a2 :: a3 :: a4 :: a5 :: a6 :: r) (st) S := q_forget (fun i v h => by
  by_cases hi : i = 6
  · subst hi; cases h
  · have h2 : ((a0 :: a1 :: a2 :: a3 :: a4 :: a5 :: a6 :: r).set 6 none)[i]? = some (some v) := h
    rw [List.getElem?_set_ne (Ne.symm hi)] at h2
    exact h2) kk
theorem q_istore_7 {G : q_g} {X : q_cx} {I : q_in} {w : q_wd} {cn : Nat × Nat} {pc : Nat} {st : List q_v} {S : q_st} {a0 a1 a2 a3 a4 a5 a6 a7 : Option q_v} {r : List (Option q_v)} (F : q_fx G X I) {x : Int32} (hd : decode I.1 pc = .ok (.istore 7, 2)) (hn : 7 < I.2.2.1) (kk : q_W G X I w cn (pc + 2) (a0 :: a1 :: a2 :: a3 :: a4 :: a5 :: a6 :: some (.inl x) :: r) (st) S) : q_W G X I w cn (pc) (a0 :: a1 :: a2 :: a3 :: a4 :: a5 :: a6 :: a7 :: r) (.inl x :: st) S := q_istore0 (i := 7) F hd hn kk
theorem q_astore_7 {G : q_g} {X : q_cx} {I : q_in} {w : q_wd} {cn : Nat × Nat} {pc : Nat} {st : List q_v} {S : q_st} {a0 a1 a2 a3 a4 a5 a6 a7 : Option q_v} {r : List (Option q_v)} (F : q_fx G X I) {x : q_ix} (hd : decode I.1 pc = .ok (.astore 7, 2)) (hn : 7 < I.2.2.1) (kk : q_W G X I w cn (pc + 2) (a0 :: a1 :: a2 :: a3 :: a4 :: a5 :: a6 :: some (.inr (some x)) :: r) (st) S) : q_W G X I w cn (pc) (a0 :: a1 :: a2 :: a3 :: a4 :: a5 :: a6 :: a7 :: r) (.inr (some x) :: st) S := q_astore0 (i := 7) F hd hn kk
theorem q_iinc_7 {G : q_g} {X : q_cx} {I : q_in} {w : q_wd} {cn : Nat × Nat} {pc : Nat} {st : List q_v} {S : q_st} {a0 a1 a2 a3 a4 a5 a6 : Option q_v} {r : List (Option q_v)} (F : q_fx G X I) {n : Int} {x : Int32} (v : Int32) (hd : decode I.1 pc = .ok (.iinc 7 n, 3)) (hv : x + Int32.ofInt n = v) (hn : 7 < I.2.2.1) (kk : q_W G X I w cn (pc + 3) (a0 :: a1 :: a2 :: a3 :: a4 :: a5 :: a6 :: some (.inl v) :: r) (st) S) : q_W G X I w cn (pc) (a0 :: a1 :: a2 :: a3 :: a4 :: a5 :: a6 :: some (.inl x) :: r) (st) S := q_iinc0 (i := 7) F hd rfl v hv hn kk
theorem q_drop_7 {G : q_g} {X : q_cx} {I : q_in} {w : q_wd} {cn : Nat × Nat} {pc : Nat} {st : List q_v} {S : q_st} {a0 a1 a2 a3 a4 a5 a6 a7 : Option q_v} {r : List (Option q_v)} (kk : q_W G X I w cn (pc) (a0 :: a1 :: a2 :: a3 :: a4 :: a5 :: a6 :: none :: r) (st) S) : q_W G X I w cn (pc) (a0 :: a1 :: a2 :: a3 :: a4 :: a5 :: a6 :: a7 :: r) (st) S := q_forget (fun i v h => by
  by_cases hi : i = 7
  · subst hi; cases h
  · have h2 : ((a0 :: a1 :: a2 :: a3 :: a4 :: a5 :: a6 :: a7 :: r).set 7 none)[i]? = some (some v) := h
    rw [List.getElem?_set_ne (Ne.symm hi)] at h2
    exact h2) kk
theorem q_istore_8 {G : q_g} {X : q_cx} {I : q_in} {w : q_wd} {cn : Nat × Nat} {pc : Nat} {st : List q_v} {S : q_st} {a0 a1 a2 a3 a4 a5 a6 a7 a8 : Option q_v} {r : List (Option q_v)} (F : q_fx G X I) {x : Int32} (hd : decode I.1 pc = .ok (.istore 8, 2)) (hn : 8 < I.2.2.1) (kk : q_W G X I w cn (pc + 2) (a0 :: a1 :: a2 :: a3 :: a4 :: a5 :: a6 :: a7 :: some (.inl x) :: r) (st) S) : q_W G X I w cn (pc) (a0 :: a1 :: a2 :: a3 :: a4 :: a5 :: a6 :: a7 :: a8 :: r) (.inl x :: st) S := q_istore0 (i := 8) F hd hn kk
theorem q_astore_8 {G : q_g} {X : q_cx} {I : q_in} {w : q_wd} {cn : Nat × Nat} {pc : Nat} {st : List q_v} {S : q_st} {a0 a1 a2 a3 a4 a5 a6 a7 a8 : Option q_v} {r : List (Option q_v)} (F : q_fx G X I) {x : q_ix} (hd : decode I.1 pc = .ok (.astore 8, 2)) (hn : 8 < I.2.2.1) (kk : q_W G X I w cn (pc + 2) (a0 :: a1 :: a2 :: a3 :: a4 :: a5 :: a6 :: a7 :: some (.inr (some x)) :: r) (st) S) : q_W G X I w cn (pc) (a0 :: a1 :: a2 :: a3 :: a4 :: a5 :: a6 :: a7 :: a8 :: r) (.inr (some x) :: st) S := q_astore0 (i := 8) F hd hn kk
theorem q_iinc_8 {G : q_g} {X : q_cx} {I : q_in} {w : q_wd} {cn : Nat × Nat} {pc : Nat} {st : List q_v} {S : q_st} {a0 a1 a2 a3 a4 a5 a6 a7 : Option q_v} {r : List (Option q_v)} (F : q_fx G X I) {n : Int} {x : Int32} (v : Int32) (hd : decode I.1 pc = .ok (.iinc 8 n, 3)) (hv : x + Int32.ofInt n = v) (hn : 8 < I.2.2.1) (kk : q_W G X I w cn (pc + 3) (a0 :: a1 :: a2 :: a3 :: a4 :: a5 :: a6 :: a7 :: some (.inl v) :: r) (st) S) : q_W G X I w cn (pc) (a0 :: a1 :: a2 :: a3 :: a4 :: a5 :: a6 :: a7 :: some (.inl x) :: r) (st) S := q_iinc0 (i := 8) F hd rfl v hv hn kk
theorem q_drop_8 {G : q_g} {X : q_cx} {I : q_in} {w : q_wd} {cn : Nat × Nat} {pc : Nat} {st : List q_v} {S : q_st} {a0 a1 a2 a3 a4 a5 a6 a7 a8 : Option q_v} {r : List (Option q_v)} (kk : q_W G X I w cn (pc) (a0 :: a1 :: a2 :: a3 :: a4 :: a5 :: a6 :: a7 :: none :: r) (st) S) : q_W G X I w cn (pc) (a0 :: a1 :: a2 :: a3 :: a4 :: a5 :: a6 :: a7 :: a8 :: r) (st) S := q_forget (fun i v h => by
  by_cases hi : i = 8
  · subst hi; cases h
  · have h2 : ((a0 :: a1 :: a2 :: a3 :: a4 :: a5 :: a6 :: a7 :: a8 :: r).set 8 none)[i]? = some (some v) := h
    rw [List.getElem?_set_ne (Ne.symm hi)] at h2
    exact h2) kk
theorem q_istore_9 {G : q_g} {X : q_cx} {I : q_in} {w : q_wd} {cn : Nat × Nat} {pc : Nat} {st : List q_v} {S : q_st} {a0 a1 a2 a3 a4 a5 a6 a7 a8 a9 : Option q_v} {r : List (Option q_v)} (F : q_fx G X I) {x : Int32} (hd : decode I.1 pc = .ok (.istore 9, 2)) (hn : 9 < I.2.2.1) (kk : q_W G X I w cn (pc + 2) (a0 :: a1 :: a2 :: a3 :: a4 :: a5 :: a6 :: a7 :: a8 :: some (.inl x) :: r) (st) S) : q_W G X I w cn (pc) (a0 :: a1 :: a2 :: a3 :: a4 :: a5 :: a6 :: a7 :: a8 :: a9 :: r) (.inl x :: st) S := q_istore0 (i := 9) F hd hn kk
theorem q_astore_9 {G : q_g} {X : q_cx} {I : q_in} {w : q_wd} {cn : Nat × Nat} {pc : Nat} {st : List q_v} {S : q_st} {a0 a1 a2 a3 a4 a5 a6 a7 a8 a9 : Option q_v} {r : List (Option q_v)} (F : q_fx G X I) {x : q_ix} (hd : decode I.1 pc = .ok (.astore 9, 2)) (hn : 9 < I.2.2.1) (kk : q_W G X I w cn (pc + 2) (a0 :: a1 :: a2 :: a3 :: a4 :: a5 :: a6 :: a7 :: a8 :: some (.inr (some x)) :: r) (st) S) : q_W G X I w cn (pc) (a0 :: a1 :: a2 :: a3 :: a4 :: a5 :: a6 :: a7 :: a8 :: a9 :: r) (.inr (some x) :: st) S := q_astore0 (i := 9) F hd hn kk
theorem q_iinc_9 {G : q_g} {X : q_cx} {I : q_in} {w : q_wd} {cn : Nat × Nat} {pc : Nat} {st : List q_v} {S : q_st} {a0 a1 a2 a3 a4 a5 a6 a7 a8 : Option q_v} {r : List (Option q_v)} (F : q_fx G X I) {n : Int} {x : Int32} (v : Int32) (hd : decode I.1 pc = .ok (.iinc 9 n, 3)) (hv : x + Int32.ofInt n = v) (hn : 9 < I.2.2.1) (kk : q_W G X I w cn (pc + 3) (a0 :: a1 :: a2 :: a3 :: a4 :: a5 :: a6 :: a7 :: a8 :: some (.inl v) :: r) (st) S) : q_W G X I w cn (pc) (a0 :: a1 :: a2 :: a3 :: a4 :: a5 :: a6 :: a7 :: a8 :: some (.inl x) :: r) (st) S := q_iinc0 (i := 9) F hd rfl v hv hn kk
theorem q_drop_9 {G : q_g} {X : q_cx} {I : q_in} {w : q_wd} {cn : Nat × Nat} {pc : Nat} {st : List q_v} {S : q_st} {a0 a1 a2 a3 a4 a5 a6 a7 a8 a9 : Option q_v} {r : List (Option q_v)} (kk : q_W G X I w cn (pc) (a0 :: a1 :: a2 :: a3 :: a4 :: a5 :: a6 :: a7 :: a8 :: none :: r) (st) S) : q_W G X I w cn (pc) (a0 :: a1 :: a2 :: a3 :: a4 :: a5 :: a6 :: a7 :: a8 :: a9 :: r) (st) S := q_forget (fun i v h => by
  by_cases hi : i = 9
  · subst hi; cases h
  · have h2 : ((a0 :: a1 :: a2 :: a3 :: a4 :: a5 :: a6 :: a7 :: a8 :: a9 :: r).set 9 none)[i]? = some (some v) := h
    rw [List.getElem?_set_ne (Ne.symm hi)] at h2
    exact h2) kk
theorem q_istore_10 {G : q_g} {X : q_cx} {I : q_in} {w : q_wd} {cn : Nat × Nat} {pc : Nat} {st : List q_v} {S : q_st} {a0 a1 a2 a3 a4 a5 a6 a7 a8 a9 a10 : Option q_v} {r : List (Option q_v)} (F : q_fx G X I) {x : Int32} (hd : decode I.1 pc = .ok (.istore 10, 2)) (hn : 10 < I.2.2.1) (kk : q_W G X I w cn (pc + 2) (a0 :: a1 :: a2 :: a3 :: a4 :: a5 :: a6 :: a7 :: a8 :: a9 :: some (.inl x) :: r) (st) S) : q_W G X I w cn (pc) (a0 :: a1 :: a2 :: a3 :: a4 :: a5 :: a6 :: a7 :: a8 :: a9 :: a10 :: r) (.inl x :: st) S := q_istore0 (i := 10) F hd hn kk
theorem q_astore_10 {G : q_g} {X : q_cx} {I : q_in} {w : q_wd} {cn : Nat × Nat} {pc : Nat} {st : List q_v} {S : q_st} {a0 a1 a2 a3 a4 a5 a6 a7 a8 a9 a10 : Option q_v} {r : List (Option q_v)} (F : q_fx G X I) {x : q_ix} (hd : decode I.1 pc = .ok (.astore 10, 2)) (hn : 10 < I.2.2.1) (kk : q_W G X I w cn (pc + 2) (a0 :: a1 :: a2 :: a3 :: a4 :: a5 :: a6 :: a7 :: a8 :: a9 :: some (.inr (some x)) :: r) (st) S) : q_W G X I w cn (pc) (a0 :: a1 :: a2 :: a3 :: a4 :: a5 :: a6 :: a7 :: a8 :: a9 :: a10 :: r) (.inr (some x) :: st) S := q_astore0 (i := 10) F hd hn kk
theorem q_iinc_10 {G : q_g} {X : q_cx} {I : q_in} {w : q_wd} {cn : Nat × Nat} {pc : Nat} {st : List q_v} {S : q_st} {a0 a1 a2 a3 a4 a5 a6 a7 a8 a9 : Option q_v} {r : List (Option q_v)} (F : q_fx G X I) {n : Int} {x : Int32} (v : Int32) (hd : decode I.1 pc = .ok (.iinc 10 n, 3)) (hv : x + Int32.ofInt n = v) (hn : 10 < I.2.2.1) (kk : q_W G X I w cn (pc + 3) (a0 :: a1 :: a2 :: a3 :: a4 :: a5 :: a6 :: a7 :: a8 :: a9 :: some (.inl v) :: r) (st) S) : q_W G X I w cn (pc) (a0 :: a1 :: a2 :: a3 :: a4 :: a5 :: a6 :: a7 :: a8 :: a9 :: some (.inl x) :: r) (st) S := q_iinc0 (i := 10) F hd rfl v hv hn kk
theorem q_drop_10 {G : q_g} {X : q_cx} {I : q_in} {w : q_wd} {cn : Nat × Nat} {pc : Nat} {st : List q_v} {S : q_st} {a0 a1 a2 a3 a4 a5 a6 a7 a8 a9 a10 : Option q_v} {r : List (Option q_v)} (kk : q_W G X I w cn (pc) (a0 :: a1 :: a2 :: a3 :: a4 :: a5 :: a6 :: a7 :: a8 :: a9 :: none :: r) (st) S) : q_W G X I w cn (pc) (a0 :: a1 :: a2 :: a3 :: a4 :: a5 :: a6 :: a7 :: a8 :: a9 :: a10 :: r) (st) S := q_forget (fun i v h => by
  by_cases hi : i = 10
  · subst hi; cases h
  · have h2 : ((a0 :: a1 :: a2 :: a3 :: a4 :: a5 :: a6 :: a7 :: a8 :: a9 :: a10 :: r).set 10 none)[i]? = some (some v) := h
    rw [List.getElem?_set_ne (Ne.symm hi)] at h2
    exact h2) kk
theorem q_istore_11 {G : q_g} {X : q_cx} {I : q_in} {w : q_wd} {cn : Nat × Nat} {pc : Nat} {st : List q_v} {S : q_st} {a0 a1 a2 a3 a4 a5 a6 a7 a8 a9 a10 a11 : Option q_v} {r : List (Option q_v)} (F : q_fx G X I) {x : Int32} (hd : decode I.1 pc = .ok (.istore 11, 2)) (hn : 11 < I.2.2.1) (kk : q_W G X I w cn (pc + 2) (a0 :: a1 :: a2 :: a3 :: a4 :: a5 :: a6 :: a7 :: a8 :: a9 :: a10 :: some (.inl x) :: r) (st) S) : q_W G X I w cn (pc) (a0 :: a1 :: a2 :: a3 :: a4 :: a5 :: a6 :: a7 :: a8 :: a9 :: a10 :: a11 :: r) (.inl x :: st) S := q_istore0 (i := 11) F hd hn kk
theorem q_astore_11 {G : q_g} {X : q_cx} {I : q_in} {w : q_wd} {cn : Nat × Nat} {pc : Nat} {st : List q_v} {S : q_st} {a0 a1 a2 a3 a4 a5 a6 a7 a8 a9 a10 a11 : Option q_v} {r : List (Option q_v)} (F : q_fx G X I) {x : q_ix} (hd : decode I.1 pc = .ok (.astore 11, 2)) (hn : 11 < I.2.2.1) (kk : q_W G X I w cn (pc + 2) (a0 :: a1 :: a2 :: a3 :: a4 :: a5 :: a6 :: a7 :: a8 :: a9 :: a10 :: some (.inr (some x)) :: r) (st) S) : q_W G X I w cn (pc) (a0 :: a1 :: a2 :: a3 :: a4 :: a5 :: a6 :: a7 :: a8 :: a9 :: a10 :: a11 :: r) (.inr (some x) :: st) S := q_astore0 (i := 11) F hd hn kk
theorem q_iinc_11 {G : q_g} {X : q_cx} {I : q_in} {w : q_wd} {cn : Nat × Nat} {pc : Nat} {st : List q_v} {S : q_st} {a0 a1 a2 a3 a4 a5 a6 a7 a8 a9 a10 : Option q_v} {r : List (Option q_v)} (F : q_fx G X I) {n : Int} {x : Int32} (v : Int32) (hd : decode I.1 pc = .ok (.iinc 11 n, 3)) (hv : x + Int32.ofInt n = v) (hn : 11 < I.2.2.1) (kk : q_W G X I w cn (pc + 3) (a0 :: a1 :: a2 :: a3 :: a4 :: a5 :: a6 :: a7 :: a8 :: a9 :: a10 :: some (.inl v) :: r) (st) S) : q_W G X I w cn (pc) (a0 :: a1 :: a2 :: a3 :: a4 :: a5 :: a6 :: a7 :: a8 :: a9 :: a10 :: some (.inl x) :: r) (st) S := q_iinc0 (i := 11) F hd rfl v hv hn kk
theorem q_drop_11 {G : q_g} {X : q_cx} {I : q_in} {w : q_wd} {cn : Nat × Nat} {pc : Nat} {st : List q_v} {S : q_st} {a0 a1 a2 a3 a4 a5 a6 a7 a8 a9 a10 a11 : Option q_v} {r : List (Option q_v)} (kk : q_W G X I w cn (pc) (a0 :: a1 :: a2 :: a3 :: a4 :: a5 :: a6 :: a7 :: a8 :: a9 :: a10 :: none :: r) (st) S) : q_W G X I w cn (pc) (a0 :: a1 :: a2 :: a3 :: a4 :: a5 :: a6 :: a7 :: a8 :: a9 :: a10 :: a11 :: r) (st) S := q_forget (fun i v h => by
  by_cases hi : i = 11
  · subst hi; cases h
  · have h2 : ((a0 :: a1 :: a2 :: a3 :: a4 :: a5 :: a6 :: a7 :: a8 :: a9 :: a10 :: a11 :: r).set 11 none)[i]? = some (some v) := h
    rw [List.getElem?_set_ne (Ne.symm hi)] at h2
    exact h2) kk
theorem q_iadd {G : q_g} {X : q_cx} {I : q_in} {w : q_wd} {cn : Nat × Nat} {pc : Nat} {ls : List (Option q_v)} {st : List q_v} {S : q_st} (F : q_fx G X I) {x y : Int32} (hd : decode I.1 pc = .ok (.iadd, 1)) (kk : q_W G X I w cn (pc + 1) ls (.inl (x + y) :: st) S) : q_W G X I w cn (pc) ls (.inl y :: .inl x :: st) S := by
  obtain ⟨p, l, e, s, m, args, below, meth, c, A, Qf⟩ := X
  obtain ⟨hx, hb, hml, hts, hown, hnm, hr, hlk, hK, hA⟩ := F
  intro H locs la hP hD hS hl
  exact lv_iadd hx hb hd (kk H locs la hP hD hS hl)
theorem q_isub {G : q_g} {X : q_cx} {I : q_in} {w : q_wd} {cn : Nat × Nat} {pc : Nat} {ls : List (Option q_v)} {st : List q_v} {S : q_st} (F : q_fx G X I) {x y : Int32} (hd : decode I.1 pc = .ok (.isub, 1)) (kk : q_W G X I w cn (pc + 1) ls (.inl (x - y) :: st) S) : q_W G X I w cn (pc) ls (.inl y :: .inl x :: st) S := by
  obtain ⟨p, l, e, s, m, args, below, meth, c, A, Qf⟩ := X
  obtain ⟨hx, hb, hml, hts, hown, hnm, hr, hlk, hK, hA⟩ := F
  intro H locs la hP hD hS hl
  exact lv_isub hx hb hd (kk H locs la hP hD hS hl)
theorem q_imul {G : q_g} {X : q_cx} {I : q_in} {w : q_wd} {cn : Nat × Nat} {pc : Nat} {ls : List (Option q_v)} {st : List q_v} {S : q_st} (F : q_fx G X I) {x y : Int32} (hd : decode I.1 pc = .ok (.imul, 1)) (kk : q_W G X I w cn (pc + 1) ls (.inl (x * y) :: st) S) : q_W G X I w cn (pc) ls (.inl y :: .inl x :: st) S := by
  obtain ⟨p, l, e, s, m, args, below, meth, c, A, Qf⟩ := X
  obtain ⟨hx, hb, hml, hts, hown, hnm, hr, hlk, hK, hA⟩ := F
  intro H locs la hP hD hS hl
  exact lv_imul hx hb hd (kk H locs la hP hD hS hl)
theorem q_iand {G : q_g} {X : q_cx} {I : q_in} {w : q_wd} {cn : Nat × Nat} {pc : Nat} {ls : List (Option q_v)} {st : List q_v} {S : q_st} (F : q_fx G X I) {x y : Int32} (hd : decode I.1 pc = .ok (.iand, 1)) (kk : q_W G X I w cn (pc + 1) ls (.inl (x &&& y) :: st) S) : q_W G X I w cn (pc) ls (.inl y :: .inl x :: st) S := by
  obtain ⟨p, l, e, s, m, args, below, meth, c, A, Qf⟩ := X
  obtain ⟨hx, hb, hml, hts, hown, hnm, hr, hlk, hK, hA⟩ := F
  intro H locs la hP hD hS hl
  exact lv_iand hx hb hd (kk H locs la hP hD hS hl)
theorem q_ishr {G : q_g} {X : q_cx} {I : q_in} {w : q_wd} {cn : Nat × Nat} {pc : Nat} {ls : List (Option q_v)} {st : List q_v} {S : q_st} (F : q_fx G X I) {x y : Int32} (hd : decode I.1 pc = .ok (.ishr, 1)) (kk : q_W G X I w cn (pc + 1) ls (.inl (x >>> (y &&& 31)) :: st) S) : q_W G X I w cn (pc) ls (.inl y :: .inl x :: st) S := by
  obtain ⟨p, l, e, s, m, args, below, meth, c, A, Qf⟩ := X
  obtain ⟨hx, hb, hml, hts, hown, hnm, hr, hlk, hK, hA⟩ := F
  intro H locs la hP hD hS hl
  exact lv_ishr hx hb hd (kk H locs la hP hD hS hl)
theorem q_ior {G : q_g} {X : q_cx} {I : q_in} {w : q_wd} {cn : Nat × Nat} {pc : Nat} {ls : List (Option q_v)} {st : List q_v} {S : q_st} (F : q_fx G X I) {x y : Int32} (hd : decode I.1 pc = .ok (.ior, 1)) (kk : q_W G X I w cn (pc + 1) ls (.inl (x ||| y) :: st) S) : q_W G X I w cn (pc) ls (.inl y :: .inl x :: st) S := by
  obtain ⟨p, l, e, s, m, args, below, meth, c, A, Qf⟩ := X
  obtain ⟨hx, hb, hml, hts, hown, hnm, hr, hlk, hK, hA⟩ := F
  intro H locs la hP hD hS hl
  exact lv_ior hx hb hd (kk H locs la hP hD hS hl)
theorem q_ixor {G : q_g} {X : q_cx} {I : q_in} {w : q_wd} {cn : Nat × Nat} {pc : Nat} {ls : List (Option q_v)} {st : List q_v} {S : q_st} (F : q_fx G X I) {x y : Int32} (hd : decode I.1 pc = .ok (.ixor, 1)) (kk : q_W G X I w cn (pc + 1) ls (.inl (x ^^^ y) :: st) S) : q_W G X I w cn (pc) ls (.inl y :: .inl x :: st) S := by
  obtain ⟨p, l, e, s, m, args, below, meth, c, A, Qf⟩ := X
  obtain ⟨hx, hb, hml, hts, hown, hnm, hr, hlk, hK, hA⟩ := F
  intro H locs la hP hD hS hl
  exact lv_ixor hx hb hd (kk H locs la hP hD hS hl)
theorem q_idiv {G : q_g} {X : q_cx} {I : q_in} {w : q_wd} {cn : Nat × Nat} {pc : Nat} {ls : List (Option q_v)} {st : List q_v} {S : q_st} (F : q_fx G X I) {x y : Int32} (hd : decode I.1 pc = .ok (.idiv, 1)) (hne : ¬ y = 0) (kk : q_W G X I w cn (pc + 1) ls (.inl (x / y) :: st) S) : q_W G X I w cn (pc) ls (.inl y :: .inl x :: st) S := by
  obtain ⟨p, l, e, s, m, args, below, meth, c, A, Qf⟩ := X
  obtain ⟨hx, hb, hml, hts, hown, hnm, hr, hlk, hK, hA⟩ := F
  intro H locs la hP hD hS hl
  exact lv_idiv hx hb hd hne (kk H locs la hP hD hS hl)
theorem q_irem {G : q_g} {X : q_cx} {I : q_in} {w : q_wd} {cn : Nat × Nat} {pc : Nat} {ls : List (Option q_v)} {st : List q_v} {S : q_st} (F : q_fx G X I) {x y : Int32} (hd : decode I.1 pc = .ok (.irem, 1)) (hne : ¬ y = 0) (kk : q_W G X I w cn (pc + 1) ls (.inl (x - x / y * y) :: st) S) : q_W G X I w cn (pc) ls (.inl y :: .inl x :: st) S := by
  obtain ⟨p, l, e, s, m, args, below, meth, c, A, Qf⟩ := X
  obtain ⟨hx, hb, hml, hts, hown, hnm, hr, hlk, hK, hA⟩ := F
  intro H locs la hP hD hS hl
  exact lv_irem hx hb hd hne (kk H locs la hP hD hS hl)
theorem q_dup {G : q_g} {X : q_cx} {I : q_in} {w : q_wd} {cn : Nat × Nat} {pc : Nat} {ls : List (Option q_v)} {st : List q_v} {S : q_st} (F : q_fx G X I) {x : q_v} (hd : decode I.1 pc = .ok (.dup, 1)) (kk : q_W G X I w cn (pc + 1) ls (x :: x :: st) S) : q_W G X I w cn (pc) ls (x :: st) S := by
  obtain ⟨p, l, e, s, m, args, below, meth, c, A, Qf⟩ := X
  obtain ⟨hx, hb, hml, hts, hown, hnm, hr, hlk, hK, hA⟩ := F
  intro H locs la hP hD hS hl
  exact lv_dup hx hb hd (q_val_cat _ _) (kk H locs la hP hD hS hl)
theorem q_pop {G : q_g} {X : q_cx} {I : q_in} {w : q_wd} {cn : Nat × Nat} {pc : Nat} {ls : List (Option q_v)} {st : List q_v} {S : q_st} (F : q_fx G X I) {x : q_v} (hd : decode I.1 pc = .ok (.pop, 1)) (kk : q_W G X I w cn (pc + 1) ls (st) S) : q_W G X I w cn (pc) ls (x :: st) S := by
  obtain ⟨p, l, e, s, m, args, below, meth, c, A, Qf⟩ := X
  obtain ⟨hx, hb, hml, hts, hown, hnm, hr, hlk, hK, hA⟩ := F
  intro H locs la hP hD hS hl
  exact lv_pop hx hb hd (q_val_cat _ _) (kk H locs la hP hD hS hl)
theorem q_dup_x1 {G : q_g} {X : q_cx} {I : q_in} {w : q_wd} {cn : Nat × Nat} {pc : Nat} {ls : List (Option q_v)} {st : List q_v} {S : q_st} (F : q_fx G X I) {x y : q_v} (hd : decode I.1 pc = .ok (.dup_x1, 1)) (kk : q_W G X I w cn (pc + 1) ls (x :: y :: x :: st) S) : q_W G X I w cn (pc) ls (x :: y :: st) S := by
  obtain ⟨p, l, e, s, m, args, below, meth, c, A, Qf⟩ := X
  obtain ⟨hx, hb, hml, hts, hown, hnm, hr, hlk, hK, hA⟩ := F
  intro H locs la hP hD hS hl
  exact lv_dup_x1 hx hb hd (q_val_cat _ _) (q_val_cat _ _) (kk H locs la hP hD hS hl)
theorem q_dup2 {G : q_g} {X : q_cx} {I : q_in} {w : q_wd} {cn : Nat × Nat} {pc : Nat} {ls : List (Option q_v)} {st : List q_v} {S : q_st} (F : q_fx G X I) {x y : q_v} (hd : decode I.1 pc = .ok (.dup2, 1)) (kk : q_W G X I w cn (pc + 1) ls (x :: y :: x :: y :: st) S) : q_W G X I w cn (pc) ls (x :: y :: st) S := by
  obtain ⟨p, l, e, s, m, args, below, meth, c, A, Qf⟩ := X
  obtain ⟨hx, hb, hml, hts, hown, hnm, hr, hlk, hK, hA⟩ := F
  intro H locs la hP hD hS hl
  exact lv_dup2_11 hx hb hd (q_val_cat _ _) (q_val_cat _ _) (kk H locs la hP hD hS hl)
theorem q_if_eq {G : q_g} {X : q_cx} {I : q_in} {w : q_wd} {cn : Nat × Nat} {pc : Nat} {ls : List (Option q_v)} {st : List q_v} {S : q_st} (F : q_fx G X I) {x : Int32} {off : Int} (tgt : Nat) (hd : decode I.1 pc = .ok (.ifCond .eq off, 3)) (ht : (pc : Int) + off = (tgt : Int)) (kt : x = 0 → q_W G X I w cn (tgt) ls (st) S) (kf : ¬ x = 0 → q_W G X I w cn (pc + 3) ls (st) S) : q_W G X I w cn (pc) ls (.inl x :: st) S := by
  obtain ⟨p, l, e, s, m, args, below, meth, c, A, Qf⟩ := X
  obtain ⟨hx, hb, hml, hts, hown, hnm, hr, hlk, hK, hA⟩ := F
  intro H locs la hP hD hS hl
  exact lv_if_eq hx hb hd ht (fun h => kt h H locs la hP hD hS hl) (fun h => kf h H locs la hP hD hS hl)
theorem q_icmp_eq {G : q_g} {X : q_cx} {I : q_in} {w : q_wd} {cn : Nat × Nat} {pc : Nat} {ls : List (Option q_v)} {st : List q_v} {S : q_st} (F : q_fx G X I) {x y : Int32} {off : Int} (tgt : Nat) (hd : decode I.1 pc = .ok (.if_icmp .eq off, 3)) (ht : (pc : Int) + off = (tgt : Int)) (kt : x = y → q_W G X I w cn (tgt) ls (st) S) (kf : ¬ x = y → q_W G X I w cn (pc + 3) ls (st) S) : q_W G X I w cn (pc) ls (.inl y :: .inl x :: st) S := by
  obtain ⟨p, l, e, s, m, args, below, meth, c, A, Qf⟩ := X
  obtain ⟨hx, hb, hml, hts, hown, hnm, hr, hlk, hK, hA⟩ := F
  intro H locs la hP hD hS hl
  exact lv_icmp_eq hx hb hd ht (fun h => kt h H locs la hP hD hS hl) (fun h => kf h H locs la hP hD hS hl)
theorem q_if_ne {G : q_g} {X : q_cx} {I : q_in} {w : q_wd} {cn : Nat × Nat} {pc : Nat} {ls : List (Option q_v)} {st : List q_v} {S : q_st} (F : q_fx G X I) {x : Int32} {off : Int} (tgt : Nat) (hd : decode I.1 pc = .ok (.ifCond .ne off, 3)) (ht : (pc : Int) + off = (tgt : Int)) (kt : ¬ x = 0 → q_W G X I w cn (tgt) ls (st) S) (kf : x = 0 → q_W G X I w cn (pc + 3) ls (st) S) : q_W G X I w cn (pc) ls (.inl x :: st) S := by
  obtain ⟨p, l, e, s, m, args, below, meth, c, A, Qf⟩ := X
  obtain ⟨hx, hb, hml, hts, hown, hnm, hr, hlk, hK, hA⟩ := F
  intro H locs la hP hD hS hl
  exact lv_if_ne hx hb hd ht (fun h => kt h H locs la hP hD hS hl) (fun h => kf h H locs la hP hD hS hl)
theorem q_icmp_ne {G : q_g} {X : q_cx} {I : q_in} {w : q_wd} {cn : Nat × Nat} {pc : Nat} {ls : List (Option q_v)} {st : List q_v} {S : q_st} (F : q_fx G X I) {x y : Int32} {off : Int} (tgt : Nat) (hd : decode I.1 pc = .ok (.if_icmp .ne off, 3)) (ht : (pc : Int) + off = (tgt : Int)) (kt : ¬ x = y → q_W G X I w cn (tgt) ls (st) S) (kf : x = y → q_W G X I w cn (pc + 3) ls (st) S) : q_W G X I w cn (pc) ls (.inl y :: .inl x :: st) S := by
  obtain ⟨p, l, e, s, m, args, below, meth, c, A, Qf⟩ := X
  obtain ⟨hx, hb, hml, hts, hown, hnm, hr, hlk, hK, hA⟩ := F
  intro H locs la hP hD hS hl
  exact lv_icmp_ne hx hb hd ht (fun h => kt h H locs la hP hD hS hl) (fun h => kf h H locs la hP hD hS hl)
theorem q_if_lt {G : q_g} {X : q_cx} {I : q_in} {w : q_wd} {cn : Nat × Nat} {pc : Nat} {ls : List (Option q_v)} {st : List q_v} {S : q_st} (F : q_fx G X I) {x : Int32} {off : Int} (tgt : Nat) (hd : decode I.1 pc = .ok (.ifCond .lt off, 3)) (ht : (pc : Int) + off = (tgt : Int)) (kt : x.toInt < 0 → q_W G X I w cn (tgt) ls (st) S) (kf : 0 ≤ x.toInt → q_W G X I w cn (pc + 3) ls (st) S) : q_W G X I w cn (pc) ls (.inl x :: st) S := by
  obtain ⟨p, l, e, s, m, args, below, meth, c, A, Qf⟩ := X
  obtain ⟨hx, hb, hml, hts, hown, hnm, hr, hlk, hK, hA⟩ := F
  intro H locs la hP hD hS hl
  exact lv_if_lt hx hb hd ht (fun h => kt ((q_ltI x 0).mp h) H locs la hP hD hS hl) (fun h => kf (by have h2 := mt (q_ltI x 0).mpr h; have h0 : (0 : Int32).toInt = 0 := rfl; omega) H locs la hP hD hS hl)
theorem q_icmp_lt {G : q_g} {X : q_cx} {I : q_in} {w : q_wd} {cn : Nat × Nat} {pc : Nat} {ls : List (Option q_v)} {st : List q_v} {S : q_st} (F : q_fx G X I) {x y : Int32} {off : Int} (tgt : Nat) (hd : decode I.1 pc = .ok (.if_icmp .lt off, 3)) (ht : (pc : Int) + off = (tgt : Int)) (kt : x.toInt < y.toInt → q_W G X I w cn (tgt) ls (st) S) (kf : y.toInt ≤ x.toInt → q_W G X I w cn (pc + 3) ls (st) S) : q_W G X I w cn (pc) ls (.inl y :: .inl x :: st) S := by
  obtain ⟨p, l, e, s, m, args, below, meth, c, A, Qf⟩ := X
  obtain ⟨hx, hb, hml, hts, hown, hnm, hr, hlk, hK, hA⟩ := F
  intro H locs la hP hD hS hl
  exact lv_icmp_lt hx hb hd ht (fun h => kt ((q_ltI x y).mp h) H locs la hP hD hS hl) (fun h => kf (by have h2 := mt (q_ltI x y).mpr h; have h0 : (0 : Int32).toInt = 0 := rfl; omega) H locs la hP hD hS hl)
theorem q_if_ge {G : q_g} {X : q_cx} {I : q_in} {w : q_wd} {cn : Nat × Nat} {pc : Nat} {ls : List (Option q_v)} {st : List q_v} {S : q_st} (F : q_fx G X I) {x : Int32} {off : Int} (tgt : Nat) (hd : decode I.1 pc = .ok (.ifCond .ge off, 3)) (ht : (pc : Int) + off = (tgt : Int)) (kt : 0 ≤ x.toInt → q_W G X I w cn (tgt) ls (st) S) (kf : x.toInt < 0 → q_W G X I w cn (pc + 3) ls (st) S) : q_W G X I w cn (pc) ls (.inl x :: st) S := by
  obtain ⟨p, l, e, s, m, args, below, meth, c, A, Qf⟩ := X
  obtain ⟨hx, hb, hml, hts, hown, hnm, hr, hlk, hK, hA⟩ := F
  intro H locs la hP hD hS hl
  exact lv_if_ge hx hb hd ht (fun h => kt ((q_leI 0 x).mp h) H locs la hP hD hS hl) (fun h => kf (by have h2 := mt (q_leI 0 x).mpr h; have h0 : (0 : Int32).toInt = 0 := rfl; omega) H locs la hP hD hS hl)
theorem q_icmp_ge {G : q_g} {X : q_cx} {I : q_in} {w : q_wd} {cn : Nat × Nat} {pc : Nat} {ls : List (Option q_v)} {st : List q_v} {S : q_st} (F : q_fx G X I) {x y : Int32} {off : Int} (tgt : Nat) (hd : decode I.1 pc = .ok (.if_icmp .ge off, 3)) (ht : (pc : Int) + off = (tgt : Int)) (kt : y.toInt ≤ x.toInt → q_W G X I w cn (tgt) ls (st) S) (kf : x.toInt < y.toInt → q_W G X I w cn (pc + 3) ls (st) S) : q_W G X I w cn (pc) ls (.inl y :: .inl x :: st) S := by
  obtain ⟨p, l, e, s, m, args, below, meth, c, A, Qf⟩ := X
  obtain ⟨hx, hb, hml, hts, hown, hnm, hr, hlk, hK, hA⟩ := F
  intro H locs la hP hD hS hl
  exact lv_icmp_ge hx hb hd ht (fun h => kt ((q_leI y x).mp h) H locs la hP hD hS hl) (fun h => kf (by have h2 := mt (q_leI y x).mpr h; have h0 : (0 : Int32).toInt = 0 := rfl; omega) H locs la hP hD hS hl)
theorem q_if_gt {G : q_g} {X : q_cx} {I : q_in} {w : q_wd} {cn : Nat × Nat} {pc : Nat} {ls : List (Option q_v)} {st : List q_v} {S : q_st} (F : q_fx G X I) {x : Int32} {off : Int} (tgt : Nat) (hd : decode I.1 pc = .ok (.ifCond .gt off, 3)) (ht : (pc : Int) + off = (tgt : Int)) (kt : 0 < x.toInt → q_W G X I w cn (tgt) ls (st) S) (kf : x.toInt ≤ 0 → q_W G X I w cn (pc + 3) ls (st) S) : q_W G X I w cn (pc) ls (.inl x :: st) S := by
  obtain ⟨p, l, e, s, m, args, below, meth, c, A, Qf⟩ := X
  obtain ⟨hx, hb, hml, hts, hown, hnm, hr, hlk, hK, hA⟩ := F
  intro H locs la hP hD hS hl
  exact lv_if_gt hx hb hd ht (fun h => kt ((q_ltI 0 x).mp h) H locs la hP hD hS hl) (fun h => kf (by have h2 := mt (q_ltI 0 x).mpr h; have h0 : (0 : Int32).toInt = 0 := rfl; omega) H locs la hP hD hS hl)
theorem q_icmp_gt {G : q_g} {X : q_cx} {I : q_in} {w : q_wd} {cn : Nat × Nat} {pc : Nat} {ls : List (Option q_v)} {st : List q_v} {S : q_st} (F : q_fx G X I) {x y : Int32} {off : Int} (tgt : Nat) (hd : decode I.1 pc = .ok (.if_icmp .gt off, 3)) (ht : (pc : Int) + off = (tgt : Int)) (kt : y.toInt < x.toInt → q_W G X I w cn (tgt) ls (st) S) (kf : x.toInt ≤ y.toInt → q_W G X I w cn (pc + 3) ls (st) S) : q_W G X I w cn (pc) ls (.inl y :: .inl x :: st) S := by
  obtain ⟨p, l, e, s, m, args, below, meth, c, A, Qf⟩ := X
  obtain ⟨hx, hb, hml, hts, hown, hnm, hr, hlk, hK, hA⟩ := F
  intro H locs la hP hD hS hl
  exact lv_icmp_gt hx hb hd ht (fun h => kt ((q_ltI y x).mp h) H locs la hP hD hS hl) (fun h => kf (by have h2 := mt (q_ltI y x).mpr h; have h0 : (0 : Int32).toInt = 0 := rfl; omega) H locs la hP hD hS hl)
theorem q_if_le {G : q_g} {X : q_cx} {I : q_in} {w : q_wd} {cn : Nat × Nat} {pc : Nat} {ls : List (Option q_v)} {st : List q_v} {S : q_st} (F : q_fx G X I) {x : Int32} {off : Int} (tgt : Nat) (hd : decode I.1 pc = .ok (.ifCond .le off, 3)) (ht : (pc : Int) + off = (tgt : Int)) (kt : x.toInt ≤ 0 → q_W G X I w cn (tgt) ls (st) S) (kf : 0 < x.toInt → q_W G X I w cn (pc + 3) ls (st) S) : q_W G X I w cn (pc) ls (.inl x :: st) S := by
  obtain ⟨p, l, e, s, m, args, below, meth, c, A, Qf⟩ := X
  obtain ⟨hx, hb, hml, hts, hown, hnm, hr, hlk, hK, hA⟩ := F
  intro H locs la hP hD hS hl
  exact lv_if_le hx hb hd ht (fun h => kt ((q_leI x 0).mp h) H locs la hP hD hS hl) (fun h => kf (by have h2 := mt (q_leI x 0).mpr h; have h0 : (0 : Int32).toInt = 0 := rfl; omega) H locs la hP hD hS hl)
theorem q_icmp_le {G : q_g} {X : q_cx} {I : q_in} {w : q_wd} {cn : Nat × Nat} {pc : Nat} {ls : List (Option q_v)} {st : List q_v} {S : q_st} (F : q_fx G X I) {x y : Int32} {off : Int} (tgt : Nat) (hd : decode I.1 pc = .ok (.if_icmp .le off, 3)) (ht : (pc : Int) + off = (tgt : Int)) (kt : x.toInt ≤ y.toInt → q_W G X I w cn (tgt) ls (st) S) (kf : y.toInt < x.toInt → q_W G X I w cn (pc + 3) ls (st) S) : q_W G X I w cn (pc) ls (.inl y :: .inl x :: st) S := by
  obtain ⟨p, l, e, s, m, args, below, meth, c, A, Qf⟩ := X
  obtain ⟨hx, hb, hml, hts, hown, hnm, hr, hlk, hK, hA⟩ := F
  intro H locs la hP hD hS hl
  exact lv_icmp_le hx hb hd ht (fun h => kt ((q_leI x y).mp h) H locs la hP hD hS hl) (fun h => kf (by have h2 := mt (q_leI x y).mpr h; have h0 : (0 : Int32).toInt = 0 := rfl; omega) H locs la hP hD hS hl)
theorem q_goto {G : q_g} {X : q_cx} {I : q_in} {w : q_wd} {cn : Nat × Nat} {pc : Nat} {ls : List (Option q_v)} {st : List q_v} {S : q_st} (F : q_fx G X I) {off : Int} (tgt : Nat) (hd : decode I.1 pc = .ok (.goto off, 3)) (ht : (pc : Int) + off = (tgt : Int)) (kk : q_W G X I w cn (tgt) ls (st) S) : q_W G X I w cn (pc) ls (st) S := by
  obtain ⟨p, l, e, s, m, args, below, meth, c, A, Qf⟩ := X
  obtain ⟨hx, hb, hml, hts, hown, hnm, hr, hlk, hK, hA⟩ := F
  intro H locs la hP hD hS hl
  exact lv_goto hx hb hd ht (kk H locs la hP hD hS hl)
theorem q_tsw_in {G : q_g} {X : q_cx} {I : q_in} {w : q_wd} {cn : Nat × Nat} {pc : Nat} {ls : List (Option q_v)} {st : List q_v} {S : q_st} (F : q_fx G X I) {dflt lo hi : Int} {offs : Array Int} {len : Nat} {x : Int32} {off : Int} (tgt : Nat) (hd : decode I.1 pc = .ok (.tableswitch dflt lo hi offs, len)) (h1 : ¬ x.toInt < lo) (h2 : ¬ hi < x.toInt) (ho : offs[(x.toInt - lo).toNat]? = some off) (ht : (pc : Int) + off = (tgt : Int)) (kk : q_W G X I w cn (tgt) ls (st) S) : q_W G X I w cn (pc) ls (.inl x :: st) S := by
  obtain ⟨p, l, e, s, m, args, below, meth, c, A, Qf⟩ := X
  obtain ⟨hx, hb, hml, hts, hown, hnm, hr, hlk, hK, hA⟩ := F
  intro H locs la hP hD hS hl
  exact lv_tableIn hx hb hd h1 h2 ho ht (kk H locs la hP hD hS hl)
theorem q_tsw_out {G : q_g} {X : q_cx} {I : q_in} {w : q_wd} {cn : Nat × Nat} {pc : Nat} {ls : List (Option q_v)} {st : List q_v} {S : q_st} (F : q_fx G X I) {dflt lo hi : Int} {offs : Array Int} {len : Nat} {x : Int32} (tgt : Nat) (hd : decode I.1 pc = .ok (.tableswitch dflt lo hi offs, len)) (h : x.toInt < lo ∨ hi < x.toInt) (ht : (pc : Int) + dflt = (tgt : Int)) (kk : q_W G X I w cn (tgt) ls (st) S) : q_W G X I w cn (pc) ls (.inl x :: st) S := by
  obtain ⟨p, l, e, s, m, args, below, meth, c, A, Qf⟩ := X
  obtain ⟨hx, hb, hml, hts, hown, hnm, hr, hlk, hK, hA⟩ := F
  intro H locs la hP hD hS hl
  exact lv_tableOut hx hb hd h ht (kk H locs la hP hD hS hl)
theorem q_iaddN {G : q_g} {X : q_cx} {I : q_in} {w : q_wd} {cn : Nat × Nat} {pc : Nat} {ls : List (Option q_v)} {st : List q_v} {S : q_st} (F : q_fx G X I) {a b : Nat} (hd : decode I.1 pc = .ok (.iadd, 1)) (kk : q_W G X I w cn (pc + 1) ls (.inl (nI (a + b)) :: st) S) : q_W G X I w cn (pc) ls (.inl (nI b) :: .inl (nI a) :: st) S := q_iadd F hd (by rw [nI_add a b]; exact kk)
theorem q_imulN {G : q_g} {X : q_cx} {I : q_in} {w : q_wd} {cn : Nat × Nat} {pc : Nat} {ls : List (Option q_v)} {st : List q_v} {S : q_st} (F : q_fx G X I) {a b : Nat} (hd : decode I.1 pc = .ok (.imul, 1)) (kk : q_W G X I w cn (pc + 1) ls (.inl (nI (a * b)) :: st) S) : q_W G X I w cn (pc) ls (.inl (nI b) :: .inl (nI a) :: st) S := q_imul F hd (by rw [pk_mul a b]; exact kk)
theorem q_isubN {G : q_g} {X : q_cx} {I : q_in} {w : q_wd} {cn : Nat × Nat} {pc : Nat} {ls : List (Option q_v)} {st : List q_v} {S : q_st} (F : q_fx G X I) {a b : Nat} (hd : decode I.1 pc = .ok (.isub, 1)) (h : b ≤ a) (kk : q_W G X I w cn (pc + 1) ls (.inl (nI (a - b)) :: st) S) : q_W G X I w cn (pc) ls (.inl (nI b) :: .inl (nI a) :: st) S := q_isub F hd (by rw [pk_sub h]; exact kk)
theorem q_idivN {G : q_g} {X : q_cx} {I : q_in} {w : q_wd} {cn : Nat × Nat} {pc : Nat} {ls : List (Option q_v)} {st : List q_v} {S : q_st} (F : q_fx G X I) {a b : Nat} (hd : decode I.1 pc = .ok (.idiv, 1)) (ha : a < 2 ^ 31) (h0 : 0 < b) (hb : b < 2 ^ 31) (kk : q_W G X I w cn (pc + 1) ls (.inl (nI (a / b)) :: st) S) : q_W G X I w cn (pc) ls (.inl (nI b) :: .inl (nI a) :: st) S := q_idiv F hd (nI_ne0 h0 hb) (by rw [pk_div ha h0 hb]; exact kk)
theorem q_iremN {G : q_g} {X : q_cx} {I : q_in} {w : q_wd} {cn : Nat × Nat} {pc : Nat} {ls : List (Option q_v)} {st : List q_v} {S : q_st} (F : q_fx G X I) {a b : Nat} (hd : decode I.1 pc = .ok (.irem, 1)) (ha : a < 2 ^ 31) (h0 : 0 < b) (hb : b < 2 ^ 31) (kk : q_W G X I w cn (pc + 1) ls (.inl (nI (a % b)) :: st) S) : q_W G X I w cn (pc) ls (.inl (nI b) :: .inl (nI a) :: st) S := q_irem F hd (nI_ne0 h0 hb) (by rw [pk_rem ha h0 hb]; exact kk)
theorem q_icmpN_eq {G : q_g} {X : q_cx} {I : q_in} {w : q_wd} {cn : Nat × Nat} {pc : Nat} {ls : List (Option q_v)} {st : List q_v} {S : q_st} (F : q_fx G X I) {a b : Nat} {off : Int} (tgt : Nat) (hd : decode I.1 pc = .ok (.if_icmp .eq off, 3)) (ht : (pc : Int) + off = (tgt : Int)) (ha : a < 2 ^ 31) (hb : b < 2 ^ 31) (kt : a = b → q_W G X I w cn (tgt) ls (st) S) (kf : ¬ a = b → q_W G X I w cn (pc + 3) ls (st) S) : q_W G X I w cn (pc) ls (.inl (nI b) :: .inl (nI a) :: st) S := q_icmp_eq F tgt hd ht (fun h => kt (by simpa only [nI_eq ha hb] using h)) (fun h => kf (by simpa only [nI_eq ha hb] using h))
theorem q_ifN_eq {G : q_g} {X : q_cx} {I : q_in} {w : q_wd} {cn : Nat × Nat} {pc : Nat} {ls : List (Option q_v)} {st : List q_v} {S : q_st} (F : q_fx G X I) {a : Nat} {off : Int} (tgt : Nat) (hd : decode I.1 pc = .ok (.ifCond .eq off, 3)) (ht : (pc : Int) + off = (tgt : Int)) (ha : a < 2 ^ 31) (kt : a = 0 → q_W G X I w cn (tgt) ls (st) S) (kf : ¬ a = 0 → q_W G X I w cn (pc + 3) ls (st) S) : q_W G X I w cn (pc) ls (.inl (nI a) :: st) S := q_if_eq F tgt hd ht (fun h => kt (by rw [← nI_0, nI_eq ha (by decide)] at h; exact h)) (fun h => kf (by rw [← nI_0, nI_eq ha (by decide)] at h; exact h))
theorem q_icmpN_ne {G : q_g} {X : q_cx} {I : q_in} {w : q_wd} {cn : Nat × Nat} {pc : Nat} {ls : List (Option q_v)} {st : List q_v} {S : q_st} (F : q_fx G X I) {a b : Nat} {off : Int} (tgt : Nat) (hd : decode I.1 pc = .ok (.if_icmp .ne off, 3)) (ht : (pc : Int) + off = (tgt : Int)) (ha : a < 2 ^ 31) (hb : b < 2 ^ 31) (kt : ¬ a = b → q_W G X I w cn (tgt) ls (st) S) (kf : a = b → q_W G X I w cn (pc + 3) ls (st) S) : q_W G X I w cn (pc) ls (.inl (nI b) :: .inl (nI a) :: st) S := q_icmp_ne F tgt hd ht (fun h => kt (by simpa only [nI_eq ha hb] using h)) (fun h => kf (by simpa only [nI_eq ha hb] using h))
theorem q_ifN_ne {G : q_g} {X : q_cx} {I : q_in} {w : q_wd} {cn : Nat × Nat} {pc : Nat} {ls : List (Option q_v)} {st : List q_v} {S : q_st} (F : q_fx G X I) {a : Nat} {off : Int} (tgt : Nat) (hd : decode I.1 pc = .ok (.ifCond .ne off, 3)) (ht : (pc : Int) + off = (tgt : Int)) (ha : a < 2 ^ 31) (kt : ¬ a = 0 → q_W G X I w cn (tgt) ls (st) S) (kf : a = 0 → q_W G X I w cn (pc + 3) ls (st) S) : q_W G X I w cn (pc) ls (.inl (nI a) :: st) S := q_if_ne F tgt hd ht (fun h => kt (by rw [← nI_0, nI_eq ha (by decide)] at h; exact h)) (fun h => kf (by rw [← nI_0, nI_eq ha (by decide)] at h; exact h))
theorem q_icmpN_lt {G : q_g} {X : q_cx} {I : q_in} {w : q_wd} {cn : Nat × Nat} {pc : Nat} {ls : List (Option q_v)} {st : List q_v} {S : q_st} (F : q_fx G X I) {a b : Nat} {off : Int} (tgt : Nat) (hd : decode I.1 pc = .ok (.if_icmp .lt off, 3)) (ht : (pc : Int) + off = (tgt : Int)) (ha : a < 2 ^ 31) (hb : b < 2 ^ 31) (kt : a < b → q_W G X I w cn (tgt) ls (st) S) (kf : b ≤ a → q_W G X I w cn (pc + 3) ls (st) S) : q_W G X I w cn (pc) ls (.inl (nI b) :: .inl (nI a) :: st) S := q_icmp_lt F tgt hd ht (fun h => kt (by rw [nI_toInt ha, nI_toInt hb] at h; omega)) (fun h => kf (by rw [nI_toInt ha, nI_toInt hb] at h; omega))
theorem q_ifN_lt {G : q_g} {X : q_cx} {I : q_in} {w : q_wd} {cn : Nat × Nat} {pc : Nat} {ls : List (Option q_v)} {st : List q_v} {S : q_st} (F : q_fx G X I) {a : Nat} {off : Int} (tgt : Nat) (hd : decode I.1 pc = .ok (.ifCond .lt off, 3)) (ht : (pc : Int) + off = (tgt : Int)) (ha : a < 2 ^ 31) (kt : a < 0 → q_W G X I w cn (tgt) ls (st) S) (kf : 0 ≤ a → q_W G X I w cn (pc + 3) ls (st) S) : q_W G X I w cn (pc) ls (.inl (nI a) :: st) S := q_if_lt F tgt hd ht (fun h => kt (by rw [nI_toInt ha] at h; omega)) (fun h => kf (by rw [nI_toInt ha] at h; omega))
theorem q_icmpN_ge {G : q_g} {X : q_cx} {I : q_in} {w : q_wd} {cn : Nat × Nat} {pc : Nat} {ls : List (Option q_v)} {st : List q_v} {S : q_st} (F : q_fx G X I) {a b : Nat} {off : Int} (tgt : Nat) (hd : decode I.1 pc = .ok (.if_icmp .ge off, 3)) (ht : (pc : Int) + off = (tgt : Int)) (ha : a < 2 ^ 31) (hb : b < 2 ^ 31) (kt : b ≤ a → q_W G X I w cn (tgt) ls (st) S) (kf : a < b → q_W G X I w cn (pc + 3) ls (st) S) : q_W G X I w cn (pc) ls (.inl (nI b) :: .inl (nI a) :: st) S := q_icmp_ge F tgt hd ht (fun h => kt (by rw [nI_toInt ha, nI_toInt hb] at h; omega)) (fun h => kf (by rw [nI_toInt ha, nI_toInt hb] at h; omega))
theorem q_ifN_ge {G : q_g} {X : q_cx} {I : q_in} {w : q_wd} {cn : Nat × Nat} {pc : Nat} {ls : List (Option q_v)} {st : List q_v} {S : q_st} (F : q_fx G X I) {a : Nat} {off : Int} (tgt : Nat) (hd : decode I.1 pc = .ok (.ifCond .ge off, 3)) (ht : (pc : Int) + off = (tgt : Int)) (ha : a < 2 ^ 31) (kt : 0 ≤ a → q_W G X I w cn (tgt) ls (st) S) (kf : a < 0 → q_W G X I w cn (pc + 3) ls (st) S) : q_W G X I w cn (pc) ls (.inl (nI a) :: st) S := q_if_ge F tgt hd ht (fun h => kt (by rw [nI_toInt ha] at h; omega)) (fun h => kf (by rw [nI_toInt ha] at h; omega))
theorem q_icmpN_gt {G : q_g} {X : q_cx} {I : q_in} {w : q_wd} {cn : Nat × Nat} {pc : Nat} {ls : List (Option q_v)} {st : List q_v} {S : q_st} (F : q_fx G X I) {a b : Nat} {off : Int} (tgt : Nat) (hd : decode I.1 pc = .ok (.if_icmp .gt off, 3)) (ht : (pc : Int) + off = (tgt : Int)) (ha : a < 2 ^ 31) (hb : b < 2 ^ 31) (kt : b < a → q_W G X I w cn (tgt) ls (st) S) (kf : a ≤ b → q_W G X I w cn (pc + 3) ls (st) S) : q_W G X I w cn (pc) ls (.inl (nI b) :: .inl (nI a) :: st) S := q_icmp_gt F tgt hd ht (fun h => kt (by rw [nI_toInt ha, nI_toInt hb] at h; omega)) (fun h => kf (by rw [nI_toInt ha, nI_toInt hb] at h; omega))
theorem q_ifN_gt {G : q_g} {X : q_cx} {I : q_in} {w : q_wd} {cn : Nat × Nat} {pc : Nat} {ls : List (Option q_v)} {st : List q_v} {S : q_st} (F : q_fx G X I) {a : Nat} {off : Int} (tgt : Nat) (hd : decode I.1 pc = .ok (.ifCond .gt off, 3)) (ht : (pc : Int) + off = (tgt : Int)) (ha : a < 2 ^ 31) (kt : 0 < a → q_W G X I w cn (tgt) ls (st) S) (kf : a ≤ 0 → q_W G X I w cn (pc + 3) ls (st) S) : q_W G X I w cn (pc) ls (.inl (nI a) :: st) S := q_if_gt F tgt hd ht (fun h => kt (by rw [nI_toInt ha] at h; omega)) (fun h => kf (by rw [nI_toInt ha] at h; omega))
theorem q_icmpN_le {G : q_g} {X : q_cx} {I : q_in} {w : q_wd} {cn : Nat × Nat} {pc : Nat} {ls : List (Option q_v)} {st : List q_v} {S : q_st} (F : q_fx G X I) {a b : Nat} {off : Int} (tgt : Nat) (hd : decode I.1 pc = .ok (.if_icmp .le off, 3)) (ht : (pc : Int) + off = (tgt : Int)) (ha : a < 2 ^ 31) (hb : b < 2 ^ 31) (kt : a ≤ b → q_W G X I w cn (tgt) ls (st) S) (kf : b < a → q_W G X I w cn (pc + 3) ls (st) S) : q_W G X I w cn (pc) ls (.inl (nI b) :: .inl (nI a) :: st) S := q_icmp_le F tgt hd ht (fun h => kt (by rw [nI_toInt ha, nI_toInt hb] at h; omega)) (fun h => kf (by rw [nI_toInt ha, nI_toInt hb] at h; omega))
theorem q_ifN_le {G : q_g} {X : q_cx} {I : q_in} {w : q_wd} {cn : Nat × Nat} {pc : Nat} {ls : List (Option q_v)} {st : List q_v} {S : q_st} (F : q_fx G X I) {a : Nat} {off : Int} (tgt : Nat) (hd : decode I.1 pc = .ok (.ifCond .le off, 3)) (ht : (pc : Int) + off = (tgt : Int)) (ha : a < 2 ^ 31) (kt : a ≤ 0 → q_W G X I w cn (tgt) ls (st) S) (kf : 0 < a → q_W G X I w cn (pc + 3) ls (st) S) : q_W G X I w cn (pc) ls (.inl (nI a) :: st) S := q_if_le F tgt hd ht (fun h => kt (by rw [nI_toInt ha] at h; omega)) (fun h => kf (by rw [nI_toInt ha] at h; omega))
theorem q_top {G : q_g} {X : q_cx} {I : q_in} {w : q_wd} {cn : Nat × Nat} {pc : Nat} {ls : List (Option q_v)} {st : List q_v} {S : q_st} {x : Int32} (y : Int32) (h : x = y) (kk : q_W G X I w cn (pc) ls (.inl y :: st) S) : q_W G X I w cn (pc) ls (.inl x :: st) S := h ▸ kk
theorem q_pc {G : q_g} {X : q_cx} {I : q_in} {w : q_wd} {cn : Nat × Nat} {pc : Nat} {ls : List (Option q_v)} {st : List q_v} {S : q_st} (pc' : Nat) (h : pc = pc') (kk : q_W G X I w cn (pc') ls (st) S) : q_W G X I w cn (pc) ls (st) S := h ▸ kk
end
section
/-! rows of my machine: fields, arrays, calls, answers -/
/-- a field's link: owner, place in its pool; the class's number in vwCl, the field's slot -/
def q_fk (own : String) (idx ci k : Nat) : Prop := ∃ (C : String) (T : u_T) (N : Nat), vwCl[ci]? = some (C, T, N) ∧ k < N ∧ (∀ w ∈ u_ws C T N, w ∈ q_ws) ∧ Cond.fieldLink own idx (T k).1 (T k).2.1 (T k).2.2.1 ∈ q_ws
/-- what a store into a field wants of its class -/
def q_fp (ci k : Nat) (ty : FieldType) (fin : Bool) : Prop := ∃ (C : String) (T : u_T) (N : Nat) (ty0 : Nat → FieldType), vwCl[ci]? = some (C, T, N) ∧ (∀ k, k < N → parseFieldDescriptor (T k).2.2.1 = some (ty0 k)) ∧ (∀ a, a < N → ∀ b, b < N → a ≠ b → (T a).2.1 ≠ (T b).2.1) ∧ (T k).2.2.2 = fin ∧ parseFieldDescriptor (T k).2.2.1 = some ty
section QH
variable {G : q_g} {X : q_cx} {I : q_in} {w : q_wd} {cn : Nat × Nat} {pc : Nat} {ls : List (Option q_v)} {st : List q_v} {S : q_st}
theorem q_get0 (F : q_fx G X I) {i : q_ix} {ci k idx : Nat} {fl : List (Option (Option q_ix))} {t : Option (Option q_ix)} {v : q_v} (L : q_fk I.2.1.cls idx ci k) (hi : i ∈ w.1) (hsh : w.2.2 i = .inl (ci, fl)) (hk : fl[k]? = some t) (hv : q_fld w.2.1 (S i) k t = q_val w.2.1 v) (hd : decode I.1 pc = .ok (.getfield idx, 3)) (kk : q_W G X I w cn (pc + 3) ls (v :: st) S) : q_W G X I w cn pc ls (.inr (some i) :: st) S := by
  obtain ⟨p, l, e, s, m, args, below, meth, c, A, Qf⟩ := X
  obtain ⟨hx, hb, hml, hts, hown, hnm, hr, hlk, hK, hA⟩ := F
  obtain ⟨C, T, N, hC, hN, hin, hlink⟩ := L
  intro H locs la hP hD hS hl
  obtain ⟨q0, hq⟩ := List.getElem?_of_mem hi
  have he := q_wl_at (S := S) hq
  rw [hsh] at he
  exact va_get (fs := fl.mapIdx (q_fld w.2.1 (S i))) (v := q_val w.2.1 v) hx hb hts hin hown hK hP q0 he hC k hN (hts _ hlink) (fun _ h => h) (by rw [List.getElem?_mapIdx, hk, ← hv]; rfl) hd (kk H locs la hP hD hS hl)
theorem q_geti (F : q_fx G X I) {i : q_ix} {ci k idx : Nat} {fl : List (Option (Option q_ix))} (L : q_fk I.2.1.cls idx ci k) (hi : i ∈ w.1) (hsh : w.2.2 i = .inl (ci, fl)) (hk : fl[k]? = some none) (hd : decode I.1 pc = .ok (.getfield idx, 3)) (kk : q_W G X I w cn (pc + 3) ls (.inl (S i k) :: st) S) : q_W G X I w cn pc ls (.inr (some i) :: st) S :=
  q_get0 F L hi hsh hk rfl hd kk
theorem q_getr (F : q_fx G X I) {i j : q_ix} {ci k idx : Nat} {fl : List (Option (Option q_ix))} (L : q_fk I.2.1.cls idx ci k) (hi : i ∈ w.1) (hsh : w.2.2 i = .inl (ci, fl)) (hk : fl[k]? = some (some (some j))) (hd : decode I.1 pc = .ok (.getfield idx, 3)) (kk : q_W G X I w cn (pc + 3) ls (.inr (some j) :: st) S) : q_W G X I w cn pc ls (.inr (some i) :: st) S :=
  q_get0 F L hi hsh hk rfl hd kk
theorem q_puti (F : q_fx G X I) {i : q_ix} {ci k idx : Nat} {v : Int32} {fl : List (Option (Option q_ix))} (L : q_fk I.2.1.cls idx ci k) (M : q_fp ci k .int false) (hi : i ∈ w.1) (hsh : w.2.2 i = .inl (ci, fl)) (hk : fl[k]? = some none) (hd : decode I.1 pc = .ok (.putfield idx, 3)) (kk : q_W G X I w cn (pc + 3) ls st (q_up S i k v)) : q_W G X I w cn pc ls (.inl v :: .inr (some i) :: st) S := by
  obtain ⟨p, l, e, s, m, args, below, meth, c, A, Qf⟩ := X
  obtain ⟨hx, hb, hml, hts, hown, hnm, hr, hlk, hK, hA⟩ := F
  obtain ⟨C, T, N, hC, hN, hin, hlink⟩ := L
  obtain ⟨C', T', N', ty0, hC', hty, hap, hfin, hd'⟩ := M
  cases (hC.symm.trans hC')
  intro H locs la hP hD hS hl
  obtain ⟨q0, hq⟩ := List.getElem?_of_mem hi
  have he := q_wl_at (S := S) hq
  rw [hsh] at he
  refine va_put (fs := fl.mapIdx (q_fld w.2.1 (S i))) (v := .int v) (ty := .int) hx hb hts hin ty0 hty hap hown hK hP hD hS q0 he hC k hN (hts _ hlink) (fun _ h => h) hfin hd' rfl rfl (by rw [List.length_mapIdx]; exact (List.getElem?_eq_some_iff.mp hk).1) hd (fun H1 locs1 hP1 hD1 hS1 => ?_)
  rw [q_set (S' := q_up S i k v) hD hq (by rw [hsh, q_up_self]; show Sum.inr (ci, _) = _; rw [q_fld_set hk]) (fun j hj => q_up_other S i k v j hj)] at hP1 hD1
  exact kk H1 locs1 la hP1 hD1 hS1 hl
theorem q_iald (F : q_fx G X I) {i : q_ix} {n : Nat} {x : Int32} (k : Nat) (hi : i ∈ w.1) (hsh : w.2.2 i = .inr (.inl (G.2.1, n))) (hx0 : x = nI k) (hk : k < n) (hn : n < 2 ^ 31) (hd : decode I.1 pc = .ok (.iaload, 1)) (kk : q_W G X I w cn (pc + 1) ls (.inl (S i k) :: st) S) : q_W G X I w cn pc ls (.inl x :: .inr (some i) :: st) S := by
  obtain ⟨p, l, e, s, m, args, below, meth, c, A, Qf⟩ := X
  obtain ⟨hx, hb, hml, hts, hown, hnm, hr, hlk, hK, hA⟩ := F
  subst hx0
  intro H locs la hP hD hS hl
  obtain ⟨q0, hq⟩ := List.getElem?_of_mem hi
  have he := q_wl_at (S := S) hq
  rw [hsh] at he
  have hk' := kk H locs la hP hD hS hl
  refine va_iald (n := n) (f := S i) hx hb hK hP q0 0 he rfl (vp_in_nI hk hn) hd ?_
  rw [nI_clamp (by omega)]
  exact hk'
theorem q_iast (F : q_fx G X I) {i : q_ix} {n : Nat} {x v : Int32} (k : Nat) (hi : i ∈ w.1) (hsh : w.2.2 i = .inr (.inl (G.2.1, n))) (hx0 : x = nI k) (hk : k < n) (hn : n < 2 ^ 31) (hd : decode I.1 pc = .ok (.iastore, 1)) (kk : q_W G X I w cn (pc + 1) ls st (q_up S i k v)) : q_W G X I w cn pc ls (.inl v :: .inl x :: .inr (some i) :: st) S := by
  obtain ⟨p, l, e, s, m, args, below, meth, c, A, Qf⟩ := X
  obtain ⟨hx, hb, hml, hts, hown, hnm, hr, hlk, hK, hA⟩ := F
  subst hx0
  intro H locs la hP hD hS hl
  obtain ⟨q0, hq⟩ := List.getElem?_of_mem hi
  have he := q_wl_at (S := S) hq
  rw [hsh] at he
  refine va_iast (n := n) (f := S i) hx hb hK hP hD hS q0 0 he rfl (vp_in_nI hk hn) hd (fun H1 locs1 hP1 hD1 hS1 => ?_)
  rw [nI_clamp (by omega)] at hP1 hD1
  rw [q_set (S' := q_up S i k v) hD hq (by rw [hsh, q_up_self]; rfl) (fun j hj => q_up_other S i k v j hj)] at hP1 hD1
  exact kk H1 locs1 la hP1 hD1 hS1 hl
theorem q_aald (F : q_fx G X I) {i j : q_ix} {n : Nat} {x : Int32} {f : Nat → Option q_ix} (k : Nat) (hi : i ∈ w.1) (hsh : w.2.2 i = .inr (.inr (G.2.2, n, f))) (hx0 : x = nI k) (hk : k < n) (hn : n < 2 ^ 31) (hf : f k = some j) (hd : decode I.1 pc = .ok (.aaload, 1)) (kk : q_W G X I w cn (pc + 1) ls (.inr (some j) :: st) S) : q_W G X I w cn pc ls (.inl x :: .inr (some i) :: st) S := by
  obtain ⟨p, l, e, s, m, args, below, meth, c, A, Qf⟩ := X
  obtain ⟨hx, hb, hml, hts, hown, hnm, hr, hlk, hK, hA⟩ := F
  subst hx0
  intro H locs la hP hD hS hl
  obtain ⟨q0, hq⟩ := List.getElem?_of_mem hi
  have he := q_wl_at (S := S) hq
  rw [hsh] at he
  have hk' := kk H locs la hP hD hS hl
  refine va_aldq (C := "BranchingKernel$Proc") (n := n) (f := fun j => (f j).map w.2.1) hx hb hK hP q0 1 he rfl (vp_in_nI hk hn) hd ?_
  rw [nI_clamp (by omega)]
  show W _ _ _ _ _ _ _ _ _ _ _ _ _ _ _ (F0 m (pc + 1) la (va_rf ((f k).map w.2.1) :: st.map (q_val w.2.1)))
  rw [hf]
  exact hk'
/-- the ends of methods that make no cell -/
def q_pi (w : q_wd) (P : Int32 → q_st → Prop) : q_post := fun r w' S' => w' = w ∧ ∃ v, r = some (.inl v) ∧ P v S'
def q_pv (w : q_wd) (P : q_st → Prop) : q_post := fun r w' S' => w' = w ∧ r = none ∧ P S'
theorem q_iret0 (F : q_fx G X I) {post : q_post} (E : q_en G X I post) {v : Int32} {ty : FieldType} (hret : I.2.2.2.1 = some ty) (hn : narrow ty (.int v) = .int v) (hc : cn.1 ≤ I.2.2.2.2.cells ∧ cn.2 ≤ I.2.2.2.2.slots) (hp : post (some (.inl v)) w S) (hd : decode I.1 pc = .ok (.ireturn, 1)) : q_W G X I w cn pc ls [.inl v] S := by
  obtain ⟨p, l, e, s, m, args, below, meth, c, A, Qf⟩ := X
  obtain ⟨hx, hb, hml, hts, hown, hnm, hr, hlk, hK, hA⟩ := F
  change Qf = _ at E
  subst E
  intro H locs la hP hD hS hl
  refine W.widen hc.1 hc.2 ?_
  exact W.zret (v := v) hx hb (hr.trans hret) hn (fun t ht hW => ⟨⟨some (.inl v), w, S, rfl, hp, by rw [ht]; exact hP, va_K.moved hW.alike hK, hD⟩, hS.F ht⟩) hS.2.2 hd hlk
theorem q_vret0 (F : q_fx G X I) {post : q_post} (E : q_en G X I post) (hret : I.2.2.2.1 = none) (hc : cn.1 ≤ I.2.2.2.2.cells ∧ cn.2 ≤ I.2.2.2.2.slots) (hp : post none w S) (hd : decode I.1 pc = .ok (.return_, 1)) : q_W G X I w cn pc ls [] S := by
  obtain ⟨p, l, e, s, m, args, below, meth, c, A, Qf⟩ := X
  obtain ⟨hx, hb, hml, hts, hown, hnm, hr, hlk, hK, hA⟩ := F
  change Qf = _ at E
  subst E
  intro H locs la hP hD hS hl
  refine W.widen hc.1 hc.2 ?_
  exact W.vret hx hb (hr.trans hret) (fun t ht hW => ⟨⟨none, w, S, rfl, hp, by rw [ht]; exact hP, va_K.moved hW.alike hK, hD⟩, hS.F ht⟩) hS.2.2 hd hlk
theorem q_iret (F : q_fx G X I) {v : Int32} {P : Int32 → q_st → Prop} (E : q_en G X I (q_pi w P)) (hret : I.2.2.2.1 = some .int) (hp : P v S) (hd : decode I.1 pc = .ok (.ireturn, 1)) : q_W G X I w (0, 0) pc ls [.inl v] S :=
  q_iret0 F E hret rfl ⟨Nat.zero_le _, Nat.zero_le _⟩ ⟨rfl, v, rfl, hp⟩ hd
theorem q_zret (F : q_fx G X I) {v : Int32} {P : Int32 → q_st → Prop} (E : q_en G X I (q_pi w P)) (hret : I.2.2.2.1 = some .boolean) (hn : narrow .boolean (.int v) = .int v) (hp : P v S) (hd : decode I.1 pc = .ok (.ireturn, 1)) : q_W G X I w (0, 0) pc ls [.inl v] S :=
  q_iret0 F E hret hn ⟨Nat.zero_le _, Nat.zero_le _⟩ ⟨rfl, v, rfl, hp⟩ hd
theorem q_vret (F : q_fx G X I) {P : q_st → Prop} (E : q_en G X I (q_pv w P)) (hret : I.2.2.2.1 = none) (hp : P S) (hd : decode I.1 pc = .ok (.return_, 1)) : q_W G X I w (0, 0) pc ls [] S :=
  q_vret0 F E hret ⟨Nat.zero_le _, Nat.zero_le _⟩ ⟨rfl, rfl, hp⟩ hd
/-- a call's words: the caller's owner, the place in its pool, the callee -/
def q_cb (own : String) (idx n : Nat) (J : q_in) : Prop := Cond.methodLink own idx J.2.1 ∈ q_ws ∧ Cond.initialized J.2.1.cls ∈ q_ws ∧ Cond.code J.2.1 J.1 J.2.2.1 J.2.2.2.1 ∈ q_ws ∧ J.2.1.cls ≠ "java/lang/invoke/MethodHandle" ∧ J.2.1.cls ≠ "java/lang/invoke/VarHandle" ∧ (parseMethodDescriptor J.2.1.desc).map (fun d => d.parameters.length) = some n
def q_cv (own : String) (idx n : Nat) (J : q_in) : Prop := q_cb own idx n J ∧ Cond.instanceMethod J.2.1 ∈ q_ws ∧ Cond.selects J.2.1.cls J.2.1 J.2.1 ∈ q_ws
def q_cs (own : String) (idx n : Nat) (J : q_in) : Prop := q_cb own idx n J ∧ Cond.static J.2.1 ∈ q_ws
/-- the callee's room in the caller's -/
def q_rm (I J : q_in) : Prop := J.2.2.2.2.frames + 1 ≤ I.2.2.2.2.frames ∧ 8 + (J.2.2.1 + 11) + J.2.2.2.2.locals ≤ I.2.2.2.2.locals
theorem q_gin {J : q_in} (h : Cond.code J.2.1 J.1 J.2.2.1 J.2.2.2.1 ∈ q_ws) : GoodIn q_ws (Cond.code J.2.1 J.1 J.2.2.1 J.2.2.2.1 :: q_ws) := by
  intro w hw
  rcases List.mem_cons.mp hw with rfl | hw
  · exact ⟨h, q_ws_good h⟩
  · exact ⟨hw, q_ws_good hw⟩
theorem q_catsum (ad : q_ix → Nat) (l : List q_v) : ((l.map (q_val ad)).map fun v => v.category).sum = l.length := by
  induction l with
  | nil => rfl
  | cons a t ih => simp only [List.map_cons, List.sum_cons, ih, q_val_cat, List.length_cons]; omega
/-- behind a call: from the machine's run to mine -/
theorem q_back {p : Program} {l : Launch} {e : Env} {s : State} {m : MethodId} {args : Array Value} {below : List Frame} {meth : Method} {c : Code} {A : Nat → Prop} {Qf : State → Prop} {H : Heap} {locs : List Loc} {la : Array Slot} {mc ms : Nat} {st0 : List Value} {a : Array Value} {post1 : q_post}
    (hr : va_Run p l e I.2.2.2.2 s m args below meth c H locs cn.1 cn.2 mc ms (F0 m pc la st0) (st.map (q_val w.2.1)) (q_Q G (va_A (q_wl w S) H.size) post1 a) (va_A (q_wl w S) H.size)) (hP : va_P G.1 vwCl (q_wl w S) H) (hD : va_D A (q_wl w S)) (hS : va_S A s.heap H locs) (hA : ∀ q : Nat, s.heap.size ≤ q → A q) (hl : q_lo la I.2.2.1 w.2.1 ls)
    (hkeep : ∀ r w' S', post1 r w' S' → (∀ i : q_ix, (∃ k : Nat, ls[k]? = some (some (Sum.inr (some i)))) ∨ (Sum.inr (some i) : q_v) ∈ st → w'.2.1 i = w.2.1 i))
    (kk : ∀ r w' S', post1 r w' S' → q_W G (p, l, e, s, m, args, below, meth, c, A, Qf) I w' (cn.1 + mc, cn.2 + ms) (pc + 3) ls (r.toList ++ st) S') : W p l e I.2.2.2.2 s m args below meth c H locs cn.1 cn.2 Qf (F0 m pc la st0) := by
  intro T hT XX
  obtain ⟨v, st₀, t, T', L, h0, X', hL, e1, e2, ⟨⟨r, w', S', hv, hp, hP1, hK1, hD1⟩, hz, hkp⟩, sts⟩ := hr T hT XX
  cases hv
  rw [h0] at hz hkp
  have hF : ∀ q, va_A (q_wl w S) H.size q → A q := by
    intro q h
    rcases h with ⟨k, e, h⟩ | h
    · exact hD.2 k (q, e) h
    · exact hA q (Nat.le_trans hS.1 h)
  have had := hkeep r w' S' hp
  have hval : ∀ u : q_v, (∃ k : Nat, ls[k]? = some (some u)) ∨ u ∈ st → q_val w.2.1 u = q_val w'.2.1 u := by
    intro u hu
    rcases u with x | (_ | i)
    · rfl
    · rfl
    · show Value.ref _ = Value.ref _
      rw [had i hu]
  have hl' : q_lo la I.2.2.1 w'.2.1 ls := q_lo_of hl (fun i u hi => ⟨u, hi, hval u (Or.inl ⟨i, hi⟩)⟩)
  have hst : st.map (q_val w.2.1) = st.map (q_val w'.2.1) := List.map_congr_left (fun u hu => hval u (Or.inr hu))
  have hS' : va_S A s.heap T'.heap (locs ++ L) := ⟨Nat.le_trans hS.1 (by rw [e1]; exact hz), fun q h1 h2 => by rw [e1, hkp q (Nat.lt_of_lt_of_le h1 hS.1) (fun z => h2 (hF q z))]; exact hS.2.1 q h1 h2, fun q hq => by
      rcases List.mem_append.mp hq with h | h
      · exact hS.2.2 q h
      · exact hF _ (hL q h)⟩
  obtain ⟨t2, a1, b1⟩ := kk r w' S' hp T'.heap (locs ++ L) la (by rw [e1]; exact hP1) (hD1.weaken (fun _ q _ h => hF q.1 h)) hS' hl' T' rfl X'
  refine ⟨t2, sts t2 ?_, b1⟩
  have e3 : (r.toList ++ st).map (q_val w'.2.1) = (Option.map (q_val w'.2.1) r).toList ++ st.map (q_val w.2.1) := by
    rw [List.map_append, hst]
    cases r <;> rfl
  rw [e3] at a1
  exact a1
theorem q_callV (F : q_fx G X I) {J : q_in} {idx n ci : Nat} {b : q_ix} {av : List q_v} {st0 : List q_v} {fl : List (Option (Option q_ix))} {T : u_T} {N : Nat} {post1 : q_post} (hM : ∀ l, q_Ct l G J (.inr (some b) :: av) w S post1) (L : q_cv I.2.1.cls idx n J) (hst : st0 = av.reverse ++ .inr (some b) :: st) (hb : b ∈ w.1) (hsh : w.2.2 b = .inl (ci, fl)) (hC : vwCl[ci]? = some (J.2.1.cls, T, N)) (hn : av.length = n) (hR : q_rm I J) (hlen : st.length ≤ 8) (hf : cn.1 + J.2.2.2.2.cells ≤ I.2.2.2.2.cells ∧ cn.2 + J.2.2.2.2.slots ≤ I.2.2.2.2.slots) (hd : decode I.1 pc = .ok (.invokevirtual idx, 3))
    (hkeep : ∀ r w' S', post1 r w' S' → (∀ i : q_ix, (∃ k : Nat, ls[k]? = some (some (Sum.inr (some i)))) ∨ (Sum.inr (some i) : q_v) ∈ st → w'.2.1 i = w.2.1 i))
    (kk : ∀ r w' S', post1 r w' S' → q_W G X I w' (cn.1 + J.2.2.2.2.cells, cn.2 + J.2.2.2.2.slots) (pc + 3) ls (r.toList ++ st) S') : q_W G X I w cn pc ls st0 S := by
  obtain ⟨p, l, e, s, m, args, below, meth, c, A, Qf⟩ := X
  obtain ⟨hx, hbb, hml, hts, hown, hnm, hr, hlk, hK, hA⟩ := F
  obtain ⟨⟨c1, c2, c3, c4, c5, c6⟩, c7, c8⟩ := L
  intro H locs la hP hD hS hl
  obtain ⟨q0, hq⟩ := List.getElem?_of_mem hb
  have he := q_wl_at (S := S) hq
  rw [hsh] at he
  subst hst
  have cw : CallW I.2.2.2.2 s args I.2.1.cls J.2.1.cls idx J.2.1 J.1 J.2.2.1 J.2.2.2.1 (Cond.code J.2.1 J.1 J.2.2.1 J.2.2.2.1 :: q_ws) J.2.2.2.2 J.2.2.2.2.cells J.2.2.2.2.slots n :=
    ⟨callB_of n hts (q_gin c3) rfl rfl rfl (hts _ c2) (hts _ c1) ⟨c4, c5, c6⟩ hR, hts _ c7, hts _ c8⟩
  refine q_back (va_runV (As := av.map (q_val w.2.1)) (b := w.2.1 b) ⟨hx, hbb, hml, hown, hts⟩ (hM l H.size) cw ⟨fun a U g mk q => ?_, va_recv hK hP hC he, fun U hU hW => ⟨rfl, by rw [hU], by rw [hU]; exact hP, va_K.moved hW.alike hK, hD.weaken (fun _ _ _ _ => trivial)⟩⟩ rfl (by rw [List.length_map]; exact hn) hl.1 ?_ ?_ hd hf) hP hD hS hA hl hkeep kk
  · obtain ⟨q0, q1, qP, qK, qD⟩ := q
    exact ⟨q0, q1, qP, va_K.moved (u := U) (U := U.calling g mk a) (Vm.Alike.refl U.vm) qK, qD⟩
  · show List.map (q_val w.2.1) (av.reverse ++ .inr (some b) :: st) = _
    rw [List.map_append, List.map_reverse]
    rfl
  · exact lv_room (by rw [q_catsum]; exact hlen)
theorem q_callS (F : q_fx G X I) {J : q_in} {idx n : Nat} {av : List q_v} {st0 : List q_v} {post1 : q_post} (hM : ∀ l, q_Ct l G J av w S post1) (L : q_cs I.2.1.cls idx n J) (hst : st0 = av.reverse ++ st) (hn : av.length = n) (hR : q_rm I J) (hlen : st.length ≤ 8) (hf : cn.1 + J.2.2.2.2.cells ≤ I.2.2.2.2.cells ∧ cn.2 + J.2.2.2.2.slots ≤ I.2.2.2.2.slots) (hd : decode I.1 pc = .ok (.invokestatic idx, 3))
    (hkeep : ∀ r w' S', post1 r w' S' → (∀ i : q_ix, (∃ k : Nat, ls[k]? = some (some (Sum.inr (some i)))) ∨ (Sum.inr (some i) : q_v) ∈ st → w'.2.1 i = w.2.1 i))
    (kk : ∀ r w' S', post1 r w' S' → q_W G X I w' (cn.1 + J.2.2.2.2.cells, cn.2 + J.2.2.2.2.slots) (pc + 3) ls (r.toList ++ st) S') : q_W G X I w cn pc ls st0 S := by
  obtain ⟨p, l, e, s, m, args, below, meth, c, A, Qf⟩ := X
  obtain ⟨hx, hbb, hml, hts, hown, hnm, hr, hlk, hK, hA⟩ := F
  obtain ⟨⟨c1, c2, c3, c4, c5, c6⟩, c7⟩ := L
  intro H locs la hP hD hS hl
  subst hst
  have cw : CallB I.2.2.2.2 s args I.2.1.cls idx J.2.1 J.1 J.2.2.1 J.2.2.2.1 (Cond.code J.2.1 J.1 J.2.2.1 J.2.2.2.1 :: q_ws) J.2.2.2.2 J.2.2.2.2.cells J.2.2.2.2.slots n :=
    callB_of n hts (q_gin c3) rfl rfl rfl (hts _ c2) (hts _ c1) ⟨c4, c5, c6⟩ hR
  refine q_back (va_runS (As := av.map (q_val w.2.1)) ⟨hx, hbb, hml, hown, hts⟩ (hM l H.size) ⟨cw, hts _ c7⟩ ⟨fun a U g mk q => ?_, fun U hU hW => ⟨rfl, by rw [hU], by rw [hU]; exact hP, va_K.moved hW.alike hK, hD.weaken (fun _ _ _ _ => trivial)⟩⟩ rfl (by rw [List.length_map]; exact hn) hl.1 ?_ ?_ hd hf) hP hD hS hA hl hkeep kk
  · obtain ⟨q0, q1, qP, qK, qD⟩ := q
    exact ⟨q0, q1, qP, va_K.moved (u := U) (U := U.calling g mk a) (Vm.Alike.refl U.vm) qK, qD⟩
  · show List.map (q_val w.2.1) (av.reverse ++ st) = _
    rw [List.map_append, List.map_reverse]
  · exact lv_room (by rw [q_catsum]; exact hlen)
/-- calls of methods that make no cell -/
theorem q_callVi (F : q_fx G X I) {J : q_in} {idx n ci : Nat} {b : q_ix} {fl : List (Option (Option q_ix))} {T : u_T} {N : Nat} {P : Int32 → q_st → Prop} (av : List q_v) {st0 : List q_v} (hM : ∀ l, q_Ct l G J (.inr (some b) :: av) w S (q_pi w P)) (L : q_cv I.2.1.cls idx n J) (hst : st0 = av.reverse ++ .inr (some b) :: st) (hb : b ∈ w.1) (hsh : w.2.2 b = .inl (ci, fl)) (hC : vwCl[ci]? = some (J.2.1.cls, T, N)) (hn : av.length = n) (hR : q_rm I J) (hlen : st.length ≤ 8) (hf : J.2.2.2.2.cells = 0 ∧ J.2.2.2.2.slots = 0) (hc : cn.1 ≤ I.2.2.2.2.cells ∧ cn.2 ≤ I.2.2.2.2.slots) (hd : decode I.1 pc = .ok (.invokevirtual idx, 3))
    (kk : ∀ v S', P v S' → q_W G X I w cn (pc + 3) ls (.inl v :: st) S') : q_W G X I w cn pc ls st0 S := by
  refine q_callV F hM L hst hb hsh hC hn hR hlen (by rw [hf.1, hf.2]; exact hc) hd (fun r w' S' h i _ => by rw [h.1]) (fun r w' S' h => ?_)
  obtain ⟨rfl, v, rfl, h⟩ := h
  rw [hf.1, hf.2]
  exact kk v S' h
theorem q_callVv (F : q_fx G X I) {J : q_in} {idx n ci : Nat} {b : q_ix} {fl : List (Option (Option q_ix))} {T : u_T} {N : Nat} {P : q_st → Prop} (av : List q_v) {st0 : List q_v} (hM : ∀ l, q_Ct l G J (.inr (some b) :: av) w S (q_pv w P)) (L : q_cv I.2.1.cls idx n J) (hst : st0 = av.reverse ++ .inr (some b) :: st) (hb : b ∈ w.1) (hsh : w.2.2 b = .inl (ci, fl)) (hC : vwCl[ci]? = some (J.2.1.cls, T, N)) (hn : av.length = n) (hR : q_rm I J) (hlen : st.length ≤ 8) (hf : J.2.2.2.2.cells = 0 ∧ J.2.2.2.2.slots = 0) (hc : cn.1 ≤ I.2.2.2.2.cells ∧ cn.2 ≤ I.2.2.2.2.slots) (hd : decode I.1 pc = .ok (.invokevirtual idx, 3))
    (kk : ∀ S', P S' → q_W G X I w cn (pc + 3) ls st S') : q_W G X I w cn pc ls st0 S := by
  refine q_callV F hM L hst hb hsh hC hn hR hlen (by rw [hf.1, hf.2]; exact hc) hd (fun r w' S' h i _ => by rw [h.1]) (fun r w' S' h => ?_)
  obtain ⟨rfl, rfl, h⟩ := h
  rw [hf.1, hf.2]
  exact kk S' h
theorem q_callSi (F : q_fx G X I) {J : q_in} {idx n : Nat} {P : Int32 → q_st → Prop} (av : List q_v) {st0 : List q_v} (hM : ∀ l, q_Ct l G J av w S (q_pi w P)) (L : q_cs I.2.1.cls idx n J) (hst : st0 = av.reverse ++ st) (hn : av.length = n) (hR : q_rm I J) (hlen : st.length ≤ 8) (hf : J.2.2.2.2.cells = 0 ∧ J.2.2.2.2.slots = 0) (hc : cn.1 ≤ I.2.2.2.2.cells ∧ cn.2 ≤ I.2.2.2.2.slots) (hd : decode I.1 pc = .ok (.invokestatic idx, 3))
    (kk : ∀ v S', P v S' → q_W G X I w cn (pc + 3) ls (.inl v :: st) S') : q_W G X I w cn pc ls st0 S := by
  refine q_callS F hM L hst hn hR hlen (by rw [hf.1, hf.2]; exact hc) hd (fun r w' S' h i _ => by rw [h.1]) (fun r w' S' h => ?_)
  obtain ⟨rfl, v, rfl, h⟩ := h
  rw [hf.1, hf.2]
  exact kk v S' h
end QH
end
section
/-! counting, and the relation of the two memories: frames on one side, labels on the other -/
noncomputable def c_n (P : Nat → Prop) : Nat → Nat
  | 0 => 0
  | n + 1 => c_n P n + @ite Nat (P n) (Classical.propDecidable _) 1 0
theorem c_n_pos {P : Nat → Prop} {n : Nat} (h : P n) : c_n P (n + 1) = c_n P n + 1 := by
  show c_n P n + @ite Nat (P n) (Classical.propDecidable _) 1 0 = _
  rw [if_pos h]
theorem c_n_neg {P : Nat → Prop} {n : Nat} (h : ¬ P n) : c_n P (n + 1) = c_n P n := by
  show c_n P n + @ite Nat (P n) (Classical.propDecidable _) 1 0 = _
  rw [if_neg h]
  rfl
theorem c_n_congr {P Q : Nat → Prop} : ∀ {n : Nat}, (∀ i, i < n → (P i ↔ Q i)) → c_n P n = c_n Q n
  | 0, _ => rfl
  | n + 1, h => by
    have ih : c_n P n = c_n Q n := c_n_congr (fun i hi => h i (Nat.lt_succ_of_lt hi))
    by_cases hp : P n
    · rw [c_n_pos hp, c_n_pos ((h n (Nat.lt_succ_self n)).mp hp), ih]
    · rw [c_n_neg hp, c_n_neg (fun q => hp ((h n (Nat.lt_succ_self n)).mpr q)), ih]
theorem c_n_le (P : Nat → Prop) : ∀ n, c_n P n ≤ n
  | 0 => Nat.le_refl 0
  | n + 1 => by
    have ih := c_n_le P n
    by_cases hp : P n
    · rw [c_n_pos hp]; omega
    · rw [c_n_neg hp]; omega
theorem c_n_zero {P : Nat → Prop} : ∀ {n : Nat}, c_n P n = 0 ↔ ∀ i, i < n → ¬ P i
  | 0 => ⟨fun _ i hi => absurd hi (Nat.not_lt_zero i), fun _ => rfl⟩
  | n + 1 => by
    have ih := @c_n_zero P n
    by_cases hp : P n
    · rw [c_n_pos hp]
      exact ⟨fun h => by omega, fun h => absurd hp (h n (Nat.lt_succ_self n))⟩
    · rw [c_n_neg hp, ih]
      refine ⟨fun h i hi => ?_, fun h i hi => h i (Nat.lt_succ_of_lt hi)⟩
      by_cases hin : i = n
      · subst hin; exact hp
      · exact h i (by omega)
theorem c_n_full {P : Nat → Prop} : ∀ {n : Nat}, c_n P n = n ↔ ∀ i, i < n → P i
  | 0 => ⟨fun _ i hi => absurd hi (Nat.not_lt_zero i), fun _ => rfl⟩
  | n + 1 => by
    have ih := @c_n_full P n
    have hle := c_n_le P n
    by_cases hp : P n
    · rw [c_n_pos hp]
      constructor
      · intro h i hi
        by_cases hin : i = n
        · subst hin; exact hp
        · exact ih.mp (by omega) i (by omega)
      · intro h
        rw [ih.mpr (fun i hi => h i (Nat.lt_succ_of_lt hi))]
    · rw [c_n_neg hp]
      exact ⟨fun h => by omega, fun h => absurd (h n (Nat.lt_succ_self n)) hp⟩
/-- one place comes -/
theorem c_n_add {P Q : Nat → Prop} {k : Nat} (hP : ¬ P k) (hQ : Q k) (ho : ∀ i, i ≠ k → (P i ↔ Q i)) : ∀ {n : Nat}, k < n → c_n Q n = c_n P n + 1
  | 0, h => absurd h (Nat.not_lt_zero k)
  | n + 1, h => by
    by_cases hk : k = n
    · subst hk
      rw [c_n_pos hQ, c_n_neg hP, c_n_congr (fun i hi => ho i (by omega))]
    · have ih := c_n_add hP hQ ho (n := n) (by omega)
      by_cases hp : P n
      · rw [c_n_pos hp, c_n_pos ((ho n (by omega)).mp hp), ih]
      · rw [c_n_neg hp, c_n_neg (fun q => hp ((ho n (by omega)).mpr q)), ih]
theorem c_n_ex {P : Nat → Prop} {n k : Nat} (hk : k < n) (h : P k) : 0 < c_n P n := by
  rcases Nat.eq_zero_or_pos (c_n P n) with h0 | h0
  · exact absurd h (c_n_zero.mp h0 k hk)
  · exact h0
theorem c_n_one {P : Nat → Prop} {n k : Nat} (hk : k < n) (h : P k) (h1 : c_n P n = 1) : ∀ j, j < n → P j → j = k := by
  intro j hj hPj
  by_cases hjk : j = k
  · exact hjk
  · exfalso
    have e := c_n_add (P := fun i => P i ∧ i ≠ k) (Q := P) (k := k) (fun h => h.2 rfl) h (fun i hi => ⟨fun q => q.1, fun q => ⟨q, hi⟩⟩) hk
    have : c_n (fun i => P i ∧ i ≠ k) n = 0 := by omega
    exact c_n_zero.mp this j hj ⟨hPj, hjk⟩
/-- places that hold a value for the first time are as many as the values held -/
theorem c_n_first {f : Nat → Option Nat} {n : Nat} (hf : ∀ g v, f g = some v → v < n) : ∀ m, c_n (fun g => f g ≠ none ∧ ∀ j, j < g → f j ≠ f g) m = c_n (fun v => ∃ g, g < m ∧ f g = some v) n
  | 0 => by
    show 0 = _
    symm
    exact c_n_zero.mpr (fun i _ h => by obtain ⟨g, hg, -⟩ := h; omega)
  | m + 1 => by
    have ih := c_n_first hf m
    by_cases hp : f m ≠ none ∧ ∀ j, j < m → f j ≠ f m
    · rw [c_n_pos hp, ih]
      obtain ⟨h1, h2⟩ := hp
      cases hv : f m with
      | none => exact absurd hv h1
      | some v =>
        symm
        refine c_n_add (k := v) ?_ ⟨m, by omega, hv⟩ (fun i hi => ?_) (hf m v hv)
        · rintro ⟨g, hg, hgv⟩
          exact h2 g hg (by rw [hgv, hv])
        · constructor
          · rintro ⟨g, hg, hgv⟩
            exact ⟨g, by omega, hgv⟩
          · rintro ⟨g, hg, hgv⟩
            refine ⟨g, ?_, hgv⟩
            by_cases hgm : g = m
            · subst hgm
              rw [hv] at hgv
              exact absurd (Option.some.inj hgv).symm hi
            · omega
    · rw [c_n_neg hp, ih]
      refine c_n_congr (fun i _ => ?_)
      constructor
      · rintro ⟨g, hg, hgv⟩
        exact ⟨g, by omega, hgv⟩
      · rintro ⟨g, hg, hgv⟩
        by_cases hgm : g = m
        · subst hgm
          have : ∃ j, j < g ∧ f j = f g := by
            refine Classical.byContradiction fun hn => hp ⟨(by rw [hgv]; simp), fun j hj hjg => hn ⟨j, hj, hjg⟩⟩
          obtain ⟨j, hj, hjg⟩ := this
          exact ⟨j, hj, hjg.trans hgv⟩
        · exact ⟨g, by omega, hgv⟩
/-- the two memories: page g is in frame pg g (none: untouched); us: pages of each frame; cw: words of frames; lab: labels; wd: words of pages; L: no label is above it -/
def q_M (n : Nat) (pg : Nat → Option Nat) (us : Nat → Nat) (cw : Nat → Int32) (lab : Nat → Nat) (wd : Nat → Int32) (L : Nat) : Prop :=
  (∀ g f, pg g = some f → f < n ∧ g < 64) ∧ (∀ g, g < 64 → lab g ≤ L) ∧ (∀ g, g < 64 → (pg g = none ↔ lab g = 0)) ∧ (∀ g g', g < 64 → g' < 64 → lab g ≠ 0 → (pg g = pg g' ↔ lab g = lab g')) ∧ (∀ f, f < n → us f = c_n (fun g => pg g = some f) 64) ∧ (∀ g f k, pg g = some f → k < 8 → wd (8 * g + k) = cw (8 * f + k)) ∧ (∀ g k, g < 64 → pg g = none → k < 8 → wd (8 * g + k) = 0)
/-- page g goes alone into the free frame f, under the new label y -/
theorem q_M_move {n : Nat} {pg : Nat → Option Nat} {us us' : Nat → Nat} {cw cw' : Nat → Int32} {lab : Nat → Nat} {wd : Nat → Int32} {L g f y : Nat} (h : q_M n pg us cw lab wd L) (hg : g < 64) (hf : f < n) (hu : us f = 0) (hy : L < y)
    (hus : ∀ x, x < n → us' x = if x = f then 1 else if pg g = some x then us x - 1 else us x) (hcw : ∀ x, x / 8 ≠ f → cw' x = cw x) (hcf : ∀ k, k < 8 → cw' (8 * f + k) = wd (8 * g + k)) : q_M n (fun x => if x = g then some f else pg x) us' cw' (fun x => if x = g then y else lab x) wd y := by
  obtain ⟨h1, h2, h3, h4, h5, h6, h7⟩ := h
  have hfree : ∀ x, pg x ≠ some f := by
    intro x hx
    have h0 : c_n (fun g => pg g = some f) 64 = 0 := by rw [← h5 f hf]; exact hu
    exact c_n_zero.mp h0 x (h1 x f hx).2 hx
  refine ⟨?_, ?_, ?_, ?_, ?_, ?_, ?_⟩
  · intro x v hv
    by_cases hx : x = g
    · subst hx
      simp at hv
      subst hv
      exact ⟨hf, hg⟩
    · simp [hx] at hv
      exact h1 x v hv
  · intro x hx
    by_cases hxg : x = g
    · simp [hxg]
    · simp [hxg]
      have := h2 x hx
      omega
  · intro x hx
    by_cases hxg : x = g
    · simp [hxg]
      omega
    · simp [hxg]
      exact h3 x hx
  · intro x x' hx hx' hl
    by_cases hxg : x = g
    · by_cases hxg' : x' = g
      · simp [hxg, hxg']
      · have e1 := hfree x'
        have e2 := h2 x' hx'
        simp [hxg, hxg']
        constructor
        · intro q; exact absurd q.symm e1
        · intro q; omega
    · by_cases hxg' : x' = g
      · have e1 := hfree x
        have e2 := h2 x hx
        simp [hxg, hxg']
        constructor
        · intro q; exact absurd q e1
        · intro q; omega
      · simp [hxg, hxg'] at hl ⊢
        exact h4 x x' hx hx' hl
  · intro x hx
    rw [hus x hx]
    by_cases hxf : x = f
    · subst hxf
      rw [if_pos rfl]
      have h0 : c_n (fun g => pg g = some x) 64 = 0 := by rw [← h5 x hx]; exact hu
      have := c_n_add (P := fun g => pg g = some x) (Q := fun z => (if z = g then some x else pg z) = some x) (k := g) (hfree g) (by simp) (fun i hi => by simp [hi]) (n := 64) hg
      dsimp only
      omega
    · rw [if_neg hxf]
      by_cases hp : pg g = some x
      · rw [if_pos hp, h5 x hx]
        have := c_n_add (P := fun z => (if z = g then some f else pg z) = some x) (Q := fun g => pg g = some x) (k := g) (by simp; exact fun q => hxf q.symm) hp (fun i hi => by simp [hi]) (n := 64) hg
        dsimp only
        omega
      · rw [if_neg hp, h5 x hx]
        refine c_n_congr (fun i _ => ?_)
        by_cases hi : i = g
        · subst hi
          simp
          exact ⟨fun q => absurd q hp, fun q => absurd q.symm hxf⟩
        · simp [hi]
  · intro x v k hv hk
    by_cases hx : x = g
    · subst hx
      simp at hv
      subst hv
      exact (hcf k hk).symm
    · simp [hx] at hv
      rw [h6 x v k hv hk, hcw]
      intro q
      apply hfree x
      rw [hv]
      congr 1
      omega
  · intro x k hx hv hk
    by_cases hxg : x = g
    · simp [hxg] at hv
    · simp [hxg] at hv
      exact h7 x k hx hv hk
/-- page g is given back -/
theorem q_M_rel {n : Nat} {pg : Nat → Option Nat} {us us' : Nat → Nat} {cw : Nat → Int32} {lab : Nat → Nat} {wd wd' : Nat → Int32} {L g : Nat} (h : q_M n pg us cw lab wd L) (hg : g < 64)
    (hus : ∀ x, x < n → us' x = if pg g = some x then us x - 1 else us x) (hwd : ∀ x, wd' x = if x / 8 = g then 0 else wd x) : q_M n (fun x => if x = g then none else pg x) us' cw (fun x => if x = g then 0 else lab x) wd' L := by
  obtain ⟨h1, h2, h3, h4, h5, h6, h7⟩ := h
  refine ⟨?_, ?_, ?_, ?_, ?_, ?_, ?_⟩
  · intro x v hv
    by_cases hx : x = g
    · simp [hx] at hv
    · simp [hx] at hv
      exact h1 x v hv
  · intro x hx
    by_cases hxg : x = g
    · simp [hxg]
    · simp [hxg]
      exact h2 x hx
  · intro x hx
    by_cases hxg : x = g
    · simp [hxg]
    · simp [hxg]
      exact h3 x hx
  · intro x x' hx hx' hl
    by_cases hxg : x = g
    · simp [hxg] at hl
    · simp [hxg] at hl
      by_cases hxg' : x' = g
      · simp [hxg, hxg']
        have := h3 x hx
        constructor
        · intro q; exact absurd (this.mp q) hl
        · intro q; exact absurd q hl
      · simp [hxg, hxg']
        exact h4 x x' hx hx' hl
  · intro x hx
    rw [hus x hx]
    by_cases hp : pg g = some x
    · rw [if_pos hp, h5 x hx]
      have := c_n_add (P := fun z => (if z = g then none else pg z) = some x) (Q := fun g => pg g = some x) (k := g) (by simp) hp (fun i hi => by simp [hi]) (n := 64) hg
      dsimp only
      omega
    · rw [if_neg hp, h5 x hx]
      refine c_n_congr (fun i _ => ?_)
      by_cases hi : i = g
      · subst hi
        simp [hp]
      · simp [hi]
  · intro x v k hv hk
    by_cases hx : x = g
    · simp [hx] at hv
    · simp [hx] at hv
      rw [hwd, if_neg (by omega)]
      exact h6 x v k hv hk
  · intro x k hx hv hk
    rw [hwd]
    by_cases hxg : x = g
    · rw [if_pos (by omega)]
    · simp [hxg] at hv
      rw [if_neg (by omega)]
      exact h7 x k hx hv hk
/-- a word is written into a page that is alone in its frame -/
theorem q_M_put {n : Nat} {pg : Nat → Option Nat} {us : Nat → Nat} {cw cw' : Nat → Int32} {lab : Nat → Nat} {wd wd' : Nat → Int32} {L g f k : Nat} {v : Int32} (h : q_M n pg us cw lab wd L) (hp : pg g = some f) (hu : us f = 1) (hk : k < 8)
    (hcw : ∀ x, cw' x = if x = 8 * f + k then v else cw x) (hwd : ∀ x, wd' x = if x = 8 * g + k then v else wd x) : q_M n pg us cw' lab wd' L := by
  obtain ⟨h1, h2, h3, h4, h5, h6, h7⟩ := h
  obtain ⟨hf, hg⟩ := h1 g f hp
  have hone : ∀ x, pg x = some f → x = g := fun x hx => c_n_one (P := fun g => pg g = some f) hg hp (by rw [← h5 f hf]; exact hu) x (h1 x f hx).2 hx
  refine ⟨h1, h2, h3, h4, h5, ?_, ?_⟩
  · intro x u j hx hj
    rw [hcw, hwd]
    by_cases hxg : x = g
    · subst hxg
      rw [hp] at hx
      cases hx
      by_cases hjk : j = k
      · subst hjk
        rw [if_pos rfl, if_pos rfl]
      · rw [if_neg (by omega), if_neg (by omega)]
        exact h6 x f j hp hj
    · rw [if_neg (by omega)]
      rw [if_neg]
      · exact h6 x u j hx hj
      · intro q
        apply hxg
        apply hone
        rw [hx]
        congr 1
        omega
  · intro x j hx hv hj
    rw [hwd, if_neg]
    · exact h7 x j hx hv hj
    · intro q
      have : x = g := by omega
      subst this
      rw [hp] at hv
      cases hv
/-- page g' comes into the class of page g -/
theorem q_M_share {n : Nat} {pg : Nat → Option Nat} {us us' : Nat → Nat} {cw : Nat → Int32} {lab : Nat → Nat} {wd wd' : Nat → Int32} {L g g' : Nat} (h : q_M n pg us cw lab wd L) (hg : g < 64) (hg' : g' < 64) (hne : g ≠ g') (hp : pg g' = none)
    (hus : ∀ x, x < n → us' x = if pg g = some x then us x + 1 else us x) (hwd : ∀ x, wd' x = if x / 8 = g' then wd (8 * g + x % 8) else wd x) : q_M n (fun x => if x = g' then pg g else pg x) us' cw (fun x => if x = g' then lab g else lab x) wd' L := by
  obtain ⟨h1, h2, h3, h4, h5, h6, h7⟩ := h
  refine ⟨?_, ?_, ?_, ?_, ?_, ?_, ?_⟩
  · intro x v hv
    by_cases hx : x = g'
    · simp [hx] at hv
      exact ⟨(h1 g v hv).1, by omega⟩
    · simp [hx] at hv
      exact h1 x v hv
  · intro x hx
    by_cases hxg : x = g'
    · simp [hxg]
      exact h2 g hg
    · simp [hxg]
      exact h2 x hx
  · intro x hx
    by_cases hxg : x = g'
    · simp [hxg]
      exact h3 g hg
    · simp [hxg]
      exact h3 x hx
  · intro x x' hx hx' hl
    by_cases hxg : x = g' <;> by_cases hxg' : x' = g'
    · simp [hxg, hxg']
    · simp [hxg] at hl
      simp [hxg, hxg']
      exact h4 g x' hg hx' hl
    · simp [hxg] at hl
      simp [hxg, hxg']
      exact h4 x g hx hg hl
    · simp [hxg] at hl
      simp [hxg, hxg']
      exact h4 x x' hx hx' hl
  · intro x hx
    rw [hus x hx]
    by_cases hpg : pg g = some x
    · rw [if_pos hpg, h5 x hx]
      exact (c_n_add (P := fun g => pg g = some x) (Q := fun z => (if z = g' then pg g else pg z) = some x) (k := g') (by rw [hp]; exact fun q => by cases q) (by simp [hpg]) (fun i hi => by simp [hi]) (n := 64) hg').symm
    · rw [if_neg hpg, h5 x hx]
      refine c_n_congr (fun i _ => ?_)
      by_cases hi : i = g'
      · subst hi
        simp [hp, hpg]
      · simp [hi]
  · intro x v k hv hk
    rw [hwd]
    by_cases hx : x = g'
    · simp [hx] at hv
      rw [if_pos (by omega), show (8 * x + k) % 8 = k by omega]
      exact h6 g v k hv hk
    · simp [hx] at hv
      rw [if_neg (by omega)]
      exact h6 x v k hv hk
  · intro x k hx hv hk
    rw [hwd]
    by_cases hxg : x = g'
    · simp [hxg] at hv
      rw [if_pos (by omega), show (8 * x + k) % 8 = k by omega]
      exact h7 g k hg hv hk
    · simp [hxg] at hv
      rw [if_neg (by omega)]
      exact h7 x k hx hv hk
/-- labels counted for the first time are the frames in use -/
theorem q_M_frames {n : Nat} {pg : Nat → Option Nat} {us : Nat → Nat} {cw : Nat → Int32} {lab : Nat → Nat} {wd : Nat → Int32} {L : Nat} (h : q_M n pg us cw lab wd L) : c_n (fun g => 0 < lab g ∧ ∀ j, j < g → lab j ≠ lab g) 64 = c_n (fun f => us f ≠ 0) n := by
  obtain ⟨h1, h2, h3, h4, h5, h6, h7⟩ := h
  have e := c_n_first (f := pg) (n := n) (fun g v hv => (h1 g v hv).1) 64
  have e1 : c_n (fun g => 0 < lab g ∧ ∀ j, j < g → lab j ≠ lab g) 64 = c_n (fun g => pg g ≠ none ∧ ∀ j, j < g → pg j ≠ pg g) 64 := by
    refine c_n_congr (fun g hg => ?_)
    have a := h3 g hg
    constructor
    · rintro ⟨b1, b2⟩
      refine ⟨fun q => ?_, fun j hj q => ?_⟩
      · have := a.mp q; omega
      · exact b2 j hj ((h4 g j hg (by omega) (by omega)).mp q.symm).symm
    · rintro ⟨b1, b2⟩
      have hl : lab g ≠ 0 := fun q => b1 (a.mpr q)
      refine ⟨by omega, fun j hj q => ?_⟩
      exact b2 j hj ((h4 g j hg (by omega) hl).mpr q.symm).symm
  rw [e1, e]
  refine c_n_congr (fun f hf => ?_)
  rw [h5 f hf]
  constructor
  · rintro ⟨g, hg, hgf⟩ h0
    exact c_n_zero.mp h0 g hg hgf
  · intro hne
    refine Classical.byContradiction fun hn => hne (c_n_zero.mpr (fun i hi hif => hn ⟨i, hi, hif⟩))
/-- the pages with page g's label are as many as its frame has users -/
theorem q_M_sharers {n : Nat} {pg : Nat → Option Nat} {us : Nat → Nat} {cw : Nat → Int32} {lab : Nat → Nat} {wd : Nat → Int32} {L g f : Nat} (h : q_M n pg us cw lab wd L) (hp : pg g = some f) : c_n (fun k => 0 < lab g ∧ lab k = lab g) 64 = us f := by
  obtain ⟨h1, h2, h3, h4, h5, h6, h7⟩ := h
  obtain ⟨hf, hg⟩ := h1 g f hp
  have hl : lab g ≠ 0 := fun q => by
    have := (h3 g hg).mpr q
    rw [hp] at this
    cases this
  rw [h5 f hf]
  refine c_n_congr (fun i hi => ?_)
  constructor
  · rintro ⟨-, b⟩
    rw [← hp]
    exact ((h4 g i hg hi hl).mpr b.symm).symm
  · intro b
    exact ⟨by omega, ((h4 g i hg hi hl).mp (by rw [hp, b])).symm⟩
end
section
/-! the reference as functions over its own ints: K 0: its object's fields by slot; 1 image, 2 states, 3 parents, 4 codes, 5 registers, 6 counters, 7 breaks, 8 words, 9 labels, 10 shown -/
abbrev k_t : Type := Nat → Nat → Int32
def k_u (K : k_t) (a i : Nat) (v : Int32) : k_t := fun b j => if b = a ∧ j = i then v else K b j
/-- the store with the reference's part K -/
def q_put (S : q_st) (K : k_t) : q_st := fun i j => if 20 ≤ i.1 ∧ i.2 = 0 then K (i.1 - 20) j else S i j
theorem q_put_up (S : q_st) (K : k_t) (a k : Nat) (v : Int32) : q_up (q_put S K) (a + 20, 0) k v = q_put S (k_u K a k v) := by
  funext i j
  obtain ⟨i1, i2⟩ := i
  by_cases h : i1 = a + 20 ∧ i2 = 0
  · obtain ⟨rfl, rfl⟩ := h
    simp [q_up, q_put, k_u]
  · by_cases h2 : 20 ≤ i1 ∧ i2 = 0
    · have h3 : ¬ (i1 = a + 20) := fun q => h ⟨q, h2.2⟩
      have h4 : ¬ (i1 - 20 = a) := by omega
      simp [q_up, q_put, k_u, h2, h3, h4]
    · have h3 : ¬ ((i1, i2) = (a + 20, 0)) := fun q => h ⟨congrArg Prod.fst q, congrArg Prod.snd q⟩
      simp only [q_up, q_put, if_neg h2, h3, false_and, if_false]
theorem q_put_at (S : q_st) (K : k_t) (a k : Nat) : q_put S K (a + 20, 0) k = K a k := by
  simp [q_put]
/-- the first below n -/
noncomputable def f_st (P : Nat → Prop) : Nat → Option Nat
  | 0 => none
  | n + 1 => match f_st P n with
    | some p => some p
    | none => @ite _ (P n) (Classical.propDecidable _) (some n) none
theorem f_st_none {P : Nat → Prop} : ∀ {n : Nat}, (∀ i, i < n → ¬ P i) → f_st P n = none
  | 0, _ => rfl
  | n + 1, h => by
    have ih : f_st P n = none := f_st_none (fun i hi => h i (Nat.lt_succ_of_lt hi))
    simp only [f_st, ih]
    rw [if_neg (h n (Nat.lt_succ_self n))]
theorem f_st_some {P : Nat → Prop} {k : Nat} (hk : P k) (hl : ∀ i, i < k → ¬ P i) : ∀ {n : Nat}, k < n → f_st P n = some k
  | 0, h => absurd h (Nat.not_lt_zero k)
  | n + 1, h => by
    by_cases hkn : k = n
    · subst hkn
      simp only [f_st, f_st_none hl]
      rw [if_pos hk]
    · have ih : f_st P n = some k := f_st_some hk hl (n := n) (by omega)
      simp only [f_st, ih]
theorem f_st_spec {P : Nat → Prop} : ∀ (n : Nat), (f_st P n = none ∧ ∀ i, i < n → ¬ P i) ∨ ∃ k, f_st P n = some k ∧ k < n ∧ P k ∧ ∀ i, i < k → ¬ P i := by
  intro n
  by_cases h : ∃ k, k < n ∧ P k
  · obtain ⟨k, ⟨h1, h2⟩, h3⟩ := pk_least (fun k => k < n ∧ P k) h
    have h4 : ∀ i, i < k → ¬ P i := fun i hi hp => h3 i hi ⟨by omega, hp⟩
    exact Or.inr ⟨k, f_st_some h2 h4 h1, h1, h2, h4⟩
  · have h4 : ∀ i, i < n → ¬ P i := fun i hi hp => h ⟨i, hi, hp⟩
    exact Or.inl ⟨f_st_none h4, h4⟩
theorem f_st_congr {P Q : Nat → Prop} {n : Nat} (h : ∀ i, i < n → (P i ↔ Q i)) : f_st P n = f_st Q n := by
  rcases f_st_spec (P := P) n with ⟨h1, h2⟩ | ⟨k, h1, h2, h3, h4⟩
  · rw [h1, f_st_none (fun i hi hq => h2 i hi ((h i hi).mpr hq))]
  · rw [h1, f_st_some ((h k h2).mp h3) (fun i hi hq => h4 i hi ((h i (by omega)).mpr hq)) h2]
/-- a number or none, as the programs write it -/
def q_fe (o : Option Nat) : Int32 := match o with
  | none => -1
  | some f => nI f
noncomputable def k_fr (K : k_t) : Nat := c_n (fun g => 0 < (K 9 g).toInt ∧ ∀ j, j < g → ¬ K 9 j = K 9 g) 64
noncomputable def k_sh (K : k_t) (g : Nat) : Nat := c_n (fun k => 0 < (K 9 g).toInt ∧ K 9 k = K 9 g) 64
noncomputable def k_al (K : k_t) (g : Nat) : Bool × k_t := @ite _ (nI (k_fr K) = K 0 0) (Classical.propDecidable _) (false, k_u K 0 14 (-13)) (true, k_u (k_u K 0 11 (K 0 11 + 1)) 9 g (K 0 11 + 1))
/-- page g is reached: for a write it must be alone in its class -/
noncomputable def k_pg (K : k_t) (g : Nat) (wr : Bool) : Bool × k_t := @ite _ (0 < k_sh K g ∧ (wr = false ∨ k_sh K g = 1)) (Classical.propDecidable _) (true, K) (k_al K g)
noncomputable def k_re (K : k_t) (p : Nat) (a : Int32) (wr : Bool) : Bool × k_t := @ite _ (a.toInt < 0 ∨ (K 7 p).toInt ≤ a.toInt) (Classical.propDecidable _) (false, k_u K 0 14 (-11)) (k_pg K (8 * p + a.toInt.toNat / 8) wr)
def k_rl (K : k_t) (g : Nat) : k_t := fun a j => if a = 9 ∧ j = g then 0 else if a = 8 ∧ j / 8 = g then 0 else K a j
/-- the process's own part of end: zombie, its code, its pages given back, its children without a parent -/
def k_en0 (K : k_t) (p : Nat) (code : Int32) : k_t := fun a j => if a = 2 ∧ j = p then nI 3 else if a = 4 ∧ j = p then code else if a = 9 ∧ j / 8 = p then 0 else if a = 8 ∧ j / 64 = p then 0 else if a = 3 ∧ j < 8 ∧ K 3 j = nI p then -1 else K a j
def k_en (K : k_t) (p : Nat) (code : Int32) : k_t := if k_en0 K p code 3 p ≠ -1 ∧ k_en0 K p code 2 (k_en0 K p code 3 p).toInt.toNat = nI 2 then k_u (k_en0 K p code) 2 (k_en0 K p code 3 p).toInt.toNat (nI 1) else k_en0 K p code
def k_free (K : k_t) (p : Nat) : k_t := k_u (k_u K 2 p 0) 3 p (-1)
/-- where the search for the next ready process begins -/
def k_fm (K : k_t) : Nat := if K 0 12 = -1 then 0 else (K 0 12).toInt.toNat + 1
def k_on (K : k_t) : Prop := K 0 12 ≠ -1 ∧ K 2 (K 0 12).toInt.toNat = nI 1 ∧ (K 0 13).toInt < (K 0 1).toInt
noncomputable def k_ch (K : k_t) : Bool × k_t := @ite _ (k_on K) (Classical.propDecidable _) (true, K)
  (match f_st (fun k => K 2 ((k_fm K + k) % 8) = nI 1) 8 with
    | some k => (true, k_u (k_u K 0 12 (nI ((k_fm K + k) % 8))) 0 13 0)
    | none => (false, k_u K 0 12 (-1)))
noncomputable def k_ff (K : k_t) : Option Nat := f_st (fun p => K 2 p = 0) 8
def k_fk0 (K : k_t) (p a c : Nat) : k_t := fun b j => if b = 2 ∧ j = c then nI 1 else if b = 3 ∧ j = c then nI p else if b = 6 ∧ j = c then K 6 p else if b = 7 ∧ j = c then K 7 p else if b = 5 ∧ j / 8 = c then (if j % 8 = a then 0 else K 5 (8 * p + j % 8)) else if b = 9 ∧ j / 8 = c then K 9 (8 * p + j % 8) else if b = 8 ∧ j / 64 = c then K 8 (64 * p + j % 64) else K b j
noncomputable def k_fk (K : k_t) (p a : Nat) : Int32 × k_t := match k_ff K with
  | none => (nI 1, k_u K 5 (8 * p + a) (-1))
  | some c => (nI 3, k_u (k_fk0 K p a c) 5 (8 * p + a) (nI c))
/-- the words of process p from address b to the end of its page become 0 -/
def k_cl (K : k_t) (p b : Nat) : k_t := fun a j => if a = 8 ∧ 64 * p + b ≤ j ∧ j < 64 * p + 8 * (b / 8 + 1) then 0 else K a j
def k_gr0 (K : k_t) (p a b : Nat) : k_t := fun c j => if c = 9 ∧ j / 8 = p ∧ b ≤ 8 * (j % 8) then 0 else if c = 8 ∧ j / 64 = p ∧ b ≤ 8 * (j % 64 / 8) then 0 else k_u (k_u K 5 (8 * p + a) (K 7 p)) 7 p (nI b) c j
noncomputable def k_gr1 (K : k_t) (p b : Nat) : k_t := @ite _ (k_sh K (8 * p + b / 8) = 1) (Classical.propDecidable _) (k_cl K p b) (if (k_al K (8 * p + b / 8)).1 = true then k_cl (k_al K (8 * p + b / 8)).2 p b else (k_al K (8 * p + b / 8)).2)
noncomputable def k_gr (K : k_t) (p a : Nat) (c : Int32) : k_t :=
  @ite _ ((K 7 p + c).toInt < 0 ∨ 64 < (K 7 p + c).toInt) (Classical.propDecidable _) (k_u K 5 (8 * p + a) (-1))
    (@ite _ ((K 7 p + c).toInt < (K 7 p).toInt ∧ (K 7 p + c).toInt.toNat % 8 ≠ 0 ∧ 0 < (K 9 (8 * p + (K 7 p + c).toInt.toNat / 8)).toInt) (Classical.propDecidable _)
      (k_gr1 (k_gr0 K p a (K 7 p + c).toInt.toNat) p (K 7 p + c).toInt.toNat) (k_gr0 K p a (K 7 p + c).toInt.toNat))
def k_cd (K : k_t) (p k : Nat) : Prop := ¬ K 2 k = 0 ∧ K 3 k = nI p
noncomputable def k_aw (K : k_t) (p a : Nat) : Int32 × k_t := match f_st (fun k => k_cd K p k ∧ K 2 k = nI 3) 8 with
  | some z => (nI 1, k_free (k_u K 5 (8 * p + a) (K 4 z)) z)
  | none => @ite _ (∃ k, k < 8 ∧ k_cd K p k) (Classical.propDecidable _) (nI 4, k_u (k_u K 2 p (nI 2)) 6 p (K 6 p - 1)) (nI 1, k_u K 5 (8 * p + a) (-1))
/-- a load of a word, a store of a word -/
noncomputable def k_ld (K : k_t) (p a : Nat) (ad : Int32) : k_t := if (k_re K p ad false).1 = true then k_u (k_re K p ad false).2 5 (8 * p + a) ((k_re K p ad false).2 8 (64 * p + ad.toInt.toNat)) else (k_re K p ad false).2
noncomputable def k_so (K : k_t) (p a : Nat) (ad : Int32) : k_t := if (k_re K p ad true).1 = true then k_u (k_re K p ad true).2 8 (64 * p + ad.toInt.toNat) (K 5 (8 * p + a)) else (k_re K p ad true).2
def k_pr (K : k_t) (x : Int32) : k_t := k_u (k_u K 10 ((K 0 15).toInt.toNat % 32) x) 0 15 (K 0 15 + 1)
noncomputable def k_op (K : k_t) (p op a b : Nat) (c : Int32) : Int32 × k_t :=
  if op = 0 then (nI 1, k_u K 5 (8 * p + a) c)
  else if op = 1 then (nI 1, k_u K 5 (8 * p + a) (K 5 (8 * p + a) + K 5 (8 * p + b) + c))
  else if op = 2 then (nI 1, k_u K 5 (8 * p + a) (K 5 (8 * p + a) - K 5 (8 * p + b)))
  else if op = 3 then (nI 1, k_ld K p a (K 5 (8 * p + b) + c))
  else if op = 4 then (nI 1, k_so K p a (K 5 (8 * p + b) + c))
  else if op = 5 then (nI 1, if K 5 (8 * p + a) ≠ 0 then k_u K 6 p c else K)
  else if op = 6 then (nI 1, if (K 5 (8 * p + a)).toInt < (K 5 (8 * p + b)).toInt then k_u K 6 p c else K)
  else if op = 7 then (nI 2, k_pr K (K 5 (8 * p + a)))
  else if op = 8 then k_fk K p a
  else if op = 9 then (nI 1, k_gr K p a c)
  else if op = 10 then (nI 5, k_en K p (K 5 (8 * p + a)))
  else if op = 11 then k_aw K p a
  else if op = 12 then (nI 1, k_u K 0 13 (K 0 1))
  else if op = 13 then (nI 1, k_u K 5 (8 * p + a) (nI p))
  else (nI 1, k_u K 0 14 (-12))
/-- one step -/
noncomputable def k_dn (K : k_t) (p : Nat) (w : Int32) : Int32 × k_t := k_op K p (w &&& 15).toInt.toNat ((w >>> 4) &&& 7).toInt.toNat ((w >>> 7) &&& 7).toInt.toNat (w >>> 10)
noncomputable def k_s2 (K : k_t) (p : Nat) (r : Int32 × k_t) : Int32 × k_t := if r.2 0 14 = 0 then r else (nI 5, k_en r.2 p (r.2 0 14))
noncomputable def k_s1 (K : k_t) (p : Nat) : Int32 × k_t := if (k_re K p (K 6 p) false).1 = true then k_s2 K p (k_dn (k_u (k_re K p (K 6 p) false).2 6 p (K 6 p + 1)) p ((k_re K p (K 6 p) false).2 8 (64 * p + (K 6 p).toInt.toNat))) else (nI 5, k_en (k_re K p (K 6 p) false).2 p ((k_re K p (K 6 p) false).2 0 14))
noncomputable def k_s (K : k_t) : Int32 × k_t := if (k_ch K).1 = true then k_s1 (k_u (k_u (k_ch K).2 0 13 ((k_ch K).2 0 13 + 1)) 0 14 0) ((k_ch K).2 0 12).toInt.toNat else (0, (k_ch K).2)
/-- at most n steps, till one is idle -/
noncomputable def k_ss : Nat → k_t → Nat × k_t
  | 0, K => (0, K)
  | n + 1, K => if (k_ss n K).1 = n ∧ (k_s (k_ss n K).2).1 ≠ 0 then (n + 1, (k_s (k_ss n K).2).2) else if (k_ss n K).1 = n then (n, (k_s (k_ss n K).2).2) else k_ss n K
def k_ld0 (K : k_t) (p n : Nat) (L : Int32) : k_t := fun a j => if a = 2 ∧ j = p then nI 1 else if a = 3 ∧ j = p then -1 else if a = 6 ∧ j = p then 0 else if a = 7 ∧ j = p then nI n else if a = 5 ∧ j / 8 = p then 0 else if a = 8 ∧ j / 64 = p then (if j % 64 < n then K 1 (j % 64) else 0) else if a = 9 ∧ j / 8 = p then (if j % 8 < (n + 7) / 8 then L + nI (j % 8 + 1) else 0) else if a = 0 ∧ j = 11 then L + nI 8 else K a j
end
section
/-! the two memories as they stand in the cells -/
def q_R (S : q_st) (K : k_t) (n : Nat) (pg : Nat → Option Nat) (us lab : Nat → Nat) (L : Nat) : Prop :=
  (2 ≤ n ∧ n ≤ 32) ∧ q_M n pg us (S (2, 0)) lab (K 8) L ∧ (∀ p i, p < 8 → i < 8 → S (7, p) i = q_fe (pg (8 * p + i))) ∧ (∀ f, f < n → S (3, 0) f = nI (us f)) ∧ S (1, 0) 3 = nI (c_n (fun f => us f ≠ 0) n) ∧ S (1, 0) 0 = nI n ∧ K 0 0 = nI n ∧ (∀ g, g < 64 → K 9 g = nI (lab g)) ∧ K 0 11 = nI L ∧ L < 2 ^ 30
theorem q_R_us {S : q_st} {K : k_t} {n : Nat} {pg : Nat → Option Nat} {us lab : Nat → Nat} {L : Nat} (h : q_R S K n pg us lab L) {f : Nat} (hf : f < n) : us f ≤ 64 := by
  rw [h.2.1.2.2.2.2.1 f hf]
  exact c_n_le _ _
theorem q_R_us1 {S : q_st} {K : k_t} {n : Nat} {pg : Nat → Option Nat} {us lab : Nat → Nat} {L : Nat} (h : q_R S K n pg us lab L) {g f : Nat} (hp : pg g = some f) : 0 < us f := by
  obtain ⟨hf, hg⟩ := h.2.1.1 g f hp
  rw [h.2.1.2.2.2.2.1 f hf]
  exact c_n_ex (P := fun g => pg g = some f) hg hp
theorem q_R_move {S S' : q_st} {K : k_t} {n : Nat} {pg : Nat → Option Nat} {us lab : Nat → Nat} {L p i f : Nat} (h : q_R S K n pg us lab L) (hp : p < 8) (hi : i < 8) (hf : f < n) (hu : us f = 0) (hL : L + 1 < 2 ^ 30) (h2 : ∀ x, pg (8 * p + i) = some x → 2 ≤ us x)
    (e7 : ∀ p' i', p' < 8 → i' < 8 → S' (7, p') i' = if 8 * p' + i' = 8 * p + i then nI f else S (7, p') i')
    (e3 : ∀ x, x < n → S' (3, 0) x = if x = f then nI 1 else if pg (8 * p + i) = some x then nI (us x - 1) else S (3, 0) x)
    (e1 : S' (1, 0) 3 = S (1, 0) 3 + 1) (e0 : S' (1, 0) 0 = S (1, 0) 0) (ew : ∀ x, x / 8 ≠ f → S' (2, 0) x = S (2, 0) x) (ef : ∀ k, k < 8 → S' (2, 0) (8 * f + k) = K 8 (8 * (8 * p + i) + k)) :
    q_R S' (k_u (k_u K 0 11 (K 0 11 + 1)) 9 (8 * p + i) (K 0 11 + 1)) n (fun x => if x = 8 * p + i then some f else pg x) (fun x => if x = f then 1 else if pg (8 * p + i) = some x then us x - 1 else us x) (fun x => if x = 8 * p + i then L + 1 else lab x) (L + 1) := by
  obtain ⟨hn, hM, h7, h3, h1, h0, hK0, h9, hl, hL0⟩ := h
  refine ⟨hn, ?_, ?_, ?_, ?_, ?_, ?_, ?_, ?_, hL⟩
  · exact q_M_move (cw := S (2, 0)) (wd := K 8) hM (by omega) hf hu (Nat.lt_succ_self L) (fun x hx => rfl) ew ef
  · intro p' i' hp' hi'
    rw [e7 p' i' hp' hi']
    by_cases hx : 8 * p' + i' = 8 * p + i
    · simp [hx, q_fe]
    · simp [hx]
      exact h7 p' i' hp' hi'
  · intro x hx
    rw [e3 x hx]
    by_cases hxf : x = f
    · simp [hxf]
    · by_cases hpx : pg (8 * p + i) = some x
      · simp [hxf, hpx]
      · simp [hxf, hpx]
        exact h3 x hx
  · rw [e1, h1, nI_1]
    congr 1
    symm
    refine c_n_add (k := f) (by simp [hu]) (by simp) (fun x hx => ?_) hf
    by_cases hpx : pg (8 * p + i) = some x
    · have := h2 x hpx
      simp [hx, hpx]
      omega
    · simp [hx, hpx]
  · rw [e0]; exact h0
  · simp [k_u, hK0]
  · intro g hg
    by_cases hx : g = 8 * p + i
    · simp [k_u, hx, hl, nI_1]
    · simp [k_u, hx]
      exact h9 g hg
  · simp [k_u, hl, nI_1]
theorem q_R_rel {S S' : q_st} {K K' : k_t} {n : Nat} {pg : Nat → Option Nat} {us lab : Nat → Nat} {L p i : Nat} (h : q_R S K n pg us lab L) (hp : p < 8) (hi : i < 8)
    (e7 : ∀ p' i', p' < 8 → i' < 8 → S' (7, p') i' = if 8 * p' + i' = 8 * p + i then -1 else S (7, p') i')
    (e3 : ∀ x, x < n → S' (3, 0) x = if pg (8 * p + i) = some x then nI (us x - 1) else S (3, 0) x)
    (e1 : S' (1, 0) 3 = if ∃ x, pg (8 * p + i) = some x ∧ us x = 1 then S (1, 0) 3 - 1 else S (1, 0) 3) (e0 : S' (1, 0) 0 = S (1, 0) 0) (ew : S' (2, 0) = S (2, 0))
    (k0 : K' 0 = K 0) (k9 : ∀ g, K' 9 g = if g = 8 * p + i then 0 else K 9 g) (k8 : ∀ x, K' 8 x = if x / 8 = 8 * p + i then 0 else K 8 x) :
    q_R S' K' n (fun x => if x = 8 * p + i then none else pg x) (fun x => if pg (8 * p + i) = some x then us x - 1 else us x) (fun x => if x = 8 * p + i then 0 else lab x) L := by
  have hall := h
  obtain ⟨hn, hM, h7, h3, h1, h0, hK0, h9, hl, hL0⟩ := h
  refine ⟨hn, ?_, ?_, ?_, ?_, ?_, ?_, ?_, ?_, hL0⟩
  · rw [ew]
    exact q_M_rel (cw := S (2, 0)) (wd := K 8) hM (by omega) (fun x hx => rfl) k8
  · intro p' i' hp' hi'
    rw [e7 p' i' hp' hi']
    by_cases hx : 8 * p' + i' = 8 * p + i
    · simp [hx, q_fe]
    · simp [hx]
      exact h7 p' i' hp' hi'
  · intro x hx
    rw [e3 x hx]
    by_cases hpx : pg (8 * p + i) = some x
    · simp [hpx]
    · simp [hpx]
      exact h3 x hx
  · rw [e1]
    cases hpg : pg (8 * p + i) with
    | none =>
      simp
      exact h1
    | some y =>
      have hy := (hM.1 _ _ hpg).1
      have hy1 := q_R_us1 hall hpg
      by_cases h1y : us y = 1
      · rw [if_pos ⟨y, rfl, h1y⟩, h1]
        have := c_n_add (P := fun x => (if some y = some x then us x - 1 else us x) ≠ 0) (Q := fun f => us f ≠ 0) (k := y) (by simp [h1y]) (by omega) (fun x hx => by simp [Ne.symm hx]) hy
        rw [this]
        exact nI_pred _
      · rw [if_neg (by rintro ⟨x, hx, hx1⟩; cases hx; exact h1y hx1), h1]
        congr 1
        refine c_n_congr (fun x _ => ?_)
        by_cases hxy : y = x
        · subst hxy
          simp
          omega
        · simp [hxy]
  · rw [e0]; exact h0
  · rw [k0]; exact hK0
  · intro g hg
    rw [k9]
    by_cases hx : g = 8 * p + i
    · simp [hx]
      rfl
    · simp [hx]
      exact h9 g hg
  · rw [k0]; exact hl
theorem q_R_put {S S' : q_st} {K K' : k_t} {n : Nat} {pg : Nat → Option Nat} {us lab : Nat → Nat} {L g f k : Nat} {v : Int32} (h : q_R S K n pg us lab L) (hp : pg g = some f) (hu : us f = 1) (hk : k < 8)
    (ew : ∀ x, S' (2, 0) x = if x = 8 * f + k then v else S (2, 0) x) (eo : ∀ i j, i ≠ (2, 0) → S' i j = S i j) (k8 : ∀ x, K' 8 x = if x = 8 * g + k then v else K 8 x) (ko : ∀ a, a ≠ 8 → K' a = K a) : q_R S' K' n pg us lab L := by
  obtain ⟨hn, hM, h7, h3, h1, h0, hK0, h9, hl, hL0⟩ := h
  refine ⟨hn, q_M_put hM hp hu hk ew k8, ?_, ?_, ?_, ?_, ?_, ?_, ?_, hL0⟩
  · intro p' i' hp' hi'
    rw [eo _ _ (by simp)]
    exact h7 p' i' hp' hi'
  · intro x hx
    rw [eo _ _ (by simp)]
    exact h3 x hx
  · rw [eo _ _ (by simp)]; exact h1
  · rw [eo _ _ (by simp)]; exact h0
  · rw [ko 0 (by decide)]; exact hK0
  · rw [ko 9 (by decide)]; exact h9
  · rw [ko 0 (by decide)]; exact hl
theorem q_R_share {S S' : q_st} {K K' : k_t} {n : Nat} {pg : Nat → Option Nat} {us lab : Nat → Nat} {L p p' i : Nat} (h : q_R S K n pg us lab L) (hp : p < 8) (hp' : p' < 8) (hi : i < 8) (hne : p ≠ p') (hpn : pg (8 * p' + i) = none)
    (e7 : ∀ a j, a < 8 → j < 8 → S' (7, a) j = if 8 * a + j = 8 * p' + i then S (7, p) i else S (7, a) j)
    (e3 : ∀ x, x < n → S' (3, 0) x = if pg (8 * p + i) = some x then nI (us x + 1) else S (3, 0) x)
    (e1 : S' (1, 0) = S (1, 0)) (ew : S' (2, 0) = S (2, 0))
    (k0 : K' 0 = K 0) (k9 : ∀ g, K' 9 g = if g = 8 * p' + i then K 9 (8 * p + i) else K 9 g) (k8 : ∀ x, K' 8 x = if x / 8 = 8 * p' + i then K 8 (8 * (8 * p + i) + x % 8) else K 8 x) :
    q_R S' K' n (fun x => if x = 8 * p' + i then pg (8 * p + i) else pg x) (fun x => if pg (8 * p + i) = some x then us x + 1 else us x) (fun x => if x = 8 * p' + i then lab (8 * p + i) else lab x) L := by
  have hall := h
  obtain ⟨hn, hM, h7, h3, h1, h0, hK0, h9, hl, hL0⟩ := h
  refine ⟨hn, ?_, ?_, ?_, ?_, ?_, ?_, ?_, ?_, hL0⟩
  · rw [ew]
    exact q_M_share (cw := S (2, 0)) (wd := K 8) hM (by omega) (by omega) (by omega) hpn (fun x hx => rfl) k8
  · intro a j ha hj
    rw [e7 a j ha hj]
    by_cases hx : 8 * a + j = 8 * p' + i
    · simp [hx]
      exact h7 p i hp hi
    · simp [hx]
      exact h7 a j ha hj
  · intro x hx
    rw [e3 x hx]
    by_cases hpx : pg (8 * p + i) = some x
    · simp [hpx]
    · simp [hpx]
      exact h3 x hx
  · rw [e1, h1]
    congr 1
    refine c_n_congr (fun x _ => ?_)
    by_cases hpx : pg (8 * p + i) = some x
    · have := q_R_us1 hall hpx
      simp [hpx]
      omega
    · simp [hpx]
  · rw [e1]; exact h0
  · rw [k0]; exact hK0
  · intro g hg
    rw [k9]
    by_cases hx : g = 8 * p' + i
    · simp [hx]
      exact h9 _ (by omega)
    · simp [hx]
      exact h9 g hg
  · rw [k0]; exact hl
theorem q_nI0 {a : Nat} (h : a < 2 ^ 31) : nI a = 0 ↔ a = 0 := by
  rw [← nI_0, nI_eq h (by decide)]
/-- the reference's count of frames is the class's -/
theorem q_R_fr {S : q_st} {K : k_t} {n : Nat} {pg : Nat → Option Nat} {us lab : Nat → Nat} {L : Nat} (h : q_R S K n pg us lab L) : k_fr K = c_n (fun f => us f ≠ 0) n := by
  obtain ⟨hn, hM, h7, h3, h1, h0, hK0, h9, hl, hL0⟩ := h
  rw [← q_M_frames hM]
  have hb : ∀ g, g < 64 → lab g < 2 ^ 31 := fun g hg => by have := hM.2.1 g hg; omega
  refine c_n_congr (fun g hg => ?_)
  rw [h9 g hg, nI_toInt (hb g hg)]
  constructor
  · rintro ⟨b1, b2⟩
    refine ⟨by omega, fun j hj q => b2 j hj ?_⟩
    rw [h9 j (by omega), q]
  · rintro ⟨b1, b2⟩
    refine ⟨by omega, fun j hj q => b2 j hj ?_⟩
    rw [h9 j (by omega)] at q
    exact (nI_eq (hb j (by omega)) (hb g hg)).mp q
theorem q_R_sh {S : q_st} {K : k_t} {n : Nat} {pg : Nat → Option Nat} {us lab : Nat → Nat} {L g : Nat} (h : q_R S K n pg us lab L) (hg : g < 64) : k_sh K g = match pg g with | none => 0 | some f => us f := by
  obtain ⟨hn, hM, h7, h3, h1, h0, hK0, h9, hl, hL0⟩ := h
  have hb : ∀ g, g < 64 → lab g < 2 ^ 31 := fun g hg => by have := hM.2.1 g hg; omega
  have e : k_sh K g = c_n (fun k => 0 < lab g ∧ lab k = lab g) 64 := by
    refine c_n_congr (fun k hk => ?_)
    rw [h9 g hg, h9 k hk, nI_toInt (hb g hg), nI_eq (hb k hk) (hb g hg)]
    constructor
    · rintro ⟨a, b⟩; exact ⟨by omega, b⟩
    · rintro ⟨a, b⟩; exact ⟨by omega, b⟩
  rw [e]
  cases hp : pg g with
  | none =>
    refine c_n_zero.mpr (fun k hk hh => ?_)
    have := (hM.2.2.1 g hg).mp hp
    omega
  | some f => exact q_M_sharers hM hp
end
section
/-! decode rows (written by program) -/
theorem dL_cell_0 : decode cL_cell 0 = .ok (.iload_n 1, 1) := by decide +kernel
theorem dL_cell_1 : decode cL_cell 1 = .ok (.aload_n 0, 1) := by decide +kernel
theorem dL_cell_2 : decode cL_cell 2 = .ok (.arraylength, 1) := by decide +kernel
theorem dL_cell_3 : decode cL_cell 3 = .ok (.if_icmp .ge 9, 3) := by decide +kernel
theorem dL_cell_6 : decode cL_cell 6 = .ok (.aload_n 0, 1) := by decide +kernel
theorem dL_cell_7 : decode cL_cell 7 = .ok (.iload_n 1, 1) := by decide +kernel
theorem dL_cell_8 : decode cL_cell 8 = .ok (.iaload, 1) := by decide +kernel
theorem dL_cell_9 : decode cL_cell 9 = .ok (.goto 4, 3) := by decide +kernel
theorem dL_cell_12 : decode cL_cell 12 = .ok (.iconst 0, 1) := by decide +kernel
theorem dL_cell_13 : decode cL_cell 13 = .ok (.ireturn, 1) := by decide +kernel
theorem dL_law_0 : decode code 0 = .ok (.new 7, 3) := by decide +kernel
theorem dL_law_3 : decode code 3 = .ok (.dup, 1) := by decide +kernel
theorem dL_law_4 : decode code 4 = .ok (.aload_n 0, 1) := by decide +kernel
theorem dL_law_5 : decode code 5 = .ok (.iconst 0, 1) := by decide +kernel
theorem dL_law_6 : decode code 6 = .ok (.invokestatic 9, 3) := by decide +kernel
theorem dL_law_9 : decode code 9 = .ok (.aload_n 0, 1) := by decide +kernel
theorem dL_law_10 : decode code 10 = .ok (.iconst 1, 1) := by decide +kernel
theorem dL_law_11 : decode code 11 = .ok (.invokestatic 9, 3) := by decide +kernel
theorem dL_law_14 : decode code 14 = .ok (.invokespecial 15, 3) := by decide +kernel
theorem dL_law_17 : decode code 17 = .ok (.astore_n 1, 1) := by decide +kernel
theorem dL_law_18 : decode code 18 = .ok (.new 18, 3) := by decide +kernel
theorem dL_law_21 : decode code 21 = .ok (.dup, 1) := by decide +kernel
theorem dL_law_22 : decode code 22 = .ok (.aload_n 0, 1) := by decide +kernel
theorem dL_law_23 : decode code 23 = .ok (.iconst 0, 1) := by decide +kernel
theorem dL_law_24 : decode code 24 = .ok (.invokestatic 9, 3) := by decide +kernel
theorem dL_law_27 : decode code 27 = .ok (.aload_n 0, 1) := by decide +kernel
theorem dL_law_28 : decode code 28 = .ok (.iconst 1, 1) := by decide +kernel
theorem dL_law_29 : decode code 29 = .ok (.invokestatic 9, 3) := by decide +kernel
theorem dL_law_32 : decode code 32 = .ok (.invokespecial 20, 3) := by decide +kernel
theorem dL_law_35 : decode code 35 = .ok (.astore_n 2, 1) := by decide +kernel
theorem dL_law_36 : decode code 36 = .ok (.iconst 2, 1) := by decide +kernel
theorem dL_law_37 : decode code 37 = .ok (.istore_n 3, 1) := by decide +kernel
theorem dL_law_38 : decode code 38 = .ok (.iload_n 3, 1) := by decide +kernel
theorem dL_law_39 : decode code 39 = .ok (.aload_n 0, 1) := by decide +kernel
theorem dL_law_40 : decode code 40 = .ok (.arraylength, 1) := by decide +kernel
theorem dL_law_41 : decode code 41 = .ok (.iconst 3, 1) := by decide +kernel
theorem dL_law_42 : decode code 42 = .ok (.isub, 1) := by decide +kernel
theorem dL_law_43 : decode code 43 = .ok (.if_icmp .gt 463, 3) := by decide +kernel
theorem dL_law_46 : decode code 46 = .ok (.aload_n 0, 1) := by decide +kernel
theorem dL_law_47 : decode code 47 = .ok (.iload_n 3, 1) := by decide +kernel
theorem dL_law_48 : decode code 48 = .ok (.iaload, 1) := by decide +kernel
theorem dL_law_49 : decode code 49 = .ok (.bipush 15, 2) := by decide +kernel
theorem dL_law_51 : decode code 51 = .ok (.iand, 1) := by decide +kernel
theorem dL_law_52 : decode code 52 = .ok (.tableswitch 448 0 15 #[80, 113, 136, 149, 172, 195, 218, 241, 264, 287, 300, 333, 366, 399, 412, 425], 80) := by decide +kernel
theorem dL_law_132 : decode code 132 = .ok (.aload_n 1, 1) := by decide +kernel
theorem dL_law_133 : decode code 133 = .ok (.aload_n 0, 1) := by decide +kernel
theorem dL_law_134 : decode code 134 = .ok (.iload_n 3, 1) := by decide +kernel
theorem dL_law_135 : decode code 135 = .ok (.iconst 1, 1) := by decide +kernel
theorem dL_law_136 : decode code 136 = .ok (.iadd, 1) := by decide +kernel
theorem dL_law_137 : decode code 137 = .ok (.iaload, 1) := by decide +kernel
theorem dL_law_138 : decode code 138 = .ok (.aload_n 0, 1) := by decide +kernel
theorem dL_law_139 : decode code 139 = .ok (.iload_n 3, 1) := by decide +kernel
theorem dL_law_140 : decode code 140 = .ok (.iconst 2, 1) := by decide +kernel
theorem dL_law_141 : decode code 141 = .ok (.iadd, 1) := by decide +kernel
theorem dL_law_142 : decode code 142 = .ok (.iaload, 1) := by decide +kernel
theorem dL_law_143 : decode code 143 = .ok (.invokevirtual 21, 3) := by decide +kernel
theorem dL_law_146 : decode code 146 = .ok (.aload_n 2, 1) := by decide +kernel
theorem dL_law_147 : decode code 147 = .ok (.aload_n 0, 1) := by decide +kernel
theorem dL_law_148 : decode code 148 = .ok (.iload_n 3, 1) := by decide +kernel
theorem dL_law_149 : decode code 149 = .ok (.iconst 1, 1) := by decide +kernel
theorem dL_law_150 : decode code 150 = .ok (.iadd, 1) := by decide +kernel
theorem dL_law_151 : decode code 151 = .ok (.iaload, 1) := by decide +kernel
theorem dL_law_152 : decode code 152 = .ok (.aload_n 0, 1) := by decide +kernel
theorem dL_law_153 : decode code 153 = .ok (.iload_n 3, 1) := by decide +kernel
theorem dL_law_154 : decode code 154 = .ok (.iconst 2, 1) := by decide +kernel
theorem dL_law_155 : decode code 155 = .ok (.iadd, 1) := by decide +kernel
theorem dL_law_156 : decode code 156 = .ok (.iaload, 1) := by decide +kernel
theorem dL_law_157 : decode code 157 = .ok (.invokevirtual 25, 3) := by decide +kernel
theorem dL_law_160 : decode code 160 = .ok (.if_icmp .eq 340, 3) := by decide +kernel
theorem dL_law_163 : decode code 163 = .ok (.iconst 0, 1) := by decide +kernel
theorem dL_law_164 : decode code 164 = .ok (.ireturn, 1) := by decide +kernel
theorem dL_law_165 : decode code 165 = .ok (.aload_n 1, 1) := by decide +kernel
theorem dL_law_166 : decode code 166 = .ok (.aload_n 0, 1) := by decide +kernel
theorem dL_law_167 : decode code 167 = .ok (.iload_n 3, 1) := by decide +kernel
theorem dL_law_168 : decode code 168 = .ok (.iconst 1, 1) := by decide +kernel
theorem dL_law_169 : decode code 169 = .ok (.iadd, 1) := by decide +kernel
theorem dL_law_170 : decode code 170 = .ok (.iaload, 1) := by decide +kernel
theorem dL_law_171 : decode code 171 = .ok (.invokevirtual 26, 3) := by decide +kernel
theorem dL_law_174 : decode code 174 = .ok (.aload_n 2, 1) := by decide +kernel
theorem dL_law_175 : decode code 175 = .ok (.aload_n 0, 1) := by decide +kernel
theorem dL_law_176 : decode code 176 = .ok (.iload_n 3, 1) := by decide +kernel
theorem dL_law_177 : decode code 177 = .ok (.iconst 1, 1) := by decide +kernel
theorem dL_law_178 : decode code 178 = .ok (.iadd, 1) := by decide +kernel
theorem dL_law_179 : decode code 179 = .ok (.iaload, 1) := by decide +kernel
theorem dL_law_180 : decode code 180 = .ok (.invokevirtual 30, 3) := by decide +kernel
theorem dL_law_183 : decode code 183 = .ok (.if_icmp .eq 317, 3) := by decide +kernel
theorem dL_law_186 : decode code 186 = .ok (.iconst 0, 1) := by decide +kernel
theorem dL_law_187 : decode code 187 = .ok (.ireturn, 1) := by decide +kernel
theorem dL_law_188 : decode code 188 = .ok (.aload_n 1, 1) := by decide +kernel
theorem dL_law_189 : decode code 189 = .ok (.invokevirtual 31, 3) := by decide +kernel
theorem dL_law_192 : decode code 192 = .ok (.aload_n 2, 1) := by decide +kernel
theorem dL_law_193 : decode code 193 = .ok (.invokevirtual 35, 3) := by decide +kernel
theorem dL_law_196 : decode code 196 = .ok (.if_icmp .eq 304, 3) := by decide +kernel
theorem dL_law_199 : decode code 199 = .ok (.iconst 0, 1) := by decide +kernel
theorem dL_law_200 : decode code 200 = .ok (.ireturn, 1) := by decide +kernel
theorem dL_law_201 : decode code 201 = .ok (.aload_n 1, 1) := by decide +kernel
theorem dL_law_202 : decode code 202 = .ok (.aload_n 0, 1) := by decide +kernel
theorem dL_law_203 : decode code 203 = .ok (.iload_n 3, 1) := by decide +kernel
theorem dL_law_204 : decode code 204 = .ok (.iconst 1, 1) := by decide +kernel
theorem dL_law_205 : decode code 205 = .ok (.iadd, 1) := by decide +kernel
theorem dL_law_206 : decode code 206 = .ok (.iaload, 1) := by decide +kernel
theorem dL_law_207 : decode code 207 = .ok (.invokevirtual 36, 3) := by decide +kernel
theorem dL_law_210 : decode code 210 = .ok (.aload_n 2, 1) := by decide +kernel
theorem dL_law_211 : decode code 211 = .ok (.aload_n 0, 1) := by decide +kernel
theorem dL_law_212 : decode code 212 = .ok (.iload_n 3, 1) := by decide +kernel
theorem dL_law_213 : decode code 213 = .ok (.iconst 1, 1) := by decide +kernel
theorem dL_law_214 : decode code 214 = .ok (.iadd, 1) := by decide +kernel
theorem dL_law_215 : decode code 215 = .ok (.iaload, 1) := by decide +kernel
theorem dL_law_216 : decode code 216 = .ok (.invokevirtual 39, 3) := by decide +kernel
theorem dL_law_219 : decode code 219 = .ok (.if_icmp .eq 281, 3) := by decide +kernel
theorem dL_law_222 : decode code 222 = .ok (.iconst 0, 1) := by decide +kernel
theorem dL_law_223 : decode code 223 = .ok (.ireturn, 1) := by decide +kernel
theorem dL_law_224 : decode code 224 = .ok (.aload_n 1, 1) := by decide +kernel
theorem dL_law_225 : decode code 225 = .ok (.aload_n 0, 1) := by decide +kernel
theorem dL_law_226 : decode code 226 = .ok (.iload_n 3, 1) := by decide +kernel
theorem dL_law_227 : decode code 227 = .ok (.iconst 1, 1) := by decide +kernel
theorem dL_law_228 : decode code 228 = .ok (.iadd, 1) := by decide +kernel
theorem dL_law_229 : decode code 229 = .ok (.iaload, 1) := by decide +kernel
theorem dL_law_230 : decode code 230 = .ok (.invokevirtual 40, 3) := by decide +kernel
theorem dL_law_233 : decode code 233 = .ok (.aload_n 2, 1) := by decide +kernel
theorem dL_law_234 : decode code 234 = .ok (.aload_n 0, 1) := by decide +kernel
theorem dL_law_235 : decode code 235 = .ok (.iload_n 3, 1) := by decide +kernel
theorem dL_law_236 : decode code 236 = .ok (.iconst 1, 1) := by decide +kernel
theorem dL_law_237 : decode code 237 = .ok (.iadd, 1) := by decide +kernel
theorem dL_law_238 : decode code 238 = .ok (.iaload, 1) := by decide +kernel
theorem dL_law_239 : decode code 239 = .ok (.invokevirtual 44, 3) := by decide +kernel
theorem dL_law_242 : decode code 242 = .ok (.if_icmp .eq 258, 3) := by decide +kernel
theorem dL_law_245 : decode code 245 = .ok (.iconst 0, 1) := by decide +kernel
theorem dL_law_246 : decode code 246 = .ok (.ireturn, 1) := by decide +kernel
theorem dL_law_247 : decode code 247 = .ok (.aload_n 1, 1) := by decide +kernel
theorem dL_law_248 : decode code 248 = .ok (.aload_n 0, 1) := by decide +kernel
theorem dL_law_249 : decode code 249 = .ok (.iload_n 3, 1) := by decide +kernel
theorem dL_law_250 : decode code 250 = .ok (.iconst 1, 1) := by decide +kernel
theorem dL_law_251 : decode code 251 = .ok (.iadd, 1) := by decide +kernel
theorem dL_law_252 : decode code 252 = .ok (.iaload, 1) := by decide +kernel
theorem dL_law_253 : decode code 253 = .ok (.invokevirtual 45, 3) := by decide +kernel
theorem dL_law_256 : decode code 256 = .ok (.aload_n 2, 1) := by decide +kernel
theorem dL_law_257 : decode code 257 = .ok (.aload_n 0, 1) := by decide +kernel
theorem dL_law_258 : decode code 258 = .ok (.iload_n 3, 1) := by decide +kernel
theorem dL_law_259 : decode code 259 = .ok (.iconst 1, 1) := by decide +kernel
theorem dL_law_260 : decode code 260 = .ok (.iadd, 1) := by decide +kernel
theorem dL_law_261 : decode code 261 = .ok (.iaload, 1) := by decide +kernel
theorem dL_law_262 : decode code 262 = .ok (.invokevirtual 48, 3) := by decide +kernel
theorem dL_law_265 : decode code 265 = .ok (.if_icmp .eq 235, 3) := by decide +kernel
theorem dL_law_268 : decode code 268 = .ok (.iconst 0, 1) := by decide +kernel
theorem dL_law_269 : decode code 269 = .ok (.ireturn, 1) := by decide +kernel
theorem dL_law_270 : decode code 270 = .ok (.aload_n 1, 1) := by decide +kernel
theorem dL_law_271 : decode code 271 = .ok (.aload_n 0, 1) := by decide +kernel
theorem dL_law_272 : decode code 272 = .ok (.iload_n 3, 1) := by decide +kernel
theorem dL_law_273 : decode code 273 = .ok (.iconst 1, 1) := by decide +kernel
theorem dL_law_274 : decode code 274 = .ok (.iadd, 1) := by decide +kernel
theorem dL_law_275 : decode code 275 = .ok (.iaload, 1) := by decide +kernel
theorem dL_law_276 : decode code 276 = .ok (.invokevirtual 49, 3) := by decide +kernel
theorem dL_law_279 : decode code 279 = .ok (.aload_n 2, 1) := by decide +kernel
theorem dL_law_280 : decode code 280 = .ok (.aload_n 0, 1) := by decide +kernel
theorem dL_law_281 : decode code 281 = .ok (.iload_n 3, 1) := by decide +kernel
theorem dL_law_282 : decode code 282 = .ok (.iconst 1, 1) := by decide +kernel
theorem dL_law_283 : decode code 283 = .ok (.iadd, 1) := by decide +kernel
theorem dL_law_284 : decode code 284 = .ok (.iaload, 1) := by decide +kernel
theorem dL_law_285 : decode code 285 = .ok (.invokevirtual 52, 3) := by decide +kernel
theorem dL_law_288 : decode code 288 = .ok (.if_icmp .eq 212, 3) := by decide +kernel
theorem dL_law_291 : decode code 291 = .ok (.iconst 0, 1) := by decide +kernel
theorem dL_law_292 : decode code 292 = .ok (.ireturn, 1) := by decide +kernel
theorem dL_law_293 : decode code 293 = .ok (.aload_n 1, 1) := by decide +kernel
theorem dL_law_294 : decode code 294 = .ok (.aload_n 0, 1) := by decide +kernel
theorem dL_law_295 : decode code 295 = .ok (.iload_n 3, 1) := by decide +kernel
theorem dL_law_296 : decode code 296 = .ok (.iconst 1, 1) := by decide +kernel
theorem dL_law_297 : decode code 297 = .ok (.iadd, 1) := by decide +kernel
theorem dL_law_298 : decode code 298 = .ok (.iaload, 1) := by decide +kernel
theorem dL_law_299 : decode code 299 = .ok (.invokevirtual 53, 3) := by decide +kernel
theorem dL_law_302 : decode code 302 = .ok (.aload_n 2, 1) := by decide +kernel
theorem dL_law_303 : decode code 303 = .ok (.aload_n 0, 1) := by decide +kernel
theorem dL_law_304 : decode code 304 = .ok (.iload_n 3, 1) := by decide +kernel
theorem dL_law_305 : decode code 305 = .ok (.iconst 1, 1) := by decide +kernel
theorem dL_law_306 : decode code 306 = .ok (.iadd, 1) := by decide +kernel
theorem dL_law_307 : decode code 307 = .ok (.iaload, 1) := by decide +kernel
theorem dL_law_308 : decode code 308 = .ok (.invokevirtual 56, 3) := by decide +kernel
theorem dL_law_311 : decode code 311 = .ok (.if_icmp .eq 189, 3) := by decide +kernel
theorem dL_law_314 : decode code 314 = .ok (.iconst 0, 1) := by decide +kernel
theorem dL_law_315 : decode code 315 = .ok (.ireturn, 1) := by decide +kernel
theorem dL_law_316 : decode code 316 = .ok (.aload_n 1, 1) := by decide +kernel
theorem dL_law_317 : decode code 317 = .ok (.aload_n 0, 1) := by decide +kernel
theorem dL_law_318 : decode code 318 = .ok (.iload_n 3, 1) := by decide +kernel
theorem dL_law_319 : decode code 319 = .ok (.iconst 1, 1) := by decide +kernel
theorem dL_law_320 : decode code 320 = .ok (.iadd, 1) := by decide +kernel
theorem dL_law_321 : decode code 321 = .ok (.iaload, 1) := by decide +kernel
theorem dL_law_322 : decode code 322 = .ok (.invokevirtual 57, 3) := by decide +kernel
theorem dL_law_325 : decode code 325 = .ok (.aload_n 2, 1) := by decide +kernel
theorem dL_law_326 : decode code 326 = .ok (.aload_n 0, 1) := by decide +kernel
theorem dL_law_327 : decode code 327 = .ok (.iload_n 3, 1) := by decide +kernel
theorem dL_law_328 : decode code 328 = .ok (.iconst 1, 1) := by decide +kernel
theorem dL_law_329 : decode code 329 = .ok (.iadd, 1) := by decide +kernel
theorem dL_law_330 : decode code 330 = .ok (.iaload, 1) := by decide +kernel
theorem dL_law_331 : decode code 331 = .ok (.invokevirtual 60, 3) := by decide +kernel
theorem dL_law_334 : decode code 334 = .ok (.if_icmp .eq 166, 3) := by decide +kernel
theorem dL_law_337 : decode code 337 = .ok (.iconst 0, 1) := by decide +kernel
theorem dL_law_338 : decode code 338 = .ok (.ireturn, 1) := by decide +kernel
theorem dL_law_339 : decode code 339 = .ok (.aload_n 1, 1) := by decide +kernel
theorem dL_law_340 : decode code 340 = .ok (.invokevirtual 61, 3) := by decide +kernel
theorem dL_law_343 : decode code 343 = .ok (.aload_n 2, 1) := by decide +kernel
theorem dL_law_344 : decode code 344 = .ok (.invokevirtual 64, 3) := by decide +kernel
theorem dL_law_347 : decode code 347 = .ok (.if_icmp .eq 153, 3) := by decide +kernel
theorem dL_law_350 : decode code 350 = .ok (.iconst 0, 1) := by decide +kernel
theorem dL_law_351 : decode code 351 = .ok (.ireturn, 1) := by decide +kernel
theorem dL_law_352 : decode code 352 = .ok (.aload_n 1, 1) := by decide +kernel
theorem dL_law_353 : decode code 353 = .ok (.aload_n 0, 1) := by decide +kernel
theorem dL_law_354 : decode code 354 = .ok (.iload_n 3, 1) := by decide +kernel
theorem dL_law_355 : decode code 355 = .ok (.iconst 1, 1) := by decide +kernel
theorem dL_law_356 : decode code 356 = .ok (.iadd, 1) := by decide +kernel
theorem dL_law_357 : decode code 357 = .ok (.iaload, 1) := by decide +kernel
theorem dL_law_358 : decode code 358 = .ok (.aload_n 0, 1) := by decide +kernel
theorem dL_law_359 : decode code 359 = .ok (.iload_n 3, 1) := by decide +kernel
theorem dL_law_360 : decode code 360 = .ok (.iconst 2, 1) := by decide +kernel
theorem dL_law_361 : decode code 361 = .ok (.iadd, 1) := by decide +kernel
theorem dL_law_362 : decode code 362 = .ok (.iaload, 1) := by decide +kernel
theorem dL_law_363 : decode code 363 = .ok (.invokevirtual 65, 3) := by decide +kernel
theorem dL_law_366 : decode code 366 = .ok (.aload_n 2, 1) := by decide +kernel
theorem dL_law_367 : decode code 367 = .ok (.aload_n 0, 1) := by decide +kernel
theorem dL_law_368 : decode code 368 = .ok (.iload_n 3, 1) := by decide +kernel
theorem dL_law_369 : decode code 369 = .ok (.iconst 1, 1) := by decide +kernel
theorem dL_law_370 : decode code 370 = .ok (.iadd, 1) := by decide +kernel
theorem dL_law_371 : decode code 371 = .ok (.iaload, 1) := by decide +kernel
theorem dL_law_372 : decode code 372 = .ok (.aload_n 0, 1) := by decide +kernel
theorem dL_law_373 : decode code 373 = .ok (.iload_n 3, 1) := by decide +kernel
theorem dL_law_374 : decode code 374 = .ok (.iconst 2, 1) := by decide +kernel
theorem dL_law_375 : decode code 375 = .ok (.iadd, 1) := by decide +kernel
theorem dL_law_376 : decode code 376 = .ok (.iaload, 1) := by decide +kernel
theorem dL_law_377 : decode code 377 = .ok (.invokevirtual 69, 3) := by decide +kernel
theorem dL_law_380 : decode code 380 = .ok (.if_icmp .eq 120, 3) := by decide +kernel
theorem dL_law_383 : decode code 383 = .ok (.iconst 0, 1) := by decide +kernel
theorem dL_law_384 : decode code 384 = .ok (.ireturn, 1) := by decide +kernel
theorem dL_law_385 : decode code 385 = .ok (.aload_n 1, 1) := by decide +kernel
theorem dL_law_386 : decode code 386 = .ok (.aload_n 0, 1) := by decide +kernel
theorem dL_law_387 : decode code 387 = .ok (.iload_n 3, 1) := by decide +kernel
theorem dL_law_388 : decode code 388 = .ok (.iconst 1, 1) := by decide +kernel
theorem dL_law_389 : decode code 389 = .ok (.iadd, 1) := by decide +kernel
theorem dL_law_390 : decode code 390 = .ok (.iaload, 1) := by decide +kernel
theorem dL_law_391 : decode code 391 = .ok (.aload_n 0, 1) := by decide +kernel
theorem dL_law_392 : decode code 392 = .ok (.iload_n 3, 1) := by decide +kernel
theorem dL_law_393 : decode code 393 = .ok (.iconst 2, 1) := by decide +kernel
theorem dL_law_394 : decode code 394 = .ok (.iadd, 1) := by decide +kernel
theorem dL_law_395 : decode code 395 = .ok (.iaload, 1) := by decide +kernel
theorem dL_law_396 : decode code 396 = .ok (.invokevirtual 70, 3) := by decide +kernel
theorem dL_law_399 : decode code 399 = .ok (.aload_n 2, 1) := by decide +kernel
theorem dL_law_400 : decode code 400 = .ok (.aload_n 0, 1) := by decide +kernel
theorem dL_law_401 : decode code 401 = .ok (.iload_n 3, 1) := by decide +kernel
theorem dL_law_402 : decode code 402 = .ok (.iconst 1, 1) := by decide +kernel
theorem dL_law_403 : decode code 403 = .ok (.iadd, 1) := by decide +kernel
theorem dL_law_404 : decode code 404 = .ok (.iaload, 1) := by decide +kernel
theorem dL_law_405 : decode code 405 = .ok (.aload_n 0, 1) := by decide +kernel
theorem dL_law_406 : decode code 406 = .ok (.iload_n 3, 1) := by decide +kernel
theorem dL_law_407 : decode code 407 = .ok (.iconst 2, 1) := by decide +kernel
theorem dL_law_408 : decode code 408 = .ok (.iadd, 1) := by decide +kernel
theorem dL_law_409 : decode code 409 = .ok (.iaload, 1) := by decide +kernel
theorem dL_law_410 : decode code 410 = .ok (.invokevirtual 73, 3) := by decide +kernel
theorem dL_law_413 : decode code 413 = .ok (.if_icmp .eq 87, 3) := by decide +kernel
theorem dL_law_416 : decode code 416 = .ok (.iconst 0, 1) := by decide +kernel
theorem dL_law_417 : decode code 417 = .ok (.ireturn, 1) := by decide +kernel
theorem dL_law_418 : decode code 418 = .ok (.aload_n 1, 1) := by decide +kernel
theorem dL_law_419 : decode code 419 = .ok (.aload_n 0, 1) := by decide +kernel
theorem dL_law_420 : decode code 420 = .ok (.iload_n 3, 1) := by decide +kernel
theorem dL_law_421 : decode code 421 = .ok (.iconst 1, 1) := by decide +kernel
theorem dL_law_422 : decode code 422 = .ok (.iadd, 1) := by decide +kernel
theorem dL_law_423 : decode code 423 = .ok (.iaload, 1) := by decide +kernel
theorem dL_law_424 : decode code 424 = .ok (.aload_n 0, 1) := by decide +kernel
theorem dL_law_425 : decode code 425 = .ok (.iload_n 3, 1) := by decide +kernel
theorem dL_law_426 : decode code 426 = .ok (.iconst 2, 1) := by decide +kernel
theorem dL_law_427 : decode code 427 = .ok (.iadd, 1) := by decide +kernel
theorem dL_law_428 : decode code 428 = .ok (.iaload, 1) := by decide +kernel
theorem dL_law_429 : decode code 429 = .ok (.invokevirtual 74, 3) := by decide +kernel
theorem dL_law_432 : decode code 432 = .ok (.aload_n 2, 1) := by decide +kernel
theorem dL_law_433 : decode code 433 = .ok (.aload_n 0, 1) := by decide +kernel
theorem dL_law_434 : decode code 434 = .ok (.iload_n 3, 1) := by decide +kernel
theorem dL_law_435 : decode code 435 = .ok (.iconst 1, 1) := by decide +kernel
theorem dL_law_436 : decode code 436 = .ok (.iadd, 1) := by decide +kernel
theorem dL_law_437 : decode code 437 = .ok (.iaload, 1) := by decide +kernel
theorem dL_law_438 : decode code 438 = .ok (.aload_n 0, 1) := by decide +kernel
theorem dL_law_439 : decode code 439 = .ok (.iload_n 3, 1) := by decide +kernel
theorem dL_law_440 : decode code 440 = .ok (.iconst 2, 1) := by decide +kernel
theorem dL_law_441 : decode code 441 = .ok (.iadd, 1) := by decide +kernel
theorem dL_law_442 : decode code 442 = .ok (.iaload, 1) := by decide +kernel
theorem dL_law_443 : decode code 443 = .ok (.invokevirtual 77, 3) := by decide +kernel
theorem dL_law_446 : decode code 446 = .ok (.if_icmp .eq 54, 3) := by decide +kernel
theorem dL_law_449 : decode code 449 = .ok (.iconst 0, 1) := by decide +kernel
theorem dL_law_450 : decode code 450 = .ok (.ireturn, 1) := by decide +kernel
theorem dL_law_451 : decode code 451 = .ok (.aload_n 1, 1) := by decide +kernel
theorem dL_law_452 : decode code 452 = .ok (.invokevirtual 78, 3) := by decide +kernel
theorem dL_law_455 : decode code 455 = .ok (.aload_n 2, 1) := by decide +kernel
theorem dL_law_456 : decode code 456 = .ok (.invokevirtual 81, 3) := by decide +kernel
theorem dL_law_459 : decode code 459 = .ok (.if_icmp .eq 41, 3) := by decide +kernel
theorem dL_law_462 : decode code 462 = .ok (.iconst 0, 1) := by decide +kernel
theorem dL_law_463 : decode code 463 = .ok (.ireturn, 1) := by decide +kernel
theorem dL_law_464 : decode code 464 = .ok (.aload_n 1, 1) := by decide +kernel
theorem dL_law_465 : decode code 465 = .ok (.invokevirtual 82, 3) := by decide +kernel
theorem dL_law_468 : decode code 468 = .ok (.aload_n 2, 1) := by decide +kernel
theorem dL_law_469 : decode code 469 = .ok (.invokevirtual 85, 3) := by decide +kernel
theorem dL_law_472 : decode code 472 = .ok (.if_icmp .eq 28, 3) := by decide +kernel
theorem dL_law_475 : decode code 475 = .ok (.iconst 0, 1) := by decide +kernel
theorem dL_law_476 : decode code 476 = .ok (.ireturn, 1) := by decide +kernel
theorem dL_law_477 : decode code 477 = .ok (.aload_n 1, 1) := by decide +kernel
theorem dL_law_478 : decode code 478 = .ok (.aload_n 0, 1) := by decide +kernel
theorem dL_law_479 : decode code 479 = .ok (.iload_n 3, 1) := by decide +kernel
theorem dL_law_480 : decode code 480 = .ok (.iconst 1, 1) := by decide +kernel
theorem dL_law_481 : decode code 481 = .ok (.iadd, 1) := by decide +kernel
theorem dL_law_482 : decode code 482 = .ok (.iaload, 1) := by decide +kernel
theorem dL_law_483 : decode code 483 = .ok (.invokevirtual 86, 3) := by decide +kernel
theorem dL_law_486 : decode code 486 = .ok (.aload_n 2, 1) := by decide +kernel
theorem dL_law_487 : decode code 487 = .ok (.aload_n 0, 1) := by decide +kernel
theorem dL_law_488 : decode code 488 = .ok (.iload_n 3, 1) := by decide +kernel
theorem dL_law_489 : decode code 489 = .ok (.iconst 1, 1) := by decide +kernel
theorem dL_law_490 : decode code 490 = .ok (.iadd, 1) := by decide +kernel
theorem dL_law_491 : decode code 491 = .ok (.iaload, 1) := by decide +kernel
theorem dL_law_492 : decode code 492 = .ok (.invokevirtual 89, 3) := by decide +kernel
theorem dL_law_495 : decode code 495 = .ok (.if_icmp .eq 5, 3) := by decide +kernel
theorem dL_law_498 : decode code 498 = .ok (.iconst 0, 1) := by decide +kernel
theorem dL_law_499 : decode code 499 = .ok (.ireturn, 1) := by decide +kernel
theorem dL_law_500 : decode code 500 = .ok (.iinc 3 3, 3) := by decide +kernel
theorem dL_law_503 : decode code 503 = .ok (.goto (-465), 3) := by decide +kernel
theorem dL_law_506 : decode code 506 = .ok (.iconst 1, 1) := by decide +kernel
theorem dL_law_507 : decode code 507 = .ok (.ireturn, 1) := by decide +kernel
theorem dX0_copyWords_0 : decode cX0_copyWords 0 = .ok (.iconst 0, 1) := by decide +kernel
theorem dX0_copyWords_1 : decode cX0_copyWords 1 = .ok (.istore_n 3, 1) := by decide +kernel
theorem dX0_copyWords_2 : decode cX0_copyWords 2 = .ok (.iload_n 3, 1) := by decide +kernel
theorem dX0_copyWords_3 : decode cX0_copyWords 3 = .ok (.bipush 8, 2) := by decide +kernel
theorem dX0_copyWords_5 : decode cX0_copyWords 5 = .ok (.if_icmp .ge 31, 3) := by decide +kernel
theorem dX0_copyWords_8 : decode cX0_copyWords 8 = .ok (.aload_n 0, 1) := by decide +kernel
theorem dX0_copyWords_9 : decode cX0_copyWords 9 = .ok (.getfield 18, 3) := by decide +kernel
theorem dX0_copyWords_12 : decode cX0_copyWords 12 = .ok (.iload_n 2, 1) := by decide +kernel
theorem dX0_copyWords_13 : decode cX0_copyWords 13 = .ok (.bipush 8, 2) := by decide +kernel
theorem dX0_copyWords_15 : decode cX0_copyWords 15 = .ok (.imul, 1) := by decide +kernel
theorem dX0_copyWords_16 : decode cX0_copyWords 16 = .ok (.iload_n 3, 1) := by decide +kernel
theorem dX0_copyWords_17 : decode cX0_copyWords 17 = .ok (.iadd, 1) := by decide +kernel
theorem dX0_copyWords_18 : decode cX0_copyWords 18 = .ok (.aload_n 0, 1) := by decide +kernel
theorem dX0_copyWords_19 : decode cX0_copyWords 19 = .ok (.getfield 18, 3) := by decide +kernel
theorem dX0_copyWords_22 : decode cX0_copyWords 22 = .ok (.iload_n 1, 1) := by decide +kernel
theorem dX0_copyWords_23 : decode cX0_copyWords 23 = .ok (.bipush 8, 2) := by decide +kernel
theorem dX0_copyWords_25 : decode cX0_copyWords 25 = .ok (.imul, 1) := by decide +kernel
theorem dX0_copyWords_26 : decode cX0_copyWords 26 = .ok (.iload_n 3, 1) := by decide +kernel
theorem dX0_copyWords_27 : decode cX0_copyWords 27 = .ok (.iadd, 1) := by decide +kernel
theorem dX0_copyWords_28 : decode cX0_copyWords 28 = .ok (.iaload, 1) := by decide +kernel
theorem dX0_copyWords_29 : decode cX0_copyWords 29 = .ok (.iastore, 1) := by decide +kernel
theorem dX0_copyWords_30 : decode cX0_copyWords 30 = .ok (.iinc 3 1, 3) := by decide +kernel
theorem dX0_copyWords_33 : decode cX0_copyWords 33 = .ok (.goto (-31), 3) := by decide +kernel
theorem dX0_copyWords_36 : decode cX0_copyWords 36 = .ok (.return_, 1) := by decide +kernel
theorem dX0_init_0 : decode cX0_init 0 = .ok (.aload_n 0, 1) := by decide +kernel
theorem dX0_init_1 : decode cX0_init 1 = .ok (.invokespecial 3, 3) := by decide +kernel
theorem dX0_init_4 : decode cX0_init 4 = .ok (.aload_n 0, 1) := by decide +kernel
theorem dX0_init_5 : decode cX0_init 5 = .ok (.iconst 0, 1) := by decide +kernel
theorem dX0_init_6 : decode cX0_init 6 = .ok (.putfield 9, 3) := by decide +kernel
theorem dX0_init_9 : decode cX0_init 9 = .ok (.aload_n 0, 1) := by decide +kernel
theorem dX0_init_10 : decode cX0_init 10 = .ok (.iload_n 1, 1) := by decide +kernel
theorem dX0_init_11 : decode cX0_init 11 = .ok (.putfield 15, 3) := by decide +kernel
theorem dX0_init_14 : decode cX0_init 14 = .ok (.aload_n 0, 1) := by decide +kernel
theorem dX0_init_15 : decode cX0_init 15 = .ok (.iload_n 1, 1) := by decide +kernel
theorem dX0_init_16 : decode cX0_init 16 = .ok (.bipush 8, 2) := by decide +kernel
theorem dX0_init_18 : decode cX0_init 18 = .ok (.imul, 1) := by decide +kernel
theorem dX0_init_19 : decode cX0_init 19 = .ok (.newarray .int, 2) := by decide +kernel
theorem dX0_init_21 : decode cX0_init 21 = .ok (.putfield 18, 3) := by decide +kernel
theorem dX0_init_24 : decode cX0_init 24 = .ok (.aload_n 0, 1) := by decide +kernel
theorem dX0_init_25 : decode cX0_init 25 = .ok (.iload_n 1, 1) := by decide +kernel
theorem dX0_init_26 : decode cX0_init 26 = .ok (.newarray .int, 2) := by decide +kernel
theorem dX0_init_28 : decode cX0_init 28 = .ok (.putfield 22, 3) := by decide +kernel
theorem dX0_init_31 : decode cX0_init 31 = .ok (.return_, 1) := by decide +kernel
theorem dX0_join_0 : decode cX0_join 0 = .ok (.iload_n 1, 1) := by decide +kernel
theorem dX0_join_1 : decode cX0_join 1 = .ok (.iconst (-1), 1) := by decide +kernel
theorem dX0_join_2 : decode cX0_join 2 = .ok (.if_icmp .eq 13, 3) := by decide +kernel
theorem dX0_join_5 : decode cX0_join 5 = .ok (.aload_n 0, 1) := by decide +kernel
theorem dX0_join_6 : decode cX0_join 6 = .ok (.getfield 22, 3) := by decide +kernel
theorem dX0_join_9 : decode cX0_join 9 = .ok (.iload_n 1, 1) := by decide +kernel
theorem dX0_join_10 : decode cX0_join 10 = .ok (.dup2, 1) := by decide +kernel
theorem dX0_join_11 : decode cX0_join 11 = .ok (.iaload, 1) := by decide +kernel
theorem dX0_join_12 : decode cX0_join 12 = .ok (.iconst 1, 1) := by decide +kernel
theorem dX0_join_13 : decode cX0_join 13 = .ok (.iadd, 1) := by decide +kernel
theorem dX0_join_14 : decode cX0_join 14 = .ok (.iastore, 1) := by decide +kernel
theorem dX0_join_15 : decode cX0_join 15 = .ok (.return_, 1) := by decide +kernel
theorem dX0_leave_0 : decode cX0_leave 0 = .ok (.iload_n 1, 1) := by decide +kernel
theorem dX0_leave_1 : decode cX0_leave 1 = .ok (.iconst (-1), 1) := by decide +kernel
theorem dX0_leave_2 : decode cX0_leave 2 = .ok (.if_icmp .ne 4, 3) := by decide +kernel
theorem dX0_leave_5 : decode cX0_leave 5 = .ok (.return_, 1) := by decide +kernel
theorem dX0_leave_6 : decode cX0_leave 6 = .ok (.aload_n 0, 1) := by decide +kernel
theorem dX0_leave_7 : decode cX0_leave 7 = .ok (.getfield 22, 3) := by decide +kernel
theorem dX0_leave_10 : decode cX0_leave 10 = .ok (.iload_n 1, 1) := by decide +kernel
theorem dX0_leave_11 : decode cX0_leave 11 = .ok (.dup2, 1) := by decide +kernel
theorem dX0_leave_12 : decode cX0_leave 12 = .ok (.iaload, 1) := by decide +kernel
theorem dX0_leave_13 : decode cX0_leave 13 = .ok (.iconst 1, 1) := by decide +kernel
theorem dX0_leave_14 : decode cX0_leave 14 = .ok (.isub, 1) := by decide +kernel
theorem dX0_leave_15 : decode cX0_leave 15 = .ok (.iastore, 1) := by decide +kernel
theorem dX0_leave_16 : decode cX0_leave 16 = .ok (.aload_n 0, 1) := by decide +kernel
theorem dX0_leave_17 : decode cX0_leave 17 = .ok (.getfield 22, 3) := by decide +kernel
theorem dX0_leave_20 : decode cX0_leave 20 = .ok (.iload_n 1, 1) := by decide +kernel
theorem dX0_leave_21 : decode cX0_leave 21 = .ok (.iaload, 1) := by decide +kernel
theorem dX0_leave_22 : decode cX0_leave 22 = .ok (.ifCond .ne 13, 3) := by decide +kernel
theorem dX0_leave_25 : decode cX0_leave 25 = .ok (.aload_n 0, 1) := by decide +kernel
theorem dX0_leave_26 : decode cX0_leave 26 = .ok (.dup, 1) := by decide +kernel
theorem dX0_leave_27 : decode cX0_leave 27 = .ok (.getfield 9, 3) := by decide +kernel
theorem dX0_leave_30 : decode cX0_leave 30 = .ok (.iconst 1, 1) := by decide +kernel
theorem dX0_leave_31 : decode cX0_leave 31 = .ok (.isub, 1) := by decide +kernel
theorem dX0_leave_32 : decode cX0_leave 32 = .ok (.putfield 9, 3) := by decide +kernel
theorem dX0_leave_35 : decode cX0_leave 35 = .ok (.return_, 1) := by decide +kernel
end
section
/-! decode rows (written by program) -/
theorem dX0_take_0 : decode cX0_take 0 = .ok (.iconst 0, 1) := by decide +kernel
theorem dX0_take_1 : decode cX0_take 1 = .ok (.istore_n 1, 1) := by decide +kernel
theorem dX0_take_2 : decode cX0_take 2 = .ok (.iload_n 1, 1) := by decide +kernel
theorem dX0_take_3 : decode cX0_take 3 = .ok (.aload_n 0, 1) := by decide +kernel
theorem dX0_take_4 : decode cX0_take 4 = .ok (.getfield 15, 3) := by decide +kernel
theorem dX0_take_7 : decode cX0_take 7 = .ok (.if_icmp .ge 63, 3) := by decide +kernel
theorem dX0_take_10 : decode cX0_take 10 = .ok (.aload_n 0, 1) := by decide +kernel
theorem dX0_take_11 : decode cX0_take 11 = .ok (.getfield 22, 3) := by decide +kernel
theorem dX0_take_14 : decode cX0_take 14 = .ok (.iload_n 1, 1) := by decide +kernel
theorem dX0_take_15 : decode cX0_take 15 = .ok (.iaload, 1) := by decide +kernel
theorem dX0_take_16 : decode cX0_take 16 = .ok (.ifCond .ne 48, 3) := by decide +kernel
theorem dX0_take_19 : decode cX0_take 19 = .ok (.aload_n 0, 1) := by decide +kernel
theorem dX0_take_20 : decode cX0_take 20 = .ok (.getfield 22, 3) := by decide +kernel
theorem dX0_take_23 : decode cX0_take 23 = .ok (.iload_n 1, 1) := by decide +kernel
theorem dX0_take_24 : decode cX0_take 24 = .ok (.iconst 1, 1) := by decide +kernel
theorem dX0_take_25 : decode cX0_take 25 = .ok (.iastore, 1) := by decide +kernel
theorem dX0_take_26 : decode cX0_take 26 = .ok (.aload_n 0, 1) := by decide +kernel
theorem dX0_take_27 : decode cX0_take 27 = .ok (.dup, 1) := by decide +kernel
theorem dX0_take_28 : decode cX0_take 28 = .ok (.getfield 9, 3) := by decide +kernel
theorem dX0_take_31 : decode cX0_take 31 = .ok (.iconst 1, 1) := by decide +kernel
theorem dX0_take_32 : decode cX0_take 32 = .ok (.iadd, 1) := by decide +kernel
theorem dX0_take_33 : decode cX0_take 33 = .ok (.putfield 9, 3) := by decide +kernel
theorem dX0_take_36 : decode cX0_take 36 = .ok (.iconst 0, 1) := by decide +kernel
theorem dX0_take_37 : decode cX0_take 37 = .ok (.istore_n 2, 1) := by decide +kernel
theorem dX0_take_38 : decode cX0_take 38 = .ok (.iload_n 2, 1) := by decide +kernel
theorem dX0_take_39 : decode cX0_take 39 = .ok (.bipush 8, 2) := by decide +kernel
theorem dX0_take_41 : decode cX0_take 41 = .ok (.if_icmp .ge 21, 3) := by decide +kernel
theorem dX0_take_44 : decode cX0_take 44 = .ok (.aload_n 0, 1) := by decide +kernel
theorem dX0_take_45 : decode cX0_take 45 = .ok (.getfield 18, 3) := by decide +kernel
theorem dX0_take_48 : decode cX0_take 48 = .ok (.iload_n 1, 1) := by decide +kernel
theorem dX0_take_49 : decode cX0_take 49 = .ok (.bipush 8, 2) := by decide +kernel
theorem dX0_take_51 : decode cX0_take 51 = .ok (.imul, 1) := by decide +kernel
theorem dX0_take_52 : decode cX0_take 52 = .ok (.iload_n 2, 1) := by decide +kernel
theorem dX0_take_53 : decode cX0_take 53 = .ok (.iadd, 1) := by decide +kernel
theorem dX0_take_54 : decode cX0_take 54 = .ok (.iconst 0, 1) := by decide +kernel
theorem dX0_take_55 : decode cX0_take 55 = .ok (.iastore, 1) := by decide +kernel
theorem dX0_take_56 : decode cX0_take 56 = .ok (.iinc 2 1, 3) := by decide +kernel
theorem dX0_take_59 : decode cX0_take 59 = .ok (.goto (-21), 3) := by decide +kernel
theorem dX0_take_62 : decode cX0_take 62 = .ok (.iload_n 1, 1) := by decide +kernel
theorem dX0_take_63 : decode cX0_take 63 = .ok (.ireturn, 1) := by decide +kernel
theorem dX0_take_64 : decode cX0_take 64 = .ok (.iinc 1 1, 3) := by decide +kernel
theorem dX0_take_67 : decode cX0_take 67 = .ok (.goto (-65), 3) := by decide +kernel
theorem dX0_take_70 : decode cX0_take 70 = .ok (.iconst (-1), 1) := by decide +kernel
theorem dX0_take_71 : decode cX0_take 71 = .ok (.ireturn, 1) := by decide +kernel
theorem dX0_unused_0 : decode cX0_unused 0 = .ok (.aload_n 0, 1) := by decide +kernel
theorem dX0_unused_1 : decode cX0_unused 1 = .ok (.getfield 15, 3) := by decide +kernel
theorem dX0_unused_4 : decode cX0_unused 4 = .ok (.aload_n 0, 1) := by decide +kernel
theorem dX0_unused_5 : decode cX0_unused 5 = .ok (.getfield 9, 3) := by decide +kernel
theorem dX0_unused_8 : decode cX0_unused 8 = .ok (.isub, 1) := by decide +kernel
theorem dX0_unused_9 : decode cX0_unused 9 = .ok (.ireturn, 1) := by decide +kernel
theorem dX1_append_0 : decode cX1_append 0 = .ok (.aload_n 0, 1) := by decide +kernel
theorem dX1_append_1 : decode cX1_append 1 = .ok (.getfield 9, 3) := by decide +kernel
theorem dX1_append_4 : decode cX1_append 4 = .ok (.aload_n 0, 1) := by decide +kernel
theorem dX1_append_5 : decode cX1_append 5 = .ok (.getfield 15, 3) := by decide +kernel
theorem dX1_append_8 : decode cX1_append 8 = .ok (.bipush 32, 2) := by decide +kernel
theorem dX1_append_10 : decode cX1_append 10 = .ok (.irem, 1) := by decide +kernel
theorem dX1_append_11 : decode cX1_append 11 = .ok (.iload_n 1, 1) := by decide +kernel
theorem dX1_append_12 : decode cX1_append 12 = .ok (.iastore, 1) := by decide +kernel
theorem dX1_append_13 : decode cX1_append 13 = .ok (.aload_n 0, 1) := by decide +kernel
theorem dX1_append_14 : decode cX1_append 14 = .ok (.dup, 1) := by decide +kernel
theorem dX1_append_15 : decode cX1_append 15 = .ok (.getfield 15, 3) := by decide +kernel
theorem dX1_append_18 : decode cX1_append 18 = .ok (.iconst 1, 1) := by decide +kernel
theorem dX1_append_19 : decode cX1_append 19 = .ok (.iadd, 1) := by decide +kernel
theorem dX1_append_20 : decode cX1_append 20 = .ok (.putfield 15, 3) := by decide +kernel
theorem dX1_append_23 : decode cX1_append 23 = .ok (.return_, 1) := by decide +kernel
theorem dX1_init_0 : decode cX1_init 0 = .ok (.aload_n 0, 1) := by decide +kernel
theorem dX1_init_1 : decode cX1_init 1 = .ok (.invokespecial 3, 3) := by decide +kernel
theorem dX1_init_4 : decode cX1_init 4 = .ok (.aload_n 0, 1) := by decide +kernel
theorem dX1_init_5 : decode cX1_init 5 = .ok (.bipush 32, 2) := by decide +kernel
theorem dX1_init_7 : decode cX1_init 7 = .ok (.newarray .int, 2) := by decide +kernel
theorem dX1_init_9 : decode cX1_init 9 = .ok (.putfield 9, 3) := by decide +kernel
theorem dX1_init_12 : decode cX1_init 12 = .ok (.aload_n 0, 1) := by decide +kernel
theorem dX1_init_13 : decode cX1_init 13 = .ok (.iconst 0, 1) := by decide +kernel
theorem dX1_init_14 : decode cX1_init 14 = .ok (.putfield 15, 3) := by decide +kernel
theorem dX1_init_17 : decode cX1_init 17 = .ok (.return_, 1) := by decide +kernel
theorem dX1_latest_0 : decode cX1_latest 0 = .ok (.iload_n 1, 1) := by decide +kernel
theorem dX1_latest_1 : decode cX1_latest 1 = .ok (.ifCond .lt 17, 3) := by decide +kernel
theorem dX1_latest_4 : decode cX1_latest 4 = .ok (.iload_n 1, 1) := by decide +kernel
theorem dX1_latest_5 : decode cX1_latest 5 = .ok (.bipush 32, 2) := by decide +kernel
theorem dX1_latest_7 : decode cX1_latest 7 = .ok (.if_icmp .ge 11, 3) := by decide +kernel
theorem dX1_latest_10 : decode cX1_latest 10 = .ok (.iload_n 1, 1) := by decide +kernel
theorem dX1_latest_11 : decode cX1_latest 11 = .ok (.aload_n 0, 1) := by decide +kernel
theorem dX1_latest_12 : decode cX1_latest 12 = .ok (.getfield 15, 3) := by decide +kernel
theorem dX1_latest_15 : decode cX1_latest 15 = .ok (.if_icmp .lt 5, 3) := by decide +kernel
theorem dX1_latest_18 : decode cX1_latest 18 = .ok (.iconst 0, 1) := by decide +kernel
theorem dX1_latest_19 : decode cX1_latest 19 = .ok (.ireturn, 1) := by decide +kernel
theorem dX1_latest_20 : decode cX1_latest 20 = .ok (.aload_n 0, 1) := by decide +kernel
theorem dX1_latest_21 : decode cX1_latest 21 = .ok (.getfield 9, 3) := by decide +kernel
theorem dX1_latest_24 : decode cX1_latest 24 = .ok (.aload_n 0, 1) := by decide +kernel
theorem dX1_latest_25 : decode cX1_latest 25 = .ok (.getfield 15, 3) := by decide +kernel
theorem dX1_latest_28 : decode cX1_latest 28 = .ok (.iconst 1, 1) := by decide +kernel
theorem dX1_latest_29 : decode cX1_latest 29 = .ok (.isub, 1) := by decide +kernel
theorem dX1_latest_30 : decode cX1_latest 30 = .ok (.iload_n 1, 1) := by decide +kernel
theorem dX1_latest_31 : decode cX1_latest 31 = .ok (.isub, 1) := by decide +kernel
theorem dX1_latest_32 : decode cX1_latest 32 = .ok (.bipush 32, 2) := by decide +kernel
theorem dX1_latest_34 : decode cX1_latest 34 = .ok (.irem, 1) := by decide +kernel
theorem dX1_latest_35 : decode cX1_latest 35 = .ok (.iaload, 1) := by decide +kernel
theorem dX1_latest_36 : decode cX1_latest 36 = .ok (.ireturn, 1) := by decide +kernel
theorem dX2_begin_0 : decode cX2_begin 0 = .ok (.aload_n 0, 1) := by decide +kernel
theorem dX2_begin_1 : decode cX2_begin 1 = .ok (.iconst 1, 1) := by decide +kernel
theorem dX2_begin_2 : decode cX2_begin 2 = .ok (.putfield 9, 3) := by decide +kernel
theorem dX2_begin_5 : decode cX2_begin 5 = .ok (.aload_n 0, 1) := by decide +kernel
theorem dX2_begin_6 : decode cX2_begin 6 = .ok (.iload_n 1, 1) := by decide +kernel
theorem dX2_begin_7 : decode cX2_begin 7 = .ok (.putfield 15, 3) := by decide +kernel
theorem dX2_begin_10 : decode cX2_begin 10 = .ok (.aload_n 0, 1) := by decide +kernel
theorem dX2_begin_11 : decode cX2_begin 11 = .ok (.iconst 0, 1) := by decide +kernel
theorem dX2_begin_12 : decode cX2_begin 12 = .ok (.putfield 21, 3) := by decide +kernel
theorem dX2_begin_15 : decode cX2_begin 15 = .ok (.iconst 0, 1) := by decide +kernel
theorem dX2_begin_16 : decode cX2_begin 16 = .ok (.istore_n 2, 1) := by decide +kernel
theorem dX2_begin_17 : decode cX2_begin 17 = .ok (.iload_n 2, 1) := by decide +kernel
theorem dX2_begin_18 : decode cX2_begin 18 = .ok (.bipush 8, 2) := by decide +kernel
theorem dX2_begin_20 : decode cX2_begin 20 = .ok (.if_icmp .ge 16, 3) := by decide +kernel
theorem dX2_begin_23 : decode cX2_begin 23 = .ok (.aload_n 0, 1) := by decide +kernel
theorem dX2_begin_24 : decode cX2_begin 24 = .ok (.getfield 27, 3) := by decide +kernel
theorem dX2_begin_27 : decode cX2_begin 27 = .ok (.iload_n 2, 1) := by decide +kernel
theorem dX2_begin_28 : decode cX2_begin 28 = .ok (.iconst 0, 1) := by decide +kernel
theorem dX2_begin_29 : decode cX2_begin 29 = .ok (.iastore, 1) := by decide +kernel
theorem dX2_begin_30 : decode cX2_begin 30 = .ok (.iinc 2 1, 3) := by decide +kernel
theorem dX2_begin_33 : decode cX2_begin 33 = .ok (.goto (-16), 3) := by decide +kernel
theorem dX2_begin_36 : decode cX2_begin 36 = .ok (.return_, 1) := by decide +kernel
theorem dX2_holds_0 : decode cX2_holds 0 = .ok (.iload_n 1, 1) := by decide +kernel
theorem dX2_holds_1 : decode cX2_holds 1 = .ok (.ifCond .lt 15, 3) := by decide +kernel
theorem dX2_holds_4 : decode cX2_holds 4 = .ok (.iload_n 1, 1) := by decide +kernel
theorem dX2_holds_5 : decode cX2_holds 5 = .ok (.aload_n 0, 1) := by decide +kernel
theorem dX2_holds_6 : decode cX2_holds 6 = .ok (.getfield 24, 3) := by decide +kernel
theorem dX2_holds_9 : decode cX2_holds 9 = .ok (.if_icmp .ge 7, 3) := by decide +kernel
theorem dX2_holds_12 : decode cX2_holds 12 = .ok (.iconst 1, 1) := by decide +kernel
theorem dX2_holds_13 : decode cX2_holds 13 = .ok (.goto 4, 3) := by decide +kernel
theorem dX2_holds_16 : decode cX2_holds 16 = .ok (.iconst 0, 1) := by decide +kernel
theorem dX2_holds_17 : decode cX2_holds 17 = .ok (.ireturn, 1) := by decide +kernel
theorem dX2_init_0 : decode cX2_init 0 = .ok (.aload_n 0, 1) := by decide +kernel
theorem dX2_init_1 : decode cX2_init 1 = .ok (.invokespecial 3, 3) := by decide +kernel
theorem dX2_init_4 : decode cX2_init 4 = .ok (.aload_n 0, 1) := by decide +kernel
theorem dX2_init_5 : decode cX2_init 5 = .ok (.iconst 0, 1) := by decide +kernel
theorem dX2_init_6 : decode cX2_init 6 = .ok (.putfield 9, 3) := by decide +kernel
theorem dX2_init_9 : decode cX2_init 9 = .ok (.aload_n 0, 1) := by decide +kernel
theorem dX2_init_10 : decode cX2_init 10 = .ok (.iconst (-1), 1) := by decide +kernel
theorem dX2_init_11 : decode cX2_init 11 = .ok (.putfield 15, 3) := by decide +kernel
theorem dX2_init_14 : decode cX2_init 14 = .ok (.aload_n 0, 1) := by decide +kernel
theorem dX2_init_15 : decode cX2_init 15 = .ok (.iconst 0, 1) := by decide +kernel
theorem dX2_init_16 : decode cX2_init 16 = .ok (.putfield 18, 3) := by decide +kernel
theorem dX2_init_19 : decode cX2_init 19 = .ok (.aload_n 0, 1) := by decide +kernel
theorem dX2_init_20 : decode cX2_init 20 = .ok (.iconst 0, 1) := by decide +kernel
theorem dX2_init_21 : decode cX2_init 21 = .ok (.putfield 21, 3) := by decide +kernel
theorem dX2_init_24 : decode cX2_init 24 = .ok (.aload_n 0, 1) := by decide +kernel
theorem dX2_init_25 : decode cX2_init 25 = .ok (.iconst 0, 1) := by decide +kernel
theorem dX2_init_26 : decode cX2_init 26 = .ok (.putfield 24, 3) := by decide +kernel
theorem dX2_init_29 : decode cX2_init 29 = .ok (.aload_n 0, 1) := by decide +kernel
theorem dX2_init_30 : decode cX2_init 30 = .ok (.bipush 8, 2) := by decide +kernel
theorem dX2_init_32 : decode cX2_init 32 = .ok (.newarray .int, 2) := by decide +kernel
theorem dX2_init_34 : decode cX2_init 34 = .ok (.putfield 27, 3) := by decide +kernel
theorem dX2_init_37 : decode cX2_init 37 = .ok (.aload_n 0, 1) := by decide +kernel
theorem dX2_init_38 : decode cX2_init 38 = .ok (.bipush 8, 2) := by decide +kernel
theorem dX2_init_40 : decode cX2_init 40 = .ok (.newarray .int, 2) := by decide +kernel
theorem dX2_init_42 : decode cX2_init 42 = .ok (.putfield 31, 3) := by decide +kernel
theorem dX2_init_45 : decode cX2_init 45 = .ok (.iconst 0, 1) := by decide +kernel
theorem dX2_init_46 : decode cX2_init 46 = .ok (.istore_n 1, 1) := by decide +kernel
theorem dX2_init_47 : decode cX2_init 47 = .ok (.iload_n 1, 1) := by decide +kernel
theorem dX2_init_48 : decode cX2_init 48 = .ok (.bipush 8, 2) := by decide +kernel
theorem dX2_init_50 : decode cX2_init 50 = .ok (.if_icmp .ge 16, 3) := by decide +kernel
theorem dX2_init_53 : decode cX2_init 53 = .ok (.aload_n 0, 1) := by decide +kernel
theorem dX2_init_54 : decode cX2_init 54 = .ok (.getfield 31, 3) := by decide +kernel
theorem dX2_init_57 : decode cX2_init 57 = .ok (.iload_n 1, 1) := by decide +kernel
theorem dX2_init_58 : decode cX2_init 58 = .ok (.iconst (-1), 1) := by decide +kernel
theorem dX2_init_59 : decode cX2_init 59 = .ok (.iastore, 1) := by decide +kernel
theorem dX2_init_60 : decode cX2_init 60 = .ok (.iinc 1 1, 3) := by decide +kernel
theorem dX2_init_63 : decode cX2_init 63 = .ok (.goto (-16), 3) := by decide +kernel
theorem dX2_init_66 : decode cX2_init 66 = .ok (.return_, 1) := by decide +kernel
theorem dX2_vacate_0 : decode cX2_vacate 0 = .ok (.aload_n 0, 1) := by decide +kernel
theorem dX2_vacate_1 : decode cX2_vacate 1 = .ok (.iconst 0, 1) := by decide +kernel
theorem dX2_vacate_2 : decode cX2_vacate 2 = .ok (.putfield 9, 3) := by decide +kernel
theorem dX2_vacate_5 : decode cX2_vacate 5 = .ok (.aload_n 0, 1) := by decide +kernel
theorem dX2_vacate_6 : decode cX2_vacate 6 = .ok (.iconst (-1), 1) := by decide +kernel
theorem dX2_vacate_7 : decode cX2_vacate 7 = .ok (.putfield 15, 3) := by decide +kernel
theorem dX2_vacate_10 : decode cX2_vacate 10 = .ok (.aload_n 0, 1) := by decide +kernel
theorem dX2_vacate_11 : decode cX2_vacate 11 = .ok (.getfield 18, 3) := by decide +kernel
theorem dX2_vacate_14 : decode cX2_vacate 14 = .ok (.ireturn, 1) := by decide +kernel
theorem dX3_clearFrom_0 : decode cX3_clearFrom 0 = .ok (.iload_n 2, 1) := by decide +kernel
theorem dX3_clearFrom_1 : decode cX3_clearFrom 1 = .ok (.bipush 8, 2) := by decide +kernel
theorem dX3_clearFrom_3 : decode cX3_clearFrom 3 = .ok (.idiv, 1) := by decide +kernel
theorem dX3_clearFrom_4 : decode cX3_clearFrom 4 = .ok (.iconst 1, 1) := by decide +kernel
theorem dX3_clearFrom_5 : decode cX3_clearFrom 5 = .ok (.iadd, 1) := by decide +kernel
theorem dX3_clearFrom_6 : decode cX3_clearFrom 6 = .ok (.bipush 8, 2) := by decide +kernel
theorem dX3_clearFrom_8 : decode cX3_clearFrom 8 = .ok (.imul, 1) := by decide +kernel
theorem dX3_clearFrom_9 : decode cX3_clearFrom 9 = .ok (.istore_n 3, 1) := by decide +kernel
theorem dX3_clearFrom_10 : decode cX3_clearFrom 10 = .ok (.iload_n 2, 1) := by decide +kernel
theorem dX3_clearFrom_11 : decode cX3_clearFrom 11 = .ok (.istore 4, 2) := by decide +kernel
theorem dX3_clearFrom_13 : decode cX3_clearFrom 13 = .ok (.iload 4, 2) := by decide +kernel
theorem dX3_clearFrom_15 : decode cX3_clearFrom 15 = .ok (.iload_n 3, 1) := by decide +kernel
theorem dX3_clearFrom_16 : decode cX3_clearFrom 16 = .ok (.if_icmp .ge 17, 3) := by decide +kernel
theorem dX3_clearFrom_19 : decode cX3_clearFrom 19 = .ok (.aload_n 0, 1) := by decide +kernel
theorem dX3_clearFrom_20 : decode cX3_clearFrom 20 = .ok (.aload_n 1, 1) := by decide +kernel
theorem dX3_clearFrom_21 : decode cX3_clearFrom 21 = .ok (.iload 4, 2) := by decide +kernel
theorem dX3_clearFrom_23 : decode cX3_clearFrom 23 = .ok (.iconst 0, 1) := by decide +kernel
theorem dX3_clearFrom_24 : decode cX3_clearFrom 24 = .ok (.invokevirtual 63, 3) := by decide +kernel
theorem dX3_clearFrom_27 : decode cX3_clearFrom 27 = .ok (.iinc 4 1, 3) := by decide +kernel
theorem dX3_clearFrom_30 : decode cX3_clearFrom 30 = .ok (.goto (-17), 3) := by decide +kernel
theorem dX3_clearFrom_33 : decode cX3_clearFrom 33 = .ok (.return_, 1) := by decide +kernel
theorem dX3_code_0 : decode cX3_code 0 = .ok (.aload_n 0, 1) := by decide +kernel
theorem dX3_code_1 : decode cX3_code 1 = .ok (.iload_n 1, 1) := by decide +kernel
theorem dX3_code_2 : decode cX3_code 2 = .ok (.invokevirtual 78, 3) := by decide +kernel
theorem dX3_code_5 : decode cX3_code 5 = .ok (.ifCond .eq 15, 3) := by decide +kernel
theorem dX3_code_8 : decode cX3_code 8 = .ok (.aload_n 0, 1) := by decide +kernel
theorem dX3_code_9 : decode cX3_code 9 = .ok (.getfield 20, 3) := by decide +kernel
theorem dX3_code_12 : decode cX3_code 12 = .ok (.iload_n 1, 1) := by decide +kernel
theorem dX3_code_13 : decode cX3_code 13 = .ok (.aaload, 1) := by decide +kernel
theorem dX3_code_14 : decode cX3_code 14 = .ok (.getfield 93, 3) := by decide +kernel
theorem dX3_code_17 : decode cX3_code 17 = .ok (.goto 4, 3) := by decide +kernel
theorem dX3_code_20 : decode cX3_code 20 = .ok (.iconst 0, 1) := by decide +kernel
theorem dX3_code_21 : decode cX3_code 21 = .ok (.ireturn, 1) := by decide +kernel
theorem dX3_doKernelOp_0 : decode cX3_doKernelOp 0 = .ok (.aload_n 0, 1) := by decide +kernel
theorem dX3_doKernelOp_1 : decode cX3_doKernelOp 1 = .ok (.getfield 20, 3) := by decide +kernel
theorem dX3_doKernelOp_4 : decode cX3_doKernelOp 4 = .ok (.iload_n 1, 1) := by decide +kernel
theorem dX3_doKernelOp_5 : decode cX3_doKernelOp 5 = .ok (.aaload, 1) := by decide +kernel
theorem dX3_doKernelOp_6 : decode cX3_doKernelOp 6 = .ok (.astore 5, 2) := by decide +kernel
theorem dX3_doKernelOp_8 : decode cX3_doKernelOp 8 = .ok (.iload_n 2, 1) := by decide +kernel
theorem dX3_doKernelOp_9 : decode cX3_doKernelOp 9 = .ok (.tableswitch 95 8 13 #[39, 46, 55, 68, 75, 85], 39) := by decide +kernel
theorem dX3_doKernelOp_48 : decode cX3_doKernelOp 48 = .ok (.aload_n 0, 1) := by decide +kernel
theorem dX3_doKernelOp_49 : decode cX3_doKernelOp 49 = .ok (.iload_n 1, 1) := by decide +kernel
theorem dX3_doKernelOp_50 : decode cX3_doKernelOp 50 = .ok (.iload_n 3, 1) := by decide +kernel
theorem dX3_doKernelOp_51 : decode cX3_doKernelOp 51 = .ok (.invokevirtual 159, 3) := by decide +kernel
theorem dX3_doKernelOp_54 : decode cX3_doKernelOp 54 = .ok (.ireturn, 1) := by decide +kernel
theorem dX3_doKernelOp_55 : decode cX3_doKernelOp 55 = .ok (.aload_n 0, 1) := by decide +kernel
theorem dX3_doKernelOp_56 : decode cX3_doKernelOp 56 = .ok (.iload_n 1, 1) := by decide +kernel
theorem dX3_doKernelOp_57 : decode cX3_doKernelOp 57 = .ok (.iload_n 3, 1) := by decide +kernel
theorem dX3_doKernelOp_58 : decode cX3_doKernelOp 58 = .ok (.iload 4, 2) := by decide +kernel
theorem dX3_doKernelOp_60 : decode cX3_doKernelOp 60 = .ok (.invokevirtual 162, 3) := by decide +kernel
theorem dX3_doKernelOp_63 : decode cX3_doKernelOp 63 = .ok (.ireturn, 1) := by decide +kernel
theorem dX3_doKernelOp_64 : decode cX3_doKernelOp 64 = .ok (.aload_n 0, 1) := by decide +kernel
theorem dX3_doKernelOp_65 : decode cX3_doKernelOp 65 = .ok (.iload_n 1, 1) := by decide +kernel
theorem dX3_doKernelOp_66 : decode cX3_doKernelOp 66 = .ok (.aload 5, 2) := by decide +kernel
theorem dX3_doKernelOp_68 : decode cX3_doKernelOp 68 = .ok (.getfield 103, 3) := by decide +kernel
theorem dX3_doKernelOp_71 : decode cX3_doKernelOp 71 = .ok (.iload_n 3, 1) := by decide +kernel
theorem dX3_doKernelOp_72 : decode cX3_doKernelOp 72 = .ok (.iaload, 1) := by decide +kernel
theorem dX3_doKernelOp_73 : decode cX3_doKernelOp 73 = .ok (.invokevirtual 74, 3) := by decide +kernel
theorem dX3_doKernelOp_76 : decode cX3_doKernelOp 76 = .ok (.ireturn, 1) := by decide +kernel
theorem dX3_doKernelOp_77 : decode cX3_doKernelOp 77 = .ok (.aload_n 0, 1) := by decide +kernel
theorem dX3_doKernelOp_78 : decode cX3_doKernelOp 78 = .ok (.iload_n 1, 1) := by decide +kernel
theorem dX3_doKernelOp_79 : decode cX3_doKernelOp 79 = .ok (.iload_n 3, 1) := by decide +kernel
theorem dX3_doKernelOp_80 : decode cX3_doKernelOp 80 = .ok (.invokevirtual 165, 3) := by decide +kernel
theorem dX3_doKernelOp_83 : decode cX3_doKernelOp 83 = .ok (.ireturn, 1) := by decide +kernel
theorem dX3_doKernelOp_84 : decode cX3_doKernelOp 84 = .ok (.aload_n 0, 1) := by decide +kernel
theorem dX3_doKernelOp_85 : decode cX3_doKernelOp 85 = .ok (.aload_n 0, 1) := by decide +kernel
theorem dX3_doKernelOp_86 : decode cX3_doKernelOp 86 = .ok (.getfield 36, 3) := by decide +kernel
theorem dX3_doKernelOp_89 : decode cX3_doKernelOp 89 = .ok (.putfield 43, 3) := by decide +kernel
theorem dX3_doKernelOp_92 : decode cX3_doKernelOp 92 = .ok (.iconst 1, 1) := by decide +kernel
theorem dX3_doKernelOp_93 : decode cX3_doKernelOp 93 = .ok (.ireturn, 1) := by decide +kernel
theorem dX3_doKernelOp_94 : decode cX3_doKernelOp 94 = .ok (.aload 5, 2) := by decide +kernel
theorem dX3_doKernelOp_96 : decode cX3_doKernelOp 96 = .ok (.getfield 103, 3) := by decide +kernel
theorem dX3_doKernelOp_99 : decode cX3_doKernelOp 99 = .ok (.iload_n 3, 1) := by decide +kernel
theorem dX3_doKernelOp_100 : decode cX3_doKernelOp 100 = .ok (.iload_n 1, 1) := by decide +kernel
theorem dX3_doKernelOp_101 : decode cX3_doKernelOp 101 = .ok (.iastore, 1) := by decide +kernel
theorem dX3_doKernelOp_102 : decode cX3_doKernelOp 102 = .ok (.iconst 1, 1) := by decide +kernel
theorem dX3_doKernelOp_103 : decode cX3_doKernelOp 103 = .ok (.ireturn, 1) := by decide +kernel
theorem dX3_doKernelOp_104 : decode cX3_doKernelOp 104 = .ok (.aload_n 0, 1) := by decide +kernel
theorem dX3_doKernelOp_105 : decode cX3_doKernelOp 105 = .ok (.iload_n 1, 1) := by decide +kernel
theorem dX3_doKernelOp_106 : decode cX3_doKernelOp 106 = .ok (.bipush (-12), 2) := by decide +kernel
theorem dX3_doKernelOp_108 : decode cX3_doKernelOp 108 = .ok (.invokevirtual 74, 3) := by decide +kernel
theorem dX3_doKernelOp_111 : decode cX3_doKernelOp 111 = .ok (.ireturn, 1) := by decide +kernel
theorem dX3_doOwnOp_0 : decode cX3_doOwnOp 0 = .ok (.aload_n 0, 1) := by decide +kernel
theorem dX3_doOwnOp_1 : decode cX3_doOwnOp 1 = .ok (.getfield 20, 3) := by decide +kernel
theorem dX3_doOwnOp_4 : decode cX3_doOwnOp 4 = .ok (.iload_n 1, 1) := by decide +kernel
theorem dX3_doOwnOp_5 : decode cX3_doOwnOp 5 = .ok (.aaload, 1) := by decide +kernel
theorem dX3_doOwnOp_6 : decode cX3_doOwnOp 6 = .ok (.astore 6, 2) := by decide +kernel
theorem dX3_doOwnOp_8 : decode cX3_doOwnOp 8 = .ok (.aload 6, 2) := by decide +kernel
theorem dX3_doOwnOp_10 : decode cX3_doOwnOp 10 = .ok (.getfield 103, 3) := by decide +kernel
theorem dX3_doOwnOp_13 : decode cX3_doOwnOp 13 = .ok (.astore 7, 2) := by decide +kernel
theorem dX3_doOwnOp_15 : decode cX3_doOwnOp 15 = .ok (.iload_n 2, 1) := by decide +kernel
theorem dX3_doOwnOp_16 : decode cX3_doOwnOp 16 = .ok (.tableswitch 162 0 6 #[44, 52, 71, 87, 102, 117, 137], 44) := by decide +kernel
theorem dX3_doOwnOp_60 : decode cX3_doOwnOp 60 = .ok (.aload 7, 2) := by decide +kernel
theorem dX3_doOwnOp_62 : decode cX3_doOwnOp 62 = .ok (.iload_n 3, 1) := by decide +kernel
theorem dX3_doOwnOp_63 : decode cX3_doOwnOp 63 = .ok (.iload 5, 2) := by decide +kernel
theorem dX3_doOwnOp_65 : decode cX3_doOwnOp 65 = .ok (.iastore, 1) := by decide +kernel
theorem dX3_doOwnOp_66 : decode cX3_doOwnOp 66 = .ok (.iconst 1, 1) := by decide +kernel
theorem dX3_doOwnOp_67 : decode cX3_doOwnOp 67 = .ok (.ireturn, 1) := by decide +kernel
theorem dX3_doOwnOp_68 : decode cX3_doOwnOp 68 = .ok (.aload 7, 2) := by decide +kernel
theorem dX3_doOwnOp_70 : decode cX3_doOwnOp 70 = .ok (.iload_n 3, 1) := by decide +kernel
theorem dX3_doOwnOp_71 : decode cX3_doOwnOp 71 = .ok (.aload 7, 2) := by decide +kernel
theorem dX3_doOwnOp_73 : decode cX3_doOwnOp 73 = .ok (.iload_n 3, 1) := by decide +kernel
theorem dX3_doOwnOp_74 : decode cX3_doOwnOp 74 = .ok (.iaload, 1) := by decide +kernel
theorem dX3_doOwnOp_75 : decode cX3_doOwnOp 75 = .ok (.aload 7, 2) := by decide +kernel
theorem dX3_doOwnOp_77 : decode cX3_doOwnOp 77 = .ok (.iload 4, 2) := by decide +kernel
theorem dX3_doOwnOp_79 : decode cX3_doOwnOp 79 = .ok (.iaload, 1) := by decide +kernel
theorem dX3_doOwnOp_80 : decode cX3_doOwnOp 80 = .ok (.iadd, 1) := by decide +kernel
theorem dX3_doOwnOp_81 : decode cX3_doOwnOp 81 = .ok (.iload 5, 2) := by decide +kernel
theorem dX3_doOwnOp_83 : decode cX3_doOwnOp 83 = .ok (.iadd, 1) := by decide +kernel
theorem dX3_doOwnOp_84 : decode cX3_doOwnOp 84 = .ok (.iastore, 1) := by decide +kernel
theorem dX3_doOwnOp_85 : decode cX3_doOwnOp 85 = .ok (.iconst 1, 1) := by decide +kernel
theorem dX3_doOwnOp_86 : decode cX3_doOwnOp 86 = .ok (.ireturn, 1) := by decide +kernel
theorem dX3_doOwnOp_87 : decode cX3_doOwnOp 87 = .ok (.aload 7, 2) := by decide +kernel
theorem dX3_doOwnOp_89 : decode cX3_doOwnOp 89 = .ok (.iload_n 3, 1) := by decide +kernel
theorem dX3_doOwnOp_90 : decode cX3_doOwnOp 90 = .ok (.aload 7, 2) := by decide +kernel
theorem dX3_doOwnOp_92 : decode cX3_doOwnOp 92 = .ok (.iload_n 3, 1) := by decide +kernel
theorem dX3_doOwnOp_93 : decode cX3_doOwnOp 93 = .ok (.iaload, 1) := by decide +kernel
theorem dX3_doOwnOp_94 : decode cX3_doOwnOp 94 = .ok (.aload 7, 2) := by decide +kernel
theorem dX3_doOwnOp_96 : decode cX3_doOwnOp 96 = .ok (.iload 4, 2) := by decide +kernel
theorem dX3_doOwnOp_98 : decode cX3_doOwnOp 98 = .ok (.iaload, 1) := by decide +kernel
theorem dX3_doOwnOp_99 : decode cX3_doOwnOp 99 = .ok (.isub, 1) := by decide +kernel
theorem dX3_doOwnOp_100 : decode cX3_doOwnOp 100 = .ok (.iastore, 1) := by decide +kernel
theorem dX3_doOwnOp_101 : decode cX3_doOwnOp 101 = .ok (.iconst 1, 1) := by decide +kernel
theorem dX3_doOwnOp_102 : decode cX3_doOwnOp 102 = .ok (.ireturn, 1) := by decide +kernel
theorem dX3_doOwnOp_103 : decode cX3_doOwnOp 103 = .ok (.aload_n 0, 1) := by decide +kernel
theorem dX3_doOwnOp_104 : decode cX3_doOwnOp 104 = .ok (.iload_n 1, 1) := by decide +kernel
theorem dX3_doOwnOp_105 : decode cX3_doOwnOp 105 = .ok (.iload_n 3, 1) := by decide +kernel
theorem dX3_doOwnOp_106 : decode cX3_doOwnOp 106 = .ok (.aload 7, 2) := by decide +kernel
theorem dX3_doOwnOp_108 : decode cX3_doOwnOp 108 = .ok (.iload 4, 2) := by decide +kernel
theorem dX3_doOwnOp_110 : decode cX3_doOwnOp 110 = .ok (.iaload, 1) := by decide +kernel
theorem dX3_doOwnOp_111 : decode cX3_doOwnOp 111 = .ok (.iload 5, 2) := by decide +kernel
theorem dX3_doOwnOp_113 : decode cX3_doOwnOp 113 = .ok (.iadd, 1) := by decide +kernel
theorem dX3_doOwnOp_114 : decode cX3_doOwnOp 114 = .ok (.invokevirtual 145, 3) := by decide +kernel
theorem dX3_doOwnOp_117 : decode cX3_doOwnOp 117 = .ok (.ireturn, 1) := by decide +kernel
theorem dX3_doOwnOp_118 : decode cX3_doOwnOp 118 = .ok (.aload_n 0, 1) := by decide +kernel
theorem dX3_doOwnOp_119 : decode cX3_doOwnOp 119 = .ok (.iload_n 1, 1) := by decide +kernel
theorem dX3_doOwnOp_120 : decode cX3_doOwnOp 120 = .ok (.iload_n 3, 1) := by decide +kernel
theorem dX3_doOwnOp_121 : decode cX3_doOwnOp 121 = .ok (.aload 7, 2) := by decide +kernel
theorem dX3_doOwnOp_123 : decode cX3_doOwnOp 123 = .ok (.iload 4, 2) := by decide +kernel
theorem dX3_doOwnOp_125 : decode cX3_doOwnOp 125 = .ok (.iaload, 1) := by decide +kernel
theorem dX3_doOwnOp_126 : decode cX3_doOwnOp 126 = .ok (.iload 5, 2) := by decide +kernel
theorem dX3_doOwnOp_128 : decode cX3_doOwnOp 128 = .ok (.iadd, 1) := by decide +kernel
theorem dX3_doOwnOp_129 : decode cX3_doOwnOp 129 = .ok (.invokevirtual 149, 3) := by decide +kernel
theorem dX3_doOwnOp_132 : decode cX3_doOwnOp 132 = .ok (.ireturn, 1) := by decide +kernel
theorem dX3_doOwnOp_133 : decode cX3_doOwnOp 133 = .ok (.aload 6, 2) := by decide +kernel
theorem dX3_doOwnOp_135 : decode cX3_doOwnOp 135 = .ok (.aload 7, 2) := by decide +kernel
theorem dX3_doOwnOp_137 : decode cX3_doOwnOp 137 = .ok (.iload_n 3, 1) := by decide +kernel
theorem dX3_doOwnOp_138 : decode cX3_doOwnOp 138 = .ok (.iaload, 1) := by decide +kernel
theorem dX3_doOwnOp_139 : decode cX3_doOwnOp 139 = .ok (.ifCond .eq 7, 3) := by decide +kernel
theorem dX3_doOwnOp_142 : decode cX3_doOwnOp 142 = .ok (.iconst 1, 1) := by decide +kernel
theorem dX3_doOwnOp_143 : decode cX3_doOwnOp 143 = .ok (.goto 4, 3) := by decide +kernel
theorem dX3_doOwnOp_146 : decode cX3_doOwnOp 146 = .ok (.iconst 0, 1) := by decide +kernel
theorem dX3_doOwnOp_147 : decode cX3_doOwnOp 147 = .ok (.iload 5, 2) := by decide +kernel
theorem dX3_doOwnOp_149 : decode cX3_doOwnOp 149 = .ok (.invokestatic 152, 3) := by decide +kernel
theorem dX3_doOwnOp_152 : decode cX3_doOwnOp 152 = .ok (.ireturn, 1) := by decide +kernel
theorem dX3_doOwnOp_153 : decode cX3_doOwnOp 153 = .ok (.aload 6, 2) := by decide +kernel
theorem dX3_doOwnOp_155 : decode cX3_doOwnOp 155 = .ok (.aload 7, 2) := by decide +kernel
theorem dX3_doOwnOp_157 : decode cX3_doOwnOp 157 = .ok (.iload_n 3, 1) := by decide +kernel
theorem dX3_doOwnOp_158 : decode cX3_doOwnOp 158 = .ok (.iaload, 1) := by decide +kernel
theorem dX3_doOwnOp_159 : decode cX3_doOwnOp 159 = .ok (.aload 7, 2) := by decide +kernel
theorem dX3_doOwnOp_161 : decode cX3_doOwnOp 161 = .ok (.iload 4, 2) := by decide +kernel
theorem dX3_doOwnOp_163 : decode cX3_doOwnOp 163 = .ok (.iaload, 1) := by decide +kernel
theorem dX3_doOwnOp_164 : decode cX3_doOwnOp 164 = .ok (.if_icmp .ge 7, 3) := by decide +kernel
theorem dX3_doOwnOp_167 : decode cX3_doOwnOp 167 = .ok (.iconst 1, 1) := by decide +kernel
theorem dX3_doOwnOp_168 : decode cX3_doOwnOp 168 = .ok (.goto 4, 3) := by decide +kernel
theorem dX3_doOwnOp_171 : decode cX3_doOwnOp 171 = .ok (.iconst 0, 1) := by decide +kernel
theorem dX3_doOwnOp_172 : decode cX3_doOwnOp 172 = .ok (.iload 5, 2) := by decide +kernel
theorem dX3_doOwnOp_174 : decode cX3_doOwnOp 174 = .ok (.invokestatic 152, 3) := by decide +kernel
theorem dX3_doOwnOp_177 : decode cX3_doOwnOp 177 = .ok (.ireturn, 1) := by decide +kernel
theorem dX3_doOwnOp_178 : decode cX3_doOwnOp 178 = .ok (.aload_n 0, 1) := by decide +kernel
theorem dX3_doOwnOp_179 : decode cX3_doOwnOp 179 = .ok (.getfield 28, 3) := by decide +kernel
theorem dX3_doOwnOp_182 : decode cX3_doOwnOp 182 = .ok (.aload 7, 2) := by decide +kernel
theorem dX3_doOwnOp_184 : decode cX3_doOwnOp 184 = .ok (.iload_n 3, 1) := by decide +kernel
theorem dX3_doOwnOp_185 : decode cX3_doOwnOp 185 = .ok (.iaload, 1) := by decide +kernel
theorem dX3_doOwnOp_186 : decode cX3_doOwnOp 186 = .ok (.invokevirtual 156, 3) := by decide +kernel
theorem dX3_doOwnOp_189 : decode cX3_doOwnOp 189 = .ok (.iconst 2, 1) := by decide +kernel
theorem dX3_doOwnOp_190 : decode cX3_doOwnOp 190 = .ok (.ireturn, 1) := by decide +kernel
theorem dX3_end_0 : decode cX3_end 0 = .ok (.aload_n 0, 1) := by decide +kernel
theorem dX3_end_1 : decode cX3_end 1 = .ok (.getfield 20, 3) := by decide +kernel
theorem dX3_end_4 : decode cX3_end 4 = .ok (.iload_n 1, 1) := by decide +kernel
theorem dX3_end_5 : decode cX3_end 5 = .ok (.aaload, 1) := by decide +kernel
theorem dX3_end_6 : decode cX3_end 6 = .ok (.astore_n 3, 1) := by decide +kernel
theorem dX3_end_7 : decode cX3_end 7 = .ok (.aload_n 0, 1) := by decide +kernel
theorem dX3_end_8 : decode cX3_end 8 = .ok (.aload_n 3, 1) := by decide +kernel
theorem dX3_end_9 : decode cX3_end 9 = .ok (.iconst 0, 1) := by decide +kernel
theorem dX3_end_10 : decode cX3_end 10 = .ok (.invokevirtual 171, 3) := by decide +kernel
theorem dX3_end_13 : decode cX3_end 13 = .ok (.aload_n 3, 1) := by decide +kernel
theorem dX3_end_14 : decode cX3_end 14 = .ok (.iconst 3, 1) := by decide +kernel
theorem dX3_end_15 : decode cX3_end 15 = .ok (.putfield 90, 3) := by decide +kernel
theorem dX3_end_18 : decode cX3_end 18 = .ok (.aload_n 3, 1) := by decide +kernel
theorem dX3_end_19 : decode cX3_end 19 = .ok (.iload_n 2, 1) := by decide +kernel
theorem dX3_end_20 : decode cX3_end 20 = .ok (.putfield 93, 3) := by decide +kernel
theorem dX3_end_23 : decode cX3_end 23 = .ok (.iconst 0, 1) := by decide +kernel
theorem dX3_end_24 : decode cX3_end 24 = .ok (.istore 4, 2) := by decide +kernel
theorem dX3_end_26 : decode cX3_end 26 = .ok (.iload 4, 2) := by decide +kernel
theorem dX3_end_28 : decode cX3_end 28 = .ok (.bipush 8, 2) := by decide +kernel
theorem dX3_end_30 : decode cX3_end 30 = .ok (.if_icmp .ge 34, 3) := by decide +kernel
theorem dX3_end_33 : decode cX3_end 33 = .ok (.aload_n 0, 1) := by decide +kernel
theorem dX3_end_34 : decode cX3_end 34 = .ok (.getfield 20, 3) := by decide +kernel
theorem dX3_end_37 : decode cX3_end 37 = .ok (.iload 4, 2) := by decide +kernel
theorem dX3_end_39 : decode cX3_end 39 = .ok (.aaload, 1) := by decide +kernel
theorem dX3_end_40 : decode cX3_end 40 = .ok (.getfield 81, 3) := by decide +kernel
theorem dX3_end_43 : decode cX3_end 43 = .ok (.iload_n 1, 1) := by decide +kernel
theorem dX3_end_44 : decode cX3_end 44 = .ok (.if_icmp .ne 14, 3) := by decide +kernel
theorem dX3_end_47 : decode cX3_end 47 = .ok (.aload_n 0, 1) := by decide +kernel
theorem dX3_end_48 : decode cX3_end 48 = .ok (.getfield 20, 3) := by decide +kernel
theorem dX3_end_51 : decode cX3_end 51 = .ok (.iload 4, 2) := by decide +kernel
theorem dX3_end_53 : decode cX3_end 53 = .ok (.aaload, 1) := by decide +kernel
theorem dX3_end_54 : decode cX3_end 54 = .ok (.iconst (-1), 1) := by decide +kernel
theorem dX3_end_55 : decode cX3_end 55 = .ok (.putfield 81, 3) := by decide +kernel
theorem dX3_end_58 : decode cX3_end 58 = .ok (.iinc 4 1, 3) := by decide +kernel
theorem dX3_end_61 : decode cX3_end 61 = .ok (.goto (-35), 3) := by decide +kernel
theorem dX3_end_64 : decode cX3_end 64 = .ok (.aload_n 3, 1) := by decide +kernel
theorem dX3_end_65 : decode cX3_end 65 = .ok (.getfield 81, 3) := by decide +kernel
theorem dX3_end_68 : decode cX3_end 68 = .ok (.iconst (-1), 1) := by decide +kernel
theorem dX3_end_69 : decode cX3_end 69 = .ok (.if_icmp .eq 32, 3) := by decide +kernel
theorem dX3_end_72 : decode cX3_end 72 = .ok (.aload_n 0, 1) := by decide +kernel
theorem dX3_end_73 : decode cX3_end 73 = .ok (.getfield 20, 3) := by decide +kernel
theorem dX3_end_76 : decode cX3_end 76 = .ok (.aload_n 3, 1) := by decide +kernel
theorem dX3_end_77 : decode cX3_end 77 = .ok (.getfield 81, 3) := by decide +kernel
theorem dX3_end_80 : decode cX3_end 80 = .ok (.aaload, 1) := by decide +kernel
theorem dX3_end_81 : decode cX3_end 81 = .ok (.getfield 90, 3) := by decide +kernel
theorem dX3_end_84 : decode cX3_end 84 = .ok (.iconst 2, 1) := by decide +kernel
theorem dX3_end_85 : decode cX3_end 85 = .ok (.if_icmp .ne 16, 3) := by decide +kernel
theorem dX3_end_88 : decode cX3_end 88 = .ok (.aload_n 0, 1) := by decide +kernel
theorem dX3_end_89 : decode cX3_end 89 = .ok (.getfield 20, 3) := by decide +kernel
theorem dX3_end_92 : decode cX3_end 92 = .ok (.aload_n 3, 1) := by decide +kernel
theorem dX3_end_93 : decode cX3_end 93 = .ok (.getfield 81, 3) := by decide +kernel
theorem dX3_end_96 : decode cX3_end 96 = .ok (.aaload, 1) := by decide +kernel
theorem dX3_end_97 : decode cX3_end 97 = .ok (.iconst 1, 1) := by decide +kernel
theorem dX3_end_98 : decode cX3_end 98 = .ok (.putfield 90, 3) := by decide +kernel
theorem dX3_end_101 : decode cX3_end 101 = .ok (.iconst 5, 1) := by decide +kernel
theorem dX3_end_102 : decode cX3_end 102 = .ok (.ireturn, 1) := by decide +kernel
end
section
/-! decode rows (written by program) -/
theorem dX3_fetchAndDo_0 : decode cX3_fetchAndDo 0 = .ok (.aload_n 0, 1) := by decide +kernel
theorem dX3_fetchAndDo_1 : decode cX3_fetchAndDo 1 = .ok (.getfield 20, 3) := by decide +kernel
theorem dX3_fetchAndDo_4 : decode cX3_fetchAndDo 4 = .ok (.iload_n 1, 1) := by decide +kernel
theorem dX3_fetchAndDo_5 : decode cX3_fetchAndDo 5 = .ok (.aaload, 1) := by decide +kernel
theorem dX3_fetchAndDo_6 : decode cX3_fetchAndDo 6 = .ok (.astore_n 2, 1) := by decide +kernel
theorem dX3_fetchAndDo_7 : decode cX3_fetchAndDo 7 = .ok (.aload_n 0, 1) := by decide +kernel
theorem dX3_fetchAndDo_8 : decode cX3_fetchAndDo 8 = .ok (.aload_n 2, 1) := by decide +kernel
theorem dX3_fetchAndDo_9 : decode cX3_fetchAndDo 9 = .ok (.aload_n 2, 1) := by decide +kernel
theorem dX3_fetchAndDo_10 : decode cX3_fetchAndDo 10 = .ok (.getfield 100, 3) := by decide +kernel
theorem dX3_fetchAndDo_13 : decode cX3_fetchAndDo 13 = .ok (.invokevirtual 134, 3) := by decide +kernel
theorem dX3_fetchAndDo_16 : decode cX3_fetchAndDo 16 = .ok (.istore_n 3, 1) := by decide +kernel
theorem dX3_fetchAndDo_17 : decode cX3_fetchAndDo 17 = .ok (.iload_n 3, 1) := by decide +kernel
theorem dX3_fetchAndDo_18 : decode cX3_fetchAndDo 18 = .ok (.ifCond .eq 10, 3) := by decide +kernel
theorem dX3_fetchAndDo_21 : decode cX3_fetchAndDo 21 = .ok (.aload_n 0, 1) := by decide +kernel
theorem dX3_fetchAndDo_22 : decode cX3_fetchAndDo 22 = .ok (.iload_n 1, 1) := by decide +kernel
theorem dX3_fetchAndDo_23 : decode cX3_fetchAndDo 23 = .ok (.iload_n 3, 1) := by decide +kernel
theorem dX3_fetchAndDo_24 : decode cX3_fetchAndDo 24 = .ok (.invokevirtual 74, 3) := by decide +kernel
theorem dX3_fetchAndDo_27 : decode cX3_fetchAndDo 27 = .ok (.ireturn, 1) := by decide +kernel
theorem dX3_fetchAndDo_28 : decode cX3_fetchAndDo 28 = .ok (.aload_n 0, 1) := by decide +kernel
theorem dX3_fetchAndDo_29 : decode cX3_fetchAndDo 29 = .ok (.aload_n 2, 1) := by decide +kernel
theorem dX3_fetchAndDo_30 : decode cX3_fetchAndDo 30 = .ok (.aload_n 2, 1) := by decide +kernel
theorem dX3_fetchAndDo_31 : decode cX3_fetchAndDo 31 = .ok (.getfield 100, 3) := by decide +kernel
theorem dX3_fetchAndDo_34 : decode cX3_fetchAndDo 34 = .ok (.invokevirtual 109, 3) := by decide +kernel
theorem dX3_fetchAndDo_37 : decode cX3_fetchAndDo 37 = .ok (.istore 4, 2) := by decide +kernel
theorem dX3_fetchAndDo_39 : decode cX3_fetchAndDo 39 = .ok (.aload_n 2, 1) := by decide +kernel
theorem dX3_fetchAndDo_40 : decode cX3_fetchAndDo 40 = .ok (.dup, 1) := by decide +kernel
theorem dX3_fetchAndDo_41 : decode cX3_fetchAndDo 41 = .ok (.getfield 100, 3) := by decide +kernel
theorem dX3_fetchAndDo_44 : decode cX3_fetchAndDo 44 = .ok (.iconst 1, 1) := by decide +kernel
theorem dX3_fetchAndDo_45 : decode cX3_fetchAndDo 45 = .ok (.iadd, 1) := by decide +kernel
theorem dX3_fetchAndDo_46 : decode cX3_fetchAndDo 46 = .ok (.putfield 100, 3) := by decide +kernel
theorem dX3_fetchAndDo_49 : decode cX3_fetchAndDo 49 = .ok (.iload 4, 2) := by decide +kernel
theorem dX3_fetchAndDo_51 : decode cX3_fetchAndDo 51 = .ok (.bipush 15, 2) := by decide +kernel
theorem dX3_fetchAndDo_53 : decode cX3_fetchAndDo 53 = .ok (.iand, 1) := by decide +kernel
theorem dX3_fetchAndDo_54 : decode cX3_fetchAndDo 54 = .ok (.istore 5, 2) := by decide +kernel
theorem dX3_fetchAndDo_56 : decode cX3_fetchAndDo 56 = .ok (.iload 4, 2) := by decide +kernel
theorem dX3_fetchAndDo_58 : decode cX3_fetchAndDo 58 = .ok (.iconst 4, 1) := by decide +kernel
theorem dX3_fetchAndDo_59 : decode cX3_fetchAndDo 59 = .ok (.ishr, 1) := by decide +kernel
theorem dX3_fetchAndDo_60 : decode cX3_fetchAndDo 60 = .ok (.bipush 7, 2) := by decide +kernel
theorem dX3_fetchAndDo_62 : decode cX3_fetchAndDo 62 = .ok (.iand, 1) := by decide +kernel
theorem dX3_fetchAndDo_63 : decode cX3_fetchAndDo 63 = .ok (.istore 6, 2) := by decide +kernel
theorem dX3_fetchAndDo_65 : decode cX3_fetchAndDo 65 = .ok (.iload 4, 2) := by decide +kernel
theorem dX3_fetchAndDo_67 : decode cX3_fetchAndDo 67 = .ok (.bipush 7, 2) := by decide +kernel
theorem dX3_fetchAndDo_69 : decode cX3_fetchAndDo 69 = .ok (.ishr, 1) := by decide +kernel
theorem dX3_fetchAndDo_70 : decode cX3_fetchAndDo 70 = .ok (.bipush 7, 2) := by decide +kernel
theorem dX3_fetchAndDo_72 : decode cX3_fetchAndDo 72 = .ok (.iand, 1) := by decide +kernel
theorem dX3_fetchAndDo_73 : decode cX3_fetchAndDo 73 = .ok (.istore 7, 2) := by decide +kernel
theorem dX3_fetchAndDo_75 : decode cX3_fetchAndDo 75 = .ok (.iload 4, 2) := by decide +kernel
theorem dX3_fetchAndDo_77 : decode cX3_fetchAndDo 77 = .ok (.bipush 10, 2) := by decide +kernel
theorem dX3_fetchAndDo_79 : decode cX3_fetchAndDo 79 = .ok (.ishr, 1) := by decide +kernel
theorem dX3_fetchAndDo_80 : decode cX3_fetchAndDo 80 = .ok (.istore 8, 2) := by decide +kernel
theorem dX3_fetchAndDo_82 : decode cX3_fetchAndDo 82 = .ok (.iload 5, 2) := by decide +kernel
theorem dX3_fetchAndDo_84 : decode cX3_fetchAndDo 84 = .ok (.bipush 8, 2) := by decide +kernel
theorem dX3_fetchAndDo_86 : decode cX3_fetchAndDo 86 = .ok (.if_icmp .ge 19, 3) := by decide +kernel
theorem dX3_fetchAndDo_89 : decode cX3_fetchAndDo 89 = .ok (.aload_n 0, 1) := by decide +kernel
theorem dX3_fetchAndDo_90 : decode cX3_fetchAndDo 90 = .ok (.iload_n 1, 1) := by decide +kernel
theorem dX3_fetchAndDo_91 : decode cX3_fetchAndDo 91 = .ok (.iload 5, 2) := by decide +kernel
theorem dX3_fetchAndDo_93 : decode cX3_fetchAndDo 93 = .ok (.iload 6, 2) := by decide +kernel
theorem dX3_fetchAndDo_95 : decode cX3_fetchAndDo 95 = .ok (.iload 7, 2) := by decide +kernel
theorem dX3_fetchAndDo_97 : decode cX3_fetchAndDo 97 = .ok (.iload 8, 2) := by decide +kernel
theorem dX3_fetchAndDo_99 : decode cX3_fetchAndDo 99 = .ok (.invokevirtual 137, 3) := by decide +kernel
theorem dX3_fetchAndDo_102 : decode cX3_fetchAndDo 102 = .ok (.goto 14, 3) := by decide +kernel
theorem dX3_fetchAndDo_105 : decode cX3_fetchAndDo 105 = .ok (.aload_n 0, 1) := by decide +kernel
theorem dX3_fetchAndDo_106 : decode cX3_fetchAndDo 106 = .ok (.iload_n 1, 1) := by decide +kernel
theorem dX3_fetchAndDo_107 : decode cX3_fetchAndDo 107 = .ok (.iload 5, 2) := by decide +kernel
theorem dX3_fetchAndDo_109 : decode cX3_fetchAndDo 109 = .ok (.iload 6, 2) := by decide +kernel
theorem dX3_fetchAndDo_111 : decode cX3_fetchAndDo 111 = .ok (.iload 8, 2) := by decide +kernel
theorem dX3_fetchAndDo_113 : decode cX3_fetchAndDo 113 = .ok (.invokevirtual 141, 3) := by decide +kernel
theorem dX3_fetchAndDo_116 : decode cX3_fetchAndDo 116 = .ok (.ireturn, 1) := by decide +kernel
theorem dX3_firstFree_0 : decode cX3_firstFree 0 = .ok (.iconst 0, 1) := by decide +kernel
theorem dX3_firstFree_1 : decode cX3_firstFree 1 = .ok (.istore_n 1, 1) := by decide +kernel
theorem dX3_firstFree_2 : decode cX3_firstFree 2 = .ok (.iload_n 1, 1) := by decide +kernel
theorem dX3_firstFree_3 : decode cX3_firstFree 3 = .ok (.bipush 8, 2) := by decide +kernel
theorem dX3_firstFree_5 : decode cX3_firstFree 5 = .ok (.if_icmp .ge 23, 3) := by decide +kernel
theorem dX3_firstFree_8 : decode cX3_firstFree 8 = .ok (.aload_n 0, 1) := by decide +kernel
theorem dX3_firstFree_9 : decode cX3_firstFree 9 = .ok (.getfield 20, 3) := by decide +kernel
theorem dX3_firstFree_12 : decode cX3_firstFree 12 = .ok (.iload_n 1, 1) := by decide +kernel
theorem dX3_firstFree_13 : decode cX3_firstFree 13 = .ok (.aaload, 1) := by decide +kernel
theorem dX3_firstFree_14 : decode cX3_firstFree 14 = .ok (.getfield 90, 3) := by decide +kernel
theorem dX3_firstFree_17 : decode cX3_firstFree 17 = .ok (.ifCond .ne 5, 3) := by decide +kernel
theorem dX3_firstFree_20 : decode cX3_firstFree 20 = .ok (.iload_n 1, 1) := by decide +kernel
theorem dX3_firstFree_21 : decode cX3_firstFree 21 = .ok (.ireturn, 1) := by decide +kernel
theorem dX3_firstFree_22 : decode cX3_firstFree 22 = .ok (.iinc 1 1, 3) := by decide +kernel
theorem dX3_firstFree_25 : decode cX3_firstFree 25 = .ok (.goto (-23), 3) := by decide +kernel
theorem dX3_firstFree_28 : decode cX3_firstFree 28 = .ok (.iconst (-1), 1) := by decide +kernel
theorem dX3_firstFree_29 : decode cX3_firstFree 29 = .ok (.ireturn, 1) := by decide +kernel
theorem dX3_firstZombieChild_0 : decode cX3_firstZombieChild 0 = .ok (.iconst 0, 1) := by decide +kernel
theorem dX3_firstZombieChild_1 : decode cX3_firstZombieChild 1 = .ok (.istore_n 2, 1) := by decide +kernel
theorem dX3_firstZombieChild_2 : decode cX3_firstZombieChild 2 = .ok (.iload_n 2, 1) := by decide +kernel
theorem dX3_firstZombieChild_3 : decode cX3_firstZombieChild 3 = .ok (.bipush 8, 2) := by decide +kernel
theorem dX3_firstZombieChild_5 : decode cX3_firstZombieChild 5 = .ok (.if_icmp .ge 37, 3) := by decide +kernel
theorem dX3_firstZombieChild_8 : decode cX3_firstZombieChild 8 = .ok (.aload_n 0, 1) := by decide +kernel
theorem dX3_firstZombieChild_9 : decode cX3_firstZombieChild 9 = .ok (.getfield 20, 3) := by decide +kernel
theorem dX3_firstZombieChild_12 : decode cX3_firstZombieChild 12 = .ok (.iload_n 2, 1) := by decide +kernel
theorem dX3_firstZombieChild_13 : decode cX3_firstZombieChild 13 = .ok (.aaload, 1) := by decide +kernel
theorem dX3_firstZombieChild_14 : decode cX3_firstZombieChild 14 = .ok (.getfield 81, 3) := by decide +kernel
theorem dX3_firstZombieChild_17 : decode cX3_firstZombieChild 17 = .ok (.iload_n 1, 1) := by decide +kernel
theorem dX3_firstZombieChild_18 : decode cX3_firstZombieChild 18 = .ok (.if_icmp .ne 18, 3) := by decide +kernel
theorem dX3_firstZombieChild_21 : decode cX3_firstZombieChild 21 = .ok (.aload_n 0, 1) := by decide +kernel
theorem dX3_firstZombieChild_22 : decode cX3_firstZombieChild 22 = .ok (.getfield 20, 3) := by decide +kernel
theorem dX3_firstZombieChild_25 : decode cX3_firstZombieChild 25 = .ok (.iload_n 2, 1) := by decide +kernel
theorem dX3_firstZombieChild_26 : decode cX3_firstZombieChild 26 = .ok (.aaload, 1) := by decide +kernel
theorem dX3_firstZombieChild_27 : decode cX3_firstZombieChild 27 = .ok (.getfield 90, 3) := by decide +kernel
theorem dX3_firstZombieChild_30 : decode cX3_firstZombieChild 30 = .ok (.iconst 3, 1) := by decide +kernel
theorem dX3_firstZombieChild_31 : decode cX3_firstZombieChild 31 = .ok (.if_icmp .ne 5, 3) := by decide +kernel
theorem dX3_firstZombieChild_34 : decode cX3_firstZombieChild 34 = .ok (.iload_n 2, 1) := by decide +kernel
theorem dX3_firstZombieChild_35 : decode cX3_firstZombieChild 35 = .ok (.ireturn, 1) := by decide +kernel
theorem dX3_firstZombieChild_36 : decode cX3_firstZombieChild 36 = .ok (.iinc 2 1, 3) := by decide +kernel
theorem dX3_firstZombieChild_39 : decode cX3_firstZombieChild 39 = .ok (.goto (-37), 3) := by decide +kernel
theorem dX3_firstZombieChild_42 : decode cX3_firstZombieChild 42 = .ok (.iconst (-1), 1) := by decide +kernel
theorem dX3_firstZombieChild_43 : decode cX3_firstZombieChild 43 = .ok (.ireturn, 1) := by decide +kernel
theorem dX3_fork_0 : decode cX3_fork 0 = .ok (.aload_n 0, 1) := by decide +kernel
theorem dX3_fork_1 : decode cX3_fork 1 = .ok (.getfield 20, 3) := by decide +kernel
theorem dX3_fork_4 : decode cX3_fork 4 = .ok (.iload_n 1, 1) := by decide +kernel
theorem dX3_fork_5 : decode cX3_fork 5 = .ok (.aaload, 1) := by decide +kernel
theorem dX3_fork_6 : decode cX3_fork 6 = .ok (.astore_n 3, 1) := by decide +kernel
theorem dX3_fork_7 : decode cX3_fork 7 = .ok (.aload_n 0, 1) := by decide +kernel
theorem dX3_fork_8 : decode cX3_fork 8 = .ok (.invokevirtual 46, 3) := by decide +kernel
theorem dX3_fork_11 : decode cX3_fork 11 = .ok (.istore 4, 2) := by decide +kernel
theorem dX3_fork_13 : decode cX3_fork 13 = .ok (.iload 4, 2) := by decide +kernel
theorem dX3_fork_15 : decode cX3_fork 15 = .ok (.iconst (-1), 1) := by decide +kernel
theorem dX3_fork_16 : decode cX3_fork 16 = .ok (.if_icmp .ne 12, 3) := by decide +kernel
theorem dX3_fork_19 : decode cX3_fork 19 = .ok (.aload_n 3, 1) := by decide +kernel
theorem dX3_fork_20 : decode cX3_fork 20 = .ok (.getfield 103, 3) := by decide +kernel
theorem dX3_fork_23 : decode cX3_fork 23 = .ok (.iload_n 2, 1) := by decide +kernel
theorem dX3_fork_24 : decode cX3_fork 24 = .ok (.iconst (-1), 1) := by decide +kernel
theorem dX3_fork_25 : decode cX3_fork 25 = .ok (.iastore, 1) := by decide +kernel
theorem dX3_fork_26 : decode cX3_fork 26 = .ok (.iconst 1, 1) := by decide +kernel
theorem dX3_fork_27 : decode cX3_fork 27 = .ok (.ireturn, 1) := by decide +kernel
theorem dX3_fork_28 : decode cX3_fork 28 = .ok (.aload_n 0, 1) := by decide +kernel
theorem dX3_fork_29 : decode cX3_fork 29 = .ok (.getfield 20, 3) := by decide +kernel
theorem dX3_fork_32 : decode cX3_fork 32 = .ok (.iload 4, 2) := by decide +kernel
theorem dX3_fork_34 : decode cX3_fork 34 = .ok (.aaload, 1) := by decide +kernel
theorem dX3_fork_35 : decode cX3_fork 35 = .ok (.astore 5, 2) := by decide +kernel
theorem dX3_fork_37 : decode cX3_fork 37 = .ok (.aload 5, 2) := by decide +kernel
theorem dX3_fork_39 : decode cX3_fork 39 = .ok (.iload_n 1, 1) := by decide +kernel
theorem dX3_fork_40 : decode cX3_fork 40 = .ok (.invokevirtual 53, 3) := by decide +kernel
theorem dX3_fork_43 : decode cX3_fork 43 = .ok (.aload 5, 2) := by decide +kernel
theorem dX3_fork_45 : decode cX3_fork 45 = .ok (.aload_n 3, 1) := by decide +kernel
theorem dX3_fork_46 : decode cX3_fork 46 = .ok (.getfield 100, 3) := by decide +kernel
theorem dX3_fork_49 : decode cX3_fork 49 = .ok (.putfield 100, 3) := by decide +kernel
theorem dX3_fork_52 : decode cX3_fork 52 = .ok (.aload 5, 2) := by decide +kernel
theorem dX3_fork_54 : decode cX3_fork 54 = .ok (.aload_n 3, 1) := by decide +kernel
theorem dX3_fork_55 : decode cX3_fork 55 = .ok (.getfield 56, 3) := by decide +kernel
theorem dX3_fork_58 : decode cX3_fork 58 = .ok (.putfield 56, 3) := by decide +kernel
theorem dX3_fork_61 : decode cX3_fork 61 = .ok (.iconst 0, 1) := by decide +kernel
theorem dX3_fork_62 : decode cX3_fork 62 = .ok (.istore 6, 2) := by decide +kernel
theorem dX3_fork_64 : decode cX3_fork 64 = .ok (.iload 6, 2) := by decide +kernel
theorem dX3_fork_66 : decode cX3_fork 66 = .ok (.bipush 8, 2) := by decide +kernel
theorem dX3_fork_68 : decode cX3_fork 68 = .ok (.if_icmp .ge 24, 3) := by decide +kernel
theorem dX3_fork_71 : decode cX3_fork 71 = .ok (.aload 5, 2) := by decide +kernel
theorem dX3_fork_73 : decode cX3_fork 73 = .ok (.getfield 103, 3) := by decide +kernel
theorem dX3_fork_76 : decode cX3_fork 76 = .ok (.iload 6, 2) := by decide +kernel
theorem dX3_fork_78 : decode cX3_fork 78 = .ok (.aload_n 3, 1) := by decide +kernel
theorem dX3_fork_79 : decode cX3_fork 79 = .ok (.getfield 103, 3) := by decide +kernel
theorem dX3_fork_82 : decode cX3_fork 82 = .ok (.iload 6, 2) := by decide +kernel
theorem dX3_fork_84 : decode cX3_fork 84 = .ok (.iaload, 1) := by decide +kernel
theorem dX3_fork_85 : decode cX3_fork 85 = .ok (.iastore, 1) := by decide +kernel
theorem dX3_fork_86 : decode cX3_fork 86 = .ok (.iinc 6 1, 3) := by decide +kernel
theorem dX3_fork_89 : decode cX3_fork 89 = .ok (.goto (-25), 3) := by decide +kernel
theorem dX3_fork_92 : decode cX3_fork 92 = .ok (.aload 5, 2) := by decide +kernel
theorem dX3_fork_94 : decode cX3_fork 94 = .ok (.getfield 103, 3) := by decide +kernel
theorem dX3_fork_97 : decode cX3_fork 97 = .ok (.iload_n 2, 1) := by decide +kernel
theorem dX3_fork_98 : decode cX3_fork 98 = .ok (.iconst 0, 1) := by decide +kernel
theorem dX3_fork_99 : decode cX3_fork 99 = .ok (.iastore, 1) := by decide +kernel
theorem dX3_fork_100 : decode cX3_fork 100 = .ok (.iconst 0, 1) := by decide +kernel
theorem dX3_fork_101 : decode cX3_fork 101 = .ok (.istore 6, 2) := by decide +kernel
theorem dX3_fork_103 : decode cX3_fork 103 = .ok (.iload 6, 2) := by decide +kernel
theorem dX3_fork_105 : decode cX3_fork 105 = .ok (.bipush 8, 2) := by decide +kernel
theorem dX3_fork_107 : decode cX3_fork 107 = .ok (.if_icmp .ge 39, 3) := by decide +kernel
theorem dX3_fork_110 : decode cX3_fork 110 = .ok (.aload 5, 2) := by decide +kernel
theorem dX3_fork_112 : decode cX3_fork 112 = .ok (.getfield 112, 3) := by decide +kernel
theorem dX3_fork_115 : decode cX3_fork 115 = .ok (.iload 6, 2) := by decide +kernel
theorem dX3_fork_117 : decode cX3_fork 117 = .ok (.aload_n 3, 1) := by decide +kernel
theorem dX3_fork_118 : decode cX3_fork 118 = .ok (.getfield 112, 3) := by decide +kernel
theorem dX3_fork_121 : decode cX3_fork 121 = .ok (.iload 6, 2) := by decide +kernel
theorem dX3_fork_123 : decode cX3_fork 123 = .ok (.iaload, 1) := by decide +kernel
theorem dX3_fork_124 : decode cX3_fork 124 = .ok (.iastore, 1) := by decide +kernel
theorem dX3_fork_125 : decode cX3_fork 125 = .ok (.aload_n 0, 1) := by decide +kernel
theorem dX3_fork_126 : decode cX3_fork 126 = .ok (.getfield 14, 3) := by decide +kernel
theorem dX3_fork_129 : decode cX3_fork 129 = .ok (.aload 5, 2) := by decide +kernel
theorem dX3_fork_131 : decode cX3_fork 131 = .ok (.getfield 112, 3) := by decide +kernel
theorem dX3_fork_134 : decode cX3_fork 134 = .ok (.iload 6, 2) := by decide +kernel
theorem dX3_fork_136 : decode cX3_fork 136 = .ok (.iaload, 1) := by decide +kernel
theorem dX3_fork_137 : decode cX3_fork 137 = .ok (.invokevirtual 168, 3) := by decide +kernel
theorem dX3_fork_140 : decode cX3_fork 140 = .ok (.iinc 6 1, 3) := by decide +kernel
theorem dX3_fork_143 : decode cX3_fork 143 = .ok (.goto (-40), 3) := by decide +kernel
theorem dX3_fork_146 : decode cX3_fork 146 = .ok (.aload_n 3, 1) := by decide +kernel
theorem dX3_fork_147 : decode cX3_fork 147 = .ok (.getfield 103, 3) := by decide +kernel
theorem dX3_fork_150 : decode cX3_fork 150 = .ok (.iload_n 2, 1) := by decide +kernel
theorem dX3_fork_151 : decode cX3_fork 151 = .ok (.iload 4, 2) := by decide +kernel
theorem dX3_fork_153 : decode cX3_fork 153 = .ok (.iastore, 1) := by decide +kernel
theorem dX3_fork_154 : decode cX3_fork 154 = .ok (.iconst 3, 1) := by decide +kernel
theorem dX3_fork_155 : decode cX3_fork 155 = .ok (.ireturn, 1) := by decide +kernel
theorem dX3_frames_0 : decode cX3_frames 0 = .ok (.aload_n 0, 1) := by decide +kernel
theorem dX3_frames_1 : decode cX3_frames 1 = .ok (.getfield 14, 3) := by decide +kernel
theorem dX3_frames_4 : decode cX3_frames 4 = .ok (.getfield 118, 3) := by decide +kernel
theorem dX3_frames_7 : decode cX3_frames 7 = .ok (.ireturn, 1) := by decide +kernel
theorem dX3_hasChild_0 : decode cX3_hasChild 0 = .ok (.iconst 0, 1) := by decide +kernel
theorem dX3_hasChild_1 : decode cX3_hasChild 1 = .ok (.istore_n 2, 1) := by decide +kernel
theorem dX3_hasChild_2 : decode cX3_hasChild 2 = .ok (.iload_n 2, 1) := by decide +kernel
theorem dX3_hasChild_3 : decode cX3_hasChild 3 = .ok (.bipush 8, 2) := by decide +kernel
theorem dX3_hasChild_5 : decode cX3_hasChild 5 = .ok (.if_icmp .ge 24, 3) := by decide +kernel
theorem dX3_hasChild_8 : decode cX3_hasChild 8 = .ok (.aload_n 0, 1) := by decide +kernel
theorem dX3_hasChild_9 : decode cX3_hasChild 9 = .ok (.getfield 20, 3) := by decide +kernel
theorem dX3_hasChild_12 : decode cX3_hasChild 12 = .ok (.iload_n 2, 1) := by decide +kernel
theorem dX3_hasChild_13 : decode cX3_hasChild 13 = .ok (.aaload, 1) := by decide +kernel
theorem dX3_hasChild_14 : decode cX3_hasChild 14 = .ok (.getfield 81, 3) := by decide +kernel
theorem dX3_hasChild_17 : decode cX3_hasChild 17 = .ok (.iload_n 1, 1) := by decide +kernel
theorem dX3_hasChild_18 : decode cX3_hasChild 18 = .ok (.if_icmp .ne 5, 3) := by decide +kernel
theorem dX3_hasChild_21 : decode cX3_hasChild 21 = .ok (.iconst 1, 1) := by decide +kernel
theorem dX3_hasChild_22 : decode cX3_hasChild 22 = .ok (.ireturn, 1) := by decide +kernel
theorem dX3_hasChild_23 : decode cX3_hasChild 23 = .ok (.iinc 2 1, 3) := by decide +kernel
theorem dX3_hasChild_26 : decode cX3_hasChild 26 = .ok (.goto (-24), 3) := by decide +kernel
theorem dX3_hasChild_29 : decode cX3_hasChild 29 = .ok (.iconst 0, 1) := by decide +kernel
theorem dX3_hasChild_30 : decode cX3_hasChild 30 = .ok (.ireturn, 1) := by decide +kernel
theorem dX3_init_0 : decode cX3_init 0 = .ok (.aload_n 0, 1) := by decide +kernel
theorem dX3_init_1 : decode cX3_init 1 = .ok (.invokespecial 3, 3) := by decide +kernel
theorem dX3_init_4 : decode cX3_init 4 = .ok (.aload_n 0, 1) := by decide +kernel
theorem dX3_init_5 : decode cX3_init 5 = .ok (.new 9, 3) := by decide +kernel
theorem dX3_init_8 : decode cX3_init 8 = .ok (.dup, 1) := by decide +kernel
theorem dX3_init_9 : decode cX3_init 9 = .ok (.iload_n 1, 1) := by decide +kernel
theorem dX3_init_10 : decode cX3_init 10 = .ok (.iconst 2, 1) := by decide +kernel
theorem dX3_init_11 : decode cX3_init 11 = .ok (.if_icmp .lt 13, 3) := by decide +kernel
theorem dX3_init_14 : decode cX3_init 14 = .ok (.iload_n 1, 1) := by decide +kernel
theorem dX3_init_15 : decode cX3_init 15 = .ok (.bipush 32, 2) := by decide +kernel
theorem dX3_init_17 : decode cX3_init 17 = .ok (.if_icmp .gt 7, 3) := by decide +kernel
theorem dX3_init_20 : decode cX3_init 20 = .ok (.iload_n 1, 1) := by decide +kernel
theorem dX3_init_21 : decode cX3_init 21 = .ok (.goto 5, 3) := by decide +kernel
theorem dX3_init_24 : decode cX3_init 24 = .ok (.bipush 12, 2) := by decide +kernel
theorem dX3_init_26 : decode cX3_init 26 = .ok (.invokespecial 11, 3) := by decide +kernel
theorem dX3_init_29 : decode cX3_init 29 = .ok (.putfield 14, 3) := by decide +kernel
theorem dX3_init_32 : decode cX3_init 32 = .ok (.aload_n 0, 1) := by decide +kernel
theorem dX3_init_33 : decode cX3_init 33 = .ok (.bipush 8, 2) := by decide +kernel
theorem dX3_init_35 : decode cX3_init 35 = .ok (.anewarray 18, 3) := by decide +kernel
theorem dX3_init_38 : decode cX3_init 38 = .ok (.putfield 20, 3) := by decide +kernel
theorem dX3_init_41 : decode cX3_init 41 = .ok (.iconst 0, 1) := by decide +kernel
theorem dX3_init_42 : decode cX3_init 42 = .ok (.istore_n 3, 1) := by decide +kernel
theorem dX3_init_43 : decode cX3_init 43 = .ok (.iload_n 3, 1) := by decide +kernel
theorem dX3_init_44 : decode cX3_init 44 = .ok (.bipush 8, 2) := by decide +kernel
theorem dX3_init_46 : decode cX3_init 46 = .ok (.if_icmp .ge 22, 3) := by decide +kernel
theorem dX3_init_49 : decode cX3_init 49 = .ok (.aload_n 0, 1) := by decide +kernel
theorem dX3_init_50 : decode cX3_init 50 = .ok (.getfield 20, 3) := by decide +kernel
theorem dX3_init_53 : decode cX3_init 53 = .ok (.iload_n 3, 1) := by decide +kernel
theorem dX3_init_54 : decode cX3_init 54 = .ok (.new 18, 3) := by decide +kernel
theorem dX3_init_57 : decode cX3_init 57 = .ok (.dup, 1) := by decide +kernel
theorem dX3_init_58 : decode cX3_init 58 = .ok (.invokespecial 24, 3) := by decide +kernel
theorem dX3_init_61 : decode cX3_init 61 = .ok (.aastore, 1) := by decide +kernel
theorem dX3_init_62 : decode cX3_init 62 = .ok (.iinc 3 1, 3) := by decide +kernel
theorem dX3_init_65 : decode cX3_init 65 = .ok (.goto (-22), 3) := by decide +kernel
theorem dX3_init_68 : decode cX3_init 68 = .ok (.aload_n 0, 1) := by decide +kernel
theorem dX3_init_69 : decode cX3_init 69 = .ok (.new 25, 3) := by decide +kernel
theorem dX3_init_72 : decode cX3_init 72 = .ok (.dup, 1) := by decide +kernel
theorem dX3_init_73 : decode cX3_init 73 = .ok (.invokespecial 27, 3) := by decide +kernel
theorem dX3_init_76 : decode cX3_init 76 = .ok (.putfield 28, 3) := by decide +kernel
theorem dX3_init_79 : decode cX3_init 79 = .ok (.aload_n 0, 1) := by decide +kernel
theorem dX3_init_80 : decode cX3_init 80 = .ok (.bipush 64, 2) := by decide +kernel
theorem dX3_init_82 : decode cX3_init 82 = .ok (.newarray .int, 2) := by decide +kernel
theorem dX3_init_84 : decode cX3_init 84 = .ok (.putfield 32, 3) := by decide +kernel
theorem dX3_init_87 : decode cX3_init 87 = .ok (.aload_n 0, 1) := by decide +kernel
theorem dX3_init_88 : decode cX3_init 88 = .ok (.iload_n 2, 1) := by decide +kernel
theorem dX3_init_89 : decode cX3_init 89 = .ok (.iconst 1, 1) := by decide +kernel
theorem dX3_init_90 : decode cX3_init 90 = .ok (.if_icmp .lt 13, 3) := by decide +kernel
theorem dX3_init_93 : decode cX3_init 93 = .ok (.iload_n 2, 1) := by decide +kernel
theorem dX3_init_94 : decode cX3_init 94 = .ok (.bipush 20, 2) := by decide +kernel
theorem dX3_init_96 : decode cX3_init 96 = .ok (.if_icmp .gt 7, 3) := by decide +kernel
theorem dX3_init_99 : decode cX3_init 99 = .ok (.iload_n 2, 1) := by decide +kernel
theorem dX3_init_100 : decode cX3_init 100 = .ok (.goto 4, 3) := by decide +kernel
theorem dX3_init_103 : decode cX3_init 103 = .ok (.iconst 3, 1) := by decide +kernel
theorem dX3_init_104 : decode cX3_init 104 = .ok (.putfield 36, 3) := by decide +kernel
theorem dX3_init_107 : decode cX3_init 107 = .ok (.aload_n 0, 1) := by decide +kernel
theorem dX3_init_108 : decode cX3_init 108 = .ok (.iconst (-1), 1) := by decide +kernel
theorem dX3_init_109 : decode cX3_init 109 = .ok (.putfield 40, 3) := by decide +kernel
theorem dX3_init_112 : decode cX3_init 112 = .ok (.aload_n 0, 1) := by decide +kernel
theorem dX3_init_113 : decode cX3_init 113 = .ok (.iconst 0, 1) := by decide +kernel
theorem dX3_init_114 : decode cX3_init 114 = .ok (.putfield 43, 3) := by decide +kernel
theorem dX3_init_117 : decode cX3_init 117 = .ok (.return_, 1) := by decide +kernel
theorem dX3_isLive_0 : decode cX3_isLive 0 = .ok (.iload_n 1, 1) := by decide +kernel
theorem dX3_isLive_1 : decode cX3_isLive 1 = .ok (.invokestatic 87, 3) := by decide +kernel
theorem dX3_isLive_4 : decode cX3_isLive 4 = .ok (.ifCond .eq 33, 3) := by decide +kernel
theorem dX3_isLive_7 : decode cX3_isLive 7 = .ok (.aload_n 0, 1) := by decide +kernel
theorem dX3_isLive_8 : decode cX3_isLive 8 = .ok (.getfield 20, 3) := by decide +kernel
theorem dX3_isLive_11 : decode cX3_isLive 11 = .ok (.iload_n 1, 1) := by decide +kernel
theorem dX3_isLive_12 : decode cX3_isLive 12 = .ok (.aaload, 1) := by decide +kernel
theorem dX3_isLive_13 : decode cX3_isLive 13 = .ok (.getfield 90, 3) := by decide +kernel
theorem dX3_isLive_16 : decode cX3_isLive 16 = .ok (.iconst 1, 1) := by decide +kernel
theorem dX3_isLive_17 : decode cX3_isLive 17 = .ok (.if_icmp .eq 16, 3) := by decide +kernel
theorem dX3_isLive_20 : decode cX3_isLive 20 = .ok (.aload_n 0, 1) := by decide +kernel
theorem dX3_isLive_21 : decode cX3_isLive 21 = .ok (.getfield 20, 3) := by decide +kernel
theorem dX3_isLive_24 : decode cX3_isLive 24 = .ok (.iload_n 1, 1) := by decide +kernel
theorem dX3_isLive_25 : decode cX3_isLive 25 = .ok (.aaload, 1) := by decide +kernel
theorem dX3_isLive_26 : decode cX3_isLive 26 = .ok (.getfield 90, 3) := by decide +kernel
theorem dX3_isLive_29 : decode cX3_isLive 29 = .ok (.iconst 2, 1) := by decide +kernel
theorem dX3_isLive_30 : decode cX3_isLive 30 = .ok (.if_icmp .ne 7, 3) := by decide +kernel
theorem dX3_isLive_33 : decode cX3_isLive 33 = .ok (.iconst 1, 1) := by decide +kernel
theorem dX3_isLive_34 : decode cX3_isLive 34 = .ok (.goto 4, 3) := by decide +kernel
theorem dX3_isLive_37 : decode cX3_isLive 37 = .ok (.iconst 0, 1) := by decide +kernel
theorem dX3_isLive_38 : decode cX3_isLive 38 = .ok (.ireturn, 1) := by decide +kernel
theorem dX3_isNumber_0 : decode cX3_isNumber 0 = .ok (.iload_n 0, 1) := by decide +kernel
theorem dX3_isNumber_1 : decode cX3_isNumber 1 = .ok (.ifCond .lt 13, 3) := by decide +kernel
theorem dX3_isNumber_4 : decode cX3_isNumber 4 = .ok (.iload_n 0, 1) := by decide +kernel
theorem dX3_isNumber_5 : decode cX3_isNumber 5 = .ok (.bipush 8, 2) := by decide +kernel
theorem dX3_isNumber_7 : decode cX3_isNumber 7 = .ok (.if_icmp .ge 7, 3) := by decide +kernel
theorem dX3_isNumber_10 : decode cX3_isNumber 10 = .ok (.iconst 1, 1) := by decide +kernel
theorem dX3_isNumber_11 : decode cX3_isNumber 11 = .ok (.goto 4, 3) := by decide +kernel
theorem dX3_isNumber_14 : decode cX3_isNumber 14 = .ok (.iconst 0, 1) := by decide +kernel
theorem dX3_isNumber_15 : decode cX3_isNumber 15 = .ok (.ireturn, 1) := by decide +kernel
theorem dX3_isZombie_0 : decode cX3_isZombie 0 = .ok (.iload_n 1, 1) := by decide +kernel
theorem dX3_isZombie_1 : decode cX3_isZombie 1 = .ok (.invokestatic 87, 3) := by decide +kernel
theorem dX3_isZombie_4 : decode cX3_isZombie 4 = .ok (.ifCond .eq 20, 3) := by decide +kernel
theorem dX3_isZombie_7 : decode cX3_isZombie 7 = .ok (.aload_n 0, 1) := by decide +kernel
theorem dX3_isZombie_8 : decode cX3_isZombie 8 = .ok (.getfield 20, 3) := by decide +kernel
theorem dX3_isZombie_11 : decode cX3_isZombie 11 = .ok (.iload_n 1, 1) := by decide +kernel
theorem dX3_isZombie_12 : decode cX3_isZombie 12 = .ok (.aaload, 1) := by decide +kernel
theorem dX3_isZombie_13 : decode cX3_isZombie 13 = .ok (.getfield 90, 3) := by decide +kernel
theorem dX3_isZombie_16 : decode cX3_isZombie 16 = .ok (.iconst 3, 1) := by decide +kernel
theorem dX3_isZombie_17 : decode cX3_isZombie 17 = .ok (.if_icmp .ne 7, 3) := by decide +kernel
theorem dX3_isZombie_20 : decode cX3_isZombie 20 = .ok (.iconst 1, 1) := by decide +kernel
theorem dX3_isZombie_21 : decode cX3_isZombie 21 = .ok (.goto 4, 3) := by decide +kernel
theorem dX3_isZombie_24 : decode cX3_isZombie 24 = .ok (.iconst 0, 1) := by decide +kernel
theorem dX3_isZombie_25 : decode cX3_isZombie 25 = .ok (.ireturn, 1) := by decide +kernel
theorem dX3_jumpIf_0 : decode cX3_jumpIf 0 = .ok (.iload_n 1, 1) := by decide +kernel
theorem dX3_jumpIf_1 : decode cX3_jumpIf 1 = .ok (.ifCond .eq 8, 3) := by decide +kernel
theorem dX3_jumpIf_4 : decode cX3_jumpIf 4 = .ok (.aload_n 0, 1) := by decide +kernel
theorem dX3_jumpIf_5 : decode cX3_jumpIf 5 = .ok (.iload_n 2, 1) := by decide +kernel
theorem dX3_jumpIf_6 : decode cX3_jumpIf 6 = .ok (.putfield 100, 3) := by decide +kernel
theorem dX3_jumpIf_9 : decode cX3_jumpIf 9 = .ok (.iconst 1, 1) := by decide +kernel
theorem dX3_jumpIf_10 : decode cX3_jumpIf 10 = .ok (.ireturn, 1) := by decide +kernel
theorem dX3_kill_0 : decode cX3_kill 0 = .ok (.aload_n 0, 1) := by decide +kernel
theorem dX3_kill_1 : decode cX3_kill 1 = .ok (.iload_n 1, 1) := by decide +kernel
theorem dX3_kill_2 : decode cX3_kill 2 = .ok (.invokevirtual 70, 3) := by decide +kernel
theorem dX3_kill_5 : decode cX3_kill 5 = .ok (.ifCond .ne 5, 3) := by decide +kernel
theorem dX3_kill_8 : decode cX3_kill 8 = .ok (.iconst 0, 1) := by decide +kernel
theorem dX3_kill_9 : decode cX3_kill 9 = .ok (.ireturn, 1) := by decide +kernel
theorem dX3_kill_10 : decode cX3_kill 10 = .ok (.aload_n 0, 1) := by decide +kernel
theorem dX3_kill_11 : decode cX3_kill 11 = .ok (.iload_n 1, 1) := by decide +kernel
theorem dX3_kill_12 : decode cX3_kill 12 = .ok (.bipush (-14), 2) := by decide +kernel
theorem dX3_kill_14 : decode cX3_kill 14 = .ok (.invokevirtual 74, 3) := by decide +kernel
theorem dX3_kill_17 : decode cX3_kill 17 = .ok (.pop, 1) := by decide +kernel
theorem dX3_kill_18 : decode cX3_kill 18 = .ok (.iconst 1, 1) := by decide +kernel
theorem dX3_kill_19 : decode cX3_kill 19 = .ok (.ireturn, 1) := by decide +kernel
theorem dX3_load_0 : decode cX3_load 0 = .ok (.iload_n 1, 1) := by decide +kernel
theorem dX3_load_1 : decode cX3_load 1 = .ok (.iconst 1, 1) := by decide +kernel
theorem dX3_load_2 : decode cX3_load 2 = .ok (.if_icmp .lt 9, 3) := by decide +kernel
theorem dX3_load_5 : decode cX3_load 5 = .ok (.iload_n 1, 1) := by decide +kernel
theorem dX3_load_6 : decode cX3_load 6 = .ok (.bipush 64, 2) := by decide +kernel
theorem dX3_load_8 : decode cX3_load 8 = .ok (.if_icmp .le 6, 3) := by decide +kernel
theorem dX3_load_11 : decode cX3_load 11 = .ok (.bipush (-16), 2) := by decide +kernel
theorem dX3_load_13 : decode cX3_load 13 = .ok (.ireturn, 1) := by decide +kernel
theorem dX3_load_14 : decode cX3_load 14 = .ok (.aload_n 0, 1) := by decide +kernel
theorem dX3_load_15 : decode cX3_load 15 = .ok (.invokevirtual 46, 3) := by decide +kernel
theorem dX3_load_18 : decode cX3_load 18 = .ok (.istore_n 2, 1) := by decide +kernel
theorem dX3_load_19 : decode cX3_load 19 = .ok (.iload_n 2, 1) := by decide +kernel
theorem dX3_load_20 : decode cX3_load 20 = .ok (.iconst (-1), 1) := by decide +kernel
theorem dX3_load_21 : decode cX3_load 21 = .ok (.if_icmp .ne 6, 3) := by decide +kernel
theorem dX3_load_24 : decode cX3_load 24 = .ok (.bipush (-15), 2) := by decide +kernel
theorem dX3_load_26 : decode cX3_load 26 = .ok (.ireturn, 1) := by decide +kernel
theorem dX3_load_27 : decode cX3_load 27 = .ok (.iload_n 1, 1) := by decide +kernel
theorem dX3_load_28 : decode cX3_load 28 = .ok (.bipush 8, 2) := by decide +kernel
theorem dX3_load_30 : decode cX3_load 30 = .ok (.iadd, 1) := by decide +kernel
theorem dX3_load_31 : decode cX3_load 31 = .ok (.iconst 1, 1) := by decide +kernel
theorem dX3_load_32 : decode cX3_load 32 = .ok (.isub, 1) := by decide +kernel
theorem dX3_load_33 : decode cX3_load 33 = .ok (.bipush 8, 2) := by decide +kernel
theorem dX3_load_35 : decode cX3_load 35 = .ok (.idiv, 1) := by decide +kernel
theorem dX3_load_36 : decode cX3_load 36 = .ok (.istore_n 3, 1) := by decide +kernel
theorem dX3_load_37 : decode cX3_load 37 = .ok (.iload_n 3, 1) := by decide +kernel
theorem dX3_load_38 : decode cX3_load 38 = .ok (.aload_n 0, 1) := by decide +kernel
theorem dX3_load_39 : decode cX3_load 39 = .ok (.getfield 14, 3) := by decide +kernel
theorem dX3_load_42 : decode cX3_load 42 = .ok (.invokevirtual 50, 3) := by decide +kernel
theorem dX3_load_45 : decode cX3_load 45 = .ok (.if_icmp .le 6, 3) := by decide +kernel
theorem dX3_load_48 : decode cX3_load 48 = .ok (.bipush (-13), 2) := by decide +kernel
theorem dX3_load_50 : decode cX3_load 50 = .ok (.ireturn, 1) := by decide +kernel
theorem dX3_load_51 : decode cX3_load 51 = .ok (.aload_n 0, 1) := by decide +kernel
theorem dX3_load_52 : decode cX3_load 52 = .ok (.getfield 20, 3) := by decide +kernel
theorem dX3_load_55 : decode cX3_load 55 = .ok (.iload_n 2, 1) := by decide +kernel
theorem dX3_load_56 : decode cX3_load 56 = .ok (.aaload, 1) := by decide +kernel
theorem dX3_load_57 : decode cX3_load 57 = .ok (.astore 4, 2) := by decide +kernel
theorem dX3_load_59 : decode cX3_load 59 = .ok (.aload 4, 2) := by decide +kernel
theorem dX3_load_61 : decode cX3_load 61 = .ok (.iconst (-1), 1) := by decide +kernel
theorem dX3_load_62 : decode cX3_load 62 = .ok (.invokevirtual 53, 3) := by decide +kernel
theorem dX3_load_65 : decode cX3_load 65 = .ok (.aload 4, 2) := by decide +kernel
theorem dX3_load_67 : decode cX3_load 67 = .ok (.iload_n 1, 1) := by decide +kernel
theorem dX3_load_68 : decode cX3_load 68 = .ok (.putfield 56, 3) := by decide +kernel
theorem dX3_load_71 : decode cX3_load 71 = .ok (.iconst 0, 1) := by decide +kernel
theorem dX3_load_72 : decode cX3_load 72 = .ok (.istore 5, 2) := by decide +kernel
theorem dX3_load_74 : decode cX3_load 74 = .ok (.iload 5, 2) := by decide +kernel
theorem dX3_load_76 : decode cX3_load 76 = .ok (.iload_n 1, 1) := by decide +kernel
theorem dX3_load_77 : decode cX3_load 77 = .ok (.if_icmp .ge 38, 3) := by decide +kernel
theorem dX3_load_80 : decode cX3_load 80 = .ok (.aload_n 0, 1) := by decide +kernel
theorem dX3_load_81 : decode cX3_load 81 = .ok (.aload 4, 2) := by decide +kernel
theorem dX3_load_83 : decode cX3_load 83 = .ok (.iload 5, 2) := by decide +kernel
theorem dX3_load_85 : decode cX3_load 85 = .ok (.bipush 8, 2) := by decide +kernel
theorem dX3_load_87 : decode cX3_load 87 = .ok (.idiv, 1) := by decide +kernel
theorem dX3_load_88 : decode cX3_load 88 = .ok (.invokevirtual 59, 3) := by decide +kernel
theorem dX3_load_91 : decode cX3_load 91 = .ok (.ifCond .ne 18, 3) := by decide +kernel
theorem dX3_load_94 : decode cX3_load 94 = .ok (.aload_n 0, 1) := by decide +kernel
theorem dX3_load_95 : decode cX3_load 95 = .ok (.aload 4, 2) := by decide +kernel
theorem dX3_load_97 : decode cX3_load 97 = .ok (.iload 5, 2) := by decide +kernel
theorem dX3_load_99 : decode cX3_load 99 = .ok (.aload_n 0, 1) := by decide +kernel
theorem dX3_load_100 : decode cX3_load 100 = .ok (.getfield 32, 3) := by decide +kernel
theorem dX3_load_103 : decode cX3_load 103 = .ok (.iload 5, 2) := by decide +kernel
theorem dX3_load_105 : decode cX3_load 105 = .ok (.iaload, 1) := by decide +kernel
theorem dX3_load_106 : decode cX3_load 106 = .ok (.invokevirtual 63, 3) := by decide +kernel
theorem dX3_load_109 : decode cX3_load 109 = .ok (.iinc 5 1, 3) := by decide +kernel
theorem dX3_load_112 : decode cX3_load 112 = .ok (.goto (-38), 3) := by decide +kernel
theorem dX3_load_115 : decode cX3_load 115 = .ok (.iload_n 2, 1) := by decide +kernel
theorem dX3_load_116 : decode cX3_load 116 = .ok (.ireturn, 1) := by decide +kernel
end
section
/-! decode rows (written by program) -/
theorem dX3_moveBreak_0 : decode cX3_moveBreak 0 = .ok (.aload_n 0, 1) := by decide +kernel
theorem dX3_moveBreak_1 : decode cX3_moveBreak 1 = .ok (.getfield 20, 3) := by decide +kernel
theorem dX3_moveBreak_4 : decode cX3_moveBreak 4 = .ok (.iload_n 1, 1) := by decide +kernel
theorem dX3_moveBreak_5 : decode cX3_moveBreak 5 = .ok (.aaload, 1) := by decide +kernel
theorem dX3_moveBreak_6 : decode cX3_moveBreak 6 = .ok (.astore 4, 2) := by decide +kernel
theorem dX3_moveBreak_8 : decode cX3_moveBreak 8 = .ok (.aload 4, 2) := by decide +kernel
theorem dX3_moveBreak_10 : decode cX3_moveBreak 10 = .ok (.getfield 56, 3) := by decide +kernel
theorem dX3_moveBreak_13 : decode cX3_moveBreak 13 = .ok (.istore 5, 2) := by decide +kernel
theorem dX3_moveBreak_15 : decode cX3_moveBreak 15 = .ok (.iload 5, 2) := by decide +kernel
theorem dX3_moveBreak_17 : decode cX3_moveBreak 17 = .ok (.iload_n 3, 1) := by decide +kernel
theorem dX3_moveBreak_18 : decode cX3_moveBreak 18 = .ok (.iadd, 1) := by decide +kernel
theorem dX3_moveBreak_19 : decode cX3_moveBreak 19 = .ok (.istore 6, 2) := by decide +kernel
theorem dX3_moveBreak_21 : decode cX3_moveBreak 21 = .ok (.iload 6, 2) := by decide +kernel
theorem dX3_moveBreak_23 : decode cX3_moveBreak 23 = .ok (.ifCond .lt 10, 3) := by decide +kernel
theorem dX3_moveBreak_26 : decode cX3_moveBreak 26 = .ok (.iload 6, 2) := by decide +kernel
theorem dX3_moveBreak_28 : decode cX3_moveBreak 28 = .ok (.bipush 64, 2) := by decide +kernel
theorem dX3_moveBreak_30 : decode cX3_moveBreak 30 = .ok (.if_icmp .le 13, 3) := by decide +kernel
theorem dX3_moveBreak_33 : decode cX3_moveBreak 33 = .ok (.aload 4, 2) := by decide +kernel
theorem dX3_moveBreak_35 : decode cX3_moveBreak 35 = .ok (.getfield 103, 3) := by decide +kernel
theorem dX3_moveBreak_38 : decode cX3_moveBreak 38 = .ok (.iload_n 2, 1) := by decide +kernel
theorem dX3_moveBreak_39 : decode cX3_moveBreak 39 = .ok (.iconst (-1), 1) := by decide +kernel
theorem dX3_moveBreak_40 : decode cX3_moveBreak 40 = .ok (.iastore, 1) := by decide +kernel
theorem dX3_moveBreak_41 : decode cX3_moveBreak 41 = .ok (.iconst 1, 1) := by decide +kernel
theorem dX3_moveBreak_42 : decode cX3_moveBreak 42 = .ok (.ireturn, 1) := by decide +kernel
theorem dX3_moveBreak_43 : decode cX3_moveBreak 43 = .ok (.aload 4, 2) := by decide +kernel
theorem dX3_moveBreak_45 : decode cX3_moveBreak 45 = .ok (.getfield 103, 3) := by decide +kernel
theorem dX3_moveBreak_48 : decode cX3_moveBreak 48 = .ok (.iload_n 2, 1) := by decide +kernel
theorem dX3_moveBreak_49 : decode cX3_moveBreak 49 = .ok (.iload 5, 2) := by decide +kernel
theorem dX3_moveBreak_51 : decode cX3_moveBreak 51 = .ok (.iastore, 1) := by decide +kernel
theorem dX3_moveBreak_52 : decode cX3_moveBreak 52 = .ok (.aload 4, 2) := by decide +kernel
theorem dX3_moveBreak_54 : decode cX3_moveBreak 54 = .ok (.iload 6, 2) := by decide +kernel
theorem dX3_moveBreak_56 : decode cX3_moveBreak 56 = .ok (.putfield 56, 3) := by decide +kernel
theorem dX3_moveBreak_59 : decode cX3_moveBreak 59 = .ok (.aload_n 0, 1) := by decide +kernel
theorem dX3_moveBreak_60 : decode cX3_moveBreak 60 = .ok (.aload 4, 2) := by decide +kernel
theorem dX3_moveBreak_62 : decode cX3_moveBreak 62 = .ok (.iload 6, 2) := by decide +kernel
theorem dX3_moveBreak_64 : decode cX3_moveBreak 64 = .ok (.bipush 8, 2) := by decide +kernel
theorem dX3_moveBreak_66 : decode cX3_moveBreak 66 = .ok (.iadd, 1) := by decide +kernel
theorem dX3_moveBreak_67 : decode cX3_moveBreak 67 = .ok (.iconst 1, 1) := by decide +kernel
theorem dX3_moveBreak_68 : decode cX3_moveBreak 68 = .ok (.isub, 1) := by decide +kernel
theorem dX3_moveBreak_69 : decode cX3_moveBreak 69 = .ok (.bipush 8, 2) := by decide +kernel
theorem dX3_moveBreak_71 : decode cX3_moveBreak 71 = .ok (.idiv, 1) := by decide +kernel
theorem dX3_moveBreak_72 : decode cX3_moveBreak 72 = .ok (.invokevirtual 171, 3) := by decide +kernel
theorem dX3_moveBreak_75 : decode cX3_moveBreak 75 = .ok (.iload 6, 2) := by decide +kernel
theorem dX3_moveBreak_77 : decode cX3_moveBreak 77 = .ok (.bipush 8, 2) := by decide +kernel
theorem dX3_moveBreak_79 : decode cX3_moveBreak 79 = .ok (.idiv, 1) := by decide +kernel
theorem dX3_moveBreak_80 : decode cX3_moveBreak 80 = .ok (.istore 7, 2) := by decide +kernel
theorem dX3_moveBreak_82 : decode cX3_moveBreak 82 = .ok (.iload 6, 2) := by decide +kernel
theorem dX3_moveBreak_84 : decode cX3_moveBreak 84 = .ok (.iload 5, 2) := by decide +kernel
theorem dX3_moveBreak_86 : decode cX3_moveBreak 86 = .ok (.if_icmp .ge 15, 3) := by decide +kernel
theorem dX3_moveBreak_89 : decode cX3_moveBreak 89 = .ok (.aload 4, 2) := by decide +kernel
theorem dX3_moveBreak_91 : decode cX3_moveBreak 91 = .ok (.getfield 112, 3) := by decide +kernel
theorem dX3_moveBreak_94 : decode cX3_moveBreak 94 = .ok (.iload 7, 2) := by decide +kernel
theorem dX3_moveBreak_96 : decode cX3_moveBreak 96 = .ok (.iaload, 1) := by decide +kernel
theorem dX3_moveBreak_97 : decode cX3_moveBreak 97 = .ok (.iconst (-1), 1) := by decide +kernel
theorem dX3_moveBreak_98 : decode cX3_moveBreak 98 = .ok (.if_icmp .ne 5, 3) := by decide +kernel
theorem dX3_moveBreak_101 : decode cX3_moveBreak 101 = .ok (.iconst 1, 1) := by decide +kernel
theorem dX3_moveBreak_102 : decode cX3_moveBreak 102 = .ok (.ireturn, 1) := by decide +kernel
theorem dX3_moveBreak_103 : decode cX3_moveBreak 103 = .ok (.aload_n 0, 1) := by decide +kernel
theorem dX3_moveBreak_104 : decode cX3_moveBreak 104 = .ok (.aload 4, 2) := by decide +kernel
theorem dX3_moveBreak_106 : decode cX3_moveBreak 106 = .ok (.iload 7, 2) := by decide +kernel
theorem dX3_moveBreak_108 : decode cX3_moveBreak 108 = .ok (.invokevirtual 59, 3) := by decide +kernel
theorem dX3_moveBreak_111 : decode cX3_moveBreak 111 = .ok (.istore 8, 2) := by decide +kernel
theorem dX3_moveBreak_113 : decode cX3_moveBreak 113 = .ok (.iload 8, 2) := by decide +kernel
theorem dX3_moveBreak_115 : decode cX3_moveBreak 115 = .ok (.ifCond .eq 11, 3) := by decide +kernel
theorem dX3_moveBreak_118 : decode cX3_moveBreak 118 = .ok (.aload_n 0, 1) := by decide +kernel
theorem dX3_moveBreak_119 : decode cX3_moveBreak 119 = .ok (.iload_n 1, 1) := by decide +kernel
theorem dX3_moveBreak_120 : decode cX3_moveBreak 120 = .ok (.iload 8, 2) := by decide +kernel
theorem dX3_moveBreak_122 : decode cX3_moveBreak 122 = .ok (.invokevirtual 74, 3) := by decide +kernel
theorem dX3_moveBreak_125 : decode cX3_moveBreak 125 = .ok (.ireturn, 1) := by decide +kernel
theorem dX3_moveBreak_126 : decode cX3_moveBreak 126 = .ok (.aload_n 0, 1) := by decide +kernel
theorem dX3_moveBreak_127 : decode cX3_moveBreak 127 = .ok (.aload 4, 2) := by decide +kernel
theorem dX3_moveBreak_129 : decode cX3_moveBreak 129 = .ok (.iload 6, 2) := by decide +kernel
theorem dX3_moveBreak_131 : decode cX3_moveBreak 131 = .ok (.invokevirtual 175, 3) := by decide +kernel
theorem dX3_moveBreak_134 : decode cX3_moveBreak 134 = .ok (.iconst 1, 1) := by decide +kernel
theorem dX3_moveBreak_135 : decode cX3_moveBreak 135 = .ok (.ireturn, 1) := by decide +kernel
theorem dX3_nextReady_0 : decode cX3_nextReady 0 = .ok (.iconst 1, 1) := by decide +kernel
theorem dX3_nextReady_1 : decode cX3_nextReady 1 = .ok (.istore_n 1, 1) := by decide +kernel
theorem dX3_nextReady_2 : decode cX3_nextReady 2 = .ok (.iload_n 1, 1) := by decide +kernel
theorem dX3_nextReady_3 : decode cX3_nextReady 3 = .ok (.bipush 8, 2) := by decide +kernel
theorem dX3_nextReady_5 : decode cX3_nextReady 5 = .ok (.if_icmp .gt 34, 3) := by decide +kernel
theorem dX3_nextReady_8 : decode cX3_nextReady 8 = .ok (.aload_n 0, 1) := by decide +kernel
theorem dX3_nextReady_9 : decode cX3_nextReady 9 = .ok (.getfield 40, 3) := by decide +kernel
theorem dX3_nextReady_12 : decode cX3_nextReady 12 = .ok (.iload_n 1, 1) := by decide +kernel
theorem dX3_nextReady_13 : decode cX3_nextReady 13 = .ok (.iadd, 1) := by decide +kernel
theorem dX3_nextReady_14 : decode cX3_nextReady 14 = .ok (.bipush 8, 2) := by decide +kernel
theorem dX3_nextReady_16 : decode cX3_nextReady 16 = .ok (.irem, 1) := by decide +kernel
theorem dX3_nextReady_17 : decode cX3_nextReady 17 = .ok (.istore_n 2, 1) := by decide +kernel
theorem dX3_nextReady_18 : decode cX3_nextReady 18 = .ok (.aload_n 0, 1) := by decide +kernel
theorem dX3_nextReady_19 : decode cX3_nextReady 19 = .ok (.getfield 20, 3) := by decide +kernel
theorem dX3_nextReady_22 : decode cX3_nextReady 22 = .ok (.iload_n 2, 1) := by decide +kernel
theorem dX3_nextReady_23 : decode cX3_nextReady 23 = .ok (.aaload, 1) := by decide +kernel
theorem dX3_nextReady_24 : decode cX3_nextReady 24 = .ok (.getfield 90, 3) := by decide +kernel
theorem dX3_nextReady_27 : decode cX3_nextReady 27 = .ok (.iconst 1, 1) := by decide +kernel
theorem dX3_nextReady_28 : decode cX3_nextReady 28 = .ok (.if_icmp .ne 5, 3) := by decide +kernel
theorem dX3_nextReady_31 : decode cX3_nextReady 31 = .ok (.iload_n 2, 1) := by decide +kernel
theorem dX3_nextReady_32 : decode cX3_nextReady 32 = .ok (.ireturn, 1) := by decide +kernel
theorem dX3_nextReady_33 : decode cX3_nextReady 33 = .ok (.iinc 1 1, 3) := by decide +kernel
theorem dX3_nextReady_36 : decode cX3_nextReady 36 = .ok (.goto (-34), 3) := by decide +kernel
theorem dX3_nextReady_39 : decode cX3_nextReady 39 = .ok (.iconst (-1), 1) := by decide +kernel
theorem dX3_nextReady_40 : decode cX3_nextReady 40 = .ok (.ireturn, 1) := by decide +kernel
theorem dX3_ownPage_0 : decode cX3_ownPage 0 = .ok (.aload_n 1, 1) := by decide +kernel
theorem dX3_ownPage_1 : decode cX3_ownPage 1 = .ok (.getfield 112, 3) := by decide +kernel
theorem dX3_ownPage_4 : decode cX3_ownPage 4 = .ok (.iload_n 2, 1) := by decide +kernel
theorem dX3_ownPage_5 : decode cX3_ownPage 5 = .ok (.iaload, 1) := by decide +kernel
theorem dX3_ownPage_6 : decode cX3_ownPage 6 = .ok (.istore_n 3, 1) := by decide +kernel
theorem dX3_ownPage_7 : decode cX3_ownPage 7 = .ok (.iload_n 3, 1) := by decide +kernel
theorem dX3_ownPage_8 : decode cX3_ownPage 8 = .ok (.iconst (-1), 1) := by decide +kernel
theorem dX3_ownPage_9 : decode cX3_ownPage 9 = .ok (.if_icmp .eq 18, 3) := by decide +kernel
theorem dX3_ownPage_12 : decode cX3_ownPage 12 = .ok (.aload_n 0, 1) := by decide +kernel
theorem dX3_ownPage_13 : decode cX3_ownPage 13 = .ok (.getfield 14, 3) := by decide +kernel
theorem dX3_ownPage_16 : decode cX3_ownPage 16 = .ok (.getfield 115, 3) := by decide +kernel
theorem dX3_ownPage_19 : decode cX3_ownPage 19 = .ok (.iload_n 3, 1) := by decide +kernel
theorem dX3_ownPage_20 : decode cX3_ownPage 20 = .ok (.iaload, 1) := by decide +kernel
theorem dX3_ownPage_21 : decode cX3_ownPage 21 = .ok (.iconst 1, 1) := by decide +kernel
theorem dX3_ownPage_22 : decode cX3_ownPage 22 = .ok (.if_icmp .ne 5, 3) := by decide +kernel
theorem dX3_ownPage_25 : decode cX3_ownPage 25 = .ok (.iconst 0, 1) := by decide +kernel
theorem dX3_ownPage_26 : decode cX3_ownPage 26 = .ok (.ireturn, 1) := by decide +kernel
theorem dX3_ownPage_27 : decode cX3_ownPage 27 = .ok (.aload_n 0, 1) := by decide +kernel
theorem dX3_ownPage_28 : decode cX3_ownPage 28 = .ok (.getfield 14, 3) := by decide +kernel
theorem dX3_ownPage_31 : decode cX3_ownPage 31 = .ok (.invokevirtual 184, 3) := by decide +kernel
theorem dX3_ownPage_34 : decode cX3_ownPage 34 = .ok (.istore 4, 2) := by decide +kernel
theorem dX3_ownPage_36 : decode cX3_ownPage 36 = .ok (.iload 4, 2) := by decide +kernel
theorem dX3_ownPage_38 : decode cX3_ownPage 38 = .ok (.iconst (-1), 1) := by decide +kernel
theorem dX3_ownPage_39 : decode cX3_ownPage 39 = .ok (.if_icmp .ne 6, 3) := by decide +kernel
theorem dX3_ownPage_42 : decode cX3_ownPage 42 = .ok (.bipush (-13), 2) := by decide +kernel
theorem dX3_ownPage_44 : decode cX3_ownPage 44 = .ok (.ireturn, 1) := by decide +kernel
theorem dX3_ownPage_45 : decode cX3_ownPage 45 = .ok (.iload_n 3, 1) := by decide +kernel
theorem dX3_ownPage_46 : decode cX3_ownPage 46 = .ok (.iconst (-1), 1) := by decide +kernel
theorem dX3_ownPage_47 : decode cX3_ownPage 47 = .ok (.if_icmp .eq 21, 3) := by decide +kernel
theorem dX3_ownPage_50 : decode cX3_ownPage 50 = .ok (.aload_n 0, 1) := by decide +kernel
theorem dX3_ownPage_51 : decode cX3_ownPage 51 = .ok (.getfield 14, 3) := by decide +kernel
theorem dX3_ownPage_54 : decode cX3_ownPage 54 = .ok (.iload_n 3, 1) := by decide +kernel
theorem dX3_ownPage_55 : decode cX3_ownPage 55 = .ok (.iload 4, 2) := by decide +kernel
theorem dX3_ownPage_57 : decode cX3_ownPage 57 = .ok (.invokevirtual 187, 3) := by decide +kernel
theorem dX3_ownPage_60 : decode cX3_ownPage 60 = .ok (.aload_n 0, 1) := by decide +kernel
theorem dX3_ownPage_61 : decode cX3_ownPage 61 = .ok (.getfield 14, 3) := by decide +kernel
theorem dX3_ownPage_64 : decode cX3_ownPage 64 = .ok (.iload_n 3, 1) := by decide +kernel
theorem dX3_ownPage_65 : decode cX3_ownPage 65 = .ok (.invokevirtual 191, 3) := by decide +kernel
theorem dX3_ownPage_68 : decode cX3_ownPage 68 = .ok (.aload_n 1, 1) := by decide +kernel
theorem dX3_ownPage_69 : decode cX3_ownPage 69 = .ok (.getfield 112, 3) := by decide +kernel
theorem dX3_ownPage_72 : decode cX3_ownPage 72 = .ok (.iload_n 2, 1) := by decide +kernel
theorem dX3_ownPage_73 : decode cX3_ownPage 73 = .ok (.iload 4, 2) := by decide +kernel
theorem dX3_ownPage_75 : decode cX3_ownPage 75 = .ok (.iastore, 1) := by decide +kernel
theorem dX3_ownPage_76 : decode cX3_ownPage 76 = .ok (.iconst 0, 1) := by decide +kernel
theorem dX3_ownPage_77 : decode cX3_ownPage 77 = .ok (.ireturn, 1) := by decide +kernel
theorem dX3_parent_0 : decode cX3_parent 0 = .ok (.iload_n 1, 1) := by decide +kernel
theorem dX3_parent_1 : decode cX3_parent 1 = .ok (.invokestatic 87, 3) := by decide +kernel
theorem dX3_parent_4 : decode cX3_parent 4 = .ok (.ifCond .eq 15, 3) := by decide +kernel
theorem dX3_parent_7 : decode cX3_parent 7 = .ok (.aload_n 0, 1) := by decide +kernel
theorem dX3_parent_8 : decode cX3_parent 8 = .ok (.getfield 20, 3) := by decide +kernel
theorem dX3_parent_11 : decode cX3_parent 11 = .ok (.iload_n 1, 1) := by decide +kernel
theorem dX3_parent_12 : decode cX3_parent 12 = .ok (.aaload, 1) := by decide +kernel
theorem dX3_parent_13 : decode cX3_parent 13 = .ok (.getfield 81, 3) := by decide +kernel
theorem dX3_parent_16 : decode cX3_parent 16 = .ok (.goto 4, 3) := by decide +kernel
theorem dX3_parent_19 : decode cX3_parent 19 = .ok (.iconst (-1), 1) := by decide +kernel
theorem dX3_parent_20 : decode cX3_parent 20 = .ok (.ireturn, 1) := by decide +kernel
theorem dX3_peek_0 : decode cX3_peek 0 = .ok (.aload_n 0, 1) := by decide +kernel
theorem dX3_peek_1 : decode cX3_peek 1 = .ok (.iload_n 1, 1) := by decide +kernel
theorem dX3_peek_2 : decode cX3_peek 2 = .ok (.invokevirtual 70, 3) := by decide +kernel
theorem dX3_peek_5 : decode cX3_peek 5 = .ok (.ifCond .eq 16, 3) := by decide +kernel
theorem dX3_peek_8 : decode cX3_peek 8 = .ok (.aload_n 0, 1) := by decide +kernel
theorem dX3_peek_9 : decode cX3_peek 9 = .ok (.getfield 20, 3) := by decide +kernel
theorem dX3_peek_12 : decode cX3_peek 12 = .ok (.iload_n 1, 1) := by decide +kernel
theorem dX3_peek_13 : decode cX3_peek 13 = .ok (.aaload, 1) := by decide +kernel
theorem dX3_peek_14 : decode cX3_peek 14 = .ok (.iload_n 2, 1) := by decide +kernel
theorem dX3_peek_15 : decode cX3_peek 15 = .ok (.invokevirtual 106, 3) := by decide +kernel
theorem dX3_peek_18 : decode cX3_peek 18 = .ok (.ifCond .ne 5, 3) := by decide +kernel
theorem dX3_peek_21 : decode cX3_peek 21 = .ok (.iconst 0, 1) := by decide +kernel
theorem dX3_peek_22 : decode cX3_peek 22 = .ok (.ireturn, 1) := by decide +kernel
theorem dX3_peek_23 : decode cX3_peek 23 = .ok (.aload_n 0, 1) := by decide +kernel
theorem dX3_peek_24 : decode cX3_peek 24 = .ok (.aload_n 0, 1) := by decide +kernel
theorem dX3_peek_25 : decode cX3_peek 25 = .ok (.getfield 20, 3) := by decide +kernel
theorem dX3_peek_28 : decode cX3_peek 28 = .ok (.iload_n 1, 1) := by decide +kernel
theorem dX3_peek_29 : decode cX3_peek 29 = .ok (.aaload, 1) := by decide +kernel
theorem dX3_peek_30 : decode cX3_peek 30 = .ok (.iload_n 2, 1) := by decide +kernel
theorem dX3_peek_31 : decode cX3_peek 31 = .ok (.invokevirtual 109, 3) := by decide +kernel
theorem dX3_peek_34 : decode cX3_peek 34 = .ok (.ireturn, 1) := by decide +kernel
theorem dX3_print_0 : decode cX3_print 0 = .ok (.aload_n 0, 1) := by decide +kernel
theorem dX3_print_1 : decode cX3_print 1 = .ok (.getfield 28, 3) := by decide +kernel
theorem dX3_print_4 : decode cX3_print 4 = .ok (.iload_n 1, 1) := by decide +kernel
theorem dX3_print_5 : decode cX3_print 5 = .ok (.invokevirtual 124, 3) := by decide +kernel
theorem dX3_print_8 : decode cX3_print 8 = .ok (.ireturn, 1) := by decide +kernel
theorem dX3_printed_0 : decode cX3_printed 0 = .ok (.aload_n 0, 1) := by decide +kernel
theorem dX3_printed_1 : decode cX3_printed 1 = .ok (.getfield 28, 3) := by decide +kernel
theorem dX3_printed_4 : decode cX3_printed 4 = .ok (.getfield 121, 3) := by decide +kernel
theorem dX3_printed_7 : decode cX3_printed 7 = .ok (.ireturn, 1) := by decide +kernel
theorem dX3_putWord_0 : decode cX3_putWord 0 = .ok (.aload_n 1, 1) := by decide +kernel
theorem dX3_putWord_1 : decode cX3_putWord 1 = .ok (.getfield 112, 3) := by decide +kernel
theorem dX3_putWord_4 : decode cX3_putWord 4 = .ok (.iload_n 2, 1) := by decide +kernel
theorem dX3_putWord_5 : decode cX3_putWord 5 = .ok (.bipush 8, 2) := by decide +kernel
theorem dX3_putWord_7 : decode cX3_putWord 7 = .ok (.idiv, 1) := by decide +kernel
theorem dX3_putWord_8 : decode cX3_putWord 8 = .ok (.iaload, 1) := by decide +kernel
theorem dX3_putWord_9 : decode cX3_putWord 9 = .ok (.istore 4, 2) := by decide +kernel
theorem dX3_putWord_11 : decode cX3_putWord 11 = .ok (.iload 4, 2) := by decide +kernel
theorem dX3_putWord_13 : decode cX3_putWord 13 = .ok (.iconst (-1), 1) := by decide +kernel
theorem dX3_putWord_14 : decode cX3_putWord 14 = .ok (.if_icmp .eq 22, 3) := by decide +kernel
theorem dX3_putWord_17 : decode cX3_putWord 17 = .ok (.aload_n 0, 1) := by decide +kernel
theorem dX3_putWord_18 : decode cX3_putWord 18 = .ok (.getfield 14, 3) := by decide +kernel
theorem dX3_putWord_21 : decode cX3_putWord 21 = .ok (.getfield 194, 3) := by decide +kernel
theorem dX3_putWord_24 : decode cX3_putWord 24 = .ok (.iload 4, 2) := by decide +kernel
theorem dX3_putWord_26 : decode cX3_putWord 26 = .ok (.bipush 8, 2) := by decide +kernel
theorem dX3_putWord_28 : decode cX3_putWord 28 = .ok (.imul, 1) := by decide +kernel
theorem dX3_putWord_29 : decode cX3_putWord 29 = .ok (.iload_n 2, 1) := by decide +kernel
theorem dX3_putWord_30 : decode cX3_putWord 30 = .ok (.bipush 8, 2) := by decide +kernel
theorem dX3_putWord_32 : decode cX3_putWord 32 = .ok (.irem, 1) := by decide +kernel
theorem dX3_putWord_33 : decode cX3_putWord 33 = .ok (.iadd, 1) := by decide +kernel
theorem dX3_putWord_34 : decode cX3_putWord 34 = .ok (.iload_n 3, 1) := by decide +kernel
theorem dX3_putWord_35 : decode cX3_putWord 35 = .ok (.iastore, 1) := by decide +kernel
theorem dX3_putWord_36 : decode cX3_putWord 36 = .ok (.return_, 1) := by decide +kernel
theorem dX3_readInto_0 : decode cX3_readInto 0 = .ok (.aload_n 0, 1) := by decide +kernel
theorem dX3_readInto_1 : decode cX3_readInto 1 = .ok (.getfield 20, 3) := by decide +kernel
theorem dX3_readInto_4 : decode cX3_readInto 4 = .ok (.iload_n 1, 1) := by decide +kernel
theorem dX3_readInto_5 : decode cX3_readInto 5 = .ok (.aaload, 1) := by decide +kernel
theorem dX3_readInto_6 : decode cX3_readInto 6 = .ok (.astore 4, 2) := by decide +kernel
theorem dX3_readInto_8 : decode cX3_readInto 8 = .ok (.aload_n 0, 1) := by decide +kernel
theorem dX3_readInto_9 : decode cX3_readInto 9 = .ok (.aload 4, 2) := by decide +kernel
theorem dX3_readInto_11 : decode cX3_readInto 11 = .ok (.iload_n 3, 1) := by decide +kernel
theorem dX3_readInto_12 : decode cX3_readInto 12 = .ok (.invokevirtual 134, 3) := by decide +kernel
theorem dX3_readInto_15 : decode cX3_readInto 15 = .ok (.istore 5, 2) := by decide +kernel
theorem dX3_readInto_17 : decode cX3_readInto 17 = .ok (.iload 5, 2) := by decide +kernel
theorem dX3_readInto_19 : decode cX3_readInto 19 = .ok (.ifCond .eq 11, 3) := by decide +kernel
theorem dX3_readInto_22 : decode cX3_readInto 22 = .ok (.aload_n 0, 1) := by decide +kernel
theorem dX3_readInto_23 : decode cX3_readInto 23 = .ok (.iload_n 1, 1) := by decide +kernel
theorem dX3_readInto_24 : decode cX3_readInto 24 = .ok (.iload 5, 2) := by decide +kernel
theorem dX3_readInto_26 : decode cX3_readInto 26 = .ok (.invokevirtual 74, 3) := by decide +kernel
theorem dX3_readInto_29 : decode cX3_readInto 29 = .ok (.ireturn, 1) := by decide +kernel
theorem dX3_readInto_30 : decode cX3_readInto 30 = .ok (.aload 4, 2) := by decide +kernel
theorem dX3_readInto_32 : decode cX3_readInto 32 = .ok (.getfield 103, 3) := by decide +kernel
theorem dX3_readInto_35 : decode cX3_readInto 35 = .ok (.iload_n 2, 1) := by decide +kernel
theorem dX3_readInto_36 : decode cX3_readInto 36 = .ok (.aload_n 0, 1) := by decide +kernel
theorem dX3_readInto_37 : decode cX3_readInto 37 = .ok (.aload 4, 2) := by decide +kernel
theorem dX3_readInto_39 : decode cX3_readInto 39 = .ok (.iload_n 3, 1) := by decide +kernel
theorem dX3_readInto_40 : decode cX3_readInto 40 = .ok (.invokevirtual 109, 3) := by decide +kernel
theorem dX3_readInto_43 : decode cX3_readInto 43 = .ok (.iastore, 1) := by decide +kernel
theorem dX3_readInto_44 : decode cX3_readInto 44 = .ok (.iconst 1, 1) := by decide +kernel
theorem dX3_readInto_45 : decode cX3_readInto 45 = .ok (.ireturn, 1) := by decide +kernel
theorem dX3_reap_0 : decode cX3_reap 0 = .ok (.aload_n 0, 1) := by decide +kernel
theorem dX3_reap_1 : decode cX3_reap 1 = .ok (.iload_n 1, 1) := by decide +kernel
theorem dX3_reap_2 : decode cX3_reap 2 = .ok (.invokevirtual 78, 3) := by decide +kernel
theorem dX3_reap_5 : decode cX3_reap 5 = .ok (.ifCond .eq 16, 3) := by decide +kernel
theorem dX3_reap_8 : decode cX3_reap 8 = .ok (.aload_n 0, 1) := by decide +kernel
theorem dX3_reap_9 : decode cX3_reap 9 = .ok (.getfield 20, 3) := by decide +kernel
theorem dX3_reap_12 : decode cX3_reap 12 = .ok (.iload_n 1, 1) := by decide +kernel
theorem dX3_reap_13 : decode cX3_reap 13 = .ok (.aaload, 1) := by decide +kernel
theorem dX3_reap_14 : decode cX3_reap 14 = .ok (.getfield 81, 3) := by decide +kernel
theorem dX3_reap_17 : decode cX3_reap 17 = .ok (.iconst (-1), 1) := by decide +kernel
theorem dX3_reap_18 : decode cX3_reap 18 = .ok (.if_icmp .eq 5, 3) := by decide +kernel
theorem dX3_reap_21 : decode cX3_reap 21 = .ok (.iconst (-1), 1) := by decide +kernel
theorem dX3_reap_22 : decode cX3_reap 22 = .ok (.ireturn, 1) := by decide +kernel
theorem dX3_reap_23 : decode cX3_reap 23 = .ok (.aload_n 0, 1) := by decide +kernel
theorem dX3_reap_24 : decode cX3_reap 24 = .ok (.getfield 20, 3) := by decide +kernel
theorem dX3_reap_27 : decode cX3_reap 27 = .ok (.iload_n 1, 1) := by decide +kernel
theorem dX3_reap_28 : decode cX3_reap 28 = .ok (.aaload, 1) := by decide +kernel
theorem dX3_reap_29 : decode cX3_reap 29 = .ok (.invokevirtual 84, 3) := by decide +kernel
theorem dX3_reap_32 : decode cX3_reap 32 = .ok (.ireturn, 1) := by decide +kernel
theorem dX3_register_0 : decode cX3_register 0 = .ok (.aload_n 0, 1) := by decide +kernel
theorem dX3_register_1 : decode cX3_register 1 = .ok (.iload_n 1, 1) := by decide +kernel
theorem dX3_register_2 : decode cX3_register 2 = .ok (.invokevirtual 70, 3) := by decide +kernel
theorem dX3_register_5 : decode cX3_register 5 = .ok (.ifCond .eq 13, 3) := by decide +kernel
theorem dX3_register_8 : decode cX3_register 8 = .ok (.iload_n 2, 1) := by decide +kernel
theorem dX3_register_9 : decode cX3_register 9 = .ok (.ifCond .lt 9, 3) := by decide +kernel
theorem dX3_register_12 : decode cX3_register 12 = .ok (.iload_n 2, 1) := by decide +kernel
theorem dX3_register_13 : decode cX3_register 13 = .ok (.bipush 9, 2) := by decide +kernel
theorem dX3_register_15 : decode cX3_register 15 = .ok (.if_icmp .le 5, 3) := by decide +kernel
theorem dX3_register_18 : decode cX3_register 18 = .ok (.iconst 0, 1) := by decide +kernel
theorem dX3_register_19 : decode cX3_register 19 = .ok (.ireturn, 1) := by decide +kernel
theorem dX3_register_20 : decode cX3_register 20 = .ok (.iload_n 2, 1) := by decide +kernel
theorem dX3_register_21 : decode cX3_register 21 = .ok (.bipush 8, 2) := by decide +kernel
theorem dX3_register_23 : decode cX3_register 23 = .ok (.if_icmp .ne 13, 3) := by decide +kernel
theorem dX3_register_26 : decode cX3_register 26 = .ok (.aload_n 0, 1) := by decide +kernel
theorem dX3_register_27 : decode cX3_register 27 = .ok (.getfield 20, 3) := by decide +kernel
theorem dX3_register_30 : decode cX3_register 30 = .ok (.iload_n 1, 1) := by decide +kernel
theorem dX3_register_31 : decode cX3_register 31 = .ok (.aaload, 1) := by decide +kernel
theorem dX3_register_32 : decode cX3_register 32 = .ok (.getfield 100, 3) := by decide +kernel
theorem dX3_register_35 : decode cX3_register 35 = .ok (.ireturn, 1) := by decide +kernel
theorem dX3_register_36 : decode cX3_register 36 = .ok (.iload_n 2, 1) := by decide +kernel
theorem dX3_register_37 : decode cX3_register 37 = .ok (.bipush 9, 2) := by decide +kernel
theorem dX3_register_39 : decode cX3_register 39 = .ok (.if_icmp .ne 13, 3) := by decide +kernel
theorem dX3_register_42 : decode cX3_register 42 = .ok (.aload_n 0, 1) := by decide +kernel
theorem dX3_register_43 : decode cX3_register 43 = .ok (.getfield 20, 3) := by decide +kernel
theorem dX3_register_46 : decode cX3_register 46 = .ok (.iload_n 1, 1) := by decide +kernel
theorem dX3_register_47 : decode cX3_register 47 = .ok (.aaload, 1) := by decide +kernel
theorem dX3_register_48 : decode cX3_register 48 = .ok (.getfield 56, 3) := by decide +kernel
theorem dX3_register_51 : decode cX3_register 51 = .ok (.ireturn, 1) := by decide +kernel
theorem dX3_register_52 : decode cX3_register 52 = .ok (.aload_n 0, 1) := by decide +kernel
theorem dX3_register_53 : decode cX3_register 53 = .ok (.getfield 20, 3) := by decide +kernel
theorem dX3_register_56 : decode cX3_register 56 = .ok (.iload_n 1, 1) := by decide +kernel
theorem dX3_register_57 : decode cX3_register 57 = .ok (.aaload, 1) := by decide +kernel
theorem dX3_register_58 : decode cX3_register 58 = .ok (.getfield 103, 3) := by decide +kernel
theorem dX3_register_61 : decode cX3_register 61 = .ok (.iload_n 2, 1) := by decide +kernel
theorem dX3_register_62 : decode cX3_register 62 = .ok (.iaload, 1) := by decide +kernel
theorem dX3_register_63 : decode cX3_register 63 = .ok (.ireturn, 1) := by decide +kernel
theorem dX3_releaseFrom_0 : decode cX3_releaseFrom 0 = .ok (.iload_n 2, 1) := by decide +kernel
theorem dX3_releaseFrom_1 : decode cX3_releaseFrom 1 = .ok (.istore_n 3, 1) := by decide +kernel
theorem dX3_releaseFrom_2 : decode cX3_releaseFrom 2 = .ok (.iload_n 3, 1) := by decide +kernel
theorem dX3_releaseFrom_3 : decode cX3_releaseFrom 3 = .ok (.bipush 8, 2) := by decide +kernel
theorem dX3_releaseFrom_5 : decode cX3_releaseFrom 5 = .ok (.if_icmp .ge 29, 3) := by decide +kernel
theorem dX3_releaseFrom_8 : decode cX3_releaseFrom 8 = .ok (.aload_n 0, 1) := by decide +kernel
theorem dX3_releaseFrom_9 : decode cX3_releaseFrom 9 = .ok (.getfield 14, 3) := by decide +kernel
theorem dX3_releaseFrom_12 : decode cX3_releaseFrom 12 = .ok (.aload_n 1, 1) := by decide +kernel
theorem dX3_releaseFrom_13 : decode cX3_releaseFrom 13 = .ok (.getfield 112, 3) := by decide +kernel
theorem dX3_releaseFrom_16 : decode cX3_releaseFrom 16 = .ok (.iload_n 3, 1) := by decide +kernel
theorem dX3_releaseFrom_17 : decode cX3_releaseFrom 17 = .ok (.iaload, 1) := by decide +kernel
theorem dX3_releaseFrom_18 : decode cX3_releaseFrom 18 = .ok (.invokevirtual 191, 3) := by decide +kernel
theorem dX3_releaseFrom_21 : decode cX3_releaseFrom 21 = .ok (.aload_n 1, 1) := by decide +kernel
theorem dX3_releaseFrom_22 : decode cX3_releaseFrom 22 = .ok (.getfield 112, 3) := by decide +kernel
theorem dX3_releaseFrom_25 : decode cX3_releaseFrom 25 = .ok (.iload_n 3, 1) := by decide +kernel
theorem dX3_releaseFrom_26 : decode cX3_releaseFrom 26 = .ok (.iconst (-1), 1) := by decide +kernel
theorem dX3_releaseFrom_27 : decode cX3_releaseFrom 27 = .ok (.iastore, 1) := by decide +kernel
theorem dX3_releaseFrom_28 : decode cX3_releaseFrom 28 = .ok (.iinc 3 1, 3) := by decide +kernel
theorem dX3_releaseFrom_31 : decode cX3_releaseFrom 31 = .ok (.goto (-29), 3) := by decide +kernel
theorem dX3_releaseFrom_34 : decode cX3_releaseFrom 34 = .ok (.return_, 1) := by decide +kernel
theorem dX3_rowGoesOn_0 : decode cX3_rowGoesOn 0 = .ok (.aload_n 0, 1) := by decide +kernel
theorem dX3_rowGoesOn_1 : decode cX3_rowGoesOn 1 = .ok (.getfield 40, 3) := by decide +kernel
theorem dX3_rowGoesOn_4 : decode cX3_rowGoesOn 4 = .ok (.iconst (-1), 1) := by decide +kernel
theorem dX3_rowGoesOn_5 : decode cX3_rowGoesOn 5 = .ok (.if_icmp .eq 34, 3) := by decide +kernel
theorem dX3_rowGoesOn_8 : decode cX3_rowGoesOn 8 = .ok (.aload_n 0, 1) := by decide +kernel
theorem dX3_rowGoesOn_9 : decode cX3_rowGoesOn 9 = .ok (.getfield 20, 3) := by decide +kernel
theorem dX3_rowGoesOn_12 : decode cX3_rowGoesOn 12 = .ok (.aload_n 0, 1) := by decide +kernel
theorem dX3_rowGoesOn_13 : decode cX3_rowGoesOn 13 = .ok (.getfield 40, 3) := by decide +kernel
theorem dX3_rowGoesOn_16 : decode cX3_rowGoesOn 16 = .ok (.aaload, 1) := by decide +kernel
theorem dX3_rowGoesOn_17 : decode cX3_rowGoesOn 17 = .ok (.getfield 90, 3) := by decide +kernel
theorem dX3_rowGoesOn_20 : decode cX3_rowGoesOn 20 = .ok (.iconst 1, 1) := by decide +kernel
theorem dX3_rowGoesOn_21 : decode cX3_rowGoesOn 21 = .ok (.if_icmp .ne 18, 3) := by decide +kernel
theorem dX3_rowGoesOn_24 : decode cX3_rowGoesOn 24 = .ok (.aload_n 0, 1) := by decide +kernel
theorem dX3_rowGoesOn_25 : decode cX3_rowGoesOn 25 = .ok (.getfield 43, 3) := by decide +kernel
theorem dX3_rowGoesOn_28 : decode cX3_rowGoesOn 28 = .ok (.aload_n 0, 1) := by decide +kernel
theorem dX3_rowGoesOn_29 : decode cX3_rowGoesOn 29 = .ok (.getfield 36, 3) := by decide +kernel
theorem dX3_rowGoesOn_32 : decode cX3_rowGoesOn 32 = .ok (.if_icmp .ge 7, 3) := by decide +kernel
theorem dX3_rowGoesOn_35 : decode cX3_rowGoesOn 35 = .ok (.iconst 1, 1) := by decide +kernel
theorem dX3_rowGoesOn_36 : decode cX3_rowGoesOn 36 = .ok (.goto 4, 3) := by decide +kernel
theorem dX3_rowGoesOn_39 : decode cX3_rowGoesOn 39 = .ok (.iconst 0, 1) := by decide +kernel
theorem dX3_rowGoesOn_40 : decode cX3_rowGoesOn 40 = .ok (.ireturn, 1) := by decide +kernel
theorem dX3_running_0 : decode cX3_running 0 = .ok (.aload_n 0, 1) := by decide +kernel
theorem dX3_running_1 : decode cX3_running 1 = .ok (.invokevirtual 96, 3) := by decide +kernel
theorem dX3_running_4 : decode cX3_running 4 = .ok (.ifCond .eq 10, 3) := by decide +kernel
theorem dX3_running_7 : decode cX3_running 7 = .ok (.aload_n 0, 1) := by decide +kernel
theorem dX3_running_8 : decode cX3_running 8 = .ok (.getfield 40, 3) := by decide +kernel
theorem dX3_running_11 : decode cX3_running 11 = .ok (.goto 4, 3) := by decide +kernel
theorem dX3_running_14 : decode cX3_running 14 = .ok (.iconst (-1), 1) := by decide +kernel
theorem dX3_running_15 : decode cX3_running 15 = .ok (.ireturn, 1) := by decide +kernel
theorem dX3_sharing_0 : decode cX3_sharing 0 = .ok (.aload_n 0, 1) := by decide +kernel
theorem dX3_sharing_1 : decode cX3_sharing 1 = .ok (.iload_n 1, 1) := by decide +kernel
theorem dX3_sharing_2 : decode cX3_sharing 2 = .ok (.invokevirtual 70, 3) := by decide +kernel
theorem dX3_sharing_5 : decode cX3_sharing 5 = .ok (.ifCond .eq 28, 3) := by decide +kernel
theorem dX3_sharing_8 : decode cX3_sharing 8 = .ok (.iload_n 2, 1) := by decide +kernel
theorem dX3_sharing_9 : decode cX3_sharing 9 = .ok (.ifCond .lt 24, 3) := by decide +kernel
theorem dX3_sharing_12 : decode cX3_sharing 12 = .ok (.iload_n 2, 1) := by decide +kernel
theorem dX3_sharing_13 : decode cX3_sharing 13 = .ok (.bipush 8, 2) := by decide +kernel
theorem dX3_sharing_15 : decode cX3_sharing 15 = .ok (.if_icmp .ge 18, 3) := by decide +kernel
theorem dX3_sharing_18 : decode cX3_sharing 18 = .ok (.aload_n 0, 1) := by decide +kernel
theorem dX3_sharing_19 : decode cX3_sharing 19 = .ok (.getfield 20, 3) := by decide +kernel
theorem dX3_sharing_22 : decode cX3_sharing 22 = .ok (.iload_n 1, 1) := by decide +kernel
theorem dX3_sharing_23 : decode cX3_sharing 23 = .ok (.aaload, 1) := by decide +kernel
theorem dX3_sharing_24 : decode cX3_sharing 24 = .ok (.getfield 112, 3) := by decide +kernel
theorem dX3_sharing_27 : decode cX3_sharing 27 = .ok (.iload_n 2, 1) := by decide +kernel
theorem dX3_sharing_28 : decode cX3_sharing 28 = .ok (.iaload, 1) := by decide +kernel
theorem dX3_sharing_29 : decode cX3_sharing 29 = .ok (.iconst (-1), 1) := by decide +kernel
theorem dX3_sharing_30 : decode cX3_sharing 30 = .ok (.if_icmp .ne 5, 3) := by decide +kernel
theorem dX3_sharing_33 : decode cX3_sharing 33 = .ok (.iconst 0, 1) := by decide +kernel
theorem dX3_sharing_34 : decode cX3_sharing 34 = .ok (.ireturn, 1) := by decide +kernel
theorem dX3_sharing_35 : decode cX3_sharing 35 = .ok (.aload_n 0, 1) := by decide +kernel
theorem dX3_sharing_36 : decode cX3_sharing 36 = .ok (.getfield 14, 3) := by decide +kernel
theorem dX3_sharing_39 : decode cX3_sharing 39 = .ok (.getfield 115, 3) := by decide +kernel
theorem dX3_sharing_42 : decode cX3_sharing 42 = .ok (.aload_n 0, 1) := by decide +kernel
theorem dX3_sharing_43 : decode cX3_sharing 43 = .ok (.getfield 20, 3) := by decide +kernel
theorem dX3_sharing_46 : decode cX3_sharing 46 = .ok (.iload_n 1, 1) := by decide +kernel
theorem dX3_sharing_47 : decode cX3_sharing 47 = .ok (.aaload, 1) := by decide +kernel
theorem dX3_sharing_48 : decode cX3_sharing 48 = .ok (.getfield 112, 3) := by decide +kernel
theorem dX3_sharing_51 : decode cX3_sharing 51 = .ok (.iload_n 2, 1) := by decide +kernel
theorem dX3_sharing_52 : decode cX3_sharing 52 = .ok (.iaload, 1) := by decide +kernel
theorem dX3_sharing_53 : decode cX3_sharing 53 = .ok (.iaload, 1) := by decide +kernel
theorem dX3_sharing_54 : decode cX3_sharing 54 = .ok (.ireturn, 1) := by decide +kernel
theorem dX3_stage_0 : decode cX3_stage 0 = .ok (.iload_n 1, 1) := by decide +kernel
theorem dX3_stage_1 : decode cX3_stage 1 = .ok (.ifCond .lt 9, 3) := by decide +kernel
theorem dX3_stage_4 : decode cX3_stage 4 = .ok (.iload_n 1, 1) := by decide +kernel
theorem dX3_stage_5 : decode cX3_stage 5 = .ok (.bipush 64, 2) := by decide +kernel
theorem dX3_stage_7 : decode cX3_stage 7 = .ok (.if_icmp .lt 5, 3) := by decide +kernel
theorem dX3_stage_10 : decode cX3_stage 10 = .ok (.iconst 0, 1) := by decide +kernel
theorem dX3_stage_11 : decode cX3_stage 11 = .ok (.ireturn, 1) := by decide +kernel
theorem dX3_stage_12 : decode cX3_stage 12 = .ok (.aload_n 0, 1) := by decide +kernel
theorem dX3_stage_13 : decode cX3_stage 13 = .ok (.getfield 32, 3) := by decide +kernel
theorem dX3_stage_16 : decode cX3_stage 16 = .ok (.iload_n 1, 1) := by decide +kernel
theorem dX3_stage_17 : decode cX3_stage 17 = .ok (.iload_n 2, 1) := by decide +kernel
theorem dX3_stage_18 : decode cX3_stage 18 = .ok (.iastore, 1) := by decide +kernel
theorem dX3_stage_19 : decode cX3_stage 19 = .ok (.iconst 1, 1) := by decide +kernel
theorem dX3_stage_20 : decode cX3_stage 20 = .ok (.ireturn, 1) := by decide +kernel
theorem dX3_state_0 : decode cX3_state 0 = .ok (.iload_n 1, 1) := by decide +kernel
theorem dX3_state_1 : decode cX3_state 1 = .ok (.invokestatic 87, 3) := by decide +kernel
theorem dX3_state_4 : decode cX3_state 4 = .ok (.ifCond .eq 15, 3) := by decide +kernel
theorem dX3_state_7 : decode cX3_state 7 = .ok (.aload_n 0, 1) := by decide +kernel
theorem dX3_state_8 : decode cX3_state 8 = .ok (.getfield 20, 3) := by decide +kernel
theorem dX3_state_11 : decode cX3_state 11 = .ok (.iload_n 1, 1) := by decide +kernel
theorem dX3_state_12 : decode cX3_state 12 = .ok (.aaload, 1) := by decide +kernel
theorem dX3_state_13 : decode cX3_state 13 = .ok (.getfield 90, 3) := by decide +kernel
theorem dX3_state_16 : decode cX3_state 16 = .ok (.goto 4, 3) := by decide +kernel
theorem dX3_state_19 : decode cX3_state 19 = .ok (.iconst (-1), 1) := by decide +kernel
theorem dX3_state_20 : decode cX3_state 20 = .ok (.ireturn, 1) := by decide +kernel
theorem dX3_step_0 : decode cX3_step 0 = .ok (.aload_n 0, 1) := by decide +kernel
theorem dX3_step_1 : decode cX3_step 1 = .ok (.invokevirtual 67, 3) := by decide +kernel
theorem dX3_step_4 : decode cX3_step 4 = .ok (.ireturn, 1) := by decide +kernel
end
section
/-! decode rows (written by program) -/
theorem dX3_steps_0 : decode cX3_steps 0 = .ok (.iload_n 1, 1) := by decide +kernel
theorem dX3_steps_1 : decode cX3_steps 1 = .ok (.ifCond .lt 9, 3) := by decide +kernel
theorem dX3_steps_4 : decode cX3_steps 4 = .ok (.iload_n 1, 1) := by decide +kernel
theorem dX3_steps_5 : decode cX3_steps 5 = .ok (.bipush 50, 2) := by decide +kernel
theorem dX3_steps_7 : decode cX3_steps 7 = .ok (.if_icmp .le 5, 3) := by decide +kernel
theorem dX3_steps_10 : decode cX3_steps 10 = .ok (.iconst (-1), 1) := by decide +kernel
theorem dX3_steps_11 : decode cX3_steps 11 = .ok (.ireturn, 1) := by decide +kernel
theorem dX3_steps_12 : decode cX3_steps 12 = .ok (.iconst 0, 1) := by decide +kernel
theorem dX3_steps_13 : decode cX3_steps 13 = .ok (.istore_n 2, 1) := by decide +kernel
theorem dX3_steps_14 : decode cX3_steps 14 = .ok (.iload_n 2, 1) := by decide +kernel
theorem dX3_steps_15 : decode cX3_steps 15 = .ok (.iload_n 1, 1) := by decide +kernel
theorem dX3_steps_16 : decode cX3_steps 16 = .ok (.if_icmp .ge 18, 3) := by decide +kernel
theorem dX3_steps_19 : decode cX3_steps 19 = .ok (.aload_n 0, 1) := by decide +kernel
theorem dX3_steps_20 : decode cX3_steps 20 = .ok (.invokevirtual 67, 3) := by decide +kernel
theorem dX3_steps_23 : decode cX3_steps 23 = .ok (.ifCond .ne 5, 3) := by decide +kernel
theorem dX3_steps_26 : decode cX3_steps 26 = .ok (.iload_n 2, 1) := by decide +kernel
theorem dX3_steps_27 : decode cX3_steps 27 = .ok (.ireturn, 1) := by decide +kernel
theorem dX3_steps_28 : decode cX3_steps 28 = .ok (.iinc 2 1, 3) := by decide +kernel
theorem dX3_steps_31 : decode cX3_steps 31 = .ok (.goto (-17), 3) := by decide +kernel
theorem dX3_steps_34 : decode cX3_steps 34 = .ok (.iload_n 1, 1) := by decide +kernel
theorem dX3_steps_35 : decode cX3_steps 35 = .ok (.ireturn, 1) := by decide +kernel
theorem dX3_takeStep_0 : decode cX3_takeStep 0 = .ok (.aload_n 0, 1) := by decide +kernel
theorem dX3_takeStep_1 : decode cX3_takeStep 1 = .ok (.invokevirtual 96, 3) := by decide +kernel
theorem dX3_takeStep_4 : decode cX3_takeStep 4 = .ok (.ifCond .ne 16, 3) := by decide +kernel
theorem dX3_takeStep_7 : decode cX3_takeStep 7 = .ok (.aload_n 0, 1) := by decide +kernel
theorem dX3_takeStep_8 : decode cX3_takeStep 8 = .ok (.aload_n 0, 1) := by decide +kernel
theorem dX3_takeStep_9 : decode cX3_takeStep 9 = .ok (.invokevirtual 128, 3) := by decide +kernel
theorem dX3_takeStep_12 : decode cX3_takeStep 12 = .ok (.putfield 40, 3) := by decide +kernel
theorem dX3_takeStep_15 : decode cX3_takeStep 15 = .ok (.aload_n 0, 1) := by decide +kernel
theorem dX3_takeStep_16 : decode cX3_takeStep 16 = .ok (.iconst 0, 1) := by decide +kernel
theorem dX3_takeStep_17 : decode cX3_takeStep 17 = .ok (.putfield 43, 3) := by decide +kernel
theorem dX3_takeStep_20 : decode cX3_takeStep 20 = .ok (.aload_n 0, 1) := by decide +kernel
theorem dX3_takeStep_21 : decode cX3_takeStep 21 = .ok (.getfield 40, 3) := by decide +kernel
theorem dX3_takeStep_24 : decode cX3_takeStep 24 = .ok (.iconst (-1), 1) := by decide +kernel
theorem dX3_takeStep_25 : decode cX3_takeStep 25 = .ok (.if_icmp .ne 5, 3) := by decide +kernel
theorem dX3_takeStep_28 : decode cX3_takeStep 28 = .ok (.iconst 0, 1) := by decide +kernel
theorem dX3_takeStep_29 : decode cX3_takeStep 29 = .ok (.ireturn, 1) := by decide +kernel
theorem dX3_takeStep_30 : decode cX3_takeStep 30 = .ok (.aload_n 0, 1) := by decide +kernel
theorem dX3_takeStep_31 : decode cX3_takeStep 31 = .ok (.dup, 1) := by decide +kernel
theorem dX3_takeStep_32 : decode cX3_takeStep 32 = .ok (.getfield 43, 3) := by decide +kernel
theorem dX3_takeStep_35 : decode cX3_takeStep 35 = .ok (.iconst 1, 1) := by decide +kernel
theorem dX3_takeStep_36 : decode cX3_takeStep 36 = .ok (.iadd, 1) := by decide +kernel
theorem dX3_takeStep_37 : decode cX3_takeStep 37 = .ok (.putfield 43, 3) := by decide +kernel
theorem dX3_takeStep_40 : decode cX3_takeStep 40 = .ok (.aload_n 0, 1) := by decide +kernel
theorem dX3_takeStep_41 : decode cX3_takeStep 41 = .ok (.aload_n 0, 1) := by decide +kernel
theorem dX3_takeStep_42 : decode cX3_takeStep 42 = .ok (.getfield 40, 3) := by decide +kernel
theorem dX3_takeStep_45 : decode cX3_takeStep 45 = .ok (.invokevirtual 131, 3) := by decide +kernel
theorem dX3_takeStep_48 : decode cX3_takeStep 48 = .ok (.ireturn, 1) := by decide +kernel
theorem dX3_touchToRead_0 : decode cX3_touchToRead 0 = .ok (.aload_n 1, 1) := by decide +kernel
theorem dX3_touchToRead_1 : decode cX3_touchToRead 1 = .ok (.iload_n 2, 1) := by decide +kernel
theorem dX3_touchToRead_2 : decode cX3_touchToRead 2 = .ok (.invokevirtual 106, 3) := by decide +kernel
theorem dX3_touchToRead_5 : decode cX3_touchToRead 5 = .ok (.ifCond .ne 6, 3) := by decide +kernel
theorem dX3_touchToRead_8 : decode cX3_touchToRead 8 = .ok (.bipush (-11), 2) := by decide +kernel
theorem dX3_touchToRead_10 : decode cX3_touchToRead 10 = .ok (.ireturn, 1) := by decide +kernel
theorem dX3_touchToRead_11 : decode cX3_touchToRead 11 = .ok (.iload_n 2, 1) := by decide +kernel
theorem dX3_touchToRead_12 : decode cX3_touchToRead 12 = .ok (.bipush 8, 2) := by decide +kernel
theorem dX3_touchToRead_14 : decode cX3_touchToRead 14 = .ok (.idiv, 1) := by decide +kernel
theorem dX3_touchToRead_15 : decode cX3_touchToRead 15 = .ok (.istore_n 3, 1) := by decide +kernel
theorem dX3_touchToRead_16 : decode cX3_touchToRead 16 = .ok (.aload_n 1, 1) := by decide +kernel
theorem dX3_touchToRead_17 : decode cX3_touchToRead 17 = .ok (.getfield 112, 3) := by decide +kernel
theorem dX3_touchToRead_20 : decode cX3_touchToRead 20 = .ok (.iload_n 3, 1) := by decide +kernel
theorem dX3_touchToRead_21 : decode cX3_touchToRead 21 = .ok (.iaload, 1) := by decide +kernel
theorem dX3_touchToRead_22 : decode cX3_touchToRead 22 = .ok (.iconst (-1), 1) := by decide +kernel
theorem dX3_touchToRead_23 : decode cX3_touchToRead 23 = .ok (.if_icmp .ne 16, 3) := by decide +kernel
theorem dX3_touchToRead_26 : decode cX3_touchToRead 26 = .ok (.aload_n 1, 1) := by decide +kernel
theorem dX3_touchToRead_27 : decode cX3_touchToRead 27 = .ok (.getfield 112, 3) := by decide +kernel
theorem dX3_touchToRead_30 : decode cX3_touchToRead 30 = .ok (.iload_n 3, 1) := by decide +kernel
theorem dX3_touchToRead_31 : decode cX3_touchToRead 31 = .ok (.aload_n 0, 1) := by decide +kernel
theorem dX3_touchToRead_32 : decode cX3_touchToRead 32 = .ok (.getfield 14, 3) := by decide +kernel
theorem dX3_touchToRead_35 : decode cX3_touchToRead 35 = .ok (.invokevirtual 184, 3) := by decide +kernel
theorem dX3_touchToRead_38 : decode cX3_touchToRead 38 = .ok (.iastore, 1) := by decide +kernel
theorem dX3_touchToRead_39 : decode cX3_touchToRead 39 = .ok (.aload_n 1, 1) := by decide +kernel
theorem dX3_touchToRead_40 : decode cX3_touchToRead 40 = .ok (.getfield 112, 3) := by decide +kernel
theorem dX3_touchToRead_43 : decode cX3_touchToRead 43 = .ok (.iload_n 3, 1) := by decide +kernel
theorem dX3_touchToRead_44 : decode cX3_touchToRead 44 = .ok (.iaload, 1) := by decide +kernel
theorem dX3_touchToRead_45 : decode cX3_touchToRead 45 = .ok (.iconst (-1), 1) := by decide +kernel
theorem dX3_touchToRead_46 : decode cX3_touchToRead 46 = .ok (.if_icmp .ne 8, 3) := by decide +kernel
theorem dX3_touchToRead_49 : decode cX3_touchToRead 49 = .ok (.bipush (-13), 2) := by decide +kernel
theorem dX3_touchToRead_51 : decode cX3_touchToRead 51 = .ok (.goto 4, 3) := by decide +kernel
theorem dX3_touchToRead_54 : decode cX3_touchToRead 54 = .ok (.iconst 0, 1) := by decide +kernel
theorem dX3_touchToRead_55 : decode cX3_touchToRead 55 = .ok (.ireturn, 1) := by decide +kernel
theorem dX3_waitForChild_0 : decode cX3_waitForChild 0 = .ok (.aload_n 0, 1) := by decide +kernel
theorem dX3_waitForChild_1 : decode cX3_waitForChild 1 = .ok (.getfield 20, 3) := by decide +kernel
theorem dX3_waitForChild_4 : decode cX3_waitForChild 4 = .ok (.iload_n 1, 1) := by decide +kernel
theorem dX3_waitForChild_5 : decode cX3_waitForChild 5 = .ok (.aaload, 1) := by decide +kernel
theorem dX3_waitForChild_6 : decode cX3_waitForChild 6 = .ok (.astore_n 3, 1) := by decide +kernel
theorem dX3_waitForChild_7 : decode cX3_waitForChild 7 = .ok (.aload_n 0, 1) := by decide +kernel
theorem dX3_waitForChild_8 : decode cX3_waitForChild 8 = .ok (.iload_n 1, 1) := by decide +kernel
theorem dX3_waitForChild_9 : decode cX3_waitForChild 9 = .ok (.invokevirtual 178, 3) := by decide +kernel
theorem dX3_waitForChild_12 : decode cX3_waitForChild 12 = .ok (.istore 4, 2) := by decide +kernel
theorem dX3_waitForChild_14 : decode cX3_waitForChild 14 = .ok (.iload 4, 2) := by decide +kernel
theorem dX3_waitForChild_16 : decode cX3_waitForChild 16 = .ok (.iconst (-1), 1) := by decide +kernel
theorem dX3_waitForChild_17 : decode cX3_waitForChild 17 = .ok (.if_icmp .eq 21, 3) := by decide +kernel
theorem dX3_waitForChild_20 : decode cX3_waitForChild 20 = .ok (.aload_n 3, 1) := by decide +kernel
theorem dX3_waitForChild_21 : decode cX3_waitForChild 21 = .ok (.getfield 103, 3) := by decide +kernel
theorem dX3_waitForChild_24 : decode cX3_waitForChild 24 = .ok (.iload_n 2, 1) := by decide +kernel
theorem dX3_waitForChild_25 : decode cX3_waitForChild 25 = .ok (.aload_n 0, 1) := by decide +kernel
theorem dX3_waitForChild_26 : decode cX3_waitForChild 26 = .ok (.getfield 20, 3) := by decide +kernel
theorem dX3_waitForChild_29 : decode cX3_waitForChild 29 = .ok (.iload 4, 2) := by decide +kernel
theorem dX3_waitForChild_31 : decode cX3_waitForChild 31 = .ok (.aaload, 1) := by decide +kernel
theorem dX3_waitForChild_32 : decode cX3_waitForChild 32 = .ok (.invokevirtual 84, 3) := by decide +kernel
theorem dX3_waitForChild_35 : decode cX3_waitForChild 35 = .ok (.iastore, 1) := by decide +kernel
theorem dX3_waitForChild_36 : decode cX3_waitForChild 36 = .ok (.iconst 1, 1) := by decide +kernel
theorem dX3_waitForChild_37 : decode cX3_waitForChild 37 = .ok (.ireturn, 1) := by decide +kernel
theorem dX3_waitForChild_38 : decode cX3_waitForChild 38 = .ok (.aload_n 0, 1) := by decide +kernel
theorem dX3_waitForChild_39 : decode cX3_waitForChild 39 = .ok (.iload_n 1, 1) := by decide +kernel
theorem dX3_waitForChild_40 : decode cX3_waitForChild 40 = .ok (.invokevirtual 181, 3) := by decide +kernel
theorem dX3_waitForChild_43 : decode cX3_waitForChild 43 = .ok (.ifCond .ne 12, 3) := by decide +kernel
theorem dX3_waitForChild_46 : decode cX3_waitForChild 46 = .ok (.aload_n 3, 1) := by decide +kernel
theorem dX3_waitForChild_47 : decode cX3_waitForChild 47 = .ok (.getfield 103, 3) := by decide +kernel
theorem dX3_waitForChild_50 : decode cX3_waitForChild 50 = .ok (.iload_n 2, 1) := by decide +kernel
theorem dX3_waitForChild_51 : decode cX3_waitForChild 51 = .ok (.iconst (-1), 1) := by decide +kernel
theorem dX3_waitForChild_52 : decode cX3_waitForChild 52 = .ok (.iastore, 1) := by decide +kernel
theorem dX3_waitForChild_53 : decode cX3_waitForChild 53 = .ok (.iconst 1, 1) := by decide +kernel
theorem dX3_waitForChild_54 : decode cX3_waitForChild 54 = .ok (.ireturn, 1) := by decide +kernel
theorem dX3_waitForChild_55 : decode cX3_waitForChild 55 = .ok (.aload_n 3, 1) := by decide +kernel
theorem dX3_waitForChild_56 : decode cX3_waitForChild 56 = .ok (.iconst 2, 1) := by decide +kernel
theorem dX3_waitForChild_57 : decode cX3_waitForChild 57 = .ok (.putfield 90, 3) := by decide +kernel
theorem dX3_waitForChild_60 : decode cX3_waitForChild 60 = .ok (.aload_n 3, 1) := by decide +kernel
theorem dX3_waitForChild_61 : decode cX3_waitForChild 61 = .ok (.dup, 1) := by decide +kernel
theorem dX3_waitForChild_62 : decode cX3_waitForChild 62 = .ok (.getfield 100, 3) := by decide +kernel
theorem dX3_waitForChild_65 : decode cX3_waitForChild 65 = .ok (.iconst 1, 1) := by decide +kernel
theorem dX3_waitForChild_66 : decode cX3_waitForChild 66 = .ok (.isub, 1) := by decide +kernel
theorem dX3_waitForChild_67 : decode cX3_waitForChild 67 = .ok (.putfield 100, 3) := by decide +kernel
theorem dX3_waitForChild_70 : decode cX3_waitForChild 70 = .ok (.iconst 4, 1) := by decide +kernel
theorem dX3_waitForChild_71 : decode cX3_waitForChild 71 = .ok (.ireturn, 1) := by decide +kernel
theorem dX3_wordAt_0 : decode cX3_wordAt 0 = .ok (.aload_n 1, 1) := by decide +kernel
theorem dX3_wordAt_1 : decode cX3_wordAt 1 = .ok (.getfield 112, 3) := by decide +kernel
theorem dX3_wordAt_4 : decode cX3_wordAt 4 = .ok (.iload_n 2, 1) := by decide +kernel
theorem dX3_wordAt_5 : decode cX3_wordAt 5 = .ok (.bipush 8, 2) := by decide +kernel
theorem dX3_wordAt_7 : decode cX3_wordAt 7 = .ok (.idiv, 1) := by decide +kernel
theorem dX3_wordAt_8 : decode cX3_wordAt 8 = .ok (.iaload, 1) := by decide +kernel
theorem dX3_wordAt_9 : decode cX3_wordAt 9 = .ok (.istore_n 3, 1) := by decide +kernel
theorem dX3_wordAt_10 : decode cX3_wordAt 10 = .ok (.iload_n 3, 1) := by decide +kernel
theorem dX3_wordAt_11 : decode cX3_wordAt 11 = .ok (.iconst (-1), 1) := by decide +kernel
theorem dX3_wordAt_12 : decode cX3_wordAt 12 = .ok (.if_icmp .ne 7, 3) := by decide +kernel
theorem dX3_wordAt_15 : decode cX3_wordAt 15 = .ok (.iconst 0, 1) := by decide +kernel
theorem dX3_wordAt_16 : decode cX3_wordAt 16 = .ok (.goto 20, 3) := by decide +kernel
theorem dX3_wordAt_19 : decode cX3_wordAt 19 = .ok (.aload_n 0, 1) := by decide +kernel
theorem dX3_wordAt_20 : decode cX3_wordAt 20 = .ok (.getfield 14, 3) := by decide +kernel
theorem dX3_wordAt_23 : decode cX3_wordAt 23 = .ok (.getfield 194, 3) := by decide +kernel
theorem dX3_wordAt_26 : decode cX3_wordAt 26 = .ok (.iload_n 3, 1) := by decide +kernel
theorem dX3_wordAt_27 : decode cX3_wordAt 27 = .ok (.bipush 8, 2) := by decide +kernel
theorem dX3_wordAt_29 : decode cX3_wordAt 29 = .ok (.imul, 1) := by decide +kernel
theorem dX3_wordAt_30 : decode cX3_wordAt 30 = .ok (.iload_n 2, 1) := by decide +kernel
theorem dX3_wordAt_31 : decode cX3_wordAt 31 = .ok (.bipush 8, 2) := by decide +kernel
theorem dX3_wordAt_33 : decode cX3_wordAt 33 = .ok (.irem, 1) := by decide +kernel
theorem dX3_wordAt_34 : decode cX3_wordAt 34 = .ok (.iadd, 1) := by decide +kernel
theorem dX3_wordAt_35 : decode cX3_wordAt 35 = .ok (.iaload, 1) := by decide +kernel
theorem dX3_wordAt_36 : decode cX3_wordAt 36 = .ok (.ireturn, 1) := by decide +kernel
theorem dX3_writeFrom_0 : decode cX3_writeFrom 0 = .ok (.aload_n 0, 1) := by decide +kernel
theorem dX3_writeFrom_1 : decode cX3_writeFrom 1 = .ok (.getfield 20, 3) := by decide +kernel
theorem dX3_writeFrom_4 : decode cX3_writeFrom 4 = .ok (.iload_n 1, 1) := by decide +kernel
theorem dX3_writeFrom_5 : decode cX3_writeFrom 5 = .ok (.aaload, 1) := by decide +kernel
theorem dX3_writeFrom_6 : decode cX3_writeFrom 6 = .ok (.astore 4, 2) := by decide +kernel
theorem dX3_writeFrom_8 : decode cX3_writeFrom 8 = .ok (.aload 4, 2) := by decide +kernel
theorem dX3_writeFrom_10 : decode cX3_writeFrom 10 = .ok (.iload_n 3, 1) := by decide +kernel
theorem dX3_writeFrom_11 : decode cX3_writeFrom 11 = .ok (.invokevirtual 106, 3) := by decide +kernel
theorem dX3_writeFrom_14 : decode cX3_writeFrom 14 = .ok (.ifCond .eq 16, 3) := by decide +kernel
theorem dX3_writeFrom_17 : decode cX3_writeFrom 17 = .ok (.aload_n 0, 1) := by decide +kernel
theorem dX3_writeFrom_18 : decode cX3_writeFrom 18 = .ok (.aload 4, 2) := by decide +kernel
theorem dX3_writeFrom_20 : decode cX3_writeFrom 20 = .ok (.iload_n 3, 1) := by decide +kernel
theorem dX3_writeFrom_21 : decode cX3_writeFrom 21 = .ok (.bipush 8, 2) := by decide +kernel
theorem dX3_writeFrom_23 : decode cX3_writeFrom 23 = .ok (.idiv, 1) := by decide +kernel
theorem dX3_writeFrom_24 : decode cX3_writeFrom 24 = .ok (.invokevirtual 59, 3) := by decide +kernel
theorem dX3_writeFrom_27 : decode cX3_writeFrom 27 = .ok (.goto 5, 3) := by decide +kernel
theorem dX3_writeFrom_30 : decode cX3_writeFrom 30 = .ok (.bipush (-11), 2) := by decide +kernel
theorem dX3_writeFrom_32 : decode cX3_writeFrom 32 = .ok (.istore 5, 2) := by decide +kernel
theorem dX3_writeFrom_34 : decode cX3_writeFrom 34 = .ok (.iload 5, 2) := by decide +kernel
theorem dX3_writeFrom_36 : decode cX3_writeFrom 36 = .ok (.ifCond .eq 11, 3) := by decide +kernel
theorem dX3_writeFrom_39 : decode cX3_writeFrom 39 = .ok (.aload_n 0, 1) := by decide +kernel
theorem dX3_writeFrom_40 : decode cX3_writeFrom 40 = .ok (.iload_n 1, 1) := by decide +kernel
theorem dX3_writeFrom_41 : decode cX3_writeFrom 41 = .ok (.iload 5, 2) := by decide +kernel
theorem dX3_writeFrom_43 : decode cX3_writeFrom 43 = .ok (.invokevirtual 74, 3) := by decide +kernel
theorem dX3_writeFrom_46 : decode cX3_writeFrom 46 = .ok (.ireturn, 1) := by decide +kernel
theorem dX3_writeFrom_47 : decode cX3_writeFrom 47 = .ok (.aload_n 0, 1) := by decide +kernel
theorem dX3_writeFrom_48 : decode cX3_writeFrom 48 = .ok (.aload 4, 2) := by decide +kernel
theorem dX3_writeFrom_50 : decode cX3_writeFrom 50 = .ok (.iload_n 3, 1) := by decide +kernel
theorem dX3_writeFrom_51 : decode cX3_writeFrom 51 = .ok (.aload 4, 2) := by decide +kernel
theorem dX3_writeFrom_53 : decode cX3_writeFrom 53 = .ok (.getfield 103, 3) := by decide +kernel
theorem dX3_writeFrom_56 : decode cX3_writeFrom 56 = .ok (.iload_n 2, 1) := by decide +kernel
theorem dX3_writeFrom_57 : decode cX3_writeFrom 57 = .ok (.iaload, 1) := by decide +kernel
theorem dX3_writeFrom_58 : decode cX3_writeFrom 58 = .ok (.invokevirtual 63, 3) := by decide +kernel
theorem dX3_writeFrom_61 : decode cX3_writeFrom 61 = .ok (.iconst 1, 1) := by decide +kernel
theorem dX3_writeFrom_62 : decode cX3_writeFrom 62 = .ok (.ireturn, 1) := by decide +kernel
theorem dX4_alone_0 : decode cX4_alone 0 = .ok (.aload_n 0, 1) := by decide +kernel
theorem dX4_alone_1 : decode cX4_alone 1 = .ok (.invokevirtual 50, 3) := by decide +kernel
theorem dX4_alone_4 : decode cX4_alone 4 = .ok (.aload_n 0, 1) := by decide +kernel
theorem dX4_alone_5 : decode cX4_alone 5 = .ok (.getfield 44, 3) := by decide +kernel
theorem dX4_alone_8 : decode cX4_alone 8 = .ok (.if_icmp .ne 11, 3) := by decide +kernel
theorem dX4_alone_11 : decode cX4_alone 11 = .ok (.aload_n 0, 1) := by decide +kernel
theorem dX4_alone_12 : decode cX4_alone 12 = .ok (.bipush (-13), 2) := by decide +kernel
theorem dX4_alone_14 : decode cX4_alone 14 = .ok (.putfield 54, 3) := by decide +kernel
theorem dX4_alone_17 : decode cX4_alone 17 = .ok (.iconst 0, 1) := by decide +kernel
theorem dX4_alone_18 : decode cX4_alone 18 = .ok (.ireturn, 1) := by decide +kernel
theorem dX4_alone_19 : decode cX4_alone 19 = .ok (.aload_n 0, 1) := by decide +kernel
theorem dX4_alone_20 : decode cX4_alone 20 = .ok (.dup, 1) := by decide +kernel
theorem dX4_alone_21 : decode cX4_alone 21 = .ok (.getfield 57, 3) := by decide +kernel
theorem dX4_alone_24 : decode cX4_alone 24 = .ok (.iconst 1, 1) := by decide +kernel
theorem dX4_alone_25 : decode cX4_alone 25 = .ok (.iadd, 1) := by decide +kernel
theorem dX4_alone_26 : decode cX4_alone 26 = .ok (.putfield 57, 3) := by decide +kernel
theorem dX4_alone_29 : decode cX4_alone 29 = .ok (.aload_n 0, 1) := by decide +kernel
theorem dX4_alone_30 : decode cX4_alone 30 = .ok (.getfield 34, 3) := by decide +kernel
theorem dX4_alone_33 : decode cX4_alone 33 = .ok (.iload_n 1, 1) := by decide +kernel
theorem dX4_alone_34 : decode cX4_alone 34 = .ok (.aload_n 0, 1) := by decide +kernel
theorem dX4_alone_35 : decode cX4_alone 35 = .ok (.getfield 57, 3) := by decide +kernel
theorem dX4_alone_38 : decode cX4_alone 38 = .ok (.iastore, 1) := by decide +kernel
theorem dX4_alone_39 : decode cX4_alone 39 = .ok (.iconst 1, 1) := by decide +kernel
theorem dX4_alone_40 : decode cX4_alone 40 = .ok (.ireturn, 1) := by decide +kernel
theorem dX4_await_0 : decode cX4_await 0 = .ok (.iconst 0, 1) := by decide +kernel
theorem dX4_await_1 : decode cX4_await 1 = .ok (.istore_n 3, 1) := by decide +kernel
theorem dX4_await_2 : decode cX4_await 2 = .ok (.iconst (-1), 1) := by decide +kernel
theorem dX4_await_3 : decode cX4_await 3 = .ok (.istore 4, 2) := by decide +kernel
theorem dX4_await_5 : decode cX4_await 5 = .ok (.bipush 7, 2) := by decide +kernel
theorem dX4_await_7 : decode cX4_await 7 = .ok (.istore 5, 2) := by decide +kernel
theorem dX4_await_9 : decode cX4_await 9 = .ok (.iload 5, 2) := by decide +kernel
theorem dX4_await_11 : decode cX4_await 11 = .ok (.ifCond .lt 77, 3) := by decide +kernel
theorem dX4_await_14 : decode cX4_await 14 = .ok (.aload_n 0, 1) := by decide +kernel
theorem dX4_await_15 : decode cX4_await 15 = .ok (.getfield 13, 3) := by decide +kernel
theorem dX4_await_18 : decode cX4_await 18 = .ok (.iload 5, 2) := by decide +kernel
theorem dX4_await_20 : decode cX4_await 20 = .ok (.iaload, 1) := by decide +kernel
theorem dX4_await_21 : decode cX4_await 21 = .ok (.ifCond .eq 18, 3) := by decide +kernel
theorem dX4_await_24 : decode cX4_await 24 = .ok (.aload_n 0, 1) := by decide +kernel
theorem dX4_await_25 : decode cX4_await 25 = .ok (.getfield 16, 3) := by decide +kernel
theorem dX4_await_28 : decode cX4_await 28 = .ok (.iload 5, 2) := by decide +kernel
theorem dX4_await_30 : decode cX4_await 30 = .ok (.iaload, 1) := by decide +kernel
theorem dX4_await_31 : decode cX4_await 31 = .ok (.iload_n 1, 1) := by decide +kernel
theorem dX4_await_32 : decode cX4_await 32 = .ok (.if_icmp .ne 7, 3) := by decide +kernel
theorem dX4_await_35 : decode cX4_await 35 = .ok (.iconst 1, 1) := by decide +kernel
theorem dX4_await_36 : decode cX4_await 36 = .ok (.goto 4, 3) := by decide +kernel
theorem dX4_await_39 : decode cX4_await 39 = .ok (.iconst 0, 1) := by decide +kernel
theorem dX4_await_40 : decode cX4_await 40 = .ok (.istore 6, 2) := by decide +kernel
theorem dX4_await_42 : decode cX4_await 42 = .ok (.iload_n 3, 1) := by decide +kernel
theorem dX4_await_43 : decode cX4_await 43 = .ok (.ifCond .ne 8, 3) := by decide +kernel
theorem dX4_await_46 : decode cX4_await 46 = .ok (.iload 6, 2) := by decide +kernel
theorem dX4_await_48 : decode cX4_await 48 = .ok (.ifCond .eq 7, 3) := by decide +kernel
theorem dX4_await_51 : decode cX4_await 51 = .ok (.iconst 1, 1) := by decide +kernel
theorem dX4_await_52 : decode cX4_await 52 = .ok (.goto 4, 3) := by decide +kernel
theorem dX4_await_55 : decode cX4_await 55 = .ok (.iconst 0, 1) := by decide +kernel
theorem dX4_await_56 : decode cX4_await 56 = .ok (.istore_n 3, 1) := by decide +kernel
theorem dX4_await_57 : decode cX4_await 57 = .ok (.iload 6, 2) := by decide +kernel
theorem dX4_await_59 : decode cX4_await 59 = .ok (.ifCond .eq 19, 3) := by decide +kernel
theorem dX4_await_62 : decode cX4_await 62 = .ok (.aload_n 0, 1) := by decide +kernel
theorem dX4_await_63 : decode cX4_await 63 = .ok (.getfield 13, 3) := by decide +kernel
theorem dX4_await_66 : decode cX4_await 66 = .ok (.iload 5, 2) := by decide +kernel
theorem dX4_await_68 : decode cX4_await 68 = .ok (.iaload, 1) := by decide +kernel
theorem dX4_await_69 : decode cX4_await 69 = .ok (.iconst 3, 1) := by decide +kernel
theorem dX4_await_70 : decode cX4_await 70 = .ok (.if_icmp .ne 8, 3) := by decide +kernel
theorem dX4_await_73 : decode cX4_await 73 = .ok (.iload 5, 2) := by decide +kernel
theorem dX4_await_75 : decode cX4_await 75 = .ok (.goto 5, 3) := by decide +kernel
theorem dX4_await_78 : decode cX4_await 78 = .ok (.iload 4, 2) := by decide +kernel
theorem dX4_await_80 : decode cX4_await 80 = .ok (.istore 4, 2) := by decide +kernel
theorem dX4_await_82 : decode cX4_await 82 = .ok (.iinc 5 (-1), 3) := by decide +kernel
theorem dX4_await_85 : decode cX4_await 85 = .ok (.goto (-76), 3) := by decide +kernel
theorem dX4_await_88 : decode cX4_await 88 = .ok (.iload 4, 2) := by decide +kernel
theorem dX4_await_90 : decode cX4_await 90 = .ok (.iconst (-1), 1) := by decide +kernel
theorem dX4_await_91 : decode cX4_await 91 = .ok (.if_icmp .eq 29, 3) := by decide +kernel
theorem dX4_await_94 : decode cX4_await 94 = .ok (.aload_n 0, 1) := by decide +kernel
theorem dX4_await_95 : decode cX4_await 95 = .ok (.getfield 22, 3) := by decide +kernel
theorem dX4_await_98 : decode cX4_await 98 = .ok (.bipush 8, 2) := by decide +kernel
theorem dX4_await_100 : decode cX4_await 100 = .ok (.iload_n 1, 1) := by decide +kernel
theorem dX4_await_101 : decode cX4_await 101 = .ok (.imul, 1) := by decide +kernel
theorem dX4_await_102 : decode cX4_await 102 = .ok (.iload_n 2, 1) := by decide +kernel
theorem dX4_await_103 : decode cX4_await 103 = .ok (.iadd, 1) := by decide +kernel
theorem dX4_await_104 : decode cX4_await 104 = .ok (.aload_n 0, 1) := by decide +kernel
theorem dX4_await_105 : decode cX4_await 105 = .ok (.getfield 19, 3) := by decide +kernel
theorem dX4_await_108 : decode cX4_await 108 = .ok (.iload 4, 2) := by decide +kernel
theorem dX4_await_110 : decode cX4_await 110 = .ok (.iaload, 1) := by decide +kernel
theorem dX4_await_111 : decode cX4_await 111 = .ok (.iastore, 1) := by decide +kernel
theorem dX4_await_112 : decode cX4_await 112 = .ok (.aload_n 0, 1) := by decide +kernel
theorem dX4_await_113 : decode cX4_await 113 = .ok (.iload 4, 2) := by decide +kernel
theorem dX4_await_115 : decode cX4_await 115 = .ok (.invokevirtual 85, 3) := by decide +kernel
theorem dX4_await_118 : decode cX4_await 118 = .ok (.iconst 1, 1) := by decide +kernel
theorem dX4_await_119 : decode cX4_await 119 = .ok (.ireturn, 1) := by decide +kernel
theorem dX4_await_120 : decode cX4_await 120 = .ok (.iload_n 3, 1) := by decide +kernel
theorem dX4_await_121 : decode cX4_await 121 = .ok (.ifCond .ne 17, 3) := by decide +kernel
theorem dX4_await_124 : decode cX4_await 124 = .ok (.aload_n 0, 1) := by decide +kernel
theorem dX4_await_125 : decode cX4_await 125 = .ok (.getfield 22, 3) := by decide +kernel
theorem dX4_await_128 : decode cX4_await 128 = .ok (.bipush 8, 2) := by decide +kernel
theorem dX4_await_130 : decode cX4_await 130 = .ok (.iload_n 1, 1) := by decide +kernel
theorem dX4_await_131 : decode cX4_await 131 = .ok (.imul, 1) := by decide +kernel
theorem dX4_await_132 : decode cX4_await 132 = .ok (.iload_n 2, 1) := by decide +kernel
theorem dX4_await_133 : decode cX4_await 133 = .ok (.iadd, 1) := by decide +kernel
theorem dX4_await_134 : decode cX4_await 134 = .ok (.iconst (-1), 1) := by decide +kernel
theorem dX4_await_135 : decode cX4_await 135 = .ok (.iastore, 1) := by decide +kernel
theorem dX4_await_136 : decode cX4_await 136 = .ok (.iconst 1, 1) := by decide +kernel
theorem dX4_await_137 : decode cX4_await 137 = .ok (.ireturn, 1) := by decide +kernel
theorem dX4_await_138 : decode cX4_await 138 = .ok (.aload_n 0, 1) := by decide +kernel
theorem dX4_await_139 : decode cX4_await 139 = .ok (.getfield 13, 3) := by decide +kernel
theorem dX4_await_142 : decode cX4_await 142 = .ok (.iload_n 1, 1) := by decide +kernel
theorem dX4_await_143 : decode cX4_await 143 = .ok (.iconst 2, 1) := by decide +kernel
theorem dX4_await_144 : decode cX4_await 144 = .ok (.iastore, 1) := by decide +kernel
theorem dX4_await_145 : decode cX4_await 145 = .ok (.aload_n 0, 1) := by decide +kernel
theorem dX4_await_146 : decode cX4_await 146 = .ok (.getfield 25, 3) := by decide +kernel
theorem dX4_await_149 : decode cX4_await 149 = .ok (.iload_n 1, 1) := by decide +kernel
theorem dX4_await_150 : decode cX4_await 150 = .ok (.dup2, 1) := by decide +kernel
theorem dX4_await_151 : decode cX4_await 151 = .ok (.iaload, 1) := by decide +kernel
theorem dX4_await_152 : decode cX4_await 152 = .ok (.iconst 1, 1) := by decide +kernel
theorem dX4_await_153 : decode cX4_await 153 = .ok (.isub, 1) := by decide +kernel
theorem dX4_await_154 : decode cX4_await 154 = .ok (.iastore, 1) := by decide +kernel
theorem dX4_await_155 : decode cX4_await 155 = .ok (.iconst 4, 1) := by decide +kernel
theorem dX4_await_156 : decode cX4_await 156 = .ok (.ireturn, 1) := by decide +kernel
theorem dX4_choose_0 : decode cX4_choose 0 = .ok (.aload_n 0, 1) := by decide +kernel
theorem dX4_choose_1 : decode cX4_choose 1 = .ok (.getfield 37, 3) := by decide +kernel
theorem dX4_choose_4 : decode cX4_choose 4 = .ok (.iconst (-1), 1) := by decide +kernel
theorem dX4_choose_5 : decode cX4_choose 5 = .ok (.if_icmp .eq 29, 3) := by decide +kernel
theorem dX4_choose_8 : decode cX4_choose 8 = .ok (.aload_n 0, 1) := by decide +kernel
theorem dX4_choose_9 : decode cX4_choose 9 = .ok (.getfield 13, 3) := by decide +kernel
theorem dX4_choose_12 : decode cX4_choose 12 = .ok (.aload_n 0, 1) := by decide +kernel
theorem dX4_choose_13 : decode cX4_choose 13 = .ok (.getfield 37, 3) := by decide +kernel
theorem dX4_choose_16 : decode cX4_choose 16 = .ok (.iaload, 1) := by decide +kernel
theorem dX4_choose_17 : decode cX4_choose 17 = .ok (.iconst 1, 1) := by decide +kernel
theorem dX4_choose_18 : decode cX4_choose 18 = .ok (.if_icmp .ne 16, 3) := by decide +kernel
theorem dX4_choose_21 : decode cX4_choose 21 = .ok (.aload_n 0, 1) := by decide +kernel
theorem dX4_choose_22 : decode cX4_choose 22 = .ok (.getfield 88, 3) := by decide +kernel
theorem dX4_choose_25 : decode cX4_choose 25 = .ok (.aload_n 0, 1) := by decide +kernel
theorem dX4_choose_26 : decode cX4_choose 26 = .ok (.getfield 47, 3) := by decide +kernel
theorem dX4_choose_29 : decode cX4_choose 29 = .ok (.if_icmp .ge 5, 3) := by decide +kernel
theorem dX4_choose_32 : decode cX4_choose 32 = .ok (.iconst 1, 1) := by decide +kernel
theorem dX4_choose_33 : decode cX4_choose 33 = .ok (.ireturn, 1) := by decide +kernel
theorem dX4_choose_34 : decode cX4_choose 34 = .ok (.aload_n 0, 1) := by decide +kernel
theorem dX4_choose_35 : decode cX4_choose 35 = .ok (.getfield 37, 3) := by decide +kernel
theorem dX4_choose_38 : decode cX4_choose 38 = .ok (.iconst (-1), 1) := by decide +kernel
theorem dX4_choose_39 : decode cX4_choose 39 = .ok (.if_icmp .ne 7, 3) := by decide +kernel
theorem dX4_choose_42 : decode cX4_choose 42 = .ok (.iconst 0, 1) := by decide +kernel
theorem dX4_choose_43 : decode cX4_choose 43 = .ok (.goto 9, 3) := by decide +kernel
theorem dX4_choose_46 : decode cX4_choose 46 = .ok (.aload_n 0, 1) := by decide +kernel
theorem dX4_choose_47 : decode cX4_choose 47 = .ok (.getfield 37, 3) := by decide +kernel
theorem dX4_choose_50 : decode cX4_choose 50 = .ok (.iconst 1, 1) := by decide +kernel
theorem dX4_choose_51 : decode cX4_choose 51 = .ok (.iadd, 1) := by decide +kernel
theorem dX4_choose_52 : decode cX4_choose 52 = .ok (.istore_n 1, 1) := by decide +kernel
theorem dX4_choose_53 : decode cX4_choose 53 = .ok (.iconst 0, 1) := by decide +kernel
theorem dX4_choose_54 : decode cX4_choose 54 = .ok (.istore_n 2, 1) := by decide +kernel
theorem dX4_choose_55 : decode cX4_choose 55 = .ok (.iload_n 2, 1) := by decide +kernel
theorem dX4_choose_56 : decode cX4_choose 56 = .ok (.bipush 8, 2) := by decide +kernel
theorem dX4_choose_58 : decode cX4_choose 58 = .ok (.if_icmp .ge 38, 3) := by decide +kernel
theorem dX4_choose_61 : decode cX4_choose 61 = .ok (.iload_n 1, 1) := by decide +kernel
theorem dX4_choose_62 : decode cX4_choose 62 = .ok (.iload_n 2, 1) := by decide +kernel
theorem dX4_choose_63 : decode cX4_choose 63 = .ok (.iadd, 1) := by decide +kernel
theorem dX4_choose_64 : decode cX4_choose 64 = .ok (.bipush 8, 2) := by decide +kernel
theorem dX4_choose_66 : decode cX4_choose 66 = .ok (.irem, 1) := by decide +kernel
theorem dX4_choose_67 : decode cX4_choose 67 = .ok (.istore_n 3, 1) := by decide +kernel
theorem dX4_choose_68 : decode cX4_choose 68 = .ok (.aload_n 0, 1) := by decide +kernel
theorem dX4_choose_69 : decode cX4_choose 69 = .ok (.getfield 13, 3) := by decide +kernel
theorem dX4_choose_72 : decode cX4_choose 72 = .ok (.iload_n 3, 1) := by decide +kernel
theorem dX4_choose_73 : decode cX4_choose 73 = .ok (.iaload, 1) := by decide +kernel
theorem dX4_choose_74 : decode cX4_choose 74 = .ok (.iconst 1, 1) := by decide +kernel
theorem dX4_choose_75 : decode cX4_choose 75 = .ok (.if_icmp .ne 15, 3) := by decide +kernel
theorem dX4_choose_78 : decode cX4_choose 78 = .ok (.aload_n 0, 1) := by decide +kernel
theorem dX4_choose_79 : decode cX4_choose 79 = .ok (.iload_n 3, 1) := by decide +kernel
theorem dX4_choose_80 : decode cX4_choose 80 = .ok (.putfield 37, 3) := by decide +kernel
theorem dX4_choose_83 : decode cX4_choose 83 = .ok (.aload_n 0, 1) := by decide +kernel
theorem dX4_choose_84 : decode cX4_choose 84 = .ok (.iconst 0, 1) := by decide +kernel
theorem dX4_choose_85 : decode cX4_choose 85 = .ok (.putfield 88, 3) := by decide +kernel
theorem dX4_choose_88 : decode cX4_choose 88 = .ok (.iconst 1, 1) := by decide +kernel
theorem dX4_choose_89 : decode cX4_choose 89 = .ok (.ireturn, 1) := by decide +kernel
theorem dX4_choose_90 : decode cX4_choose 90 = .ok (.iinc 2 1, 3) := by decide +kernel
theorem dX4_choose_93 : decode cX4_choose 93 = .ok (.goto (-38), 3) := by decide +kernel
theorem dX4_choose_96 : decode cX4_choose 96 = .ok (.aload_n 0, 1) := by decide +kernel
theorem dX4_choose_97 : decode cX4_choose 97 = .ok (.iconst (-1), 1) := by decide +kernel
theorem dX4_choose_98 : decode cX4_choose 98 = .ok (.putfield 37, 3) := by decide +kernel
theorem dX4_choose_101 : decode cX4_choose 101 = .ok (.iconst 0, 1) := by decide +kernel
theorem dX4_choose_102 : decode cX4_choose 102 = .ok (.ireturn, 1) := by decide +kernel
theorem dX4_code_0 : decode cX4_code 0 = .ok (.iload_n 1, 1) := by decide +kernel
theorem dX4_code_1 : decode cX4_code 1 = .ok (.invokestatic 68, 3) := by decide +kernel
theorem dX4_code_4 : decode cX4_code 4 = .ok (.ifCond .eq 22, 3) := by decide +kernel
theorem dX4_code_7 : decode cX4_code 7 = .ok (.aload_n 0, 1) := by decide +kernel
theorem dX4_code_8 : decode cX4_code 8 = .ok (.getfield 13, 3) := by decide +kernel
theorem dX4_code_11 : decode cX4_code 11 = .ok (.iload_n 1, 1) := by decide +kernel
theorem dX4_code_12 : decode cX4_code 12 = .ok (.iaload, 1) := by decide +kernel
theorem dX4_code_13 : decode cX4_code 13 = .ok (.iconst 3, 1) := by decide +kernel
theorem dX4_code_14 : decode cX4_code 14 = .ok (.if_icmp .ne 12, 3) := by decide +kernel
theorem dX4_code_17 : decode cX4_code 17 = .ok (.aload_n 0, 1) := by decide +kernel
theorem dX4_code_18 : decode cX4_code 18 = .ok (.getfield 19, 3) := by decide +kernel
theorem dX4_code_21 : decode cX4_code 21 = .ok (.iload_n 1, 1) := by decide +kernel
theorem dX4_code_22 : decode cX4_code 22 = .ok (.iaload, 1) := by decide +kernel
theorem dX4_code_23 : decode cX4_code 23 = .ok (.goto 4, 3) := by decide +kernel
theorem dX4_code_26 : decode cX4_code 26 = .ok (.iconst 0, 1) := by decide +kernel
theorem dX4_code_27 : decode cX4_code 27 = .ok (.ireturn, 1) := by decide +kernel
end
section
/-! decode rows (written by program) -/
theorem dX4_end_0 : decode cX4_end 0 = .ok (.aload_n 0, 1) := by decide +kernel
theorem dX4_end_1 : decode cX4_end 1 = .ok (.getfield 13, 3) := by decide +kernel
theorem dX4_end_4 : decode cX4_end 4 = .ok (.iload_n 1, 1) := by decide +kernel
theorem dX4_end_5 : decode cX4_end 5 = .ok (.iconst 3, 1) := by decide +kernel
theorem dX4_end_6 : decode cX4_end 6 = .ok (.iastore, 1) := by decide +kernel
theorem dX4_end_7 : decode cX4_end 7 = .ok (.aload_n 0, 1) := by decide +kernel
theorem dX4_end_8 : decode cX4_end 8 = .ok (.getfield 19, 3) := by decide +kernel
theorem dX4_end_11 : decode cX4_end 11 = .ok (.iload_n 1, 1) := by decide +kernel
theorem dX4_end_12 : decode cX4_end 12 = .ok (.iload_n 2, 1) := by decide +kernel
theorem dX4_end_13 : decode cX4_end 13 = .ok (.iastore, 1) := by decide +kernel
theorem dX4_end_14 : decode cX4_end 14 = .ok (.iconst 0, 1) := by decide +kernel
theorem dX4_end_15 : decode cX4_end 15 = .ok (.istore_n 3, 1) := by decide +kernel
theorem dX4_end_16 : decode cX4_end 16 = .ok (.iload_n 3, 1) := by decide +kernel
theorem dX4_end_17 : decode cX4_end 17 = .ok (.bipush 8, 2) := by decide +kernel
theorem dX4_end_19 : decode cX4_end 19 = .ok (.if_icmp .ge 19, 3) := by decide +kernel
theorem dX4_end_22 : decode cX4_end 22 = .ok (.aload_n 0, 1) := by decide +kernel
theorem dX4_end_23 : decode cX4_end 23 = .ok (.bipush 8, 2) := by decide +kernel
theorem dX4_end_25 : decode cX4_end 25 = .ok (.iload_n 1, 1) := by decide +kernel
theorem dX4_end_26 : decode cX4_end 26 = .ok (.imul, 1) := by decide +kernel
theorem dX4_end_27 : decode cX4_end 27 = .ok (.iload_n 3, 1) := by decide +kernel
theorem dX4_end_28 : decode cX4_end 28 = .ok (.iadd, 1) := by decide +kernel
theorem dX4_end_29 : decode cX4_end 29 = .ok (.invokevirtual 74, 3) := by decide +kernel
theorem dX4_end_32 : decode cX4_end 32 = .ok (.iinc 3 1, 3) := by decide +kernel
theorem dX4_end_35 : decode cX4_end 35 = .ok (.goto (-19), 3) := by decide +kernel
theorem dX4_end_38 : decode cX4_end 38 = .ok (.iconst 0, 1) := by decide +kernel
theorem dX4_end_39 : decode cX4_end 39 = .ok (.istore_n 3, 1) := by decide +kernel
theorem dX4_end_40 : decode cX4_end 40 = .ok (.iload_n 3, 1) := by decide +kernel
theorem dX4_end_41 : decode cX4_end 41 = .ok (.bipush 8, 2) := by decide +kernel
theorem dX4_end_43 : decode cX4_end 43 = .ok (.if_icmp .ge 35, 3) := by decide +kernel
theorem dX4_end_46 : decode cX4_end 46 = .ok (.aload_n 0, 1) := by decide +kernel
theorem dX4_end_47 : decode cX4_end 47 = .ok (.getfield 16, 3) := by decide +kernel
theorem dX4_end_50 : decode cX4_end 50 = .ok (.iload_n 3, 1) := by decide +kernel
theorem dX4_end_51 : decode cX4_end 51 = .ok (.aload_n 0, 1) := by decide +kernel
theorem dX4_end_52 : decode cX4_end 52 = .ok (.getfield 16, 3) := by decide +kernel
theorem dX4_end_55 : decode cX4_end 55 = .ok (.iload_n 3, 1) := by decide +kernel
theorem dX4_end_56 : decode cX4_end 56 = .ok (.iaload, 1) := by decide +kernel
theorem dX4_end_57 : decode cX4_end 57 = .ok (.iload_n 1, 1) := by decide +kernel
theorem dX4_end_58 : decode cX4_end 58 = .ok (.if_icmp .ne 7, 3) := by decide +kernel
theorem dX4_end_61 : decode cX4_end 61 = .ok (.iconst (-1), 1) := by decide +kernel
theorem dX4_end_62 : decode cX4_end 62 = .ok (.goto 9, 3) := by decide +kernel
theorem dX4_end_65 : decode cX4_end 65 = .ok (.aload_n 0, 1) := by decide +kernel
theorem dX4_end_66 : decode cX4_end 66 = .ok (.getfield 16, 3) := by decide +kernel
theorem dX4_end_69 : decode cX4_end 69 = .ok (.iload_n 3, 1) := by decide +kernel
theorem dX4_end_70 : decode cX4_end 70 = .ok (.iaload, 1) := by decide +kernel
theorem dX4_end_71 : decode cX4_end 71 = .ok (.iastore, 1) := by decide +kernel
theorem dX4_end_72 : decode cX4_end 72 = .ok (.iinc 3 1, 3) := by decide +kernel
theorem dX4_end_75 : decode cX4_end 75 = .ok (.goto (-35), 3) := by decide +kernel
theorem dX4_end_78 : decode cX4_end 78 = .ok (.aload_n 0, 1) := by decide +kernel
theorem dX4_end_79 : decode cX4_end 79 = .ok (.getfield 16, 3) := by decide +kernel
theorem dX4_end_82 : decode cX4_end 82 = .ok (.iload_n 1, 1) := by decide +kernel
theorem dX4_end_83 : decode cX4_end 83 = .ok (.iaload, 1) := by decide +kernel
theorem dX4_end_84 : decode cX4_end 84 = .ok (.istore_n 3, 1) := by decide +kernel
theorem dX4_end_85 : decode cX4_end 85 = .ok (.iload_n 3, 1) := by decide +kernel
theorem dX4_end_86 : decode cX4_end 86 = .ok (.iconst (-1), 1) := by decide +kernel
theorem dX4_end_87 : decode cX4_end 87 = .ok (.if_icmp .eq 20, 3) := by decide +kernel
theorem dX4_end_90 : decode cX4_end 90 = .ok (.aload_n 0, 1) := by decide +kernel
theorem dX4_end_91 : decode cX4_end 91 = .ok (.getfield 13, 3) := by decide +kernel
theorem dX4_end_94 : decode cX4_end 94 = .ok (.iload_n 3, 1) := by decide +kernel
theorem dX4_end_95 : decode cX4_end 95 = .ok (.iaload, 1) := by decide +kernel
theorem dX4_end_96 : decode cX4_end 96 = .ok (.iconst 2, 1) := by decide +kernel
theorem dX4_end_97 : decode cX4_end 97 = .ok (.if_icmp .ne 10, 3) := by decide +kernel
theorem dX4_end_100 : decode cX4_end 100 = .ok (.aload_n 0, 1) := by decide +kernel
theorem dX4_end_101 : decode cX4_end 101 = .ok (.getfield 13, 3) := by decide +kernel
theorem dX4_end_104 : decode cX4_end 104 = .ok (.iload_n 3, 1) := by decide +kernel
theorem dX4_end_105 : decode cX4_end 105 = .ok (.iconst 1, 1) := by decide +kernel
theorem dX4_end_106 : decode cX4_end 106 = .ok (.iastore, 1) := by decide +kernel
theorem dX4_end_107 : decode cX4_end 107 = .ok (.return_, 1) := by decide +kernel
theorem dX4_firstFree_0 : decode cX4_firstFree 0 = .ok (.iconst 0, 1) := by decide +kernel
theorem dX4_firstFree_1 : decode cX4_firstFree 1 = .ok (.istore_n 1, 1) := by decide +kernel
theorem dX4_firstFree_2 : decode cX4_firstFree 2 = .ok (.iload_n 1, 1) := by decide +kernel
theorem dX4_firstFree_3 : decode cX4_firstFree 3 = .ok (.bipush 8, 2) := by decide +kernel
theorem dX4_firstFree_5 : decode cX4_firstFree 5 = .ok (.if_icmp .ge 20, 3) := by decide +kernel
theorem dX4_firstFree_8 : decode cX4_firstFree 8 = .ok (.aload_n 0, 1) := by decide +kernel
theorem dX4_firstFree_9 : decode cX4_firstFree 9 = .ok (.getfield 13, 3) := by decide +kernel
theorem dX4_firstFree_12 : decode cX4_firstFree 12 = .ok (.iload_n 1, 1) := by decide +kernel
theorem dX4_firstFree_13 : decode cX4_firstFree 13 = .ok (.iaload, 1) := by decide +kernel
theorem dX4_firstFree_14 : decode cX4_firstFree 14 = .ok (.ifCond .ne 5, 3) := by decide +kernel
theorem dX4_firstFree_17 : decode cX4_firstFree 17 = .ok (.iload_n 1, 1) := by decide +kernel
theorem dX4_firstFree_18 : decode cX4_firstFree 18 = .ok (.ireturn, 1) := by decide +kernel
theorem dX4_firstFree_19 : decode cX4_firstFree 19 = .ok (.iinc 1 1, 3) := by decide +kernel
theorem dX4_firstFree_22 : decode cX4_firstFree 22 = .ok (.goto (-20), 3) := by decide +kernel
theorem dX4_firstFree_25 : decode cX4_firstFree 25 = .ok (.iconst (-1), 1) := by decide +kernel
theorem dX4_firstFree_26 : decode cX4_firstFree 26 = .ok (.ireturn, 1) := by decide +kernel
theorem dX4_fork_0 : decode cX4_fork 0 = .ok (.aload_n 0, 1) := by decide +kernel
theorem dX4_fork_1 : decode cX4_fork 1 = .ok (.invokevirtual 71, 3) := by decide +kernel
theorem dX4_fork_4 : decode cX4_fork 4 = .ok (.istore_n 3, 1) := by decide +kernel
theorem dX4_fork_5 : decode cX4_fork 5 = .ok (.iload_n 3, 1) := by decide +kernel
theorem dX4_fork_6 : decode cX4_fork 6 = .ok (.iconst (-1), 1) := by decide +kernel
theorem dX4_fork_7 : decode cX4_fork 7 = .ok (.if_icmp .ne 17, 3) := by decide +kernel
theorem dX4_fork_10 : decode cX4_fork 10 = .ok (.aload_n 0, 1) := by decide +kernel
theorem dX4_fork_11 : decode cX4_fork 11 = .ok (.getfield 22, 3) := by decide +kernel
theorem dX4_fork_14 : decode cX4_fork 14 = .ok (.bipush 8, 2) := by decide +kernel
theorem dX4_fork_16 : decode cX4_fork 16 = .ok (.iload_n 1, 1) := by decide +kernel
theorem dX4_fork_17 : decode cX4_fork 17 = .ok (.imul, 1) := by decide +kernel
theorem dX4_fork_18 : decode cX4_fork 18 = .ok (.iload_n 2, 1) := by decide +kernel
theorem dX4_fork_19 : decode cX4_fork 19 = .ok (.iadd, 1) := by decide +kernel
theorem dX4_fork_20 : decode cX4_fork 20 = .ok (.iconst (-1), 1) := by decide +kernel
theorem dX4_fork_21 : decode cX4_fork 21 = .ok (.iastore, 1) := by decide +kernel
theorem dX4_fork_22 : decode cX4_fork 22 = .ok (.iconst 1, 1) := by decide +kernel
theorem dX4_fork_23 : decode cX4_fork 23 = .ok (.ireturn, 1) := by decide +kernel
theorem dX4_fork_24 : decode cX4_fork 24 = .ok (.aload_n 0, 1) := by decide +kernel
theorem dX4_fork_25 : decode cX4_fork 25 = .ok (.getfield 13, 3) := by decide +kernel
theorem dX4_fork_28 : decode cX4_fork 28 = .ok (.iload_n 3, 1) := by decide +kernel
theorem dX4_fork_29 : decode cX4_fork 29 = .ok (.iconst 1, 1) := by decide +kernel
theorem dX4_fork_30 : decode cX4_fork 30 = .ok (.iastore, 1) := by decide +kernel
theorem dX4_fork_31 : decode cX4_fork 31 = .ok (.aload_n 0, 1) := by decide +kernel
theorem dX4_fork_32 : decode cX4_fork 32 = .ok (.getfield 16, 3) := by decide +kernel
theorem dX4_fork_35 : decode cX4_fork 35 = .ok (.iload_n 3, 1) := by decide +kernel
theorem dX4_fork_36 : decode cX4_fork 36 = .ok (.iload_n 1, 1) := by decide +kernel
theorem dX4_fork_37 : decode cX4_fork 37 = .ok (.iastore, 1) := by decide +kernel
theorem dX4_fork_38 : decode cX4_fork 38 = .ok (.aload_n 0, 1) := by decide +kernel
theorem dX4_fork_39 : decode cX4_fork 39 = .ok (.getfield 25, 3) := by decide +kernel
theorem dX4_fork_42 : decode cX4_fork 42 = .ok (.iload_n 3, 1) := by decide +kernel
theorem dX4_fork_43 : decode cX4_fork 43 = .ok (.aload_n 0, 1) := by decide +kernel
theorem dX4_fork_44 : decode cX4_fork 44 = .ok (.getfield 25, 3) := by decide +kernel
theorem dX4_fork_47 : decode cX4_fork 47 = .ok (.iload_n 1, 1) := by decide +kernel
theorem dX4_fork_48 : decode cX4_fork 48 = .ok (.iaload, 1) := by decide +kernel
theorem dX4_fork_49 : decode cX4_fork 49 = .ok (.iastore, 1) := by decide +kernel
theorem dX4_fork_50 : decode cX4_fork 50 = .ok (.aload_n 0, 1) := by decide +kernel
theorem dX4_fork_51 : decode cX4_fork 51 = .ok (.getfield 28, 3) := by decide +kernel
theorem dX4_fork_54 : decode cX4_fork 54 = .ok (.iload_n 3, 1) := by decide +kernel
theorem dX4_fork_55 : decode cX4_fork 55 = .ok (.aload_n 0, 1) := by decide +kernel
theorem dX4_fork_56 : decode cX4_fork 56 = .ok (.getfield 28, 3) := by decide +kernel
theorem dX4_fork_59 : decode cX4_fork 59 = .ok (.iload_n 1, 1) := by decide +kernel
theorem dX4_fork_60 : decode cX4_fork 60 = .ok (.iaload, 1) := by decide +kernel
theorem dX4_fork_61 : decode cX4_fork 61 = .ok (.iastore, 1) := by decide +kernel
theorem dX4_fork_62 : decode cX4_fork 62 = .ok (.iconst 0, 1) := by decide +kernel
theorem dX4_fork_63 : decode cX4_fork 63 = .ok (.istore 4, 2) := by decide +kernel
theorem dX4_fork_65 : decode cX4_fork 65 = .ok (.iload 4, 2) := by decide +kernel
theorem dX4_fork_67 : decode cX4_fork 67 = .ok (.bipush 8, 2) := by decide +kernel
theorem dX4_fork_69 : decode cX4_fork 69 = .ok (.if_icmp .ge 67, 3) := by decide +kernel
theorem dX4_fork_72 : decode cX4_fork 72 = .ok (.aload_n 0, 1) := by decide +kernel
theorem dX4_fork_73 : decode cX4_fork 73 = .ok (.getfield 22, 3) := by decide +kernel
theorem dX4_fork_76 : decode cX4_fork 76 = .ok (.bipush 8, 2) := by decide +kernel
theorem dX4_fork_78 : decode cX4_fork 78 = .ok (.iload_n 3, 1) := by decide +kernel
theorem dX4_fork_79 : decode cX4_fork 79 = .ok (.imul, 1) := by decide +kernel
theorem dX4_fork_80 : decode cX4_fork 80 = .ok (.iload 4, 2) := by decide +kernel
theorem dX4_fork_82 : decode cX4_fork 82 = .ok (.iadd, 1) := by decide +kernel
theorem dX4_fork_83 : decode cX4_fork 83 = .ok (.iload 4, 2) := by decide +kernel
theorem dX4_fork_85 : decode cX4_fork 85 = .ok (.iload_n 2, 1) := by decide +kernel
theorem dX4_fork_86 : decode cX4_fork 86 = .ok (.if_icmp .ne 7, 3) := by decide +kernel
theorem dX4_fork_89 : decode cX4_fork 89 = .ok (.iconst 0, 1) := by decide +kernel
theorem dX4_fork_90 : decode cX4_fork 90 = .ok (.goto 15, 3) := by decide +kernel
theorem dX4_fork_93 : decode cX4_fork 93 = .ok (.aload_n 0, 1) := by decide +kernel
theorem dX4_fork_94 : decode cX4_fork 94 = .ok (.getfield 22, 3) := by decide +kernel
theorem dX4_fork_97 : decode cX4_fork 97 = .ok (.bipush 8, 2) := by decide +kernel
theorem dX4_fork_99 : decode cX4_fork 99 = .ok (.iload_n 1, 1) := by decide +kernel
theorem dX4_fork_100 : decode cX4_fork 100 = .ok (.imul, 1) := by decide +kernel
theorem dX4_fork_101 : decode cX4_fork 101 = .ok (.iload 4, 2) := by decide +kernel
theorem dX4_fork_103 : decode cX4_fork 103 = .ok (.iadd, 1) := by decide +kernel
theorem dX4_fork_104 : decode cX4_fork 104 = .ok (.iaload, 1) := by decide +kernel
theorem dX4_fork_105 : decode cX4_fork 105 = .ok (.iastore, 1) := by decide +kernel
theorem dX4_fork_106 : decode cX4_fork 106 = .ok (.aload_n 0, 1) := by decide +kernel
theorem dX4_fork_107 : decode cX4_fork 107 = .ok (.getfield 34, 3) := by decide +kernel
theorem dX4_fork_110 : decode cX4_fork 110 = .ok (.bipush 8, 2) := by decide +kernel
theorem dX4_fork_112 : decode cX4_fork 112 = .ok (.iload_n 3, 1) := by decide +kernel
theorem dX4_fork_113 : decode cX4_fork 113 = .ok (.imul, 1) := by decide +kernel
theorem dX4_fork_114 : decode cX4_fork 114 = .ok (.iload 4, 2) := by decide +kernel
theorem dX4_fork_116 : decode cX4_fork 116 = .ok (.iadd, 1) := by decide +kernel
theorem dX4_fork_117 : decode cX4_fork 117 = .ok (.aload_n 0, 1) := by decide +kernel
theorem dX4_fork_118 : decode cX4_fork 118 = .ok (.getfield 34, 3) := by decide +kernel
theorem dX4_fork_121 : decode cX4_fork 121 = .ok (.bipush 8, 2) := by decide +kernel
theorem dX4_fork_123 : decode cX4_fork 123 = .ok (.iload_n 1, 1) := by decide +kernel
theorem dX4_fork_124 : decode cX4_fork 124 = .ok (.imul, 1) := by decide +kernel
theorem dX4_fork_125 : decode cX4_fork 125 = .ok (.iload 4, 2) := by decide +kernel
theorem dX4_fork_127 : decode cX4_fork 127 = .ok (.iadd, 1) := by decide +kernel
theorem dX4_fork_128 : decode cX4_fork 128 = .ok (.iaload, 1) := by decide +kernel
theorem dX4_fork_129 : decode cX4_fork 129 = .ok (.iastore, 1) := by decide +kernel
theorem dX4_fork_130 : decode cX4_fork 130 = .ok (.iinc 4 1, 3) := by decide +kernel
theorem dX4_fork_133 : decode cX4_fork 133 = .ok (.goto (-68), 3) := by decide +kernel
theorem dX4_fork_136 : decode cX4_fork 136 = .ok (.iconst 0, 1) := by decide +kernel
theorem dX4_fork_137 : decode cX4_fork 137 = .ok (.istore 4, 2) := by decide +kernel
theorem dX4_fork_139 : decode cX4_fork 139 = .ok (.iload 4, 2) := by decide +kernel
theorem dX4_fork_141 : decode cX4_fork 141 = .ok (.bipush 64, 2) := by decide +kernel
theorem dX4_fork_143 : decode cX4_fork 143 = .ok (.if_icmp .ge 33, 3) := by decide +kernel
theorem dX4_fork_146 : decode cX4_fork 146 = .ok (.aload_n 0, 1) := by decide +kernel
theorem dX4_fork_147 : decode cX4_fork 147 = .ok (.getfield 31, 3) := by decide +kernel
theorem dX4_fork_150 : decode cX4_fork 150 = .ok (.bipush 64, 2) := by decide +kernel
theorem dX4_fork_152 : decode cX4_fork 152 = .ok (.iload_n 3, 1) := by decide +kernel
theorem dX4_fork_153 : decode cX4_fork 153 = .ok (.imul, 1) := by decide +kernel
theorem dX4_fork_154 : decode cX4_fork 154 = .ok (.iload 4, 2) := by decide +kernel
theorem dX4_fork_156 : decode cX4_fork 156 = .ok (.iadd, 1) := by decide +kernel
theorem dX4_fork_157 : decode cX4_fork 157 = .ok (.aload_n 0, 1) := by decide +kernel
theorem dX4_fork_158 : decode cX4_fork 158 = .ok (.getfield 31, 3) := by decide +kernel
theorem dX4_fork_161 : decode cX4_fork 161 = .ok (.bipush 64, 2) := by decide +kernel
theorem dX4_fork_163 : decode cX4_fork 163 = .ok (.iload_n 1, 1) := by decide +kernel
theorem dX4_fork_164 : decode cX4_fork 164 = .ok (.imul, 1) := by decide +kernel
theorem dX4_fork_165 : decode cX4_fork 165 = .ok (.iload 4, 2) := by decide +kernel
theorem dX4_fork_167 : decode cX4_fork 167 = .ok (.iadd, 1) := by decide +kernel
theorem dX4_fork_168 : decode cX4_fork 168 = .ok (.iaload, 1) := by decide +kernel
theorem dX4_fork_169 : decode cX4_fork 169 = .ok (.iastore, 1) := by decide +kernel
theorem dX4_fork_170 : decode cX4_fork 170 = .ok (.iinc 4 1, 3) := by decide +kernel
theorem dX4_fork_173 : decode cX4_fork 173 = .ok (.goto (-34), 3) := by decide +kernel
theorem dX4_fork_176 : decode cX4_fork 176 = .ok (.aload_n 0, 1) := by decide +kernel
theorem dX4_fork_177 : decode cX4_fork 177 = .ok (.getfield 22, 3) := by decide +kernel
theorem dX4_fork_180 : decode cX4_fork 180 = .ok (.bipush 8, 2) := by decide +kernel
theorem dX4_fork_182 : decode cX4_fork 182 = .ok (.iload_n 1, 1) := by decide +kernel
theorem dX4_fork_183 : decode cX4_fork 183 = .ok (.imul, 1) := by decide +kernel
theorem dX4_fork_184 : decode cX4_fork 184 = .ok (.iload_n 2, 1) := by decide +kernel
theorem dX4_fork_185 : decode cX4_fork 185 = .ok (.iadd, 1) := by decide +kernel
theorem dX4_fork_186 : decode cX4_fork 186 = .ok (.iload_n 3, 1) := by decide +kernel
theorem dX4_fork_187 : decode cX4_fork 187 = .ok (.iastore, 1) := by decide +kernel
theorem dX4_fork_188 : decode cX4_fork 188 = .ok (.iconst 3, 1) := by decide +kernel
theorem dX4_fork_189 : decode cX4_fork 189 = .ok (.ireturn, 1) := by decide +kernel
theorem dX4_frames_0 : decode cX4_frames 0 = .ok (.iconst 0, 1) := by decide +kernel
theorem dX4_frames_1 : decode cX4_frames 1 = .ok (.istore_n 1, 1) := by decide +kernel
theorem dX4_frames_2 : decode cX4_frames 2 = .ok (.iconst 0, 1) := by decide +kernel
theorem dX4_frames_3 : decode cX4_frames 3 = .ok (.istore_n 2, 1) := by decide +kernel
theorem dX4_frames_4 : decode cX4_frames 4 = .ok (.iload_n 2, 1) := by decide +kernel
theorem dX4_frames_5 : decode cX4_frames 5 = .ok (.bipush 64, 2) := by decide +kernel
theorem dX4_frames_7 : decode cX4_frames 7 = .ok (.if_icmp .ge 77, 3) := by decide +kernel
theorem dX4_frames_10 : decode cX4_frames 10 = .ok (.aload_n 0, 1) := by decide +kernel
theorem dX4_frames_11 : decode cX4_frames 11 = .ok (.getfield 34, 3) := by decide +kernel
theorem dX4_frames_14 : decode cX4_frames 14 = .ok (.iload_n 2, 1) := by decide +kernel
theorem dX4_frames_15 : decode cX4_frames 15 = .ok (.iaload, 1) := by decide +kernel
theorem dX4_frames_16 : decode cX4_frames 16 = .ok (.ifCond .le 7, 3) := by decide +kernel
theorem dX4_frames_19 : decode cX4_frames 19 = .ok (.iconst 1, 1) := by decide +kernel
theorem dX4_frames_20 : decode cX4_frames 20 = .ok (.goto 4, 3) := by decide +kernel
theorem dX4_frames_23 : decode cX4_frames 23 = .ok (.iconst 0, 1) := by decide +kernel
theorem dX4_frames_24 : decode cX4_frames 24 = .ok (.istore_n 3, 1) := by decide +kernel
theorem dX4_frames_25 : decode cX4_frames 25 = .ok (.iconst 0, 1) := by decide +kernel
theorem dX4_frames_26 : decode cX4_frames 26 = .ok (.istore 4, 2) := by decide +kernel
theorem dX4_frames_28 : decode cX4_frames 28 = .ok (.iload 4, 2) := by decide +kernel
theorem dX4_frames_30 : decode cX4_frames 30 = .ok (.iload_n 2, 1) := by decide +kernel
theorem dX4_frames_31 : decode cX4_frames 31 = .ok (.if_icmp .ge 35, 3) := by decide +kernel
theorem dX4_frames_34 : decode cX4_frames 34 = .ok (.iload_n 3, 1) := by decide +kernel
theorem dX4_frames_35 : decode cX4_frames 35 = .ok (.ifCond .eq 23, 3) := by decide +kernel
theorem dX4_frames_38 : decode cX4_frames 38 = .ok (.aload_n 0, 1) := by decide +kernel
theorem dX4_frames_39 : decode cX4_frames 39 = .ok (.getfield 34, 3) := by decide +kernel
theorem dX4_frames_42 : decode cX4_frames 42 = .ok (.iload 4, 2) := by decide +kernel
theorem dX4_frames_44 : decode cX4_frames 44 = .ok (.iaload, 1) := by decide +kernel
theorem dX4_frames_45 : decode cX4_frames 45 = .ok (.aload_n 0, 1) := by decide +kernel
theorem dX4_frames_46 : decode cX4_frames 46 = .ok (.getfield 34, 3) := by decide +kernel
theorem dX4_frames_49 : decode cX4_frames 49 = .ok (.iload_n 2, 1) := by decide +kernel
theorem dX4_frames_50 : decode cX4_frames 50 = .ok (.iaload, 1) := by decide +kernel
theorem dX4_frames_51 : decode cX4_frames 51 = .ok (.if_icmp .eq 7, 3) := by decide +kernel
theorem dX4_frames_54 : decode cX4_frames 54 = .ok (.iconst 1, 1) := by decide +kernel
theorem dX4_frames_55 : decode cX4_frames 55 = .ok (.goto 4, 3) := by decide +kernel
theorem dX4_frames_58 : decode cX4_frames 58 = .ok (.iconst 0, 1) := by decide +kernel
theorem dX4_frames_59 : decode cX4_frames 59 = .ok (.istore_n 3, 1) := by decide +kernel
theorem dX4_frames_60 : decode cX4_frames 60 = .ok (.iinc 4 1, 3) := by decide +kernel
theorem dX4_frames_63 : decode cX4_frames 63 = .ok (.goto (-35), 3) := by decide +kernel
theorem dX4_frames_66 : decode cX4_frames 66 = .ok (.iload_n 1, 1) := by decide +kernel
theorem dX4_frames_67 : decode cX4_frames 67 = .ok (.iload_n 3, 1) := by decide +kernel
theorem dX4_frames_68 : decode cX4_frames 68 = .ok (.ifCond .eq 7, 3) := by decide +kernel
theorem dX4_frames_71 : decode cX4_frames 71 = .ok (.iconst 1, 1) := by decide +kernel
theorem dX4_frames_72 : decode cX4_frames 72 = .ok (.goto 4, 3) := by decide +kernel
theorem dX4_frames_75 : decode cX4_frames 75 = .ok (.iconst 0, 1) := by decide +kernel
theorem dX4_frames_76 : decode cX4_frames 76 = .ok (.iadd, 1) := by decide +kernel
theorem dX4_frames_77 : decode cX4_frames 77 = .ok (.istore_n 1, 1) := by decide +kernel
theorem dX4_frames_78 : decode cX4_frames 78 = .ok (.iinc 2 1, 3) := by decide +kernel
theorem dX4_frames_81 : decode cX4_frames 81 = .ok (.goto (-77), 3) := by decide +kernel
theorem dX4_frames_84 : decode cX4_frames 84 = .ok (.iload_n 1, 1) := by decide +kernel
theorem dX4_frames_85 : decode cX4_frames 85 = .ok (.ireturn, 1) := by decide +kernel
theorem dX4_free_0 : decode cX4_free 0 = .ok (.aload_n 0, 1) := by decide +kernel
theorem dX4_free_1 : decode cX4_free 1 = .ok (.getfield 13, 3) := by decide +kernel
theorem dX4_free_4 : decode cX4_free 4 = .ok (.iload_n 1, 1) := by decide +kernel
theorem dX4_free_5 : decode cX4_free 5 = .ok (.iconst 0, 1) := by decide +kernel
theorem dX4_free_6 : decode cX4_free 6 = .ok (.iastore, 1) := by decide +kernel
theorem dX4_free_7 : decode cX4_free 7 = .ok (.aload_n 0, 1) := by decide +kernel
theorem dX4_free_8 : decode cX4_free 8 = .ok (.getfield 16, 3) := by decide +kernel
theorem dX4_free_11 : decode cX4_free 11 = .ok (.iload_n 1, 1) := by decide +kernel
theorem dX4_free_12 : decode cX4_free 12 = .ok (.iconst (-1), 1) := by decide +kernel
theorem dX4_free_13 : decode cX4_free 13 = .ok (.iastore, 1) := by decide +kernel
theorem dX4_free_14 : decode cX4_free 14 = .ok (.return_, 1) := by decide +kernel
theorem dX4_grow_0 : decode cX4_grow 0 = .ok (.aload_n 0, 1) := by decide +kernel
theorem dX4_grow_1 : decode cX4_grow 1 = .ok (.getfield 28, 3) := by decide +kernel
theorem dX4_grow_4 : decode cX4_grow 4 = .ok (.iload_n 1, 1) := by decide +kernel
theorem dX4_grow_5 : decode cX4_grow 5 = .ok (.iaload, 1) := by decide +kernel
theorem dX4_grow_6 : decode cX4_grow 6 = .ok (.istore 4, 2) := by decide +kernel
theorem dX4_grow_8 : decode cX4_grow 8 = .ok (.iload 4, 2) := by decide +kernel
theorem dX4_grow_10 : decode cX4_grow 10 = .ok (.iload_n 3, 1) := by decide +kernel
theorem dX4_grow_11 : decode cX4_grow 11 = .ok (.iadd, 1) := by decide +kernel
theorem dX4_grow_12 : decode cX4_grow 12 = .ok (.istore 5, 2) := by decide +kernel
theorem dX4_grow_14 : decode cX4_grow 14 = .ok (.iload 5, 2) := by decide +kernel
theorem dX4_grow_16 : decode cX4_grow 16 = .ok (.ifCond .lt 10, 3) := by decide +kernel
theorem dX4_grow_19 : decode cX4_grow 19 = .ok (.iload 5, 2) := by decide +kernel
theorem dX4_grow_21 : decode cX4_grow 21 = .ok (.bipush 64, 2) := by decide +kernel
theorem dX4_grow_23 : decode cX4_grow 23 = .ok (.if_icmp .le 16, 3) := by decide +kernel
theorem dX4_grow_26 : decode cX4_grow 26 = .ok (.aload_n 0, 1) := by decide +kernel
theorem dX4_grow_27 : decode cX4_grow 27 = .ok (.getfield 22, 3) := by decide +kernel
theorem dX4_grow_30 : decode cX4_grow 30 = .ok (.bipush 8, 2) := by decide +kernel
theorem dX4_grow_32 : decode cX4_grow 32 = .ok (.iload_n 1, 1) := by decide +kernel
theorem dX4_grow_33 : decode cX4_grow 33 = .ok (.imul, 1) := by decide +kernel
theorem dX4_grow_34 : decode cX4_grow 34 = .ok (.iload_n 2, 1) := by decide +kernel
theorem dX4_grow_35 : decode cX4_grow 35 = .ok (.iadd, 1) := by decide +kernel
theorem dX4_grow_36 : decode cX4_grow 36 = .ok (.iconst (-1), 1) := by decide +kernel
theorem dX4_grow_37 : decode cX4_grow 37 = .ok (.iastore, 1) := by decide +kernel
theorem dX4_grow_38 : decode cX4_grow 38 = .ok (.return_, 1) := by decide +kernel
theorem dX4_grow_39 : decode cX4_grow 39 = .ok (.aload_n 0, 1) := by decide +kernel
theorem dX4_grow_40 : decode cX4_grow 40 = .ok (.getfield 22, 3) := by decide +kernel
theorem dX4_grow_43 : decode cX4_grow 43 = .ok (.bipush 8, 2) := by decide +kernel
theorem dX4_grow_45 : decode cX4_grow 45 = .ok (.iload_n 1, 1) := by decide +kernel
theorem dX4_grow_46 : decode cX4_grow 46 = .ok (.imul, 1) := by decide +kernel
theorem dX4_grow_47 : decode cX4_grow 47 = .ok (.iload_n 2, 1) := by decide +kernel
theorem dX4_grow_48 : decode cX4_grow 48 = .ok (.iadd, 1) := by decide +kernel
theorem dX4_grow_49 : decode cX4_grow 49 = .ok (.iload 4, 2) := by decide +kernel
theorem dX4_grow_51 : decode cX4_grow 51 = .ok (.iastore, 1) := by decide +kernel
theorem dX4_grow_52 : decode cX4_grow 52 = .ok (.iload 5, 2) := by decide +kernel
theorem dX4_grow_54 : decode cX4_grow 54 = .ok (.iload 4, 2) := by decide +kernel
theorem dX4_grow_56 : decode cX4_grow 56 = .ok (.if_icmp .ge 33, 3) := by decide +kernel
theorem dX4_grow_59 : decode cX4_grow 59 = .ok (.iload 5, 2) := by decide +kernel
theorem dX4_grow_61 : decode cX4_grow 61 = .ok (.bipush 8, 2) := by decide +kernel
theorem dX4_grow_63 : decode cX4_grow 63 = .ok (.irem, 1) := by decide +kernel
theorem dX4_grow_64 : decode cX4_grow 64 = .ok (.ifCond .eq 25, 3) := by decide +kernel
theorem dX4_grow_67 : decode cX4_grow 67 = .ok (.aload_n 0, 1) := by decide +kernel
theorem dX4_grow_68 : decode cX4_grow 68 = .ok (.getfield 34, 3) := by decide +kernel
theorem dX4_grow_71 : decode cX4_grow 71 = .ok (.bipush 8, 2) := by decide +kernel
theorem dX4_grow_73 : decode cX4_grow 73 = .ok (.iload_n 1, 1) := by decide +kernel
theorem dX4_grow_74 : decode cX4_grow 74 = .ok (.imul, 1) := by decide +kernel
theorem dX4_grow_75 : decode cX4_grow 75 = .ok (.iload 5, 2) := by decide +kernel
theorem dX4_grow_77 : decode cX4_grow 77 = .ok (.bipush 8, 2) := by decide +kernel
theorem dX4_grow_79 : decode cX4_grow 79 = .ok (.idiv, 1) := by decide +kernel
theorem dX4_grow_80 : decode cX4_grow 80 = .ok (.iadd, 1) := by decide +kernel
theorem dX4_grow_81 : decode cX4_grow 81 = .ok (.iaload, 1) := by decide +kernel
theorem dX4_grow_82 : decode cX4_grow 82 = .ok (.ifCond .le 7, 3) := by decide +kernel
theorem dX4_grow_85 : decode cX4_grow 85 = .ok (.iconst 1, 1) := by decide +kernel
theorem dX4_grow_86 : decode cX4_grow 86 = .ok (.goto 4, 3) := by decide +kernel
theorem dX4_grow_89 : decode cX4_grow 89 = .ok (.iconst 0, 1) := by decide +kernel
theorem dX4_grow_90 : decode cX4_grow 90 = .ok (.istore 6, 2) := by decide +kernel
theorem dX4_grow_92 : decode cX4_grow 92 = .ok (.aload_n 0, 1) := by decide +kernel
theorem dX4_grow_93 : decode cX4_grow 93 = .ok (.getfield 28, 3) := by decide +kernel
theorem dX4_grow_96 : decode cX4_grow 96 = .ok (.iload_n 1, 1) := by decide +kernel
theorem dX4_grow_97 : decode cX4_grow 97 = .ok (.iload 5, 2) := by decide +kernel
theorem dX4_grow_99 : decode cX4_grow 99 = .ok (.iastore, 1) := by decide +kernel
theorem dX4_grow_100 : decode cX4_grow 100 = .ok (.iconst 0, 1) := by decide +kernel
theorem dX4_grow_101 : decode cX4_grow 101 = .ok (.istore 7, 2) := by decide +kernel
theorem dX4_grow_103 : decode cX4_grow 103 = .ok (.iload 7, 2) := by decide +kernel
theorem dX4_grow_105 : decode cX4_grow 105 = .ok (.bipush 8, 2) := by decide +kernel
theorem dX4_grow_107 : decode cX4_grow 107 = .ok (.if_icmp .ge 30, 3) := by decide +kernel
theorem dX4_grow_110 : decode cX4_grow 110 = .ok (.bipush 8, 2) := by decide +kernel
theorem dX4_grow_112 : decode cX4_grow 112 = .ok (.iload 7, 2) := by decide +kernel
theorem dX4_grow_114 : decode cX4_grow 114 = .ok (.imul, 1) := by decide +kernel
theorem dX4_grow_115 : decode cX4_grow 115 = .ok (.iload 5, 2) := by decide +kernel
theorem dX4_grow_117 : decode cX4_grow 117 = .ok (.if_icmp .lt 14, 3) := by decide +kernel
theorem dX4_grow_120 : decode cX4_grow 120 = .ok (.aload_n 0, 1) := by decide +kernel
theorem dX4_grow_121 : decode cX4_grow 121 = .ok (.bipush 8, 2) := by decide +kernel
theorem dX4_grow_123 : decode cX4_grow 123 = .ok (.iload_n 1, 1) := by decide +kernel
theorem dX4_grow_124 : decode cX4_grow 124 = .ok (.imul, 1) := by decide +kernel
theorem dX4_grow_125 : decode cX4_grow 125 = .ok (.iload 7, 2) := by decide +kernel
theorem dX4_grow_127 : decode cX4_grow 127 = .ok (.iadd, 1) := by decide +kernel
theorem dX4_grow_128 : decode cX4_grow 128 = .ok (.invokevirtual 74, 3) := by decide +kernel
theorem dX4_grow_131 : decode cX4_grow 131 = .ok (.iinc 7 1, 3) := by decide +kernel
theorem dX4_grow_134 : decode cX4_grow 134 = .ok (.goto (-31), 3) := by decide +kernel
theorem dX4_grow_137 : decode cX4_grow 137 = .ok (.iload 6, 2) := by decide +kernel
theorem dX4_grow_139 : decode cX4_grow 139 = .ok (.ifCond .eq 69, 3) := by decide +kernel
theorem dX4_grow_142 : decode cX4_grow 142 = .ok (.aload_n 0, 1) := by decide +kernel
theorem dX4_grow_143 : decode cX4_grow 143 = .ok (.bipush 8, 2) := by decide +kernel
theorem dX4_grow_145 : decode cX4_grow 145 = .ok (.iload_n 1, 1) := by decide +kernel
theorem dX4_grow_146 : decode cX4_grow 146 = .ok (.imul, 1) := by decide +kernel
theorem dX4_grow_147 : decode cX4_grow 147 = .ok (.iload 5, 2) := by decide +kernel
theorem dX4_grow_149 : decode cX4_grow 149 = .ok (.bipush 8, 2) := by decide +kernel
theorem dX4_grow_151 : decode cX4_grow 151 = .ok (.idiv, 1) := by decide +kernel
theorem dX4_grow_152 : decode cX4_grow 152 = .ok (.iadd, 1) := by decide +kernel
theorem dX4_grow_153 : decode cX4_grow 153 = .ok (.invokevirtual 60, 3) := by decide +kernel
theorem dX4_grow_156 : decode cX4_grow 156 = .ok (.iconst 1, 1) := by decide +kernel
theorem dX4_grow_157 : decode cX4_grow 157 = .ok (.if_icmp .eq 20, 3) := by decide +kernel
theorem dX4_grow_160 : decode cX4_grow 160 = .ok (.aload_n 0, 1) := by decide +kernel
theorem dX4_grow_161 : decode cX4_grow 161 = .ok (.bipush 8, 2) := by decide +kernel
theorem dX4_grow_163 : decode cX4_grow 163 = .ok (.iload_n 1, 1) := by decide +kernel
theorem dX4_grow_164 : decode cX4_grow 164 = .ok (.imul, 1) := by decide +kernel
theorem dX4_grow_165 : decode cX4_grow 165 = .ok (.iload 5, 2) := by decide +kernel
theorem dX4_grow_167 : decode cX4_grow 167 = .ok (.bipush 8, 2) := by decide +kernel
theorem dX4_grow_169 : decode cX4_grow 169 = .ok (.idiv, 1) := by decide +kernel
theorem dX4_grow_170 : decode cX4_grow 170 = .ok (.iadd, 1) := by decide +kernel
theorem dX4_grow_171 : decode cX4_grow 171 = .ok (.invokevirtual 64, 3) := by decide +kernel
theorem dX4_grow_174 : decode cX4_grow 174 = .ok (.ifCond .eq 34, 3) := by decide +kernel
theorem dX4_grow_177 : decode cX4_grow 177 = .ok (.iload 5, 2) := by decide +kernel
theorem dX4_grow_179 : decode cX4_grow 179 = .ok (.istore 7, 2) := by decide +kernel
theorem dX4_grow_181 : decode cX4_grow 181 = .ok (.iload 7, 2) := by decide +kernel
theorem dX4_grow_183 : decode cX4_grow 183 = .ok (.bipush 8, 2) := by decide +kernel
theorem dX4_grow_185 : decode cX4_grow 185 = .ok (.irem, 1) := by decide +kernel
theorem dX4_grow_186 : decode cX4_grow 186 = .ok (.ifCond .eq 22, 3) := by decide +kernel
theorem dX4_grow_189 : decode cX4_grow 189 = .ok (.aload_n 0, 1) := by decide +kernel
theorem dX4_grow_190 : decode cX4_grow 190 = .ok (.getfield 31, 3) := by decide +kernel
theorem dX4_grow_193 : decode cX4_grow 193 = .ok (.bipush 64, 2) := by decide +kernel
theorem dX4_grow_195 : decode cX4_grow 195 = .ok (.iload_n 1, 1) := by decide +kernel
theorem dX4_grow_196 : decode cX4_grow 196 = .ok (.imul, 1) := by decide +kernel
theorem dX4_grow_197 : decode cX4_grow 197 = .ok (.iload 7, 2) := by decide +kernel
theorem dX4_grow_199 : decode cX4_grow 199 = .ok (.iadd, 1) := by decide +kernel
theorem dX4_grow_200 : decode cX4_grow 200 = .ok (.iconst 0, 1) := by decide +kernel
theorem dX4_grow_201 : decode cX4_grow 201 = .ok (.iastore, 1) := by decide +kernel
theorem dX4_grow_202 : decode cX4_grow 202 = .ok (.iinc 7 1, 3) := by decide +kernel
theorem dX4_grow_205 : decode cX4_grow 205 = .ok (.goto (-24), 3) := by decide +kernel
theorem dX4_grow_208 : decode cX4_grow 208 = .ok (.return_, 1) := by decide +kernel
end
section
/-! decode rows (written by program) -/
theorem dX4_init_0 : decode cX4_init 0 = .ok (.aload_n 0, 1) := by decide +kernel
theorem dX4_init_1 : decode cX4_init 1 = .ok (.invokespecial 1, 3) := by decide +kernel
theorem dX4_init_4 : decode cX4_init 4 = .ok (.aload_n 0, 1) := by decide +kernel
theorem dX4_init_5 : decode cX4_init 5 = .ok (.bipush 64, 2) := by decide +kernel
theorem dX4_init_7 : decode cX4_init 7 = .ok (.newarray .int, 2) := by decide +kernel
theorem dX4_init_9 : decode cX4_init 9 = .ok (.putfield 7, 3) := by decide +kernel
theorem dX4_init_12 : decode cX4_init 12 = .ok (.aload_n 0, 1) := by decide +kernel
theorem dX4_init_13 : decode cX4_init 13 = .ok (.bipush 8, 2) := by decide +kernel
theorem dX4_init_15 : decode cX4_init 15 = .ok (.newarray .int, 2) := by decide +kernel
theorem dX4_init_17 : decode cX4_init 17 = .ok (.putfield 13, 3) := by decide +kernel
theorem dX4_init_20 : decode cX4_init 20 = .ok (.aload_n 0, 1) := by decide +kernel
theorem dX4_init_21 : decode cX4_init 21 = .ok (.bipush 8, 2) := by decide +kernel
theorem dX4_init_23 : decode cX4_init 23 = .ok (.newarray .int, 2) := by decide +kernel
theorem dX4_init_25 : decode cX4_init 25 = .ok (.putfield 16, 3) := by decide +kernel
theorem dX4_init_28 : decode cX4_init 28 = .ok (.aload_n 0, 1) := by decide +kernel
theorem dX4_init_29 : decode cX4_init 29 = .ok (.bipush 8, 2) := by decide +kernel
theorem dX4_init_31 : decode cX4_init 31 = .ok (.newarray .int, 2) := by decide +kernel
theorem dX4_init_33 : decode cX4_init 33 = .ok (.putfield 19, 3) := by decide +kernel
theorem dX4_init_36 : decode cX4_init 36 = .ok (.aload_n 0, 1) := by decide +kernel
theorem dX4_init_37 : decode cX4_init 37 = .ok (.bipush 64, 2) := by decide +kernel
theorem dX4_init_39 : decode cX4_init 39 = .ok (.newarray .int, 2) := by decide +kernel
theorem dX4_init_41 : decode cX4_init 41 = .ok (.putfield 22, 3) := by decide +kernel
theorem dX4_init_44 : decode cX4_init 44 = .ok (.aload_n 0, 1) := by decide +kernel
theorem dX4_init_45 : decode cX4_init 45 = .ok (.bipush 8, 2) := by decide +kernel
theorem dX4_init_47 : decode cX4_init 47 = .ok (.newarray .int, 2) := by decide +kernel
theorem dX4_init_49 : decode cX4_init 49 = .ok (.putfield 25, 3) := by decide +kernel
theorem dX4_init_52 : decode cX4_init 52 = .ok (.aload_n 0, 1) := by decide +kernel
theorem dX4_init_53 : decode cX4_init 53 = .ok (.bipush 8, 2) := by decide +kernel
theorem dX4_init_55 : decode cX4_init 55 = .ok (.newarray .int, 2) := by decide +kernel
theorem dX4_init_57 : decode cX4_init 57 = .ok (.putfield 28, 3) := by decide +kernel
theorem dX4_init_60 : decode cX4_init 60 = .ok (.aload_n 0, 1) := by decide +kernel
theorem dX4_init_61 : decode cX4_init 61 = .ok (.sipush 512, 3) := by decide +kernel
theorem dX4_init_64 : decode cX4_init 64 = .ok (.newarray .int, 2) := by decide +kernel
theorem dX4_init_66 : decode cX4_init 66 = .ok (.putfield 31, 3) := by decide +kernel
theorem dX4_init_69 : decode cX4_init 69 = .ok (.aload_n 0, 1) := by decide +kernel
theorem dX4_init_70 : decode cX4_init 70 = .ok (.bipush 64, 2) := by decide +kernel
theorem dX4_init_72 : decode cX4_init 72 = .ok (.newarray .int, 2) := by decide +kernel
theorem dX4_init_74 : decode cX4_init 74 = .ok (.putfield 34, 3) := by decide +kernel
theorem dX4_init_77 : decode cX4_init 77 = .ok (.aload_n 0, 1) := by decide +kernel
theorem dX4_init_78 : decode cX4_init 78 = .ok (.iconst (-1), 1) := by decide +kernel
theorem dX4_init_79 : decode cX4_init 79 = .ok (.putfield 37, 3) := by decide +kernel
theorem dX4_init_82 : decode cX4_init 82 = .ok (.aload_n 0, 1) := by decide +kernel
theorem dX4_init_83 : decode cX4_init 83 = .ok (.bipush 32, 2) := by decide +kernel
theorem dX4_init_85 : decode cX4_init 85 = .ok (.newarray .int, 2) := by decide +kernel
theorem dX4_init_87 : decode cX4_init 87 = .ok (.putfield 41, 3) := by decide +kernel
theorem dX4_init_90 : decode cX4_init 90 = .ok (.aload_n 0, 1) := by decide +kernel
theorem dX4_init_91 : decode cX4_init 91 = .ok (.iload_n 1, 1) := by decide +kernel
theorem dX4_init_92 : decode cX4_init 92 = .ok (.iconst 2, 1) := by decide +kernel
theorem dX4_init_93 : decode cX4_init 93 = .ok (.if_icmp .lt 9, 3) := by decide +kernel
theorem dX4_init_96 : decode cX4_init 96 = .ok (.iload_n 1, 1) := by decide +kernel
theorem dX4_init_97 : decode cX4_init 97 = .ok (.bipush 32, 2) := by decide +kernel
theorem dX4_init_99 : decode cX4_init 99 = .ok (.if_icmp .le 8, 3) := by decide +kernel
theorem dX4_init_102 : decode cX4_init 102 = .ok (.bipush 12, 2) := by decide +kernel
theorem dX4_init_104 : decode cX4_init 104 = .ok (.goto 4, 3) := by decide +kernel
theorem dX4_init_107 : decode cX4_init 107 = .ok (.iload_n 1, 1) := by decide +kernel
theorem dX4_init_108 : decode cX4_init 108 = .ok (.putfield 44, 3) := by decide +kernel
theorem dX4_init_111 : decode cX4_init 111 = .ok (.aload_n 0, 1) := by decide +kernel
theorem dX4_init_112 : decode cX4_init 112 = .ok (.iload_n 2, 1) := by decide +kernel
theorem dX4_init_113 : decode cX4_init 113 = .ok (.iconst 1, 1) := by decide +kernel
theorem dX4_init_114 : decode cX4_init 114 = .ok (.if_icmp .lt 9, 3) := by decide +kernel
theorem dX4_init_117 : decode cX4_init 117 = .ok (.iload_n 2, 1) := by decide +kernel
theorem dX4_init_118 : decode cX4_init 118 = .ok (.bipush 20, 2) := by decide +kernel
theorem dX4_init_120 : decode cX4_init 120 = .ok (.if_icmp .le 7, 3) := by decide +kernel
theorem dX4_init_123 : decode cX4_init 123 = .ok (.iconst 3, 1) := by decide +kernel
theorem dX4_init_124 : decode cX4_init 124 = .ok (.goto 4, 3) := by decide +kernel
theorem dX4_init_127 : decode cX4_init 127 = .ok (.iload_n 2, 1) := by decide +kernel
theorem dX4_init_128 : decode cX4_init 128 = .ok (.putfield 47, 3) := by decide +kernel
theorem dX4_init_131 : decode cX4_init 131 = .ok (.iconst 0, 1) := by decide +kernel
theorem dX4_init_132 : decode cX4_init 132 = .ok (.istore_n 3, 1) := by decide +kernel
theorem dX4_init_133 : decode cX4_init 133 = .ok (.iload_n 3, 1) := by decide +kernel
theorem dX4_init_134 : decode cX4_init 134 = .ok (.bipush 8, 2) := by decide +kernel
theorem dX4_init_136 : decode cX4_init 136 = .ok (.if_icmp .ge 16, 3) := by decide +kernel
theorem dX4_init_139 : decode cX4_init 139 = .ok (.aload_n 0, 1) := by decide +kernel
theorem dX4_init_140 : decode cX4_init 140 = .ok (.getfield 16, 3) := by decide +kernel
theorem dX4_init_143 : decode cX4_init 143 = .ok (.iload_n 3, 1) := by decide +kernel
theorem dX4_init_144 : decode cX4_init 144 = .ok (.iconst (-1), 1) := by decide +kernel
theorem dX4_init_145 : decode cX4_init 145 = .ok (.iastore, 1) := by decide +kernel
theorem dX4_init_146 : decode cX4_init 146 = .ok (.iinc 3 1, 3) := by decide +kernel
theorem dX4_init_149 : decode cX4_init 149 = .ok (.goto (-16), 3) := by decide +kernel
theorem dX4_init_152 : decode cX4_init 152 = .ok (.return_, 1) := by decide +kernel
theorem dX4_isProcess_0 : decode cX4_isProcess 0 = .ok (.iload_n 0, 1) := by decide +kernel
theorem dX4_isProcess_1 : decode cX4_isProcess 1 = .ok (.ifCond .lt 13, 3) := by decide +kernel
theorem dX4_isProcess_4 : decode cX4_isProcess 4 = .ok (.iload_n 0, 1) := by decide +kernel
theorem dX4_isProcess_5 : decode cX4_isProcess 5 = .ok (.bipush 8, 2) := by decide +kernel
theorem dX4_isProcess_7 : decode cX4_isProcess 7 = .ok (.if_icmp .ge 7, 3) := by decide +kernel
theorem dX4_isProcess_10 : decode cX4_isProcess 10 = .ok (.iconst 1, 1) := by decide +kernel
theorem dX4_isProcess_11 : decode cX4_isProcess 11 = .ok (.goto 4, 3) := by decide +kernel
theorem dX4_isProcess_14 : decode cX4_isProcess 14 = .ok (.iconst 0, 1) := by decide +kernel
theorem dX4_isProcess_15 : decode cX4_isProcess 15 = .ok (.ireturn, 1) := by decide +kernel
theorem dX4_kill_0 : decode cX4_kill 0 = .ok (.aload_n 0, 1) := by decide +kernel
theorem dX4_kill_1 : decode cX4_kill 1 = .ok (.iload_n 1, 1) := by decide +kernel
theorem dX4_kill_2 : decode cX4_kill 2 = .ok (.invokevirtual 78, 3) := by decide +kernel
theorem dX4_kill_5 : decode cX4_kill 5 = .ok (.ifCond .ne 5, 3) := by decide +kernel
theorem dX4_kill_8 : decode cX4_kill 8 = .ok (.iconst 0, 1) := by decide +kernel
theorem dX4_kill_9 : decode cX4_kill 9 = .ok (.ireturn, 1) := by decide +kernel
theorem dX4_kill_10 : decode cX4_kill 10 = .ok (.aload_n 0, 1) := by decide +kernel
theorem dX4_kill_11 : decode cX4_kill 11 = .ok (.iload_n 1, 1) := by decide +kernel
theorem dX4_kill_12 : decode cX4_kill 12 = .ok (.bipush (-14), 2) := by decide +kernel
theorem dX4_kill_14 : decode cX4_kill 14 = .ok (.invokevirtual 81, 3) := by decide +kernel
theorem dX4_kill_17 : decode cX4_kill 17 = .ok (.iconst 1, 1) := by decide +kernel
theorem dX4_kill_18 : decode cX4_kill 18 = .ok (.ireturn, 1) := by decide +kernel
theorem dX4_lives_0 : decode cX4_lives 0 = .ok (.iload_n 1, 1) := by decide +kernel
theorem dX4_lives_1 : decode cX4_lives 1 = .ok (.invokestatic 68, 3) := by decide +kernel
theorem dX4_lives_4 : decode cX4_lives 4 = .ok (.ifCond .eq 27, 3) := by decide +kernel
theorem dX4_lives_7 : decode cX4_lives 7 = .ok (.aload_n 0, 1) := by decide +kernel
theorem dX4_lives_8 : decode cX4_lives 8 = .ok (.getfield 13, 3) := by decide +kernel
theorem dX4_lives_11 : decode cX4_lives 11 = .ok (.iload_n 1, 1) := by decide +kernel
theorem dX4_lives_12 : decode cX4_lives 12 = .ok (.iaload, 1) := by decide +kernel
theorem dX4_lives_13 : decode cX4_lives 13 = .ok (.iconst 1, 1) := by decide +kernel
theorem dX4_lives_14 : decode cX4_lives 14 = .ok (.if_icmp .eq 13, 3) := by decide +kernel
theorem dX4_lives_17 : decode cX4_lives 17 = .ok (.aload_n 0, 1) := by decide +kernel
theorem dX4_lives_18 : decode cX4_lives 18 = .ok (.getfield 13, 3) := by decide +kernel
theorem dX4_lives_21 : decode cX4_lives 21 = .ok (.iload_n 1, 1) := by decide +kernel
theorem dX4_lives_22 : decode cX4_lives 22 = .ok (.iaload, 1) := by decide +kernel
theorem dX4_lives_23 : decode cX4_lives 23 = .ok (.iconst 2, 1) := by decide +kernel
theorem dX4_lives_24 : decode cX4_lives 24 = .ok (.if_icmp .ne 7, 3) := by decide +kernel
theorem dX4_lives_27 : decode cX4_lives 27 = .ok (.iconst 1, 1) := by decide +kernel
theorem dX4_lives_28 : decode cX4_lives 28 = .ok (.goto 4, 3) := by decide +kernel
theorem dX4_lives_31 : decode cX4_lives 31 = .ok (.iconst 0, 1) := by decide +kernel
theorem dX4_lives_32 : decode cX4_lives 32 = .ok (.ireturn, 1) := by decide +kernel
theorem dX4_load_0 : decode cX4_load 0 = .ok (.iload_n 1, 1) := by decide +kernel
theorem dX4_load_1 : decode cX4_load 1 = .ok (.iconst 1, 1) := by decide +kernel
theorem dX4_load_2 : decode cX4_load 2 = .ok (.if_icmp .lt 9, 3) := by decide +kernel
theorem dX4_load_5 : decode cX4_load 5 = .ok (.iload_n 1, 1) := by decide +kernel
theorem dX4_load_6 : decode cX4_load 6 = .ok (.bipush 64, 2) := by decide +kernel
theorem dX4_load_8 : decode cX4_load 8 = .ok (.if_icmp .le 6, 3) := by decide +kernel
theorem dX4_load_11 : decode cX4_load 11 = .ok (.bipush (-16), 2) := by decide +kernel
theorem dX4_load_13 : decode cX4_load 13 = .ok (.ireturn, 1) := by decide +kernel
theorem dX4_load_14 : decode cX4_load 14 = .ok (.aload_n 0, 1) := by decide +kernel
theorem dX4_load_15 : decode cX4_load 15 = .ok (.invokevirtual 71, 3) := by decide +kernel
theorem dX4_load_18 : decode cX4_load 18 = .ok (.istore_n 2, 1) := by decide +kernel
theorem dX4_load_19 : decode cX4_load 19 = .ok (.iload_n 2, 1) := by decide +kernel
theorem dX4_load_20 : decode cX4_load 20 = .ok (.iconst (-1), 1) := by decide +kernel
theorem dX4_load_21 : decode cX4_load 21 = .ok (.if_icmp .ne 6, 3) := by decide +kernel
theorem dX4_load_24 : decode cX4_load 24 = .ok (.bipush (-15), 2) := by decide +kernel
theorem dX4_load_26 : decode cX4_load 26 = .ok (.ireturn, 1) := by decide +kernel
theorem dX4_load_27 : decode cX4_load 27 = .ok (.iload_n 1, 1) := by decide +kernel
theorem dX4_load_28 : decode cX4_load 28 = .ok (.bipush 7, 2) := by decide +kernel
theorem dX4_load_30 : decode cX4_load 30 = .ok (.iadd, 1) := by decide +kernel
theorem dX4_load_31 : decode cX4_load 31 = .ok (.bipush 8, 2) := by decide +kernel
theorem dX4_load_33 : decode cX4_load 33 = .ok (.idiv, 1) := by decide +kernel
theorem dX4_load_34 : decode cX4_load 34 = .ok (.istore_n 3, 1) := by decide +kernel
theorem dX4_load_35 : decode cX4_load 35 = .ok (.aload_n 0, 1) := by decide +kernel
theorem dX4_load_36 : decode cX4_load 36 = .ok (.invokevirtual 50, 3) := by decide +kernel
theorem dX4_load_39 : decode cX4_load 39 = .ok (.iload_n 3, 1) := by decide +kernel
theorem dX4_load_40 : decode cX4_load 40 = .ok (.iadd, 1) := by decide +kernel
theorem dX4_load_41 : decode cX4_load 41 = .ok (.aload_n 0, 1) := by decide +kernel
theorem dX4_load_42 : decode cX4_load 42 = .ok (.getfield 44, 3) := by decide +kernel
theorem dX4_load_45 : decode cX4_load 45 = .ok (.if_icmp .le 6, 3) := by decide +kernel
theorem dX4_load_48 : decode cX4_load 48 = .ok (.bipush (-13), 2) := by decide +kernel
theorem dX4_load_50 : decode cX4_load 50 = .ok (.ireturn, 1) := by decide +kernel
theorem dX4_load_51 : decode cX4_load 51 = .ok (.aload_n 0, 1) := by decide +kernel
theorem dX4_load_52 : decode cX4_load 52 = .ok (.getfield 13, 3) := by decide +kernel
theorem dX4_load_55 : decode cX4_load 55 = .ok (.iload_n 2, 1) := by decide +kernel
theorem dX4_load_56 : decode cX4_load 56 = .ok (.iconst 1, 1) := by decide +kernel
theorem dX4_load_57 : decode cX4_load 57 = .ok (.iastore, 1) := by decide +kernel
theorem dX4_load_58 : decode cX4_load 58 = .ok (.aload_n 0, 1) := by decide +kernel
theorem dX4_load_59 : decode cX4_load 59 = .ok (.getfield 16, 3) := by decide +kernel
theorem dX4_load_62 : decode cX4_load 62 = .ok (.iload_n 2, 1) := by decide +kernel
theorem dX4_load_63 : decode cX4_load 63 = .ok (.iconst (-1), 1) := by decide +kernel
theorem dX4_load_64 : decode cX4_load 64 = .ok (.iastore, 1) := by decide +kernel
theorem dX4_load_65 : decode cX4_load 65 = .ok (.aload_n 0, 1) := by decide +kernel
theorem dX4_load_66 : decode cX4_load 66 = .ok (.getfield 25, 3) := by decide +kernel
theorem dX4_load_69 : decode cX4_load 69 = .ok (.iload_n 2, 1) := by decide +kernel
theorem dX4_load_70 : decode cX4_load 70 = .ok (.iconst 0, 1) := by decide +kernel
theorem dX4_load_71 : decode cX4_load 71 = .ok (.iastore, 1) := by decide +kernel
theorem dX4_load_72 : decode cX4_load 72 = .ok (.aload_n 0, 1) := by decide +kernel
theorem dX4_load_73 : decode cX4_load 73 = .ok (.getfield 28, 3) := by decide +kernel
theorem dX4_load_76 : decode cX4_load 76 = .ok (.iload_n 2, 1) := by decide +kernel
theorem dX4_load_77 : decode cX4_load 77 = .ok (.iload_n 1, 1) := by decide +kernel
theorem dX4_load_78 : decode cX4_load 78 = .ok (.iastore, 1) := by decide +kernel
theorem dX4_load_79 : decode cX4_load 79 = .ok (.iconst 0, 1) := by decide +kernel
theorem dX4_load_80 : decode cX4_load 80 = .ok (.istore 4, 2) := by decide +kernel
theorem dX4_load_82 : decode cX4_load 82 = .ok (.iload 4, 2) := by decide +kernel
theorem dX4_load_84 : decode cX4_load 84 = .ok (.bipush 8, 2) := by decide +kernel
theorem dX4_load_86 : decode cX4_load 86 = .ok (.if_icmp .ge 22, 3) := by decide +kernel
theorem dX4_load_89 : decode cX4_load 89 = .ok (.aload_n 0, 1) := by decide +kernel
theorem dX4_load_90 : decode cX4_load 90 = .ok (.getfield 22, 3) := by decide +kernel
theorem dX4_load_93 : decode cX4_load 93 = .ok (.bipush 8, 2) := by decide +kernel
theorem dX4_load_95 : decode cX4_load 95 = .ok (.iload_n 2, 1) := by decide +kernel
theorem dX4_load_96 : decode cX4_load 96 = .ok (.imul, 1) := by decide +kernel
theorem dX4_load_97 : decode cX4_load 97 = .ok (.iload 4, 2) := by decide +kernel
theorem dX4_load_99 : decode cX4_load 99 = .ok (.iadd, 1) := by decide +kernel
theorem dX4_load_100 : decode cX4_load 100 = .ok (.iconst 0, 1) := by decide +kernel
theorem dX4_load_101 : decode cX4_load 101 = .ok (.iastore, 1) := by decide +kernel
theorem dX4_load_102 : decode cX4_load 102 = .ok (.iinc 4 1, 3) := by decide +kernel
theorem dX4_load_105 : decode cX4_load 105 = .ok (.goto (-23), 3) := by decide +kernel
theorem dX4_load_108 : decode cX4_load 108 = .ok (.iconst 0, 1) := by decide +kernel
theorem dX4_load_109 : decode cX4_load 109 = .ok (.istore 4, 2) := by decide +kernel
theorem dX4_load_111 : decode cX4_load 111 = .ok (.iload 4, 2) := by decide +kernel
theorem dX4_load_113 : decode cX4_load 113 = .ok (.bipush 64, 2) := by decide +kernel
theorem dX4_load_115 : decode cX4_load 115 = .ok (.if_icmp .ge 38, 3) := by decide +kernel
theorem dX4_load_118 : decode cX4_load 118 = .ok (.aload_n 0, 1) := by decide +kernel
theorem dX4_load_119 : decode cX4_load 119 = .ok (.getfield 31, 3) := by decide +kernel
theorem dX4_load_122 : decode cX4_load 122 = .ok (.bipush 64, 2) := by decide +kernel
theorem dX4_load_124 : decode cX4_load 124 = .ok (.iload_n 2, 1) := by decide +kernel
theorem dX4_load_125 : decode cX4_load 125 = .ok (.imul, 1) := by decide +kernel
theorem dX4_load_126 : decode cX4_load 126 = .ok (.iload 4, 2) := by decide +kernel
theorem dX4_load_128 : decode cX4_load 128 = .ok (.iadd, 1) := by decide +kernel
theorem dX4_load_129 : decode cX4_load 129 = .ok (.iload 4, 2) := by decide +kernel
theorem dX4_load_131 : decode cX4_load 131 = .ok (.iload_n 1, 1) := by decide +kernel
theorem dX4_load_132 : decode cX4_load 132 = .ok (.if_icmp .ge 13, 3) := by decide +kernel
theorem dX4_load_135 : decode cX4_load 135 = .ok (.aload_n 0, 1) := by decide +kernel
theorem dX4_load_136 : decode cX4_load 136 = .ok (.getfield 7, 3) := by decide +kernel
theorem dX4_load_139 : decode cX4_load 139 = .ok (.iload 4, 2) := by decide +kernel
theorem dX4_load_141 : decode cX4_load 141 = .ok (.iaload, 1) := by decide +kernel
theorem dX4_load_142 : decode cX4_load 142 = .ok (.goto 4, 3) := by decide +kernel
theorem dX4_load_145 : decode cX4_load 145 = .ok (.iconst 0, 1) := by decide +kernel
theorem dX4_load_146 : decode cX4_load 146 = .ok (.iastore, 1) := by decide +kernel
theorem dX4_load_147 : decode cX4_load 147 = .ok (.iinc 4 1, 3) := by decide +kernel
theorem dX4_load_150 : decode cX4_load 150 = .ok (.goto (-39), 3) := by decide +kernel
theorem dX4_load_153 : decode cX4_load 153 = .ok (.iconst 0, 1) := by decide +kernel
theorem dX4_load_154 : decode cX4_load 154 = .ok (.istore 4, 2) := by decide +kernel
theorem dX4_load_156 : decode cX4_load 156 = .ok (.iload 4, 2) := by decide +kernel
theorem dX4_load_158 : decode cX4_load 158 = .ok (.bipush 8, 2) := by decide +kernel
theorem dX4_load_160 : decode cX4_load 160 = .ok (.if_icmp .ge 45, 3) := by decide +kernel
theorem dX4_load_163 : decode cX4_load 163 = .ok (.aload_n 0, 1) := by decide +kernel
theorem dX4_load_164 : decode cX4_load 164 = .ok (.dup, 1) := by decide +kernel
theorem dX4_load_165 : decode cX4_load 165 = .ok (.getfield 57, 3) := by decide +kernel
theorem dX4_load_168 : decode cX4_load 168 = .ok (.iconst 1, 1) := by decide +kernel
theorem dX4_load_169 : decode cX4_load 169 = .ok (.iadd, 1) := by decide +kernel
theorem dX4_load_170 : decode cX4_load 170 = .ok (.putfield 57, 3) := by decide +kernel
theorem dX4_load_173 : decode cX4_load 173 = .ok (.aload_n 0, 1) := by decide +kernel
theorem dX4_load_174 : decode cX4_load 174 = .ok (.getfield 34, 3) := by decide +kernel
theorem dX4_load_177 : decode cX4_load 177 = .ok (.bipush 8, 2) := by decide +kernel
theorem dX4_load_179 : decode cX4_load 179 = .ok (.iload_n 2, 1) := by decide +kernel
theorem dX4_load_180 : decode cX4_load 180 = .ok (.imul, 1) := by decide +kernel
theorem dX4_load_181 : decode cX4_load 181 = .ok (.iload 4, 2) := by decide +kernel
theorem dX4_load_183 : decode cX4_load 183 = .ok (.iadd, 1) := by decide +kernel
theorem dX4_load_184 : decode cX4_load 184 = .ok (.iload 4, 2) := by decide +kernel
theorem dX4_load_186 : decode cX4_load 186 = .ok (.iload_n 3, 1) := by decide +kernel
theorem dX4_load_187 : decode cX4_load 187 = .ok (.if_icmp .ge 10, 3) := by decide +kernel
theorem dX4_load_190 : decode cX4_load 190 = .ok (.aload_n 0, 1) := by decide +kernel
theorem dX4_load_191 : decode cX4_load 191 = .ok (.getfield 57, 3) := by decide +kernel
theorem dX4_load_194 : decode cX4_load 194 = .ok (.goto 4, 3) := by decide +kernel
theorem dX4_load_197 : decode cX4_load 197 = .ok (.iconst 0, 1) := by decide +kernel
theorem dX4_load_198 : decode cX4_load 198 = .ok (.iastore, 1) := by decide +kernel
theorem dX4_load_199 : decode cX4_load 199 = .ok (.iinc 4 1, 3) := by decide +kernel
theorem dX4_load_202 : decode cX4_load 202 = .ok (.goto (-46), 3) := by decide +kernel
theorem dX4_load_205 : decode cX4_load 205 = .ok (.iload_n 2, 1) := by decide +kernel
theorem dX4_load_206 : decode cX4_load 206 = .ok (.ireturn, 1) := by decide +kernel
theorem dX4_parent_0 : decode cX4_parent 0 = .ok (.iload_n 1, 1) := by decide +kernel
theorem dX4_parent_1 : decode cX4_parent 1 = .ok (.invokestatic 68, 3) := by decide +kernel
theorem dX4_parent_4 : decode cX4_parent 4 = .ok (.ifCond .eq 21, 3) := by decide +kernel
theorem dX4_parent_7 : decode cX4_parent 7 = .ok (.aload_n 0, 1) := by decide +kernel
theorem dX4_parent_8 : decode cX4_parent 8 = .ok (.getfield 13, 3) := by decide +kernel
theorem dX4_parent_11 : decode cX4_parent 11 = .ok (.iload_n 1, 1) := by decide +kernel
theorem dX4_parent_12 : decode cX4_parent 12 = .ok (.iaload, 1) := by decide +kernel
theorem dX4_parent_13 : decode cX4_parent 13 = .ok (.ifCond .eq 12, 3) := by decide +kernel
theorem dX4_parent_16 : decode cX4_parent 16 = .ok (.aload_n 0, 1) := by decide +kernel
theorem dX4_parent_17 : decode cX4_parent 17 = .ok (.getfield 16, 3) := by decide +kernel
theorem dX4_parent_20 : decode cX4_parent 20 = .ok (.iload_n 1, 1) := by decide +kernel
theorem dX4_parent_21 : decode cX4_parent 21 = .ok (.iaload, 1) := by decide +kernel
theorem dX4_parent_22 : decode cX4_parent 22 = .ok (.goto 4, 3) := by decide +kernel
theorem dX4_parent_25 : decode cX4_parent 25 = .ok (.iconst (-1), 1) := by decide +kernel
theorem dX4_parent_26 : decode cX4_parent 26 = .ok (.ireturn, 1) := by decide +kernel
theorem dX4_peek_0 : decode cX4_peek 0 = .ok (.aload_n 0, 1) := by decide +kernel
theorem dX4_peek_1 : decode cX4_peek 1 = .ok (.iload_n 1, 1) := by decide +kernel
theorem dX4_peek_2 : decode cX4_peek 2 = .ok (.invokevirtual 78, 3) := by decide +kernel
theorem dX4_peek_5 : decode cX4_peek 5 = .ok (.ifCond .eq 31, 3) := by decide +kernel
theorem dX4_peek_8 : decode cX4_peek 8 = .ok (.iload_n 2, 1) := by decide +kernel
theorem dX4_peek_9 : decode cX4_peek 9 = .ok (.ifCond .lt 27, 3) := by decide +kernel
theorem dX4_peek_12 : decode cX4_peek 12 = .ok (.iload_n 2, 1) := by decide +kernel
theorem dX4_peek_13 : decode cX4_peek 13 = .ok (.aload_n 0, 1) := by decide +kernel
theorem dX4_peek_14 : decode cX4_peek 14 = .ok (.getfield 28, 3) := by decide +kernel
theorem dX4_peek_17 : decode cX4_peek 17 = .ok (.iload_n 1, 1) := by decide +kernel
theorem dX4_peek_18 : decode cX4_peek 18 = .ok (.iaload, 1) := by decide +kernel
theorem dX4_peek_19 : decode cX4_peek 19 = .ok (.if_icmp .ge 17, 3) := by decide +kernel
theorem dX4_peek_22 : decode cX4_peek 22 = .ok (.aload_n 0, 1) := by decide +kernel
theorem dX4_peek_23 : decode cX4_peek 23 = .ok (.getfield 31, 3) := by decide +kernel
theorem dX4_peek_26 : decode cX4_peek 26 = .ok (.bipush 64, 2) := by decide +kernel
theorem dX4_peek_28 : decode cX4_peek 28 = .ok (.iload_n 1, 1) := by decide +kernel
theorem dX4_peek_29 : decode cX4_peek 29 = .ok (.imul, 1) := by decide +kernel
theorem dX4_peek_30 : decode cX4_peek 30 = .ok (.iload_n 2, 1) := by decide +kernel
theorem dX4_peek_31 : decode cX4_peek 31 = .ok (.iadd, 1) := by decide +kernel
theorem dX4_peek_32 : decode cX4_peek 32 = .ok (.iaload, 1) := by decide +kernel
theorem dX4_peek_33 : decode cX4_peek 33 = .ok (.goto 4, 3) := by decide +kernel
theorem dX4_peek_36 : decode cX4_peek 36 = .ok (.iconst 0, 1) := by decide +kernel
theorem dX4_peek_37 : decode cX4_peek 37 = .ok (.ireturn, 1) := by decide +kernel
theorem dX4_perform_0 : decode cX4_perform 0 = .ok (.iload_n 2, 1) := by decide +kernel
theorem dX4_perform_1 : decode cX4_perform 1 = .ok (.bipush 15, 2) := by decide +kernel
theorem dX4_perform_3 : decode cX4_perform 3 = .ok (.iand, 1) := by decide +kernel
theorem dX4_perform_4 : decode cX4_perform 4 = .ok (.istore_n 3, 1) := by decide +kernel
theorem dX4_perform_5 : decode cX4_perform 5 = .ok (.iload_n 2, 1) := by decide +kernel
theorem dX4_perform_6 : decode cX4_perform 6 = .ok (.iconst 4, 1) := by decide +kernel
theorem dX4_perform_7 : decode cX4_perform 7 = .ok (.ishr, 1) := by decide +kernel
theorem dX4_perform_8 : decode cX4_perform 8 = .ok (.bipush 7, 2) := by decide +kernel
theorem dX4_perform_10 : decode cX4_perform 10 = .ok (.iand, 1) := by decide +kernel
theorem dX4_perform_11 : decode cX4_perform 11 = .ok (.istore 4, 2) := by decide +kernel
theorem dX4_perform_13 : decode cX4_perform 13 = .ok (.iload_n 2, 1) := by decide +kernel
theorem dX4_perform_14 : decode cX4_perform 14 = .ok (.bipush 7, 2) := by decide +kernel
theorem dX4_perform_16 : decode cX4_perform 16 = .ok (.ishr, 1) := by decide +kernel
theorem dX4_perform_17 : decode cX4_perform 17 = .ok (.bipush 7, 2) := by decide +kernel
theorem dX4_perform_19 : decode cX4_perform 19 = .ok (.iand, 1) := by decide +kernel
theorem dX4_perform_20 : decode cX4_perform 20 = .ok (.istore 5, 2) := by decide +kernel
theorem dX4_perform_22 : decode cX4_perform 22 = .ok (.iload_n 2, 1) := by decide +kernel
theorem dX4_perform_23 : decode cX4_perform 23 = .ok (.bipush 10, 2) := by decide +kernel
theorem dX4_perform_25 : decode cX4_perform 25 = .ok (.ishr, 1) := by decide +kernel
theorem dX4_perform_26 : decode cX4_perform 26 = .ok (.istore 6, 2) := by decide +kernel
theorem dX4_perform_28 : decode cX4_perform 28 = .ok (.iload_n 3, 1) := by decide +kernel
theorem dX4_perform_29 : decode cX4_perform 29 = .ok (.bipush 8, 2) := by decide +kernel
theorem dX4_perform_31 : decode cX4_perform 31 = .ok (.if_icmp .ge 16, 3) := by decide +kernel
theorem dX4_perform_34 : decode cX4_perform 34 = .ok (.aload_n 0, 1) := by decide +kernel
theorem dX4_perform_35 : decode cX4_perform 35 = .ok (.iload_n 1, 1) := by decide +kernel
theorem dX4_perform_36 : decode cX4_perform 36 = .ok (.iload_n 3, 1) := by decide +kernel
theorem dX4_perform_37 : decode cX4_perform 37 = .ok (.iload 4, 2) := by decide +kernel
theorem dX4_perform_39 : decode cX4_perform 39 = .ok (.iload 5, 2) := by decide +kernel
theorem dX4_perform_41 : decode cX4_perform 41 = .ok (.iload 6, 2) := by decide +kernel
theorem dX4_perform_43 : decode cX4_perform 43 = .ok (.invokevirtual 98, 3) := by decide +kernel
theorem dX4_perform_46 : decode cX4_perform 46 = .ok (.ireturn, 1) := by decide +kernel
theorem dX4_perform_47 : decode cX4_perform 47 = .ok (.iload_n 3, 1) := by decide +kernel
theorem dX4_perform_48 : decode cX4_perform 48 = .ok (.bipush 8, 2) := by decide +kernel
theorem dX4_perform_50 : decode cX4_perform 50 = .ok (.if_icmp .ne 11, 3) := by decide +kernel
theorem dX4_perform_53 : decode cX4_perform 53 = .ok (.aload_n 0, 1) := by decide +kernel
theorem dX4_perform_54 : decode cX4_perform 54 = .ok (.iload_n 1, 1) := by decide +kernel
theorem dX4_perform_55 : decode cX4_perform 55 = .ok (.iload 4, 2) := by decide +kernel
theorem dX4_perform_57 : decode cX4_perform 57 = .ok (.invokevirtual 102, 3) := by decide +kernel
theorem dX4_perform_60 : decode cX4_perform 60 = .ok (.ireturn, 1) := by decide +kernel
theorem dX4_perform_61 : decode cX4_perform 61 = .ok (.iload_n 3, 1) := by decide +kernel
theorem dX4_perform_62 : decode cX4_perform 62 = .ok (.bipush 9, 2) := by decide +kernel
theorem dX4_perform_64 : decode cX4_perform 64 = .ok (.if_icmp .ne 12, 3) := by decide +kernel
theorem dX4_perform_67 : decode cX4_perform 67 = .ok (.aload_n 0, 1) := by decide +kernel
theorem dX4_perform_68 : decode cX4_perform 68 = .ok (.iload_n 1, 1) := by decide +kernel
theorem dX4_perform_69 : decode cX4_perform 69 = .ok (.iload 4, 2) := by decide +kernel
theorem dX4_perform_71 : decode cX4_perform 71 = .ok (.iload 6, 2) := by decide +kernel
theorem dX4_perform_73 : decode cX4_perform 73 = .ok (.invokevirtual 106, 3) := by decide +kernel
theorem dX4_perform_76 : decode cX4_perform 76 = .ok (.iload_n 3, 1) := by decide +kernel
theorem dX4_perform_77 : decode cX4_perform 77 = .ok (.bipush 11, 2) := by decide +kernel
theorem dX4_perform_79 : decode cX4_perform 79 = .ok (.if_icmp .ne 11, 3) := by decide +kernel
theorem dX4_perform_82 : decode cX4_perform 82 = .ok (.aload_n 0, 1) := by decide +kernel
theorem dX4_perform_83 : decode cX4_perform 83 = .ok (.iload_n 1, 1) := by decide +kernel
theorem dX4_perform_84 : decode cX4_perform 84 = .ok (.iload 4, 2) := by decide +kernel
theorem dX4_perform_86 : decode cX4_perform 86 = .ok (.invokevirtual 110, 3) := by decide +kernel
theorem dX4_perform_89 : decode cX4_perform 89 = .ok (.ireturn, 1) := by decide +kernel
theorem dX4_perform_90 : decode cX4_perform 90 = .ok (.iload_n 3, 1) := by decide +kernel
theorem dX4_perform_91 : decode cX4_perform 91 = .ok (.bipush 12, 2) := by decide +kernel
theorem dX4_perform_93 : decode cX4_perform 93 = .ok (.if_icmp .ne 11, 3) := by decide +kernel
theorem dX4_perform_96 : decode cX4_perform 96 = .ok (.aload_n 0, 1) := by decide +kernel
theorem dX4_perform_97 : decode cX4_perform 97 = .ok (.aload_n 0, 1) := by decide +kernel
theorem dX4_perform_98 : decode cX4_perform 98 = .ok (.getfield 47, 3) := by decide +kernel
theorem dX4_perform_101 : decode cX4_perform 101 = .ok (.putfield 88, 3) := by decide +kernel
theorem dX4_perform_104 : decode cX4_perform 104 = .ok (.iload_n 3, 1) := by decide +kernel
theorem dX4_perform_105 : decode cX4_perform 105 = .ok (.bipush 13, 2) := by decide +kernel
theorem dX4_perform_107 : decode cX4_perform 107 = .ok (.if_icmp .ne 16, 3) := by decide +kernel
theorem dX4_perform_110 : decode cX4_perform 110 = .ok (.aload_n 0, 1) := by decide +kernel
theorem dX4_perform_111 : decode cX4_perform 111 = .ok (.getfield 22, 3) := by decide +kernel
theorem dX4_perform_114 : decode cX4_perform 114 = .ok (.bipush 8, 2) := by decide +kernel
theorem dX4_perform_116 : decode cX4_perform 116 = .ok (.iload_n 1, 1) := by decide +kernel
theorem dX4_perform_117 : decode cX4_perform 117 = .ok (.imul, 1) := by decide +kernel
theorem dX4_perform_118 : decode cX4_perform 118 = .ok (.iload 4, 2) := by decide +kernel
theorem dX4_perform_120 : decode cX4_perform 120 = .ok (.iadd, 1) := by decide +kernel
theorem dX4_perform_121 : decode cX4_perform 121 = .ok (.iload_n 1, 1) := by decide +kernel
theorem dX4_perform_122 : decode cX4_perform 122 = .ok (.iastore, 1) := by decide +kernel
theorem dX4_perform_123 : decode cX4_perform 123 = .ok (.iload_n 3, 1) := by decide +kernel
theorem dX4_perform_124 : decode cX4_perform 124 = .ok (.bipush 13, 2) := by decide +kernel
theorem dX4_perform_126 : decode cX4_perform 126 = .ok (.if_icmp .le 9, 3) := by decide +kernel
theorem dX4_perform_129 : decode cX4_perform 129 = .ok (.aload_n 0, 1) := by decide +kernel
theorem dX4_perform_130 : decode cX4_perform 130 = .ok (.bipush (-12), 2) := by decide +kernel
theorem dX4_perform_132 : decode cX4_perform 132 = .ok (.putfield 54, 3) := by decide +kernel
theorem dX4_perform_135 : decode cX4_perform 135 = .ok (.iload_n 3, 1) := by decide +kernel
theorem dX4_perform_136 : decode cX4_perform 136 = .ok (.bipush 10, 2) := by decide +kernel
theorem dX4_perform_138 : decode cX4_perform 138 = .ok (.if_icmp .ne 22, 3) := by decide +kernel
theorem dX4_perform_141 : decode cX4_perform 141 = .ok (.aload_n 0, 1) := by decide +kernel
theorem dX4_perform_142 : decode cX4_perform 142 = .ok (.iload_n 1, 1) := by decide +kernel
theorem dX4_perform_143 : decode cX4_perform 143 = .ok (.aload_n 0, 1) := by decide +kernel
theorem dX4_perform_144 : decode cX4_perform 144 = .ok (.getfield 22, 3) := by decide +kernel
theorem dX4_perform_147 : decode cX4_perform 147 = .ok (.bipush 8, 2) := by decide +kernel
theorem dX4_perform_149 : decode cX4_perform 149 = .ok (.iload_n 1, 1) := by decide +kernel
theorem dX4_perform_150 : decode cX4_perform 150 = .ok (.imul, 1) := by decide +kernel
theorem dX4_perform_151 : decode cX4_perform 151 = .ok (.iload 4, 2) := by decide +kernel
theorem dX4_perform_153 : decode cX4_perform 153 = .ok (.iadd, 1) := by decide +kernel
theorem dX4_perform_154 : decode cX4_perform 154 = .ok (.iaload, 1) := by decide +kernel
theorem dX4_perform_155 : decode cX4_perform 155 = .ok (.invokevirtual 81, 3) := by decide +kernel
theorem dX4_perform_158 : decode cX4_perform 158 = .ok (.iconst 5, 1) := by decide +kernel
theorem dX4_perform_159 : decode cX4_perform 159 = .ok (.ireturn, 1) := by decide +kernel
theorem dX4_perform_160 : decode cX4_perform 160 = .ok (.iconst 1, 1) := by decide +kernel
theorem dX4_perform_161 : decode cX4_perform 161 = .ok (.ireturn, 1) := by decide +kernel
theorem dX4_print_0 : decode cX4_print 0 = .ok (.iload_n 1, 1) := by decide +kernel
theorem dX4_print_1 : decode cX4_print 1 = .ok (.ifCond .lt 36, 3) := by decide +kernel
theorem dX4_print_4 : decode cX4_print 4 = .ok (.iload_n 1, 1) := by decide +kernel
theorem dX4_print_5 : decode cX4_print 5 = .ok (.bipush 32, 2) := by decide +kernel
theorem dX4_print_7 : decode cX4_print 7 = .ok (.if_icmp .ge 30, 3) := by decide +kernel
theorem dX4_print_10 : decode cX4_print 10 = .ok (.iload_n 1, 1) := by decide +kernel
theorem dX4_print_11 : decode cX4_print 11 = .ok (.aload_n 0, 1) := by decide +kernel
theorem dX4_print_12 : decode cX4_print 12 = .ok (.getfield 95, 3) := by decide +kernel
theorem dX4_print_15 : decode cX4_print 15 = .ok (.if_icmp .ge 22, 3) := by decide +kernel
theorem dX4_print_18 : decode cX4_print 18 = .ok (.aload_n 0, 1) := by decide +kernel
theorem dX4_print_19 : decode cX4_print 19 = .ok (.getfield 41, 3) := by decide +kernel
theorem dX4_print_22 : decode cX4_print 22 = .ok (.aload_n 0, 1) := by decide +kernel
theorem dX4_print_23 : decode cX4_print 23 = .ok (.getfield 95, 3) := by decide +kernel
theorem dX4_print_26 : decode cX4_print 26 = .ok (.iconst 1, 1) := by decide +kernel
theorem dX4_print_27 : decode cX4_print 27 = .ok (.isub, 1) := by decide +kernel
theorem dX4_print_28 : decode cX4_print 28 = .ok (.iload_n 1, 1) := by decide +kernel
theorem dX4_print_29 : decode cX4_print 29 = .ok (.isub, 1) := by decide +kernel
theorem dX4_print_30 : decode cX4_print 30 = .ok (.bipush 32, 2) := by decide +kernel
theorem dX4_print_32 : decode cX4_print 32 = .ok (.irem, 1) := by decide +kernel
theorem dX4_print_33 : decode cX4_print 33 = .ok (.iaload, 1) := by decide +kernel
theorem dX4_print_34 : decode cX4_print 34 = .ok (.goto 4, 3) := by decide +kernel
theorem dX4_print_37 : decode cX4_print 37 = .ok (.iconst 0, 1) := by decide +kernel
theorem dX4_print_38 : decode cX4_print 38 = .ok (.ireturn, 1) := by decide +kernel
theorem dX4_printed_0 : decode cX4_printed 0 = .ok (.aload_n 0, 1) := by decide +kernel
theorem dX4_printed_1 : decode cX4_printed 1 = .ok (.getfield 95, 3) := by decide +kernel
theorem dX4_printed_4 : decode cX4_printed 4 = .ok (.ireturn, 1) := by decide +kernel
end
section
/-! decode rows (written by program) -/
theorem dX4_reach_0 : decode cX4_reach 0 = .ok (.iload_n 2, 1) := by decide +kernel
theorem dX4_reach_1 : decode cX4_reach 1 = .ok (.ifCond .lt 13, 3) := by decide +kernel
theorem dX4_reach_4 : decode cX4_reach 4 = .ok (.iload_n 2, 1) := by decide +kernel
theorem dX4_reach_5 : decode cX4_reach 5 = .ok (.aload_n 0, 1) := by decide +kernel
theorem dX4_reach_6 : decode cX4_reach 6 = .ok (.getfield 28, 3) := by decide +kernel
theorem dX4_reach_9 : decode cX4_reach 9 = .ok (.iload_n 1, 1) := by decide +kernel
theorem dX4_reach_10 : decode cX4_reach 10 = .ok (.iaload, 1) := by decide +kernel
theorem dX4_reach_11 : decode cX4_reach 11 = .ok (.if_icmp .lt 11, 3) := by decide +kernel
theorem dX4_reach_14 : decode cX4_reach 14 = .ok (.aload_n 0, 1) := by decide +kernel
theorem dX4_reach_15 : decode cX4_reach 15 = .ok (.bipush (-11), 2) := by decide +kernel
theorem dX4_reach_17 : decode cX4_reach 17 = .ok (.putfield 54, 3) := by decide +kernel
theorem dX4_reach_20 : decode cX4_reach 20 = .ok (.iconst 0, 1) := by decide +kernel
theorem dX4_reach_21 : decode cX4_reach 21 = .ok (.ireturn, 1) := by decide +kernel
theorem dX4_reach_22 : decode cX4_reach 22 = .ok (.bipush 8, 2) := by decide +kernel
theorem dX4_reach_24 : decode cX4_reach 24 = .ok (.iload_n 1, 1) := by decide +kernel
theorem dX4_reach_25 : decode cX4_reach 25 = .ok (.imul, 1) := by decide +kernel
theorem dX4_reach_26 : decode cX4_reach 26 = .ok (.iload_n 2, 1) := by decide +kernel
theorem dX4_reach_27 : decode cX4_reach 27 = .ok (.bipush 8, 2) := by decide +kernel
theorem dX4_reach_29 : decode cX4_reach 29 = .ok (.idiv, 1) := by decide +kernel
theorem dX4_reach_30 : decode cX4_reach 30 = .ok (.iadd, 1) := by decide +kernel
theorem dX4_reach_31 : decode cX4_reach 31 = .ok (.istore 4, 2) := by decide +kernel
theorem dX4_reach_33 : decode cX4_reach 33 = .ok (.aload_n 0, 1) := by decide +kernel
theorem dX4_reach_34 : decode cX4_reach 34 = .ok (.iload 4, 2) := by decide +kernel
theorem dX4_reach_36 : decode cX4_reach 36 = .ok (.invokevirtual 60, 3) := by decide +kernel
theorem dX4_reach_39 : decode cX4_reach 39 = .ok (.istore 5, 2) := by decide +kernel
theorem dX4_reach_41 : decode cX4_reach 41 = .ok (.iload 5, 2) := by decide +kernel
theorem dX4_reach_43 : decode cX4_reach 43 = .ok (.ifCond .le 13, 3) := by decide +kernel
theorem dX4_reach_46 : decode cX4_reach 46 = .ok (.iload_n 3, 1) := by decide +kernel
theorem dX4_reach_47 : decode cX4_reach 47 = .ok (.ifCond .eq 18, 3) := by decide +kernel
theorem dX4_reach_50 : decode cX4_reach 50 = .ok (.iload 5, 2) := by decide +kernel
theorem dX4_reach_52 : decode cX4_reach 52 = .ok (.iconst 1, 1) := by decide +kernel
theorem dX4_reach_53 : decode cX4_reach 53 = .ok (.if_icmp .eq 12, 3) := by decide +kernel
theorem dX4_reach_56 : decode cX4_reach 56 = .ok (.aload_n 0, 1) := by decide +kernel
theorem dX4_reach_57 : decode cX4_reach 57 = .ok (.iload 4, 2) := by decide +kernel
theorem dX4_reach_59 : decode cX4_reach 59 = .ok (.invokevirtual 64, 3) := by decide +kernel
theorem dX4_reach_62 : decode cX4_reach 62 = .ok (.ifCond .eq 7, 3) := by decide +kernel
theorem dX4_reach_65 : decode cX4_reach 65 = .ok (.iconst 1, 1) := by decide +kernel
theorem dX4_reach_66 : decode cX4_reach 66 = .ok (.goto 4, 3) := by decide +kernel
theorem dX4_reach_69 : decode cX4_reach 69 = .ok (.iconst 0, 1) := by decide +kernel
theorem dX4_reach_70 : decode cX4_reach 70 = .ok (.ireturn, 1) := by decide +kernel
theorem dX4_reap_0 : decode cX4_reap 0 = .ok (.iload_n 1, 1) := by decide +kernel
theorem dX4_reap_1 : decode cX4_reap 1 = .ok (.invokestatic 68, 3) := by decide +kernel
theorem dX4_reap_4 : decode cX4_reap 4 = .ok (.ifCond .eq 23, 3) := by decide +kernel
theorem dX4_reap_7 : decode cX4_reap 7 = .ok (.aload_n 0, 1) := by decide +kernel
theorem dX4_reap_8 : decode cX4_reap 8 = .ok (.getfield 13, 3) := by decide +kernel
theorem dX4_reap_11 : decode cX4_reap 11 = .ok (.iload_n 1, 1) := by decide +kernel
theorem dX4_reap_12 : decode cX4_reap 12 = .ok (.iaload, 1) := by decide +kernel
theorem dX4_reap_13 : decode cX4_reap 13 = .ok (.iconst 3, 1) := by decide +kernel
theorem dX4_reap_14 : decode cX4_reap 14 = .ok (.if_icmp .ne 13, 3) := by decide +kernel
theorem dX4_reap_17 : decode cX4_reap 17 = .ok (.aload_n 0, 1) := by decide +kernel
theorem dX4_reap_18 : decode cX4_reap 18 = .ok (.getfield 16, 3) := by decide +kernel
theorem dX4_reap_21 : decode cX4_reap 21 = .ok (.iload_n 1, 1) := by decide +kernel
theorem dX4_reap_22 : decode cX4_reap 22 = .ok (.iaload, 1) := by decide +kernel
theorem dX4_reap_23 : decode cX4_reap 23 = .ok (.iconst (-1), 1) := by decide +kernel
theorem dX4_reap_24 : decode cX4_reap 24 = .ok (.if_icmp .eq 5, 3) := by decide +kernel
theorem dX4_reap_27 : decode cX4_reap 27 = .ok (.iconst (-1), 1) := by decide +kernel
theorem dX4_reap_28 : decode cX4_reap 28 = .ok (.ireturn, 1) := by decide +kernel
theorem dX4_reap_29 : decode cX4_reap 29 = .ok (.aload_n 0, 1) := by decide +kernel
theorem dX4_reap_30 : decode cX4_reap 30 = .ok (.iload_n 1, 1) := by decide +kernel
theorem dX4_reap_31 : decode cX4_reap 31 = .ok (.invokevirtual 85, 3) := by decide +kernel
theorem dX4_reap_34 : decode cX4_reap 34 = .ok (.aload_n 0, 1) := by decide +kernel
theorem dX4_reap_35 : decode cX4_reap 35 = .ok (.getfield 19, 3) := by decide +kernel
theorem dX4_reap_38 : decode cX4_reap 38 = .ok (.iload_n 1, 1) := by decide +kernel
theorem dX4_reap_39 : decode cX4_reap 39 = .ok (.iaload, 1) := by decide +kernel
theorem dX4_reap_40 : decode cX4_reap 40 = .ok (.ireturn, 1) := by decide +kernel
theorem dX4_register_0 : decode cX4_register 0 = .ok (.aload_n 0, 1) := by decide +kernel
theorem dX4_register_1 : decode cX4_register 1 = .ok (.iload_n 1, 1) := by decide +kernel
theorem dX4_register_2 : decode cX4_register 2 = .ok (.invokevirtual 78, 3) := by decide +kernel
theorem dX4_register_5 : decode cX4_register 5 = .ok (.ifCond .eq 13, 3) := by decide +kernel
theorem dX4_register_8 : decode cX4_register 8 = .ok (.iload_n 2, 1) := by decide +kernel
theorem dX4_register_9 : decode cX4_register 9 = .ok (.ifCond .lt 9, 3) := by decide +kernel
theorem dX4_register_12 : decode cX4_register 12 = .ok (.iload_n 2, 1) := by decide +kernel
theorem dX4_register_13 : decode cX4_register 13 = .ok (.bipush 9, 2) := by decide +kernel
theorem dX4_register_15 : decode cX4_register 15 = .ok (.if_icmp .le 5, 3) := by decide +kernel
theorem dX4_register_18 : decode cX4_register 18 = .ok (.iconst 0, 1) := by decide +kernel
theorem dX4_register_19 : decode cX4_register 19 = .ok (.ireturn, 1) := by decide +kernel
theorem dX4_register_20 : decode cX4_register 20 = .ok (.iload_n 2, 1) := by decide +kernel
theorem dX4_register_21 : decode cX4_register 21 = .ok (.bipush 8, 2) := by decide +kernel
theorem dX4_register_23 : decode cX4_register 23 = .ok (.if_icmp .ne 12, 3) := by decide +kernel
theorem dX4_register_26 : decode cX4_register 26 = .ok (.aload_n 0, 1) := by decide +kernel
theorem dX4_register_27 : decode cX4_register 27 = .ok (.getfield 25, 3) := by decide +kernel
theorem dX4_register_30 : decode cX4_register 30 = .ok (.iload_n 1, 1) := by decide +kernel
theorem dX4_register_31 : decode cX4_register 31 = .ok (.iaload, 1) := by decide +kernel
theorem dX4_register_32 : decode cX4_register 32 = .ok (.goto 29, 3) := by decide +kernel
theorem dX4_register_35 : decode cX4_register 35 = .ok (.iload_n 2, 1) := by decide +kernel
theorem dX4_register_36 : decode cX4_register 36 = .ok (.bipush 9, 2) := by decide +kernel
theorem dX4_register_38 : decode cX4_register 38 = .ok (.if_icmp .ne 12, 3) := by decide +kernel
theorem dX4_register_41 : decode cX4_register 41 = .ok (.aload_n 0, 1) := by decide +kernel
theorem dX4_register_42 : decode cX4_register 42 = .ok (.getfield 28, 3) := by decide +kernel
theorem dX4_register_45 : decode cX4_register 45 = .ok (.iload_n 1, 1) := by decide +kernel
theorem dX4_register_46 : decode cX4_register 46 = .ok (.iaload, 1) := by decide +kernel
theorem dX4_register_47 : decode cX4_register 47 = .ok (.goto 14, 3) := by decide +kernel
theorem dX4_register_50 : decode cX4_register 50 = .ok (.aload_n 0, 1) := by decide +kernel
theorem dX4_register_51 : decode cX4_register 51 = .ok (.getfield 22, 3) := by decide +kernel
theorem dX4_register_54 : decode cX4_register 54 = .ok (.bipush 8, 2) := by decide +kernel
theorem dX4_register_56 : decode cX4_register 56 = .ok (.iload_n 1, 1) := by decide +kernel
theorem dX4_register_57 : decode cX4_register 57 = .ok (.imul, 1) := by decide +kernel
theorem dX4_register_58 : decode cX4_register 58 = .ok (.iload_n 2, 1) := by decide +kernel
theorem dX4_register_59 : decode cX4_register 59 = .ok (.iadd, 1) := by decide +kernel
theorem dX4_register_60 : decode cX4_register 60 = .ok (.iaload, 1) := by decide +kernel
theorem dX4_register_61 : decode cX4_register 61 = .ok (.ireturn, 1) := by decide +kernel
theorem dX4_release_0 : decode cX4_release 0 = .ok (.aload_n 0, 1) := by decide +kernel
theorem dX4_release_1 : decode cX4_release 1 = .ok (.getfield 34, 3) := by decide +kernel
theorem dX4_release_4 : decode cX4_release 4 = .ok (.iload_n 1, 1) := by decide +kernel
theorem dX4_release_5 : decode cX4_release 5 = .ok (.iconst 0, 1) := by decide +kernel
theorem dX4_release_6 : decode cX4_release 6 = .ok (.iastore, 1) := by decide +kernel
theorem dX4_release_7 : decode cX4_release 7 = .ok (.iconst 0, 1) := by decide +kernel
theorem dX4_release_8 : decode cX4_release 8 = .ok (.istore_n 2, 1) := by decide +kernel
theorem dX4_release_9 : decode cX4_release 9 = .ok (.iload_n 2, 1) := by decide +kernel
theorem dX4_release_10 : decode cX4_release 10 = .ok (.bipush 8, 2) := by decide +kernel
theorem dX4_release_12 : decode cX4_release 12 = .ok (.if_icmp .ge 21, 3) := by decide +kernel
theorem dX4_release_15 : decode cX4_release 15 = .ok (.aload_n 0, 1) := by decide +kernel
theorem dX4_release_16 : decode cX4_release 16 = .ok (.getfield 31, 3) := by decide +kernel
theorem dX4_release_19 : decode cX4_release 19 = .ok (.bipush 8, 2) := by decide +kernel
theorem dX4_release_21 : decode cX4_release 21 = .ok (.iload_n 1, 1) := by decide +kernel
theorem dX4_release_22 : decode cX4_release 22 = .ok (.imul, 1) := by decide +kernel
theorem dX4_release_23 : decode cX4_release 23 = .ok (.iload_n 2, 1) := by decide +kernel
theorem dX4_release_24 : decode cX4_release 24 = .ok (.iadd, 1) := by decide +kernel
theorem dX4_release_25 : decode cX4_release 25 = .ok (.iconst 0, 1) := by decide +kernel
theorem dX4_release_26 : decode cX4_release 26 = .ok (.iastore, 1) := by decide +kernel
theorem dX4_release_27 : decode cX4_release 27 = .ok (.iinc 2 1, 3) := by decide +kernel
theorem dX4_release_30 : decode cX4_release 30 = .ok (.goto (-21), 3) := by decide +kernel
theorem dX4_release_33 : decode cX4_release 33 = .ok (.return_, 1) := by decide +kernel
theorem dX4_running_0 : decode cX4_running 0 = .ok (.aload_n 0, 1) := by decide +kernel
theorem dX4_running_1 : decode cX4_running 1 = .ok (.getfield 37, 3) := by decide +kernel
theorem dX4_running_4 : decode cX4_running 4 = .ok (.iconst (-1), 1) := by decide +kernel
theorem dX4_running_5 : decode cX4_running 5 = .ok (.if_icmp .eq 34, 3) := by decide +kernel
theorem dX4_running_8 : decode cX4_running 8 = .ok (.aload_n 0, 1) := by decide +kernel
theorem dX4_running_9 : decode cX4_running 9 = .ok (.getfield 13, 3) := by decide +kernel
theorem dX4_running_12 : decode cX4_running 12 = .ok (.aload_n 0, 1) := by decide +kernel
theorem dX4_running_13 : decode cX4_running 13 = .ok (.getfield 37, 3) := by decide +kernel
theorem dX4_running_16 : decode cX4_running 16 = .ok (.iaload, 1) := by decide +kernel
theorem dX4_running_17 : decode cX4_running 17 = .ok (.iconst 1, 1) := by decide +kernel
theorem dX4_running_18 : decode cX4_running 18 = .ok (.if_icmp .ne 21, 3) := by decide +kernel
theorem dX4_running_21 : decode cX4_running 21 = .ok (.aload_n 0, 1) := by decide +kernel
theorem dX4_running_22 : decode cX4_running 22 = .ok (.getfield 88, 3) := by decide +kernel
theorem dX4_running_25 : decode cX4_running 25 = .ok (.aload_n 0, 1) := by decide +kernel
theorem dX4_running_26 : decode cX4_running 26 = .ok (.getfield 47, 3) := by decide +kernel
theorem dX4_running_29 : decode cX4_running 29 = .ok (.if_icmp .ge 10, 3) := by decide +kernel
theorem dX4_running_32 : decode cX4_running 32 = .ok (.aload_n 0, 1) := by decide +kernel
theorem dX4_running_33 : decode cX4_running 33 = .ok (.getfield 37, 3) := by decide +kernel
theorem dX4_running_36 : decode cX4_running 36 = .ok (.goto 4, 3) := by decide +kernel
theorem dX4_running_39 : decode cX4_running 39 = .ok (.iconst (-1), 1) := by decide +kernel
theorem dX4_running_40 : decode cX4_running 40 = .ok (.ireturn, 1) := by decide +kernel
theorem dX4_sharers_0 : decode cX4_sharers 0 = .ok (.iconst 0, 1) := by decide +kernel
theorem dX4_sharers_1 : decode cX4_sharers 1 = .ok (.istore_n 2, 1) := by decide +kernel
theorem dX4_sharers_2 : decode cX4_sharers 2 = .ok (.iconst 0, 1) := by decide +kernel
theorem dX4_sharers_3 : decode cX4_sharers 3 = .ok (.istore_n 3, 1) := by decide +kernel
theorem dX4_sharers_4 : decode cX4_sharers 4 = .ok (.iload_n 3, 1) := by decide +kernel
theorem dX4_sharers_5 : decode cX4_sharers 5 = .ok (.bipush 64, 2) := by decide +kernel
theorem dX4_sharers_7 : decode cX4_sharers 7 = .ok (.if_icmp .ge 41, 3) := by decide +kernel
theorem dX4_sharers_10 : decode cX4_sharers 10 = .ok (.iload_n 2, 1) := by decide +kernel
theorem dX4_sharers_11 : decode cX4_sharers 11 = .ok (.aload_n 0, 1) := by decide +kernel
theorem dX4_sharers_12 : decode cX4_sharers 12 = .ok (.getfield 34, 3) := by decide +kernel
theorem dX4_sharers_15 : decode cX4_sharers 15 = .ok (.iload_n 1, 1) := by decide +kernel
theorem dX4_sharers_16 : decode cX4_sharers 16 = .ok (.iaload, 1) := by decide +kernel
theorem dX4_sharers_17 : decode cX4_sharers 17 = .ok (.ifCond .le 22, 3) := by decide +kernel
theorem dX4_sharers_20 : decode cX4_sharers 20 = .ok (.aload_n 0, 1) := by decide +kernel
theorem dX4_sharers_21 : decode cX4_sharers 21 = .ok (.getfield 34, 3) := by decide +kernel
theorem dX4_sharers_24 : decode cX4_sharers 24 = .ok (.iload_n 3, 1) := by decide +kernel
theorem dX4_sharers_25 : decode cX4_sharers 25 = .ok (.iaload, 1) := by decide +kernel
theorem dX4_sharers_26 : decode cX4_sharers 26 = .ok (.aload_n 0, 1) := by decide +kernel
theorem dX4_sharers_27 : decode cX4_sharers 27 = .ok (.getfield 34, 3) := by decide +kernel
theorem dX4_sharers_30 : decode cX4_sharers 30 = .ok (.iload_n 1, 1) := by decide +kernel
theorem dX4_sharers_31 : decode cX4_sharers 31 = .ok (.iaload, 1) := by decide +kernel
theorem dX4_sharers_32 : decode cX4_sharers 32 = .ok (.if_icmp .ne 7, 3) := by decide +kernel
theorem dX4_sharers_35 : decode cX4_sharers 35 = .ok (.iconst 1, 1) := by decide +kernel
theorem dX4_sharers_36 : decode cX4_sharers 36 = .ok (.goto 4, 3) := by decide +kernel
theorem dX4_sharers_39 : decode cX4_sharers 39 = .ok (.iconst 0, 1) := by decide +kernel
theorem dX4_sharers_40 : decode cX4_sharers 40 = .ok (.iadd, 1) := by decide +kernel
theorem dX4_sharers_41 : decode cX4_sharers 41 = .ok (.istore_n 2, 1) := by decide +kernel
theorem dX4_sharers_42 : decode cX4_sharers 42 = .ok (.iinc 3 1, 3) := by decide +kernel
theorem dX4_sharers_45 : decode cX4_sharers 45 = .ok (.goto (-41), 3) := by decide +kernel
theorem dX4_sharers_48 : decode cX4_sharers 48 = .ok (.iload_n 2, 1) := by decide +kernel
theorem dX4_sharers_49 : decode cX4_sharers 49 = .ok (.ireturn, 1) := by decide +kernel
theorem dX4_sharing_0 : decode cX4_sharing 0 = .ok (.aload_n 0, 1) := by decide +kernel
theorem dX4_sharing_1 : decode cX4_sharing 1 = .ok (.iload_n 1, 1) := by decide +kernel
theorem dX4_sharing_2 : decode cX4_sharing 2 = .ok (.invokevirtual 78, 3) := by decide +kernel
theorem dX4_sharing_5 : decode cX4_sharing 5 = .ok (.ifCond .eq 26, 3) := by decide +kernel
theorem dX4_sharing_8 : decode cX4_sharing 8 = .ok (.iload_n 2, 1) := by decide +kernel
theorem dX4_sharing_9 : decode cX4_sharing 9 = .ok (.ifCond .lt 22, 3) := by decide +kernel
theorem dX4_sharing_12 : decode cX4_sharing 12 = .ok (.iload_n 2, 1) := by decide +kernel
theorem dX4_sharing_13 : decode cX4_sharing 13 = .ok (.bipush 8, 2) := by decide +kernel
theorem dX4_sharing_15 : decode cX4_sharing 15 = .ok (.if_icmp .ge 16, 3) := by decide +kernel
theorem dX4_sharing_18 : decode cX4_sharing 18 = .ok (.aload_n 0, 1) := by decide +kernel
theorem dX4_sharing_19 : decode cX4_sharing 19 = .ok (.bipush 8, 2) := by decide +kernel
theorem dX4_sharing_21 : decode cX4_sharing 21 = .ok (.iload_n 1, 1) := by decide +kernel
theorem dX4_sharing_22 : decode cX4_sharing 22 = .ok (.imul, 1) := by decide +kernel
theorem dX4_sharing_23 : decode cX4_sharing 23 = .ok (.iload_n 2, 1) := by decide +kernel
theorem dX4_sharing_24 : decode cX4_sharing 24 = .ok (.iadd, 1) := by decide +kernel
theorem dX4_sharing_25 : decode cX4_sharing 25 = .ok (.invokevirtual 60, 3) := by decide +kernel
theorem dX4_sharing_28 : decode cX4_sharing 28 = .ok (.goto 4, 3) := by decide +kernel
theorem dX4_sharing_31 : decode cX4_sharing 31 = .ok (.iconst 0, 1) := by decide +kernel
theorem dX4_sharing_32 : decode cX4_sharing 32 = .ok (.ireturn, 1) := by decide +kernel
theorem dX4_simple_0 : decode cX4_simple 0 = .ok (.aload_n 0, 1) := by decide +kernel
theorem dX4_simple_1 : decode cX4_simple 1 = .ok (.getfield 22, 3) := by decide +kernel
theorem dX4_simple_4 : decode cX4_simple 4 = .ok (.bipush 8, 2) := by decide +kernel
theorem dX4_simple_6 : decode cX4_simple 6 = .ok (.iload_n 1, 1) := by decide +kernel
theorem dX4_simple_7 : decode cX4_simple 7 = .ok (.imul, 1) := by decide +kernel
theorem dX4_simple_8 : decode cX4_simple 8 = .ok (.iload_n 3, 1) := by decide +kernel
theorem dX4_simple_9 : decode cX4_simple 9 = .ok (.iadd, 1) := by decide +kernel
theorem dX4_simple_10 : decode cX4_simple 10 = .ok (.iaload, 1) := by decide +kernel
theorem dX4_simple_11 : decode cX4_simple 11 = .ok (.istore 6, 2) := by decide +kernel
theorem dX4_simple_13 : decode cX4_simple 13 = .ok (.aload_n 0, 1) := by decide +kernel
theorem dX4_simple_14 : decode cX4_simple 14 = .ok (.getfield 22, 3) := by decide +kernel
theorem dX4_simple_17 : decode cX4_simple 17 = .ok (.bipush 8, 2) := by decide +kernel
theorem dX4_simple_19 : decode cX4_simple 19 = .ok (.iload_n 1, 1) := by decide +kernel
theorem dX4_simple_20 : decode cX4_simple 20 = .ok (.imul, 1) := by decide +kernel
theorem dX4_simple_21 : decode cX4_simple 21 = .ok (.iload 4, 2) := by decide +kernel
theorem dX4_simple_23 : decode cX4_simple 23 = .ok (.iadd, 1) := by decide +kernel
theorem dX4_simple_24 : decode cX4_simple 24 = .ok (.iaload, 1) := by decide +kernel
theorem dX4_simple_25 : decode cX4_simple 25 = .ok (.istore 7, 2) := by decide +kernel
theorem dX4_simple_27 : decode cX4_simple 27 = .ok (.iload 6, 2) := by decide +kernel
theorem dX4_simple_29 : decode cX4_simple 29 = .ok (.istore 8, 2) := by decide +kernel
theorem dX4_simple_31 : decode cX4_simple 31 = .ok (.iload_n 2, 1) := by decide +kernel
theorem dX4_simple_32 : decode cX4_simple 32 = .ok (.tableswitch 199 0 6 #[44, 51, 64, 74, 113, 147, 172], 44) := by decide +kernel
theorem dX4_simple_76 : decode cX4_simple 76 = .ok (.iload 5, 2) := by decide +kernel
theorem dX4_simple_78 : decode cX4_simple 78 = .ok (.istore 8, 2) := by decide +kernel
theorem dX4_simple_80 : decode cX4_simple 80 = .ok (.goto 175, 3) := by decide +kernel
theorem dX4_simple_83 : decode cX4_simple 83 = .ok (.iload 6, 2) := by decide +kernel
theorem dX4_simple_85 : decode cX4_simple 85 = .ok (.iload 7, 2) := by decide +kernel
theorem dX4_simple_87 : decode cX4_simple 87 = .ok (.iadd, 1) := by decide +kernel
theorem dX4_simple_88 : decode cX4_simple 88 = .ok (.iload 5, 2) := by decide +kernel
theorem dX4_simple_90 : decode cX4_simple 90 = .ok (.iadd, 1) := by decide +kernel
theorem dX4_simple_91 : decode cX4_simple 91 = .ok (.istore 8, 2) := by decide +kernel
theorem dX4_simple_93 : decode cX4_simple 93 = .ok (.goto 162, 3) := by decide +kernel
theorem dX4_simple_96 : decode cX4_simple 96 = .ok (.iload 6, 2) := by decide +kernel
theorem dX4_simple_98 : decode cX4_simple 98 = .ok (.iload 7, 2) := by decide +kernel
theorem dX4_simple_100 : decode cX4_simple 100 = .ok (.isub, 1) := by decide +kernel
theorem dX4_simple_101 : decode cX4_simple 101 = .ok (.istore 8, 2) := by decide +kernel
theorem dX4_simple_103 : decode cX4_simple 103 = .ok (.goto 152, 3) := by decide +kernel
theorem dX4_simple_106 : decode cX4_simple 106 = .ok (.aload_n 0, 1) := by decide +kernel
theorem dX4_simple_107 : decode cX4_simple 107 = .ok (.iload_n 1, 1) := by decide +kernel
theorem dX4_simple_108 : decode cX4_simple 108 = .ok (.iload 7, 2) := by decide +kernel
theorem dX4_simple_110 : decode cX4_simple 110 = .ok (.iload 5, 2) := by decide +kernel
theorem dX4_simple_112 : decode cX4_simple 112 = .ok (.iadd, 1) := by decide +kernel
theorem dX4_simple_113 : decode cX4_simple 113 = .ok (.iconst 0, 1) := by decide +kernel
theorem dX4_simple_114 : decode cX4_simple 114 = .ok (.invokevirtual 91, 3) := by decide +kernel
theorem dX4_simple_117 : decode cX4_simple 117 = .ok (.ifCond .eq 21, 3) := by decide +kernel
theorem dX4_simple_120 : decode cX4_simple 120 = .ok (.aload_n 0, 1) := by decide +kernel
theorem dX4_simple_121 : decode cX4_simple 121 = .ok (.getfield 31, 3) := by decide +kernel
theorem dX4_simple_124 : decode cX4_simple 124 = .ok (.bipush 64, 2) := by decide +kernel
theorem dX4_simple_126 : decode cX4_simple 126 = .ok (.iload_n 1, 1) := by decide +kernel
theorem dX4_simple_127 : decode cX4_simple 127 = .ok (.imul, 1) := by decide +kernel
theorem dX4_simple_128 : decode cX4_simple 128 = .ok (.iload 7, 2) := by decide +kernel
theorem dX4_simple_130 : decode cX4_simple 130 = .ok (.iadd, 1) := by decide +kernel
theorem dX4_simple_131 : decode cX4_simple 131 = .ok (.iload 5, 2) := by decide +kernel
theorem dX4_simple_133 : decode cX4_simple 133 = .ok (.iadd, 1) := by decide +kernel
theorem dX4_simple_134 : decode cX4_simple 134 = .ok (.iaload, 1) := by decide +kernel
theorem dX4_simple_135 : decode cX4_simple 135 = .ok (.goto 5, 3) := by decide +kernel
theorem dX4_simple_138 : decode cX4_simple 138 = .ok (.iload 6, 2) := by decide +kernel
theorem dX4_simple_140 : decode cX4_simple 140 = .ok (.istore 8, 2) := by decide +kernel
theorem dX4_simple_142 : decode cX4_simple 142 = .ok (.goto 113, 3) := by decide +kernel
theorem dX4_simple_145 : decode cX4_simple 145 = .ok (.aload_n 0, 1) := by decide +kernel
theorem dX4_simple_146 : decode cX4_simple 146 = .ok (.iload_n 1, 1) := by decide +kernel
theorem dX4_simple_147 : decode cX4_simple 147 = .ok (.iload 7, 2) := by decide +kernel
theorem dX4_simple_149 : decode cX4_simple 149 = .ok (.iload 5, 2) := by decide +kernel
theorem dX4_simple_151 : decode cX4_simple 151 = .ok (.iadd, 1) := by decide +kernel
theorem dX4_simple_152 : decode cX4_simple 152 = .ok (.iconst 1, 1) := by decide +kernel
theorem dX4_simple_153 : decode cX4_simple 153 = .ok (.invokevirtual 91, 3) := by decide +kernel
theorem dX4_simple_156 : decode cX4_simple 156 = .ok (.ifCond .eq 99, 3) := by decide +kernel
theorem dX4_simple_159 : decode cX4_simple 159 = .ok (.aload_n 0, 1) := by decide +kernel
theorem dX4_simple_160 : decode cX4_simple 160 = .ok (.getfield 31, 3) := by decide +kernel
theorem dX4_simple_163 : decode cX4_simple 163 = .ok (.bipush 64, 2) := by decide +kernel
theorem dX4_simple_165 : decode cX4_simple 165 = .ok (.iload_n 1, 1) := by decide +kernel
theorem dX4_simple_166 : decode cX4_simple 166 = .ok (.imul, 1) := by decide +kernel
theorem dX4_simple_167 : decode cX4_simple 167 = .ok (.iload 7, 2) := by decide +kernel
theorem dX4_simple_169 : decode cX4_simple 169 = .ok (.iadd, 1) := by decide +kernel
theorem dX4_simple_170 : decode cX4_simple 170 = .ok (.iload 5, 2) := by decide +kernel
theorem dX4_simple_172 : decode cX4_simple 172 = .ok (.iadd, 1) := by decide +kernel
theorem dX4_simple_173 : decode cX4_simple 173 = .ok (.iload 6, 2) := by decide +kernel
theorem dX4_simple_175 : decode cX4_simple 175 = .ok (.iastore, 1) := by decide +kernel
theorem dX4_simple_176 : decode cX4_simple 176 = .ok (.goto 79, 3) := by decide +kernel
theorem dX4_simple_179 : decode cX4_simple 179 = .ok (.aload_n 0, 1) := by decide +kernel
theorem dX4_simple_180 : decode cX4_simple 180 = .ok (.getfield 25, 3) := by decide +kernel
theorem dX4_simple_183 : decode cX4_simple 183 = .ok (.iload_n 1, 1) := by decide +kernel
theorem dX4_simple_184 : decode cX4_simple 184 = .ok (.iload 6, 2) := by decide +kernel
theorem dX4_simple_186 : decode cX4_simple 186 = .ok (.ifCond .eq 8, 3) := by decide +kernel
theorem dX4_simple_189 : decode cX4_simple 189 = .ok (.iload 5, 2) := by decide +kernel
theorem dX4_simple_191 : decode cX4_simple 191 = .ok (.goto 9, 3) := by decide +kernel
theorem dX4_simple_194 : decode cX4_simple 194 = .ok (.aload_n 0, 1) := by decide +kernel
theorem dX4_simple_195 : decode cX4_simple 195 = .ok (.getfield 25, 3) := by decide +kernel
theorem dX4_simple_198 : decode cX4_simple 198 = .ok (.iload_n 1, 1) := by decide +kernel
theorem dX4_simple_199 : decode cX4_simple 199 = .ok (.iaload, 1) := by decide +kernel
theorem dX4_simple_200 : decode cX4_simple 200 = .ok (.iastore, 1) := by decide +kernel
theorem dX4_simple_201 : decode cX4_simple 201 = .ok (.goto 54, 3) := by decide +kernel
theorem dX4_simple_204 : decode cX4_simple 204 = .ok (.aload_n 0, 1) := by decide +kernel
theorem dX4_simple_205 : decode cX4_simple 205 = .ok (.getfield 25, 3) := by decide +kernel
theorem dX4_simple_208 : decode cX4_simple 208 = .ok (.iload_n 1, 1) := by decide +kernel
theorem dX4_simple_209 : decode cX4_simple 209 = .ok (.iload 6, 2) := by decide +kernel
theorem dX4_simple_211 : decode cX4_simple 211 = .ok (.iload 7, 2) := by decide +kernel
theorem dX4_simple_213 : decode cX4_simple 213 = .ok (.if_icmp .ge 8, 3) := by decide +kernel
theorem dX4_simple_216 : decode cX4_simple 216 = .ok (.iload 5, 2) := by decide +kernel
theorem dX4_simple_218 : decode cX4_simple 218 = .ok (.goto 9, 3) := by decide +kernel
theorem dX4_simple_221 : decode cX4_simple 221 = .ok (.aload_n 0, 1) := by decide +kernel
theorem dX4_simple_222 : decode cX4_simple 222 = .ok (.getfield 25, 3) := by decide +kernel
theorem dX4_simple_225 : decode cX4_simple 225 = .ok (.iload_n 1, 1) := by decide +kernel
theorem dX4_simple_226 : decode cX4_simple 226 = .ok (.iaload, 1) := by decide +kernel
theorem dX4_simple_227 : decode cX4_simple 227 = .ok (.iastore, 1) := by decide +kernel
theorem dX4_simple_228 : decode cX4_simple 228 = .ok (.goto 27, 3) := by decide +kernel
theorem dX4_simple_231 : decode cX4_simple 231 = .ok (.aload_n 0, 1) := by decide +kernel
theorem dX4_simple_232 : decode cX4_simple 232 = .ok (.getfield 41, 3) := by decide +kernel
theorem dX4_simple_235 : decode cX4_simple 235 = .ok (.aload_n 0, 1) := by decide +kernel
theorem dX4_simple_236 : decode cX4_simple 236 = .ok (.getfield 95, 3) := by decide +kernel
theorem dX4_simple_239 : decode cX4_simple 239 = .ok (.bipush 32, 2) := by decide +kernel
theorem dX4_simple_241 : decode cX4_simple 241 = .ok (.irem, 1) := by decide +kernel
theorem dX4_simple_242 : decode cX4_simple 242 = .ok (.iload 6, 2) := by decide +kernel
theorem dX4_simple_244 : decode cX4_simple 244 = .ok (.iastore, 1) := by decide +kernel
theorem dX4_simple_245 : decode cX4_simple 245 = .ok (.aload_n 0, 1) := by decide +kernel
theorem dX4_simple_246 : decode cX4_simple 246 = .ok (.dup, 1) := by decide +kernel
theorem dX4_simple_247 : decode cX4_simple 247 = .ok (.getfield 95, 3) := by decide +kernel
theorem dX4_simple_250 : decode cX4_simple 250 = .ok (.iconst 1, 1) := by decide +kernel
theorem dX4_simple_251 : decode cX4_simple 251 = .ok (.iadd, 1) := by decide +kernel
theorem dX4_simple_252 : decode cX4_simple 252 = .ok (.putfield 95, 3) := by decide +kernel
theorem dX4_simple_255 : decode cX4_simple 255 = .ok (.aload_n 0, 1) := by decide +kernel
theorem dX4_simple_256 : decode cX4_simple 256 = .ok (.getfield 22, 3) := by decide +kernel
theorem dX4_simple_259 : decode cX4_simple 259 = .ok (.bipush 8, 2) := by decide +kernel
theorem dX4_simple_261 : decode cX4_simple 261 = .ok (.iload_n 1, 1) := by decide +kernel
theorem dX4_simple_262 : decode cX4_simple 262 = .ok (.imul, 1) := by decide +kernel
theorem dX4_simple_263 : decode cX4_simple 263 = .ok (.iload_n 3, 1) := by decide +kernel
theorem dX4_simple_264 : decode cX4_simple 264 = .ok (.iadd, 1) := by decide +kernel
theorem dX4_simple_265 : decode cX4_simple 265 = .ok (.iload 8, 2) := by decide +kernel
theorem dX4_simple_267 : decode cX4_simple 267 = .ok (.iastore, 1) := by decide +kernel
theorem dX4_simple_268 : decode cX4_simple 268 = .ok (.iload_n 2, 1) := by decide +kernel
theorem dX4_simple_269 : decode cX4_simple 269 = .ok (.bipush 7, 2) := by decide +kernel
theorem dX4_simple_271 : decode cX4_simple 271 = .ok (.if_icmp .ne 7, 3) := by decide +kernel
theorem dX4_simple_274 : decode cX4_simple 274 = .ok (.iconst 2, 1) := by decide +kernel
theorem dX4_simple_275 : decode cX4_simple 275 = .ok (.goto 4, 3) := by decide +kernel
theorem dX4_simple_278 : decode cX4_simple 278 = .ok (.iconst 1, 1) := by decide +kernel
theorem dX4_simple_279 : decode cX4_simple 279 = .ok (.ireturn, 1) := by decide +kernel
theorem dX4_stage_0 : decode cX4_stage 0 = .ok (.iload_n 1, 1) := by decide +kernel
theorem dX4_stage_1 : decode cX4_stage 1 = .ok (.ifCond .lt 9, 3) := by decide +kernel
theorem dX4_stage_4 : decode cX4_stage 4 = .ok (.iload_n 1, 1) := by decide +kernel
theorem dX4_stage_5 : decode cX4_stage 5 = .ok (.bipush 63, 2) := by decide +kernel
theorem dX4_stage_7 : decode cX4_stage 7 = .ok (.if_icmp .le 5, 3) := by decide +kernel
theorem dX4_stage_10 : decode cX4_stage 10 = .ok (.iconst 0, 1) := by decide +kernel
theorem dX4_stage_11 : decode cX4_stage 11 = .ok (.ireturn, 1) := by decide +kernel
theorem dX4_stage_12 : decode cX4_stage 12 = .ok (.aload_n 0, 1) := by decide +kernel
theorem dX4_stage_13 : decode cX4_stage 13 = .ok (.getfield 7, 3) := by decide +kernel
theorem dX4_stage_16 : decode cX4_stage 16 = .ok (.iload_n 1, 1) := by decide +kernel
theorem dX4_stage_17 : decode cX4_stage 17 = .ok (.iload_n 2, 1) := by decide +kernel
theorem dX4_stage_18 : decode cX4_stage 18 = .ok (.iastore, 1) := by decide +kernel
theorem dX4_stage_19 : decode cX4_stage 19 = .ok (.iconst 1, 1) := by decide +kernel
theorem dX4_stage_20 : decode cX4_stage 20 = .ok (.ireturn, 1) := by decide +kernel
theorem dX4_state_0 : decode cX4_state 0 = .ok (.iload_n 1, 1) := by decide +kernel
theorem dX4_state_1 : decode cX4_state 1 = .ok (.invokestatic 68, 3) := by decide +kernel
theorem dX4_state_4 : decode cX4_state 4 = .ok (.ifCond .eq 12, 3) := by decide +kernel
theorem dX4_state_7 : decode cX4_state 7 = .ok (.aload_n 0, 1) := by decide +kernel
theorem dX4_state_8 : decode cX4_state 8 = .ok (.getfield 13, 3) := by decide +kernel
theorem dX4_state_11 : decode cX4_state 11 = .ok (.iload_n 1, 1) := by decide +kernel
theorem dX4_state_12 : decode cX4_state 12 = .ok (.iaload, 1) := by decide +kernel
theorem dX4_state_13 : decode cX4_state 13 = .ok (.goto 4, 3) := by decide +kernel
theorem dX4_state_16 : decode cX4_state 16 = .ok (.iconst (-1), 1) := by decide +kernel
theorem dX4_state_17 : decode cX4_state 17 = .ok (.ireturn, 1) := by decide +kernel
theorem dX4_step_0 : decode cX4_step 0 = .ok (.aload_n 0, 1) := by decide +kernel
theorem dX4_step_1 : decode cX4_step 1 = .ok (.invokevirtual 113, 3) := by decide +kernel
theorem dX4_step_4 : decode cX4_step 4 = .ok (.ifCond .ne 5, 3) := by decide +kernel
theorem dX4_step_7 : decode cX4_step 7 = .ok (.iconst 0, 1) := by decide +kernel
theorem dX4_step_8 : decode cX4_step 8 = .ok (.ireturn, 1) := by decide +kernel
theorem dX4_step_9 : decode cX4_step 9 = .ok (.aload_n 0, 1) := by decide +kernel
theorem dX4_step_10 : decode cX4_step 10 = .ok (.getfield 37, 3) := by decide +kernel
theorem dX4_step_13 : decode cX4_step 13 = .ok (.istore_n 1, 1) := by decide +kernel
theorem dX4_step_14 : decode cX4_step 14 = .ok (.aload_n 0, 1) := by decide +kernel
theorem dX4_step_15 : decode cX4_step 15 = .ok (.dup, 1) := by decide +kernel
theorem dX4_step_16 : decode cX4_step 16 = .ok (.getfield 88, 3) := by decide +kernel
theorem dX4_step_19 : decode cX4_step 19 = .ok (.iconst 1, 1) := by decide +kernel
theorem dX4_step_20 : decode cX4_step 20 = .ok (.iadd, 1) := by decide +kernel
theorem dX4_step_21 : decode cX4_step 21 = .ok (.putfield 88, 3) := by decide +kernel
theorem dX4_step_24 : decode cX4_step 24 = .ok (.aload_n 0, 1) := by decide +kernel
theorem dX4_step_25 : decode cX4_step 25 = .ok (.iconst 0, 1) := by decide +kernel
theorem dX4_step_26 : decode cX4_step 26 = .ok (.putfield 54, 3) := by decide +kernel
theorem dX4_step_29 : decode cX4_step 29 = .ok (.aload_n 0, 1) := by decide +kernel
theorem dX4_step_30 : decode cX4_step 30 = .ok (.getfield 25, 3) := by decide +kernel
theorem dX4_step_33 : decode cX4_step 33 = .ok (.iload_n 1, 1) := by decide +kernel
theorem dX4_step_34 : decode cX4_step 34 = .ok (.iaload, 1) := by decide +kernel
theorem dX4_step_35 : decode cX4_step 35 = .ok (.istore_n 2, 1) := by decide +kernel
theorem dX4_step_36 : decode cX4_step 36 = .ok (.aload_n 0, 1) := by decide +kernel
theorem dX4_step_37 : decode cX4_step 37 = .ok (.iload_n 1, 1) := by decide +kernel
theorem dX4_step_38 : decode cX4_step 38 = .ok (.iload_n 2, 1) := by decide +kernel
theorem dX4_step_39 : decode cX4_step 39 = .ok (.iconst 0, 1) := by decide +kernel
theorem dX4_step_40 : decode cX4_step 40 = .ok (.invokevirtual 91, 3) := by decide +kernel
theorem dX4_step_43 : decode cX4_step 43 = .ok (.ifCond .eq 38, 3) := by decide +kernel
theorem dX4_step_46 : decode cX4_step 46 = .ok (.aload_n 0, 1) := by decide +kernel
theorem dX4_step_47 : decode cX4_step 47 = .ok (.getfield 25, 3) := by decide +kernel
theorem dX4_step_50 : decode cX4_step 50 = .ok (.iload_n 1, 1) := by decide +kernel
theorem dX4_step_51 : decode cX4_step 51 = .ok (.iload_n 2, 1) := by decide +kernel
theorem dX4_step_52 : decode cX4_step 52 = .ok (.iconst 1, 1) := by decide +kernel
theorem dX4_step_53 : decode cX4_step 53 = .ok (.iadd, 1) := by decide +kernel
theorem dX4_step_54 : decode cX4_step 54 = .ok (.iastore, 1) := by decide +kernel
theorem dX4_step_55 : decode cX4_step 55 = .ok (.aload_n 0, 1) := by decide +kernel
theorem dX4_step_56 : decode cX4_step 56 = .ok (.iload_n 1, 1) := by decide +kernel
theorem dX4_step_57 : decode cX4_step 57 = .ok (.aload_n 0, 1) := by decide +kernel
theorem dX4_step_58 : decode cX4_step 58 = .ok (.getfield 31, 3) := by decide +kernel
theorem dX4_step_61 : decode cX4_step 61 = .ok (.bipush 64, 2) := by decide +kernel
theorem dX4_step_63 : decode cX4_step 63 = .ok (.iload_n 1, 1) := by decide +kernel
theorem dX4_step_64 : decode cX4_step 64 = .ok (.imul, 1) := by decide +kernel
theorem dX4_step_65 : decode cX4_step 65 = .ok (.iload_n 2, 1) := by decide +kernel
theorem dX4_step_66 : decode cX4_step 66 = .ok (.iadd, 1) := by decide +kernel
theorem dX4_step_67 : decode cX4_step 67 = .ok (.iaload, 1) := by decide +kernel
theorem dX4_step_68 : decode cX4_step 68 = .ok (.invokevirtual 117, 3) := by decide +kernel
theorem dX4_step_71 : decode cX4_step 71 = .ok (.istore_n 3, 1) := by decide +kernel
theorem dX4_step_72 : decode cX4_step 72 = .ok (.aload_n 0, 1) := by decide +kernel
theorem dX4_step_73 : decode cX4_step 73 = .ok (.getfield 54, 3) := by decide +kernel
theorem dX4_step_76 : decode cX4_step 76 = .ok (.ifCond .ne 5, 3) := by decide +kernel
theorem dX4_step_79 : decode cX4_step 79 = .ok (.iload_n 3, 1) := by decide +kernel
theorem dX4_step_80 : decode cX4_step 80 = .ok (.ireturn, 1) := by decide +kernel
theorem dX4_step_81 : decode cX4_step 81 = .ok (.aload_n 0, 1) := by decide +kernel
theorem dX4_step_82 : decode cX4_step 82 = .ok (.iload_n 1, 1) := by decide +kernel
theorem dX4_step_83 : decode cX4_step 83 = .ok (.aload_n 0, 1) := by decide +kernel
theorem dX4_step_84 : decode cX4_step 84 = .ok (.getfield 54, 3) := by decide +kernel
theorem dX4_step_87 : decode cX4_step 87 = .ok (.invokevirtual 81, 3) := by decide +kernel
theorem dX4_step_90 : decode cX4_step 90 = .ok (.iconst 5, 1) := by decide +kernel
theorem dX4_step_91 : decode cX4_step 91 = .ok (.ireturn, 1) := by decide +kernel
end
section
/-! decode rows (written by program) -/
theorem dX4_steps_0 : decode cX4_steps 0 = .ok (.iload_n 1, 1) := by decide +kernel
theorem dX4_steps_1 : decode cX4_steps 1 = .ok (.ifCond .lt 9, 3) := by decide +kernel
theorem dX4_steps_4 : decode cX4_steps 4 = .ok (.iload_n 1, 1) := by decide +kernel
theorem dX4_steps_5 : decode cX4_steps 5 = .ok (.bipush 50, 2) := by decide +kernel
theorem dX4_steps_7 : decode cX4_steps 7 = .ok (.if_icmp .le 5, 3) := by decide +kernel
theorem dX4_steps_10 : decode cX4_steps 10 = .ok (.iconst (-1), 1) := by decide +kernel
theorem dX4_steps_11 : decode cX4_steps 11 = .ok (.ireturn, 1) := by decide +kernel
theorem dX4_steps_12 : decode cX4_steps 12 = .ok (.iconst 0, 1) := by decide +kernel
theorem dX4_steps_13 : decode cX4_steps 13 = .ok (.istore_n 2, 1) := by decide +kernel
theorem dX4_steps_14 : decode cX4_steps 14 = .ok (.iload_n 2, 1) := by decide +kernel
theorem dX4_steps_15 : decode cX4_steps 15 = .ok (.iload_n 1, 1) := by decide +kernel
theorem dX4_steps_16 : decode cX4_steps 16 = .ok (.if_icmp .ge 16, 3) := by decide +kernel
theorem dX4_steps_19 : decode cX4_steps 19 = .ok (.aload_n 0, 1) := by decide +kernel
theorem dX4_steps_20 : decode cX4_steps 20 = .ok (.invokevirtual 120, 3) := by decide +kernel
theorem dX4_steps_23 : decode cX4_steps 23 = .ok (.ifCond .eq 9, 3) := by decide +kernel
theorem dX4_steps_26 : decode cX4_steps 26 = .ok (.iinc 2 1, 3) := by decide +kernel
theorem dX4_steps_29 : decode cX4_steps 29 = .ok (.goto (-15), 3) := by decide +kernel
theorem dX4_steps_32 : decode cX4_steps 32 = .ok (.iload_n 2, 1) := by decide +kernel
theorem dX4_steps_33 : decode cX4_steps 33 = .ok (.ireturn, 1) := by decide +kernel
end
section
/-! the world: which cells there are, how they hang together; links of fields and calls; infos of methods (written by wip/whole/mk_world.py) -/
def q_dom : List q_ix := [(0, 0), (1, 0), (2, 0), (3, 0), (4, 0), (5, 0), (5, 1), (5, 2), (5, 3), (5, 4), (5, 5), (5, 6), (5, 7), (6, 0), (6, 1), (6, 2), (6, 3), (6, 4), (6, 5), (6, 6), (6, 7), (7, 0), (7, 1), (7, 2), (7, 3), (7, 4), (7, 5), (7, 6), (7, 7), (8, 0), (9, 0), (10, 0), (20, 0), (21, 0), (22, 0), (23, 0), (24, 0), (25, 0), (26, 0), (27, 0), (28, 0), (29, 0), (30, 0)]
def q_shp (G : q_g) (n : Nat) (i : q_ix) : q_sh := match i.1 with
  | 0 => .inl (3, [some (some (1, 0)), some (some (4, 0)), some (some (8, 0)), some (some (10, 0)), none, none, none])
  | 1 => .inl (0, [none, some (some (2, 0)), some (some (3, 0)), none])
  | 2 => .inr (.inl (G.2.1, 8 * n))
  | 3 => .inr (.inl (G.2.1, n))
  | 4 => .inr (.inr (G.2.2, 8, fun k => some (5, k)))
  | 5 => .inl (2, [none, none, none, none, none, some (some (6, i.2)), some (some (7, i.2))])
  | 6 => .inr (.inl (G.2.1, 8))
  | 7 => .inr (.inl (G.2.1, 8))
  | 8 => .inl (1, [some (some (9, 0)), none])
  | 9 => .inr (.inl (G.2.1, 32))
  | 10 => .inr (.inl (G.2.1, 64))
  | 20 => .inl (4, [none, none, some (some (21, 0)), some (some (22, 0)), some (some (23, 0)), some (some (24, 0)), some (some (25, 0)), some (some (26, 0)), some (some (27, 0)), some (some (28, 0)), some (some (29, 0)), none, none, none, none, none, some (some (30, 0))])
  | 21 => .inr (.inl (G.2.1, 64))
  | 22 => .inr (.inl (G.2.1, 8))
  | 23 => .inr (.inl (G.2.1, 8))
  | 24 => .inr (.inl (G.2.1, 8))
  | 25 => .inr (.inl (G.2.1, 64))
  | 26 => .inr (.inl (G.2.1, 8))
  | 27 => .inr (.inl (G.2.1, 8))
  | 28 => .inr (.inl (G.2.1, 512))
  | 29 => .inr (.inl (G.2.1, 64))
  | 30 => .inr (.inl (G.2.1, 32))
  | _ => .inr (.inl (G.2.1, 0))
abbrev q_w (G : q_g) (n : Nat) (ad : q_ix → Nat) : q_wd := (q_dom, ad, q_shp G n)
theorem q_m0 : ((0, 0) : q_ix) ∈ q_dom := by decide
theorem q_m1 : ((1, 0) : q_ix) ∈ q_dom := by decide
theorem q_m2 : ((2, 0) : q_ix) ∈ q_dom := by decide
theorem q_m3 : ((3, 0) : q_ix) ∈ q_dom := by decide
theorem q_m4 : ((4, 0) : q_ix) ∈ q_dom := by decide
theorem q_m8 : ((8, 0) : q_ix) ∈ q_dom := by decide
theorem q_m9 : ((9, 0) : q_ix) ∈ q_dom := by decide
theorem q_m10 : ((10, 0) : q_ix) ∈ q_dom := by decide
theorem q_m20 : ((20, 0) : q_ix) ∈ q_dom := by decide
theorem q_m21 : ((21, 0) : q_ix) ∈ q_dom := by decide
theorem q_m22 : ((22, 0) : q_ix) ∈ q_dom := by decide
theorem q_m23 : ((23, 0) : q_ix) ∈ q_dom := by decide
theorem q_m24 : ((24, 0) : q_ix) ∈ q_dom := by decide
theorem q_m25 : ((25, 0) : q_ix) ∈ q_dom := by decide
theorem q_m26 : ((26, 0) : q_ix) ∈ q_dom := by decide
theorem q_m27 : ((27, 0) : q_ix) ∈ q_dom := by decide
theorem q_m28 : ((28, 0) : q_ix) ∈ q_dom := by decide
theorem q_m29 : ((29, 0) : q_ix) ∈ q_dom := by decide
theorem q_m30 : ((30, 0) : q_ix) ∈ q_dom := by decide
theorem q_m5 {p : Nat} (h : p < 8) : ((5, p) : q_ix) ∈ q_dom := by
  rcases (show p = 0 ∨ p = 1 ∨ p = 2 ∨ p = 3 ∨ p = 4 ∨ p = 5 ∨ p = 6 ∨ p = 7 by omega) with rfl | rfl | rfl | rfl | rfl | rfl | rfl | rfl <;> decide
theorem q_m6 {p : Nat} (h : p < 8) : ((6, p) : q_ix) ∈ q_dom := by
  rcases (show p = 0 ∨ p = 1 ∨ p = 2 ∨ p = 3 ∨ p = 4 ∨ p = 5 ∨ p = 6 ∨ p = 7 by omega) with rfl | rfl | rfl | rfl | rfl | rfl | rfl | rfl <;> decide
theorem q_m7 {p : Nat} (h : p < 8) : ((7, p) : q_ix) ∈ q_dom := by
  rcases (show p = 0 ∨ p = 1 ∨ p = 2 ∨ p = 3 ∨ p = 4 ∨ p = 5 ∨ p = 6 ∨ p = 7 by omega) with rfl | rfl | rfl | rfl | rfl | rfl | rfl | rfl <;> decide
theorem q_inc1 (k : Nat) : nI k + Int32.ofInt 1 = nI (k + 1) := nI_1 k
theorem qiX0 : ∀ w ∈ u_ws RX0 TX0 4, w ∈ q_ws := fun w hw => q_ws_in (List.mem_append_right _ ((by decide +kernel : ∀ w ∈ u_ws RX0 TX0 4, w ∈ tables_1) w hw)) ((by decide +kernel : ∀ w ∈ u_ws RX0 TX0 4, goodWord w = true) w hw)
theorem fp0_0 : q_fp 0 0 .int true := ⟨RX0, TX0, 4, tyX0, rfl, tyX0_ok, nmX0, rfl, by decide +kernel⟩
theorem fp0_3 : q_fp 0 3 .int false := ⟨RX0, TX0, 4, tyX0, rfl, tyX0_ok, nmX0, rfl, by decide +kernel⟩
theorem qiX1 : ∀ w ∈ u_ws RX1 TX1 2, w ∈ q_ws := fun w hw => q_ws_in (List.mem_append_right _ ((by decide +kernel : ∀ w ∈ u_ws RX1 TX1 2, w ∈ tables_1) w hw)) ((by decide +kernel : ∀ w ∈ u_ws RX1 TX1 2, goodWord w = true) w hw)
theorem fp1_1 : q_fp 1 1 .int false := ⟨RX1, TX1, 2, tyX1, rfl, tyX1_ok, nmX1, rfl, by decide +kernel⟩
theorem qiX2 : ∀ w ∈ u_ws RX2 TX2 7, w ∈ q_ws := fun w hw => q_ws_in (List.mem_append_right _ ((by decide +kernel : ∀ w ∈ u_ws RX2 TX2 7, w ∈ tables_1) w hw)) ((by decide +kernel : ∀ w ∈ u_ws RX2 TX2 7, goodWord w = true) w hw)
theorem fp2_0 : q_fp 2 0 .int false := ⟨RX2, TX2, 7, tyX2, rfl, tyX2_ok, nmX2, rfl, by decide +kernel⟩
theorem fp2_1 : q_fp 2 1 .int false := ⟨RX2, TX2, 7, tyX2, rfl, tyX2_ok, nmX2, rfl, by decide +kernel⟩
theorem fp2_2 : q_fp 2 2 .int false := ⟨RX2, TX2, 7, tyX2, rfl, tyX2_ok, nmX2, rfl, by decide +kernel⟩
theorem fp2_3 : q_fp 2 3 .int false := ⟨RX2, TX2, 7, tyX2, rfl, tyX2_ok, nmX2, rfl, by decide +kernel⟩
theorem fp2_4 : q_fp 2 4 .int false := ⟨RX2, TX2, 7, tyX2, rfl, tyX2_ok, nmX2, rfl, by decide +kernel⟩
theorem qiX3 : ∀ w ∈ u_ws RX3 TX3 7, w ∈ q_ws := fun w hw => q_ws_in (List.mem_append_right _ ((by decide +kernel : ∀ w ∈ u_ws RX3 TX3 7, w ∈ tables_1) w hw)) ((by decide +kernel : ∀ w ∈ u_ws RX3 TX3 7, goodWord w = true) w hw)
theorem fp3_4 : q_fp 3 4 .int true := ⟨RX3, TX3, 7, tyX3, rfl, tyX3_ok, nmX3, rfl, by decide +kernel⟩
theorem fp3_5 : q_fp 3 5 .int false := ⟨RX3, TX3, 7, tyX3, rfl, tyX3_ok, nmX3, rfl, by decide +kernel⟩
theorem fp3_6 : q_fp 3 6 .int false := ⟨RX3, TX3, 7, tyX3, rfl, tyX3_ok, nmX3, rfl, by decide +kernel⟩
theorem qiX4 : ∀ w ∈ u_ws RX4 TX4 17, w ∈ q_ws := fun w hw => q_ws_in (List.mem_append_right _ ((by decide +kernel : ∀ w ∈ u_ws RX4 TX4 17, w ∈ tables_1) w hw)) ((by decide +kernel : ∀ w ∈ u_ws RX4 TX4 17, goodWord w = true) w hw)
theorem fp4_0 : q_fp 4 0 .int true := ⟨RX4, TX4, 17, tyX4, rfl, tyX4_ok, nmX4, rfl, by decide +kernel⟩
theorem fp4_1 : q_fp 4 1 .int true := ⟨RX4, TX4, 17, tyX4, rfl, tyX4_ok, nmX4, rfl, by decide +kernel⟩
theorem fp4_11 : q_fp 4 11 .int false := ⟨RX4, TX4, 17, tyX4, rfl, tyX4_ok, nmX4, rfl, by decide +kernel⟩
theorem fp4_12 : q_fp 4 12 .int false := ⟨RX4, TX4, 17, tyX4, rfl, tyX4_ok, nmX4, rfl, by decide +kernel⟩
theorem fp4_13 : q_fp 4 13 .int false := ⟨RX4, TX4, 17, tyX4, rfl, tyX4_ok, nmX4, rfl, by decide +kernel⟩
theorem fp4_14 : q_fp 4 14 .int false := ⟨RX4, TX4, 17, tyX4, rfl, tyX4_ok, nmX4, rfl, by decide +kernel⟩
theorem fp4_15 : q_fp 4 15 .int false := ⟨RX4, TX4, 17, tyX4, rfl, tyX4_ok, nmX4, rfl, by decide +kernel⟩
theorem fkX0_15 : q_fk RX0 15 0 0 := ⟨RX0, TX0, 4, rfl, by decide, qiX0, q_ws_in (List.mem_append_right _ (List.mem_of_getElem? (i := 20) (by decide +kernel))) rfl⟩
theorem fkX0_18 : q_fk RX0 18 0 1 := ⟨RX0, TX0, 4, rfl, by decide, qiX0, q_ws_in (List.mem_append_right _ (List.mem_of_getElem? (i := 21) (by decide +kernel))) rfl⟩
theorem fkX3_194 : q_fk RX3 194 0 1 := ⟨RX0, TX0, 4, rfl, by decide, qiX0, q_ws_in (List.mem_append_right _ (List.mem_of_getElem? (i := 22) (by decide +kernel))) rfl⟩
theorem fkX0_22 : q_fk RX0 22 0 2 := ⟨RX0, TX0, 4, rfl, by decide, qiX0, q_ws_in (List.mem_append_right _ (List.mem_of_getElem? (i := 23) (by decide +kernel))) rfl⟩
theorem fkX3_115 : q_fk RX3 115 0 2 := ⟨RX0, TX0, 4, rfl, by decide, qiX0, q_ws_in (List.mem_append_right _ (List.mem_of_getElem? (i := 24) (by decide +kernel))) rfl⟩
theorem fkX0_9 : q_fk RX0 9 0 3 := ⟨RX0, TX0, 4, rfl, by decide, qiX0, q_ws_in (List.mem_append_right _ (List.mem_of_getElem? (i := 25) (by decide +kernel))) rfl⟩
theorem fkX3_118 : q_fk RX3 118 0 3 := ⟨RX0, TX0, 4, rfl, by decide, qiX0, q_ws_in (List.mem_append_right _ (List.mem_of_getElem? (i := 26) (by decide +kernel))) rfl⟩
theorem fkX2_9 : q_fk RX2 9 2 0 := ⟨RX2, TX2, 7, rfl, by decide, qiX2, q_ws_in (List.mem_append_right _ (List.mem_of_getElem? (i := 44) (by decide +kernel))) rfl⟩
theorem fkX3_90 : q_fk RX3 90 2 0 := ⟨RX2, TX2, 7, rfl, by decide, qiX2, q_ws_in (List.mem_append_right _ (List.mem_of_getElem? (i := 45) (by decide +kernel))) rfl⟩
theorem fkX2_15 : q_fk RX2 15 2 1 := ⟨RX2, TX2, 7, rfl, by decide, qiX2, q_ws_in (List.mem_append_right _ (List.mem_of_getElem? (i := 46) (by decide +kernel))) rfl⟩
theorem fkX3_81 : q_fk RX3 81 2 1 := ⟨RX2, TX2, 7, rfl, by decide, qiX2, q_ws_in (List.mem_append_right _ (List.mem_of_getElem? (i := 47) (by decide +kernel))) rfl⟩
theorem fkX2_18 : q_fk RX2 18 2 2 := ⟨RX2, TX2, 7, rfl, by decide, qiX2, q_ws_in (List.mem_append_right _ (List.mem_of_getElem? (i := 48) (by decide +kernel))) rfl⟩
theorem fkX3_93 : q_fk RX3 93 2 2 := ⟨RX2, TX2, 7, rfl, by decide, qiX2, q_ws_in (List.mem_append_right _ (List.mem_of_getElem? (i := 49) (by decide +kernel))) rfl⟩
theorem fkX2_21 : q_fk RX2 21 2 3 := ⟨RX2, TX2, 7, rfl, by decide, qiX2, q_ws_in (List.mem_append_right _ (List.mem_of_getElem? (i := 50) (by decide +kernel))) rfl⟩
theorem fkX3_100 : q_fk RX3 100 2 3 := ⟨RX2, TX2, 7, rfl, by decide, qiX2, q_ws_in (List.mem_append_right _ (List.mem_of_getElem? (i := 51) (by decide +kernel))) rfl⟩
theorem fkX2_24 : q_fk RX2 24 2 4 := ⟨RX2, TX2, 7, rfl, by decide, qiX2, q_ws_in (List.mem_append_right _ (List.mem_of_getElem? (i := 52) (by decide +kernel))) rfl⟩
theorem fkX3_56 : q_fk RX3 56 2 4 := ⟨RX2, TX2, 7, rfl, by decide, qiX2, q_ws_in (List.mem_append_right _ (List.mem_of_getElem? (i := 53) (by decide +kernel))) rfl⟩
theorem fkX2_27 : q_fk RX2 27 2 5 := ⟨RX2, TX2, 7, rfl, by decide, qiX2, q_ws_in (List.mem_append_right _ (List.mem_of_getElem? (i := 54) (by decide +kernel))) rfl⟩
theorem fkX3_103 : q_fk RX3 103 2 5 := ⟨RX2, TX2, 7, rfl, by decide, qiX2, q_ws_in (List.mem_append_right _ (List.mem_of_getElem? (i := 55) (by decide +kernel))) rfl⟩
theorem fkX2_31 : q_fk RX2 31 2 6 := ⟨RX2, TX2, 7, rfl, by decide, qiX2, q_ws_in (List.mem_append_right _ (List.mem_of_getElem? (i := 56) (by decide +kernel))) rfl⟩
theorem fkX3_112 : q_fk RX3 112 2 6 := ⟨RX2, TX2, 7, rfl, by decide, qiX2, q_ws_in (List.mem_append_right _ (List.mem_of_getElem? (i := 57) (by decide +kernel))) rfl⟩
theorem fkX1_9 : q_fk RX1 9 1 0 := ⟨RX1, TX1, 2, rfl, by decide, qiX1, q_ws_in (List.mem_append_right _ (List.mem_of_getElem? (i := 79) (by decide +kernel))) rfl⟩
theorem fkX1_15 : q_fk RX1 15 1 1 := ⟨RX1, TX1, 2, rfl, by decide, qiX1, q_ws_in (List.mem_append_right _ (List.mem_of_getElem? (i := 80) (by decide +kernel))) rfl⟩
theorem fkX3_121 : q_fk RX3 121 1 1 := ⟨RX1, TX1, 2, rfl, by decide, qiX1, q_ws_in (List.mem_append_right _ (List.mem_of_getElem? (i := 81) (by decide +kernel))) rfl⟩
theorem fkX3_14 : q_fk RX3 14 3 0 := ⟨RX3, TX3, 7, rfl, by decide, qiX3, q_ws_in (List.mem_append_right _ (List.mem_of_getElem? (i := 87) (by decide +kernel))) rfl⟩
theorem fkX3_20 : q_fk RX3 20 3 1 := ⟨RX3, TX3, 7, rfl, by decide, qiX3, q_ws_in (List.mem_append_right _ (List.mem_of_getElem? (i := 88) (by decide +kernel))) rfl⟩
theorem fkX3_28 : q_fk RX3 28 3 2 := ⟨RX3, TX3, 7, rfl, by decide, qiX3, q_ws_in (List.mem_append_right _ (List.mem_of_getElem? (i := 89) (by decide +kernel))) rfl⟩
theorem fkX3_32 : q_fk RX3 32 3 3 := ⟨RX3, TX3, 7, rfl, by decide, qiX3, q_ws_in (List.mem_append_right _ (List.mem_of_getElem? (i := 90) (by decide +kernel))) rfl⟩
theorem fkX3_36 : q_fk RX3 36 3 4 := ⟨RX3, TX3, 7, rfl, by decide, qiX3, q_ws_in (List.mem_append_right _ (List.mem_of_getElem? (i := 91) (by decide +kernel))) rfl⟩
theorem fkX3_40 : q_fk RX3 40 3 5 := ⟨RX3, TX3, 7, rfl, by decide, qiX3, q_ws_in (List.mem_append_right _ (List.mem_of_getElem? (i := 92) (by decide +kernel))) rfl⟩
theorem fkX3_43 : q_fk RX3 43 3 6 := ⟨RX3, TX3, 7, rfl, by decide, qiX3, q_ws_in (List.mem_append_right _ (List.mem_of_getElem? (i := 93) (by decide +kernel))) rfl⟩
theorem fkX4_44 : q_fk RX4 44 4 0 := ⟨RX4, TX4, 17, rfl, by decide, qiX4, q_ws_in (List.mem_append_right _ (List.mem_of_getElem? (i := 320) (by decide +kernel))) rfl⟩
theorem fkX4_47 : q_fk RX4 47 4 1 := ⟨RX4, TX4, 17, rfl, by decide, qiX4, q_ws_in (List.mem_append_right _ (List.mem_of_getElem? (i := 321) (by decide +kernel))) rfl⟩
theorem fkX4_7 : q_fk RX4 7 4 2 := ⟨RX4, TX4, 17, rfl, by decide, qiX4, q_ws_in (List.mem_append_right _ (List.mem_of_getElem? (i := 322) (by decide +kernel))) rfl⟩
theorem fkX4_13 : q_fk RX4 13 4 3 := ⟨RX4, TX4, 17, rfl, by decide, qiX4, q_ws_in (List.mem_append_right _ (List.mem_of_getElem? (i := 323) (by decide +kernel))) rfl⟩
theorem fkX4_16 : q_fk RX4 16 4 4 := ⟨RX4, TX4, 17, rfl, by decide, qiX4, q_ws_in (List.mem_append_right _ (List.mem_of_getElem? (i := 324) (by decide +kernel))) rfl⟩
theorem fkX4_19 : q_fk RX4 19 4 5 := ⟨RX4, TX4, 17, rfl, by decide, qiX4, q_ws_in (List.mem_append_right _ (List.mem_of_getElem? (i := 325) (by decide +kernel))) rfl⟩
theorem fkX4_22 : q_fk RX4 22 4 6 := ⟨RX4, TX4, 17, rfl, by decide, qiX4, q_ws_in (List.mem_append_right _ (List.mem_of_getElem? (i := 326) (by decide +kernel))) rfl⟩
theorem fkX4_25 : q_fk RX4 25 4 7 := ⟨RX4, TX4, 17, rfl, by decide, qiX4, q_ws_in (List.mem_append_right _ (List.mem_of_getElem? (i := 327) (by decide +kernel))) rfl⟩
theorem fkX4_28 : q_fk RX4 28 4 8 := ⟨RX4, TX4, 17, rfl, by decide, qiX4, q_ws_in (List.mem_append_right _ (List.mem_of_getElem? (i := 328) (by decide +kernel))) rfl⟩
theorem fkX4_31 : q_fk RX4 31 4 9 := ⟨RX4, TX4, 17, rfl, by decide, qiX4, q_ws_in (List.mem_append_right _ (List.mem_of_getElem? (i := 329) (by decide +kernel))) rfl⟩
theorem fkX4_34 : q_fk RX4 34 4 10 := ⟨RX4, TX4, 17, rfl, by decide, qiX4, q_ws_in (List.mem_append_right _ (List.mem_of_getElem? (i := 330) (by decide +kernel))) rfl⟩
theorem fkX4_57 : q_fk RX4 57 4 11 := ⟨RX4, TX4, 17, rfl, by decide, qiX4, q_ws_in (List.mem_append_right _ (List.mem_of_getElem? (i := 331) (by decide +kernel))) rfl⟩
theorem fkX4_37 : q_fk RX4 37 4 12 := ⟨RX4, TX4, 17, rfl, by decide, qiX4, q_ws_in (List.mem_append_right _ (List.mem_of_getElem? (i := 332) (by decide +kernel))) rfl⟩
theorem fkX4_88 : q_fk RX4 88 4 13 := ⟨RX4, TX4, 17, rfl, by decide, qiX4, q_ws_in (List.mem_append_right _ (List.mem_of_getElem? (i := 333) (by decide +kernel))) rfl⟩
theorem fkX4_54 : q_fk RX4 54 4 14 := ⟨RX4, TX4, 17, rfl, by decide, qiX4, q_ws_in (List.mem_append_right _ (List.mem_of_getElem? (i := 334) (by decide +kernel))) rfl⟩
theorem fkX4_95 : q_fk RX4 95 4 15 := ⟨RX4, TX4, 17, rfl, by decide, qiX4, q_ws_in (List.mem_append_right _ (List.mem_of_getElem? (i := 335) (by decide +kernel))) rfl⟩
theorem fkX4_41 : q_fk RX4 41 4 16 := ⟨RX4, TX4, 17, rfl, by decide, qiX4, q_ws_in (List.mem_append_right _ (List.mem_of_getElem? (i := 336) (by decide +kernel))) rfl⟩
def iL_cell : q_in := (cL_cell, yL_cell, 2, (some .int), { frames := 0, cells := 0, slots := 0, locals := 0 })
def iX0_copyWords : q_in := (cX0_copyWords, yX0_copyWords, 4, none, { frames := 0, cells := 0, slots := 0, locals := 0 })
def iX0_join : q_in := (cX0_join, yX0_join, 2, none, { frames := 0, cells := 0, slots := 0, locals := 0 })
def iX0_leave : q_in := (cX0_leave, yX0_leave, 2, none, { frames := 0, cells := 0, slots := 0, locals := 0 })
def iX0_take : q_in := (cX0_take, yX0_take, 3, (some .int), { frames := 0, cells := 0, slots := 0, locals := 0 })
def iX0_unused : q_in := (cX0_unused, yX0_unused, 1, (some .int), { frames := 0, cells := 0, slots := 0, locals := 0 })
def iX1_append : q_in := (cX1_append, yX1_append, 2, none, { frames := 0, cells := 0, slots := 0, locals := 0 })
def iX1_latest : q_in := (cX1_latest, yX1_latest, 2, (some .int), { frames := 0, cells := 0, slots := 0, locals := 0 })
def iX2_begin : q_in := (cX2_begin, yX2_begin, 3, none, { frames := 0, cells := 0, slots := 0, locals := 0 })
def iX2_holds : q_in := (cX2_holds, yX2_holds, 2, (some .boolean), { frames := 0, cells := 0, slots := 0, locals := 0 })
def iX2_vacate : q_in := (cX2_vacate, yX2_vacate, 1, (some .int), { frames := 0, cells := 0, slots := 0, locals := 0 })
def iX3_clearFrom : q_in := (cX3_clearFrom, yX3_clearFrom, 5, none, { frames := 1, cells := 0, slots := 0, locals := 24 })
def iX3_code : q_in := (cX3_code, yX3_code, 2, (some .int), { frames := 2, cells := 0, slots := 0, locals := 41 })
def iX3_doKernelOp : q_in := (cX3_doKernelOp, yX3_doKernelOp, 6, (some .int), { frames := 4, cells := 0, slots := 0, locals := 96 })
def iX3_doOwnOp : q_in := (cX3_doOwnOp, yX3_doOwnOp, 8, (some .int), { frames := 4, cells := 0, slots := 0, locals := 93 })
def iX3_end : q_in := (cX3_end, yX3_end, 5, (some .int), { frames := 2, cells := 0, slots := 0, locals := 44 })
def iX3_fetchAndDo : q_in := (cX3_fetchAndDo, yX3_fetchAndDo, 9, (some .int), { frames := 5, cells := 0, slots := 0, locals := 121 })
def iX3_firstFree : q_in := (cX3_firstFree, yX3_firstFree, 2, (some .int), { frames := 0, cells := 0, slots := 0, locals := 0 })
def iX3_firstZombieChild : q_in := (cX3_firstZombieChild, yX3_firstZombieChild, 3, (some .int), { frames := 0, cells := 0, slots := 0, locals := 0 })
def iX3_fork : q_in := (cX3_fork, yX3_fork, 7, (some .int), { frames := 1, cells := 0, slots := 0, locals := 22 })
def iX3_frames : q_in := (cX3_frames, yX3_frames, 1, (some .int), { frames := 0, cells := 0, slots := 0, locals := 0 })
def iX3_hasChild : q_in := (cX3_hasChild, yX3_hasChild, 3, (some .boolean), { frames := 0, cells := 0, slots := 0, locals := 0 })
def iX3_isLive : q_in := (cX3_isLive, yX3_isLive, 2, (some .boolean), { frames := 1, cells := 0, slots := 0, locals := 20 })
def iX3_isNumber : q_in := (cX3_isNumber, yX3_isNumber, 1, (some .boolean), { frames := 0, cells := 0, slots := 0, locals := 0 })
def iX3_isZombie : q_in := (cX3_isZombie, yX3_isZombie, 2, (some .boolean), { frames := 1, cells := 0, slots := 0, locals := 20 })
def iX3_jumpIf : q_in := (cX3_jumpIf, yX3_jumpIf, 3, (some .int), { frames := 0, cells := 0, slots := 0, locals := 0 })
def iX3_kill : q_in := (cX3_kill, yX3_kill, 2, (some .boolean), { frames := 3, cells := 0, slots := 0, locals := 68 })
def iX3_load : q_in := (cX3_load, yX3_load, 6, (some .int), { frames := 2, cells := 0, slots := 0, locals := 47 })
def iX3_moveBreak : q_in := (cX3_moveBreak, yX3_moveBreak, 9, (some .int), { frames := 3, cells := 0, slots := 0, locals := 68 })
def iX3_nextReady : q_in := (cX3_nextReady, yX3_nextReady, 3, (some .int), { frames := 0, cells := 0, slots := 0, locals := 0 })
def iX3_ownPage : q_in := (cX3_ownPage, yX3_ownPage, 5, (some .int), { frames := 1, cells := 0, slots := 0, locals := 23 })
def iX3_parent : q_in := (cX3_parent, yX3_parent, 2, (some .int), { frames := 1, cells := 0, slots := 0, locals := 20 })
def iX3_peek : q_in := (cX3_peek, yX3_peek, 3, (some .int), { frames := 2, cells := 0, slots := 0, locals := 41 })
def iX3_print : q_in := (cX3_print, yX3_print, 2, (some .int), { frames := 1, cells := 0, slots := 0, locals := 21 })
def iX3_printed : q_in := (cX3_printed, yX3_printed, 1, (some .int), { frames := 0, cells := 0, slots := 0, locals := 0 })
def iX3_putWord : q_in := (cX3_putWord, yX3_putWord, 5, none, { frames := 0, cells := 0, slots := 0, locals := 0 })
def iX3_readInto : q_in := (cX3_readInto, yX3_readInto, 6, (some .int), { frames := 3, cells := 0, slots := 0, locals := 68 })
def iX3_reap : q_in := (cX3_reap, yX3_reap, 2, (some .int), { frames := 2, cells := 0, slots := 0, locals := 41 })
def iX3_register : q_in := (cX3_register, yX3_register, 3, (some .int), { frames := 2, cells := 0, slots := 0, locals := 41 })
def iX3_releaseFrom : q_in := (cX3_releaseFrom, yX3_releaseFrom, 4, none, { frames := 1, cells := 0, slots := 0, locals := 21 })
def iX3_rowGoesOn : q_in := (cX3_rowGoesOn, yX3_rowGoesOn, 1, (some .boolean), { frames := 0, cells := 0, slots := 0, locals := 0 })
def iX3_running : q_in := (cX3_running, yX3_running, 1, (some .int), { frames := 1, cells := 0, slots := 0, locals := 20 })
def iX3_sharing : q_in := (cX3_sharing, yX3_sharing, 3, (some .int), { frames := 2, cells := 0, slots := 0, locals := 41 })
def iX3_stage : q_in := (cX3_stage, yX3_stage, 3, (some .boolean), { frames := 0, cells := 0, slots := 0, locals := 0 })
def iX3_state : q_in := (cX3_state, yX3_state, 2, (some .int), { frames := 1, cells := 0, slots := 0, locals := 20 })
def iX3_step : q_in := (cX3_step, yX3_step, 1, (some .int), { frames := 7, cells := 0, slots := 0, locals := 169 })
def iX3_steps : q_in := (cX3_steps, yX3_steps, 3, (some .int), { frames := 7, cells := 0, slots := 0, locals := 169 })
def iX3_takeStep : q_in := (cX3_takeStep, yX3_takeStep, 1, (some .int), { frames := 6, cells := 0, slots := 0, locals := 149 })
def iX3_touchToRead : q_in := (cX3_touchToRead, yX3_touchToRead, 4, (some .int), { frames := 1, cells := 0, slots := 0, locals := 22 })
def iX3_waitForChild : q_in := (cX3_waitForChild, yX3_waitForChild, 5, (some .int), { frames := 1, cells := 0, slots := 0, locals := 22 })
def iX3_wordAt : q_in := (cX3_wordAt, yX3_wordAt, 4, (some .int), { frames := 0, cells := 0, slots := 0, locals := 0 })
def iX3_writeFrom : q_in := (cX3_writeFrom, yX3_writeFrom, 6, (some .int), { frames := 3, cells := 0, slots := 0, locals := 68 })
def iX4_alone : q_in := (cX4_alone, yX4_alone, 2, (some .boolean), { frames := 1, cells := 0, slots := 0, locals := 24 })
def iX4_await : q_in := (cX4_await, yX4_await, 7, (some .int), { frames := 1, cells := 0, slots := 0, locals := 21 })
def iX4_choose : q_in := (cX4_choose, yX4_choose, 4, (some .boolean), { frames := 0, cells := 0, slots := 0, locals := 0 })
def iX4_code : q_in := (cX4_code, yX4_code, 2, (some .int), { frames := 1, cells := 0, slots := 0, locals := 20 })
def iX4_end : q_in := (cX4_end, yX4_end, 4, none, { frames := 1, cells := 0, slots := 0, locals := 22 })
def iX4_firstFree : q_in := (cX4_firstFree, yX4_firstFree, 2, (some .int), { frames := 0, cells := 0, slots := 0, locals := 0 })
def iX4_fork : q_in := (cX4_fork, yX4_fork, 5, (some .int), { frames := 1, cells := 0, slots := 0, locals := 21 })
def iX4_frames : q_in := (cX4_frames, yX4_frames, 5, (some .int), { frames := 0, cells := 0, slots := 0, locals := 0 })
def iX4_free : q_in := (cX4_free, yX4_free, 2, none, { frames := 0, cells := 0, slots := 0, locals := 0 })
def iX4_grow : q_in := (cX4_grow, yX4_grow, 8, none, { frames := 2, cells := 0, slots := 0, locals := 45 })
def iX4_isProcess : q_in := (cX4_isProcess, yX4_isProcess, 1, (some .boolean), { frames := 0, cells := 0, slots := 0, locals := 0 })
def iX4_kill : q_in := (cX4_kill, yX4_kill, 2, (some .boolean), { frames := 2, cells := 0, slots := 0, locals := 45 })
def iX4_lives : q_in := (cX4_lives, yX4_lives, 2, (some .boolean), { frames := 1, cells := 0, slots := 0, locals := 20 })
def iX4_load : q_in := (cX4_load, yX4_load, 5, (some .int), { frames := 1, cells := 0, slots := 0, locals := 24 })
def iX4_parent : q_in := (cX4_parent, yX4_parent, 2, (some .int), { frames := 1, cells := 0, slots := 0, locals := 20 })
def iX4_peek : q_in := (cX4_peek, yX4_peek, 3, (some .int), { frames := 2, cells := 0, slots := 0, locals := 41 })
def iX4_perform : q_in := (cX4_perform, yX4_perform, 7, (some .int), { frames := 4, cells := 0, slots := 0, locals := 98 })
def iX4_print : q_in := (cX4_print, yX4_print, 2, (some .int), { frames := 0, cells := 0, slots := 0, locals := 0 })
def iX4_printed : q_in := (cX4_printed, yX4_printed, 1, (some .int), { frames := 0, cells := 0, slots := 0, locals := 0 })
def iX4_reach : q_in := (cX4_reach, yX4_reach, 6, (some .boolean), { frames := 2, cells := 0, slots := 0, locals := 45 })
def iX4_reap : q_in := (cX4_reap, yX4_reap, 2, (some .int), { frames := 1, cells := 0, slots := 0, locals := 21 })
def iX4_register : q_in := (cX4_register, yX4_register, 3, (some .int), { frames := 2, cells := 0, slots := 0, locals := 41 })
def iX4_release : q_in := (cX4_release, yX4_release, 3, none, { frames := 0, cells := 0, slots := 0, locals := 0 })
def iX4_running : q_in := (cX4_running, yX4_running, 1, (some .int), { frames := 0, cells := 0, slots := 0, locals := 0 })
def iX4_sharers : q_in := (cX4_sharers, yX4_sharers, 4, (some .int), { frames := 0, cells := 0, slots := 0, locals := 0 })
def iX4_sharing : q_in := (cX4_sharing, yX4_sharing, 3, (some .int), { frames := 2, cells := 0, slots := 0, locals := 41 })
def iX4_simple : q_in := (cX4_simple, yX4_simple, 9, (some .int), { frames := 3, cells := 0, slots := 0, locals := 70 })
def iX4_stage : q_in := (cX4_stage, yX4_stage, 3, (some .boolean), { frames := 0, cells := 0, slots := 0, locals := 0 })
def iX4_state : q_in := (cX4_state, yX4_state, 2, (some .int), { frames := 1, cells := 0, slots := 0, locals := 20 })
def iX4_step : q_in := (cX4_step, yX4_step, 4, (some .int), { frames := 5, cells := 0, slots := 0, locals := 124 })
def iX4_steps : q_in := (cX4_steps, yX4_steps, 3, (some .int), { frames := 6, cells := 0, slots := 0, locals := 147 })
theorem clL_21 : q_cv RL 21 2 iX3_stage := ⟨⟨q_ws_in (List.mem_append_right _ (List.mem_of_getElem? (i := 109) (by decide +kernel))) rfl, q_ws_in (List.mem_append_right _ (List.mem_of_getElem? (i := 1) (by decide +kernel))) rfl, q_ws_in (List.mem_append_right _ (List.mem_of_getElem? (i := 112) (by decide +kernel))) rfl, by decide +kernel, by decide +kernel, by decide +kernel⟩, q_ws_in (List.mem_append_right _ (List.mem_of_getElem? (i := 110) (by decide +kernel))) rfl, q_ws_in (List.mem_append_right _ (List.mem_of_getElem? (i := 111) (by decide +kernel))) rfl⟩
theorem clL_26 : q_cv RL 26 1 iX3_load := ⟨⟨q_ws_in (List.mem_append_right _ (List.mem_of_getElem? (i := 113) (by decide +kernel))) rfl, q_ws_in (List.mem_append_right _ (List.mem_of_getElem? (i := 1) (by decide +kernel))) rfl, q_ws_in (List.mem_append_right _ (List.mem_of_getElem? (i := 116) (by decide +kernel))) rfl, by decide +kernel, by decide +kernel, by decide +kernel⟩, q_ws_in (List.mem_append_right _ (List.mem_of_getElem? (i := 114) (by decide +kernel))) rfl, q_ws_in (List.mem_append_right _ (List.mem_of_getElem? (i := 115) (by decide +kernel))) rfl⟩
theorem clX3_46 : q_cv RX3 46 0 iX3_firstFree := ⟨⟨q_ws_in (List.mem_append_right _ (List.mem_of_getElem? (i := 117) (by decide +kernel))) rfl, q_ws_in (List.mem_append_right _ (List.mem_of_getElem? (i := 1) (by decide +kernel))) rfl, q_ws_in (List.mem_append_right _ (List.mem_of_getElem? (i := 120) (by decide +kernel))) rfl, by decide +kernel, by decide +kernel, by decide +kernel⟩, q_ws_in (List.mem_append_right _ (List.mem_of_getElem? (i := 119) (by decide +kernel))) rfl, q_ws_in (List.mem_append_left _ (by decide +kernel : _ ∈ k2_sels lw_privs)) rfl⟩
theorem clX3_50 : q_cv RX3 50 0 iX0_unused := ⟨⟨q_ws_in (List.mem_append_right _ (List.mem_of_getElem? (i := 121) (by decide +kernel))) rfl, q_ws_in (List.mem_append_right _ (List.mem_of_getElem? (i := 2) (by decide +kernel))) rfl, q_ws_in (List.mem_append_right _ (List.mem_of_getElem? (i := 124) (by decide +kernel))) rfl, by decide +kernel, by decide +kernel, by decide +kernel⟩, q_ws_in (List.mem_append_right _ (List.mem_of_getElem? (i := 122) (by decide +kernel))) rfl, q_ws_in (List.mem_append_right _ (List.mem_of_getElem? (i := 123) (by decide +kernel))) rfl⟩
theorem clX3_53 : q_cv RX3 53 1 iX2_begin := ⟨⟨q_ws_in (List.mem_append_right _ (List.mem_of_getElem? (i := 125) (by decide +kernel))) rfl, q_ws_in (List.mem_append_right _ (List.mem_of_getElem? (i := 3) (by decide +kernel))) rfl, q_ws_in (List.mem_append_right _ (List.mem_of_getElem? (i := 128) (by decide +kernel))) rfl, by decide +kernel, by decide +kernel, by decide +kernel⟩, q_ws_in (List.mem_append_right _ (List.mem_of_getElem? (i := 126) (by decide +kernel))) rfl, q_ws_in (List.mem_append_right _ (List.mem_of_getElem? (i := 127) (by decide +kernel))) rfl⟩
theorem clX3_59 : q_cv RX3 59 2 iX3_ownPage := ⟨⟨q_ws_in (List.mem_append_right _ (List.mem_of_getElem? (i := 129) (by decide +kernel))) rfl, q_ws_in (List.mem_append_right _ (List.mem_of_getElem? (i := 1) (by decide +kernel))) rfl, q_ws_in (List.mem_append_right _ (List.mem_of_getElem? (i := 132) (by decide +kernel))) rfl, by decide +kernel, by decide +kernel, by decide +kernel⟩, q_ws_in (List.mem_append_right _ (List.mem_of_getElem? (i := 131) (by decide +kernel))) rfl, q_ws_in (List.mem_append_left _ (by decide +kernel : _ ∈ k2_sels lw_privs)) rfl⟩
theorem clX3_184 : q_cv RX3 184 0 iX0_take := ⟨⟨q_ws_in (List.mem_append_right _ (List.mem_of_getElem? (i := 133) (by decide +kernel))) rfl, q_ws_in (List.mem_append_right _ (List.mem_of_getElem? (i := 2) (by decide +kernel))) rfl, q_ws_in (List.mem_append_right _ (List.mem_of_getElem? (i := 136) (by decide +kernel))) rfl, by decide +kernel, by decide +kernel, by decide +kernel⟩, q_ws_in (List.mem_append_right _ (List.mem_of_getElem? (i := 134) (by decide +kernel))) rfl, q_ws_in (List.mem_append_right _ (List.mem_of_getElem? (i := 135) (by decide +kernel))) rfl⟩
theorem clX3_187 : q_cv RX3 187 2 iX0_copyWords := ⟨⟨q_ws_in (List.mem_append_right _ (List.mem_of_getElem? (i := 137) (by decide +kernel))) rfl, q_ws_in (List.mem_append_right _ (List.mem_of_getElem? (i := 2) (by decide +kernel))) rfl, q_ws_in (List.mem_append_right _ (List.mem_of_getElem? (i := 140) (by decide +kernel))) rfl, by decide +kernel, by decide +kernel, by decide +kernel⟩, q_ws_in (List.mem_append_right _ (List.mem_of_getElem? (i := 138) (by decide +kernel))) rfl, q_ws_in (List.mem_append_right _ (List.mem_of_getElem? (i := 139) (by decide +kernel))) rfl⟩
theorem clX3_191 : q_cv RX3 191 1 iX0_leave := ⟨⟨q_ws_in (List.mem_append_right _ (List.mem_of_getElem? (i := 141) (by decide +kernel))) rfl, q_ws_in (List.mem_append_right _ (List.mem_of_getElem? (i := 2) (by decide +kernel))) rfl, q_ws_in (List.mem_append_right _ (List.mem_of_getElem? (i := 144) (by decide +kernel))) rfl, by decide +kernel, by decide +kernel, by decide +kernel⟩, q_ws_in (List.mem_append_right _ (List.mem_of_getElem? (i := 142) (by decide +kernel))) rfl, q_ws_in (List.mem_append_right _ (List.mem_of_getElem? (i := 143) (by decide +kernel))) rfl⟩
theorem clX3_63 : q_cv RX3 63 3 iX3_putWord := ⟨⟨q_ws_in (List.mem_append_right _ (List.mem_of_getElem? (i := 145) (by decide +kernel))) rfl, q_ws_in (List.mem_append_right _ (List.mem_of_getElem? (i := 1) (by decide +kernel))) rfl, q_ws_in (List.mem_append_right _ (List.mem_of_getElem? (i := 148) (by decide +kernel))) rfl, by decide +kernel, by decide +kernel, by decide +kernel⟩, q_ws_in (List.mem_append_right _ (List.mem_of_getElem? (i := 147) (by decide +kernel))) rfl, q_ws_in (List.mem_append_left _ (by decide +kernel : _ ∈ k2_sels lw_privs)) rfl⟩
theorem clL_31 : q_cv RL 31 0 iX3_step := ⟨⟨q_ws_in (List.mem_append_right _ (List.mem_of_getElem? (i := 149) (by decide +kernel))) rfl, q_ws_in (List.mem_append_right _ (List.mem_of_getElem? (i := 1) (by decide +kernel))) rfl, q_ws_in (List.mem_append_right _ (List.mem_of_getElem? (i := 152) (by decide +kernel))) rfl, by decide +kernel, by decide +kernel, by decide +kernel⟩, q_ws_in (List.mem_append_right _ (List.mem_of_getElem? (i := 150) (by decide +kernel))) rfl, q_ws_in (List.mem_append_right _ (List.mem_of_getElem? (i := 151) (by decide +kernel))) rfl⟩
theorem clX3_67 : q_cv RX3 67 0 iX3_takeStep := ⟨⟨q_ws_in (List.mem_append_right _ (List.mem_of_getElem? (i := 153) (by decide +kernel))) rfl, q_ws_in (List.mem_append_right _ (List.mem_of_getElem? (i := 1) (by decide +kernel))) rfl, q_ws_in (List.mem_append_right _ (List.mem_of_getElem? (i := 156) (by decide +kernel))) rfl, by decide +kernel, by decide +kernel, by decide +kernel⟩, q_ws_in (List.mem_append_right _ (List.mem_of_getElem? (i := 155) (by decide +kernel))) rfl, q_ws_in (List.mem_append_left _ (by decide +kernel : _ ∈ k2_sels lw_privs)) rfl⟩
theorem clX3_96 : q_cv RX3 96 0 iX3_rowGoesOn := ⟨⟨q_ws_in (List.mem_append_right _ (List.mem_of_getElem? (i := 157) (by decide +kernel))) rfl, q_ws_in (List.mem_append_right _ (List.mem_of_getElem? (i := 1) (by decide +kernel))) rfl, q_ws_in (List.mem_append_right _ (List.mem_of_getElem? (i := 160) (by decide +kernel))) rfl, by decide +kernel, by decide +kernel, by decide +kernel⟩, q_ws_in (List.mem_append_right _ (List.mem_of_getElem? (i := 159) (by decide +kernel))) rfl, q_ws_in (List.mem_append_left _ (by decide +kernel : _ ∈ k2_sels lw_privs)) rfl⟩
theorem clX3_128 : q_cv RX3 128 0 iX3_nextReady := ⟨⟨q_ws_in (List.mem_append_right _ (List.mem_of_getElem? (i := 161) (by decide +kernel))) rfl, q_ws_in (List.mem_append_right _ (List.mem_of_getElem? (i := 1) (by decide +kernel))) rfl, q_ws_in (List.mem_append_right _ (List.mem_of_getElem? (i := 164) (by decide +kernel))) rfl, by decide +kernel, by decide +kernel, by decide +kernel⟩, q_ws_in (List.mem_append_right _ (List.mem_of_getElem? (i := 163) (by decide +kernel))) rfl, q_ws_in (List.mem_append_left _ (by decide +kernel : _ ∈ k2_sels lw_privs)) rfl⟩
theorem clX3_131 : q_cv RX3 131 1 iX3_fetchAndDo := ⟨⟨q_ws_in (List.mem_append_right _ (List.mem_of_getElem? (i := 165) (by decide +kernel))) rfl, q_ws_in (List.mem_append_right _ (List.mem_of_getElem? (i := 1) (by decide +kernel))) rfl, q_ws_in (List.mem_append_right _ (List.mem_of_getElem? (i := 168) (by decide +kernel))) rfl, by decide +kernel, by decide +kernel, by decide +kernel⟩, q_ws_in (List.mem_append_right _ (List.mem_of_getElem? (i := 167) (by decide +kernel))) rfl, q_ws_in (List.mem_append_left _ (by decide +kernel : _ ∈ k2_sels lw_privs)) rfl⟩
theorem clX3_134 : q_cv RX3 134 2 iX3_touchToRead := ⟨⟨q_ws_in (List.mem_append_right _ (List.mem_of_getElem? (i := 169) (by decide +kernel))) rfl, q_ws_in (List.mem_append_right _ (List.mem_of_getElem? (i := 1) (by decide +kernel))) rfl, q_ws_in (List.mem_append_right _ (List.mem_of_getElem? (i := 172) (by decide +kernel))) rfl, by decide +kernel, by decide +kernel, by decide +kernel⟩, q_ws_in (List.mem_append_right _ (List.mem_of_getElem? (i := 171) (by decide +kernel))) rfl, q_ws_in (List.mem_append_left _ (by decide +kernel : _ ∈ k2_sels lw_privs)) rfl⟩
theorem clX3_106 : q_cv RX3 106 1 iX2_holds := ⟨⟨q_ws_in (List.mem_append_right _ (List.mem_of_getElem? (i := 173) (by decide +kernel))) rfl, q_ws_in (List.mem_append_right _ (List.mem_of_getElem? (i := 3) (by decide +kernel))) rfl, q_ws_in (List.mem_append_right _ (List.mem_of_getElem? (i := 176) (by decide +kernel))) rfl, by decide +kernel, by decide +kernel, by decide +kernel⟩, q_ws_in (List.mem_append_right _ (List.mem_of_getElem? (i := 174) (by decide +kernel))) rfl, q_ws_in (List.mem_append_right _ (List.mem_of_getElem? (i := 175) (by decide +kernel))) rfl⟩
theorem clX3_74 : q_cv RX3 74 2 iX3_end := ⟨⟨q_ws_in (List.mem_append_right _ (List.mem_of_getElem? (i := 177) (by decide +kernel))) rfl, q_ws_in (List.mem_append_right _ (List.mem_of_getElem? (i := 1) (by decide +kernel))) rfl, q_ws_in (List.mem_append_right _ (List.mem_of_getElem? (i := 180) (by decide +kernel))) rfl, by decide +kernel, by decide +kernel, by decide +kernel⟩, q_ws_in (List.mem_append_right _ (List.mem_of_getElem? (i := 179) (by decide +kernel))) rfl, q_ws_in (List.mem_append_left _ (by decide +kernel : _ ∈ k2_sels lw_privs)) rfl⟩
theorem clX3_171 : q_cv RX3 171 2 iX3_releaseFrom := ⟨⟨q_ws_in (List.mem_append_right _ (List.mem_of_getElem? (i := 181) (by decide +kernel))) rfl, q_ws_in (List.mem_append_right _ (List.mem_of_getElem? (i := 1) (by decide +kernel))) rfl, q_ws_in (List.mem_append_right _ (List.mem_of_getElem? (i := 184) (by decide +kernel))) rfl, by decide +kernel, by decide +kernel, by decide +kernel⟩, q_ws_in (List.mem_append_right _ (List.mem_of_getElem? (i := 183) (by decide +kernel))) rfl, q_ws_in (List.mem_append_left _ (by decide +kernel : _ ∈ k2_sels lw_privs)) rfl⟩
theorem clX3_109 : q_cv RX3 109 2 iX3_wordAt := ⟨⟨q_ws_in (List.mem_append_right _ (List.mem_of_getElem? (i := 185) (by decide +kernel))) rfl, q_ws_in (List.mem_append_right _ (List.mem_of_getElem? (i := 1) (by decide +kernel))) rfl, q_ws_in (List.mem_append_right _ (List.mem_of_getElem? (i := 188) (by decide +kernel))) rfl, by decide +kernel, by decide +kernel, by decide +kernel⟩, q_ws_in (List.mem_append_right _ (List.mem_of_getElem? (i := 187) (by decide +kernel))) rfl, q_ws_in (List.mem_append_left _ (by decide +kernel : _ ∈ k2_sels lw_privs)) rfl⟩
theorem clX3_137 : q_cv RX3 137 5 iX3_doOwnOp := ⟨⟨q_ws_in (List.mem_append_right _ (List.mem_of_getElem? (i := 189) (by decide +kernel))) rfl, q_ws_in (List.mem_append_right _ (List.mem_of_getElem? (i := 1) (by decide +kernel))) rfl, q_ws_in (List.mem_append_right _ (List.mem_of_getElem? (i := 192) (by decide +kernel))) rfl, by decide +kernel, by decide +kernel, by decide +kernel⟩, q_ws_in (List.mem_append_right _ (List.mem_of_getElem? (i := 191) (by decide +kernel))) rfl, q_ws_in (List.mem_append_left _ (by decide +kernel : _ ∈ k2_sels lw_privs)) rfl⟩
theorem clX3_145 : q_cv RX3 145 3 iX3_readInto := ⟨⟨q_ws_in (List.mem_append_right _ (List.mem_of_getElem? (i := 193) (by decide +kernel))) rfl, q_ws_in (List.mem_append_right _ (List.mem_of_getElem? (i := 1) (by decide +kernel))) rfl, q_ws_in (List.mem_append_right _ (List.mem_of_getElem? (i := 196) (by decide +kernel))) rfl, by decide +kernel, by decide +kernel, by decide +kernel⟩, q_ws_in (List.mem_append_right _ (List.mem_of_getElem? (i := 195) (by decide +kernel))) rfl, q_ws_in (List.mem_append_left _ (by decide +kernel : _ ∈ k2_sels lw_privs)) rfl⟩
theorem clX3_149 : q_cv RX3 149 3 iX3_writeFrom := ⟨⟨q_ws_in (List.mem_append_right _ (List.mem_of_getElem? (i := 197) (by decide +kernel))) rfl, q_ws_in (List.mem_append_right _ (List.mem_of_getElem? (i := 1) (by decide +kernel))) rfl, q_ws_in (List.mem_append_right _ (List.mem_of_getElem? (i := 200) (by decide +kernel))) rfl, by decide +kernel, by decide +kernel, by decide +kernel⟩, q_ws_in (List.mem_append_right _ (List.mem_of_getElem? (i := 199) (by decide +kernel))) rfl, q_ws_in (List.mem_append_left _ (by decide +kernel : _ ∈ k2_sels lw_privs)) rfl⟩
theorem clX3_152 : q_cs RX3 152 3 iX3_jumpIf := ⟨⟨q_ws_in (List.mem_append_right _ (List.mem_of_getElem? (i := 201) (by decide +kernel))) rfl, q_ws_in (List.mem_append_right _ (List.mem_of_getElem? (i := 1) (by decide +kernel))) rfl, q_ws_in (List.mem_append_right _ (List.mem_of_getElem? (i := 203) (by decide +kernel))) rfl, by decide +kernel, by decide +kernel, by decide +kernel⟩, q_ws_in (List.mem_append_right _ (List.mem_of_getElem? (i := 202) (by decide +kernel))) rfl⟩
theorem clX3_156 : q_cv RX3 156 1 iX1_append := ⟨⟨q_ws_in (List.mem_append_right _ (List.mem_of_getElem? (i := 204) (by decide +kernel))) rfl, q_ws_in (List.mem_append_right _ (List.mem_of_getElem? (i := 4) (by decide +kernel))) rfl, q_ws_in (List.mem_append_right _ (List.mem_of_getElem? (i := 207) (by decide +kernel))) rfl, by decide +kernel, by decide +kernel, by decide +kernel⟩, q_ws_in (List.mem_append_right _ (List.mem_of_getElem? (i := 205) (by decide +kernel))) rfl, q_ws_in (List.mem_append_right _ (List.mem_of_getElem? (i := 206) (by decide +kernel))) rfl⟩
theorem clX3_141 : q_cv RX3 141 4 iX3_doKernelOp := ⟨⟨q_ws_in (List.mem_append_right _ (List.mem_of_getElem? (i := 208) (by decide +kernel))) rfl, q_ws_in (List.mem_append_right _ (List.mem_of_getElem? (i := 1) (by decide +kernel))) rfl, q_ws_in (List.mem_append_right _ (List.mem_of_getElem? (i := 211) (by decide +kernel))) rfl, by decide +kernel, by decide +kernel, by decide +kernel⟩, q_ws_in (List.mem_append_right _ (List.mem_of_getElem? (i := 210) (by decide +kernel))) rfl, q_ws_in (List.mem_append_left _ (by decide +kernel : _ ∈ k2_sels lw_privs)) rfl⟩
theorem clX3_159 : q_cv RX3 159 2 iX3_fork := ⟨⟨q_ws_in (List.mem_append_right _ (List.mem_of_getElem? (i := 212) (by decide +kernel))) rfl, q_ws_in (List.mem_append_right _ (List.mem_of_getElem? (i := 1) (by decide +kernel))) rfl, q_ws_in (List.mem_append_right _ (List.mem_of_getElem? (i := 215) (by decide +kernel))) rfl, by decide +kernel, by decide +kernel, by decide +kernel⟩, q_ws_in (List.mem_append_right _ (List.mem_of_getElem? (i := 214) (by decide +kernel))) rfl, q_ws_in (List.mem_append_left _ (by decide +kernel : _ ∈ k2_sels lw_privs)) rfl⟩
theorem clX3_168 : q_cv RX3 168 1 iX0_join := ⟨⟨q_ws_in (List.mem_append_right _ (List.mem_of_getElem? (i := 216) (by decide +kernel))) rfl, q_ws_in (List.mem_append_right _ (List.mem_of_getElem? (i := 2) (by decide +kernel))) rfl, q_ws_in (List.mem_append_right _ (List.mem_of_getElem? (i := 219) (by decide +kernel))) rfl, by decide +kernel, by decide +kernel, by decide +kernel⟩, q_ws_in (List.mem_append_right _ (List.mem_of_getElem? (i := 217) (by decide +kernel))) rfl, q_ws_in (List.mem_append_right _ (List.mem_of_getElem? (i := 218) (by decide +kernel))) rfl⟩
theorem clX3_162 : q_cv RX3 162 3 iX3_moveBreak := ⟨⟨q_ws_in (List.mem_append_right _ (List.mem_of_getElem? (i := 220) (by decide +kernel))) rfl, q_ws_in (List.mem_append_right _ (List.mem_of_getElem? (i := 1) (by decide +kernel))) rfl, q_ws_in (List.mem_append_right _ (List.mem_of_getElem? (i := 223) (by decide +kernel))) rfl, by decide +kernel, by decide +kernel, by decide +kernel⟩, q_ws_in (List.mem_append_right _ (List.mem_of_getElem? (i := 222) (by decide +kernel))) rfl, q_ws_in (List.mem_append_left _ (by decide +kernel : _ ∈ k2_sels lw_privs)) rfl⟩
theorem clX3_175 : q_cv RX3 175 2 iX3_clearFrom := ⟨⟨q_ws_in (List.mem_append_right _ (List.mem_of_getElem? (i := 224) (by decide +kernel))) rfl, q_ws_in (List.mem_append_right _ (List.mem_of_getElem? (i := 1) (by decide +kernel))) rfl, q_ws_in (List.mem_append_right _ (List.mem_of_getElem? (i := 227) (by decide +kernel))) rfl, by decide +kernel, by decide +kernel, by decide +kernel⟩, q_ws_in (List.mem_append_right _ (List.mem_of_getElem? (i := 226) (by decide +kernel))) rfl, q_ws_in (List.mem_append_left _ (by decide +kernel : _ ∈ k2_sels lw_privs)) rfl⟩
theorem clX3_165 : q_cv RX3 165 2 iX3_waitForChild := ⟨⟨q_ws_in (List.mem_append_right _ (List.mem_of_getElem? (i := 228) (by decide +kernel))) rfl, q_ws_in (List.mem_append_right _ (List.mem_of_getElem? (i := 1) (by decide +kernel))) rfl, q_ws_in (List.mem_append_right _ (List.mem_of_getElem? (i := 231) (by decide +kernel))) rfl, by decide +kernel, by decide +kernel, by decide +kernel⟩, q_ws_in (List.mem_append_right _ (List.mem_of_getElem? (i := 230) (by decide +kernel))) rfl, q_ws_in (List.mem_append_left _ (by decide +kernel : _ ∈ k2_sels lw_privs)) rfl⟩
theorem clX3_178 : q_cv RX3 178 1 iX3_firstZombieChild := ⟨⟨q_ws_in (List.mem_append_right _ (List.mem_of_getElem? (i := 232) (by decide +kernel))) rfl, q_ws_in (List.mem_append_right _ (List.mem_of_getElem? (i := 1) (by decide +kernel))) rfl, q_ws_in (List.mem_append_right _ (List.mem_of_getElem? (i := 235) (by decide +kernel))) rfl, by decide +kernel, by decide +kernel, by decide +kernel⟩, q_ws_in (List.mem_append_right _ (List.mem_of_getElem? (i := 234) (by decide +kernel))) rfl, q_ws_in (List.mem_append_left _ (by decide +kernel : _ ∈ k2_sels lw_privs)) rfl⟩
theorem clX3_84 : q_cv RX3 84 0 iX2_vacate := ⟨⟨q_ws_in (List.mem_append_right _ (List.mem_of_getElem? (i := 236) (by decide +kernel))) rfl, q_ws_in (List.mem_append_right _ (List.mem_of_getElem? (i := 3) (by decide +kernel))) rfl, q_ws_in (List.mem_append_right _ (List.mem_of_getElem? (i := 239) (by decide +kernel))) rfl, by decide +kernel, by decide +kernel, by decide +kernel⟩, q_ws_in (List.mem_append_right _ (List.mem_of_getElem? (i := 237) (by decide +kernel))) rfl, q_ws_in (List.mem_append_right _ (List.mem_of_getElem? (i := 238) (by decide +kernel))) rfl⟩
theorem clX3_181 : q_cv RX3 181 1 iX3_hasChild := ⟨⟨q_ws_in (List.mem_append_right _ (List.mem_of_getElem? (i := 240) (by decide +kernel))) rfl, q_ws_in (List.mem_append_right _ (List.mem_of_getElem? (i := 1) (by decide +kernel))) rfl, q_ws_in (List.mem_append_right _ (List.mem_of_getElem? (i := 243) (by decide +kernel))) rfl, by decide +kernel, by decide +kernel, by decide +kernel⟩, q_ws_in (List.mem_append_right _ (List.mem_of_getElem? (i := 242) (by decide +kernel))) rfl, q_ws_in (List.mem_append_left _ (by decide +kernel : _ ∈ k2_sels lw_privs)) rfl⟩
theorem clL_36 : q_cv RL 36 1 iX3_steps := ⟨⟨q_ws_in (List.mem_append_right _ (List.mem_of_getElem? (i := 244) (by decide +kernel))) rfl, q_ws_in (List.mem_append_right _ (List.mem_of_getElem? (i := 1) (by decide +kernel))) rfl, q_ws_in (List.mem_append_right _ (List.mem_of_getElem? (i := 247) (by decide +kernel))) rfl, by decide +kernel, by decide +kernel, by decide +kernel⟩, q_ws_in (List.mem_append_right _ (List.mem_of_getElem? (i := 245) (by decide +kernel))) rfl, q_ws_in (List.mem_append_right _ (List.mem_of_getElem? (i := 246) (by decide +kernel))) rfl⟩
theorem clL_40 : q_cv RL 40 1 iX3_kill := ⟨⟨q_ws_in (List.mem_append_right _ (List.mem_of_getElem? (i := 248) (by decide +kernel))) rfl, q_ws_in (List.mem_append_right _ (List.mem_of_getElem? (i := 1) (by decide +kernel))) rfl, q_ws_in (List.mem_append_right _ (List.mem_of_getElem? (i := 251) (by decide +kernel))) rfl, by decide +kernel, by decide +kernel, by decide +kernel⟩, q_ws_in (List.mem_append_right _ (List.mem_of_getElem? (i := 249) (by decide +kernel))) rfl, q_ws_in (List.mem_append_right _ (List.mem_of_getElem? (i := 250) (by decide +kernel))) rfl⟩
theorem clX3_70 : q_cv RX3 70 1 iX3_isLive := ⟨⟨q_ws_in (List.mem_append_right _ (List.mem_of_getElem? (i := 252) (by decide +kernel))) rfl, q_ws_in (List.mem_append_right _ (List.mem_of_getElem? (i := 1) (by decide +kernel))) rfl, q_ws_in (List.mem_append_right _ (List.mem_of_getElem? (i := 255) (by decide +kernel))) rfl, by decide +kernel, by decide +kernel, by decide +kernel⟩, q_ws_in (List.mem_append_right _ (List.mem_of_getElem? (i := 254) (by decide +kernel))) rfl, q_ws_in (List.mem_append_left _ (by decide +kernel : _ ∈ k2_sels lw_privs)) rfl⟩
theorem clX3_87 : q_cs RX3 87 1 iX3_isNumber := ⟨⟨q_ws_in (List.mem_append_right _ (List.mem_of_getElem? (i := 256) (by decide +kernel))) rfl, q_ws_in (List.mem_append_right _ (List.mem_of_getElem? (i := 1) (by decide +kernel))) rfl, q_ws_in (List.mem_append_right _ (List.mem_of_getElem? (i := 258) (by decide +kernel))) rfl, by decide +kernel, by decide +kernel, by decide +kernel⟩, q_ws_in (List.mem_append_right _ (List.mem_of_getElem? (i := 257) (by decide +kernel))) rfl⟩
theorem clL_45 : q_cv RL 45 1 iX3_reap := ⟨⟨q_ws_in (List.mem_append_right _ (List.mem_of_getElem? (i := 259) (by decide +kernel))) rfl, q_ws_in (List.mem_append_right _ (List.mem_of_getElem? (i := 1) (by decide +kernel))) rfl, q_ws_in (List.mem_append_right _ (List.mem_of_getElem? (i := 262) (by decide +kernel))) rfl, by decide +kernel, by decide +kernel, by decide +kernel⟩, q_ws_in (List.mem_append_right _ (List.mem_of_getElem? (i := 260) (by decide +kernel))) rfl, q_ws_in (List.mem_append_right _ (List.mem_of_getElem? (i := 261) (by decide +kernel))) rfl⟩
theorem clX3_78 : q_cv RX3 78 1 iX3_isZombie := ⟨⟨q_ws_in (List.mem_append_right _ (List.mem_of_getElem? (i := 263) (by decide +kernel))) rfl, q_ws_in (List.mem_append_right _ (List.mem_of_getElem? (i := 1) (by decide +kernel))) rfl, q_ws_in (List.mem_append_right _ (List.mem_of_getElem? (i := 266) (by decide +kernel))) rfl, by decide +kernel, by decide +kernel, by decide +kernel⟩, q_ws_in (List.mem_append_right _ (List.mem_of_getElem? (i := 265) (by decide +kernel))) rfl, q_ws_in (List.mem_append_left _ (by decide +kernel : _ ∈ k2_sels lw_privs)) rfl⟩
theorem clL_49 : q_cv RL 49 1 iX3_state := ⟨⟨q_ws_in (List.mem_append_right _ (List.mem_of_getElem? (i := 267) (by decide +kernel))) rfl, q_ws_in (List.mem_append_right _ (List.mem_of_getElem? (i := 1) (by decide +kernel))) rfl, q_ws_in (List.mem_append_right _ (List.mem_of_getElem? (i := 270) (by decide +kernel))) rfl, by decide +kernel, by decide +kernel, by decide +kernel⟩, q_ws_in (List.mem_append_right _ (List.mem_of_getElem? (i := 268) (by decide +kernel))) rfl, q_ws_in (List.mem_append_right _ (List.mem_of_getElem? (i := 269) (by decide +kernel))) rfl⟩
theorem clL_53 : q_cv RL 53 1 iX3_parent := ⟨⟨q_ws_in (List.mem_append_right _ (List.mem_of_getElem? (i := 271) (by decide +kernel))) rfl, q_ws_in (List.mem_append_right _ (List.mem_of_getElem? (i := 1) (by decide +kernel))) rfl, q_ws_in (List.mem_append_right _ (List.mem_of_getElem? (i := 274) (by decide +kernel))) rfl, by decide +kernel, by decide +kernel, by decide +kernel⟩, q_ws_in (List.mem_append_right _ (List.mem_of_getElem? (i := 272) (by decide +kernel))) rfl, q_ws_in (List.mem_append_right _ (List.mem_of_getElem? (i := 273) (by decide +kernel))) rfl⟩
theorem clL_57 : q_cv RL 57 1 iX3_code := ⟨⟨q_ws_in (List.mem_append_right _ (List.mem_of_getElem? (i := 275) (by decide +kernel))) rfl, q_ws_in (List.mem_append_right _ (List.mem_of_getElem? (i := 1) (by decide +kernel))) rfl, q_ws_in (List.mem_append_right _ (List.mem_of_getElem? (i := 278) (by decide +kernel))) rfl, by decide +kernel, by decide +kernel, by decide +kernel⟩, q_ws_in (List.mem_append_right _ (List.mem_of_getElem? (i := 276) (by decide +kernel))) rfl, q_ws_in (List.mem_append_right _ (List.mem_of_getElem? (i := 277) (by decide +kernel))) rfl⟩
theorem clL_61 : q_cv RL 61 0 iX3_running := ⟨⟨q_ws_in (List.mem_append_right _ (List.mem_of_getElem? (i := 279) (by decide +kernel))) rfl, q_ws_in (List.mem_append_right _ (List.mem_of_getElem? (i := 1) (by decide +kernel))) rfl, q_ws_in (List.mem_append_right _ (List.mem_of_getElem? (i := 282) (by decide +kernel))) rfl, by decide +kernel, by decide +kernel, by decide +kernel⟩, q_ws_in (List.mem_append_right _ (List.mem_of_getElem? (i := 280) (by decide +kernel))) rfl, q_ws_in (List.mem_append_right _ (List.mem_of_getElem? (i := 281) (by decide +kernel))) rfl⟩
theorem clL_65 : q_cv RL 65 2 iX3_register := ⟨⟨q_ws_in (List.mem_append_right _ (List.mem_of_getElem? (i := 283) (by decide +kernel))) rfl, q_ws_in (List.mem_append_right _ (List.mem_of_getElem? (i := 1) (by decide +kernel))) rfl, q_ws_in (List.mem_append_right _ (List.mem_of_getElem? (i := 286) (by decide +kernel))) rfl, by decide +kernel, by decide +kernel, by decide +kernel⟩, q_ws_in (List.mem_append_right _ (List.mem_of_getElem? (i := 284) (by decide +kernel))) rfl, q_ws_in (List.mem_append_right _ (List.mem_of_getElem? (i := 285) (by decide +kernel))) rfl⟩
theorem clL_70 : q_cv RL 70 2 iX3_peek := ⟨⟨q_ws_in (List.mem_append_right _ (List.mem_of_getElem? (i := 287) (by decide +kernel))) rfl, q_ws_in (List.mem_append_right _ (List.mem_of_getElem? (i := 1) (by decide +kernel))) rfl, q_ws_in (List.mem_append_right _ (List.mem_of_getElem? (i := 290) (by decide +kernel))) rfl, by decide +kernel, by decide +kernel, by decide +kernel⟩, q_ws_in (List.mem_append_right _ (List.mem_of_getElem? (i := 288) (by decide +kernel))) rfl, q_ws_in (List.mem_append_right _ (List.mem_of_getElem? (i := 289) (by decide +kernel))) rfl⟩
theorem clL_74 : q_cv RL 74 2 iX3_sharing := ⟨⟨q_ws_in (List.mem_append_right _ (List.mem_of_getElem? (i := 291) (by decide +kernel))) rfl, q_ws_in (List.mem_append_right _ (List.mem_of_getElem? (i := 1) (by decide +kernel))) rfl, q_ws_in (List.mem_append_right _ (List.mem_of_getElem? (i := 294) (by decide +kernel))) rfl, by decide +kernel, by decide +kernel, by decide +kernel⟩, q_ws_in (List.mem_append_right _ (List.mem_of_getElem? (i := 292) (by decide +kernel))) rfl, q_ws_in (List.mem_append_right _ (List.mem_of_getElem? (i := 293) (by decide +kernel))) rfl⟩
theorem clL_78 : q_cv RL 78 0 iX3_frames := ⟨⟨q_ws_in (List.mem_append_right _ (List.mem_of_getElem? (i := 295) (by decide +kernel))) rfl, q_ws_in (List.mem_append_right _ (List.mem_of_getElem? (i := 1) (by decide +kernel))) rfl, q_ws_in (List.mem_append_right _ (List.mem_of_getElem? (i := 298) (by decide +kernel))) rfl, by decide +kernel, by decide +kernel, by decide +kernel⟩, q_ws_in (List.mem_append_right _ (List.mem_of_getElem? (i := 296) (by decide +kernel))) rfl, q_ws_in (List.mem_append_right _ (List.mem_of_getElem? (i := 297) (by decide +kernel))) rfl⟩
theorem clL_82 : q_cv RL 82 0 iX3_printed := ⟨⟨q_ws_in (List.mem_append_right _ (List.mem_of_getElem? (i := 299) (by decide +kernel))) rfl, q_ws_in (List.mem_append_right _ (List.mem_of_getElem? (i := 1) (by decide +kernel))) rfl, q_ws_in (List.mem_append_right _ (List.mem_of_getElem? (i := 302) (by decide +kernel))) rfl, by decide +kernel, by decide +kernel, by decide +kernel⟩, q_ws_in (List.mem_append_right _ (List.mem_of_getElem? (i := 300) (by decide +kernel))) rfl, q_ws_in (List.mem_append_right _ (List.mem_of_getElem? (i := 301) (by decide +kernel))) rfl⟩
theorem clL_86 : q_cv RL 86 1 iX3_print := ⟨⟨q_ws_in (List.mem_append_right _ (List.mem_of_getElem? (i := 303) (by decide +kernel))) rfl, q_ws_in (List.mem_append_right _ (List.mem_of_getElem? (i := 1) (by decide +kernel))) rfl, q_ws_in (List.mem_append_right _ (List.mem_of_getElem? (i := 306) (by decide +kernel))) rfl, by decide +kernel, by decide +kernel, by decide +kernel⟩, q_ws_in (List.mem_append_right _ (List.mem_of_getElem? (i := 304) (by decide +kernel))) rfl, q_ws_in (List.mem_append_right _ (List.mem_of_getElem? (i := 305) (by decide +kernel))) rfl⟩
theorem clX3_124 : q_cv RX3 124 1 iX1_latest := ⟨⟨q_ws_in (List.mem_append_right _ (List.mem_of_getElem? (i := 307) (by decide +kernel))) rfl, q_ws_in (List.mem_append_right _ (List.mem_of_getElem? (i := 4) (by decide +kernel))) rfl, q_ws_in (List.mem_append_right _ (List.mem_of_getElem? (i := 310) (by decide +kernel))) rfl, by decide +kernel, by decide +kernel, by decide +kernel⟩, q_ws_in (List.mem_append_right _ (List.mem_of_getElem? (i := 308) (by decide +kernel))) rfl, q_ws_in (List.mem_append_right _ (List.mem_of_getElem? (i := 309) (by decide +kernel))) rfl⟩
theorem clL_9 : q_cs RL 9 2 iL_cell := ⟨⟨q_ws_in (List.mem_append_right _ (List.mem_of_getElem? (i := 311) (by decide +kernel))) rfl, q_ws_in (List.mem_append_right _ (List.mem_of_getElem? (i := 0) (by decide +kernel))) rfl, q_ws_in (List.mem_append_right _ (List.mem_of_getElem? (i := 313) (by decide +kernel))) rfl, by decide +kernel, by decide +kernel, by decide +kernel⟩, q_ws_in (List.mem_append_right _ (List.mem_of_getElem? (i := 312) (by decide +kernel))) rfl⟩
theorem clL_25 : q_cv RL 25 2 iX4_stage := ⟨⟨q_ws_in (List.mem_append_right _ (List.mem_of_getElem? (i := 372) (by decide +kernel))) rfl, q_ws_in (List.mem_append_right _ (List.mem_of_getElem? (i := 5) (by decide +kernel))) rfl, q_ws_in (List.mem_append_right _ (List.mem_of_getElem? (i := 375) (by decide +kernel))) rfl, by decide +kernel, by decide +kernel, by decide +kernel⟩, q_ws_in (List.mem_append_right _ (List.mem_of_getElem? (i := 373) (by decide +kernel))) rfl, q_ws_in (List.mem_append_right _ (List.mem_of_getElem? (i := 374) (by decide +kernel))) rfl⟩
theorem clL_81 : q_cv RL 81 0 iX4_frames := ⟨⟨q_ws_in (List.mem_append_right _ (List.mem_of_getElem? (i := 376) (by decide +kernel))) rfl, q_ws_in (List.mem_append_right _ (List.mem_of_getElem? (i := 5) (by decide +kernel))) rfl, q_ws_in (List.mem_append_right _ (List.mem_of_getElem? (i := 379) (by decide +kernel))) rfl, by decide +kernel, by decide +kernel, by decide +kernel⟩, q_ws_in (List.mem_append_right _ (List.mem_of_getElem? (i := 377) (by decide +kernel))) rfl, q_ws_in (List.mem_append_right _ (List.mem_of_getElem? (i := 378) (by decide +kernel))) rfl⟩
theorem clL_30 : q_cv RL 30 1 iX4_load := ⟨⟨q_ws_in (List.mem_append_right _ (List.mem_of_getElem? (i := 380) (by decide +kernel))) rfl, q_ws_in (List.mem_append_right _ (List.mem_of_getElem? (i := 5) (by decide +kernel))) rfl, q_ws_in (List.mem_append_right _ (List.mem_of_getElem? (i := 383) (by decide +kernel))) rfl, by decide +kernel, by decide +kernel, by decide +kernel⟩, q_ws_in (List.mem_append_right _ (List.mem_of_getElem? (i := 381) (by decide +kernel))) rfl, q_ws_in (List.mem_append_right _ (List.mem_of_getElem? (i := 382) (by decide +kernel))) rfl⟩
theorem clX4_71 : q_cv RX4 71 0 iX4_firstFree := ⟨⟨q_ws_in (List.mem_append_right _ (List.mem_of_getElem? (i := 384) (by decide +kernel))) rfl, q_ws_in (List.mem_append_right _ (List.mem_of_getElem? (i := 5) (by decide +kernel))) rfl, q_ws_in (List.mem_append_right _ (List.mem_of_getElem? (i := 387) (by decide +kernel))) rfl, by decide +kernel, by decide +kernel, by decide +kernel⟩, q_ws_in (List.mem_append_right _ (List.mem_of_getElem? (i := 386) (by decide +kernel))) rfl, q_ws_in (List.mem_append_left _ (by decide +kernel : _ ∈ k2_sels lw_privs)) rfl⟩
theorem clX4_50 : q_cv RX4 50 0 iX4_frames := ⟨⟨q_ws_in (List.mem_append_right _ (List.mem_of_getElem? (i := 388) (by decide +kernel))) rfl, q_ws_in (List.mem_append_right _ (List.mem_of_getElem? (i := 5) (by decide +kernel))) rfl, q_ws_in (List.mem_append_right _ (List.mem_of_getElem? (i := 379) (by decide +kernel))) rfl, by decide +kernel, by decide +kernel, by decide +kernel⟩, q_ws_in (List.mem_append_right _ (List.mem_of_getElem? (i := 377) (by decide +kernel))) rfl, q_ws_in (List.mem_append_right _ (List.mem_of_getElem? (i := 378) (by decide +kernel))) rfl⟩
theorem clL_44 : q_cv RL 44 1 iX4_kill := ⟨⟨q_ws_in (List.mem_append_right _ (List.mem_of_getElem? (i := 389) (by decide +kernel))) rfl, q_ws_in (List.mem_append_right _ (List.mem_of_getElem? (i := 5) (by decide +kernel))) rfl, q_ws_in (List.mem_append_right _ (List.mem_of_getElem? (i := 392) (by decide +kernel))) rfl, by decide +kernel, by decide +kernel, by decide +kernel⟩, q_ws_in (List.mem_append_right _ (List.mem_of_getElem? (i := 390) (by decide +kernel))) rfl, q_ws_in (List.mem_append_right _ (List.mem_of_getElem? (i := 391) (by decide +kernel))) rfl⟩
theorem clX4_78 : q_cv RX4 78 1 iX4_lives := ⟨⟨q_ws_in (List.mem_append_right _ (List.mem_of_getElem? (i := 393) (by decide +kernel))) rfl, q_ws_in (List.mem_append_right _ (List.mem_of_getElem? (i := 5) (by decide +kernel))) rfl, q_ws_in (List.mem_append_right _ (List.mem_of_getElem? (i := 396) (by decide +kernel))) rfl, by decide +kernel, by decide +kernel, by decide +kernel⟩, q_ws_in (List.mem_append_right _ (List.mem_of_getElem? (i := 395) (by decide +kernel))) rfl, q_ws_in (List.mem_append_left _ (by decide +kernel : _ ∈ k2_sels lw_privs)) rfl⟩
theorem clX4_68 : q_cs RX4 68 1 iX4_isProcess := ⟨⟨q_ws_in (List.mem_append_right _ (List.mem_of_getElem? (i := 397) (by decide +kernel))) rfl, q_ws_in (List.mem_append_right _ (List.mem_of_getElem? (i := 5) (by decide +kernel))) rfl, q_ws_in (List.mem_append_right _ (List.mem_of_getElem? (i := 399) (by decide +kernel))) rfl, by decide +kernel, by decide +kernel, by decide +kernel⟩, q_ws_in (List.mem_append_right _ (List.mem_of_getElem? (i := 398) (by decide +kernel))) rfl⟩
theorem clX4_81 : q_cv RX4 81 2 iX4_end := ⟨⟨q_ws_in (List.mem_append_right _ (List.mem_of_getElem? (i := 400) (by decide +kernel))) rfl, q_ws_in (List.mem_append_right _ (List.mem_of_getElem? (i := 5) (by decide +kernel))) rfl, q_ws_in (List.mem_append_right _ (List.mem_of_getElem? (i := 403) (by decide +kernel))) rfl, by decide +kernel, by decide +kernel, by decide +kernel⟩, q_ws_in (List.mem_append_right _ (List.mem_of_getElem? (i := 402) (by decide +kernel))) rfl, q_ws_in (List.mem_append_left _ (by decide +kernel : _ ∈ k2_sels lw_privs)) rfl⟩
theorem clX4_74 : q_cv RX4 74 1 iX4_release := ⟨⟨q_ws_in (List.mem_append_right _ (List.mem_of_getElem? (i := 404) (by decide +kernel))) rfl, q_ws_in (List.mem_append_right _ (List.mem_of_getElem? (i := 5) (by decide +kernel))) rfl, q_ws_in (List.mem_append_right _ (List.mem_of_getElem? (i := 407) (by decide +kernel))) rfl, by decide +kernel, by decide +kernel, by decide +kernel⟩, q_ws_in (List.mem_append_right _ (List.mem_of_getElem? (i := 406) (by decide +kernel))) rfl, q_ws_in (List.mem_append_left _ (by decide +kernel : _ ∈ k2_sels lw_privs)) rfl⟩
theorem clL_48 : q_cv RL 48 1 iX4_reap := ⟨⟨q_ws_in (List.mem_append_right _ (List.mem_of_getElem? (i := 408) (by decide +kernel))) rfl, q_ws_in (List.mem_append_right _ (List.mem_of_getElem? (i := 5) (by decide +kernel))) rfl, q_ws_in (List.mem_append_right _ (List.mem_of_getElem? (i := 411) (by decide +kernel))) rfl, by decide +kernel, by decide +kernel, by decide +kernel⟩, q_ws_in (List.mem_append_right _ (List.mem_of_getElem? (i := 409) (by decide +kernel))) rfl, q_ws_in (List.mem_append_right _ (List.mem_of_getElem? (i := 410) (by decide +kernel))) rfl⟩
theorem clX4_85 : q_cv RX4 85 1 iX4_free := ⟨⟨q_ws_in (List.mem_append_right _ (List.mem_of_getElem? (i := 412) (by decide +kernel))) rfl, q_ws_in (List.mem_append_right _ (List.mem_of_getElem? (i := 5) (by decide +kernel))) rfl, q_ws_in (List.mem_append_right _ (List.mem_of_getElem? (i := 415) (by decide +kernel))) rfl, by decide +kernel, by decide +kernel, by decide +kernel⟩, q_ws_in (List.mem_append_right _ (List.mem_of_getElem? (i := 414) (by decide +kernel))) rfl, q_ws_in (List.mem_append_left _ (by decide +kernel : _ ∈ k2_sels lw_privs)) rfl⟩
theorem clL_35 : q_cv RL 35 0 iX4_step := ⟨⟨q_ws_in (List.mem_append_right _ (List.mem_of_getElem? (i := 416) (by decide +kernel))) rfl, q_ws_in (List.mem_append_right _ (List.mem_of_getElem? (i := 5) (by decide +kernel))) rfl, q_ws_in (List.mem_append_right _ (List.mem_of_getElem? (i := 419) (by decide +kernel))) rfl, by decide +kernel, by decide +kernel, by decide +kernel⟩, q_ws_in (List.mem_append_right _ (List.mem_of_getElem? (i := 417) (by decide +kernel))) rfl, q_ws_in (List.mem_append_right _ (List.mem_of_getElem? (i := 418) (by decide +kernel))) rfl⟩
theorem clX4_113 : q_cv RX4 113 0 iX4_choose := ⟨⟨q_ws_in (List.mem_append_right _ (List.mem_of_getElem? (i := 420) (by decide +kernel))) rfl, q_ws_in (List.mem_append_right _ (List.mem_of_getElem? (i := 5) (by decide +kernel))) rfl, q_ws_in (List.mem_append_right _ (List.mem_of_getElem? (i := 423) (by decide +kernel))) rfl, by decide +kernel, by decide +kernel, by decide +kernel⟩, q_ws_in (List.mem_append_right _ (List.mem_of_getElem? (i := 422) (by decide +kernel))) rfl, q_ws_in (List.mem_append_left _ (by decide +kernel : _ ∈ k2_sels lw_privs)) rfl⟩
theorem clX4_91 : q_cv RX4 91 3 iX4_reach := ⟨⟨q_ws_in (List.mem_append_right _ (List.mem_of_getElem? (i := 424) (by decide +kernel))) rfl, q_ws_in (List.mem_append_right _ (List.mem_of_getElem? (i := 5) (by decide +kernel))) rfl, q_ws_in (List.mem_append_right _ (List.mem_of_getElem? (i := 427) (by decide +kernel))) rfl, by decide +kernel, by decide +kernel, by decide +kernel⟩, q_ws_in (List.mem_append_right _ (List.mem_of_getElem? (i := 426) (by decide +kernel))) rfl, q_ws_in (List.mem_append_left _ (by decide +kernel : _ ∈ k2_sels lw_privs)) rfl⟩
theorem clX4_60 : q_cv RX4 60 1 iX4_sharers := ⟨⟨q_ws_in (List.mem_append_right _ (List.mem_of_getElem? (i := 428) (by decide +kernel))) rfl, q_ws_in (List.mem_append_right _ (List.mem_of_getElem? (i := 5) (by decide +kernel))) rfl, q_ws_in (List.mem_append_right _ (List.mem_of_getElem? (i := 431) (by decide +kernel))) rfl, by decide +kernel, by decide +kernel, by decide +kernel⟩, q_ws_in (List.mem_append_right _ (List.mem_of_getElem? (i := 430) (by decide +kernel))) rfl, q_ws_in (List.mem_append_left _ (by decide +kernel : _ ∈ k2_sels lw_privs)) rfl⟩
theorem clX4_64 : q_cv RX4 64 1 iX4_alone := ⟨⟨q_ws_in (List.mem_append_right _ (List.mem_of_getElem? (i := 432) (by decide +kernel))) rfl, q_ws_in (List.mem_append_right _ (List.mem_of_getElem? (i := 5) (by decide +kernel))) rfl, q_ws_in (List.mem_append_right _ (List.mem_of_getElem? (i := 435) (by decide +kernel))) rfl, by decide +kernel, by decide +kernel, by decide +kernel⟩, q_ws_in (List.mem_append_right _ (List.mem_of_getElem? (i := 434) (by decide +kernel))) rfl, q_ws_in (List.mem_append_left _ (by decide +kernel : _ ∈ k2_sels lw_privs)) rfl⟩
theorem clX4_117 : q_cv RX4 117 2 iX4_perform := ⟨⟨q_ws_in (List.mem_append_right _ (List.mem_of_getElem? (i := 436) (by decide +kernel))) rfl, q_ws_in (List.mem_append_right _ (List.mem_of_getElem? (i := 5) (by decide +kernel))) rfl, q_ws_in (List.mem_append_right _ (List.mem_of_getElem? (i := 439) (by decide +kernel))) rfl, by decide +kernel, by decide +kernel, by decide +kernel⟩, q_ws_in (List.mem_append_right _ (List.mem_of_getElem? (i := 438) (by decide +kernel))) rfl, q_ws_in (List.mem_append_left _ (by decide +kernel : _ ∈ k2_sels lw_privs)) rfl⟩
theorem clX4_98 : q_cv RX4 98 5 iX4_simple := ⟨⟨q_ws_in (List.mem_append_right _ (List.mem_of_getElem? (i := 440) (by decide +kernel))) rfl, q_ws_in (List.mem_append_right _ (List.mem_of_getElem? (i := 5) (by decide +kernel))) rfl, q_ws_in (List.mem_append_right _ (List.mem_of_getElem? (i := 443) (by decide +kernel))) rfl, by decide +kernel, by decide +kernel, by decide +kernel⟩, q_ws_in (List.mem_append_right _ (List.mem_of_getElem? (i := 442) (by decide +kernel))) rfl, q_ws_in (List.mem_append_left _ (by decide +kernel : _ ∈ k2_sels lw_privs)) rfl⟩
theorem clX4_102 : q_cv RX4 102 2 iX4_fork := ⟨⟨q_ws_in (List.mem_append_right _ (List.mem_of_getElem? (i := 444) (by decide +kernel))) rfl, q_ws_in (List.mem_append_right _ (List.mem_of_getElem? (i := 5) (by decide +kernel))) rfl, q_ws_in (List.mem_append_right _ (List.mem_of_getElem? (i := 447) (by decide +kernel))) rfl, by decide +kernel, by decide +kernel, by decide +kernel⟩, q_ws_in (List.mem_append_right _ (List.mem_of_getElem? (i := 446) (by decide +kernel))) rfl, q_ws_in (List.mem_append_left _ (by decide +kernel : _ ∈ k2_sels lw_privs)) rfl⟩
theorem clX4_106 : q_cv RX4 106 3 iX4_grow := ⟨⟨q_ws_in (List.mem_append_right _ (List.mem_of_getElem? (i := 448) (by decide +kernel))) rfl, q_ws_in (List.mem_append_right _ (List.mem_of_getElem? (i := 5) (by decide +kernel))) rfl, q_ws_in (List.mem_append_right _ (List.mem_of_getElem? (i := 451) (by decide +kernel))) rfl, by decide +kernel, by decide +kernel, by decide +kernel⟩, q_ws_in (List.mem_append_right _ (List.mem_of_getElem? (i := 450) (by decide +kernel))) rfl, q_ws_in (List.mem_append_left _ (by decide +kernel : _ ∈ k2_sels lw_privs)) rfl⟩
theorem clX4_110 : q_cv RX4 110 2 iX4_await := ⟨⟨q_ws_in (List.mem_append_right _ (List.mem_of_getElem? (i := 452) (by decide +kernel))) rfl, q_ws_in (List.mem_append_right _ (List.mem_of_getElem? (i := 5) (by decide +kernel))) rfl, q_ws_in (List.mem_append_right _ (List.mem_of_getElem? (i := 455) (by decide +kernel))) rfl, by decide +kernel, by decide +kernel, by decide +kernel⟩, q_ws_in (List.mem_append_right _ (List.mem_of_getElem? (i := 454) (by decide +kernel))) rfl, q_ws_in (List.mem_append_left _ (by decide +kernel : _ ∈ k2_sels lw_privs)) rfl⟩
theorem clL_39 : q_cv RL 39 1 iX4_steps := ⟨⟨q_ws_in (List.mem_append_right _ (List.mem_of_getElem? (i := 456) (by decide +kernel))) rfl, q_ws_in (List.mem_append_right _ (List.mem_of_getElem? (i := 5) (by decide +kernel))) rfl, q_ws_in (List.mem_append_right _ (List.mem_of_getElem? (i := 459) (by decide +kernel))) rfl, by decide +kernel, by decide +kernel, by decide +kernel⟩, q_ws_in (List.mem_append_right _ (List.mem_of_getElem? (i := 457) (by decide +kernel))) rfl, q_ws_in (List.mem_append_right _ (List.mem_of_getElem? (i := 458) (by decide +kernel))) rfl⟩
theorem clX4_120 : q_cv RX4 120 0 iX4_step := ⟨⟨q_ws_in (List.mem_append_right _ (List.mem_of_getElem? (i := 460) (by decide +kernel))) rfl, q_ws_in (List.mem_append_right _ (List.mem_of_getElem? (i := 5) (by decide +kernel))) rfl, q_ws_in (List.mem_append_right _ (List.mem_of_getElem? (i := 419) (by decide +kernel))) rfl, by decide +kernel, by decide +kernel, by decide +kernel⟩, q_ws_in (List.mem_append_right _ (List.mem_of_getElem? (i := 417) (by decide +kernel))) rfl, q_ws_in (List.mem_append_right _ (List.mem_of_getElem? (i := 418) (by decide +kernel))) rfl⟩
theorem clL_52 : q_cv RL 52 1 iX4_state := ⟨⟨q_ws_in (List.mem_append_right _ (List.mem_of_getElem? (i := 461) (by decide +kernel))) rfl, q_ws_in (List.mem_append_right _ (List.mem_of_getElem? (i := 5) (by decide +kernel))) rfl, q_ws_in (List.mem_append_right _ (List.mem_of_getElem? (i := 464) (by decide +kernel))) rfl, by decide +kernel, by decide +kernel, by decide +kernel⟩, q_ws_in (List.mem_append_right _ (List.mem_of_getElem? (i := 462) (by decide +kernel))) rfl, q_ws_in (List.mem_append_right _ (List.mem_of_getElem? (i := 463) (by decide +kernel))) rfl⟩
theorem clL_56 : q_cv RL 56 1 iX4_parent := ⟨⟨q_ws_in (List.mem_append_right _ (List.mem_of_getElem? (i := 465) (by decide +kernel))) rfl, q_ws_in (List.mem_append_right _ (List.mem_of_getElem? (i := 5) (by decide +kernel))) rfl, q_ws_in (List.mem_append_right _ (List.mem_of_getElem? (i := 468) (by decide +kernel))) rfl, by decide +kernel, by decide +kernel, by decide +kernel⟩, q_ws_in (List.mem_append_right _ (List.mem_of_getElem? (i := 466) (by decide +kernel))) rfl, q_ws_in (List.mem_append_right _ (List.mem_of_getElem? (i := 467) (by decide +kernel))) rfl⟩
theorem clL_60 : q_cv RL 60 1 iX4_code := ⟨⟨q_ws_in (List.mem_append_right _ (List.mem_of_getElem? (i := 469) (by decide +kernel))) rfl, q_ws_in (List.mem_append_right _ (List.mem_of_getElem? (i := 5) (by decide +kernel))) rfl, q_ws_in (List.mem_append_right _ (List.mem_of_getElem? (i := 472) (by decide +kernel))) rfl, by decide +kernel, by decide +kernel, by decide +kernel⟩, q_ws_in (List.mem_append_right _ (List.mem_of_getElem? (i := 470) (by decide +kernel))) rfl, q_ws_in (List.mem_append_right _ (List.mem_of_getElem? (i := 471) (by decide +kernel))) rfl⟩
theorem clL_64 : q_cv RL 64 0 iX4_running := ⟨⟨q_ws_in (List.mem_append_right _ (List.mem_of_getElem? (i := 473) (by decide +kernel))) rfl, q_ws_in (List.mem_append_right _ (List.mem_of_getElem? (i := 5) (by decide +kernel))) rfl, q_ws_in (List.mem_append_right _ (List.mem_of_getElem? (i := 476) (by decide +kernel))) rfl, by decide +kernel, by decide +kernel, by decide +kernel⟩, q_ws_in (List.mem_append_right _ (List.mem_of_getElem? (i := 474) (by decide +kernel))) rfl, q_ws_in (List.mem_append_right _ (List.mem_of_getElem? (i := 475) (by decide +kernel))) rfl⟩
theorem clL_69 : q_cv RL 69 2 iX4_register := ⟨⟨q_ws_in (List.mem_append_right _ (List.mem_of_getElem? (i := 477) (by decide +kernel))) rfl, q_ws_in (List.mem_append_right _ (List.mem_of_getElem? (i := 5) (by decide +kernel))) rfl, q_ws_in (List.mem_append_right _ (List.mem_of_getElem? (i := 480) (by decide +kernel))) rfl, by decide +kernel, by decide +kernel, by decide +kernel⟩, q_ws_in (List.mem_append_right _ (List.mem_of_getElem? (i := 478) (by decide +kernel))) rfl, q_ws_in (List.mem_append_right _ (List.mem_of_getElem? (i := 479) (by decide +kernel))) rfl⟩
theorem clL_73 : q_cv RL 73 2 iX4_peek := ⟨⟨q_ws_in (List.mem_append_right _ (List.mem_of_getElem? (i := 481) (by decide +kernel))) rfl, q_ws_in (List.mem_append_right _ (List.mem_of_getElem? (i := 5) (by decide +kernel))) rfl, q_ws_in (List.mem_append_right _ (List.mem_of_getElem? (i := 484) (by decide +kernel))) rfl, by decide +kernel, by decide +kernel, by decide +kernel⟩, q_ws_in (List.mem_append_right _ (List.mem_of_getElem? (i := 482) (by decide +kernel))) rfl, q_ws_in (List.mem_append_right _ (List.mem_of_getElem? (i := 483) (by decide +kernel))) rfl⟩
theorem clL_77 : q_cv RL 77 2 iX4_sharing := ⟨⟨q_ws_in (List.mem_append_right _ (List.mem_of_getElem? (i := 485) (by decide +kernel))) rfl, q_ws_in (List.mem_append_right _ (List.mem_of_getElem? (i := 5) (by decide +kernel))) rfl, q_ws_in (List.mem_append_right _ (List.mem_of_getElem? (i := 488) (by decide +kernel))) rfl, by decide +kernel, by decide +kernel, by decide +kernel⟩, q_ws_in (List.mem_append_right _ (List.mem_of_getElem? (i := 486) (by decide +kernel))) rfl, q_ws_in (List.mem_append_right _ (List.mem_of_getElem? (i := 487) (by decide +kernel))) rfl⟩
theorem clL_85 : q_cv RL 85 0 iX4_printed := ⟨⟨q_ws_in (List.mem_append_right _ (List.mem_of_getElem? (i := 489) (by decide +kernel))) rfl, q_ws_in (List.mem_append_right _ (List.mem_of_getElem? (i := 5) (by decide +kernel))) rfl, q_ws_in (List.mem_append_right _ (List.mem_of_getElem? (i := 492) (by decide +kernel))) rfl, by decide +kernel, by decide +kernel, by decide +kernel⟩, q_ws_in (List.mem_append_right _ (List.mem_of_getElem? (i := 490) (by decide +kernel))) rfl, q_ws_in (List.mem_append_right _ (List.mem_of_getElem? (i := 491) (by decide +kernel))) rfl⟩
theorem clL_89 : q_cv RL 89 1 iX4_print := ⟨⟨q_ws_in (List.mem_append_right _ (List.mem_of_getElem? (i := 493) (by decide +kernel))) rfl, q_ws_in (List.mem_append_right _ (List.mem_of_getElem? (i := 5) (by decide +kernel))) rfl, q_ws_in (List.mem_append_right _ (List.mem_of_getElem? (i := 496) (by decide +kernel))) rfl, by decide +kernel, by decide +kernel, by decide +kernel⟩, q_ws_in (List.mem_append_right _ (List.mem_of_getElem? (i := 494) (by decide +kernel))) rfl, q_ws_in (List.mem_append_right _ (List.mem_of_getElem? (i := 495) (by decide +kernel))) rfl⟩
end
section
/-! rows for the reference's own cells: its store stands as q_put S K -/
section QK
variable {G : q_g} {X : q_cx} {I : q_in} {n : Nat} {ad : q_ix → Nat} {cn : Nat × Nat} {pc : Nat} {ls : List (Option q_v)} {st : List q_v} {S : q_st} {K : k_t}
theorem q_kgeti (F : q_fx G X I) {k idx : Nat} (L : q_fk I.2.1.cls idx 4 k) (hk : ([none, none, some (some (21, 0)), some (some (22, 0)), some (some (23, 0)), some (some (24, 0)), some (some (25, 0)), some (some (26, 0)), some (some (27, 0)), some (some (28, 0)), some (some (29, 0)), none, none, none, none, none, some (some (30, 0))] : List (Option (Option q_ix)))[k]? = some none) (hd : decode I.1 pc = .ok (.getfield idx, 3)) (kk : q_W G X I (q_w G n ad) cn (pc + 3) ls (.inl (K 0 k) :: st) (q_put S K)) : q_W G X I (q_w G n ad) cn pc ls (.inr (some (20, 0)) :: st) (q_put S K) := by
  refine q_geti F L q_m20 rfl hk hd ?_
  rw [show q_put S K (20, 0) k = K 0 k from q_put_at S K 0 k]
  exact kk
theorem q_kputi (F : q_fx G X I) {k idx : Nat} {v : Int32} (L : q_fk I.2.1.cls idx 4 k) (M : q_fp 4 k .int false) (hk : ([none, none, some (some (21, 0)), some (some (22, 0)), some (some (23, 0)), some (some (24, 0)), some (some (25, 0)), some (some (26, 0)), some (some (27, 0)), some (some (28, 0)), some (some (29, 0)), none, none, none, none, none, some (some (30, 0))] : List (Option (Option q_ix)))[k]? = some none) (hd : decode I.1 pc = .ok (.putfield idx, 3)) (kk : q_W G X I (q_w G n ad) cn (pc + 3) ls st (q_put S (k_u K 0 k v))) : q_W G X I (q_w G n ad) cn pc ls (.inl v :: .inr (some (20, 0)) :: st) (q_put S K) := by
  refine q_puti F L M q_m20 rfl hk hd ?_
  rw [show q_up (q_put S K) (20, 0) k v = q_put S (k_u K 0 k v) from q_put_up S K 0 k v]
  exact kk
theorem q_kald (F : q_fx G X I) (a : Nat) {j m : Nat} {x : Int32} (k : Nat) (hi : ((j, 0) : q_ix) ∈ q_dom) (hj : a + 20 = j) (hsh : q_shp G n (j, 0) = .inr (.inl (G.2.1, m))) (hx0 : x = nI k) (hk : k < m) (hn : m < 2 ^ 31) (hd : decode I.1 pc = .ok (.iaload, 1)) (kk : q_W G X I (q_w G n ad) cn (pc + 1) ls (.inl (K a k) :: st) (q_put S K)) : q_W G X I (q_w G n ad) cn pc ls (.inl x :: .inr (some (j, 0)) :: st) (q_put S K) := by
  subst hj
  refine q_iald F k hi hsh hx0 hk hn hd ?_
  rw [q_put_at]
  exact kk
theorem q_kast (F : q_fx G X I) (a : Nat) {j m : Nat} {x v : Int32} (k : Nat) (hi : ((j, 0) : q_ix) ∈ q_dom) (hj : a + 20 = j) (hsh : q_shp G n (j, 0) = .inr (.inl (G.2.1, m))) (hx0 : x = nI k) (hk : k < m) (hn : m < 2 ^ 31) (hd : decode I.1 pc = .ok (.iastore, 1)) (kk : q_W G X I (q_w G n ad) cn (pc + 1) ls st (q_put S (k_u K a k v))) : q_W G X I (q_w G n ad) cn pc ls (.inl v :: .inl x :: .inr (some (j, 0)) :: st) (q_put S K) := by
  subst hj
  refine q_iast F k hi hsh hx0 hk hn hd ?_
  rw [q_put_up]
  exact kk
end QK
theorem k_u_self (K : k_t) (a i : Nat) : k_u K a i (K a i) = K := by
  funext b j
  unfold k_u
  split
  next h => rw [h.1, h.2]
  next => rfl
theorem k_u_at (K : k_t) (a i : Nat) (v : Int32) : k_u K a i v a i = v := by simp [k_u]
theorem k_u_ne (K : k_t) (a i : Nat) (v : Int32) {b j : Nat} (h : ¬ (b = a ∧ j = i)) : k_u K a i v b j = K b j := by
  unfold k_u
  rw [if_neg h]
end
section
/-! loops that fill a stretch of an array -/
theorem q_loop {P : Nat → Prop} {m : Nat} (h : ∀ k, k ≤ m → (k < m → P (k + 1)) → P k) : ∀ k, k ≤ m → P k := by
  intro k hk
  obtain ⟨d, hd⟩ : ∃ d, d = m - k := ⟨_, rfl⟩
  induction d generalizing k with
  | zero => exact h k hk (fun hlt => absurd hlt (by omega))
  | succ d ih => exact h k hk (fun hlt => ih (k + 1) (by omega) (by omega))
def q_fill (S : q_st) (i : q_ix) (a m : Nat) (f : Nat → Int32) : q_st := fun j x => if j = i ∧ a ≤ x ∧ x < a + m then f x else S j x
theorem q_fill_0 (S : q_st) (i : q_ix) (a : Nat) (f : Nat → Int32) : q_fill S i a 0 f = S := by
  funext j x
  unfold q_fill
  rw [if_neg]
  rintro ⟨-, h1, h2⟩
  omega
theorem q_fill_s (S : q_st) (i : q_ix) (a m : Nat) (f : Nat → Int32) (v : Int32) (hv : v = f (a + m)) : q_up (q_fill S i a m f) i (a + m) v = q_fill S i a (m + 1) f := by
  funext j x
  unfold q_up q_fill
  by_cases hj : j = i
  · by_cases hx : x = a + m
    · subst hj hx hv
      simp
    · by_cases h1 : a ≤ x ∧ x < a + m
      · rw [if_neg (by rintro ⟨-, q⟩; exact hx q), if_pos ⟨hj, h1⟩, if_pos ⟨hj, h1.1, by omega⟩]
      · rw [if_neg (by rintro ⟨-, q⟩; exact hx q), if_neg (fun q => h1 q.2), if_neg (fun q => h1 ⟨q.2.1, by omega⟩)]
  · simp [hj]
theorem q_fill_ne (S : q_st) (i : q_ix) (a m : Nat) (f : Nat → Int32) (j : q_ix) (h : j ≠ i) : q_fill S i a m f j = S j := by
  funext x
  unfold q_fill
  rw [if_neg (fun q => h q.1)]
theorem q_fill_out (S : q_st) (i : q_ix) (a m : Nat) (f : Nat → Int32) (x : Nat) (h : x < a ∨ a + m ≤ x) : q_fill S i a m f i x = S i x := by
  unfold q_fill
  rw [if_neg]
  rintro ⟨-, h1, h2⟩
  omega
theorem q_fill_in (S : q_st) (i : q_ix) (a m : Nat) (f : Nat → Int32) (x : Nat) (h1 : a ≤ x) (h2 : x < a + m) : q_fill S i a m f i x = f x := by
  unfold q_fill
  rw [if_pos ⟨rfl, h1, h2⟩]
def k_fill (K : k_t) (c a m : Nat) (f : Nat → Int32) : k_t := fun b x => if b = c ∧ a ≤ x ∧ x < a + m then f x else K b x
theorem k_fill_0 (K : k_t) (c a : Nat) (f : Nat → Int32) : k_fill K c a 0 f = K := by
  funext j x
  unfold k_fill
  rw [if_neg]
  rintro ⟨-, h1, h2⟩
  omega
theorem k_fill_s (K : k_t) (c a m : Nat) (f : Nat → Int32) (v : Int32) (hv : v = f (a + m)) : k_u (k_fill K c a m f) c (a + m) v = k_fill K c a (m + 1) f := by
  funext j x
  unfold k_u k_fill
  by_cases hj : j = c
  · by_cases hx : x = a + m
    · subst hj hx hv
      simp
    · by_cases h1 : a ≤ x ∧ x < a + m
      · rw [if_neg (by rintro ⟨-, q⟩; exact hx q), if_pos ⟨hj, h1⟩, if_pos ⟨hj, h1.1, by omega⟩]
      · rw [if_neg (by rintro ⟨-, q⟩; exact hx q), if_neg (fun q => h1 q.2), if_neg (fun q => h1 ⟨q.2.1, by omega⟩)]
  · simp [hj]
end
section
/-! the class's frames, its log, its processes: leaves (rows laid by wip/whole/m30.py) -/
theorem q_nm1 {f : Nat} (h : f < 2 ^ 31) : ¬ nI f = -1 := by
  intro q
  have h2 := congrArg Int32.toInt q
  rw [nI_toInt h, show (-1 : Int32).toInt = -1 from rfl] at h2
  omega
theorem q_irr (S : q_st) (i : q_ix) (k : Nat) (v : Int32) (j : q_ix) (m : Nat) (h : ¬ (j = i ∧ m = k)) : q_up S i k v j m = S j m := by
  unfold q_up
  rw [if_neg h]
theorem q_irs (S : q_st) (i : q_ix) (k : Nat) (v : Int32) : q_up S i k v i k = v := by simp [q_up]
/-- a truth value as an answer -/
def q_bl (r : Int32) (c : Prop) : Prop := (r = nI 1 ∧ c) ∨ (r = nI 0 ∧ ¬ c)
theorem q_bl_1 {c : Prop} (h : c) : q_bl (nI 1) c := Or.inl ⟨rfl, h⟩
theorem q_bl_0 {c : Prop} (h : ¬ c) : q_bl (nI 0) c := Or.inr ⟨rfl, h⟩
theorem q_bl_T {v : Int32} {c : Prop} (h : q_bl v c) (h0 : ¬ v = 0) : c := by
  rcases h with ⟨-, h⟩ | ⟨h, -⟩
  · exact h
  · exact absurd h h0
theorem q_bl_F {v : Int32} {c : Prop} (h : q_bl v c) (h0 : v = 0) : ¬ c := by
  rcases h with ⟨h, -⟩ | ⟨-, h⟩
  · rw [h] at h0
    exact absurd h0 (by decide)
  · exact h
def c_tk (S : q_st) (f : Nat) : q_st := q_fill (q_up (q_up S (3, 0) f (nI 1)) (1, 0) 3 (S (1, 0) 3 + nI 1)) (2, 0) (8 * f) 8 (fun _ => 0)
def c_lv (S : q_st) (f : Nat) : q_st := if S (3, 0) f - nI 1 = 0 then q_up (q_up S (3, 0) f (S (3, 0) f - nI 1)) (1, 0) 3 (S (1, 0) 3 - nI 1) else q_up S (3, 0) f (S (3, 0) f - nI 1)

set_option maxRecDepth 100000 in
set_option maxHeartbeats 4000000 in
theorem t_unused {G : q_g} {n : Nat} {ad : q_ix → Nat} (l : Launch) (S : q_st) : q_Ct l G iX0_unused [.inr (some (1, 0))] (q_w G n ad) (S) (q_pi (q_w G n ad) (fun r S' => r = S (1, 0) 0 - S (1, 0) 3 ∧ S' = S)) := by
  refine q_enter (by decide) (Nat.le_of_ble_eq_true rfl) (fun X F E => ?_)
  show q_W G X iX0_unused (q_w G n ad) (0, 0) 0 [some (.inr (some (1, 0)))] [] (S)
  refine q_aload_n F dX0_unused_0 rfl ?_
  refine q_geti F (k := 0) fkX0_15 q_m1 rfl rfl dX0_unused_1 ?_
  refine q_aload_n F dX0_unused_4 rfl ?_
  refine q_geti F (k := 3) fkX0_9 q_m1 rfl rfl dX0_unused_5 ?_
  refine q_isub F dX0_unused_8 ?_
  refine q_iret F E rfl ⟨rfl, rfl⟩ dX0_unused_9

set_option maxRecDepth 100000 in
set_option maxHeartbeats 4000000 in
theorem lp_take_in {G : q_g} {n : Nat} {ad : q_ix → Nat} {X : q_cx} (F : q_fx G X iX0_take) {f : Nat} (hf : f < n) (hn : n ≤ 32) (S1 : q_st) (kk : q_W G X iX0_take (q_w G n ad) (0, 0) 62 [some (.inr (some (1, 0))), some (.inl (nI f)), none] [] (q_fill S1 (2, 0) (8 * f) 8 (fun _ => 0))) : ∀ k, k ≤ 8 → q_W G X iX0_take (q_w G n ad) (0, 0) 38 [some (.inr (some (1, 0))), some (.inl (nI f)), some (.inl (nI k))] [] (q_fill S1 (2, 0) (8 * f) k (fun _ => 0)) := by
  refine q_loop (fun k hk ih => ?_)
  refine q_iload_n F dX0_take_38 rfl ?_
  refine q_bipush F (nI 8) dX0_take_39 (by decide) ?_
  refine q_icmpN_ge F 62 dX0_take_41 (by decide) (by omega) (by omega) (fun h41 => ?_) (fun h41 => ?_)
  · obtain rfl : k = 8 := by omega
    exact q_drop_2 kk
  · refine q_aload_n F dX0_take_44 rfl ?_
    refine q_getr F (k := 1) fkX0_18 q_m1 rfl rfl dX0_take_45 ?_
    refine q_iload_n F dX0_take_48 rfl ?_
    refine q_bipush F (nI 8) dX0_take_49 (by decide) ?_
    refine q_imulN F dX0_take_51 ?_
    refine q_iload_n F dX0_take_52 rfl ?_
    refine q_iaddN F dX0_take_53 ?_
    refine q_iconst F (nI 0) dX0_take_54 (by decide) ?_
    refine q_iast F (8 * f + k) q_m2 rfl (by rw [Nat.mul_comm]) (by omega) (by omega) dX0_take_55 ?_
    rw [q_fill_s _ _ _ _ (fun _ => 0) (nI 0) rfl]
    refine q_iinc_2 F _ dX0_take_56 (q_inc1 _) (by decide) ?_
    exact q_goto F 38 dX0_take_59 (by decide) (ih h41)

set_option maxRecDepth 100000 in
set_option maxHeartbeats 4000000 in
theorem lp_take {G : q_g} {n : Nat} {ad : q_ix → Nat} {X : q_cx} (F : q_fx G X iX0_take) (hn : n ≤ 32) {S : q_st} (h0 : S (1, 0) 0 = nI n) (E : q_en G X iX0_take (q_pi (q_w G n ad) (fun r S' => (∃ f, f < n ∧ S (3, 0) f = 0 ∧ (∀ x, x < f → ¬ S (3, 0) x = 0) ∧ r = nI f ∧ S' = c_tk S f) ∨ ((∀ f, f < n → ¬ S (3, 0) f = 0) ∧ r = -1 ∧ S' = S)))) : ∀ f, f ≤ n → (∀ x, x < f → ¬ S (3, 0) x = 0) → q_W G X iX0_take (q_w G n ad) (0, 0) 2 [some (.inr (some (1, 0))), some (.inl (nI f)), none] [] S := by
  refine q_loop (fun f hf ih => ?_)
  intro hall
  refine q_iload_n F dX0_take_2 rfl ?_
  refine q_aload_n F dX0_take_3 rfl ?_
  refine q_geti F (k := 0) fkX0_15 q_m1 rfl rfl dX0_take_4 ?_
  refine q_top (nI n) h0 ?_
  refine q_icmpN_ge F 70 dX0_take_7 (by decide) (by omega) (by omega) (fun h7 => ?_) (fun h7 => ?_)
  · obtain rfl : f = n := by omega
    refine q_iconst F (-1) dX0_take_70 (by decide) ?_
    refine q_iret F E rfl (Or.inr ⟨hall, rfl, rfl⟩) dX0_take_71
  · refine q_aload_n F dX0_take_10 rfl ?_
    refine q_getr F (k := 2) fkX0_22 q_m1 rfl rfl dX0_take_11 ?_
    refine q_iload_n F dX0_take_14 rfl ?_
    refine q_iald F (_) q_m3 rfl rfl (by omega) (by omega) dX0_take_15 ?_
    refine q_if_ne F 64 dX0_take_16 (by decide) (fun h16 => ?_) (fun h16 => ?_)
    · refine q_iinc_1 F _ dX0_take_64 (q_inc1 _) (by decide) ?_
      exact q_goto F 2 dX0_take_67 (by decide) (ih h7 (lt_s hall h16))
    · refine q_aload_n F dX0_take_19 rfl ?_
      refine q_getr F (k := 2) fkX0_22 q_m1 rfl rfl dX0_take_20 ?_
      refine q_iload_n F dX0_take_23 rfl ?_
      refine q_iconst F (nI 1) dX0_take_24 (by decide) ?_
      refine q_iast F (_) q_m3 rfl rfl (by omega) (by omega) dX0_take_25 ?_
      refine q_aload_n F dX0_take_26 rfl ?_
      refine q_dup F dX0_take_27 ?_
      refine q_geti F (k := 3) fkX0_9 q_m1 rfl rfl dX0_take_28 ?_
      refine q_iconst F (nI 1) dX0_take_31 (by decide) ?_
      refine q_iadd F dX0_take_32 ?_
      refine q_puti F (k := 3) fkX0_9 fp0_3 q_m1 rfl rfl dX0_take_33 ?_
      rw [q_irr S (3, 0) f (nI 1) (1, 0) 3 (by simp)]
      refine q_iconst F (nI 0) dX0_take_36 (by decide) ?_
      refine q_istore_n_2 F dX0_take_37 (by decide) ?_
      rw [← q_fill_0 (q_up (q_up S (3, 0) f (nI 1)) (1, 0) 3 (S (1, 0) 3 + nI 1)) (2, 0) (8 * f) (fun _ => 0)]
      refine lp_take_in F (by omega) hn _ ?_ 0 (by decide)
      refine q_iload_n F dX0_take_62 rfl ?_
      exact q_iret F E rfl (Or.inl ⟨f, by omega, h16, hall, rfl, rfl⟩) dX0_take_63

set_option maxRecDepth 100000 in
set_option maxHeartbeats 4000000 in
theorem t_take {G : q_g} {n : Nat} {ad : q_ix → Nat} (l : Launch) (S : q_st) (hn : n ≤ 32) (h0 : S (1, 0) 0 = nI n) : q_Ct l G iX0_take [.inr (some (1, 0))] (q_w G n ad) (S) (q_pi (q_w G n ad) (fun r S' => (∃ f, f < n ∧ S (3, 0) f = 0 ∧ (∀ x, x < f → ¬ S (3, 0) x = 0) ∧ r = nI f ∧ S' = c_tk S f) ∨ ((∀ f, f < n → ¬ S (3, 0) f = 0) ∧ r = -1 ∧ S' = S))) := by
  refine q_enter (by decide) (Nat.le_of_ble_eq_true rfl) (fun X F E => ?_)
  show q_W G X iX0_take (q_w G n ad) (0, 0) 0 [some (.inr (some (1, 0))), none, none] [] (S)
  refine q_iconst F (nI 0) dX0_take_0 (by decide) ?_
  refine q_istore_n_1 F dX0_take_1 (by decide) ?_
  exact lp_take F hn h0 E 0 (Nat.zero_le _) (fun x hx => absurd hx (Nat.not_lt_zero x))

set_option maxRecDepth 100000 in
set_option maxHeartbeats 4000000 in
theorem t_join0 {G : q_g} {n : Nat} {ad : q_ix → Nat} (l : Launch) (S : q_st) : q_Ct l G iX0_join [.inr (some (1, 0)), .inl (-1)] (q_w G n ad) (S) (q_pv (q_w G n ad) (fun S' => S' = S)) := by
  refine q_enter (by decide) (Nat.le_of_ble_eq_true rfl) (fun X F E => ?_)
  show q_W G X iX0_join (q_w G n ad) (0, 0) 0 [some (.inr (some (1, 0))), some (.inl (-1))] [] (S)
  refine q_iload_n F dX0_join_0 rfl ?_
  refine q_iconst F (-1) dX0_join_1 (by decide) ?_
  refine q_icmp_eq F 15 dX0_join_2 (by decide) (fun h2 => ?_) (fun h2 => ?_)
  · refine q_vret F E rfl rfl dX0_join_15
  · exact absurd rfl h2

set_option maxRecDepth 100000 in
set_option maxHeartbeats 4000000 in
theorem t_join {G : q_g} {n : Nat} {ad : q_ix → Nat} (l : Launch) (S : q_st) {f : Nat} (hf : f < n) (hn : n ≤ 32) : q_Ct l G iX0_join [.inr (some (1, 0)), .inl (nI f)] (q_w G n ad) (S) (q_pv (q_w G n ad) (fun S' => S' = q_up S (3, 0) f (S (3, 0) f + nI 1))) := by
  refine q_enter (by decide) (Nat.le_of_ble_eq_true rfl) (fun X F E => ?_)
  show q_W G X iX0_join (q_w G n ad) (0, 0) 0 [some (.inr (some (1, 0))), some (.inl (nI f))] [] (S)
  refine q_iload_n F dX0_join_0 rfl ?_
  refine q_iconst F (-1) dX0_join_1 (by decide) ?_
  refine q_icmp_eq F 15 dX0_join_2 (by decide) (fun h2 => ?_) (fun h2 => ?_)
  · exact absurd h2 (q_nm1 (by omega))
  · refine q_aload_n F dX0_join_5 rfl ?_
    refine q_getr F (k := 2) fkX0_22 q_m1 rfl rfl dX0_join_6 ?_
    refine q_iload_n F dX0_join_9 rfl ?_
    refine q_dup2 F dX0_join_10 ?_
    refine q_iald F (_) q_m3 rfl rfl (by omega) (by omega) dX0_join_11 ?_
    refine q_iconst F (nI 1) dX0_join_12 (by decide) ?_
    refine q_iadd F dX0_join_13 ?_
    refine q_iast F (_) q_m3 rfl rfl (by omega) (by omega) dX0_join_14 ?_
    refine q_vret F E rfl rfl dX0_join_15

set_option maxRecDepth 100000 in
set_option maxHeartbeats 4000000 in
theorem t_leave0 {G : q_g} {n : Nat} {ad : q_ix → Nat} (l : Launch) (S : q_st) : q_Ct l G iX0_leave [.inr (some (1, 0)), .inl (-1)] (q_w G n ad) (S) (q_pv (q_w G n ad) (fun S' => S' = S)) := by
  refine q_enter (by decide) (Nat.le_of_ble_eq_true rfl) (fun X F E => ?_)
  show q_W G X iX0_leave (q_w G n ad) (0, 0) 0 [some (.inr (some (1, 0))), some (.inl (-1))] [] (S)
  refine q_iload_n F dX0_leave_0 rfl ?_
  refine q_iconst F (-1) dX0_leave_1 (by decide) ?_
  refine q_icmp_ne F 6 dX0_leave_2 (by decide) (fun h2 => ?_) (fun h2 => ?_)
  · exact absurd rfl h2
  · refine q_vret F E rfl rfl dX0_leave_5

set_option maxRecDepth 100000 in
set_option maxHeartbeats 4000000 in
theorem t_leave {G : q_g} {n : Nat} {ad : q_ix → Nat} (l : Launch) (S : q_st) {f : Nat} (hf : f < n) (hn : n ≤ 32) : q_Ct l G iX0_leave [.inr (some (1, 0)), .inl (nI f)] (q_w G n ad) (S) (q_pv (q_w G n ad) (fun S' => S' = c_lv S f)) := by
  refine q_enter (by decide) (Nat.le_of_ble_eq_true rfl) (fun X F E => ?_)
  show q_W G X iX0_leave (q_w G n ad) (0, 0) 0 [some (.inr (some (1, 0))), some (.inl (nI f))] [] (S)
  refine q_iload_n F dX0_leave_0 rfl ?_
  refine q_iconst F (-1) dX0_leave_1 (by decide) ?_
  refine q_icmp_ne F 6 dX0_leave_2 (by decide) (fun h2 => ?_) (fun h2 => ?_)
  · refine q_aload_n F dX0_leave_6 rfl ?_
    refine q_getr F (k := 2) fkX0_22 q_m1 rfl rfl dX0_leave_7 ?_
    refine q_iload_n F dX0_leave_10 rfl ?_
    refine q_dup2 F dX0_leave_11 ?_
    refine q_iald F (_) q_m3 rfl rfl (by omega) (by omega) dX0_leave_12 ?_
    refine q_iconst F (nI 1) dX0_leave_13 (by decide) ?_
    refine q_isub F dX0_leave_14 ?_
    refine q_iast F (_) q_m3 rfl rfl (by omega) (by omega) dX0_leave_15 ?_
    refine q_aload_n F dX0_leave_16 rfl ?_
    refine q_getr F (k := 2) fkX0_22 q_m1 rfl rfl dX0_leave_17 ?_
    refine q_iload_n F dX0_leave_20 rfl ?_
    refine q_iald F (_) q_m3 rfl rfl (by omega) (by omega) dX0_leave_21 ?_
    refine q_top (S (3, 0) f - nI 1) (q_irs _ _ _ _) ?_
    refine q_if_ne F 35 dX0_leave_22 (by decide) (fun h22 => ?_) (fun h22 => ?_)
    · refine q_vret F E rfl (by unfold c_lv; first | rw [if_pos h22] | rw [if_neg h22]) dX0_leave_35
    · refine q_aload_n F dX0_leave_25 rfl ?_
      refine q_dup F dX0_leave_26 ?_
      refine q_geti F (k := 3) fkX0_9 q_m1 rfl rfl dX0_leave_27 ?_
      rw [q_irr S (3, 0) f (S (3, 0) f - nI 1) (1, 0) 3 (by simp)]
      refine q_iconst F (nI 1) dX0_leave_30 (by decide) ?_
      refine q_isub F dX0_leave_31 ?_
      refine q_puti F (k := 3) fkX0_9 fp0_3 q_m1 rfl rfl dX0_leave_32 ?_
      refine q_vret F E rfl (by unfold c_lv; first | rw [if_pos h22] | rw [if_neg h22]) dX0_leave_35
  · exact absurd h2 (q_nm1 (by omega))

set_option maxRecDepth 100000 in
set_option maxHeartbeats 4000000 in
theorem lp_copy {G : q_g} {n : Nat} {ad : q_ix → Nat} {X : q_cx} (F : q_fx G X iX0_copyWords) {a b : Nat} (ha : a < n) (hb : b < n) (hab : a ≠ b) (hn : n ≤ 32) {S : q_st} (E : q_en G X iX0_copyWords (q_pv (q_w G n ad) (fun S' => S' = q_fill S (2, 0) (8 * b) 8 (fun x => S (2, 0) (8 * a + (x - 8 * b)))))) : ∀ k, k ≤ 8 → q_W G X iX0_copyWords (q_w G n ad) (0, 0) 2 [some (.inr (some (1, 0))), some (.inl (nI a)), some (.inl (nI b)), some (.inl (nI k))] [] (q_fill S (2, 0) (8 * b) k (fun x => S (2, 0) (8 * a + (x - 8 * b)))) := by
  refine q_loop (fun k hk ih => ?_)
  refine q_iload_n F dX0_copyWords_2 rfl ?_
  refine q_bipush F (nI 8) dX0_copyWords_3 (by decide) ?_
  refine q_icmpN_ge F 36 dX0_copyWords_5 (by decide) (by omega) (by omega) (fun h5 => ?_) (fun h5 => ?_)
  · obtain rfl : k = 8 := by omega
    refine q_vret F E rfl rfl dX0_copyWords_36
  · refine q_aload_n F dX0_copyWords_8 rfl ?_
    refine q_getr F (k := 1) fkX0_18 q_m1 rfl rfl dX0_copyWords_9 ?_
    refine q_iload_n F dX0_copyWords_12 rfl ?_
    refine q_bipush F (nI 8) dX0_copyWords_13 (by decide) ?_
    refine q_imulN F dX0_copyWords_15 ?_
    refine q_iload_n F dX0_copyWords_16 rfl ?_
    refine q_iaddN F dX0_copyWords_17 ?_
    refine q_aload_n F dX0_copyWords_18 rfl ?_
    refine q_getr F (k := 1) fkX0_18 q_m1 rfl rfl dX0_copyWords_19 ?_
    refine q_iload_n F dX0_copyWords_22 rfl ?_
    refine q_bipush F (nI 8) dX0_copyWords_23 (by decide) ?_
    refine q_imulN F dX0_copyWords_25 ?_
    refine q_iload_n F dX0_copyWords_26 rfl ?_
    refine q_iaddN F dX0_copyWords_27 ?_
    refine q_iald F (8 * a + k) q_m2 rfl (by rw [Nat.mul_comm]) (by omega) (by omega) dX0_copyWords_28 ?_
    rw [q_fill_out _ _ _ _ _ _ (by omega)]
    refine q_iast F (8 * b + k) q_m2 rfl (by rw [Nat.mul_comm]) (by omega) (by omega) dX0_copyWords_29 ?_
    rw [q_fill_s _ _ _ _ (fun x => S (2, 0) (8 * a + (x - 8 * b))) _ (by rw [show 8 * b + k - 8 * b = k by omega])]
    refine q_iinc_3 F _ dX0_copyWords_30 (q_inc1 _) (by decide) ?_
    exact q_goto F 2 dX0_copyWords_33 (by decide) (ih h5)

set_option maxRecDepth 100000 in
set_option maxHeartbeats 4000000 in
theorem t_copy {G : q_g} {n : Nat} {ad : q_ix → Nat} (l : Launch) (S : q_st) {a b : Nat} (ha : a < n) (hb : b < n) (hab : a ≠ b) (hn : n ≤ 32) : q_Ct l G iX0_copyWords [.inr (some (1, 0)), .inl (nI a), .inl (nI b)] (q_w G n ad) (S) (q_pv (q_w G n ad) (fun S' => S' = q_fill S (2, 0) (8 * b) 8 (fun x => S (2, 0) (8 * a + (x - 8 * b))))) := by
  refine q_enter (by decide) (Nat.le_of_ble_eq_true rfl) (fun X F E => ?_)
  show q_W G X iX0_copyWords (q_w G n ad) (0, 0) 0 [some (.inr (some (1, 0))), some (.inl (nI a)), some (.inl (nI b)), none] [] (S)
  refine q_iconst F (nI 0) dX0_copyWords_0 (by decide) ?_
  refine q_istore_n_3 F dX0_copyWords_1 (by decide) ?_
  have h := lp_copy F ha hb hab hn E 0 (by decide)
  rw [q_fill_0] at h
  exact h

set_option maxRecDepth 100000 in
set_option maxHeartbeats 4000000 in
theorem t_append {G : q_g} {n : Nat} {ad : q_ix → Nat} (l : Launch) (S : q_st) {c : Nat} {v : Int32} (hc : S (8, 0) 1 = nI c) (hc2 : c < 2 ^ 30) : q_Ct l G iX1_append [.inr (some (8, 0)), .inl v] (q_w G n ad) (S) (q_pv (q_w G n ad) (fun S' => S' = q_up (q_up S (9, 0) (c % 32) v) (8, 0) 1 (nI (c + 1)))) := by
  refine q_enter (by decide) (Nat.le_of_ble_eq_true rfl) (fun X F E => ?_)
  show q_W G X iX1_append (q_w G n ad) (0, 0) 0 [some (.inr (some (8, 0))), some (.inl v)] [] (S)
  refine q_aload_n F dX1_append_0 rfl ?_
  refine q_getr F (k := 0) fkX1_9 q_m8 rfl rfl dX1_append_1 ?_
  refine q_aload_n F dX1_append_4 rfl ?_
  refine q_geti F (k := 1) fkX1_15 q_m8 rfl rfl dX1_append_5 ?_
  refine q_top (nI c) hc ?_
  refine q_bipush F (nI 32) dX1_append_8 (by decide) ?_
  refine q_iremN F dX1_append_10 (by omega) (by omega) (by omega) ?_
  refine q_iload_n F dX1_append_11 rfl ?_
  refine q_iast F (_) q_m9 rfl rfl (by omega) (by omega) dX1_append_12 ?_
  refine q_aload_n F dX1_append_13 rfl ?_
  refine q_dup F dX1_append_14 ?_
  refine q_geti F (k := 1) fkX1_15 q_m8 rfl rfl dX1_append_15 ?_
  refine q_top (nI c) (by rw [q_irr _ _ _ _ _ _ (by simp)]; exact hc) ?_
  refine q_iconst F (nI 1) dX1_append_18 (by decide) ?_
  refine q_iaddN F dX1_append_19 ?_
  refine q_puti F (k := 1) fkX1_15 fp1_1 q_m8 rfl rfl dX1_append_20 ?_
  refine q_vret F E rfl rfl dX1_append_23

set_option maxRecDepth 100000 in
set_option maxHeartbeats 4000000 in
theorem t_latest {G : q_g} {n : Nat} {ad : q_ix → Nat} (l : Launch) (S : q_st) {c : Nat} {k : Int32} (hc : S (8, 0) 1 = nI c) (hc2 : c < 2 ^ 30) : q_Ct l G iX1_latest [.inr (some (8, 0)), .inl k] (q_w G n ad) (S) (q_pi (q_w G n ad) (fun r S' => (r = if 0 ≤ k.toInt ∧ k.toInt < 32 ∧ k.toInt < c then S (9, 0) ((c - 1 - k.toInt.toNat) % 32) else 0) ∧ S' = S)) := by
  refine q_enter (by decide) (Nat.le_of_ble_eq_true rfl) (fun X F E => ?_)
  show q_W G X iX1_latest (q_w G n ad) (0, 0) 0 [some (.inr (some (8, 0))), some (.inl k)] [] (S)
  refine q_iload_n F dX1_latest_0 rfl ?_
  refine q_if_lt F 18 dX1_latest_1 (by decide) (fun h1 => ?_) (fun h1 => ?_)
  · refine q_iconst F (nI 0) dX1_latest_18 (by decide) ?_
    exact q_iret F E rfl ⟨by rw [if_neg (by omega)]; rfl, rfl⟩ dX1_latest_19
  · refine q_iload_n F dX1_latest_4 rfl ?_
    refine q_bipush F (nI 32) dX1_latest_5 (by decide) ?_
    refine q_icmp_ge F 18 dX1_latest_7 (by decide) (fun h7 => ?_) (fun h7 => ?_)
    · rw [nI_toInt (by omega)] at h7
      refine q_iconst F (nI 0) dX1_latest_18 (by decide) ?_
      exact q_iret F E rfl ⟨by rw [if_neg (by omega)]; rfl, rfl⟩ dX1_latest_19
    · rw [nI_toInt (by omega)] at h7
      refine q_iload_n F dX1_latest_10 rfl ?_
      refine q_aload_n F dX1_latest_11 rfl ?_
      refine q_geti F (k := 1) fkX1_15 q_m8 rfl rfl dX1_latest_12 ?_
      refine q_top (nI c) hc ?_
      refine q_icmp_lt F 20 dX1_latest_15 (by decide) (fun h15 => ?_) (fun h15 => ?_)
      · rw [nI_toInt (by omega)] at h15
        obtain ⟨j, hj, rfl⟩ : ∃ j : Nat, j < 32 ∧ k = nI j := ⟨k.toInt.toNat, by omega, by rw [← Int32.toInt_inj, nI_toInt (by omega)]; omega⟩
        rw [nI_toInt (by omega)] at h1 h7 h15
        have hjc : j < c := by omega
        refine q_aload_n F dX1_latest_20 rfl ?_
        refine q_getr F (k := 0) fkX1_9 q_m8 rfl rfl dX1_latest_21 ?_
        refine q_aload_n F dX1_latest_24 rfl ?_
        refine q_geti F (k := 1) fkX1_15 q_m8 rfl rfl dX1_latest_25 ?_
        refine q_top (nI c) hc ?_
        refine q_iconst F (nI 1) dX1_latest_28 (by decide) ?_
        refine q_isubN F dX1_latest_29 (by omega) ?_
        refine q_iload_n F dX1_latest_30 rfl ?_
        refine q_isubN F dX1_latest_31 (by omega) ?_
        refine q_bipush F (nI 32) dX1_latest_32 (by decide) ?_
        refine q_iremN F dX1_latest_34 (by omega) (by omega) (by omega) ?_
        refine q_iald F (_) q_m9 rfl rfl (by omega) (by omega) dX1_latest_35 ?_
        refine q_iret F E rfl ⟨by rw [nI_toInt (by omega), if_pos ⟨by omega, by omega, by omega⟩, Int.toNat_natCast], rfl⟩ dX1_latest_36
      · rw [nI_toInt (by omega)] at h15
        refine q_iconst F (nI 0) dX1_latest_18 (by decide) ?_
        exact q_iret F E rfl ⟨by rw [if_neg (by omega)]; rfl, rfl⟩ dX1_latest_19

set_option maxRecDepth 100000 in
set_option maxHeartbeats 4000000 in
theorem t_holds {G : q_g} {n : Nat} {ad : q_ix → Nat} (l : Launch) (S : q_st) {p : Nat} (hp : p < 8) {a : Int32} : q_Ct l G iX2_holds [.inr (some (5, p)), .inl a] (q_w G n ad) (S) (q_pi (q_w G n ad) (fun r S' => q_bl r (0 ≤ a.toInt ∧ a.toInt < (S (5, p) 4).toInt) ∧ S' = S)) := by
  refine q_enter (by decide) (Nat.le_of_ble_eq_true rfl) (fun X F E => ?_)
  show q_W G X iX2_holds (q_w G n ad) (0, 0) 0 [some (.inr (some (5, p))), some (.inl a)] [] (S)
  refine q_iload_n F dX2_holds_0 rfl ?_
  refine q_if_lt F 16 dX2_holds_1 (by decide) (fun h1 => ?_) (fun h1 => ?_)
  · refine q_iconst F (nI 0) dX2_holds_16 (by decide) ?_
    refine q_zret F E rfl (by decide) ⟨by first | exact q_bl_1 ⟨by omega, by omega⟩ | exact q_bl_0 (by omega), rfl⟩ dX2_holds_17
  · refine q_iload_n F dX2_holds_4 rfl ?_
    refine q_aload_n F dX2_holds_5 rfl ?_
    refine q_geti F (k := 4) fkX2_24 (q_m5 (by omega)) rfl rfl dX2_holds_6 ?_
    refine q_icmp_ge F 16 dX2_holds_9 (by decide) (fun h9 => ?_) (fun h9 => ?_)
    · refine q_iconst F (nI 0) dX2_holds_16 (by decide) ?_
      refine q_zret F E rfl (by decide) ⟨by first | exact q_bl_1 ⟨by omega, by omega⟩ | exact q_bl_0 (by omega), rfl⟩ dX2_holds_17
    · refine q_iconst F (nI 1) dX2_holds_12 (by decide) ?_
      refine q_goto F 17 dX2_holds_13 (by decide) ?_
      refine q_zret F E rfl (by decide) ⟨by first | exact q_bl_1 ⟨by omega, by omega⟩ | exact q_bl_0 (by omega), rfl⟩ dX2_holds_17

set_option maxRecDepth 100000 in
set_option maxHeartbeats 4000000 in
theorem lp_begin {G : q_g} {n : Nat} {ad : q_ix → Nat} {X : q_cx} (F : q_fx G X iX2_begin) {p : Nat} (hp : p < 8) {v : Int32} {S S1 : q_st} (E : q_en G X iX2_begin (q_pv (q_w G n ad) (fun S' => S' = q_fill (q_up (q_up (q_up S (5, p) 0 (nI 1)) (5, p) 1 v) (5, p) 3 (nI 0)) (6, p) 0 8 (fun _ => 0)))) (h1 : S1 = q_up (q_up (q_up S (5, p) 0 (nI 1)) (5, p) 1 v) (5, p) 3 (nI 0)) : ∀ k, k ≤ 8 → q_W G X iX2_begin (q_w G n ad) (0, 0) 17 [some (.inr (some (5, p))), some (.inl v), some (.inl (nI k))] [] (q_fill S1 (6, p) 0 k (fun _ => 0)) := by
  refine q_loop (fun k hk ih => ?_)
  refine q_iload_n F dX2_begin_17 rfl ?_
  refine q_bipush F (nI 8) dX2_begin_18 (by decide) ?_
  refine q_icmpN_ge F 36 dX2_begin_20 (by decide) (by omega) (by omega) (fun h20 => ?_) (fun h20 => ?_)
  · obtain rfl : k = 8 := by omega
    refine q_vret F E rfl (by rw [h1]) dX2_begin_36
  · refine q_aload_n F dX2_begin_23 rfl ?_
    refine q_getr F (k := 5) fkX2_27 (q_m5 (by omega)) rfl rfl dX2_begin_24 ?_
    refine q_iload_n F dX2_begin_27 rfl ?_
    refine q_iconst F (nI 0) dX2_begin_28 (by decide) ?_
    refine q_iast F (0 + k) (q_m6 (by omega)) rfl (by rw [Nat.zero_add]) (by omega) (by omega) dX2_begin_29 ?_
    rw [q_fill_s _ _ _ _ (fun _ => 0) (nI 0) rfl]
    refine q_iinc_2 F _ dX2_begin_30 (q_inc1 _) (by decide) ?_
    exact q_goto F 17 dX2_begin_33 (by decide) (ih h20)

set_option maxRecDepth 100000 in
set_option maxHeartbeats 4000000 in
theorem t_begin {G : q_g} {n : Nat} {ad : q_ix → Nat} (l : Launch) (S : q_st) {p : Nat} (hp : p < 8) {v : Int32} : q_Ct l G iX2_begin [.inr (some (5, p)), .inl v] (q_w G n ad) (S) (q_pv (q_w G n ad) (fun S' => S' = q_fill (q_up (q_up (q_up S (5, p) 0 (nI 1)) (5, p) 1 v) (5, p) 3 (nI 0)) (6, p) 0 8 (fun _ => 0))) := by
  refine q_enter (by decide) (Nat.le_of_ble_eq_true rfl) (fun X F E => ?_)
  show q_W G X iX2_begin (q_w G n ad) (0, 0) 0 [some (.inr (some (5, p))), some (.inl v), none] [] (S)
  refine q_aload_n F dX2_begin_0 rfl ?_
  refine q_iconst F (nI 1) dX2_begin_1 (by decide) ?_
  refine q_puti F (k := 0) fkX2_9 fp2_0 (q_m5 (by omega)) rfl rfl dX2_begin_2 ?_
  refine q_aload_n F dX2_begin_5 rfl ?_
  refine q_iload_n F dX2_begin_6 rfl ?_
  refine q_puti F (k := 1) fkX2_15 fp2_1 (q_m5 (by omega)) rfl rfl dX2_begin_7 ?_
  refine q_aload_n F dX2_begin_10 rfl ?_
  refine q_iconst F (nI 0) dX2_begin_11 (by decide) ?_
  refine q_puti F (k := 3) fkX2_21 fp2_3 (q_m5 (by omega)) rfl rfl dX2_begin_12 ?_
  refine q_iconst F (nI 0) dX2_begin_15 (by decide) ?_
  refine q_istore_n_2 F dX2_begin_16 (by decide) ?_
  have h := lp_begin F hp E rfl 0 (by decide)
  rw [q_fill_0] at h
  exact h

set_option maxRecDepth 100000 in
set_option maxHeartbeats 4000000 in
theorem t_vacate {G : q_g} {n : Nat} {ad : q_ix → Nat} (l : Launch) (S : q_st) {p : Nat} (hp : p < 8) : q_Ct l G iX2_vacate [.inr (some (5, p))] (q_w G n ad) (S) (q_pi (q_w G n ad) (fun r S' => r = S (5, p) 2 ∧ S' = q_up (q_up S (5, p) 0 (nI 0)) (5, p) 1 (-1))) := by
  refine q_enter (by decide) (Nat.le_of_ble_eq_true rfl) (fun X F E => ?_)
  show q_W G X iX2_vacate (q_w G n ad) (0, 0) 0 [some (.inr (some (5, p)))] [] (S)
  refine q_aload_n F dX2_vacate_0 rfl ?_
  refine q_iconst F (nI 0) dX2_vacate_1 (by decide) ?_
  refine q_puti F (k := 0) fkX2_9 fp2_0 (q_m5 (by omega)) rfl rfl dX2_vacate_2 ?_
  refine q_aload_n F dX2_vacate_5 rfl ?_
  refine q_iconst F (-1) dX2_vacate_6 (by decide) ?_
  refine q_puti F (k := 1) fkX2_15 fp2_1 (q_m5 (by omega)) rfl rfl dX2_vacate_7 ?_
  refine q_aload_n F dX2_vacate_10 rfl ?_
  refine q_geti F (k := 2) fkX2_18 (q_m5 (by omega)) rfl rfl dX2_vacate_11 ?_
  refine q_iret F E rfl ⟨by rw [q_irr _ _ _ _ _ _ (by simp), q_irr _ _ _ _ _ _ (by simp)], rfl⟩ dX2_vacate_14
end
section
/-! the class's kernel: who is there, words of pages (rows laid by wip/whole/m31.py) -/
theorem q_ofx {x : Int32} {m : Nat} (hm : m < 2 ^ 31) (h0 : 0 ≤ x.toInt) (h : x.toInt < m) : ∃ p, p < m ∧ x = nI p := ⟨x.toInt.toNat, by omega, by rw [← Int32.toInt_inj, nI_toInt (by omega)]; omega⟩

set_option maxRecDepth 100000 in
set_option maxHeartbeats 4000000 in
theorem t_isNumber {G : q_g} {n : Nat} {ad : q_ix → Nat} (l : Launch) (S : q_st) {x : Int32} : q_Ct l G iX3_isNumber [.inl x] (q_w G n ad) (S) (q_pi (q_w G n ad) (fun r S' => q_bl r (0 ≤ x.toInt ∧ x.toInt < 8) ∧ S' = S)) := by
  refine q_enter (by decide) (Nat.le_of_ble_eq_true rfl) (fun X F E => ?_)
  show q_W G X iX3_isNumber (q_w G n ad) (0, 0) 0 [some (.inl x)] [] (S)
  refine q_iload_n F dX3_isNumber_0 rfl ?_
  refine q_if_lt F 14 dX3_isNumber_1 (by decide) (fun h1 => ?_) (fun h1 => ?_)
  · refine q_iconst F (nI 0) dX3_isNumber_14 (by decide) ?_
    refine q_zret F E rfl (by decide) ⟨by first | exact q_bl_1 ⟨by omega, by omega⟩ | exact q_bl_0 (by omega), rfl⟩ dX3_isNumber_15
  · refine q_iload_n F dX3_isNumber_4 rfl ?_
    refine q_bipush F (nI 8) dX3_isNumber_5 (by decide) ?_
    refine q_icmp_ge F 14 dX3_isNumber_7 (by decide) (fun h7 => ?_) (fun h7 => ?_)
    · rw [nI_toInt (by omega)] at h7
      refine q_iconst F (nI 0) dX3_isNumber_14 (by decide) ?_
      refine q_zret F E rfl (by decide) ⟨by first | exact q_bl_1 ⟨by omega, by omega⟩ | exact q_bl_0 (by omega), rfl⟩ dX3_isNumber_15
    · rw [nI_toInt (by omega)] at h7
      refine q_iconst F (nI 1) dX3_isNumber_10 (by decide) ?_
      refine q_goto F 15 dX3_isNumber_11 (by decide) ?_
      refine q_zret F E rfl (by decide) ⟨by first | exact q_bl_1 ⟨by omega, by omega⟩ | exact q_bl_0 (by omega), rfl⟩ dX3_isNumber_15

set_option maxRecDepth 100000 in
set_option maxHeartbeats 4000000 in
theorem t_isLive {G : q_g} {n : Nat} {ad : q_ix → Nat} (l : Launch) (S : q_st) {x : Int32} : q_Ct l G iX3_isLive [.inr (some (0, 0)), .inl x] (q_w G n ad) (S) (q_pi (q_w G n ad) (fun r S' => q_bl r (∃ p, p < 8 ∧ x = nI p ∧ (S (5, p) 0 = nI 1 ∨ S (5, p) 0 = nI 2)) ∧ S' = S)) := by
  refine q_enter (by decide) (Nat.le_of_ble_eq_true rfl) (fun X F E => ?_)
  show q_W G X iX3_isLive (q_w G n ad) (0, 0) 0 [some (.inr (some (0, 0))), some (.inl x)] [] (S)
  refine q_iload_n F dX3_isLive_0 rfl ?_
  refine q_callSi F [.inl x] (fun l => t_isNumber l S) clX3_87 rfl rfl ⟨Nat.le_of_ble_eq_true rfl, Nat.le_of_ble_eq_true rfl⟩ (Nat.le_of_ble_eq_true rfl) ⟨rfl, rfl⟩ ⟨Nat.zero_le _, Nat.zero_le _⟩ dX3_isLive_1 (fun v S' hv => ?_)
  obtain ⟨hv, rfl⟩ := hv
  refine q_if_eq F 37 dX3_isLive_4 (by decide) (fun h4 => ?_) (fun h4 => ?_)
  · have hx := q_bl_F hv h4
    refine q_iconst F (nI 0) dX3_isLive_37 (by decide) ?_
    refine q_zret F E rfl (by decide) ⟨by first | exact q_bl_1 ⟨p, hp, rfl, Or.inl h17⟩ | exact q_bl_1 ⟨p, hp, rfl, Or.inr h30⟩ | exact q_bl_0 (by rintro ⟨q, hq, he, -⟩; subst he; rw [nI_toInt (by omega)] at hx; omega) | exact q_bl_0 (by rintro ⟨q, hq, he, hc⟩; rw [nI_eq (by omega) (by omega)] at he; subst he; first | exact h17 hc | exact (hc.elim h17 h30)), rfl⟩ dX3_isLive_38
  · obtain ⟨p, hp, rfl⟩ := q_ofx (m := 8) (by decide) (q_bl_T hv h4).1 (q_bl_T hv h4).2
    refine q_aload_n F dX3_isLive_7 rfl ?_
    refine q_getr F (k := 1) fkX3_20 q_m0 rfl rfl dX3_isLive_8 ?_
    refine q_iload_n F dX3_isLive_11 rfl ?_
    refine q_aald F (_) q_m4 rfl rfl (by omega) (by decide) rfl dX3_isLive_12 ?_
    refine q_geti F (k := 0) fkX3_90 (q_m5 (by omega)) rfl rfl dX3_isLive_13 ?_
    refine q_iconst F (nI 1) dX3_isLive_16 (by decide) ?_
    refine q_icmp_eq F 33 dX3_isLive_17 (by decide) (fun h17 => ?_) (fun h17 => ?_)
    · refine q_iconst F (nI 1) dX3_isLive_33 (by decide) ?_
      refine q_goto F 38 dX3_isLive_34 (by decide) ?_
      refine q_zret F E rfl (by decide) ⟨by first | exact q_bl_1 ⟨p, hp, rfl, Or.inl h17⟩ | exact q_bl_1 ⟨p, hp, rfl, Or.inr h30⟩ | exact q_bl_0 (by rintro ⟨q, hq, he, -⟩; subst he; rw [nI_toInt (by omega)] at hx; omega) | exact q_bl_0 (by rintro ⟨q, hq, he, hc⟩; rw [nI_eq (by omega) (by omega)] at he; subst he; first | exact h17 hc | exact (hc.elim h17 h30)), rfl⟩ dX3_isLive_38
    · refine q_aload_n F dX3_isLive_20 rfl ?_
      refine q_getr F (k := 1) fkX3_20 q_m0 rfl rfl dX3_isLive_21 ?_
      refine q_iload_n F dX3_isLive_24 rfl ?_
      refine q_aald F (_) q_m4 rfl rfl (by omega) (by decide) rfl dX3_isLive_25 ?_
      refine q_geti F (k := 0) fkX3_90 (q_m5 (by omega)) rfl rfl dX3_isLive_26 ?_
      refine q_iconst F (nI 2) dX3_isLive_29 (by decide) ?_
      refine q_icmp_ne F 37 dX3_isLive_30 (by decide) (fun h30 => ?_) (fun h30 => ?_)
      · refine q_iconst F (nI 0) dX3_isLive_37 (by decide) ?_
        refine q_zret F E rfl (by decide) ⟨by first | exact q_bl_1 ⟨p, hp, rfl, Or.inl h17⟩ | exact q_bl_1 ⟨p, hp, rfl, Or.inr h30⟩ | exact q_bl_0 (by rintro ⟨q, hq, he, -⟩; subst he; rw [nI_toInt (by omega)] at hx; omega) | exact q_bl_0 (by rintro ⟨q, hq, he, hc⟩; rw [nI_eq (by omega) (by omega)] at he; subst he; first | exact h17 hc | exact (hc.elim h17 h30)), rfl⟩ dX3_isLive_38
      · refine q_iconst F (nI 1) dX3_isLive_33 (by decide) ?_
        refine q_goto F 38 dX3_isLive_34 (by decide) ?_
        refine q_zret F E rfl (by decide) ⟨by first | exact q_bl_1 ⟨p, hp, rfl, Or.inl h17⟩ | exact q_bl_1 ⟨p, hp, rfl, Or.inr h30⟩ | exact q_bl_0 (by rintro ⟨q, hq, he, -⟩; subst he; rw [nI_toInt (by omega)] at hx; omega) | exact q_bl_0 (by rintro ⟨q, hq, he, hc⟩; rw [nI_eq (by omega) (by omega)] at he; subst he; first | exact h17 hc | exact (hc.elim h17 h30)), rfl⟩ dX3_isLive_38

set_option maxRecDepth 100000 in
set_option maxHeartbeats 4000000 in
theorem t_isZombie {G : q_g} {n : Nat} {ad : q_ix → Nat} (l : Launch) (S : q_st) {x : Int32} : q_Ct l G iX3_isZombie [.inr (some (0, 0)), .inl x] (q_w G n ad) (S) (q_pi (q_w G n ad) (fun r S' => q_bl r (∃ p, p < 8 ∧ x = nI p ∧ (S (5, p) 0 = nI 3)) ∧ S' = S)) := by
  refine q_enter (by decide) (Nat.le_of_ble_eq_true rfl) (fun X F E => ?_)
  show q_W G X iX3_isZombie (q_w G n ad) (0, 0) 0 [some (.inr (some (0, 0))), some (.inl x)] [] (S)
  refine q_iload_n F dX3_isZombie_0 rfl ?_
  refine q_callSi F [.inl x] (fun l => t_isNumber l S) clX3_87 rfl rfl ⟨Nat.le_of_ble_eq_true rfl, Nat.le_of_ble_eq_true rfl⟩ (Nat.le_of_ble_eq_true rfl) ⟨rfl, rfl⟩ ⟨Nat.zero_le _, Nat.zero_le _⟩ dX3_isZombie_1 (fun v S' hv => ?_)
  obtain ⟨hv, rfl⟩ := hv
  refine q_if_eq F 24 dX3_isZombie_4 (by decide) (fun h4 => ?_) (fun h4 => ?_)
  · have hx := q_bl_F hv h4
    refine q_iconst F (nI 0) dX3_isZombie_24 (by decide) ?_
    refine q_zret F E rfl (by decide) ⟨by first | exact q_bl_1 ⟨p, hp, rfl, h17⟩ | exact q_bl_0 (by rintro ⟨q, hq, he, -⟩; subst he; rw [nI_toInt (by omega)] at hx; omega) | exact q_bl_0 (by rintro ⟨q, hq, he, hc⟩; rw [nI_eq (by omega) (by omega)] at he; subst he; first | exact h17 hc | exact (hc.elim h17 h30)), rfl⟩ dX3_isZombie_25
  · obtain ⟨p, hp, rfl⟩ := q_ofx (m := 8) (by decide) (q_bl_T hv h4).1 (q_bl_T hv h4).2
    refine q_aload_n F dX3_isZombie_7 rfl ?_
    refine q_getr F (k := 1) fkX3_20 q_m0 rfl rfl dX3_isZombie_8 ?_
    refine q_iload_n F dX3_isZombie_11 rfl ?_
    refine q_aald F (_) q_m4 rfl rfl (by omega) (by decide) rfl dX3_isZombie_12 ?_
    refine q_geti F (k := 0) fkX3_90 (q_m5 (by omega)) rfl rfl dX3_isZombie_13 ?_
    refine q_iconst F (nI 3) dX3_isZombie_16 (by decide) ?_
    refine q_icmp_ne F 24 dX3_isZombie_17 (by decide) (fun h17 => ?_) (fun h17 => ?_)
    · refine q_iconst F (nI 0) dX3_isZombie_24 (by decide) ?_
      refine q_zret F E rfl (by decide) ⟨by first | exact q_bl_1 ⟨p, hp, rfl, h17⟩ | exact q_bl_0 (by rintro ⟨q, hq, he, -⟩; subst he; rw [nI_toInt (by omega)] at hx; omega) | exact q_bl_0 (by rintro ⟨q, hq, he, hc⟩; rw [nI_eq (by omega) (by omega)] at he; subst he; first | exact h17 hc | exact (hc.elim h17 h30)), rfl⟩ dX3_isZombie_25
    · refine q_iconst F (nI 1) dX3_isZombie_20 (by decide) ?_
      refine q_goto F 25 dX3_isZombie_21 (by decide) ?_
      refine q_zret F E rfl (by decide) ⟨by first | exact q_bl_1 ⟨p, hp, rfl, h17⟩ | exact q_bl_0 (by rintro ⟨q, hq, he, -⟩; subst he; rw [nI_toInt (by omega)] at hx; omega) | exact q_bl_0 (by rintro ⟨q, hq, he, hc⟩; rw [nI_eq (by omega) (by omega)] at he; subst he; first | exact h17 hc | exact (hc.elim h17 h30)), rfl⟩ dX3_isZombie_25

set_option maxRecDepth 100000 in
set_option maxHeartbeats 4000000 in
theorem lp_firstFree {G : q_g} {n : Nat} {ad : q_ix → Nat} {X : q_cx} (F : q_fx G X iX3_firstFree) {S : q_st}  (E : q_en G X iX3_firstFree (q_pi (q_w G n ad) (fun r S' => r = q_fe (f_st (fun p => S (5, p) 0 = 0) 8) ∧ S' = S))) : ∀ k, k ≤ 8 → (∀ i, i < k → ¬ (S (5, i) 0 = 0)) → q_W G X iX3_firstFree (q_w G n ad) (0, 0) 2 [some (.inr (some (0, 0))), some (.inl (nI k))] [] S := by
  refine q_loop (fun k hk ih => ?_)
  intro hall
  refine q_iload_n F dX3_firstFree_2 rfl ?_
  refine q_bipush F (nI 8) dX3_firstFree_3 (by decide) ?_
  refine q_icmpN_ge F 28 dX3_firstFree_5 (by decide) (by omega) (by omega) (fun h5 => ?_) (fun h5 => ?_)
  · obtain rfl : k = 8 := by omega
    refine q_iconst F (-1) dX3_firstFree_28 (by decide) ?_
    refine q_iret F E rfl ⟨by rw [f_st_none hall]; rfl, rfl⟩ dX3_firstFree_29
  · refine q_aload_n F dX3_firstFree_8 rfl ?_
    refine q_getr F (k := 1) fkX3_20 q_m0 rfl rfl dX3_firstFree_9 ?_
    refine q_iload_n F dX3_firstFree_12 rfl ?_
    refine q_aald F (_) q_m4 rfl rfl (by omega) (by decide) rfl dX3_firstFree_13 ?_
    refine q_geti F (k := 0) fkX3_90 (q_m5 (by omega)) rfl rfl dX3_firstFree_14 ?_
    refine q_if_ne F 22 dX3_firstFree_17 (by decide) (fun h17 => ?_) (fun h17 => ?_)
    · refine q_iinc_1 F _ dX3_firstFree_22 (q_inc1 _) (by decide) ?_
      exact q_goto F 2 dX3_firstFree_25 (by decide) (ih h5 (lt_s hall h17))
    · refine q_iload_n F dX3_firstFree_20 rfl ?_
      refine q_iret F E rfl ⟨by rw [f_st_some h17 hall h5]; rfl, rfl⟩ dX3_firstFree_21
set_option maxRecDepth 100000 in
set_option maxHeartbeats 4000000 in
theorem t_firstFree {G : q_g} {n : Nat} {ad : q_ix → Nat} (l : Launch) (S : q_st)  : q_Ct l G iX3_firstFree [.inr (some (0, 0))] (q_w G n ad) (S) (q_pi (q_w G n ad) (fun r S' => r = q_fe (f_st (fun p => S (5, p) 0 = 0) 8) ∧ S' = S)) := by
  refine q_enter (by decide) (Nat.le_of_ble_eq_true rfl) (fun X F E => ?_)
  show q_W G X iX3_firstFree (q_w G n ad) (0, 0) 0 [some (.inr (some (0, 0))), none] [] (S)
  refine q_iconst F (nI 0) dX3_firstFree_0 (by decide) ?_
  refine q_istore_n_1 F dX3_firstFree_1 (by decide) ?_
  exact lp_firstFree F E 0 (by decide) (fun i hi => absurd hi (Nat.not_lt_zero i))

set_option maxRecDepth 100000 in
set_option maxHeartbeats 4000000 in
theorem lp_hasChild {G : q_g} {n : Nat} {ad : q_ix → Nat} {X : q_cx} (F : q_fx G X iX3_hasChild) {S : q_st} {v : Int32} (E : q_en G X iX3_hasChild (q_pi (q_w G n ad) (fun r S' => q_bl r (∃ p, p < 8 ∧ S (5, p) 1 = v) ∧ S' = S))) : ∀ k, k ≤ 8 → (∀ i, i < k → ¬ (S (5, i) 1 = v)) → q_W G X iX3_hasChild (q_w G n ad) (0, 0) 2 [some (.inr (some (0, 0))), some (.inl v), some (.inl (nI k))] [] S := by
  refine q_loop (fun k hk ih => ?_)
  intro hall
  refine q_iload_n F dX3_hasChild_2 rfl ?_
  refine q_bipush F (nI 8) dX3_hasChild_3 (by decide) ?_
  refine q_icmpN_ge F 29 dX3_hasChild_5 (by decide) (by omega) (by omega) (fun h5 => ?_) (fun h5 => ?_)
  · obtain rfl : k = 8 := by omega
    refine q_iconst F (nI 0) dX3_hasChild_29 (by decide) ?_
    refine q_zret F E rfl (by decide) ⟨q_bl_0 (by rintro ⟨p, hp, h⟩; exact hall p hp h), rfl⟩ dX3_hasChild_30
  · refine q_aload_n F dX3_hasChild_8 rfl ?_
    refine q_getr F (k := 1) fkX3_20 q_m0 rfl rfl dX3_hasChild_9 ?_
    refine q_iload_n F dX3_hasChild_12 rfl ?_
    refine q_aald F (_) q_m4 rfl rfl (by omega) (by decide) rfl dX3_hasChild_13 ?_
    refine q_geti F (k := 1) fkX3_81 (q_m5 (by omega)) rfl rfl dX3_hasChild_14 ?_
    refine q_iload_n F dX3_hasChild_17 rfl ?_
    refine q_icmp_ne F 23 dX3_hasChild_18 (by decide) (fun h18 => ?_) (fun h18 => ?_)
    · refine q_iinc_2 F _ dX3_hasChild_23 (q_inc1 _) (by decide) ?_
      exact q_goto F 2 dX3_hasChild_26 (by decide) (ih h5 (lt_s hall h18))
    · refine q_iconst F (nI 1) dX3_hasChild_21 (by decide) ?_
      refine q_zret F E rfl (by decide) ⟨q_bl_1 ⟨k, h5, h18⟩, rfl⟩ dX3_hasChild_22
set_option maxRecDepth 100000 in
set_option maxHeartbeats 4000000 in
theorem t_hasChild {G : q_g} {n : Nat} {ad : q_ix → Nat} (l : Launch) (S : q_st) {v : Int32} : q_Ct l G iX3_hasChild [.inr (some (0, 0)), .inl v] (q_w G n ad) (S) (q_pi (q_w G n ad) (fun r S' => q_bl r (∃ p, p < 8 ∧ S (5, p) 1 = v) ∧ S' = S)) := by
  refine q_enter (by decide) (Nat.le_of_ble_eq_true rfl) (fun X F E => ?_)
  show q_W G X iX3_hasChild (q_w G n ad) (0, 0) 0 [some (.inr (some (0, 0))), some (.inl v), none] [] (S)
  refine q_iconst F (nI 0) dX3_hasChild_0 (by decide) ?_
  refine q_istore_n_2 F dX3_hasChild_1 (by decide) ?_
  exact lp_hasChild F E 0 (by decide) (fun i hi => absurd hi (Nat.not_lt_zero i))

set_option maxRecDepth 100000 in
set_option maxHeartbeats 4000000 in
theorem lp_firstZombieChild {G : q_g} {n : Nat} {ad : q_ix → Nat} {X : q_cx} (F : q_fx G X iX3_firstZombieChild) {S : q_st} {v : Int32} (E : q_en G X iX3_firstZombieChild (q_pi (q_w G n ad) (fun r S' => r = q_fe (f_st (fun p => S (5, p) 1 = v ∧ S (5, p) 0 = nI 3) 8) ∧ S' = S))) : ∀ k, k ≤ 8 → (∀ i, i < k → ¬ (S (5, i) 1 = v ∧ S (5, i) 0 = nI 3)) → q_W G X iX3_firstZombieChild (q_w G n ad) (0, 0) 2 [some (.inr (some (0, 0))), some (.inl v), some (.inl (nI k))] [] S := by
  refine q_loop (fun k hk ih => ?_)
  intro hall
  refine q_iload_n F dX3_firstZombieChild_2 rfl ?_
  refine q_bipush F (nI 8) dX3_firstZombieChild_3 (by decide) ?_
  refine q_icmpN_ge F 42 dX3_firstZombieChild_5 (by decide) (by omega) (by omega) (fun h5 => ?_) (fun h5 => ?_)
  · obtain rfl : k = 8 := by omega
    refine q_iconst F (-1) dX3_firstZombieChild_42 (by decide) ?_
    refine q_iret F E rfl ⟨by rw [f_st_none hall]; rfl, rfl⟩ dX3_firstZombieChild_43
  · refine q_aload_n F dX3_firstZombieChild_8 rfl ?_
    refine q_getr F (k := 1) fkX3_20 q_m0 rfl rfl dX3_firstZombieChild_9 ?_
    refine q_iload_n F dX3_firstZombieChild_12 rfl ?_
    refine q_aald F (_) q_m4 rfl rfl (by omega) (by decide) rfl dX3_firstZombieChild_13 ?_
    refine q_geti F (k := 1) fkX3_81 (q_m5 (by omega)) rfl rfl dX3_firstZombieChild_14 ?_
    refine q_iload_n F dX3_firstZombieChild_17 rfl ?_
    refine q_icmp_ne F 36 dX3_firstZombieChild_18 (by decide) (fun h18 => ?_) (fun h18 => ?_)
    · refine q_iinc_2 F _ dX3_firstZombieChild_36 (q_inc1 _) (by decide) ?_
      exact q_goto F 2 dX3_firstZombieChild_39 (by decide) (ih h5 (lt_s hall (by rintro ⟨q1, q2⟩; first | exact h18 q1 | exact h31 q2)))
    · refine q_aload_n F dX3_firstZombieChild_21 rfl ?_
      refine q_getr F (k := 1) fkX3_20 q_m0 rfl rfl dX3_firstZombieChild_22 ?_
      refine q_iload_n F dX3_firstZombieChild_25 rfl ?_
      refine q_aald F (_) q_m4 rfl rfl (by omega) (by decide) rfl dX3_firstZombieChild_26 ?_
      refine q_geti F (k := 0) fkX3_90 (q_m5 (by omega)) rfl rfl dX3_firstZombieChild_27 ?_
      refine q_iconst F (nI 3) dX3_firstZombieChild_30 (by decide) ?_
      refine q_icmp_ne F 36 dX3_firstZombieChild_31 (by decide) (fun h31 => ?_) (fun h31 => ?_)
      · refine q_iinc_2 F _ dX3_firstZombieChild_36 (q_inc1 _) (by decide) ?_
        exact q_goto F 2 dX3_firstZombieChild_39 (by decide) (ih h5 (lt_s hall (by rintro ⟨q1, q2⟩; first | exact h18 q1 | exact h31 q2)))
      · refine q_iload_n F dX3_firstZombieChild_34 rfl ?_
        refine q_iret F E rfl ⟨by rw [f_st_some ⟨h18, h31⟩ hall h5]; rfl, rfl⟩ dX3_firstZombieChild_35
set_option maxRecDepth 100000 in
set_option maxHeartbeats 4000000 in
theorem t_firstZombieChild {G : q_g} {n : Nat} {ad : q_ix → Nat} (l : Launch) (S : q_st) {v : Int32} : q_Ct l G iX3_firstZombieChild [.inr (some (0, 0)), .inl v] (q_w G n ad) (S) (q_pi (q_w G n ad) (fun r S' => r = q_fe (f_st (fun p => S (5, p) 1 = v ∧ S (5, p) 0 = nI 3) 8) ∧ S' = S)) := by
  refine q_enter (by decide) (Nat.le_of_ble_eq_true rfl) (fun X F E => ?_)
  show q_W G X iX3_firstZombieChild (q_w G n ad) (0, 0) 0 [some (.inr (some (0, 0))), some (.inl v), none] [] (S)
  refine q_iconst F (nI 0) dX3_firstZombieChild_0 (by decide) ?_
  refine q_istore_n_2 F dX3_firstZombieChild_1 (by decide) ?_
  exact lp_firstZombieChild F E 0 (by decide) (fun i hi => absurd hi (Nat.not_lt_zero i))

set_option maxRecDepth 100000 in
set_option maxHeartbeats 4000000 in
theorem t_rowOff {G : q_g} {n : Nat} {ad : q_ix → Nat} (l : Launch) (S : q_st) (h0 : S (0, 0) 5 = -1) : q_Ct l G iX3_rowGoesOn [.inr (some (0, 0))] (q_w G n ad) (S) (q_pi (q_w G n ad) (fun r S' => r = nI 0 ∧ S' = S)) := by
  refine q_enter (by decide) (Nat.le_of_ble_eq_true rfl) (fun X F E => ?_)
  show q_W G X iX3_rowGoesOn (q_w G n ad) (0, 0) 0 [some (.inr (some (0, 0)))] [] (S)
  refine q_aload_n F dX3_rowGoesOn_0 rfl ?_
  refine q_geti F (k := 5) fkX3_40 q_m0 rfl rfl dX3_rowGoesOn_1 ?_
  refine q_iconst F (-1) dX3_rowGoesOn_4 (by decide) ?_
  refine q_icmp_eq F 39 dX3_rowGoesOn_5 (by decide) (fun h5 => ?_) (fun h5 => ?_)
  · refine q_iconst F (nI 0) dX3_rowGoesOn_39 (by decide) ?_
    refine q_zret F E rfl (by decide) ⟨rfl, rfl⟩ dX3_rowGoesOn_40
  · exact absurd h0 h5

set_option maxRecDepth 100000 in
set_option maxHeartbeats 4000000 in
theorem t_rowOn {G : q_g} {n : Nat} {ad : q_ix → Nat} (l : Launch) (S : q_st) {c : Nat} (hc : c < 8) (h0 : S (0, 0) 5 = nI c) : q_Ct l G iX3_rowGoesOn [.inr (some (0, 0))] (q_w G n ad) (S) (q_pi (q_w G n ad) (fun r S' => q_bl r (S (5, c) 0 = nI 1 ∧ (S (0, 0) 6).toInt < (S (0, 0) 4).toInt) ∧ S' = S)) := by
  refine q_enter (by decide) (Nat.le_of_ble_eq_true rfl) (fun X F E => ?_)
  show q_W G X iX3_rowGoesOn (q_w G n ad) (0, 0) 0 [some (.inr (some (0, 0)))] [] (S)
  refine q_aload_n F dX3_rowGoesOn_0 rfl ?_
  refine q_geti F (k := 5) fkX3_40 q_m0 rfl rfl dX3_rowGoesOn_1 ?_
  refine q_iconst F (-1) dX3_rowGoesOn_4 (by decide) ?_
  refine q_icmp_eq F 39 dX3_rowGoesOn_5 (by decide) (fun h5 => ?_) (fun h5 => ?_)
  · rw [h0] at h5
    exact absurd h5 (q_nm1 (by omega))
  · refine q_aload_n F dX3_rowGoesOn_8 rfl ?_
    refine q_getr F (k := 1) fkX3_20 q_m0 rfl rfl dX3_rowGoesOn_9 ?_
    refine q_aload_n F dX3_rowGoesOn_12 rfl ?_
    refine q_geti F (k := 5) fkX3_40 q_m0 rfl rfl dX3_rowGoesOn_13 ?_
    refine q_top (nI c) h0 ?_
    refine q_aald F (_) q_m4 rfl rfl (by omega) (by decide) rfl dX3_rowGoesOn_16 ?_
    refine q_geti F (k := 0) fkX3_90 (q_m5 (by omega)) rfl rfl dX3_rowGoesOn_17 ?_
    refine q_iconst F (nI 1) dX3_rowGoesOn_20 (by decide) ?_
    refine q_icmp_ne F 39 dX3_rowGoesOn_21 (by decide) (fun h21 => ?_) (fun h21 => ?_)
    · refine q_iconst F (nI 0) dX3_rowGoesOn_39 (by decide) ?_
      refine q_zret F E rfl (by decide) ⟨by first | exact q_bl_1 ⟨h21, h32⟩ | exact q_bl_0 (fun q => h21 q.1) | exact q_bl_0 (fun q => by have := q.2; omega), rfl⟩ dX3_rowGoesOn_40
    · refine q_aload_n F dX3_rowGoesOn_24 rfl ?_
      refine q_geti F (k := 6) fkX3_43 q_m0 rfl rfl dX3_rowGoesOn_25 ?_
      refine q_aload_n F dX3_rowGoesOn_28 rfl ?_
      refine q_geti F (k := 4) fkX3_36 q_m0 rfl rfl dX3_rowGoesOn_29 ?_
      refine q_icmp_ge F 39 dX3_rowGoesOn_32 (by decide) (fun h32 => ?_) (fun h32 => ?_)
      · refine q_iconst F (nI 0) dX3_rowGoesOn_39 (by decide) ?_
        refine q_zret F E rfl (by decide) ⟨by first | exact q_bl_1 ⟨h21, h32⟩ | exact q_bl_0 (fun q => h21 q.1) | exact q_bl_0 (fun q => by have := q.2; omega), rfl⟩ dX3_rowGoesOn_40
      · refine q_iconst F (nI 1) dX3_rowGoesOn_35 (by decide) ?_
        refine q_goto F 40 dX3_rowGoesOn_36 (by decide) ?_
        refine q_zret F E rfl (by decide) ⟨by first | exact q_bl_1 ⟨h21, h32⟩ | exact q_bl_0 (fun q => h21 q.1) | exact q_bl_0 (fun q => by have := q.2; omega), rfl⟩ dX3_rowGoesOn_40

set_option maxRecDepth 100000 in
set_option maxHeartbeats 4000000 in
theorem lp_nextReady {G : q_g} {n : Nat} {ad : q_ix → Nat} {X : q_cx} (F : q_fx G X iX3_nextReady) {S : q_st} {m : Nat} (hm : m ≤ 8) (h0 : S (0, 0) 5 + 1 = nI m) (E : q_en G X iX3_nextReady (q_pi (q_w G n ad) (fun r S' => r = q_fe ((f_st (fun j => S (5, (m + j) % 8) 0 = nI 1) 8).map (fun j => (m + j) % 8)) ∧ S' = S))) : ∀ j, j ≤ 8 → (∀ i, i < j → ¬ S (5, (m + i) % 8) 0 = nI 1) → q_W G X iX3_nextReady (q_w G n ad) (0, 0) 2 [some (.inr (some (0, 0))), some (.inl (nI (j + 1))), none] [] S := by
  refine q_loop (fun j hj ih => ?_)
  intro hall
  refine q_iload_n F dX3_nextReady_2 rfl ?_
  refine q_bipush F (nI 8) dX3_nextReady_3 (by decide) ?_
  refine q_icmpN_gt F 39 dX3_nextReady_5 (by decide) (by omega) (by omega) (fun h5 => ?_) (fun h5 => ?_)
  · obtain rfl : j = 8 := by omega
    refine q_iconst F (-1) dX3_nextReady_39 (by decide) ?_
    refine q_iret F E rfl ⟨by rw [f_st_none hall]; rfl, rfl⟩ dX3_nextReady_40
  · refine q_aload_n F dX3_nextReady_8 rfl ?_
    refine q_geti F (k := 5) fkX3_40 q_m0 rfl rfl dX3_nextReady_9 ?_
    refine q_iload_n F dX3_nextReady_12 rfl ?_
    refine q_iadd F dX3_nextReady_13 ?_
    refine q_top (nI (m + j)) (by rw [← nI_1 j, Int32.add_comm (nI j) 1, ← Int32.add_assoc, h0, nI_add]) ?_
    refine q_bipush F (nI 8) dX3_nextReady_14 (by decide) ?_
    refine q_iremN F dX3_nextReady_16 (by omega) (by omega) (by omega) ?_
    refine q_istore_n_2 F dX3_nextReady_17 (by decide) ?_
    refine q_aload_n F dX3_nextReady_18 rfl ?_
    refine q_getr F (k := 1) fkX3_20 q_m0 rfl rfl dX3_nextReady_19 ?_
    refine q_iload_n F dX3_nextReady_22 rfl ?_
    refine q_aald F (_) q_m4 rfl rfl (by omega) (by decide) rfl dX3_nextReady_23 ?_
    refine q_geti F (k := 0) fkX3_90 (q_m5 (by omega)) rfl rfl dX3_nextReady_24 ?_
    refine q_iconst F (nI 1) dX3_nextReady_27 (by decide) ?_
    refine q_icmp_ne F 33 dX3_nextReady_28 (by decide) (fun h28 => ?_) (fun h28 => ?_)
    · refine q_iinc_1 F _ dX3_nextReady_33 (q_inc1 _) (by decide) ?_
      exact q_goto F 2 dX3_nextReady_36 (by decide) (q_drop_2 (ih (by omega) (lt_s hall h28)))
    · refine q_iload_n F dX3_nextReady_31 rfl ?_
      refine q_iret F E rfl ⟨by rw [f_st_some h28 hall (by omega)]; rfl, rfl⟩ dX3_nextReady_32

set_option maxRecDepth 100000 in
set_option maxHeartbeats 4000000 in
theorem t_nextReady {G : q_g} {n : Nat} {ad : q_ix → Nat} (l : Launch) (S : q_st) {m : Nat} (hm : m ≤ 8) (h0 : S (0, 0) 5 + 1 = nI m) : q_Ct l G iX3_nextReady [.inr (some (0, 0))] (q_w G n ad) (S) (q_pi (q_w G n ad) (fun r S' => r = q_fe ((f_st (fun j => S (5, (m + j) % 8) 0 = nI 1) 8).map (fun j => (m + j) % 8)) ∧ S' = S)) := by
  refine q_enter (by decide) (Nat.le_of_ble_eq_true rfl) (fun X F E => ?_)
  show q_W G X iX3_nextReady (q_w G n ad) (0, 0) 0 [some (.inr (some (0, 0))), none, none] [] (S)
  refine q_iconst F (nI 1) dX3_nextReady_0 (by decide) ?_
  refine q_istore_n_1 F dX3_nextReady_1 (by decide) ?_
  exact lp_nextReady F hm h0 E 0 (by decide) (fun i hi => absurd hi (Nat.not_lt_zero i))

set_option maxRecDepth 100000 in
set_option maxHeartbeats 4000000 in
theorem t_wordAt0 {G : q_g} {n : Nat} {ad : q_ix → Nat} (l : Launch) (S : q_st) {p a : Nat} (hp : p < 8) (ha : a < 64) (h0 : S (7, p) (a / 8) = -1) : q_Ct l G iX3_wordAt [.inr (some (0, 0)), .inr (some (5, p)), .inl (nI a)] (q_w G n ad) (S) (q_pi (q_w G n ad) (fun r S' => r = 0 ∧ S' = S)) := by
  refine q_enter (by decide) (Nat.le_of_ble_eq_true rfl) (fun X F E => ?_)
  show q_W G X iX3_wordAt (q_w G n ad) (0, 0) 0 [some (.inr (some (0, 0))), some (.inr (some (5, p))), some (.inl (nI a)), none] [] (S)
  refine q_aload_n F dX3_wordAt_0 rfl ?_
  refine q_getr F (k := 6) fkX3_112 (q_m5 (by omega)) rfl rfl dX3_wordAt_1 ?_
  refine q_iload_n F dX3_wordAt_4 rfl ?_
  refine q_bipush F (nI 8) dX3_wordAt_5 (by decide) ?_
  refine q_idivN F dX3_wordAt_7 (by omega) (by omega) (by omega) ?_
  refine q_iald F (_) (q_m7 (by omega)) rfl rfl (by omega) (by omega) dX3_wordAt_8 ?_
  refine q_top (-1) h0 ?_
  refine q_istore_n_3 F dX3_wordAt_9 (by decide) ?_
  refine q_iload_n F dX3_wordAt_10 rfl ?_
  refine q_iconst F (-1) dX3_wordAt_11 (by decide) ?_
  refine q_icmp_ne F 19 dX3_wordAt_12 (by decide) (fun h12 => ?_) (fun h12 => ?_)
  · exact absurd rfl h12
  · refine q_iconst F (nI 0) dX3_wordAt_15 (by decide) ?_
    refine q_goto F 36 dX3_wordAt_16 (by decide) ?_
    refine q_iret F E rfl ⟨rfl, rfl⟩ dX3_wordAt_36

set_option maxRecDepth 100000 in
set_option maxHeartbeats 4000000 in
theorem t_wordAt {G : q_g} {n : Nat} {ad : q_ix → Nat} (l : Launch) (S : q_st) {p a f : Nat} (hp : p < 8) (ha : a < 64) (hf : f < n) (hn : n ≤ 32) (h0 : S (7, p) (a / 8) = nI f) : q_Ct l G iX3_wordAt [.inr (some (0, 0)), .inr (some (5, p)), .inl (nI a)] (q_w G n ad) (S) (q_pi (q_w G n ad) (fun r S' => r = S (2, 0) (8 * f + a % 8) ∧ S' = S)) := by
  refine q_enter (by decide) (Nat.le_of_ble_eq_true rfl) (fun X F E => ?_)
  show q_W G X iX3_wordAt (q_w G n ad) (0, 0) 0 [some (.inr (some (0, 0))), some (.inr (some (5, p))), some (.inl (nI a)), none] [] (S)
  refine q_aload_n F dX3_wordAt_0 rfl ?_
  refine q_getr F (k := 6) fkX3_112 (q_m5 (by omega)) rfl rfl dX3_wordAt_1 ?_
  refine q_iload_n F dX3_wordAt_4 rfl ?_
  refine q_bipush F (nI 8) dX3_wordAt_5 (by decide) ?_
  refine q_idivN F dX3_wordAt_7 (by omega) (by omega) (by omega) ?_
  refine q_iald F (_) (q_m7 (by omega)) rfl rfl (by omega) (by omega) dX3_wordAt_8 ?_
  refine q_top (nI f) h0 ?_
  refine q_istore_n_3 F dX3_wordAt_9 (by decide) ?_
  refine q_iload_n F dX3_wordAt_10 rfl ?_
  refine q_iconst F (-1) dX3_wordAt_11 (by decide) ?_
  refine q_icmp_ne F 19 dX3_wordAt_12 (by decide) (fun h12 => ?_) (fun h12 => ?_)
  · refine q_aload_n F dX3_wordAt_19 rfl ?_
    refine q_getr F (k := 0) fkX3_14 q_m0 rfl rfl dX3_wordAt_20 ?_
    refine q_getr F (k := 1) fkX3_194 q_m1 rfl rfl dX3_wordAt_23 ?_
    refine q_iload_n F dX3_wordAt_26 rfl ?_
    refine q_bipush F (nI 8) dX3_wordAt_27 (by decide) ?_
    refine q_imulN F dX3_wordAt_29 ?_
    refine q_iload_n F dX3_wordAt_30 rfl ?_
    refine q_bipush F (nI 8) dX3_wordAt_31 (by decide) ?_
    refine q_iremN F dX3_wordAt_33 (by omega) (by omega) (by omega) ?_
    refine q_iaddN F dX3_wordAt_34 ?_
    refine q_iald F (8 * f + a % 8) q_m2 rfl (by rw [Nat.mul_comm]) (by omega) (by omega) dX3_wordAt_35 ?_
    refine q_iret F E rfl ⟨rfl, rfl⟩ dX3_wordAt_36
  · exact absurd h12 (q_nm1 (by omega))

set_option maxRecDepth 100000 in
set_option maxHeartbeats 4000000 in
theorem t_putWord {G : q_g} {n : Nat} {ad : q_ix → Nat} (l : Launch) (S : q_st) {p a f : Nat} {v : Int32} (hp : p < 8) (ha : a < 64) (hf : f < n) (hn : n ≤ 32) (h0 : S (7, p) (a / 8) = nI f) : q_Ct l G iX3_putWord [.inr (some (0, 0)), .inr (some (5, p)), .inl (nI a), .inl v] (q_w G n ad) (S) (q_pv (q_w G n ad) (fun S' => S' = q_up S (2, 0) (8 * f + a % 8) v)) := by
  refine q_enter (by decide) (Nat.le_of_ble_eq_true rfl) (fun X F E => ?_)
  show q_W G X iX3_putWord (q_w G n ad) (0, 0) 0 [some (.inr (some (0, 0))), some (.inr (some (5, p))), some (.inl (nI a)), some (.inl v), none] [] (S)
  refine q_aload_n F dX3_putWord_0 rfl ?_
  refine q_getr F (k := 6) fkX3_112 (q_m5 (by omega)) rfl rfl dX3_putWord_1 ?_
  refine q_iload_n F dX3_putWord_4 rfl ?_
  refine q_bipush F (nI 8) dX3_putWord_5 (by decide) ?_
  refine q_idivN F dX3_putWord_7 (by omega) (by omega) (by omega) ?_
  refine q_iald F (_) (q_m7 (by omega)) rfl rfl (by omega) (by omega) dX3_putWord_8 ?_
  refine q_top (nI f) h0 ?_
  refine q_istore_4 F dX3_putWord_9 (by decide) ?_
  refine q_iload F dX3_putWord_11 rfl ?_
  refine q_iconst F (-1) dX3_putWord_13 (by decide) ?_
  refine q_icmp_eq F 36 dX3_putWord_14 (by decide) (fun h14 => ?_) (fun h14 => ?_)
  · exact absurd h14 (q_nm1 (by omega))
  · refine q_aload_n F dX3_putWord_17 rfl ?_
    refine q_getr F (k := 0) fkX3_14 q_m0 rfl rfl dX3_putWord_18 ?_
    refine q_getr F (k := 1) fkX3_194 q_m1 rfl rfl dX3_putWord_21 ?_
    refine q_iload F dX3_putWord_24 rfl ?_
    refine q_bipush F (nI 8) dX3_putWord_26 (by decide) ?_
    refine q_imulN F dX3_putWord_28 ?_
    refine q_iload_n F dX3_putWord_29 rfl ?_
    refine q_bipush F (nI 8) dX3_putWord_30 (by decide) ?_
    refine q_iremN F dX3_putWord_32 (by omega) (by omega) (by omega) ?_
    refine q_iaddN F dX3_putWord_33 ?_
    refine q_iload_n F dX3_putWord_34 rfl ?_
    refine q_iast F (8 * f + a % 8) q_m2 rfl (by rw [Nat.mul_comm]) (by omega) (by omega) dX3_putWord_35 ?_
    refine q_vret F E rfl rfl dX3_putWord_36

set_option maxRecDepth 100000 in
set_option maxHeartbeats 4000000 in
theorem t_jumpIf {G : q_g} {n : Nat} {ad : q_ix → Nat} (l : Launch) (S : q_st) {p : Nat} (hp : p < 8) {b v : Int32} : q_Ct l G iX3_jumpIf [.inr (some (5, p)), .inl b, .inl v] (q_w G n ad) (S) (q_pi (q_w G n ad) (fun r S' => r = nI 1 ∧ S' = if b = 0 then S else q_up S (5, p) 3 v)) := by
  refine q_enter (by decide) (Nat.le_of_ble_eq_true rfl) (fun X F E => ?_)
  show q_W G X iX3_jumpIf (q_w G n ad) (0, 0) 0 [some (.inr (some (5, p))), some (.inl b), some (.inl v)] [] (S)
  refine q_iload_n F dX3_jumpIf_0 rfl ?_
  refine q_if_eq F 9 dX3_jumpIf_1 (by decide) (fun h1 => ?_) (fun h1 => ?_)
  · refine q_iconst F (nI 1) dX3_jumpIf_9 (by decide) ?_
    refine q_iret F E rfl ⟨rfl, by first | rw [if_pos h1] | rw [if_neg h1]⟩ dX3_jumpIf_10
  · refine q_aload_n F dX3_jumpIf_4 rfl ?_
    refine q_iload_n F dX3_jumpIf_5 rfl ?_
    refine q_puti F (k := 3) fkX3_100 fp2_3 (q_m5 (by omega)) rfl rfl dX3_jumpIf_6 ?_
    refine q_iconst F (nI 1) dX3_jumpIf_9 (by decide) ?_
    refine q_iret F E rfl ⟨rfl, by first | rw [if_pos h1] | rw [if_neg h1]⟩ dX3_jumpIf_10
end
section
/-! a page reached: what the class does is what the reference does -/
def q_sm (S S' : q_st) : Prop := ∀ j : q_ix, j.1 ≠ 1 → j.1 ≠ 2 → j.1 ≠ 3 → j.1 ≠ 7 → S' j = S j
theorem q_sm_rf (S : q_st) : q_sm S S := fun _ _ _ _ _ => rfl
theorem q_sm_tr {S S1 S2 : q_st} (h1 : q_sm S S1) (h2 : q_sm S1 S2) : q_sm S S2 := fun j a b c d => (h2 j a b c d).trans (h1 j a b c d)
theorem q_R_full {S : q_st} {K : k_t} {n : Nat} {pg : Nat → Option Nat} {us lab : Nat → Nat} {L : Nat} (h : q_R S K n pg us lab L) (hall : ∀ f, f < n → ¬ S (3, 0) f = 0) : nI (k_fr K) = K 0 0 := by
  have hf := q_R_fr h
  obtain ⟨hn, hM, h7, h3, h1, h0, hK0, h9, hl, hL0⟩ := h
  rw [hf, hK0]
  congr 1
  refine c_n_full.mpr (fun f hfn q => hall f hfn ?_)
  rw [h3 f hfn, q]
  rfl
theorem q_R_free {S : q_st} {K : k_t} {n : Nat} {pg : Nat → Option Nat} {us lab : Nat → Nat} {L f : Nat} (h : q_R S K n pg us lab L) (hf : f < n) (h0 : S (3, 0) f = 0) : us f = 0 ∧ ¬ nI (k_fr K) = K 0 0 := by
  have hfr := q_R_fr h
  have hle := q_R_us h hf
  obtain ⟨hn, hM, h7, h3, h1, h00, hK0, h9, hl, hL0⟩ := h
  have hu : us f = 0 := by
    rw [h3 f hf] at h0
    exact (q_nI0 (by omega)).mp h0
  refine ⟨hu, ?_⟩
  rw [hfr, hK0]
  have hcl := c_n_le (fun f => us f ≠ 0) n
  rw [nI_eq (by omega) (by omega)]
  intro q
  exact c_n_full.mp q f hf hu
def q_pgo (wr : Bool) (S : q_st) (K : k_t) (n : Nat) (pg : Nat → Option Nat) (L g : Nat) (r : Int32) (S' : q_st) : Prop :=
  (r = nI 0 ∧ (k_pg K g wr).1 = true ∧ ∃ (pg' : Nat → Option Nat) (us' lab' : Nat → Nat) (L' : Nat), q_R S' (k_pg K g wr).2 n pg' us' lab' L' ∧ L ≤ L' ∧ L' ≤ L + 1 ∧ q_sm S S' ∧ (∀ x, x ≠ g → pg' x = pg x) ∧ ∃ f, pg' g = some f ∧ (wr = true → us' f = 1)) ∨ (r = -13 ∧ (k_pg K g wr).1 = false ∧ (k_pg K g wr).2 = k_u K 0 14 (-13) ∧ S' = S)
theorem q_pgo_old {wr : Bool} {S : q_st} {K : k_t} {n : Nat} {pg : Nat → Option Nat} {us lab : Nat → Nat} {L g f : Nat} (h : q_R S K n pg us lab L) (hp : pg g = some f) (hu : wr = true → us f = 1) : q_pgo wr S K n pg L g (nI 0) S := by
  have hg := (h.2.1.1 g f hp).2
  have hsh := q_R_sh h hg
  rw [hp] at hsh
  have h1 := q_R_us1 h hp
  have e : k_pg K g wr = (true, K) := by
    unfold k_pg
    rw [if_pos]
    refine ⟨by rw [hsh]; exact h1, ?_⟩
    cases wr with
    | false => exact Or.inl rfl
    | true => exact Or.inr (by rw [hsh]; exact hu rfl)
  refine Or.inl ⟨rfl, by rw [e], pg, us, lab, L, by rw [e]; exact h, Nat.le_refl _, Nat.le_succ _, q_sm_rf S, fun _ _ => rfl, f, hp, hu⟩
theorem q_pgo_fail {wr : Bool} {S : q_st} {K : k_t} {n : Nat} {pg : Nat → Option Nat} {us lab : Nat → Nat} {L g : Nat} (h : q_R S K n pg us lab L) (hc : ¬ (0 < k_sh K g ∧ (wr = false ∨ k_sh K g = 1))) (hall : ∀ f, f < n → ¬ S (3, 0) f = 0) : q_pgo wr S K n pg L g (-13) S := by
  have hf := q_R_full h hall
  have e : k_pg K g wr = (false, k_u K 0 14 (-13)) := by
    unfold k_pg
    rw [if_neg hc]
    unfold k_al
    rw [if_pos hf]
  exact Or.inr ⟨rfl, by rw [e], by rw [e], rfl⟩
theorem q_pgo_new {wr : Bool} {S S' : q_st} {K : k_t} {n : Nat} {pg : Nat → Option Nat} {us lab : Nat → Nat} {L p i f : Nat} (h : q_R S K n pg us lab L) (hp : p < 8) (hi : i < 8) (hL : L + 1 < 2 ^ 30) (hc : ¬ (0 < k_sh K (8 * p + i) ∧ (wr = false ∨ k_sh K (8 * p + i) = 1))) (hf : f < n) (h0 : S (3, 0) f = 0) (h2 : ∀ x, pg (8 * p + i) = some x → 2 ≤ us x)
    (e7 : ∀ p' i', p' < 8 → i' < 8 → S' (7, p') i' = if 8 * p' + i' = 8 * p + i then nI f else S (7, p') i')
    (e3 : ∀ x, x < n → S' (3, 0) x = if x = f then nI 1 else if pg (8 * p + i) = some x then nI (us x - 1) else S (3, 0) x)
    (e1 : S' (1, 0) 3 = S (1, 0) 3 + 1) (e0 : S' (1, 0) 0 = S (1, 0) 0) (ew : ∀ x, x / 8 ≠ f → S' (2, 0) x = S (2, 0) x) (ef : ∀ k, k < 8 → S' (2, 0) (8 * f + k) = K 8 (8 * (8 * p + i) + k)) (es : q_sm S S') : q_pgo wr S K n pg L (8 * p + i) (nI 0) S' := by
  obtain ⟨hu, hfr⟩ := q_R_free h hf h0
  have e : k_pg K (8 * p + i) wr = (true, k_u (k_u K 0 11 (K 0 11 + 1)) 9 (8 * p + i) (K 0 11 + 1)) := by
    unfold k_pg
    rw [if_neg hc]
    unfold k_al
    rw [if_neg hfr]
  refine Or.inl ⟨rfl, by rw [e], _, _, _, L + 1, by rw [e]; exact q_R_move h hp hi hf hu hL h2 e7 e3 e1 e0 ew ef, Nat.le_succ _, Nat.le_refl _, es, ?_, f, ?_, ?_⟩
  · intro x hx
    simp [hx]
  · simp
  · intro _
    simp
theorem c_tk_at (S : q_st) (f : Nat) (j : q_ix) (x : Nat) : c_tk S f j x = if j = (2, 0) ∧ x / 8 = f then 0 else if j = (1, 0) ∧ x = 3 then S (1, 0) 3 + 1 else if j = (3, 0) ∧ x = f then nI 1 else S j x := by
  unfold c_tk q_fill q_up
  by_cases hj : j = (2, 0)
  · subst hj
    by_cases hx : x / 8 = f
    · rw [if_pos ⟨rfl, by omega, by omega⟩, if_pos ⟨rfl, hx⟩]
    · rw [if_neg (by rintro ⟨-, a, b⟩; omega)]
      simp [hx]
  · simp only [hj, false_and, if_false]
    rfl
theorem c_lv_at (S : q_st) (f : Nat) (j : q_ix) (x : Nat) : c_lv S f j x = if j = (3, 0) ∧ x = f then S (3, 0) f - nI 1 else if j = (1, 0) ∧ x = 3 ∧ S (3, 0) f - nI 1 = 0 then S (1, 0) 3 - nI 1 else S j x := by
  unfold c_lv
  by_cases h : S (3, 0) f - nI 1 = 0
  · rw [if_pos h]
    unfold q_up
    by_cases hj : j = (1, 0)
    · subst hj
      by_cases hx : x = 3 <;> simp [hx, h]
    · simp [hj]
  · rw [if_neg h]
    unfold q_up
    by_cases hj : j = (1, 0)
    · subst hj
      simp [h]
    · simp [hj]
/-- an untouched page comes into a new frame -/
theorem q_fin0 {wr : Bool} {S : q_st} {K : k_t} {n : Nat} {pg : Nat → Option Nat} {us lab : Nat → Nat} {L p i f : Nat} (h : q_R S K n pg us lab L) (hp : p < 8) (hi : i < 8) (hL : L + 1 < 2 ^ 30) (h0 : pg (8 * p + i) = none) (hf : f < n) (hf0 : S (3, 0) f = 0) : q_pgo wr S K n pg L (8 * p + i) (nI 0) (q_up (c_tk S f) (7, p) i (nI f)) := by
  have hc : ¬ (0 < k_sh K (8 * p + i) ∧ (wr = false ∨ k_sh K (8 * p + i) = 1)) := by rw [q_R_sh h (by omega), h0]; simp
  refine q_pgo_new h hp hi hL hc hf hf0 (fun x hx => by rw [h0] at hx; cases hx) ?_ ?_ ?_ ?_ ?_ ?_ ?_
  · intro p' i' hp' hi'
    by_cases hx : 8 * p' + i' = 8 * p + i
    · obtain ⟨rfl, rfl⟩ : p' = p ∧ i' = i := by omega
      simp [q_up]
    · rw [if_neg hx, q_irr _ _ _ _ _ _ (by rintro ⟨q, rfl⟩; cases q; exact hx rfl)]
      simp [c_tk_at]
  · intro x hx
    rw [q_irr _ _ _ _ _ _ (by simp), h0]
    simp [c_tk_at]
  · rw [q_irr _ _ _ _ _ _ (by simp)]
    simp [c_tk_at]
  · rw [q_irr _ _ _ _ _ _ (by simp)]
    simp [c_tk_at]
  · intro x hx
    rw [q_irr _ _ _ _ _ _ (by simp)]
    simp [c_tk_at, hx]
  · intro k hk
    rw [q_irr _ _ _ _ _ _ (by simp), c_tk_at, if_pos ⟨rfl, by omega⟩]
    exact (h.2.1.2.2.2.2.2.2 (8 * p + i) k (by omega) h0 hk).symm
  · intro j a b c d
    funext x
    rw [q_irr _ _ _ _ _ _ (by rintro ⟨rfl, -⟩; exact d rfl), c_tk_at, if_neg (by rintro ⟨rfl, -⟩; exact b rfl), if_neg (by rintro ⟨rfl, -⟩; exact a rfl), if_neg (by rintro ⟨rfl, -⟩; exact c rfl)]
/-- a shared page leaves its class -/
theorem q_fin1 {S : q_st} {K : k_t} {n : Nat} {pg : Nat → Option Nat} {us lab : Nat → Nat} {L p i f f0 : Nat} (h : q_R S K n pg us lab L) (hp : p < 8) (hi : i < 8) (hL : L + 1 < 2 ^ 30) (h0 : pg (8 * p + i) = some f0) (h1 : ¬ us f0 = 1) (hf : f < n) (hf0 : S (3, 0) f = 0) : q_pgo true S K n pg L (8 * p + i) (nI 0) (q_up (c_lv (q_fill (c_tk S f) (2, 0) (8 * f) 8 (fun x => c_tk S f (2, 0) (8 * f0 + (x - 8 * f)))) f0) (7, p) i (nI f)) := by
  have hpos := q_R_us1 h h0
  have hff := (h.2.1.1 _ _ h0).1
  have hle := q_R_us h hff
  obtain ⟨hu, -⟩ := q_R_free h hf hf0
  have hne : f ≠ f0 := by rintro rfl; omega
  have h3 := h.2.2.2.1
  have hc : ¬ (0 < k_sh K (8 * p + i) ∧ (true = false ∨ k_sh K (8 * p + i) = 1)) := by
    rw [q_R_sh h (by omega), h0]
    simp
    intro _
    exact h1
  generalize hS2 : q_fill (c_tk S f) (2, 0) (8 * f) 8 (fun x => c_tk S f (2, 0) (8 * f0 + (x - 8 * f))) = S2
  have a3 : ∀ x, S2 (3, 0) x = if x = f then nI 1 else S (3, 0) x := by
    intro x
    rw [← hS2, q_fill_ne _ _ _ _ _ _ (by simp), c_tk_at]
    simp
  have a1 : ∀ x, S2 (1, 0) x = if x = 3 then S (1, 0) 3 + 1 else S (1, 0) x := by
    intro x
    rw [← hS2, q_fill_ne _ _ _ _ _ _ (by simp), c_tk_at]
    simp
  have hz : S2 (3, 0) f0 - nI 1 = nI (us f0 - 1) := by
    rw [a3, if_neg (Ne.symm hne), h3 f0 hff, pk_sub (by omega)]
  have hz0 : ¬ S2 (3, 0) f0 - nI 1 = 0 := by
    rw [hz, q_nI0 (by omega)]
    omega
  refine q_pgo_new h hp hi hL hc hf hf0 (fun x hx => by rw [h0] at hx; cases hx; omega) ?_ ?_ ?_ ?_ ?_ ?_ ?_
  · intro p' i' hp' hi'
    by_cases hx : 8 * p' + i' = 8 * p + i
    · obtain ⟨rfl, rfl⟩ : p' = p ∧ i' = i := by omega
      simp [q_up]
    · rw [if_neg hx, q_irr _ _ _ _ _ _ (by rintro ⟨q, rfl⟩; cases q; exact hx rfl), c_lv_at, ← hS2]
      simp [q_fill, c_tk_at]
  · intro x hx
    rw [q_irr _ _ _ _ _ _ (by simp), c_lv_at, h0]
    by_cases hx0 : x = f0
    · subst hx0
      rw [if_pos ⟨rfl, rfl⟩, hz, if_neg (Ne.symm hne), if_pos rfl]
    · rw [if_neg (fun q => hx0 q.2), if_neg (by simp), a3]
      by_cases hxf : x = f
      · simp [hxf]
      · rw [if_neg hxf, if_neg hxf, if_neg (by intro q; cases q; exact hx0 rfl)]
  · rw [q_irr _ _ _ _ _ _ (by simp), c_lv_at, if_neg (by simp), if_neg (fun q => hz0 q.2.2), a1]
    simp
  · rw [q_irr _ _ _ _ _ _ (by simp), c_lv_at, if_neg (by simp), if_neg (by simp), a1]
    simp
  · intro x hx
    rw [q_irr _ _ _ _ _ _ (by simp), c_lv_at, if_neg (by simp), if_neg (by simp), ← hS2, q_fill_out _ _ _ _ _ _ (by omega), c_tk_at]
    simp [hx]
  · intro k hk
    rw [q_irr _ _ _ _ _ _ (by simp), c_lv_at, if_neg (by simp), if_neg (by simp), ← hS2, q_fill_in _ _ _ _ _ _ (by omega) (by omega), show 8 * f + k - 8 * f = k by omega, c_tk_at, if_neg (by rintro ⟨-, q⟩; omega), if_neg (by simp), if_neg (by simp)]
    exact (h.2.1.2.2.2.2.2.1 (8 * p + i) f0 k h0 hk).symm
  · intro j a b c d
    funext x
    rw [q_irr _ _ _ _ _ _ (by rintro ⟨rfl, -⟩; exact d rfl), c_lv_at, if_neg (by rintro ⟨rfl, -⟩; exact c rfl), if_neg (by rintro ⟨rfl, -⟩; exact a rfl), ← hS2, q_fill_ne _ _ _ _ _ _ (by rintro rfl; exact b rfl), c_tk_at, if_neg (by rintro ⟨rfl, -⟩; exact b rfl), if_neg (by rintro ⟨rfl, -⟩; exact a rfl), if_neg (by rintro ⟨rfl, -⟩; exact c rfl)]
end
section
/-! the class's pages (rows laid by wip/whole/m33.py) -/
theorem q_ne_us {S : q_st} {K : k_t} {n : Nat} {pg : Nat → Option Nat} {us lab : Nat → Nat} {L g f f0 : Nat} (h : q_R S K n pg us lab L) (h0 : pg g = some f0) (hf : f < n) (hf0 : S (3, 0) f = 0) : f0 ≠ f := by
  have hpos := q_R_us1 h h0
  obtain ⟨hu, -⟩ := q_R_free h hf hf0
  rintro rfl
  omega
theorem q_up_id (S : q_st) (i : q_ix) (k : Nat) (v : Int32) (h : S i k = v) : q_up S i k v = S := by
  funext j x
  unfold q_up
  split
  next q => rw [q.1, q.2, h]
  next => rfl

theorem q_fe_none {o : Option Nat} (h : q_fe o = -1) (hf : ∀ f, o = some f → f < 2 ^ 31 := by intro f hf; exact Nat.lt_of_lt_of_le (Nat.lt_of_lt_of_le (hR.2.1.1 _ _ hf).1 hR.1.2) (by decide)) : o = none := by
  cases o with
  | none => rfl
  | some f => exact absurd h (q_nm1 (hf f rfl))

set_option maxRecDepth 100000 in
set_option maxHeartbeats 4000000 in
theorem t_own0 {G : q_g} {n : Nat} {ad : q_ix → Nat} (l : Launch) (S : q_st) {p i : Nat} (hp : p < 8) (hi : i < 8) {K : k_t} {pg : Nat → Option Nat} {us lab : Nat → Nat} {L : Nat} (hR : q_R S K n pg us lab L) (hL : L + 1 < 2 ^ 30) (h0 : pg (8 * p + i) = none) : q_Ct l G iX3_ownPage [.inr (some (0, 0)), .inr (some (5, p)), .inl (nI i)] (q_w G n ad) (S) (q_pi (q_w G n ad) (fun r S' => q_pgo true S K n pg L (8 * p + i) r S')) := by
  refine q_enter (by decide) (Nat.le_of_ble_eq_true rfl) (fun X F E => ?_)
  show q_W G X iX3_ownPage (q_w G n ad) (0, 0) 0 [some (.inr (some (0, 0))), some (.inr (some (5, p))), some (.inl (nI i)), none, none] [] (S)
  have hn := hR.1.2
  have h00 := hR.2.2.2.2.2.1
  have hc : ¬ (0 < k_sh K (8 * p + i) ∧ (true = false ∨ k_sh K (8 * p + i) = 1)) := by rw [q_R_sh hR (by omega), h0]; simp
  refine q_aload_n F dX3_ownPage_0 rfl ?_
  refine q_getr F (k := 6) fkX3_112 (q_m5 (by omega)) rfl rfl dX3_ownPage_1 ?_
  refine q_iload_n F dX3_ownPage_4 rfl ?_
  refine q_iald F (_) (q_m7 (by omega)) rfl rfl (by omega) (by omega) dX3_ownPage_5 ?_
  refine q_top (-1) (by rw [hR.2.2.1 p i hp hi, h0]; rfl) ?_
  refine q_istore_n_3 F dX3_ownPage_6 (by decide) ?_
  refine q_iload_n F dX3_ownPage_7 rfl ?_
  refine q_iconst F (-1) dX3_ownPage_8 (by decide) ?_
  refine q_icmp_eq F 27 dX3_ownPage_9 (by decide) (fun h9 => ?_) (fun h9 => ?_)
  · refine q_aload_n F dX3_ownPage_27 rfl ?_
    refine q_getr F (k := 0) fkX3_14 q_m0 rfl rfl dX3_ownPage_28 ?_
    refine q_callVi F [] (fun l => t_take l S hn h00) clX3_184 rfl q_m1 rfl rfl rfl ⟨Nat.le_of_ble_eq_true rfl, Nat.le_of_ble_eq_true rfl⟩ (Nat.le_of_ble_eq_true rfl) ⟨rfl, rfl⟩ ⟨Nat.zero_le _, Nat.zero_le _⟩ dX3_ownPage_31 (fun v S' hv => ?_)
    rcases hv with ⟨f, hf, hf0, -, rfl, rfl⟩ | ⟨hall, rfl, rfl⟩
    · refine q_istore_4 F dX3_ownPage_34 (by decide) ?_
      refine q_iload F dX3_ownPage_36 rfl ?_
      refine q_iconst F (-1) dX3_ownPage_38 (by decide) ?_
      refine q_icmp_ne F 45 dX3_ownPage_39 (by decide) (fun h39 => ?_) (fun h39 => ?_)
      · refine q_iload_n F dX3_ownPage_45 rfl ?_
        refine q_iconst F (-1) dX3_ownPage_46 (by decide) ?_
        refine q_icmp_eq F 68 dX3_ownPage_47 (by decide) (fun h47 => ?_) (fun h47 => ?_)
        · refine q_aload_n F dX3_ownPage_68 rfl ?_
          refine q_getr F (k := 6) fkX3_112 (q_m5 (by omega)) rfl rfl dX3_ownPage_69 ?_
          refine q_iload_n F dX3_ownPage_72 rfl ?_
          refine q_iload F dX3_ownPage_73 rfl ?_
          refine q_iast F (_) (q_m7 (by omega)) rfl rfl (by omega) (by omega) dX3_ownPage_75 ?_
          refine q_iconst F (nI 0) dX3_ownPage_76 (by decide) ?_
          refine q_iret F E rfl (q_fin0 hR hp hi hL h0 hf hf0) dX3_ownPage_77
        · exact absurd rfl h47
      · exact absurd h39 (q_nm1 (by omega))
    · refine q_istore_4 F dX3_ownPage_34 (by decide) ?_
      refine q_iload F dX3_ownPage_36 rfl ?_
      refine q_iconst F (-1) dX3_ownPage_38 (by decide) ?_
      refine q_icmp_ne F 45 dX3_ownPage_39 (by decide) (fun h39 => ?_) (fun h39 => ?_)
      · exact absurd rfl h39
      · refine q_bipush F (-13) dX3_ownPage_42 (by decide) ?_
        refine q_iret F E rfl (q_pgo_fail hR hc hall) dX3_ownPage_44
  · exact absurd rfl h9

set_option maxRecDepth 100000 in
set_option maxHeartbeats 4000000 in
theorem t_own1 {G : q_g} {n : Nat} {ad : q_ix → Nat} (l : Launch) (S : q_st) {p i : Nat} (hp : p < 8) (hi : i < 8) {K : k_t} {pg : Nat → Option Nat} {us lab : Nat → Nat} {L : Nat} (hR : q_R S K n pg us lab L) (hL : L + 1 < 2 ^ 30) {f0 : Nat} (h0 : pg (8 * p + i) = some f0) : q_Ct l G iX3_ownPage [.inr (some (0, 0)), .inr (some (5, p)), .inl (nI i)] (q_w G n ad) (S) (q_pi (q_w G n ad) (fun r S' => q_pgo true S K n pg L (8 * p + i) r S')) := by
  refine q_enter (by decide) (Nat.le_of_ble_eq_true rfl) (fun X F E => ?_)
  show q_W G X iX3_ownPage (q_w G n ad) (0, 0) 0 [some (.inr (some (0, 0))), some (.inr (some (5, p))), some (.inl (nI i)), none, none] [] (S)
  have hn := hR.1.2
  have h00 := hR.2.2.2.2.2.1
  have hff := (hR.2.1.1 _ _ h0).1
  have hus := q_R_us hR hff
  refine q_aload_n F dX3_ownPage_0 rfl ?_
  refine q_getr F (k := 6) fkX3_112 (q_m5 (by omega)) rfl rfl dX3_ownPage_1 ?_
  refine q_iload_n F dX3_ownPage_4 rfl ?_
  refine q_iald F (_) (q_m7 (by omega)) rfl rfl (by omega) (by omega) dX3_ownPage_5 ?_
  refine q_top (nI f0) (by rw [hR.2.2.1 p i hp hi, h0]; rfl) ?_
  refine q_istore_n_3 F dX3_ownPage_6 (by decide) ?_
  refine q_iload_n F dX3_ownPage_7 rfl ?_
  refine q_iconst F (-1) dX3_ownPage_8 (by decide) ?_
  refine q_icmp_eq F 27 dX3_ownPage_9 (by decide) (fun h9 => ?_) (fun h9 => ?_)
  · exact absurd h9 (q_nm1 (by omega))
  · refine q_aload_n F dX3_ownPage_12 rfl ?_
    refine q_getr F (k := 0) fkX3_14 q_m0 rfl rfl dX3_ownPage_13 ?_
    refine q_getr F (k := 2) fkX3_115 q_m1 rfl rfl dX3_ownPage_16 ?_
    refine q_iload_n F dX3_ownPage_19 rfl ?_
    refine q_iald F (_) q_m3 rfl rfl (by omega) (by omega) dX3_ownPage_20 ?_
    refine q_top (nI (us f0)) (hR.2.2.2.1 f0 hff) ?_
    refine q_iconst F (nI 1) dX3_ownPage_21 (by decide) ?_
    refine q_icmpN_ne F 27 dX3_ownPage_22 (by decide) (by omega) (by omega) (fun h22 => ?_) (fun h22 => ?_)
    · have hc : ¬ (0 < k_sh K (8 * p + i) ∧ (true = false ∨ k_sh K (8 * p + i) = 1)) := by rw [q_R_sh hR (by omega), h0]; simp; intro _; exact h22
      refine q_aload_n F dX3_ownPage_27 rfl ?_
      refine q_getr F (k := 0) fkX3_14 q_m0 rfl rfl dX3_ownPage_28 ?_
      refine q_callVi F [] (fun l => t_take l S hn h00) clX3_184 rfl q_m1 rfl rfl rfl ⟨Nat.le_of_ble_eq_true rfl, Nat.le_of_ble_eq_true rfl⟩ (Nat.le_of_ble_eq_true rfl) ⟨rfl, rfl⟩ ⟨Nat.zero_le _, Nat.zero_le _⟩ dX3_ownPage_31 (fun v S' hv => ?_)
      rcases hv with ⟨f, hf, hf0, -, rfl, rfl⟩ | ⟨hall, rfl, rfl⟩
      · refine q_istore_4 F dX3_ownPage_34 (by decide) ?_
        refine q_iload F dX3_ownPage_36 rfl ?_
        refine q_iconst F (-1) dX3_ownPage_38 (by decide) ?_
        refine q_icmp_ne F 45 dX3_ownPage_39 (by decide) (fun h39 => ?_) (fun h39 => ?_)
        · refine q_iload_n F dX3_ownPage_45 rfl ?_
          refine q_iconst F (-1) dX3_ownPage_46 (by decide) ?_
          refine q_icmp_eq F 68 dX3_ownPage_47 (by decide) (fun h47 => ?_) (fun h47 => ?_)
          · exact absurd h47 (q_nm1 (by omega))
          · refine q_aload_n F dX3_ownPage_50 rfl ?_
            refine q_getr F (k := 0) fkX3_14 q_m0 rfl rfl dX3_ownPage_51 ?_
            refine q_iload_n F dX3_ownPage_54 rfl ?_
            refine q_iload F dX3_ownPage_55 rfl ?_
            refine q_callVv F [.inl (nI f0), .inl (nI f)] (fun l => t_copy l (c_tk S f) hff hf (q_ne_us hR h0 hf hf0) hn) clX3_187 rfl q_m1 rfl rfl rfl ⟨Nat.le_of_ble_eq_true rfl, Nat.le_of_ble_eq_true rfl⟩ (Nat.le_of_ble_eq_true rfl) ⟨rfl, rfl⟩ ⟨Nat.zero_le _, Nat.zero_le _⟩ dX3_ownPage_57 (fun S2 hS2 => ?_)
            subst hS2
            refine q_aload_n F dX3_ownPage_60 rfl ?_
            refine q_getr F (k := 0) fkX3_14 q_m0 rfl rfl dX3_ownPage_61 ?_
            refine q_iload_n F dX3_ownPage_64 rfl ?_
            refine q_callVv F [.inl (nI f0)] (fun l => t_leave l _ hff hn) clX3_191 rfl q_m1 rfl rfl rfl ⟨Nat.le_of_ble_eq_true rfl, Nat.le_of_ble_eq_true rfl⟩ (Nat.le_of_ble_eq_true rfl) ⟨rfl, rfl⟩ ⟨Nat.zero_le _, Nat.zero_le _⟩ dX3_ownPage_65 (fun S2 hS2 => ?_)
            subst hS2
            refine q_aload_n F dX3_ownPage_68 rfl ?_
            refine q_getr F (k := 6) fkX3_112 (q_m5 (by omega)) rfl rfl dX3_ownPage_69 ?_
            refine q_iload_n F dX3_ownPage_72 rfl ?_
            refine q_iload F dX3_ownPage_73 rfl ?_
            refine q_iast F (_) (q_m7 (by omega)) rfl rfl (by omega) (by omega) dX3_ownPage_75 ?_
            refine q_iconst F (nI 0) dX3_ownPage_76 (by decide) ?_
            refine q_iret F E rfl (q_fin1 hR hp hi hL h0 h22 hf hf0) dX3_ownPage_77
        · exact absurd h39 (q_nm1 (by omega))
      · refine q_istore_4 F dX3_ownPage_34 (by decide) ?_
        refine q_iload F dX3_ownPage_36 rfl ?_
        refine q_iconst F (-1) dX3_ownPage_38 (by decide) ?_
        refine q_icmp_ne F 45 dX3_ownPage_39 (by decide) (fun h39 => ?_) (fun h39 => ?_)
        · exact absurd rfl h39
        · refine q_bipush F (-13) dX3_ownPage_42 (by decide) ?_
          refine q_iret F E rfl (q_pgo_fail hR hc hall) dX3_ownPage_44
    · refine q_iconst F (nI 0) dX3_ownPage_25 (by decide) ?_
      refine q_iret F E rfl (q_pgo_old hR h0 (fun _ => h22)) dX3_ownPage_26

set_option maxRecDepth 100000 in
set_option maxHeartbeats 4000000 in
theorem t_own {G : q_g} {n : Nat} {ad : q_ix → Nat} (l : Launch) (S : q_st) {p i : Nat} (hp : p < 8) (hi : i < 8) {K : k_t} {pg : Nat → Option Nat} {us lab : Nat → Nat} {L : Nat} (hR : q_R S K n pg us lab L) (hL : L + 1 < 2 ^ 30) : q_Ct l G iX3_ownPage [.inr (some (0, 0)), .inr (some (5, p)), .inl (nI i)] (q_w G n ad) S (q_pi (q_w G n ad) (fun r S' => q_pgo true S K n pg L (8 * p + i) r S')) := by
  cases h0 : pg (8 * p + i) with
  | none => exact t_own0 l S hp hi hR hL h0
  | some f0 => exact t_own1 l S hp hi hR hL h0

set_option maxRecDepth 100000 in
set_option maxHeartbeats 4000000 in
theorem t_touch {G : q_g} {n : Nat} {ad : q_ix → Nat} (l : Launch) (S : q_st) {p : Nat} (hp : p < 8) {a : Int32} (hlim : (S (5, p) 4).toInt ≤ 64) {K : k_t} {pg : Nat → Option Nat} {us lab : Nat → Nat} {L : Nat} (hR : q_R S K n pg us lab L) (hL : L + 1 < 2 ^ 30) : q_Ct l G iX3_touchToRead [.inr (some (0, 0)), .inr (some (5, p)), .inl a] (q_w G n ad) (S) (q_pi (q_w G n ad) (fun r S' => (r = -11 ∧ ¬ (0 ≤ a.toInt ∧ a.toInt < (S (5, p) 4).toInt) ∧ S' = S) ∨ (∃ b, b < 64 ∧ a = nI b ∧ (0 ≤ a.toInt ∧ a.toInt < (S (5, p) 4).toInt) ∧ q_pgo false S K n pg L (8 * p + b / 8) r S'))) := by
  refine q_enter (by decide) (Nat.le_of_ble_eq_true rfl) (fun X F E => ?_)
  show q_W G X iX3_touchToRead (q_w G n ad) (0, 0) 0 [some (.inr (some (0, 0))), some (.inr (some (5, p))), some (.inl a), none] [] (S)
  have hn := hR.1.2
  have h00 := hR.2.2.2.2.2.1
  refine q_aload_n F dX3_touchToRead_0 rfl ?_
  refine q_iload_n F dX3_touchToRead_1 rfl ?_
  refine q_callVi F [.inl a] (fun l => t_holds l S hp) clX3_106 rfl (q_m5 (by omega)) rfl rfl rfl ⟨Nat.le_of_ble_eq_true rfl, Nat.le_of_ble_eq_true rfl⟩ (Nat.le_of_ble_eq_true rfl) ⟨rfl, rfl⟩ ⟨Nat.zero_le _, Nat.zero_le _⟩ dX3_touchToRead_2 (fun v S' hv => ?_)
  obtain ⟨hv, hS⟩ := hv
  have hS := hS.symm
  subst hS
  refine q_if_ne F 11 dX3_touchToRead_5 (by decide) (fun h5 => ?_) (fun h5 => ?_)
  · obtain ⟨h5a, h5b⟩ := q_bl_T hv h5
    obtain ⟨b, hb, rfl⟩ := q_ofx (m := 64) (by decide) h5a (by omega)
    rw [nI_toInt (by omega)] at h5a h5b
    refine q_iload_n F dX3_touchToRead_11 rfl ?_
    refine q_bipush F (nI 8) dX3_touchToRead_12 (by decide) ?_
    refine q_idivN F dX3_touchToRead_14 (by omega) (by omega) (by omega) ?_
    refine q_istore_n_3 F dX3_touchToRead_15 (by decide) ?_
    refine q_aload_n F dX3_touchToRead_16 rfl ?_
    refine q_getr F (k := 6) fkX3_112 (q_m5 (by omega)) rfl rfl dX3_touchToRead_17 ?_
    refine q_iload_n F dX3_touchToRead_20 rfl ?_
    refine q_iald F (_) (q_m7 (by omega)) rfl rfl (by omega) (by omega) dX3_touchToRead_21 ?_
    refine q_iconst F (-1) dX3_touchToRead_22 (by decide) ?_
    refine q_icmp_ne F 39 dX3_touchToRead_23 (by decide) (fun h23 => ?_) (fun h23 => ?_)
    · cases h0 : pg (8 * p + b / 8) with
      | none => exact absurd (by rw [hR.2.2.1 p (b / 8) hp (by omega), h0]; rfl) h23
      | some f0 =>
      refine q_aload_n F dX3_touchToRead_39 rfl ?_
      refine q_getr F (k := 6) fkX3_112 (q_m5 (by omega)) rfl rfl dX3_touchToRead_40 ?_
      refine q_iload_n F dX3_touchToRead_43 rfl ?_
      refine q_iald F (_) (q_m7 (by omega)) rfl rfl (by omega) (by omega) dX3_touchToRead_44 ?_
      refine q_iconst F (-1) dX3_touchToRead_45 (by decide) ?_
      refine q_icmp_ne F 54 dX3_touchToRead_46 (by decide) (fun h46 => ?_) (fun h46 => ?_)
      · refine q_iconst F (nI 0) dX3_touchToRead_54 (by decide) ?_
        refine q_iret F E rfl (Or.inr ⟨b, hb, rfl, ⟨by rw [nI_toInt (by omega)]; exact h5a, by rw [nI_toInt (by omega)]; exact h5b⟩, q_pgo_old hR h0 (fun q => by cases q)⟩) dX3_touchToRead_55
      · exact absurd h46 h23
    · have h0 : pg (8 * p + b / 8) = none := q_fe_none (by rw [← hR.2.2.1 p (b / 8) hp (by omega)]; exact h23)
      have hc : ¬ (0 < k_sh K (8 * p + b / 8) ∧ (false = false ∨ k_sh K (8 * p + b / 8) = 1)) := by rw [q_R_sh hR (by omega), h0]; simp
      refine q_aload_n F dX3_touchToRead_26 rfl ?_
      refine q_getr F (k := 6) fkX3_112 (q_m5 (by omega)) rfl rfl dX3_touchToRead_27 ?_
      refine q_iload_n F dX3_touchToRead_30 rfl ?_
      refine q_aload_n F dX3_touchToRead_31 rfl ?_
      refine q_getr F (k := 0) fkX3_14 q_m0 rfl rfl dX3_touchToRead_32 ?_
      refine q_callVi F [] (fun l => t_take l S hn h00) clX3_184 rfl q_m1 rfl rfl rfl ⟨Nat.le_of_ble_eq_true rfl, Nat.le_of_ble_eq_true rfl⟩ (Nat.le_of_ble_eq_true rfl) ⟨rfl, rfl⟩ ⟨Nat.zero_le _, Nat.zero_le _⟩ dX3_touchToRead_35 (fun v S' hv => ?_)
      rcases hv with ⟨f, hf, hf0, -, rfl, rfl⟩ | ⟨hall, rfl, rfl⟩
      · refine q_iast F (_) (q_m7 (by omega)) rfl rfl (by omega) (by omega) dX3_touchToRead_38 ?_
        refine q_aload_n F dX3_touchToRead_39 rfl ?_
        refine q_getr F (k := 6) fkX3_112 (q_m5 (by omega)) rfl rfl dX3_touchToRead_40 ?_
        refine q_iload_n F dX3_touchToRead_43 rfl ?_
        refine q_iald F (_) (q_m7 (by omega)) rfl rfl (by omega) (by omega) dX3_touchToRead_44 ?_
        refine q_iconst F (-1) dX3_touchToRead_45 (by decide) ?_
        refine q_icmp_ne F 54 dX3_touchToRead_46 (by decide) (fun h46 => ?_) (fun h46 => ?_)
        · refine q_iconst F (nI 0) dX3_touchToRead_54 (by decide) ?_
          refine q_iret F E rfl (Or.inr ⟨b, hb, rfl, ⟨by rw [nI_toInt (by omega)]; exact h5a, by rw [nI_toInt (by omega)]; exact h5b⟩, q_fin0 hR hp (by omega) hL h0 hf hf0⟩) dX3_touchToRead_55
        · rw [q_irs] at h46
          exact absurd h46 (q_nm1 (by omega))
      · refine q_iast F (_) (q_m7 (by omega)) rfl rfl (by omega) (by omega) dX3_touchToRead_38 ?_
        rw [q_up_id _ _ _ _ h23]
        refine q_aload_n F dX3_touchToRead_39 rfl ?_
        refine q_getr F (k := 6) fkX3_112 (q_m5 (by omega)) rfl rfl dX3_touchToRead_40 ?_
        refine q_iload_n F dX3_touchToRead_43 rfl ?_
        refine q_iald F (_) (q_m7 (by omega)) rfl rfl (by omega) (by omega) dX3_touchToRead_44 ?_
        refine q_iconst F (-1) dX3_touchToRead_45 (by decide) ?_
        refine q_icmp_ne F 54 dX3_touchToRead_46 (by decide) (fun h46 => ?_) (fun h46 => ?_)
        · exact absurd h23 h46
        · refine q_bipush F (-13) dX3_touchToRead_49 (by decide) ?_
          refine q_goto F 55 dX3_touchToRead_51 (by decide) ?_
          refine q_iret F E rfl (Or.inr ⟨b, hb, rfl, ⟨by rw [nI_toInt (by omega)]; exact h5a, by rw [nI_toInt (by omega)]; exact h5b⟩, q_pgo_fail hR hc hall⟩) dX3_touchToRead_55
  · have hx := q_bl_F hv h5
    refine q_bipush F (-11) dX3_touchToRead_8 (by decide) ?_
    refine q_iret F E rfl (Or.inl ⟨rfl, hx, rfl⟩) dX3_touchToRead_10
end
section
/-! the reference: leaves (rows laid by wip/whole/m40.py) -/
/-- the number of a process, or none -/
def q_on (x : Int32) : Option Nat := if 0 ≤ x.toInt ∧ x.toInt < 8 then some x.toInt.toNat else none
theorem q_on_some {p : Nat} (h : p < 8) : q_on (nI p) = some p := by
  unfold q_on
  rw [nI_toInt (by omega), if_pos ⟨by omega, by omega⟩, Int.toNat_natCast]
theorem q_on_none {x : Int32} (h : ¬ (0 ≤ x.toInt ∧ x.toInt < 8)) : q_on x = none := by
  unfold q_on
  rw [if_neg h]
/-- the number of a live process, or none -/
def q_lvf (f : Nat → Int32) (x : Int32) : Option Nat := match q_on x with
  | some p => if f p = nI 1 ∨ f p = nI 2 then some p else none
  | none => none

set_option maxRecDepth 100000 in
set_option maxHeartbeats 4000000 in
theorem t_isProcess {G : q_g} {n : Nat} {ad : q_ix → Nat} (l : Launch) (S : q_st) (K : k_t) {x : Int32} : q_Ct l G iX4_isProcess [.inl x] (q_w G n ad) (q_put S K) (q_pi (q_w G n ad) (fun r S' => q_bl r (0 ≤ x.toInt ∧ x.toInt < 8) ∧ S' = q_put S K)) := by
  refine q_enter (by decide) (Nat.le_of_ble_eq_true rfl) (fun X F E => ?_)
  show q_W G X iX4_isProcess (q_w G n ad) (0, 0) 0 [some (.inl x)] [] (q_put S K)
  refine q_iload_n F dX4_isProcess_0 rfl ?_
  refine q_if_lt F 14 dX4_isProcess_1 (by decide) (fun h1 => ?_) (fun h1 => ?_)
  · refine q_iconst F (nI 0) dX4_isProcess_14 (by decide) ?_
    refine q_zret F E rfl (by decide) ⟨by first | exact q_bl_1 ⟨by omega, by omega⟩ | exact q_bl_0 (by omega), rfl⟩ dX4_isProcess_15
  · refine q_iload_n F dX4_isProcess_4 rfl ?_
    refine q_bipush F (nI 8) dX4_isProcess_5 (by decide) ?_
    refine q_icmp_ge F 14 dX4_isProcess_7 (by decide) (fun h7 => ?_) (fun h7 => ?_)
    · rw [nI_toInt (by omega)] at h7
      refine q_iconst F (nI 0) dX4_isProcess_14 (by decide) ?_
      refine q_zret F E rfl (by decide) ⟨by first | exact q_bl_1 ⟨by omega, by omega⟩ | exact q_bl_0 (by omega), rfl⟩ dX4_isProcess_15
    · rw [nI_toInt (by omega)] at h7
      refine q_iconst F (nI 1) dX4_isProcess_10 (by decide) ?_
      refine q_goto F 15 dX4_isProcess_11 (by decide) ?_
      refine q_zret F E rfl (by decide) ⟨by first | exact q_bl_1 ⟨by omega, by omega⟩ | exact q_bl_0 (by omega), rfl⟩ dX4_isProcess_15

set_option maxRecDepth 100000 in
set_option maxHeartbeats 4000000 in
theorem t_lives {G : q_g} {n : Nat} {ad : q_ix → Nat} (l : Launch) (S : q_st) (K : k_t) {x : Int32} : q_Ct l G iX4_lives [.inr (some (20, 0)), .inl x] (q_w G n ad) (q_put S K) (q_pi (q_w G n ad) (fun r S' => ((∃ p, p < 8 ∧ x = nI p ∧ q_lvf (K 2) x = some p ∧ r = nI 1) ∨ (q_lvf (K 2) x = none ∧ r = nI 0)) ∧ S' = q_put S K)) := by
  refine q_enter (by decide) (Nat.le_of_ble_eq_true rfl) (fun X F E => ?_)
  show q_W G X iX4_lives (q_w G n ad) (0, 0) 0 [some (.inr (some (20, 0))), some (.inl x)] [] (q_put S K)
  refine q_iload_n F dX4_lives_0 rfl ?_
  refine q_callSi F [.inl x] (fun l => t_isProcess l S K) clX4_68 rfl rfl ⟨Nat.le_of_ble_eq_true rfl, Nat.le_of_ble_eq_true rfl⟩ (Nat.le_of_ble_eq_true rfl) ⟨rfl, rfl⟩ ⟨Nat.zero_le _, Nat.zero_le _⟩ dX4_lives_1 (fun v S' hv => ?_)
  obtain ⟨hv, hS⟩ := hv
  subst hS
  refine q_if_eq F 31 dX4_lives_4 (by decide) (fun h4 => ?_) (fun h4 => ?_)
  · have hx := q_on_none (q_bl_F hv h4)
    refine q_iconst F (nI 0) dX4_lives_31 (by decide) ?_
    refine q_zret F E rfl (by decide) ⟨by first | (refine Or.inr ⟨?_, rfl⟩; simp [q_lvf, hx]; done) | (refine Or.inl ⟨p, hp, rfl, ?_, rfl⟩; simp [q_lvf, hx, h14]; done) | (refine Or.inl ⟨p, hp, rfl, ?_, rfl⟩; simp [q_lvf, hx, h24]; done) | (refine Or.inr ⟨?_, rfl⟩; simp [q_lvf, hx, h14, h24]; done), rfl⟩ dX4_lives_32
  · obtain ⟨p, hp, rfl⟩ := q_ofx (m := 8) (by decide) (q_bl_T hv h4).1 (q_bl_T hv h4).2
    have hx := q_on_some hp
    refine q_aload_n F dX4_lives_7 rfl ?_
    refine q_getr F (k := 3) fkX4_13 q_m20 rfl rfl dX4_lives_8 ?_
    refine q_iload_n F dX4_lives_11 rfl ?_
    refine q_kald F 2 (_) q_m22 rfl rfl rfl (by omega) (by decide) dX4_lives_12 ?_
    refine q_iconst F (nI 1) dX4_lives_13 (by decide) ?_
    refine q_icmp_eq F 27 dX4_lives_14 (by decide) (fun h14 => ?_) (fun h14 => ?_)
    · refine q_iconst F (nI 1) dX4_lives_27 (by decide) ?_
      refine q_goto F 32 dX4_lives_28 (by decide) ?_
      refine q_zret F E rfl (by decide) ⟨by first | (refine Or.inr ⟨?_, rfl⟩; simp [q_lvf, hx]; done) | (refine Or.inl ⟨p, hp, rfl, ?_, rfl⟩; simp [q_lvf, hx, h14]; done) | (refine Or.inl ⟨p, hp, rfl, ?_, rfl⟩; simp [q_lvf, hx, h24]; done) | (refine Or.inr ⟨?_, rfl⟩; simp [q_lvf, hx, h14, h24]; done), rfl⟩ dX4_lives_32
    · refine q_aload_n F dX4_lives_17 rfl ?_
      refine q_getr F (k := 3) fkX4_13 q_m20 rfl rfl dX4_lives_18 ?_
      refine q_iload_n F dX4_lives_21 rfl ?_
      refine q_kald F 2 (_) q_m22 rfl rfl rfl (by omega) (by decide) dX4_lives_22 ?_
      refine q_iconst F (nI 2) dX4_lives_23 (by decide) ?_
      refine q_icmp_ne F 31 dX4_lives_24 (by decide) (fun h24 => ?_) (fun h24 => ?_)
      · refine q_iconst F (nI 0) dX4_lives_31 (by decide) ?_
        refine q_zret F E rfl (by decide) ⟨by first | (refine Or.inr ⟨?_, rfl⟩; simp [q_lvf, hx]; done) | (refine Or.inl ⟨p, hp, rfl, ?_, rfl⟩; simp [q_lvf, hx, h14]; done) | (refine Or.inl ⟨p, hp, rfl, ?_, rfl⟩; simp [q_lvf, hx, h24]; done) | (refine Or.inr ⟨?_, rfl⟩; simp [q_lvf, hx, h14, h24]; done), rfl⟩ dX4_lives_32
      · refine q_iconst F (nI 1) dX4_lives_27 (by decide) ?_
        refine q_goto F 32 dX4_lives_28 (by decide) ?_
        refine q_zret F E rfl (by decide) ⟨by first | (refine Or.inr ⟨?_, rfl⟩; simp [q_lvf, hx]; done) | (refine Or.inl ⟨p, hp, rfl, ?_, rfl⟩; simp [q_lvf, hx, h14]; done) | (refine Or.inl ⟨p, hp, rfl, ?_, rfl⟩; simp [q_lvf, hx, h24]; done) | (refine Or.inr ⟨?_, rfl⟩; simp [q_lvf, hx, h14, h24]; done), rfl⟩ dX4_lives_32

set_option maxRecDepth 100000 in
set_option maxHeartbeats 4000000 in
theorem t_mprinted {G : q_g} {n : Nat} {ad : q_ix → Nat} (l : Launch) (S : q_st) (K : k_t)  : q_Ct l G iX4_printed [.inr (some (20, 0))] (q_w G n ad) (q_put S K) (q_pi (q_w G n ad) (fun r S' => r = K 0 15 ∧ S' = q_put S K)) := by
  refine q_enter (by decide) (Nat.le_of_ble_eq_true rfl) (fun X F E => ?_)
  show q_W G X iX4_printed (q_w G n ad) (0, 0) 0 [some (.inr (some (20, 0)))] [] (q_put S K)
  refine q_aload_n F dX4_printed_0 rfl ?_
  refine q_kgeti F (k := 15) fkX4_95 rfl dX4_printed_1 ?_
  refine q_iret F E rfl ⟨rfl, rfl⟩ dX4_printed_4

set_option maxRecDepth 100000 in
set_option maxHeartbeats 4000000 in
theorem t_mstate {G : q_g} {n : Nat} {ad : q_ix → Nat} (l : Launch) (S : q_st) (K : k_t) {x : Int32} : q_Ct l G iX4_state [.inr (some (20, 0)), .inl x] (q_w G n ad) (q_put S K) (q_pi (q_w G n ad) (fun r S' => r = (match q_on x with | some p => K 2 p | none => -1) ∧ S' = q_put S K)) := by
  refine q_enter (by decide) (Nat.le_of_ble_eq_true rfl) (fun X F E => ?_)
  show q_W G X iX4_state (q_w G n ad) (0, 0) 0 [some (.inr (some (20, 0))), some (.inl x)] [] (q_put S K)
  refine q_iload_n F dX4_state_0 rfl ?_
  refine q_callSi F [.inl x] (fun l => t_isProcess l S K) clX4_68 rfl rfl ⟨Nat.le_of_ble_eq_true rfl, Nat.le_of_ble_eq_true rfl⟩ (Nat.le_of_ble_eq_true rfl) ⟨rfl, rfl⟩ ⟨Nat.zero_le _, Nat.zero_le _⟩ dX4_state_1 (fun v S' hv => ?_)
  obtain ⟨hv, hS⟩ := hv
  subst hS
  refine q_if_eq F 16 dX4_state_4 (by decide) (fun h4 => ?_) (fun h4 => ?_)
  · have hx := q_on_none (q_bl_F hv h4)
    refine q_iconst F (-1) dX4_state_16 (by decide) ?_
    refine q_iret F E rfl ⟨by rw [hx], rfl⟩ dX4_state_17
  · obtain ⟨p, hp, rfl⟩ := q_ofx (m := 8) (by decide) (q_bl_T hv h4).1 (q_bl_T hv h4).2
    have hx := q_on_some hp
    refine q_aload_n F dX4_state_7 rfl ?_
    refine q_getr F (k := 3) fkX4_13 q_m20 rfl rfl dX4_state_8 ?_
    refine q_iload_n F dX4_state_11 rfl ?_
    refine q_kald F 2 (_) q_m22 rfl rfl rfl (by omega) (by decide) dX4_state_12 ?_
    refine q_goto F 17 dX4_state_13 (by decide) ?_
    refine q_iret F E rfl ⟨by rw [hx], rfl⟩ dX4_state_17

set_option maxRecDepth 100000 in
set_option maxHeartbeats 4000000 in
theorem t_mparent {G : q_g} {n : Nat} {ad : q_ix → Nat} (l : Launch) (S : q_st) (K : k_t) {x : Int32} : q_Ct l G iX4_parent [.inr (some (20, 0)), .inl x] (q_w G n ad) (q_put S K) (q_pi (q_w G n ad) (fun r S' => r = (match q_on x with | some p => if K 2 p = 0 then -1 else K 3 p | none => -1) ∧ S' = q_put S K)) := by
  refine q_enter (by decide) (Nat.le_of_ble_eq_true rfl) (fun X F E => ?_)
  show q_W G X iX4_parent (q_w G n ad) (0, 0) 0 [some (.inr (some (20, 0))), some (.inl x)] [] (q_put S K)
  refine q_iload_n F dX4_parent_0 rfl ?_
  refine q_callSi F [.inl x] (fun l => t_isProcess l S K) clX4_68 rfl rfl ⟨Nat.le_of_ble_eq_true rfl, Nat.le_of_ble_eq_true rfl⟩ (Nat.le_of_ble_eq_true rfl) ⟨rfl, rfl⟩ ⟨Nat.zero_le _, Nat.zero_le _⟩ dX4_parent_1 (fun v S' hv => ?_)
  obtain ⟨hv, hS⟩ := hv
  subst hS
  refine q_if_eq F 25 dX4_parent_4 (by decide) (fun h4 => ?_) (fun h4 => ?_)
  · have hx := q_on_none (q_bl_F hv h4)
    refine q_iconst F (-1) dX4_parent_25 (by decide) ?_
    refine q_iret F E rfl ⟨by first | (rw [hx]; done) | (rw [hx]; simp only [h13, if_true, if_false]; done), rfl⟩ dX4_parent_26
  · obtain ⟨p, hp, rfl⟩ := q_ofx (m := 8) (by decide) (q_bl_T hv h4).1 (q_bl_T hv h4).2
    have hx := q_on_some hp
    refine q_aload_n F dX4_parent_7 rfl ?_
    refine q_getr F (k := 3) fkX4_13 q_m20 rfl rfl dX4_parent_8 ?_
    refine q_iload_n F dX4_parent_11 rfl ?_
    refine q_kald F 2 (_) q_m22 rfl rfl rfl (by omega) (by decide) dX4_parent_12 ?_
    refine q_if_eq F 25 dX4_parent_13 (by decide) (fun h13 => ?_) (fun h13 => ?_)
    · refine q_iconst F (-1) dX4_parent_25 (by decide) ?_
      refine q_iret F E rfl ⟨by first | (rw [hx]; done) | (rw [hx]; simp only [h13, if_true, if_false]; done), rfl⟩ dX4_parent_26
    · refine q_aload_n F dX4_parent_16 rfl ?_
      refine q_getr F (k := 4) fkX4_16 q_m20 rfl rfl dX4_parent_17 ?_
      refine q_iload_n F dX4_parent_20 rfl ?_
      refine q_kald F 3 (_) q_m23 rfl rfl rfl (by omega) (by decide) dX4_parent_21 ?_
      refine q_goto F 26 dX4_parent_22 (by decide) ?_
      refine q_iret F E rfl ⟨by first | (rw [hx]; done) | (rw [hx]; simp only [h13, if_true, if_false]; done), rfl⟩ dX4_parent_26

set_option maxRecDepth 100000 in
set_option maxHeartbeats 4000000 in
theorem t_mcode {G : q_g} {n : Nat} {ad : q_ix → Nat} (l : Launch) (S : q_st) (K : k_t) {x : Int32} : q_Ct l G iX4_code [.inr (some (20, 0)), .inl x] (q_w G n ad) (q_put S K) (q_pi (q_w G n ad) (fun r S' => r = (match q_on x with | some p => if K 2 p = nI 3 then K 4 p else 0 | none => 0) ∧ S' = q_put S K)) := by
  refine q_enter (by decide) (Nat.le_of_ble_eq_true rfl) (fun X F E => ?_)
  show q_W G X iX4_code (q_w G n ad) (0, 0) 0 [some (.inr (some (20, 0))), some (.inl x)] [] (q_put S K)
  refine q_iload_n F dX4_code_0 rfl ?_
  refine q_callSi F [.inl x] (fun l => t_isProcess l S K) clX4_68 rfl rfl ⟨Nat.le_of_ble_eq_true rfl, Nat.le_of_ble_eq_true rfl⟩ (Nat.le_of_ble_eq_true rfl) ⟨rfl, rfl⟩ ⟨Nat.zero_le _, Nat.zero_le _⟩ dX4_code_1 (fun v S' hv => ?_)
  obtain ⟨hv, hS⟩ := hv
  subst hS
  refine q_if_eq F 26 dX4_code_4 (by decide) (fun h4 => ?_) (fun h4 => ?_)
  · have hx := q_on_none (q_bl_F hv h4)
    refine q_iconst F (nI 0) dX4_code_26 (by decide) ?_
    refine q_iret F E rfl ⟨by first | (rw [hx]; rfl) | (rw [hx]; simp only [h14, if_true, if_false]; done) | (rw [hx]; simp only [h14, if_false]; rfl), rfl⟩ dX4_code_27
  · obtain ⟨p, hp, rfl⟩ := q_ofx (m := 8) (by decide) (q_bl_T hv h4).1 (q_bl_T hv h4).2
    have hx := q_on_some hp
    refine q_aload_n F dX4_code_7 rfl ?_
    refine q_getr F (k := 3) fkX4_13 q_m20 rfl rfl dX4_code_8 ?_
    refine q_iload_n F dX4_code_11 rfl ?_
    refine q_kald F 2 (_) q_m22 rfl rfl rfl (by omega) (by decide) dX4_code_12 ?_
    refine q_iconst F (nI 3) dX4_code_13 (by decide) ?_
    refine q_icmp_ne F 26 dX4_code_14 (by decide) (fun h14 => ?_) (fun h14 => ?_)
    · refine q_iconst F (nI 0) dX4_code_26 (by decide) ?_
      refine q_iret F E rfl ⟨by first | (rw [hx]; rfl) | (rw [hx]; simp only [h14, if_true, if_false]; done) | (rw [hx]; simp only [h14, if_false]; rfl), rfl⟩ dX4_code_27
    · refine q_aload_n F dX4_code_17 rfl ?_
      refine q_getr F (k := 5) fkX4_19 q_m20 rfl rfl dX4_code_18 ?_
      refine q_iload_n F dX4_code_21 rfl ?_
      refine q_kald F 4 (_) q_m24 rfl rfl rfl (by omega) (by decide) dX4_code_22 ?_
      refine q_goto F 27 dX4_code_23 (by decide) ?_
      refine q_iret F E rfl ⟨by first | (rw [hx]; rfl) | (rw [hx]; simp only [h14, if_true, if_false]; done) | (rw [hx]; simp only [h14, if_false]; rfl), rfl⟩ dX4_code_27

set_option maxRecDepth 100000 in
set_option maxHeartbeats 4000000 in
theorem t_mstage {G : q_g} {n : Nat} {ad : q_ix → Nat} (l : Launch) (S : q_st) (K : k_t) {x w : Int32} : q_Ct l G iX4_stage [.inr (some (20, 0)), .inl x, .inl w] (q_w G n ad) (q_put S K) (q_pi (q_w G n ad) (fun r S' => (r = nI 0 ∧ ¬ (0 ≤ x.toInt ∧ x.toInt < 64) ∧ S' = q_put S K) ∨ (∃ i, i < 64 ∧ x = nI i ∧ r = nI 1 ∧ S' = q_put S (k_u K 1 i w)))) := by
  refine q_enter (by decide) (Nat.le_of_ble_eq_true rfl) (fun X F E => ?_)
  show q_W G X iX4_stage (q_w G n ad) (0, 0) 0 [some (.inr (some (20, 0))), some (.inl x), some (.inl w)] [] (q_put S K)
  refine q_iload_n F dX4_stage_0 rfl ?_
  refine q_if_lt F 10 dX4_stage_1 (by decide) (fun h1 => ?_) (fun h1 => ?_)
  · refine q_iconst F (nI 0) dX4_stage_10 (by decide) ?_
    refine q_zret F E rfl (by decide) (Or.inl ⟨rfl, by omega, rfl⟩) dX4_stage_11
  · refine q_iload_n F dX4_stage_4 rfl ?_
    refine q_bipush F (nI 63) dX4_stage_5 (by decide) ?_
    refine q_icmp_le F 12 dX4_stage_7 (by decide) (fun h7 => ?_) (fun h7 => ?_)
    · rw [nI_toInt (by omega)] at h7
      obtain ⟨i, hi, rfl⟩ := q_ofx (x := x) (m := 64) (by decide) h1 (by omega)
      refine q_aload_n F dX4_stage_12 rfl ?_
      refine q_getr F (k := 2) fkX4_7 q_m20 rfl rfl dX4_stage_13 ?_
      refine q_iload_n F dX4_stage_16 rfl ?_
      refine q_iload_n F dX4_stage_17 rfl ?_
      refine q_kast F 1 (_) q_m21 rfl rfl rfl (by omega) (by decide) dX4_stage_18 ?_
      refine q_iconst F (nI 1) dX4_stage_19 (by decide) ?_
      refine q_zret F E rfl (by decide) (Or.inr ⟨i, hi, rfl, rfl, rfl⟩) dX4_stage_20
    · rw [nI_toInt (by omega)] at h7
      refine q_iconst F (nI 0) dX4_stage_10 (by decide) ?_
      refine q_zret F E rfl (by decide) (Or.inl ⟨rfl, by omega, rfl⟩) dX4_stage_11

set_option maxRecDepth 100000 in
set_option maxHeartbeats 4000000 in
theorem t_mrunning {G : q_g} {n : Nat} {ad : q_ix → Nat} (l : Launch) (S : q_st) (K : k_t) (hc : K 0 12 = -1 ∨ ∃ c, c < 8 ∧ K 0 12 = nI c) : q_Ct l G iX4_running [.inr (some (20, 0))] (q_w G n ad) (q_put S K) (q_pi (q_w G n ad) (fun r S' => ((k_on K ∧ r = K 0 12) ∨ (¬ k_on K ∧ r = -1)) ∧ S' = q_put S K)) := by
  refine q_enter (by decide) (Nat.le_of_ble_eq_true rfl) (fun X F E => ?_)
  show q_W G X iX4_running (q_w G n ad) (0, 0) 0 [some (.inr (some (20, 0)))] [] (q_put S K)
  refine q_aload_n F dX4_running_0 rfl ?_
  refine q_kgeti F (k := 12) fkX4_37 rfl dX4_running_1 ?_
  refine q_iconst F (-1) dX4_running_4 (by decide) ?_
  refine q_icmp_eq F 39 dX4_running_5 (by decide) (fun h5 => ?_) (fun h5 => ?_)
  · refine q_iconst F (-1) dX4_running_39 (by decide) ?_
    refine q_iret F E rfl ⟨by first | exact Or.inl ⟨⟨h5, by rw [hcn]; exact h18, h29⟩, rfl⟩ | exact Or.inr ⟨fun q => q.1 h5, rfl⟩ | exact Or.inr ⟨fun q => h18 (by have := q.2.1; rw [hcn] at this; exact this), rfl⟩ | exact Or.inr ⟨fun q => by have := q.2.2; omega, rfl⟩, rfl⟩ dX4_running_40
  · obtain ⟨c, hc8, hc⟩ : ∃ c, c < 8 ∧ K 0 12 = nI c := hc.resolve_left h5
    have hcn : (K 0 12).toInt.toNat = c := by rw [hc, nI_toInt (by omega)]; rfl
    refine q_aload_n F dX4_running_8 rfl ?_
    refine q_getr F (k := 3) fkX4_13 q_m20 rfl rfl dX4_running_9 ?_
    refine q_aload_n F dX4_running_12 rfl ?_
    refine q_kgeti F (k := 12) fkX4_37 rfl dX4_running_13 ?_
    refine q_top (nI c) hc ?_
    refine q_kald F 2 (_) q_m22 rfl rfl rfl (by omega) (by decide) dX4_running_16 ?_
    refine q_iconst F (nI 1) dX4_running_17 (by decide) ?_
    refine q_icmp_ne F 39 dX4_running_18 (by decide) (fun h18 => ?_) (fun h18 => ?_)
    · refine q_iconst F (-1) dX4_running_39 (by decide) ?_
      refine q_iret F E rfl ⟨by first | exact Or.inl ⟨⟨h5, by rw [hcn]; exact h18, h29⟩, rfl⟩ | exact Or.inr ⟨fun q => q.1 h5, rfl⟩ | exact Or.inr ⟨fun q => h18 (by have := q.2.1; rw [hcn] at this; exact this), rfl⟩ | exact Or.inr ⟨fun q => by have := q.2.2; omega, rfl⟩, rfl⟩ dX4_running_40
    · refine q_aload_n F dX4_running_21 rfl ?_
      refine q_kgeti F (k := 13) fkX4_88 rfl dX4_running_22 ?_
      refine q_aload_n F dX4_running_25 rfl ?_
      refine q_kgeti F (k := 1) fkX4_47 rfl dX4_running_26 ?_
      refine q_icmp_ge F 39 dX4_running_29 (by decide) (fun h29 => ?_) (fun h29 => ?_)
      · refine q_iconst F (-1) dX4_running_39 (by decide) ?_
        refine q_iret F E rfl ⟨by first | exact Or.inl ⟨⟨h5, by rw [hcn]; exact h18, h29⟩, rfl⟩ | exact Or.inr ⟨fun q => q.1 h5, rfl⟩ | exact Or.inr ⟨fun q => h18 (by have := q.2.1; rw [hcn] at this; exact this), rfl⟩ | exact Or.inr ⟨fun q => by have := q.2.2; omega, rfl⟩, rfl⟩ dX4_running_40
      · refine q_aload_n F dX4_running_32 rfl ?_
        refine q_kgeti F (k := 12) fkX4_37 rfl dX4_running_33 ?_
        refine q_goto F 40 dX4_running_36 (by decide) ?_
        refine q_iret F E rfl ⟨by first | exact Or.inl ⟨⟨h5, by rw [hcn]; exact h18, h29⟩, rfl⟩ | exact Or.inr ⟨fun q => q.1 h5, rfl⟩ | exact Or.inr ⟨fun q => h18 (by have := q.2.1; rw [hcn] at this; exact this), rfl⟩ | exact Or.inr ⟨fun q => by have := q.2.2; omega, rfl⟩, rfl⟩ dX4_running_40

set_option maxRecDepth 100000 in
set_option maxHeartbeats 4000000 in
theorem t_mprint {G : q_g} {n : Nat} {ad : q_ix → Nat} (l : Launch) (S : q_st) (K : k_t) {c : Nat} {k : Int32} (hc : K 0 15 = nI c) (hc2 : c < 2 ^ 30) : q_Ct l G iX4_print [.inr (some (20, 0)), .inl k] (q_w G n ad) (q_put S K) (q_pi (q_w G n ad) (fun r S' => (r = if 0 ≤ k.toInt ∧ k.toInt < 32 ∧ k.toInt < c then K 10 ((c - 1 - k.toInt.toNat) % 32) else 0) ∧ S' = q_put S K)) := by
  refine q_enter (by decide) (Nat.le_of_ble_eq_true rfl) (fun X F E => ?_)
  show q_W G X iX4_print (q_w G n ad) (0, 0) 0 [some (.inr (some (20, 0))), some (.inl k)] [] (q_put S K)
  refine q_iload_n F dX4_print_0 rfl ?_
  refine q_if_lt F 37 dX4_print_1 (by decide) (fun h1 => ?_) (fun h1 => ?_)
  · refine q_iconst F (nI 0) dX4_print_37 (by decide) ?_
    refine q_iret F E rfl ⟨by first | (rw [nI_toInt (by omega), if_pos ⟨by omega, by omega, by omega⟩, Int.toNat_natCast]; done) | (rw [if_neg (by omega)]; rfl), rfl⟩ dX4_print_38
  · refine q_iload_n F dX4_print_4 rfl ?_
    refine q_bipush F (nI 32) dX4_print_5 (by decide) ?_
    refine q_icmp_ge F 37 dX4_print_7 (by decide) (fun h7 => ?_) (fun h7 => ?_)
    · rw [nI_toInt (by omega)] at h7
      refine q_iconst F (nI 0) dX4_print_37 (by decide) ?_
      refine q_iret F E rfl ⟨by first | (rw [nI_toInt (by omega), if_pos ⟨by omega, by omega, by omega⟩, Int.toNat_natCast]; done) | (rw [if_neg (by omega)]; rfl), rfl⟩ dX4_print_38
    · rw [nI_toInt (by omega)] at h7
      refine q_iload_n F dX4_print_10 rfl ?_
      refine q_aload_n F dX4_print_11 rfl ?_
      refine q_kgeti F (k := 15) fkX4_95 rfl dX4_print_12 ?_
      refine q_top (nI c) hc ?_
      refine q_icmp_ge F 37 dX4_print_15 (by decide) (fun h15 => ?_) (fun h15 => ?_)
      · rw [nI_toInt (by omega)] at h15
        refine q_iconst F (nI 0) dX4_print_37 (by decide) ?_
        refine q_iret F E rfl ⟨by first | (rw [nI_toInt (by omega), if_pos ⟨by omega, by omega, by omega⟩, Int.toNat_natCast]; done) | (rw [if_neg (by omega)]; rfl), rfl⟩ dX4_print_38
      · rw [nI_toInt (by omega)] at h15
        obtain ⟨j, hj, rfl⟩ := q_ofx (x := k) (m := 32) (by decide) h1 (by omega)
        rw [nI_toInt (by omega)] at h1 h7 h15
        have hjc : j < c := by omega
        refine q_aload_n F dX4_print_18 rfl ?_
        refine q_getr F (k := 16) fkX4_41 q_m20 rfl rfl dX4_print_19 ?_
        refine q_aload_n F dX4_print_22 rfl ?_
        refine q_kgeti F (k := 15) fkX4_95 rfl dX4_print_23 ?_
        refine q_top (nI c) hc ?_
        refine q_iconst F (nI 1) dX4_print_26 (by decide) ?_
        refine q_isubN F dX4_print_27 (by omega) ?_
        refine q_iload_n F dX4_print_28 rfl ?_
        refine q_isubN F dX4_print_29 (by omega) ?_
        refine q_bipush F (nI 32) dX4_print_30 (by decide) ?_
        refine q_iremN F dX4_print_32 (by omega) (by omega) (by omega) ?_
        refine q_kald F 10 (_) q_m30 rfl rfl rfl (by omega) (by decide) dX4_print_33 ?_
        refine q_goto F 38 dX4_print_34 (by decide) ?_
        refine q_iret F E rfl ⟨by first | (rw [nI_toInt (by omega), if_pos ⟨by omega, by omega, by omega⟩, Int.toNat_natCast]; done) | (rw [if_neg (by omega)]; rfl), rfl⟩ dX4_print_38

set_option maxRecDepth 100000 in
set_option maxHeartbeats 4000000 in
theorem t_mfree {G : q_g} {n : Nat} {ad : q_ix → Nat} (l : Launch) (S : q_st) (K : k_t) {p : Nat} (hp : p < 8) : q_Ct l G iX4_free [.inr (some (20, 0)), .inl (nI p)] (q_w G n ad) (q_put S K) (q_pv (q_w G n ad) (fun S' => S' = q_put S (k_free K p))) := by
  refine q_enter (by decide) (Nat.le_of_ble_eq_true rfl) (fun X F E => ?_)
  show q_W G X iX4_free (q_w G n ad) (0, 0) 0 [some (.inr (some (20, 0))), some (.inl (nI p))] [] (q_put S K)
  refine q_aload_n F dX4_free_0 rfl ?_
  refine q_getr F (k := 3) fkX4_13 q_m20 rfl rfl dX4_free_1 ?_
  refine q_iload_n F dX4_free_4 rfl ?_
  refine q_iconst F (nI 0) dX4_free_5 (by decide) ?_
  refine q_kast F 2 (_) q_m22 rfl rfl rfl (by omega) (by decide) dX4_free_6 ?_
  refine q_aload_n F dX4_free_7 rfl ?_
  refine q_getr F (k := 4) fkX4_16 q_m20 rfl rfl dX4_free_8 ?_
  refine q_iload_n F dX4_free_11 rfl ?_
  refine q_iconst F (-1) dX4_free_12 (by decide) ?_
  refine q_kast F 3 (_) q_m23 rfl rfl rfl (by omega) (by decide) dX4_free_13 ?_
  refine q_vret F E rfl rfl dX4_free_14

theorem k_rl_fill (K : k_t) (g : Nat) : k_fill (k_u K 9 g (nI 0)) 8 (8 * g) 8 (fun _ => 0) = k_rl K g := by
  funext a j
  unfold k_fill k_u k_rl
  by_cases h8 : a = 8
  · subst h8
    by_cases hj : j / 8 = g
    · rw [if_pos ⟨rfl, by omega, by omega⟩, if_neg (by simp), if_pos ⟨rfl, hj⟩]
    · rw [if_neg (by rintro ⟨-, a, b⟩; omega), if_neg (by simp), if_neg (by simp), if_neg (fun q => hj q.2)]
  · rw [if_neg (fun q => h8 q.1)]
    by_cases h9 : a = 9 ∧ j = g
    · rw [if_pos h9, if_pos h9]
      rfl
    · rw [if_neg h9, if_neg h9, if_neg (fun q => h8 q.1)]

set_option maxRecDepth 100000 in
set_option maxHeartbeats 4000000 in
theorem lp_release {G : q_g} {n : Nat} {ad : q_ix → Nat} {X : q_cx} (F : q_fx G X iX4_release) {S : q_st} {K : k_t} {g : Nat} (hg : g < 64) (E : q_en G X iX4_release (q_pv (q_w G n ad) (fun S' => S' = q_put S (k_rl K g)))) : ∀ k, k ≤ 8 → q_W G X iX4_release (q_w G n ad) (0, 0) 9 [some (.inr (some (20, 0))), some (.inl (nI g)), some (.inl (nI k))] [] (q_put S (k_fill (k_u K 9 g (nI 0)) 8 (8 * g) k (fun _ => 0))) := by
  refine q_loop (fun k hk ih => ?_)
  refine q_iload_n F dX4_release_9 rfl ?_
  refine q_bipush F (nI 8) dX4_release_10 (by decide) ?_
  refine q_icmpN_ge F 33 dX4_release_12 (by decide) (by omega) (by omega) (fun h12 => ?_) (fun h12 => ?_)
  · obtain rfl : k = 8 := by omega
    refine q_vret F E rfl (by rw [k_rl_fill]) dX4_release_33
  · refine q_aload_n F dX4_release_15 rfl ?_
    refine q_getr F (k := 9) fkX4_31 q_m20 rfl rfl dX4_release_16 ?_
    refine q_bipush F (nI 8) dX4_release_19 (by decide) ?_
    refine q_iload_n F dX4_release_21 rfl ?_
    refine q_imulN F dX4_release_22 ?_
    refine q_iload_n F dX4_release_23 rfl ?_
    refine q_iaddN F dX4_release_24 ?_
    refine q_iconst F (nI 0) dX4_release_25 (by decide) ?_
    refine q_kast F 8 (_) q_m28 rfl rfl rfl (by omega) (by decide) dX4_release_26 ?_
    rw [k_fill_s _ _ _ _ (fun _ => 0) (nI 0) rfl]
    refine q_iinc_2 F _ dX4_release_27 (q_inc1 _) (by decide) ?_
    exact q_goto F 9 dX4_release_30 (by decide) (ih h12)

set_option maxRecDepth 100000 in
set_option maxHeartbeats 4000000 in
theorem t_release {G : q_g} {n : Nat} {ad : q_ix → Nat} (l : Launch) (S : q_st) (K : k_t) {g : Nat} (hg : g < 64) : q_Ct l G iX4_release [.inr (some (20, 0)), .inl (nI g)] (q_w G n ad) (q_put S K) (q_pv (q_w G n ad) (fun S' => S' = q_put S (k_rl K g))) := by
  refine q_enter (by decide) (Nat.le_of_ble_eq_true rfl) (fun X F E => ?_)
  show q_W G X iX4_release (q_w G n ad) (0, 0) 0 [some (.inr (some (20, 0))), some (.inl (nI g)), none] [] (q_put S K)
  refine q_aload_n F dX4_release_0 rfl ?_
  refine q_getr F (k := 10) fkX4_34 q_m20 rfl rfl dX4_release_1 ?_
  refine q_iload_n F dX4_release_4 rfl ?_
  refine q_iconst F (nI 0) dX4_release_5 (by decide) ?_
  refine q_kast F 9 (_) q_m29 rfl rfl rfl (by omega) (by decide) dX4_release_6 ?_
  refine q_iconst F (nI 0) dX4_release_7 (by decide) ?_
  refine q_istore_n_2 F dX4_release_8 (by decide) ?_
  have h := lp_release F hg E 0 (by decide)
  rw [k_fill_0] at h
  exact h

set_option maxRecDepth 100000 in
set_option maxHeartbeats 4000000 in
theorem lp_mfirstFree {G : q_g} {n : Nat} {ad : q_ix → Nat} {X : q_cx} (F : q_fx G X iX4_firstFree) {S : q_st} {K : k_t} (E : q_en G X iX4_firstFree (q_pi (q_w G n ad) (fun r S' => r = q_fe (k_ff K) ∧ S' = q_put S K))) : ∀ k, k ≤ 8 → (∀ i, i < k → ¬ K 2 i = 0) → q_W G X iX4_firstFree (q_w G n ad) (0, 0) 2 [some (.inr (some (20, 0))), some (.inl (nI k))] [] (q_put S K) := by
  refine q_loop (fun k hk ih => ?_)
  intro hall
  refine q_iload_n F dX4_firstFree_2 rfl ?_
  refine q_bipush F (nI 8) dX4_firstFree_3 (by decide) ?_
  refine q_icmpN_ge F 25 dX4_firstFree_5 (by decide) (by omega) (by omega) (fun h5 => ?_) (fun h5 => ?_)
  · obtain rfl : k = 8 := by omega
    refine q_iconst F (-1) dX4_firstFree_25 (by decide) ?_
    refine q_iret F E rfl ⟨by unfold k_ff; rw [f_st_none hall]; rfl, rfl⟩ dX4_firstFree_26
  · refine q_aload_n F dX4_firstFree_8 rfl ?_
    refine q_getr F (k := 3) fkX4_13 q_m20 rfl rfl dX4_firstFree_9 ?_
    refine q_iload_n F dX4_firstFree_12 rfl ?_
    refine q_kald F 2 (_) q_m22 rfl rfl rfl (by omega) (by decide) dX4_firstFree_13 ?_
    refine q_if_ne F 19 dX4_firstFree_14 (by decide) (fun h14 => ?_) (fun h14 => ?_)
    · refine q_iinc_1 F _ dX4_firstFree_19 (q_inc1 _) (by decide) ?_
      exact q_goto F 2 dX4_firstFree_22 (by decide) (ih h5 (lt_s hall h14))
    · refine q_iload_n F dX4_firstFree_17 rfl ?_
      refine q_iret F E rfl ⟨by unfold k_ff; rw [f_st_some h14 hall h5]; rfl, rfl⟩ dX4_firstFree_18

set_option maxRecDepth 100000 in
set_option maxHeartbeats 4000000 in
theorem t_mfirstFree {G : q_g} {n : Nat} {ad : q_ix → Nat} (l : Launch) (S : q_st) (K : k_t)  : q_Ct l G iX4_firstFree [.inr (some (20, 0))] (q_w G n ad) (q_put S K) (q_pi (q_w G n ad) (fun r S' => r = q_fe (k_ff K) ∧ S' = q_put S K)) := by
  refine q_enter (by decide) (Nat.le_of_ble_eq_true rfl) (fun X F E => ?_)
  show q_W G X iX4_firstFree (q_w G n ad) (0, 0) 0 [some (.inr (some (20, 0))), none] [] (q_put S K)
  refine q_iconst F (nI 0) dX4_firstFree_0 (by decide) ?_
  refine q_istore_n_1 F dX4_firstFree_1 (by decide) ?_
  exact lp_mfirstFree F E 0 (by decide) (fun i hi => absurd hi (Nat.not_lt_zero i))

set_option maxRecDepth 100000 in
set_option maxHeartbeats 4000000 in
theorem lp_sharers {G : q_g} {n : Nat} {ad : q_ix → Nat} {X : q_cx} (F : q_fx G X iX4_sharers) {S : q_st} {K : k_t} {g : Nat} (hg : g < 64) (E : q_en G X iX4_sharers (q_pi (q_w G n ad) (fun r S' => r = nI (k_sh K g) ∧ S' = q_put S K))) : ∀ k, k ≤ 64 → q_W G X iX4_sharers (q_w G n ad) (0, 0) 4 [some (.inr (some (20, 0))), some (.inl (nI g)), some (.inl (nI (c_n (fun k => 0 < (K 9 g).toInt ∧ K 9 k = K 9 g) k))), some (.inl (nI k))] [] (q_put S K) := by
  refine q_loop (fun k hk ih => ?_)
  refine q_iload_n F dX4_sharers_4 rfl ?_
  refine q_bipush F (nI 64) dX4_sharers_5 (by decide) ?_
  refine q_icmpN_ge F 48 dX4_sharers_7 (by decide) (by omega) (by omega) (fun h7 => ?_) (fun h7 => ?_)
  · obtain rfl : k = 64 := by omega
    refine q_iload_n F dX4_sharers_48 rfl ?_
    refine q_iret F E rfl ⟨rfl, rfl⟩ dX4_sharers_49
  · refine q_iload_n F dX4_sharers_10 rfl ?_
    refine q_aload_n F dX4_sharers_11 rfl ?_
    refine q_getr F (k := 10) fkX4_34 q_m20 rfl rfl dX4_sharers_12 ?_
    refine q_iload_n F dX4_sharers_15 rfl ?_
    refine q_kald F 9 (_) q_m29 rfl rfl rfl (by omega) (by decide) dX4_sharers_16 ?_
    refine q_if_le F 39 dX4_sharers_17 (by decide) (fun h17 => ?_) (fun h17 => ?_)
    · refine q_iconst F (nI 0) dX4_sharers_39 (by decide) ?_
      refine q_iaddN F dX4_sharers_40 ?_
      refine q_top (nI (c_n (fun k => 0 < (K 9 g).toInt ∧ K 9 k = K 9 g) (k + 1))) (by first | rw [c_n_pos (P := (fun k => 0 < (K 9 g).toInt ∧ K 9 k = K 9 g)) ⟨h17, h32⟩] | (rw [c_n_neg (P := (fun k => 0 < (K 9 g).toInt ∧ K 9 k = K 9 g)) (fun q => h32 q.2)]; rfl) | (rw [c_n_neg (P := (fun k => 0 < (K 9 g).toInt ∧ K 9 k = K 9 g)) (fun q => Int.not_lt.mpr h17 q.1)]; rfl)) ?_
      refine q_istore_n_2 F dX4_sharers_41 (by decide) ?_
      refine q_iinc_3 F _ dX4_sharers_42 (q_inc1 _) (by decide) ?_
      exact q_goto F 4 dX4_sharers_45 (by decide) (ih h7)
    · refine q_aload_n F dX4_sharers_20 rfl ?_
      refine q_getr F (k := 10) fkX4_34 q_m20 rfl rfl dX4_sharers_21 ?_
      refine q_iload_n F dX4_sharers_24 rfl ?_
      refine q_kald F 9 (_) q_m29 rfl rfl rfl (by omega) (by decide) dX4_sharers_25 ?_
      refine q_aload_n F dX4_sharers_26 rfl ?_
      refine q_getr F (k := 10) fkX4_34 q_m20 rfl rfl dX4_sharers_27 ?_
      refine q_iload_n F dX4_sharers_30 rfl ?_
      refine q_kald F 9 (_) q_m29 rfl rfl rfl (by omega) (by decide) dX4_sharers_31 ?_
      refine q_icmp_ne F 39 dX4_sharers_32 (by decide) (fun h32 => ?_) (fun h32 => ?_)
      · refine q_iconst F (nI 0) dX4_sharers_39 (by decide) ?_
        refine q_iaddN F dX4_sharers_40 ?_
        refine q_top (nI (c_n (fun k => 0 < (K 9 g).toInt ∧ K 9 k = K 9 g) (k + 1))) (by first | rw [c_n_pos (P := (fun k => 0 < (K 9 g).toInt ∧ K 9 k = K 9 g)) ⟨h17, h32⟩] | (rw [c_n_neg (P := (fun k => 0 < (K 9 g).toInt ∧ K 9 k = K 9 g)) (fun q => h32 q.2)]; rfl) | (rw [c_n_neg (P := (fun k => 0 < (K 9 g).toInt ∧ K 9 k = K 9 g)) (fun q => Int.not_lt.mpr h17 q.1)]; rfl)) ?_
        refine q_istore_n_2 F dX4_sharers_41 (by decide) ?_
        refine q_iinc_3 F _ dX4_sharers_42 (q_inc1 _) (by decide) ?_
        exact q_goto F 4 dX4_sharers_45 (by decide) (ih h7)
      · refine q_iconst F (nI 1) dX4_sharers_35 (by decide) ?_
        refine q_goto F 40 dX4_sharers_36 (by decide) ?_
        refine q_iaddN F dX4_sharers_40 ?_
        refine q_top (nI (c_n (fun k => 0 < (K 9 g).toInt ∧ K 9 k = K 9 g) (k + 1))) (by first | rw [c_n_pos (P := (fun k => 0 < (K 9 g).toInt ∧ K 9 k = K 9 g)) ⟨h17, h32⟩] | (rw [c_n_neg (P := (fun k => 0 < (K 9 g).toInt ∧ K 9 k = K 9 g)) (fun q => h32 q.2)]; rfl) | (rw [c_n_neg (P := (fun k => 0 < (K 9 g).toInt ∧ K 9 k = K 9 g)) (fun q => Int.not_lt.mpr h17 q.1)]; rfl)) ?_
        refine q_istore_n_2 F dX4_sharers_41 (by decide) ?_
        refine q_iinc_3 F _ dX4_sharers_42 (q_inc1 _) (by decide) ?_
        exact q_goto F 4 dX4_sharers_45 (by decide) (ih h7)

set_option maxRecDepth 100000 in
set_option maxHeartbeats 4000000 in
theorem t_sharers {G : q_g} {n : Nat} {ad : q_ix → Nat} (l : Launch) (S : q_st) (K : k_t) {g : Nat} (hg : g < 64) : q_Ct l G iX4_sharers [.inr (some (20, 0)), .inl (nI g)] (q_w G n ad) (q_put S K) (q_pi (q_w G n ad) (fun r S' => r = nI (k_sh K g) ∧ S' = q_put S K)) := by
  refine q_enter (by decide) (Nat.le_of_ble_eq_true rfl) (fun X F E => ?_)
  show q_W G X iX4_sharers (q_w G n ad) (0, 0) 0 [some (.inr (some (20, 0))), some (.inl (nI g)), none, none] [] (q_put S K)
  refine q_iconst F (nI 0) dX4_sharers_0 (by decide) ?_
  refine q_istore_n_2 F dX4_sharers_1 (by decide) ?_
  refine q_iconst F (nI 0) dX4_sharers_2 (by decide) ?_
  refine q_istore_n_3 F dX4_sharers_3 (by decide) ?_
  exact lp_sharers F hg E 0 (by decide)

set_option maxRecDepth 100000 in
set_option maxHeartbeats 4000000 in
theorem lp_frames_in {G : q_g} {n : Nat} {ad : q_ix → Nat} {X : q_cx} (F : q_fx G X iX4_frames) {S : q_st} {K : k_t} {c g : Nat} (hg : g < 64) (kk : ∀ v, q_bl v ((fun g => 0 < (K 9 g).toInt ∧ ∀ j, j < g → ¬ K 9 j = K 9 g) g) → q_W G X iX4_frames (q_w G n ad) (0, 0) 66 [some (.inr (some (20, 0))), some (.inl (nI c)), some (.inl (nI g)), some (.inl v), none] [] (q_put S K)) : ∀ j, j ≤ g → ∀ v, q_bl v (0 < (K 9 g).toInt ∧ ∀ i, i < j → ¬ K 9 i = K 9 g) → q_W G X iX4_frames (q_w G n ad) (0, 0) 28 [some (.inr (some (20, 0))), some (.inl (nI c)), some (.inl (nI g)), some (.inl v), some (.inl (nI j))] [] (q_put S K) := by
  refine q_loop (fun j hj ih => ?_)
  intro v hv
  refine q_iload F dX4_frames_28 rfl ?_
  refine q_iload_n F dX4_frames_30 rfl ?_
  refine q_icmpN_ge F 66 dX4_frames_31 (by decide) (by omega) (by omega) (fun h31 => ?_) (fun h31 => ?_)
  · obtain rfl : j = g := by omega
    exact q_drop_4 (kk v hv)
  · refine q_iload_n F dX4_frames_34 rfl ?_
    refine q_if_eq F 58 dX4_frames_35 (by decide) (fun h35 => ?_) (fun h35 => ?_)
    · refine q_iconst F (nI 0) dX4_frames_58 (by decide) ?_
      refine q_istore_n_3 F dX4_frames_59 (by decide) ?_
      refine q_iinc_4 F _ dX4_frames_60 (q_inc1 _) (by decide) ?_
      refine q_goto F 28 dX4_frames_63 (by decide) (ih h31 _ ?_)
      first | exact q_bl_1 ⟨(q_bl_T hv h35).1, lt_s (q_bl_T hv h35).2 h51⟩ | exact q_bl_0 (fun q => q_bl_F hv h35 ⟨q.1, fun i hi => q.2 i (by omega)⟩) | exact q_bl_0 (fun q => q.2 j (by omega) h51)
    · refine q_aload_n F dX4_frames_38 rfl ?_
      refine q_getr F (k := 10) fkX4_34 q_m20 rfl rfl dX4_frames_39 ?_
      refine q_iload F dX4_frames_42 rfl ?_
      refine q_kald F 9 (_) q_m29 rfl rfl rfl (by omega) (by decide) dX4_frames_44 ?_
      refine q_aload_n F dX4_frames_45 rfl ?_
      refine q_getr F (k := 10) fkX4_34 q_m20 rfl rfl dX4_frames_46 ?_
      refine q_iload_n F dX4_frames_49 rfl ?_
      refine q_kald F 9 (_) q_m29 rfl rfl rfl (by omega) (by decide) dX4_frames_50 ?_
      refine q_icmp_eq F 58 dX4_frames_51 (by decide) (fun h51 => ?_) (fun h51 => ?_)
      · refine q_iconst F (nI 0) dX4_frames_58 (by decide) ?_
        refine q_istore_n_3 F dX4_frames_59 (by decide) ?_
        refine q_iinc_4 F _ dX4_frames_60 (q_inc1 _) (by decide) ?_
        refine q_goto F 28 dX4_frames_63 (by decide) (ih h31 _ ?_)
        first | exact q_bl_1 ⟨(q_bl_T hv h35).1, lt_s (q_bl_T hv h35).2 h51⟩ | exact q_bl_0 (fun q => q_bl_F hv h35 ⟨q.1, fun i hi => q.2 i (by omega)⟩) | exact q_bl_0 (fun q => q.2 j (by omega) h51)
      · refine q_iconst F (nI 1) dX4_frames_54 (by decide) ?_
        refine q_goto F 59 dX4_frames_55 (by decide) ?_
        refine q_istore_n_3 F dX4_frames_59 (by decide) ?_
        refine q_iinc_4 F _ dX4_frames_60 (q_inc1 _) (by decide) ?_
        refine q_goto F 28 dX4_frames_63 (by decide) (ih h31 _ ?_)
        first | exact q_bl_1 ⟨(q_bl_T hv h35).1, lt_s (q_bl_T hv h35).2 h51⟩ | exact q_bl_0 (fun q => q_bl_F hv h35 ⟨q.1, fun i hi => q.2 i (by omega)⟩) | exact q_bl_0 (fun q => q.2 j (by omega) h51)

set_option maxRecDepth 100000 in
set_option maxHeartbeats 4000000 in
theorem lp_frames_66 {G : q_g} {n : Nat} {ad : q_ix → Nat} {X : q_cx} (F : q_fx G X iX4_frames) {S : q_st} {K : k_t} {g : Nat} (h7 : g < 64) (ih : g < 64 → q_W G X iX4_frames (q_w G n ad) (0, 0) 4 [some (.inr (some (20, 0))), some (.inl (nI (c_n (fun g => 0 < (K 9 g).toInt ∧ ∀ j, j < g → ¬ K 9 j = K 9 g) (g + 1)))), some (.inl (nI (g + 1))), none, none] [] (q_put S K)) (v : Int32) (hv : q_bl v ((fun g => 0 < (K 9 g).toInt ∧ ∀ j, j < g → ¬ K 9 j = K 9 g) g)) : q_W G X iX4_frames (q_w G n ad) (0, 0) 66 [some (.inr (some (20, 0))), some (.inl (nI (c_n (fun g => 0 < (K 9 g).toInt ∧ ∀ j, j < g → ¬ K 9 j = K 9 g) g))), some (.inl (nI g)), some (.inl v), none] [] (q_put S K) := by
  refine q_iload_n F dX4_frames_66 rfl ?_
  refine q_iload_n F dX4_frames_67 rfl ?_
  refine q_if_eq F 75 dX4_frames_68 (by decide) (fun h68 => ?_) (fun h68 => ?_)
  · refine q_iconst F (nI 0) dX4_frames_75 (by decide) ?_
    refine q_iaddN F dX4_frames_76 ?_
    refine q_top (nI (c_n (fun g => 0 < (K 9 g).toInt ∧ ∀ j, j < g → ¬ K 9 j = K 9 g) (g + 1))) (by first | rw [c_n_pos (P := (fun g => 0 < (K 9 g).toInt ∧ ∀ j, j < g → ¬ K 9 j = K 9 g)) (q_bl_T hv h68)] | (rw [c_n_neg (P := (fun g => 0 < (K 9 g).toInt ∧ ∀ j, j < g → ¬ K 9 j = K 9 g)) (q_bl_F hv h68)]; rfl)) ?_
    refine q_istore_n_1 F dX4_frames_77 (by decide) ?_
    refine q_iinc_2 F _ dX4_frames_78 (q_inc1 _) (by decide) ?_
    exact q_goto F 4 dX4_frames_81 (by decide) (q_drop_3 (ih h7))
  · refine q_iconst F (nI 1) dX4_frames_71 (by decide) ?_
    refine q_goto F 76 dX4_frames_72 (by decide) ?_
    refine q_iaddN F dX4_frames_76 ?_
    refine q_top (nI (c_n (fun g => 0 < (K 9 g).toInt ∧ ∀ j, j < g → ¬ K 9 j = K 9 g) (g + 1))) (by first | rw [c_n_pos (P := (fun g => 0 < (K 9 g).toInt ∧ ∀ j, j < g → ¬ K 9 j = K 9 g)) (q_bl_T hv h68)] | (rw [c_n_neg (P := (fun g => 0 < (K 9 g).toInt ∧ ∀ j, j < g → ¬ K 9 j = K 9 g)) (q_bl_F hv h68)]; rfl)) ?_
    refine q_istore_n_1 F dX4_frames_77 (by decide) ?_
    refine q_iinc_2 F _ dX4_frames_78 (q_inc1 _) (by decide) ?_
    exact q_goto F 4 dX4_frames_81 (by decide) (q_drop_3 (ih h7))

set_option maxRecDepth 100000 in
set_option maxHeartbeats 4000000 in
theorem lp_frames {G : q_g} {n : Nat} {ad : q_ix → Nat} {X : q_cx} (F : q_fx G X iX4_frames) {S : q_st} {K : k_t} (E : q_en G X iX4_frames (q_pi (q_w G n ad) (fun r S' => r = nI (k_fr K) ∧ S' = q_put S K))) : ∀ g, g ≤ 64 → q_W G X iX4_frames (q_w G n ad) (0, 0) 4 [some (.inr (some (20, 0))), some (.inl (nI (c_n (fun g => 0 < (K 9 g).toInt ∧ ∀ j, j < g → ¬ K 9 j = K 9 g) g))), some (.inl (nI g)), none, none] [] (q_put S K) := by
  refine q_loop (fun g hg ih => ?_)
  refine q_iload_n F dX4_frames_4 rfl ?_
  refine q_bipush F (nI 64) dX4_frames_5 (by decide) ?_
  refine q_icmpN_ge F 84 dX4_frames_7 (by decide) (by omega) (by omega) (fun h7 => ?_) (fun h7 => ?_)
  · obtain rfl : g = 64 := by omega
    refine q_iload_n F dX4_frames_84 rfl ?_
    refine q_iret F E rfl ⟨rfl, rfl⟩ dX4_frames_85
  · refine q_aload_n F dX4_frames_10 rfl ?_
    refine q_getr F (k := 10) fkX4_34 q_m20 rfl rfl dX4_frames_11 ?_
    refine q_iload_n F dX4_frames_14 rfl ?_
    refine q_kald F 9 (_) q_m29 rfl rfl rfl (by omega) (by decide) dX4_frames_15 ?_
    refine q_if_le F 23 dX4_frames_16 (by decide) (fun h16 => ?_) (fun h16 => ?_)
    · refine q_iconst F (nI 0) dX4_frames_23 (by decide) ?_
      refine q_istore_n_3 F dX4_frames_24 (by decide) ?_
      refine q_iconst F (nI 0) dX4_frames_25 (by decide) ?_
      refine q_istore_4 F dX4_frames_26 (by decide) ?_
      refine lp_frames_in F (by omega) ?_ 0 (by omega) _ (by first | exact q_bl_1 ⟨h16, fun i hi => absurd hi (Nat.not_lt_zero i)⟩ | exact q_bl_0 (fun q => by have := q.1; omega))
      intro v hv
      exact lp_frames_66 F h7 ih v hv
    · refine q_iconst F (nI 1) dX4_frames_19 (by decide) ?_
      refine q_goto F 24 dX4_frames_20 (by decide) ?_
      refine q_istore_n_3 F dX4_frames_24 (by decide) ?_
      refine q_iconst F (nI 0) dX4_frames_25 (by decide) ?_
      refine q_istore_4 F dX4_frames_26 (by decide) ?_
      refine lp_frames_in F (by omega) ?_ 0 (by omega) _ (by first | exact q_bl_1 ⟨h16, fun i hi => absurd hi (Nat.not_lt_zero i)⟩ | exact q_bl_0 (fun q => by have := q.1; omega))
      intro v hv
      exact lp_frames_66 F h7 ih v hv

set_option maxRecDepth 100000 in
set_option maxHeartbeats 4000000 in
theorem t_mframes {G : q_g} {n : Nat} {ad : q_ix → Nat} (l : Launch) (S : q_st) (K : k_t)  : q_Ct l G iX4_frames [.inr (some (20, 0))] (q_w G n ad) (q_put S K) (q_pi (q_w G n ad) (fun r S' => r = nI (k_fr K) ∧ S' = q_put S K)) := by
  refine q_enter (by decide) (Nat.le_of_ble_eq_true rfl) (fun X F E => ?_)
  show q_W G X iX4_frames (q_w G n ad) (0, 0) 0 [some (.inr (some (20, 0))), none, none, none, none] [] (q_put S K)
  refine q_iconst F (nI 0) dX4_frames_0 (by decide) ?_
  refine q_istore_n_1 F dX4_frames_1 (by decide) ?_
  refine q_iconst F (nI 0) dX4_frames_2 (by decide) ?_
  refine q_istore_n_2 F dX4_frames_3 (by decide) ?_
  exact lp_frames F E 0 (by decide)

set_option maxRecDepth 100000 in
set_option maxHeartbeats 4000000 in
theorem t_alone {G : q_g} {n : Nat} {ad : q_ix → Nat} (l : Launch) (S : q_st) (K : k_t) {g : Nat} (hg : g < 64) : q_Ct l G iX4_alone [.inr (some (20, 0)), .inl (nI g)] (q_w G n ad) (q_put S K) (q_pi (q_w G n ad) (fun r S' => ((r = nI 0 ∧ (k_al K g).1 = false) ∨ (r = nI 1 ∧ (k_al K g).1 = true)) ∧ S' = q_put S (k_al K g).2)) := by
  refine q_enter (by decide) (Nat.le_of_ble_eq_true rfl) (fun X F E => ?_)
  show q_W G X iX4_alone (q_w G n ad) (0, 0) 0 [some (.inr (some (20, 0))), some (.inl (nI g))] [] (q_put S K)
  refine q_aload_n F dX4_alone_0 rfl ?_
  refine q_callVi F [] (fun l => t_mframes l S K) clX4_50 rfl q_m20 rfl rfl rfl ⟨Nat.le_of_ble_eq_true rfl, Nat.le_of_ble_eq_true rfl⟩ (Nat.le_of_ble_eq_true rfl) ⟨rfl, rfl⟩ ⟨Nat.zero_le _, Nat.zero_le _⟩ dX4_alone_1 (fun v S' hv => ?_)
  obtain ⟨hv, hS⟩ := hv
  subst hS
  subst hv
  refine q_aload_n F dX4_alone_4 rfl ?_
  refine q_kgeti F (k := 0) fkX4_44 rfl dX4_alone_5 ?_
  refine q_icmp_ne F 19 dX4_alone_8 (by decide) (fun h8 => ?_) (fun h8 => ?_)
  · refine q_aload_n F dX4_alone_19 rfl ?_
    refine q_dup F dX4_alone_20 ?_
    refine q_kgeti F (k := 11) fkX4_57 rfl dX4_alone_21 ?_
    refine q_iconst F (nI 1) dX4_alone_24 (by decide) ?_
    refine q_iadd F dX4_alone_25 ?_
    refine q_kputi F (k := 11) fkX4_57 fp4_11 rfl dX4_alone_26 ?_
    refine q_aload_n F dX4_alone_29 rfl ?_
    refine q_getr F (k := 10) fkX4_34 q_m20 rfl rfl dX4_alone_30 ?_
    refine q_iload_n F dX4_alone_33 rfl ?_
    refine q_aload_n F dX4_alone_34 rfl ?_
    refine q_kgeti F (k := 11) fkX4_57 rfl dX4_alone_35 ?_
    refine q_kast F 9 (_) q_m29 rfl rfl rfl (by omega) (by decide) dX4_alone_38 ?_
    refine q_iconst F (nI 1) dX4_alone_39 (by decide) ?_
    refine q_zret F E rfl (by decide) (by have e : k_al K g = (true, k_u (k_u K 0 11 (K 0 11 + 1)) 9 g (K 0 11 + 1)) := (by unfold k_al; rw [if_neg h8]); rw [e]; exact ⟨Or.inr ⟨rfl, rfl⟩, rfl⟩) dX4_alone_40
  · refine q_aload_n F dX4_alone_11 rfl ?_
    refine q_bipush F (-13) dX4_alone_12 (by decide) ?_
    refine q_kputi F (k := 14) fkX4_54 fp4_14 rfl dX4_alone_14 ?_
    refine q_iconst F (nI 0) dX4_alone_17 (by decide) ?_
    refine q_zret F E rfl (by decide) (by have e : k_al K g = (false, k_u K 0 14 (-13)) := (by unfold k_al; rw [if_pos h8]); rw [e]; exact ⟨Or.inl ⟨rfl, rfl⟩, rfl⟩) dX4_alone_18

theorem k_re_out {K : k_t} {p : Nat} {a : Int32} {wr : Bool} (h : a.toInt < 0 ∨ (K 7 p).toInt ≤ a.toInt) : k_re K p a wr = (false, k_u K 0 14 (-11)) := by
  unfold k_re
  rw [if_pos h]
theorem k_re_in {K : k_t} {p b : Nat} {wr : Bool} (hb : b < 64) (h : (b : Int) < (K 7 p).toInt) : k_re K p (nI b) wr = k_pg K (8 * p + b / 8) wr := by
  unfold k_re
  rw [nI_toInt (by omega), if_neg (by omega), Int.toNat_natCast]
theorem k_pg_t {K : k_t} {g : Nat} {wr : Bool} (h : 0 < k_sh K g) (h2 : wr = false ∨ k_sh K g = 1) : k_pg K g wr = (true, K) := by
  unfold k_pg
  rw [if_pos ⟨h, h2⟩]
theorem k_pg_f {K : k_t} {g : Nat} {wr : Bool} (h : ¬ (0 < k_sh K g ∧ (wr = false ∨ k_sh K g = 1))) : k_pg K g wr = k_al K g := by
  unfold k_pg
  rw [if_neg h]

set_option maxRecDepth 100000 in
set_option maxHeartbeats 4000000 in
theorem t_reach {G : q_g} {n : Nat} {ad : q_ix → Nat} (l : Launch) (S : q_st) (K : k_t) {p : Nat} (hp : p < 8) {a w : Int32} {wr : Bool} (hw : q_bl w (wr = true)) (hb : (K 7 p).toInt ≤ 64) : q_Ct l G iX4_reach [.inr (some (20, 0)), .inl (nI p), .inl a, .inl w] (q_w G n ad) (q_put S K) (q_pi (q_w G n ad) (fun r S' => ((r = nI 0 ∧ (k_re K p a (wr)).1 = false) ∨ (r = nI 1 ∧ (k_re K p a (wr)).1 = true)) ∧ S' = q_put S (k_re K p a (wr)).2)) := by
  refine q_enter (by decide) (Nat.le_of_ble_eq_true rfl) (fun X F E => ?_)
  show q_W G X iX4_reach (q_w G n ad) (0, 0) 0 [some (.inr (some (20, 0))), some (.inl (nI p)), some (.inl a), some (.inl w), none, none] [] (q_put S K)
  refine q_iload_n F dX4_reach_0 rfl ?_
  refine q_if_lt F 14 dX4_reach_1 (by decide) (fun h1 => ?_) (fun h1 => ?_)
  · refine q_aload_n F dX4_reach_14 rfl ?_
    refine q_bipush F (-11) dX4_reach_15 (by decide) ?_
    refine q_kputi F (k := 14) fkX4_54 fp4_14 rfl dX4_reach_17 ?_
    refine q_iconst F (nI 0) dX4_reach_20 (by decide) ?_
    refine q_zret F E rfl (by decide) (by rw [k_re_out (by omega)]; exact ⟨Or.inl ⟨rfl, rfl⟩, rfl⟩) dX4_reach_21
  · refine q_iload_n F dX4_reach_4 rfl ?_
    refine q_aload_n F dX4_reach_5 rfl ?_
    refine q_getr F (k := 8) fkX4_28 q_m20 rfl rfl dX4_reach_6 ?_
    refine q_iload_n F dX4_reach_9 rfl ?_
    refine q_kald F 7 (_) q_m27 rfl rfl rfl (by omega) (by decide) dX4_reach_10 ?_
    refine q_icmp_lt F 22 dX4_reach_11 (by decide) (fun h11 => ?_) (fun h11 => ?_)
    · obtain ⟨b, hb64, rfl⟩ := q_ofx (x := a) (m := 64) (by decide) h1 (by omega)
      rw [nI_toInt (by omega)] at h1 h11
      have hk : k_re K p (nI b) wr = k_pg K (8 * p + b / 8) wr := k_re_in hb64 h11
      refine q_bipush F (nI 8) dX4_reach_22 (by decide) ?_
      refine q_iload_n F dX4_reach_24 rfl ?_
      refine q_imulN F dX4_reach_25 ?_
      refine q_iload_n F dX4_reach_26 rfl ?_
      refine q_bipush F (nI 8) dX4_reach_27 (by decide) ?_
      refine q_idivN F dX4_reach_29 (by omega) (by omega) (by omega) ?_
      refine q_iaddN F dX4_reach_30 ?_
      refine q_istore_4 F dX4_reach_31 (by decide) ?_
      refine q_aload_n F dX4_reach_33 rfl ?_
      refine q_iload F dX4_reach_34 rfl ?_
      refine q_callVi F [.inl (nI (8 * p + b / 8))] (fun l => t_sharers l S K (by omega)) clX4_60 rfl q_m20 rfl rfl rfl ⟨Nat.le_of_ble_eq_true rfl, Nat.le_of_ble_eq_true rfl⟩ (Nat.le_of_ble_eq_true rfl) ⟨rfl, rfl⟩ ⟨Nat.zero_le _, Nat.zero_le _⟩ dX4_reach_36 (fun v S' hv => ?_)
      obtain ⟨hv, hS⟩ := hv
      subst hS
      subst hv
      have hsh : k_sh K (8 * p + b / 8) ≤ 64 := c_n_le _ _
      refine q_istore_5 F dX4_reach_39 (by decide) ?_
      refine q_iload F dX4_reach_41 rfl ?_
      refine q_ifN_le F 56 dX4_reach_43 (by decide) (by omega) (fun h43 => ?_) (fun h43 => ?_)
      · refine q_aload_n F dX4_reach_56 rfl ?_
        refine q_iload F dX4_reach_57 rfl ?_
        refine q_callVi F [.inl (nI (8 * p + b / 8))] (fun l => t_alone l S K (by omega)) clX4_64 rfl q_m20 rfl rfl rfl ⟨Nat.le_of_ble_eq_true rfl, Nat.le_of_ble_eq_true rfl⟩ (Nat.le_of_ble_eq_true rfl) ⟨rfl, rfl⟩ ⟨Nat.zero_le _, Nat.zero_le _⟩ dX4_reach_59 (fun v S' hv => ?_)
        obtain ⟨hv, hS⟩ := hv
        subst hS
        have hal : k_pg K (8 * p + b / 8) wr = k_al K (8 * p + b / 8) := k_pg_f (by first | (intro q; omega) | (intro q; rcases q.2 with q2 | q2 <;> first | (have := q_bl_T hw h47; rw [q2] at this; cases this) | omega))
        refine q_if_eq F 69 dX4_reach_62 (by decide) (fun h62 => ?_) (fun h62 => ?_)
        · refine q_iconst F (nI 0) dX4_reach_69 (by decide) ?_
          refine q_zret F E rfl (by decide) (by first | (rw [hk, k_pg_t (by omega) (Or.inl (by have := q_bl_F hw h47; simpa using this))]; exact ⟨Or.inr ⟨rfl, rfl⟩, rfl⟩) | (rw [hk, k_pg_t (by omega) (Or.inr h53)]; exact ⟨Or.inr ⟨rfl, rfl⟩, rfl⟩) | (rw [hk, hal]; rcases hv with ⟨rfl, hv⟩ | ⟨rfl, hv⟩ <;> first | exact ⟨Or.inl ⟨rfl, hv⟩, rfl⟩ | exact ⟨Or.inr ⟨rfl, hv⟩, rfl⟩ | exact absurd h62 (by decide))) dX4_reach_70
        · refine q_iconst F (nI 1) dX4_reach_65 (by decide) ?_
          refine q_goto F 70 dX4_reach_66 (by decide) ?_
          refine q_zret F E rfl (by decide) (by first | (rw [hk, k_pg_t (by omega) (Or.inl (by have := q_bl_F hw h47; simpa using this))]; exact ⟨Or.inr ⟨rfl, rfl⟩, rfl⟩) | (rw [hk, k_pg_t (by omega) (Or.inr h53)]; exact ⟨Or.inr ⟨rfl, rfl⟩, rfl⟩) | (rw [hk, hal]; rcases hv with ⟨rfl, hv⟩ | ⟨rfl, hv⟩ <;> first | exact ⟨Or.inl ⟨rfl, hv⟩, rfl⟩ | exact ⟨Or.inr ⟨rfl, hv⟩, rfl⟩ | exact absurd h62 (by decide))) dX4_reach_70
      · refine q_iload_n F dX4_reach_46 rfl ?_
        refine q_if_eq F 65 dX4_reach_47 (by decide) (fun h47 => ?_) (fun h47 => ?_)
        · refine q_iconst F (nI 1) dX4_reach_65 (by decide) ?_
          refine q_goto F 70 dX4_reach_66 (by decide) ?_
          refine q_zret F E rfl (by decide) (by first | (rw [hk, k_pg_t (by omega) (Or.inl (by have := q_bl_F hw h47; simpa using this))]; exact ⟨Or.inr ⟨rfl, rfl⟩, rfl⟩) | (rw [hk, k_pg_t (by omega) (Or.inr h53)]; exact ⟨Or.inr ⟨rfl, rfl⟩, rfl⟩) | (rw [hk, hal]; rcases hv with ⟨rfl, hv⟩ | ⟨rfl, hv⟩ <;> first | exact ⟨Or.inl ⟨rfl, hv⟩, rfl⟩ | exact ⟨Or.inr ⟨rfl, hv⟩, rfl⟩ | exact absurd h62 (by decide))) dX4_reach_70
        · refine q_iload F dX4_reach_50 rfl ?_
          refine q_iconst F (nI 1) dX4_reach_52 (by decide) ?_
          refine q_icmpN_eq F 65 dX4_reach_53 (by decide) (by omega) (by omega) (fun h53 => ?_) (fun h53 => ?_)
          · refine q_iconst F (nI 1) dX4_reach_65 (by decide) ?_
            refine q_goto F 70 dX4_reach_66 (by decide) ?_
            refine q_zret F E rfl (by decide) (by first | (rw [hk, k_pg_t (by omega) (Or.inl (by have := q_bl_F hw h47; simpa using this))]; exact ⟨Or.inr ⟨rfl, rfl⟩, rfl⟩) | (rw [hk, k_pg_t (by omega) (Or.inr h53)]; exact ⟨Or.inr ⟨rfl, rfl⟩, rfl⟩) | (rw [hk, hal]; rcases hv with ⟨rfl, hv⟩ | ⟨rfl, hv⟩ <;> first | exact ⟨Or.inl ⟨rfl, hv⟩, rfl⟩ | exact ⟨Or.inr ⟨rfl, hv⟩, rfl⟩ | exact absurd h62 (by decide))) dX4_reach_70
          · refine q_aload_n F dX4_reach_56 rfl ?_
            refine q_iload F dX4_reach_57 rfl ?_
            refine q_callVi F [.inl (nI (8 * p + b / 8))] (fun l => t_alone l S K (by omega)) clX4_64 rfl q_m20 rfl rfl rfl ⟨Nat.le_of_ble_eq_true rfl, Nat.le_of_ble_eq_true rfl⟩ (Nat.le_of_ble_eq_true rfl) ⟨rfl, rfl⟩ ⟨Nat.zero_le _, Nat.zero_le _⟩ dX4_reach_59 (fun v S' hv => ?_)
            obtain ⟨hv, hS⟩ := hv
            subst hS
            have hal : k_pg K (8 * p + b / 8) wr = k_al K (8 * p + b / 8) := k_pg_f (by first | (intro q; omega) | (intro q; rcases q.2 with q2 | q2 <;> first | (have := q_bl_T hw h47; rw [q2] at this; cases this) | omega))
            refine q_if_eq F 69 dX4_reach_62 (by decide) (fun h62 => ?_) (fun h62 => ?_)
            · refine q_iconst F (nI 0) dX4_reach_69 (by decide) ?_
              refine q_zret F E rfl (by decide) (by first | (rw [hk, k_pg_t (by omega) (Or.inl (by have := q_bl_F hw h47; simpa using this))]; exact ⟨Or.inr ⟨rfl, rfl⟩, rfl⟩) | (rw [hk, k_pg_t (by omega) (Or.inr h53)]; exact ⟨Or.inr ⟨rfl, rfl⟩, rfl⟩) | (rw [hk, hal]; rcases hv with ⟨rfl, hv⟩ | ⟨rfl, hv⟩ <;> first | exact ⟨Or.inl ⟨rfl, hv⟩, rfl⟩ | exact ⟨Or.inr ⟨rfl, hv⟩, rfl⟩ | exact absurd h62 (by decide))) dX4_reach_70
            · refine q_iconst F (nI 1) dX4_reach_65 (by decide) ?_
              refine q_goto F 70 dX4_reach_66 (by decide) ?_
              refine q_zret F E rfl (by decide) (by first | (rw [hk, k_pg_t (by omega) (Or.inl (by have := q_bl_F hw h47; simpa using this))]; exact ⟨Or.inr ⟨rfl, rfl⟩, rfl⟩) | (rw [hk, k_pg_t (by omega) (Or.inr h53)]; exact ⟨Or.inr ⟨rfl, rfl⟩, rfl⟩) | (rw [hk, hal]; rcases hv with ⟨rfl, hv⟩ | ⟨rfl, hv⟩ <;> first | exact ⟨Or.inl ⟨rfl, hv⟩, rfl⟩ | exact ⟨Or.inr ⟨rfl, hv⟩, rfl⟩ | exact absurd h62 (by decide))) dX4_reach_70
    · refine q_aload_n F dX4_reach_14 rfl ?_
      refine q_bipush F (-11) dX4_reach_15 (by decide) ?_
      refine q_kputi F (k := 14) fkX4_54 fp4_14 rfl dX4_reach_17 ?_
      refine q_iconst F (nI 0) dX4_reach_20 (by decide) ?_
      refine q_zret F E rfl (by decide) (by rw [k_re_out (by omega)]; exact ⟨Or.inl ⟨rfl, rfl⟩, rfl⟩) dX4_reach_21
end
section
/-! the reference: end, choose, getters (rows laid by wip/whole/m41.py) -/
/-- process p's pages below i, from the break b on, are given back -/
def k_rz (K : k_t) (p b i : Nat) : k_t := fun a j => if a = 9 ∧ j / 8 = p ∧ j % 8 < i ∧ b ≤ 8 * (j % 8) then 0 else if a = 8 ∧ j / 64 = p ∧ j % 64 / 8 < i ∧ b ≤ 8 * (j % 64 / 8) then 0 else K a j
theorem k_rz_0 (K : k_t) (p b : Nat) : k_rz K p b 0 = K := by
  funext a j
  unfold k_rz
  rw [if_neg (by omega), if_neg (by omega)]
theorem k_rz_s (K : k_t) (p b i : Nat) (hi : i < 8) (h : b ≤ 8 * i) : k_rl (k_rz K p b i) (8 * p + i) = k_rz K p b (i + 1) := by
  funext a j
  unfold k_rl k_rz
  repeat' split
  all_goals first | rfl | (exfalso; omega)
theorem k_rz_n (K : k_t) (p b i : Nat) (hi : i < 8) (h : 8 * i < b) : k_rz K p b i = k_rz K p b (i + 1) := by
  funext a j
  unfold k_rz
  repeat' split
  all_goals first | rfl | (exfalso; omega)
/-- the children below k of process p lose their parent -/
def k_pz (K : k_t) (p k : Nat) : k_t := fun a j => if a = 3 ∧ j < k ∧ K 3 j = nI p then -1 else K a j
theorem k_pz_0 (K : k_t) (p : Nat) : k_pz K p 0 = K := by
  funext a j
  unfold k_pz
  rw [if_neg (by rintro ⟨-, q, -⟩; omega)]
theorem k_pz_at (K : k_t) (p k : Nat) : k_pz K p k 3 k = K 3 k := by
  unfold k_pz
  rw [if_neg (by rintro ⟨-, q, -⟩; omega)]
theorem k_pz_s (K : k_t) (p k : Nat) (v : Int32) (hv : v = if K 3 k = nI p then -1 else K 3 k) : k_u (k_pz K p k) 3 k v = k_pz K p (k + 1) := by
  funext a j
  unfold k_u k_pz
  by_cases h3 : a = 3
  · subst h3
    by_cases hj : j = k
    · subst hj
      rw [if_pos ⟨rfl, rfl⟩, hv]
      by_cases h : K 3 j = nI p
      · rw [if_pos h, if_pos ⟨rfl, by omega, h⟩]
      · rw [if_neg h, if_neg (fun q => h q.2.2)]
    · rw [if_neg (fun q => hj q.2)]
      by_cases h : j < k ∧ K 3 j = nI p
      · rw [if_pos ⟨rfl, h⟩, if_pos ⟨rfl, by omega, h.2⟩]
      · rw [if_neg (fun q => h q.2), if_neg (fun q => h ⟨by omega, q.2.2⟩)]
  · simp [h3]
theorem k_en0_eq (K : k_t) (p : Nat) (code : Int32) : k_pz (k_rz (k_u (k_u K 2 p (nI 3)) 4 p code) p 0 8) p 8 = k_en0 K p code := by
  have e3 : ∀ j, k_rz (k_u (k_u K 2 p (nI 3)) 4 p code) p 0 8 3 j = K 3 j := by
    intro j
    simp [k_rz, k_u]
  funext a j
  unfold k_pz
  rw [e3]
  unfold k_rz k_en0 k_u
  by_cases h2 : a = 2
  · subst h2
    simp
  · by_cases h4 : a = 4
    · subst h4
      simp
    · by_cases h9 : a = 9
      · subst h9
        by_cases hj : j / 8 = p
        · simp [hj]
          omega
        · simp [hj]
      · by_cases h8 : a = 8
        · subst h8
          by_cases hj : j / 64 = p
          · simp [hj]
            omega
          · simp [hj]
        · by_cases h3 : a = 3
          · subst h3
            simp
          · simp [h2, h4, h9, h8, h3]

theorem k_en0_3 {K : k_t} {p : Nat} {code : Int32} (hp : p < 8) (hpar : ∀ j, j < 8 → K 3 j = -1 ∨ ∃ r, r < 8 ∧ K 3 j = nI r) : k_en0 K p code 3 p = -1 ∨ ∃ r, r < 8 ∧ k_en0 K p code 3 p = nI r := by
  unfold k_en0
  simp
  by_cases h : K 3 p = nI p
  · left
    simp [hp, h]
  · simp [h]
    exact hpar p hp

set_option maxRecDepth 100000 in
set_option maxHeartbeats 4000000 in
theorem lp_end_78 {G : q_g} {n : Nat} {ad : q_ix → Nat} {X : q_cx} (F : q_fx G X iX4_end) {S : q_st} {K : k_t} {p : Nat} {code : Int32} (hp : p < 8) (hpar : ∀ j, j < 8 → K 3 j = -1 ∨ ∃ r, r < 8 ∧ K 3 j = nI r) (E : q_en G X iX4_end (q_pv (q_w G n ad) (fun S' => S' = q_put S (k_en K p code)))) {z : Option q_v} : q_W G X iX4_end (q_w G n ad) (0, 0) 78 [some (.inr (some (20, 0))), some (.inl (nI p)), some (.inl code), z] [] (q_put S (k_en0 K p code)) := by
  refine q_aload_n F dX4_end_78 rfl ?_
  refine q_getr F (k := 4) fkX4_16 q_m20 rfl rfl dX4_end_79 ?_
  refine q_iload_n F dX4_end_82 rfl ?_
  refine q_kald F 3 (_) q_m23 rfl rfl rfl (by omega) (by decide) dX4_end_83 ?_
  refine q_istore_n_3 F dX4_end_84 (by decide) ?_
  refine q_iload_n F dX4_end_85 rfl ?_
  refine q_iconst F (-1) dX4_end_86 (by decide) ?_
  refine q_icmp_eq F 107 dX4_end_87 (by decide) (fun h87 => ?_) (fun h87 => ?_)
  · refine q_vret F E rfl (by unfold k_en; first | (rw [if_pos ⟨h87, by rw [hun]; exact h97⟩, hun]; done) | (rw [if_neg (fun q => q.1 h87)]; done) | (rw [if_neg (fun q => h97 (by have := q.2; rw [hun] at this; exact this))]; done)) dX4_end_107
  · obtain ⟨u, hu8, hu⟩ : ∃ u, u < 8 ∧ k_en0 K p code 3 p = nI u := (k_en0_3 hp hpar).resolve_left h87
    have hun : (k_en0 K p code 3 p).toInt.toNat = u := by rw [hu, nI_toInt (by omega)]; rfl
    refine q_aload_n F dX4_end_90 rfl ?_
    refine q_getr F (k := 3) fkX4_13 q_m20 rfl rfl dX4_end_91 ?_
    refine q_iload_n F dX4_end_94 rfl ?_
    refine q_top (nI u) hu ?_
    refine q_kald F 2 (_) q_m22 rfl rfl rfl (by omega) (by decide) dX4_end_95 ?_
    refine q_iconst F (nI 2) dX4_end_96 (by decide) ?_
    refine q_icmp_ne F 107 dX4_end_97 (by decide) (fun h97 => ?_) (fun h97 => ?_)
    · refine q_vret F E rfl (by unfold k_en; first | (rw [if_pos ⟨h87, by rw [hun]; exact h97⟩, hun]; done) | (rw [if_neg (fun q => q.1 h87)]; done) | (rw [if_neg (fun q => h97 (by have := q.2; rw [hun] at this; exact this))]; done)) dX4_end_107
    · refine q_aload_n F dX4_end_100 rfl ?_
      refine q_getr F (k := 3) fkX4_13 q_m20 rfl rfl dX4_end_101 ?_
      refine q_iload_n F dX4_end_104 rfl ?_
      refine q_iconst F (nI 1) dX4_end_105 (by decide) ?_
      refine q_kast F 2 (u) q_m22 rfl rfl hu hu8 (by decide) dX4_end_106 ?_
      refine q_vret F E rfl (by unfold k_en; first | (rw [if_pos ⟨h87, by rw [hun]; exact h97⟩, hun]; done) | (rw [if_neg (fun q => q.1 h87)]; done) | (rw [if_neg (fun q => h97 (by have := q.2; rw [hun] at this; exact this))]; done)) dX4_end_107

set_option maxRecDepth 100000 in
set_option maxHeartbeats 4000000 in
theorem lp_end_40 {G : q_g} {n : Nat} {ad : q_ix → Nat} {X : q_cx} (F : q_fx G X iX4_end) {S : q_st} {K : k_t} {p : Nat} {code : Int32} (hp : p < 8) (hpar : ∀ j, j < 8 → K 3 j = -1 ∨ ∃ r, r < 8 ∧ K 3 j = nI r) (E : q_en G X iX4_end (q_pv (q_w G n ad) (fun S' => S' = q_put S (k_en K p code)))) : ∀ k, k ≤ 8 → q_W G X iX4_end (q_w G n ad) (0, 0) 40 [some (.inr (some (20, 0))), some (.inl (nI p)), some (.inl code), some (.inl (nI k))] [] (q_put S (k_pz (k_rz (k_u (k_u K 2 p (nI 3)) 4 p code) p 0 8) p k)) := by
  refine q_loop (fun k hk ih => ?_)
  refine q_iload_n F dX4_end_40 rfl ?_
  refine q_bipush F (nI 8) dX4_end_41 (by decide) ?_
  refine q_icmpN_ge F 78 dX4_end_43 (by decide) (by omega) (by omega) (fun h43 => ?_) (fun h43 => ?_)
  · obtain rfl : k = 8 := by omega
    rw [k_en0_eq]
    exact lp_end_78 F hp hpar E
  · refine q_aload_n F dX4_end_46 rfl ?_
    refine q_getr F (k := 4) fkX4_16 q_m20 rfl rfl dX4_end_47 ?_
    refine q_iload_n F dX4_end_50 rfl ?_
    refine q_aload_n F dX4_end_51 rfl ?_
    refine q_getr F (k := 4) fkX4_16 q_m20 rfl rfl dX4_end_52 ?_
    refine q_iload_n F dX4_end_55 rfl ?_
    refine q_kald F 3 (_) q_m23 rfl rfl rfl (by omega) (by decide) dX4_end_56 ?_
    refine q_iload_n F dX4_end_57 rfl ?_
    refine q_icmp_ne F 65 dX4_end_58 (by decide) (fun h58 => ?_) (fun h58 => ?_)
    · rw [k_pz_at] at h58
      refine q_aload_n F dX4_end_65 rfl ?_
      refine q_getr F (k := 4) fkX4_16 q_m20 rfl rfl dX4_end_66 ?_
      refine q_iload_n F dX4_end_69 rfl ?_
      refine q_kald F 3 (_) q_m23 rfl rfl rfl (by omega) (by decide) dX4_end_70 ?_
      refine q_kast F 3 (_) q_m23 rfl rfl rfl (by omega) (by decide) dX4_end_71 ?_
      rw [k_pz_s _ _ _ _ (by first | rw [if_pos h58] | (rw [if_neg h58]; exact k_pz_at _ _ _))]
      refine q_iinc_3 F _ dX4_end_72 (q_inc1 _) (by decide) ?_
      exact q_goto F 40 dX4_end_75 (by decide) (ih h43)
    · rw [k_pz_at] at h58
      refine q_iconst F (-1) dX4_end_61 (by decide) ?_
      refine q_goto F 71 dX4_end_62 (by decide) ?_
      refine q_kast F 3 (_) q_m23 rfl rfl rfl (by omega) (by decide) dX4_end_71 ?_
      rw [k_pz_s _ _ _ _ (by first | rw [if_pos h58] | (rw [if_neg h58]; exact k_pz_at _ _ _))]
      refine q_iinc_3 F _ dX4_end_72 (q_inc1 _) (by decide) ?_
      exact q_goto F 40 dX4_end_75 (by decide) (ih h43)

set_option maxRecDepth 100000 in
set_option maxHeartbeats 4000000 in
theorem lp_end_16 {G : q_g} {n : Nat} {ad : q_ix → Nat} {X : q_cx} (F : q_fx G X iX4_end) {S : q_st} {K : k_t} {p : Nat} {code : Int32} (hp : p < 8) (hpar : ∀ j, j < 8 → K 3 j = -1 ∨ ∃ r, r < 8 ∧ K 3 j = nI r) (E : q_en G X iX4_end (q_pv (q_w G n ad) (fun S' => S' = q_put S (k_en K p code)))) : ∀ k, k ≤ 8 → q_W G X iX4_end (q_w G n ad) (0, 0) 16 [some (.inr (some (20, 0))), some (.inl (nI p)), some (.inl code), some (.inl (nI k))] [] (q_put S (k_rz (k_u (k_u K 2 p (nI 3)) 4 p code) p 0 k)) := by
  refine q_loop (fun k hk ih => ?_)
  refine q_iload_n F dX4_end_16 rfl ?_
  refine q_bipush F (nI 8) dX4_end_17 (by decide) ?_
  refine q_icmpN_ge F 38 dX4_end_19 (by decide) (by omega) (by omega) (fun h19 => ?_) (fun h19 => ?_)
  · obtain rfl : k = 8 := by omega
    refine q_iconst F (nI 0) dX4_end_38 (by decide) ?_
    refine q_istore_n_3 F dX4_end_39 (by decide) ?_
    have h := lp_end_40 F hp hpar E 0 (by decide)
    rw [k_pz_0] at h
    exact h
  · refine q_aload_n F dX4_end_22 rfl ?_
    refine q_bipush F (nI 8) dX4_end_23 (by decide) ?_
    refine q_iload_n F dX4_end_25 rfl ?_
    refine q_imulN F dX4_end_26 ?_
    refine q_iload_n F dX4_end_27 rfl ?_
    refine q_iaddN F dX4_end_28 ?_
    refine q_callVv F [.inl (nI (8 * p + k))] (fun l => t_release l S _ (by omega)) clX4_74 rfl q_m20 rfl rfl rfl ⟨Nat.le_of_ble_eq_true rfl, Nat.le_of_ble_eq_true rfl⟩ (Nat.le_of_ble_eq_true rfl) ⟨rfl, rfl⟩ ⟨Nat.zero_le _, Nat.zero_le _⟩ dX4_end_29 (fun S' hS => ?_)
    subst hS
    rw [k_rz_s _ _ _ _ h19 (Nat.zero_le _)]
    refine q_iinc_3 F _ dX4_end_32 (q_inc1 _) (by decide) ?_
    exact q_goto F 16 dX4_end_35 (by decide) (ih h19)

set_option maxRecDepth 100000 in
set_option maxHeartbeats 4000000 in
theorem t_mend {G : q_g} {n : Nat} {ad : q_ix → Nat} (l : Launch) (S : q_st) (K : k_t) {p : Nat} {code : Int32} (hp : p < 8) (hpar : ∀ j, j < 8 → K 3 j = -1 ∨ ∃ r, r < 8 ∧ K 3 j = nI r) : q_Ct l G iX4_end [.inr (some (20, 0)), .inl (nI p), .inl code] (q_w G n ad) (q_put S K) (q_pv (q_w G n ad) (fun S' => S' = q_put S (k_en K p code))) := by
  refine q_enter (by decide) (Nat.le_of_ble_eq_true rfl) (fun X F E => ?_)
  show q_W G X iX4_end (q_w G n ad) (0, 0) 0 [some (.inr (some (20, 0))), some (.inl (nI p)), some (.inl code), none] [] (q_put S K)
  refine q_aload_n F dX4_end_0 rfl ?_
  refine q_getr F (k := 3) fkX4_13 q_m20 rfl rfl dX4_end_1 ?_
  refine q_iload_n F dX4_end_4 rfl ?_
  refine q_iconst F (nI 3) dX4_end_5 (by decide) ?_
  refine q_kast F 2 (_) q_m22 rfl rfl rfl (by omega) (by decide) dX4_end_6 ?_
  refine q_aload_n F dX4_end_7 rfl ?_
  refine q_getr F (k := 5) fkX4_19 q_m20 rfl rfl dX4_end_8 ?_
  refine q_iload_n F dX4_end_11 rfl ?_
  refine q_iload_n F dX4_end_12 rfl ?_
  refine q_kast F 4 (_) q_m24 rfl rfl rfl (by omega) (by decide) dX4_end_13 ?_
  refine q_iconst F (nI 0) dX4_end_14 (by decide) ?_
  refine q_istore_n_3 F dX4_end_15 (by decide) ?_
  have h := lp_end_16 F hp hpar E 0 (by decide)
  rw [k_rz_0] at h
  exact h

theorem k_ch_on {K : k_t} (h : k_on K) : k_ch K = (true, K) := by
  unfold k_ch
  rw [if_pos h]
theorem k_ch_some {K : k_t} (h : ¬ k_on K) {k : Nat} (hk : f_st (fun k => K 2 ((k_fm K + k) % 8) = nI 1) 8 = some k) : k_ch K = (true, k_u (k_u K 0 12 (nI ((k_fm K + k) % 8))) 0 13 0) := by
  unfold k_ch
  rw [if_neg h, hk]
theorem k_ch_none {K : k_t} (h : ¬ k_on K) (hk : f_st (fun k => K 2 ((k_fm K + k) % 8) = nI 1) 8 = none) : k_ch K = (false, k_u K 0 12 (-1)) := by
  unfold k_ch
  rw [if_neg h, hk]

set_option maxRecDepth 100000 in
set_option maxHeartbeats 4000000 in
theorem lp_choose {G : q_g} {n : Nat} {ad : q_ix → Nat} {X : q_cx} (F : q_fx G X iX4_choose) {S : q_st} {K : k_t} {m : Nat} (hm : k_fm K = m) (hm8 : m ≤ 8) (hno : ¬ k_on K) (E : q_en G X iX4_choose (q_pi (q_w G n ad) (fun r S' => ((r = nI 0 ∧ (k_ch K).1 = false) ∨ (r = nI 1 ∧ (k_ch K).1 = true)) ∧ S' = q_put S (k_ch K).2))) : ∀ k, k ≤ 8 → (∀ i, i < k → ¬ K 2 ((m + i) % 8) = nI 1) → q_W G X iX4_choose (q_w G n ad) (0, 0) 55 [some (.inr (some (20, 0))), some (.inl (nI m)), some (.inl (nI k)), none] [] (q_put S K) := by
  refine q_loop (fun k hk ih => ?_)
  intro hall
  refine q_iload_n F dX4_choose_55 rfl ?_
  refine q_bipush F (nI 8) dX4_choose_56 (by decide) ?_
  refine q_icmpN_ge F 96 dX4_choose_58 (by decide) (by omega) (by omega) (fun h58 => ?_) (fun h58 => ?_)
  · obtain rfl : k = 8 := by omega
    refine q_aload_n F dX4_choose_96 rfl ?_
    refine q_iconst F (-1) dX4_choose_97 (by decide) ?_
    refine q_kputi F (k := 12) fkX4_37 fp4_12 rfl dX4_choose_98 ?_
    refine q_iconst F (nI 0) dX4_choose_101 (by decide) ?_
    refine q_zret F E rfl (by decide) (by rw [k_ch_none hno (f_st_none (by rw [hm]; exact hall))]; exact ⟨Or.inl ⟨rfl, rfl⟩, rfl⟩) dX4_choose_102
  · refine q_iload_n F dX4_choose_61 rfl ?_
    refine q_iload_n F dX4_choose_62 rfl ?_
    refine q_iaddN F dX4_choose_63 ?_
    refine q_bipush F (nI 8) dX4_choose_64 (by decide) ?_
    refine q_iremN F dX4_choose_66 (by omega) (by omega) (by omega) ?_
    refine q_istore_n_3 F dX4_choose_67 (by decide) ?_
    refine q_aload_n F dX4_choose_68 rfl ?_
    refine q_getr F (k := 3) fkX4_13 q_m20 rfl rfl dX4_choose_69 ?_
    refine q_iload_n F dX4_choose_72 rfl ?_
    refine q_kald F 2 (_) q_m22 rfl rfl rfl (by omega) (by decide) dX4_choose_73 ?_
    refine q_iconst F (nI 1) dX4_choose_74 (by decide) ?_
    refine q_icmp_ne F 90 dX4_choose_75 (by decide) (fun h75 => ?_) (fun h75 => ?_)
    · refine q_iinc_2 F _ dX4_choose_90 (q_inc1 _) (by decide) ?_
      exact q_goto F 55 dX4_choose_93 (by decide) (q_drop_3 (ih h58 (lt_s hall h75)))
    · refine q_aload_n F dX4_choose_78 rfl ?_
      refine q_iload_n F dX4_choose_79 rfl ?_
      refine q_kputi F (k := 12) fkX4_37 fp4_12 rfl dX4_choose_80 ?_
      refine q_aload_n F dX4_choose_83 rfl ?_
      refine q_iconst F (nI 0) dX4_choose_84 (by decide) ?_
      refine q_kputi F (k := 13) fkX4_88 fp4_13 rfl dX4_choose_85 ?_
      refine q_iconst F (nI 1) dX4_choose_88 (by decide) ?_
      refine q_zret F E rfl (by decide) (by rw [k_ch_some hno (f_st_some (k := k) (by rw [hm]; exact h75) (by rw [hm]; exact hall) h58), hm]; exact ⟨Or.inr ⟨rfl, rfl⟩, rfl⟩) dX4_choose_89

set_option maxRecDepth 100000 in
set_option maxHeartbeats 4000000 in
theorem t_choose {G : q_g} {n : Nat} {ad : q_ix → Nat} (l : Launch) (S : q_st) (K : k_t) (hc : K 0 12 = -1 ∨ ∃ c, c < 8 ∧ K 0 12 = nI c) : q_Ct l G iX4_choose [.inr (some (20, 0))] (q_w G n ad) (q_put S K) (q_pi (q_w G n ad) (fun r S' => ((r = nI 0 ∧ (k_ch K).1 = false) ∨ (r = nI 1 ∧ (k_ch K).1 = true)) ∧ S' = q_put S (k_ch K).2)) := by
  refine q_enter (by decide) (Nat.le_of_ble_eq_true rfl) (fun X F E => ?_)
  show q_W G X iX4_choose (q_w G n ad) (0, 0) 0 [some (.inr (some (20, 0))), none, none, none] [] (q_put S K)
  refine q_aload_n F dX4_choose_0 rfl ?_
  refine q_kgeti F (k := 12) fkX4_37 rfl dX4_choose_1 ?_
  refine q_iconst F (-1) dX4_choose_4 (by decide) ?_
  refine q_icmp_eq F 34 dX4_choose_5 (by decide) (fun h5 => ?_) (fun h5 => ?_)
  · have hno : ¬ k_on K := fun q => q.1 h5
    have hm : k_fm K = 0 := by unfold k_fm; rw [if_pos h5]
    refine q_aload_n F dX4_choose_34 rfl ?_
    refine q_kgeti F (k := 12) fkX4_37 rfl dX4_choose_35 ?_
    refine q_iconst F (-1) dX4_choose_38 (by decide) ?_
    refine q_icmp_ne F 46 dX4_choose_39 (by decide) (fun h39 => ?_) (fun h39 => ?_)
    · have h39 := h39
      obtain ⟨c, hc8, hc⟩ : ∃ c, c < 8 ∧ K 0 12 = nI c := (show K 0 12 = -1 ∨ ∃ c, c < 8 ∧ K 0 12 = nI c from by first | exact hc | exact Or.inr ⟨_, hc8, hc⟩).resolve_left h39
      have hcn : (K 0 12).toInt.toNat = c := by rw [hc, nI_toInt (by omega)]; rfl
      have hm : k_fm K = c + 1 := by unfold k_fm; rw [if_neg h39, hcn]
      refine q_aload_n F dX4_choose_46 rfl ?_
      refine q_kgeti F (k := 12) fkX4_37 rfl dX4_choose_47 ?_
      refine q_top (nI c) hc ?_
      refine q_iconst F (nI 1) dX4_choose_50 (by decide) ?_
      refine q_iaddN F dX4_choose_51 ?_
      refine q_istore_n_1 F dX4_choose_52 (by decide) ?_
      refine q_iconst F (nI 0) dX4_choose_53 (by decide) ?_
      refine q_istore_n_2 F dX4_choose_54 (by decide) ?_
      exact lp_choose F hm (by omega) hno E 0 (by decide) (fun i hi => absurd hi (Nat.not_lt_zero i))
    · have hm : k_fm K = 0 := by unfold k_fm; rw [if_pos h39]
      refine q_iconst F (nI 0) dX4_choose_42 (by decide) ?_
      refine q_goto F 52 dX4_choose_43 (by decide) ?_
      refine q_istore_n_1 F dX4_choose_52 (by decide) ?_
      refine q_iconst F (nI 0) dX4_choose_53 (by decide) ?_
      refine q_istore_n_2 F dX4_choose_54 (by decide) ?_
      exact lp_choose F hm (by omega) hno E 0 (by decide) (fun i hi => absurd hi (Nat.not_lt_zero i))
  · obtain ⟨c, hc8, hc⟩ : ∃ c, c < 8 ∧ K 0 12 = nI c := hc.resolve_left h5
    have hcn : (K 0 12).toInt.toNat = c := by rw [hc, nI_toInt (by omega)]; rfl
    have hm : k_fm K = c + 1 := by unfold k_fm; rw [if_neg h5, hcn]
    refine q_aload_n F dX4_choose_8 rfl ?_
    refine q_getr F (k := 3) fkX4_13 q_m20 rfl rfl dX4_choose_9 ?_
    refine q_aload_n F dX4_choose_12 rfl ?_
    refine q_kgeti F (k := 12) fkX4_37 rfl dX4_choose_13 ?_
    refine q_top (nI c) hc ?_
    refine q_kald F 2 (_) q_m22 rfl rfl rfl (by omega) (by decide) dX4_choose_16 ?_
    refine q_iconst F (nI 1) dX4_choose_17 (by decide) ?_
    refine q_icmp_ne F 34 dX4_choose_18 (by decide) (fun h18 => ?_) (fun h18 => ?_)
    · have hno : ¬ k_on K := fun q => h18 (by have := q.2.1; rw [hcn] at this; exact this)
      refine q_aload_n F dX4_choose_34 rfl ?_
      refine q_kgeti F (k := 12) fkX4_37 rfl dX4_choose_35 ?_
      refine q_iconst F (-1) dX4_choose_38 (by decide) ?_
      refine q_icmp_ne F 46 dX4_choose_39 (by decide) (fun h39 => ?_) (fun h39 => ?_)
      · have h39 := h39
        obtain ⟨c, hc8, hc⟩ : ∃ c, c < 8 ∧ K 0 12 = nI c := (show K 0 12 = -1 ∨ ∃ c, c < 8 ∧ K 0 12 = nI c from by first | exact hc | exact Or.inr ⟨_, hc8, hc⟩).resolve_left h39
        have hcn : (K 0 12).toInt.toNat = c := by rw [hc, nI_toInt (by omega)]; rfl
        have hm : k_fm K = c + 1 := by unfold k_fm; rw [if_neg h39, hcn]
        refine q_aload_n F dX4_choose_46 rfl ?_
        refine q_kgeti F (k := 12) fkX4_37 rfl dX4_choose_47 ?_
        refine q_top (nI c) hc ?_
        refine q_iconst F (nI 1) dX4_choose_50 (by decide) ?_
        refine q_iaddN F dX4_choose_51 ?_
        refine q_istore_n_1 F dX4_choose_52 (by decide) ?_
        refine q_iconst F (nI 0) dX4_choose_53 (by decide) ?_
        refine q_istore_n_2 F dX4_choose_54 (by decide) ?_
        exact lp_choose F hm (by omega) hno E 0 (by decide) (fun i hi => absurd hi (Nat.not_lt_zero i))
      · have hm : k_fm K = 0 := by unfold k_fm; rw [if_pos h39]
        refine q_iconst F (nI 0) dX4_choose_42 (by decide) ?_
        refine q_goto F 52 dX4_choose_43 (by decide) ?_
        refine q_istore_n_1 F dX4_choose_52 (by decide) ?_
        refine q_iconst F (nI 0) dX4_choose_53 (by decide) ?_
        refine q_istore_n_2 F dX4_choose_54 (by decide) ?_
        exact lp_choose F hm (by omega) hno E 0 (by decide) (fun i hi => absurd hi (Nat.not_lt_zero i))
    · refine q_aload_n F dX4_choose_21 rfl ?_
      refine q_kgeti F (k := 13) fkX4_88 rfl dX4_choose_22 ?_
      refine q_aload_n F dX4_choose_25 rfl ?_
      refine q_kgeti F (k := 1) fkX4_47 rfl dX4_choose_26 ?_
      refine q_icmp_ge F 34 dX4_choose_29 (by decide) (fun h29 => ?_) (fun h29 => ?_)
      · have hno : ¬ k_on K := fun q => by have := q.2.2; omega
        refine q_aload_n F dX4_choose_34 rfl ?_
        refine q_kgeti F (k := 12) fkX4_37 rfl dX4_choose_35 ?_
        refine q_iconst F (-1) dX4_choose_38 (by decide) ?_
        refine q_icmp_ne F 46 dX4_choose_39 (by decide) (fun h39 => ?_) (fun h39 => ?_)
        · have h39 := h39
          obtain ⟨c, hc8, hc⟩ : ∃ c, c < 8 ∧ K 0 12 = nI c := (show K 0 12 = -1 ∨ ∃ c, c < 8 ∧ K 0 12 = nI c from by first | exact hc | exact Or.inr ⟨_, hc8, hc⟩).resolve_left h39
          have hcn : (K 0 12).toInt.toNat = c := by rw [hc, nI_toInt (by omega)]; rfl
          have hm : k_fm K = c + 1 := by unfold k_fm; rw [if_neg h39, hcn]
          refine q_aload_n F dX4_choose_46 rfl ?_
          refine q_kgeti F (k := 12) fkX4_37 rfl dX4_choose_47 ?_
          refine q_top (nI c) hc ?_
          refine q_iconst F (nI 1) dX4_choose_50 (by decide) ?_
          refine q_iaddN F dX4_choose_51 ?_
          refine q_istore_n_1 F dX4_choose_52 (by decide) ?_
          refine q_iconst F (nI 0) dX4_choose_53 (by decide) ?_
          refine q_istore_n_2 F dX4_choose_54 (by decide) ?_
          exact lp_choose F hm (by omega) hno E 0 (by decide) (fun i hi => absurd hi (Nat.not_lt_zero i))
        · have hm : k_fm K = 0 := by unfold k_fm; rw [if_pos h39]
          refine q_iconst F (nI 0) dX4_choose_42 (by decide) ?_
          refine q_goto F 52 dX4_choose_43 (by decide) ?_
          refine q_istore_n_1 F dX4_choose_52 (by decide) ?_
          refine q_iconst F (nI 0) dX4_choose_53 (by decide) ?_
          refine q_istore_n_2 F dX4_choose_54 (by decide) ?_
          exact lp_choose F hm (by omega) hno E 0 (by decide) (fun i hi => absurd hi (Nat.not_lt_zero i))
      · refine q_iconst F (nI 1) dX4_choose_32 (by decide) ?_
        refine q_zret F E rfl (by decide) (by rw [k_ch_on ⟨h5, by rw [hcn]; exact h18, h29⟩]; exact ⟨Or.inr ⟨rfl, rfl⟩, rfl⟩) dX4_choose_33

set_option maxRecDepth 100000 in
set_option maxHeartbeats 4000000 in
theorem t_mregister {G : q_g} {n : Nat} {ad : q_ix → Nat} (l : Launch) (S : q_st) (K : k_t) {x y : Int32} : q_Ct l G iX4_register [.inr (some (20, 0)), .inl x, .inl y] (q_w G n ad) (q_put S K) (q_pi (q_w G n ad) (fun r S' => r = (match q_lvf (K 2) x with | some p => if 0 ≤ y.toInt ∧ y.toInt < 10 then (if y.toInt = 8 then K 6 p else if y.toInt = 9 then K 7 p else K 5 (8 * p + y.toInt.toNat)) else 0 | none => 0) ∧ S' = q_put S K)) := by
  refine q_enter (by decide) (Nat.le_of_ble_eq_true rfl) (fun X F E => ?_)
  show q_W G X iX4_register (q_w G n ad) (0, 0) 0 [some (.inr (some (20, 0))), some (.inl x), some (.inl y)] [] (q_put S K)
  refine q_aload_n F dX4_register_0 rfl ?_
  refine q_iload_n F dX4_register_1 rfl ?_
  refine q_callVi F [.inl x] (fun l => t_lives l S K) clX4_78 rfl q_m20 rfl rfl rfl ⟨Nat.le_of_ble_eq_true rfl, Nat.le_of_ble_eq_true rfl⟩ (Nat.le_of_ble_eq_true rfl) ⟨rfl, rfl⟩ ⟨Nat.zero_le _, Nat.zero_le _⟩ dX4_register_2 (fun v S' hv => ?_)
  obtain ⟨hv, hS⟩ := hv
  subst hS
  rcases hv with ⟨p, hp, rfl, hx, rfl⟩ | ⟨hx, rfl⟩
  · refine q_ifN_eq F 18 dX4_register_5 (by decide) (by omega) (fun h5 => ?_) (fun h5 => ?_)
    · exact absurd h5 (by decide)
    · refine q_iload_n F dX4_register_8 rfl ?_
      refine q_if_lt F 18 dX4_register_9 (by decide) (fun h9 => ?_) (fun h9 => ?_)
      · refine q_iconst F (nI 0) dX4_register_18 (by decide) ?_
        refine q_iret F E rfl ⟨by rw [hx]; simp only []; rw [if_neg (by omega)]; rfl, rfl⟩ dX4_register_19
      · refine q_iload_n F dX4_register_12 rfl ?_
        refine q_bipush F (nI 9) dX4_register_13 (by decide) ?_
        refine q_icmp_le F 20 dX4_register_15 (by decide) (fun h15 => ?_) (fun h15 => ?_)
        · rw [nI_toInt (by omega)] at h15
          obtain ⟨b, hb, rfl⟩ := q_ofx (x := y) (m := 10) (by decide) h9 (by omega)
          rw [nI_toInt (by omega)] at h9 h15
          refine q_iload_n F dX4_register_20 rfl ?_
          refine q_bipush F (nI 8) dX4_register_21 (by decide) ?_
          refine q_icmpN_ne F 35 dX4_register_23 (by decide) (by omega) (by omega) (fun h23 => ?_) (fun h23 => ?_)
          · refine q_iload_n F dX4_register_35 rfl ?_
            refine q_bipush F (nI 9) dX4_register_36 (by decide) ?_
            refine q_icmpN_ne F 50 dX4_register_38 (by decide) (by omega) (by omega) (fun h38 => ?_) (fun h38 => ?_)
            · refine q_aload_n F dX4_register_50 rfl ?_
              refine q_getr F (k := 6) fkX4_22 q_m20 rfl rfl dX4_register_51 ?_
              refine q_bipush F (nI 8) dX4_register_54 (by decide) ?_
              refine q_iload_n F dX4_register_56 rfl ?_
              refine q_imulN F dX4_register_57 ?_
              refine q_iload_n F dX4_register_58 rfl ?_
              refine q_iaddN F dX4_register_59 ?_
              refine q_kald F 5 (_) q_m25 rfl rfl rfl (by omega) (by decide) dX4_register_60 ?_
              refine q_iret F E rfl ⟨by rw [hx, nI_toInt (by omega)]; simp only [Int.toNat_natCast]; rw [if_pos ⟨by omega, by omega⟩]; first | (rw [if_pos (by omega)]; done) | (rw [if_neg (by omega), if_pos (by omega)]; done) | (rw [if_neg (by omega), if_neg (by omega)]; done), rfl⟩ dX4_register_61
            · refine q_aload_n F dX4_register_41 rfl ?_
              refine q_getr F (k := 8) fkX4_28 q_m20 rfl rfl dX4_register_42 ?_
              refine q_iload_n F dX4_register_45 rfl ?_
              refine q_kald F 7 (_) q_m27 rfl rfl rfl (by omega) (by decide) dX4_register_46 ?_
              refine q_goto F 61 dX4_register_47 (by decide) ?_
              refine q_iret F E rfl ⟨by rw [hx, nI_toInt (by omega)]; simp only [Int.toNat_natCast]; rw [if_pos ⟨by omega, by omega⟩]; first | (rw [if_pos (by omega)]; done) | (rw [if_neg (by omega), if_pos (by omega)]; done) | (rw [if_neg (by omega), if_neg (by omega)]; done), rfl⟩ dX4_register_61
          · refine q_aload_n F dX4_register_26 rfl ?_
            refine q_getr F (k := 7) fkX4_25 q_m20 rfl rfl dX4_register_27 ?_
            refine q_iload_n F dX4_register_30 rfl ?_
            refine q_kald F 6 (_) q_m26 rfl rfl rfl (by omega) (by decide) dX4_register_31 ?_
            refine q_goto F 61 dX4_register_32 (by decide) ?_
            refine q_iret F E rfl ⟨by rw [hx, nI_toInt (by omega)]; simp only [Int.toNat_natCast]; rw [if_pos ⟨by omega, by omega⟩]; first | (rw [if_pos (by omega)]; done) | (rw [if_neg (by omega), if_pos (by omega)]; done) | (rw [if_neg (by omega), if_neg (by omega)]; done), rfl⟩ dX4_register_61
        · rw [nI_toInt (by omega)] at h15
          refine q_iconst F (nI 0) dX4_register_18 (by decide) ?_
          refine q_iret F E rfl ⟨by rw [hx]; simp only []; rw [if_neg (by omega)]; rfl, rfl⟩ dX4_register_19
  · refine q_ifN_eq F 18 dX4_register_5 (by decide) (by omega) (fun h5 => ?_) (fun h5 => ?_)
    · refine q_iconst F (nI 0) dX4_register_18 (by decide) ?_
      refine q_iret F E rfl ⟨by rw [hx]; rfl, rfl⟩ dX4_register_19
    · exact absurd h5 (by decide)

set_option maxRecDepth 100000 in
set_option maxHeartbeats 4000000 in
theorem t_mpeek {G : q_g} {n : Nat} {ad : q_ix → Nat} (l : Launch) (S : q_st) (K : k_t) {x y : Int32} (hb : ∀ p, p < 8 → (K 7 p).toInt ≤ 64) : q_Ct l G iX4_peek [.inr (some (20, 0)), .inl x, .inl y] (q_w G n ad) (q_put S K) (q_pi (q_w G n ad) (fun r S' => r = (match q_lvf (K 2) x with | some p => if 0 ≤ y.toInt ∧ y.toInt < (K 7 p).toInt then K 8 (64 * p + y.toInt.toNat) else 0 | none => 0) ∧ S' = q_put S K)) := by
  refine q_enter (by decide) (Nat.le_of_ble_eq_true rfl) (fun X F E => ?_)
  show q_W G X iX4_peek (q_w G n ad) (0, 0) 0 [some (.inr (some (20, 0))), some (.inl x), some (.inl y)] [] (q_put S K)
  refine q_aload_n F dX4_peek_0 rfl ?_
  refine q_iload_n F dX4_peek_1 rfl ?_
  refine q_callVi F [.inl x] (fun l => t_lives l S K) clX4_78 rfl q_m20 rfl rfl rfl ⟨Nat.le_of_ble_eq_true rfl, Nat.le_of_ble_eq_true rfl⟩ (Nat.le_of_ble_eq_true rfl) ⟨rfl, rfl⟩ ⟨Nat.zero_le _, Nat.zero_le _⟩ dX4_peek_2 (fun v S' hv => ?_)
  obtain ⟨hv, hS⟩ := hv
  subst hS
  rcases hv with ⟨p, hp, rfl, hx, rfl⟩ | ⟨hx, rfl⟩
  · refine q_ifN_eq F 36 dX4_peek_5 (by decide) (by omega) (fun h5 => ?_) (fun h5 => ?_)
    · exact absurd h5 (by decide)
    · have hbp := hb p hp
      refine q_iload_n F dX4_peek_8 rfl ?_
      refine q_if_lt F 36 dX4_peek_9 (by decide) (fun h9 => ?_) (fun h9 => ?_)
      · refine q_iconst F (nI 0) dX4_peek_36 (by decide) ?_
        refine q_iret F E rfl ⟨by first | (rw [hx, nI_toInt (by omega)]; simp only [Int.toNat_natCast]; rw [if_pos ⟨by omega, by omega⟩]; done) | (rw [hx]; simp only []; rw [if_neg (by omega)]; rfl), rfl⟩ dX4_peek_37
      · refine q_iload_n F dX4_peek_12 rfl ?_
        refine q_aload_n F dX4_peek_13 rfl ?_
        refine q_getr F (k := 8) fkX4_28 q_m20 rfl rfl dX4_peek_14 ?_
        refine q_iload_n F dX4_peek_17 rfl ?_
        refine q_kald F 7 (_) q_m27 rfl rfl rfl (by omega) (by decide) dX4_peek_18 ?_
        refine q_icmp_ge F 36 dX4_peek_19 (by decide) (fun h19 => ?_) (fun h19 => ?_)
        · refine q_iconst F (nI 0) dX4_peek_36 (by decide) ?_
          refine q_iret F E rfl ⟨by first | (rw [hx, nI_toInt (by omega)]; simp only [Int.toNat_natCast]; rw [if_pos ⟨by omega, by omega⟩]; done) | (rw [hx]; simp only []; rw [if_neg (by omega)]; rfl), rfl⟩ dX4_peek_37
        · obtain ⟨b, hb64, rfl⟩ := q_ofx (x := y) (m := 64) (by decide) h9 (by omega)
          rw [nI_toInt (by omega)] at h9 h19
          refine q_aload_n F dX4_peek_22 rfl ?_
          refine q_getr F (k := 9) fkX4_31 q_m20 rfl rfl dX4_peek_23 ?_
          refine q_bipush F (nI 64) dX4_peek_26 (by decide) ?_
          refine q_iload_n F dX4_peek_28 rfl ?_
          refine q_imulN F dX4_peek_29 ?_
          refine q_iload_n F dX4_peek_30 rfl ?_
          refine q_iaddN F dX4_peek_31 ?_
          refine q_kald F 8 (_) q_m28 rfl rfl rfl (by omega) (by decide) dX4_peek_32 ?_
          refine q_goto F 37 dX4_peek_33 (by decide) ?_
          refine q_iret F E rfl ⟨by first | (rw [hx, nI_toInt (by omega)]; simp only [Int.toNat_natCast]; rw [if_pos ⟨by omega, by omega⟩]; done) | (rw [hx]; simp only []; rw [if_neg (by omega)]; rfl), rfl⟩ dX4_peek_37
  · refine q_ifN_eq F 36 dX4_peek_5 (by decide) (by omega) (fun h5 => ?_) (fun h5 => ?_)
    · refine q_iconst F (nI 0) dX4_peek_36 (by decide) ?_
      refine q_iret F E rfl ⟨by rw [hx]; rfl, rfl⟩ dX4_peek_37
    · exact absurd h5 (by decide)

set_option maxRecDepth 100000 in
set_option maxHeartbeats 4000000 in
theorem t_msharing {G : q_g} {n : Nat} {ad : q_ix → Nat} (l : Launch) (S : q_st) (K : k_t) {x y : Int32} : q_Ct l G iX4_sharing [.inr (some (20, 0)), .inl x, .inl y] (q_w G n ad) (q_put S K) (q_pi (q_w G n ad) (fun r S' => r = (match q_lvf (K 2) x with | some p => if 0 ≤ y.toInt ∧ y.toInt < 8 then nI (k_sh K (8 * p + y.toInt.toNat)) else 0 | none => 0) ∧ S' = q_put S K)) := by
  refine q_enter (by decide) (Nat.le_of_ble_eq_true rfl) (fun X F E => ?_)
  show q_W G X iX4_sharing (q_w G n ad) (0, 0) 0 [some (.inr (some (20, 0))), some (.inl x), some (.inl y)] [] (q_put S K)
  refine q_aload_n F dX4_sharing_0 rfl ?_
  refine q_iload_n F dX4_sharing_1 rfl ?_
  refine q_callVi F [.inl x] (fun l => t_lives l S K) clX4_78 rfl q_m20 rfl rfl rfl ⟨Nat.le_of_ble_eq_true rfl, Nat.le_of_ble_eq_true rfl⟩ (Nat.le_of_ble_eq_true rfl) ⟨rfl, rfl⟩ ⟨Nat.zero_le _, Nat.zero_le _⟩ dX4_sharing_2 (fun v S' hv => ?_)
  obtain ⟨hv, hS⟩ := hv
  subst hS
  rcases hv with ⟨p, hp, rfl, hx, rfl⟩ | ⟨hx, rfl⟩
  · refine q_ifN_eq F 31 dX4_sharing_5 (by decide) (by omega) (fun h5 => ?_) (fun h5 => ?_)
    · exact absurd h5 (by decide)
    · refine q_iload_n F dX4_sharing_8 rfl ?_
      refine q_if_lt F 31 dX4_sharing_9 (by decide) (fun h9 => ?_) (fun h9 => ?_)
      · refine q_iconst F (nI 0) dX4_sharing_31 (by decide) ?_
        refine q_iret F E rfl ⟨by first | (rw [hx, nI_toInt (by omega)]; simp only [Int.toNat_natCast]; rw [if_pos ⟨by omega, by omega⟩]; done) | (rw [hx]; simp only []; rw [if_neg (by omega)]; rfl), rfl⟩ dX4_sharing_32
      · refine q_iload_n F dX4_sharing_12 rfl ?_
        refine q_bipush F (nI 8) dX4_sharing_13 (by decide) ?_
        refine q_icmp_ge F 31 dX4_sharing_15 (by decide) (fun h15 => ?_) (fun h15 => ?_)
        · rw [nI_toInt (by omega)] at h15
          refine q_iconst F (nI 0) dX4_sharing_31 (by decide) ?_
          refine q_iret F E rfl ⟨by first | (rw [hx, nI_toInt (by omega)]; simp only [Int.toNat_natCast]; rw [if_pos ⟨by omega, by omega⟩]; done) | (rw [hx]; simp only []; rw [if_neg (by omega)]; rfl), rfl⟩ dX4_sharing_32
        · rw [nI_toInt (by omega)] at h15
          obtain ⟨b, hb8, rfl⟩ := q_ofx (x := y) (m := 8) (by decide) h9 (by omega)
          rw [nI_toInt (by omega)] at h9 h15
          refine q_aload_n F dX4_sharing_18 rfl ?_
          refine q_bipush F (nI 8) dX4_sharing_19 (by decide) ?_
          refine q_iload_n F dX4_sharing_21 rfl ?_
          refine q_imulN F dX4_sharing_22 ?_
          refine q_iload_n F dX4_sharing_23 rfl ?_
          refine q_iaddN F dX4_sharing_24 ?_
          refine q_callVi F [.inl (nI (8 * p + b))] (fun l => t_sharers l S K (by omega)) clX4_60 rfl q_m20 rfl rfl rfl ⟨Nat.le_of_ble_eq_true rfl, Nat.le_of_ble_eq_true rfl⟩ (Nat.le_of_ble_eq_true rfl) ⟨rfl, rfl⟩ ⟨Nat.zero_le _, Nat.zero_le _⟩ dX4_sharing_25 (fun v S' hv => ?_)
          obtain ⟨hv, hS⟩ := hv
          subst hS
          subst hv
          refine q_goto F 32 dX4_sharing_28 (by decide) ?_
          refine q_iret F E rfl ⟨by first | (rw [hx, nI_toInt (by omega)]; simp only [Int.toNat_natCast]; rw [if_pos ⟨by omega, by omega⟩]; done) | (rw [hx]; simp only []; rw [if_neg (by omega)]; rfl), rfl⟩ dX4_sharing_32
  · refine q_ifN_eq F 31 dX4_sharing_5 (by decide) (by omega) (fun h5 => ?_) (fun h5 => ?_)
    · refine q_iconst F (nI 0) dX4_sharing_31 (by decide) ?_
      refine q_iret F E rfl ⟨by rw [hx]; rfl, rfl⟩ dX4_sharing_32
    · exact absurd h5 (by decide)

set_option maxRecDepth 100000 in
set_option maxHeartbeats 4000000 in
theorem t_mkill {G : q_g} {n : Nat} {ad : q_ix → Nat} (l : Launch) (S : q_st) (K : k_t) {x : Int32} (hpar : ∀ j, j < 8 → K 3 j = -1 ∨ ∃ r, r < 8 ∧ K 3 j = nI r) : q_Ct l G iX4_kill [.inr (some (20, 0)), .inl x] (q_w G n ad) (q_put S K) (q_pi (q_w G n ad) (fun r S' => (∃ p, p < 8 ∧ x = nI p ∧ q_lvf (K 2) x = some p ∧ r = nI 1 ∧ S' = q_put S (k_en K p (-14))) ∨ (q_lvf (K 2) x = none ∧ r = nI 0 ∧ S' = q_put S K))) := by
  refine q_enter (by decide) (Nat.le_of_ble_eq_true rfl) (fun X F E => ?_)
  show q_W G X iX4_kill (q_w G n ad) (0, 0) 0 [some (.inr (some (20, 0))), some (.inl x)] [] (q_put S K)
  refine q_aload_n F dX4_kill_0 rfl ?_
  refine q_iload_n F dX4_kill_1 rfl ?_
  refine q_callVi F [.inl x] (fun l => t_lives l S K) clX4_78 rfl q_m20 rfl rfl rfl ⟨Nat.le_of_ble_eq_true rfl, Nat.le_of_ble_eq_true rfl⟩ (Nat.le_of_ble_eq_true rfl) ⟨rfl, rfl⟩ ⟨Nat.zero_le _, Nat.zero_le _⟩ dX4_kill_2 (fun v S' hv => ?_)
  obtain ⟨hv, hS⟩ := hv
  subst hS
  rcases hv with ⟨p, hp, rfl, hx, rfl⟩ | ⟨hx, rfl⟩
  · refine q_ifN_ne F 10 dX4_kill_5 (by decide) (by omega) (fun h5 => ?_) (fun h5 => ?_)
    · refine q_aload_n F dX4_kill_10 rfl ?_
      refine q_iload_n F dX4_kill_11 rfl ?_
      refine q_bipush F (-14) dX4_kill_12 (by decide) ?_
      refine q_callVv F [.inl (nI p), .inl (-14)] (fun l => t_mend l S K hp hpar) clX4_81 rfl q_m20 rfl rfl rfl ⟨Nat.le_of_ble_eq_true rfl, Nat.le_of_ble_eq_true rfl⟩ (Nat.le_of_ble_eq_true rfl) ⟨rfl, rfl⟩ ⟨Nat.zero_le _, Nat.zero_le _⟩ dX4_kill_14 (fun S' hS => ?_)
      subst hS
      refine q_iconst F (nI 1) dX4_kill_17 (by decide) ?_
      refine q_zret F E rfl (by decide) (Or.inl ⟨p, hp, rfl, hx, rfl, rfl⟩) dX4_kill_18
    · exact absurd h5 (by decide)
  · refine q_ifN_ne F 10 dX4_kill_5 (by decide) (by omega) (fun h5 => ?_) (fun h5 => ?_)
    · exact absurd h5 (by decide)
    · refine q_iconst F (nI 0) dX4_kill_8 (by decide) ?_
      refine q_zret F E rfl (by decide) (Or.inr ⟨hx, rfl, rfl⟩) dX4_kill_9

set_option maxRecDepth 100000 in
set_option maxHeartbeats 4000000 in
theorem t_mreap {G : q_g} {n : Nat} {ad : q_ix → Nat} (l : Launch) (S : q_st) (K : k_t) {x : Int32} : q_Ct l G iX4_reap [.inr (some (20, 0)), .inl x] (q_w G n ad) (q_put S K) (q_pi (q_w G n ad) (fun r S' => (∃ p, p < 8 ∧ x = nI p ∧ K 2 p = nI 3 ∧ K 3 p = -1 ∧ r = K 4 p ∧ S' = q_put S (k_free K p)) ∨ ((∀ p, p < 8 → x = nI p → ¬ (K 2 p = nI 3 ∧ K 3 p = -1)) ∧ r = -1 ∧ S' = q_put S K))) := by
  refine q_enter (by decide) (Nat.le_of_ble_eq_true rfl) (fun X F E => ?_)
  show q_W G X iX4_reap (q_w G n ad) (0, 0) 0 [some (.inr (some (20, 0))), some (.inl x)] [] (q_put S K)
  refine q_iload_n F dX4_reap_0 rfl ?_
  refine q_callSi F [.inl x] (fun l => t_isProcess l S K) clX4_68 rfl rfl ⟨Nat.le_of_ble_eq_true rfl, Nat.le_of_ble_eq_true rfl⟩ (Nat.le_of_ble_eq_true rfl) ⟨rfl, rfl⟩ ⟨Nat.zero_le _, Nat.zero_le _⟩ dX4_reap_1 (fun v S' hv => ?_)
  obtain ⟨hv, hS⟩ := hv
  subst hS
  refine q_if_eq F 27 dX4_reap_4 (by decide) (fun h4 => ?_) (fun h4 => ?_)
  · have hx := q_on_none (q_bl_F hv h4)
    refine q_iconst F (-1) dX4_reap_27 (by decide) ?_
    refine q_iret F E rfl (Or.inr ⟨by first | (intro q hq he; subst he; rw [q_on_some hq] at hx; cases hx; done) | (intro q hq he hh; rw [nI_eq (by omega) (by omega)] at he; subst he; first | exact h14 hh.1 | exact h24 hh.2), rfl, rfl⟩) dX4_reap_28
  · obtain ⟨p, hp, rfl⟩ := q_ofx (m := 8) (by decide) (q_bl_T hv h4).1 (q_bl_T hv h4).2
    have hx := q_on_some hp
    refine q_aload_n F dX4_reap_7 rfl ?_
    refine q_getr F (k := 3) fkX4_13 q_m20 rfl rfl dX4_reap_8 ?_
    refine q_iload_n F dX4_reap_11 rfl ?_
    refine q_kald F 2 (_) q_m22 rfl rfl rfl (by omega) (by decide) dX4_reap_12 ?_
    refine q_iconst F (nI 3) dX4_reap_13 (by decide) ?_
    refine q_icmp_ne F 27 dX4_reap_14 (by decide) (fun h14 => ?_) (fun h14 => ?_)
    · refine q_iconst F (-1) dX4_reap_27 (by decide) ?_
      refine q_iret F E rfl (Or.inr ⟨by first | (intro q hq he; subst he; rw [q_on_some hq] at hx; cases hx; done) | (intro q hq he hh; rw [nI_eq (by omega) (by omega)] at he; subst he; first | exact h14 hh.1 | exact h24 hh.2), rfl, rfl⟩) dX4_reap_28
    · refine q_aload_n F dX4_reap_17 rfl ?_
      refine q_getr F (k := 4) fkX4_16 q_m20 rfl rfl dX4_reap_18 ?_
      refine q_iload_n F dX4_reap_21 rfl ?_
      refine q_kald F 3 (_) q_m23 rfl rfl rfl (by omega) (by decide) dX4_reap_22 ?_
      refine q_iconst F (-1) dX4_reap_23 (by decide) ?_
      refine q_icmp_eq F 29 dX4_reap_24 (by decide) (fun h24 => ?_) (fun h24 => ?_)
      · refine q_aload_n F dX4_reap_29 rfl ?_
        refine q_iload_n F dX4_reap_30 rfl ?_
        refine q_callVv F [.inl (nI p)] (fun l => t_mfree l S K hp) clX4_85 rfl q_m20 rfl rfl rfl ⟨Nat.le_of_ble_eq_true rfl, Nat.le_of_ble_eq_true rfl⟩ (Nat.le_of_ble_eq_true rfl) ⟨rfl, rfl⟩ ⟨Nat.zero_le _, Nat.zero_le _⟩ dX4_reap_31 (fun S' hS => ?_)
        subst hS
        refine q_aload_n F dX4_reap_34 rfl ?_
        refine q_getr F (k := 5) fkX4_19 q_m20 rfl rfl dX4_reap_35 ?_
        refine q_iload_n F dX4_reap_38 rfl ?_
        refine q_kald F 4 (_) q_m24 rfl rfl rfl (by omega) (by decide) dX4_reap_39 ?_
        refine q_iret F E rfl (Or.inl ⟨p, hp, rfl, h14, h24, by simp [k_free, k_u], rfl⟩) dX4_reap_40
      · refine q_iconst F (-1) dX4_reap_27 (by decide) ?_
        refine q_iret F E rfl (Or.inr ⟨by first | (intro q hq he; subst he; rw [q_on_some hq] at hx; cases hx; done) | (intro q hq he hh; rw [nI_eq (by omega) (by omega)] at he; subst he; first | exact h14 hh.1 | exact h24 hh.2), rfl, rfl⟩) dX4_reap_28
end
section
/-! the reference: load, fork, grow, await (rows laid by wip/whole/m42.py) -/
def k_lb (K : k_t) (p m : Nat) (L : Int32) (i : Nat) : k_t := fun a j => if a = 0 ∧ j = 11 then L + nI i else if a = 9 ∧ 8 * p ≤ j ∧ j < 8 * p + i then (if j - 8 * p < m then L + nI (j - 8 * p + 1) else 0) else K a j
theorem k_lb_0 (K : k_t) (p m : Nat) (L : Int32) (h : K 0 11 = L) : k_lb K p m L 0 = K := by
  funext a j
  unfold k_lb
  split
  next q => rw [q.1, q.2, h]; show L + 0 = L; rw [Int32.add_zero]
  next =>
    split
    next q => exfalso; omega
    next => rfl
theorem k_lb_s (K : k_t) (p m : Nat) (L : Int32) (i : Nat) (v : Int32) (hv : v = if i < m then L + nI (i + 1) else 0) : k_u (k_u (k_lb K p m L i) 0 11 (L + nI (i + 1))) 9 (8 * p + i) v = k_lb K p m L (i + 1) := by
  funext a j
  unfold k_u k_lb
  by_cases h9 : a = 9 ∧ j = 8 * p + i
  · obtain ⟨rfl, rfl⟩ := h9
    rw [if_pos ⟨rfl, rfl⟩, if_neg (by simp), if_pos ⟨rfl, by omega, by omega⟩, hv, show 8 * p + i - 8 * p = i by omega]
  · rw [if_neg h9]
    repeat' split
    all_goals first | rfl | (exfalso; omega)
theorem k_ld0_eq (K : k_t) (p len : Nat) (hl : len ≤ 64) : k_lb (k_fill (k_fill (k_u (k_u (k_u (k_u K 2 p (nI 1)) 3 p (-1)) 6 p (nI 0)) 7 p (nI len)) 5 (8 * p) 8 (fun _ => 0)) 8 (64 * p) 64 (fun x => if x - 64 * p < len then K 1 (x - 64 * p) else 0)) p ((len + 7) / 8) (K 0 11) 8 = k_ld0 K p len (K 0 11) := by
  funext a j
  unfold k_lb k_fill k_u k_ld0
  by_cases h0 : a = 0 ∧ j = 11
  · obtain ⟨rfl, rfl⟩ := h0
    simp
  · rw [if_neg h0, if_neg h0]
    by_cases h9 : a = 9 ∧ j / 8 = p
    · obtain ⟨rfl, h9⟩ := h9
      rw [if_pos ⟨rfl, by omega, by omega⟩]
      simp only [h9, show j - 8 * p = j % 8 by omega]
      simp
    · rw [if_neg (by rintro ⟨rfl, q1, q2⟩; exact h9 ⟨rfl, by omega⟩)]
      by_cases h8 : a = 8 ∧ j / 64 = p
      · obtain ⟨rfl, h8⟩ := h8
        rw [if_pos ⟨rfl, by omega, by omega⟩]
        simp only [h8, show j - 64 * p = j % 64 by omega]
        simp
      · rw [if_neg (by rintro ⟨rfl, q1, q2⟩; exact h8 ⟨rfl, by omega⟩)]
        by_cases h5 : a = 5 ∧ j / 8 = p
        · obtain ⟨rfl, h5⟩ := h5
          rw [if_pos ⟨rfl, by omega, by omega⟩]
          simp [h5]
        · rw [if_neg (by rintro ⟨rfl, q1, q2⟩; exact h5 ⟨rfl, by omega⟩)]
          simp only [h9, h8, h5, if_false]
          repeat' split
          all_goals first | rfl | (exfalso; omega)

set_option maxRecDepth 100000 in
set_option maxHeartbeats 4000000 in
theorem lp_load3 {G : q_g} {n : Nat} {ad : q_ix → Nat} {X : q_cx} (F : q_fx G X iX4_load) {S : q_st} {K : k_t} {x : Int32} {lim p len : Nat} (hp : p < 8) (hl1 : 1 ≤ len) (hl : len ≤ 64) (hx : x = nI len) (hff : k_ff K = some p) (hok : k_fr K + (len + 7) / 8 ≤ lim) (E : q_en G X iX4_load (q_pi (q_w G n ad) (fun r S' => (r = -16 ∧ ¬ (1 ≤ x.toInt ∧ x.toInt ≤ 64) ∧ S' = q_put S K) ∨ (∃ len, 1 ≤ len ∧ len ≤ 64 ∧ x = nI len ∧ ((k_ff K = none ∧ r = -15 ∧ S' = q_put S K) ∨ (∃ p, p < 8 ∧ k_ff K = some p ∧ ((¬ k_fr K + (len + 7) / 8 ≤ lim ∧ r = -13 ∧ S' = q_put S K) ∨ (k_fr K + (len + 7) / 8 ≤ lim ∧ r = nI p ∧ S' = q_put S (k_ld0 K p len (K 0 11)))))))))) : ∀ i, i ≤ 8 → q_W G X iX4_load (q_w G n ad) (0, 0) 156 [some (.inr (some (20, 0))), some (.inl (nI len)), some (.inl (nI p)), some (.inl (nI ((len + 7) / 8))), some (.inl (nI i))] [] (q_put S (k_lb (k_fill (k_fill (k_u (k_u (k_u (k_u K 2 p (nI 1)) 3 p (-1)) 6 p (nI 0)) 7 p (nI len)) 5 (8 * p) 8 (fun _ => 0)) 8 (64 * p) 64 (fun x => if x - 64 * p < len then K 1 (x - 64 * p) else 0)) p ((len + 7) / 8) (K 0 11) i)) := by
  refine q_loop (fun i hi ih => ?_)
  refine q_iload F dX4_load_156 rfl ?_
  refine q_bipush F (nI 8) dX4_load_158 (by decide) ?_
  refine q_icmpN_ge F 205 dX4_load_160 (by decide) (by omega) (by omega) (fun h160 => ?_) (fun h160 => ?_)
  · obtain rfl : i = 8 := by omega
    refine q_iload_n F dX4_load_205 rfl ?_
    refine q_iret F E rfl (Or.inr ⟨len, hl1, hl, hx, Or.inr ⟨p, hp, hff, Or.inr ⟨hok, rfl, by rw [k_ld0_eq _ _ _ hl]⟩⟩⟩) dX4_load_206
  · refine q_aload_n F dX4_load_163 rfl ?_
    refine q_dup F dX4_load_164 ?_
    refine q_kgeti F (k := 11) fkX4_57 rfl dX4_load_165 ?_
    refine q_iconst F (nI 1) dX4_load_168 (by decide) ?_
    refine q_iadd F dX4_load_169 ?_
    refine q_top (K 0 11 + nI (i + 1)) (by rw [show k_lb (k_fill (k_fill (k_u (k_u (k_u (k_u K 2 p (nI 1)) 3 p (-1)) 6 p (nI 0)) 7 p (nI len)) 5 (8 * p) 8 (fun _ => 0)) 8 (64 * p) 64 (fun x => if x - 64 * p < len then K 1 (x - 64 * p) else 0)) p ((len + 7) / 8) (K 0 11) i 0 11 = K 0 11 + nI i by simp [k_lb], Int32.add_assoc, nI_add]) ?_
    refine q_kputi F (k := 11) fkX4_57 fp4_11 rfl dX4_load_170 ?_
    refine q_aload_n F dX4_load_173 rfl ?_
    refine q_getr F (k := 10) fkX4_34 q_m20 rfl rfl dX4_load_174 ?_
    refine q_bipush F (nI 8) dX4_load_177 (by decide) ?_
    refine q_iload_n F dX4_load_179 rfl ?_
    refine q_imulN F dX4_load_180 ?_
    refine q_iload F dX4_load_181 rfl ?_
    refine q_iaddN F dX4_load_183 ?_
    refine q_iload F dX4_load_184 rfl ?_
    refine q_iload_n F dX4_load_186 rfl ?_
    refine q_icmpN_ge F 197 dX4_load_187 (by decide) (by omega) (by omega) (fun h187 => ?_) (fun h187 => ?_)
    · refine q_iconst F (nI 0) dX4_load_197 (by decide) ?_
      refine q_kast F 9 (_) q_m29 rfl rfl rfl (by omega) (by decide) dX4_load_198 ?_
      rw [k_lb_s _ _ _ _ _ _ (by first | rw [if_pos h187] | (rw [if_neg (by omega)]; rfl))]
      refine q_iinc_4 F _ dX4_load_199 (q_inc1 _) (by decide) ?_
      exact q_goto F 156 dX4_load_202 (by decide) (ih h160)
    · refine q_aload_n F dX4_load_190 rfl ?_
      refine q_kgeti F (k := 11) fkX4_57 rfl dX4_load_191 ?_
      refine q_top (K 0 11 + nI (i + 1)) (by simp [k_u]) ?_
      refine q_goto F 198 dX4_load_194 (by decide) ?_
      refine q_kast F 9 (_) q_m29 rfl rfl rfl (by omega) (by decide) dX4_load_198 ?_
      rw [k_lb_s _ _ _ _ _ _ (by first | rw [if_pos h187] | (rw [if_neg (by omega)]; rfl))]
      refine q_iinc_4 F _ dX4_load_199 (q_inc1 _) (by decide) ?_
      exact q_goto F 156 dX4_load_202 (by decide) (ih h160)

set_option maxRecDepth 100000 in
set_option maxHeartbeats 4000000 in
theorem lp_load2 {G : q_g} {n : Nat} {ad : q_ix → Nat} {X : q_cx} (F : q_fx G X iX4_load) {S : q_st} {K : k_t} {x : Int32} {lim p len : Nat} (hp : p < 8) (hl1 : 1 ≤ len) (hl : len ≤ 64) (hx : x = nI len) (hff : k_ff K = some p) (hok : k_fr K + (len + 7) / 8 ≤ lim) (E : q_en G X iX4_load (q_pi (q_w G n ad) (fun r S' => (r = -16 ∧ ¬ (1 ≤ x.toInt ∧ x.toInt ≤ 64) ∧ S' = q_put S K) ∨ (∃ len, 1 ≤ len ∧ len ≤ 64 ∧ x = nI len ∧ ((k_ff K = none ∧ r = -15 ∧ S' = q_put S K) ∨ (∃ p, p < 8 ∧ k_ff K = some p ∧ ((¬ k_fr K + (len + 7) / 8 ≤ lim ∧ r = -13 ∧ S' = q_put S K) ∨ (k_fr K + (len + 7) / 8 ≤ lim ∧ r = nI p ∧ S' = q_put S (k_ld0 K p len (K 0 11)))))))))) : ∀ i, i ≤ 64 → q_W G X iX4_load (q_w G n ad) (0, 0) 111 [some (.inr (some (20, 0))), some (.inl (nI len)), some (.inl (nI p)), some (.inl (nI ((len + 7) / 8))), some (.inl (nI i))] [] (q_put S (k_fill (k_fill (k_u (k_u (k_u (k_u K 2 p (nI 1)) 3 p (-1)) 6 p (nI 0)) 7 p (nI len)) 5 (8 * p) 8 (fun _ => 0)) 8 (64 * p) i (fun x => if x - 64 * p < len then K 1 (x - 64 * p) else 0))) := by
  refine q_loop (fun i hi ih => ?_)
  refine q_iload F dX4_load_111 rfl ?_
  refine q_bipush F (nI 64) dX4_load_113 (by decide) ?_
  refine q_icmpN_ge F 153 dX4_load_115 (by decide) (by omega) (by omega) (fun h115 => ?_) (fun h115 => ?_)
  · obtain rfl : i = 64 := by omega
    refine q_iconst F (nI 0) dX4_load_153 (by decide) ?_
    refine q_istore_4 F dX4_load_154 (by decide) ?_
    have h := lp_load3 F hp hl1 hl hx hff hok E 0 (by decide)
    rw [k_lb_0 _ _ _ _ (by simp [k_fill, k_u])] at h
    exact h
  · refine q_aload_n F dX4_load_118 rfl ?_
    refine q_getr F (k := 9) fkX4_31 q_m20 rfl rfl dX4_load_119 ?_
    refine q_bipush F (nI 64) dX4_load_122 (by decide) ?_
    refine q_iload_n F dX4_load_124 rfl ?_
    refine q_imulN F dX4_load_125 ?_
    refine q_iload F dX4_load_126 rfl ?_
    refine q_iaddN F dX4_load_128 ?_
    refine q_iload F dX4_load_129 rfl ?_
    refine q_iload_n F dX4_load_131 rfl ?_
    refine q_icmpN_ge F 145 dX4_load_132 (by decide) (by omega) (by omega) (fun h132 => ?_) (fun h132 => ?_)
    · refine q_iconst F (nI 0) dX4_load_145 (by decide) ?_
      refine q_kast F 8 (_) q_m28 rfl rfl rfl (by omega) (by decide) dX4_load_146 ?_
      rw [k_fill_s _ _ _ _ (fun x => if x - 64 * p < len then K 1 (x - 64 * p) else 0) _ (by rw [show 64 * p + i - 64 * p = i by omega]; first | rw [if_pos h132] | (rw [if_neg (by omega)]; rfl))]
      refine q_iinc_4 F _ dX4_load_147 (q_inc1 _) (by decide) ?_
      exact q_goto F 111 dX4_load_150 (by decide) (ih h115)
    · refine q_aload_n F dX4_load_135 rfl ?_
      refine q_getr F (k := 2) fkX4_7 q_m20 rfl rfl dX4_load_136 ?_
      refine q_iload F dX4_load_139 rfl ?_
      refine q_kald F 1 (_) q_m21 rfl rfl rfl (by omega) (by decide) dX4_load_141 ?_
      refine q_top (K 1 i) (by simp [k_fill, k_u]) ?_
      refine q_goto F 146 dX4_load_142 (by decide) ?_
      refine q_kast F 8 (_) q_m28 rfl rfl rfl (by omega) (by decide) dX4_load_146 ?_
      rw [k_fill_s _ _ _ _ (fun x => if x - 64 * p < len then K 1 (x - 64 * p) else 0) _ (by rw [show 64 * p + i - 64 * p = i by omega]; first | rw [if_pos h132] | (rw [if_neg (by omega)]; rfl))]
      refine q_iinc_4 F _ dX4_load_147 (q_inc1 _) (by decide) ?_
      exact q_goto F 111 dX4_load_150 (by decide) (ih h115)

set_option maxRecDepth 100000 in
set_option maxHeartbeats 4000000 in
theorem lp_load1 {G : q_g} {n : Nat} {ad : q_ix → Nat} {X : q_cx} (F : q_fx G X iX4_load) {S : q_st} {K : k_t} {x : Int32} {lim p len : Nat} (hp : p < 8) (hl1 : 1 ≤ len) (hl : len ≤ 64) (hx : x = nI len) (hff : k_ff K = some p) (hok : k_fr K + (len + 7) / 8 ≤ lim) (E : q_en G X iX4_load (q_pi (q_w G n ad) (fun r S' => (r = -16 ∧ ¬ (1 ≤ x.toInt ∧ x.toInt ≤ 64) ∧ S' = q_put S K) ∨ (∃ len, 1 ≤ len ∧ len ≤ 64 ∧ x = nI len ∧ ((k_ff K = none ∧ r = -15 ∧ S' = q_put S K) ∨ (∃ p, p < 8 ∧ k_ff K = some p ∧ ((¬ k_fr K + (len + 7) / 8 ≤ lim ∧ r = -13 ∧ S' = q_put S K) ∨ (k_fr K + (len + 7) / 8 ≤ lim ∧ r = nI p ∧ S' = q_put S (k_ld0 K p len (K 0 11)))))))))) : ∀ i, i ≤ 8 → q_W G X iX4_load (q_w G n ad) (0, 0) 82 [some (.inr (some (20, 0))), some (.inl (nI len)), some (.inl (nI p)), some (.inl (nI ((len + 7) / 8))), some (.inl (nI i))] [] (q_put S (k_fill (k_u (k_u (k_u (k_u K 2 p (nI 1)) 3 p (-1)) 6 p (nI 0)) 7 p (nI len)) 5 (8 * p) i (fun _ => 0))) := by
  refine q_loop (fun i hi ih => ?_)
  refine q_iload F dX4_load_82 rfl ?_
  refine q_bipush F (nI 8) dX4_load_84 (by decide) ?_
  refine q_icmpN_ge F 108 dX4_load_86 (by decide) (by omega) (by omega) (fun h86 => ?_) (fun h86 => ?_)
  · obtain rfl : i = 8 := by omega
    refine q_iconst F (nI 0) dX4_load_108 (by decide) ?_
    refine q_istore_4 F dX4_load_109 (by decide) ?_
    have h := lp_load2 F hp hl1 hl hx hff hok E 0 (by decide)
    rw [k_fill_0] at h
    exact h
  · refine q_aload_n F dX4_load_89 rfl ?_
    refine q_getr F (k := 6) fkX4_22 q_m20 rfl rfl dX4_load_90 ?_
    refine q_bipush F (nI 8) dX4_load_93 (by decide) ?_
    refine q_iload_n F dX4_load_95 rfl ?_
    refine q_imulN F dX4_load_96 ?_
    refine q_iload F dX4_load_97 rfl ?_
    refine q_iaddN F dX4_load_99 ?_
    refine q_iconst F (nI 0) dX4_load_100 (by decide) ?_
    refine q_kast F 5 (_) q_m25 rfl rfl rfl (by omega) (by decide) dX4_load_101 ?_
    rw [k_fill_s _ _ _ _ (fun _ => 0) (nI 0) rfl]
    refine q_iinc_4 F _ dX4_load_102 (q_inc1 _) (by decide) ?_
    exact q_goto F 82 dX4_load_105 (by decide) (ih h86)

set_option maxRecDepth 100000 in
set_option maxHeartbeats 4000000 in
theorem t_mload {G : q_g} {n : Nat} {ad : q_ix → Nat} (l : Launch) (S : q_st) (K : k_t) {x : Int32} {lim : Nat} (hlim : K 0 0 = nI lim) (hlim2 : lim < 2 ^ 30) : q_Ct l G iX4_load [.inr (some (20, 0)), .inl x] (q_w G n ad) (q_put S K) (q_pi (q_w G n ad) (fun r S' => (r = -16 ∧ ¬ (1 ≤ x.toInt ∧ x.toInt ≤ 64) ∧ S' = q_put S K) ∨ (∃ len, 1 ≤ len ∧ len ≤ 64 ∧ x = nI len ∧ ((k_ff K = none ∧ r = -15 ∧ S' = q_put S K) ∨ (∃ p, p < 8 ∧ k_ff K = some p ∧ ((¬ k_fr K + (len + 7) / 8 ≤ lim ∧ r = -13 ∧ S' = q_put S K) ∨ (k_fr K + (len + 7) / 8 ≤ lim ∧ r = nI p ∧ S' = q_put S (k_ld0 K p len (K 0 11))))))))) := by
  refine q_enter (by decide) (Nat.le_of_ble_eq_true rfl) (fun X F E => ?_)
  show q_W G X iX4_load (q_w G n ad) (0, 0) 0 [some (.inr (some (20, 0))), some (.inl x), none, none, none] [] (q_put S K)
  refine q_iload_n F dX4_load_0 rfl ?_
  refine q_iconst F (nI 1) dX4_load_1 (by decide) ?_
  refine q_icmp_lt F 11 dX4_load_2 (by decide) (fun h2 => ?_) (fun h2 => ?_)
  · rw [nI_toInt (by omega)] at h2
    refine q_bipush F (-16) dX4_load_11 (by decide) ?_
    refine q_iret F E rfl (Or.inl ⟨rfl, by omega, rfl⟩) dX4_load_13
  · rw [nI_toInt (by omega)] at h2
    refine q_iload_n F dX4_load_5 rfl ?_
    refine q_bipush F (nI 64) dX4_load_6 (by decide) ?_
    refine q_icmp_le F 14 dX4_load_8 (by decide) (fun h8 => ?_) (fun h8 => ?_)
    · rw [nI_toInt (by omega)] at h8
      obtain ⟨len, hl65, rfl⟩ := q_ofx (x := x) (m := 65) (by decide) (by omega) (by omega)
      rw [nI_toInt (by omega)] at h2 h8
      refine q_aload_n F dX4_load_14 rfl ?_
      refine q_callVi F [] (fun l => t_mfirstFree l S K) clX4_71 rfl q_m20 rfl rfl rfl ⟨Nat.le_of_ble_eq_true rfl, Nat.le_of_ble_eq_true rfl⟩ (Nat.le_of_ble_eq_true rfl) ⟨rfl, rfl⟩ ⟨Nat.zero_le _, Nat.zero_le _⟩ dX4_load_15 (fun v S' hv => ?_)
      obtain ⟨hv, hS⟩ := hv
      subst hS
      subst hv
      rcases f_st_spec (P := fun p => K 2 p = 0) 8 with ⟨hff, -⟩ | ⟨p, hff, hp, -, -⟩
      · refine q_top (-1) (by unfold k_ff; rw [hff]; rfl) ?_
        refine q_istore_n_2 F dX4_load_18 (by decide) ?_
        refine q_iload_n F dX4_load_19 rfl ?_
        refine q_iconst F (-1) dX4_load_20 (by decide) ?_
        refine q_icmp_ne F 27 dX4_load_21 (by decide) (fun h21 => ?_) (fun h21 => ?_)
        · exact absurd rfl h21
        · refine q_bipush F (-15) dX4_load_24 (by decide) ?_
          refine q_iret F E rfl (Or.inr ⟨len, by omega, by omega, rfl, Or.inl ⟨hff, rfl, rfl⟩⟩) dX4_load_26
      · refine q_top (nI p) (by unfold k_ff; rw [hff]; rfl) ?_
        refine q_istore_n_2 F dX4_load_18 (by decide) ?_
        refine q_iload_n F dX4_load_19 rfl ?_
        refine q_iconst F (-1) dX4_load_20 (by decide) ?_
        refine q_icmp_ne F 27 dX4_load_21 (by decide) (fun h21 => ?_) (fun h21 => ?_)
        · refine q_iload_n F dX4_load_27 rfl ?_
          refine q_bipush F (nI 7) dX4_load_28 (by decide) ?_
          refine q_iaddN F dX4_load_30 ?_
          refine q_bipush F (nI 8) dX4_load_31 (by decide) ?_
          refine q_idivN F dX4_load_33 (by omega) (by omega) (by omega) ?_
          refine q_istore_n_3 F dX4_load_34 (by decide) ?_
          refine q_aload_n F dX4_load_35 rfl ?_
          refine q_callVi F [] (fun l => t_mframes l S K) clX4_50 rfl q_m20 rfl rfl rfl ⟨Nat.le_of_ble_eq_true rfl, Nat.le_of_ble_eq_true rfl⟩ (Nat.le_of_ble_eq_true rfl) ⟨rfl, rfl⟩ ⟨Nat.zero_le _, Nat.zero_le _⟩ dX4_load_36 (fun v S' hv => ?_)
          obtain ⟨hv, hS⟩ := hv
          subst hS
          subst hv
          have hfr : k_fr K ≤ 64 := c_n_le _ _
          refine q_iload_n F dX4_load_39 rfl ?_
          refine q_iaddN F dX4_load_40 ?_
          refine q_aload_n F dX4_load_41 rfl ?_
          refine q_kgeti F (k := 0) fkX4_44 rfl dX4_load_42 ?_
          refine q_top (nI lim) hlim ?_
          refine q_icmpN_le F 51 dX4_load_45 (by decide) (by omega) (by omega) (fun h45 => ?_) (fun h45 => ?_)
          · refine q_aload_n F dX4_load_51 rfl ?_
            refine q_getr F (k := 3) fkX4_13 q_m20 rfl rfl dX4_load_52 ?_
            refine q_iload_n F dX4_load_55 rfl ?_
            refine q_iconst F (nI 1) dX4_load_56 (by decide) ?_
            refine q_kast F 2 (_) q_m22 rfl rfl rfl (by omega) (by decide) dX4_load_57 ?_
            refine q_aload_n F dX4_load_58 rfl ?_
            refine q_getr F (k := 4) fkX4_16 q_m20 rfl rfl dX4_load_59 ?_
            refine q_iload_n F dX4_load_62 rfl ?_
            refine q_iconst F (-1) dX4_load_63 (by decide) ?_
            refine q_kast F 3 (_) q_m23 rfl rfl rfl (by omega) (by decide) dX4_load_64 ?_
            refine q_aload_n F dX4_load_65 rfl ?_
            refine q_getr F (k := 7) fkX4_25 q_m20 rfl rfl dX4_load_66 ?_
            refine q_iload_n F dX4_load_69 rfl ?_
            refine q_iconst F (nI 0) dX4_load_70 (by decide) ?_
            refine q_kast F 6 (_) q_m26 rfl rfl rfl (by omega) (by decide) dX4_load_71 ?_
            refine q_aload_n F dX4_load_72 rfl ?_
            refine q_getr F (k := 8) fkX4_28 q_m20 rfl rfl dX4_load_73 ?_
            refine q_iload_n F dX4_load_76 rfl ?_
            refine q_iload_n F dX4_load_77 rfl ?_
            refine q_kast F 7 (_) q_m27 rfl rfl rfl (by omega) (by decide) dX4_load_78 ?_
            refine q_iconst F (nI 0) dX4_load_79 (by decide) ?_
            refine q_istore_4 F dX4_load_80 (by decide) ?_
            have h := lp_load1 F hp (by omega) (by omega) rfl hff h45 E 0 (by decide)
            rw [k_fill_0] at h
            exact h
          · refine q_bipush F (-13) dX4_load_48 (by decide) ?_
            refine q_iret F E rfl (Or.inr ⟨len, by omega, by omega, rfl, Or.inr ⟨p, hp, hff, Or.inl ⟨by omega, rfl, rfl⟩⟩⟩) dX4_load_50
        · exact absurd h21 (q_nm1 (by omega))
    · rw [nI_toInt (by omega)] at h8
      refine q_bipush F (-16) dX4_load_11 (by decide) ?_
      refine q_iret F E rfl (Or.inl ⟨rfl, by omega, rfl⟩) dX4_load_13

def k_f1 (K : k_t) (p a c i : Nat) : k_t := fun b j => if b = 5 ∧ 8 * c ≤ j ∧ j < 8 * c + i then (if j - 8 * c = a then 0 else K 5 (8 * p + (j - 8 * c))) else if b = 9 ∧ 8 * c ≤ j ∧ j < 8 * c + i then K 9 (8 * p + (j - 8 * c)) else K b j
theorem k_f1_0 (K : k_t) (p a c : Nat) : k_f1 K p a c 0 = K := by
  funext b j
  unfold k_f1
  repeat' split
  all_goals first | rfl | (exfalso; omega)
theorem k_f1_s (K : k_t) (p a c i : Nat) (v : Int32) (hv : v = if i = a then 0 else K 5 (8 * p + i)) : k_u (k_u (k_f1 K p a c i) 5 (8 * c + i) v) 9 (8 * c + i) (K 9 (8 * p + i)) = k_f1 K p a c (i + 1) := by
  funext b j
  unfold k_u k_f1
  by_cases h9 : b = 9 ∧ j = 8 * c + i
  · obtain ⟨rfl, rfl⟩ := h9
    rw [if_pos ⟨rfl, rfl⟩, if_neg (by simp), if_pos ⟨rfl, by omega, by omega⟩, show 8 * c + i - 8 * c = i by omega]
  · rw [if_neg h9]
    by_cases h5 : b = 5 ∧ j = 8 * c + i
    · obtain ⟨rfl, rfl⟩ := h5
      rw [if_pos ⟨rfl, rfl⟩, if_pos ⟨rfl, by omega, by omega⟩, hv, show 8 * c + i - 8 * c = i by omega]
    · rw [if_neg h5]
      repeat' split
      all_goals first | rfl | (exfalso; omega)
theorem k_f1_5 (K : k_t) (p a c i k : Nat) (hpc : p ≠ c) (hk : k < 8) : k_f1 K p a c i 5 (8 * p + k) = K 5 (8 * p + k) ∨ 8 < i := by
  by_cases hi : 8 < i
  · exact Or.inr hi
  · left
    unfold k_f1
    rw [if_neg (by omega), if_neg (by simp)]
theorem k_f1_9 (K : k_t) (p a c i k : Nat) (hpc : p ≠ c) (hk : k < 8) (hi : i ≤ 8) : k_f1 K p a c i 9 (8 * p + k) = K 9 (8 * p + k) := by
  unfold k_f1
  rw [if_neg (by simp), if_neg (by omega)]
theorem k_fk0_eq (K : k_t) (p a c : Nat) (ha : a < 8) (hpc : p ≠ c) : k_fill (k_f1 (k_u (k_u (k_u (k_u K 2 c (nI 1)) 3 c (nI p)) 6 c (K 6 p)) 7 c (K 7 p)) p a c 8) 8 (64 * c) 64 (fun x => K 8 (64 * p + (x - 64 * c))) = k_fk0 K p a c := by
  funext b j
  unfold k_fill k_f1 k_u k_fk0
  by_cases h8 : b = 8 ∧ j / 64 = c
  · obtain ⟨rfl, h8⟩ := h8
    rw [if_pos ⟨rfl, by omega, by omega⟩]
    simp only [h8, show j - 64 * c = j % 64 by omega]
    simp
  · rw [if_neg (by rintro ⟨rfl, q1, q2⟩; exact h8 ⟨rfl, by omega⟩)]
    by_cases h5 : b = 5 ∧ j / 8 = c
    · obtain ⟨rfl, h5⟩ := h5
      rw [if_pos ⟨rfl, by omega, by omega⟩]
      simp only [h5, show j - 8 * c = j % 8 by omega]
      simp
    · rw [if_neg (by rintro ⟨rfl, q1, q2⟩; exact h5 ⟨rfl, by omega⟩)]
      by_cases h9 : b = 9 ∧ j / 8 = c
      · obtain ⟨rfl, h9⟩ := h9
        rw [if_pos ⟨rfl, by omega, by omega⟩]
        simp only [h9, show j - 8 * c = j % 8 by omega]
        simp
      · rw [if_neg (by rintro ⟨rfl, q1, q2⟩; exact h9 ⟨rfl, by omega⟩)]
        simp only [h9, h8, h5, if_false]
        repeat' split
        all_goals first | rfl | (exfalso; omega)

set_option maxRecDepth 100000 in
set_option maxHeartbeats 4000000 in
theorem lp_fork2 {G : q_g} {n : Nat} {ad : q_ix → Nat} {X : q_cx} (F : q_fx G X iX4_fork) {S : q_st} {K : k_t} {p a c : Nat} (hp : p < 8) (ha : a < 8) (hc : c < 8) (hpc : p ≠ c) (hff : k_ff K = some c) (E : q_en G X iX4_fork (q_pi (q_w G n ad) (fun r S' => r = (k_fk K p a).1 ∧ S' = q_put S (k_fk K p a).2))) : ∀ i, i ≤ 64 → q_W G X iX4_fork (q_w G n ad) (0, 0) 139 [some (.inr (some (20, 0))), some (.inl (nI p)), some (.inl (nI a)), some (.inl (nI c)), some (.inl (nI i))] [] (q_put S (k_fill (k_f1 (k_u (k_u (k_u (k_u K 2 c (nI 1)) 3 c (nI p)) 6 c (K 6 p)) 7 c (K 7 p)) p a c 8) 8 (64 * c) i (fun x => K 8 (64 * p + (x - 64 * c))))) := by
  refine q_loop (fun i hi ih => ?_)
  refine q_iload F dX4_fork_139 rfl ?_
  refine q_bipush F (nI 64) dX4_fork_141 (by decide) ?_
  refine q_icmpN_ge F 176 dX4_fork_143 (by decide) (by omega) (by omega) (fun h143 => ?_) (fun h143 => ?_)
  · obtain rfl : i = 64 := by omega
    rw [k_fk0_eq _ _ _ _ ha hpc]
    refine q_aload_n F dX4_fork_176 rfl ?_
    refine q_getr F (k := 6) fkX4_22 q_m20 rfl rfl dX4_fork_177 ?_
    refine q_bipush F (nI 8) dX4_fork_180 (by decide) ?_
    refine q_iload_n F dX4_fork_182 rfl ?_
    refine q_imulN F dX4_fork_183 ?_
    refine q_iload_n F dX4_fork_184 rfl ?_
    refine q_iaddN F dX4_fork_185 ?_
    refine q_iload_n F dX4_fork_186 rfl ?_
    refine q_kast F 5 (_) q_m25 rfl rfl rfl (by omega) (by decide) dX4_fork_187 ?_
    refine q_iconst F (nI 3) dX4_fork_188 (by decide) ?_
    refine q_iret F E rfl (by unfold k_fk; rw [hff]; exact ⟨rfl, rfl⟩) dX4_fork_189
  · refine q_aload_n F dX4_fork_146 rfl ?_
    refine q_getr F (k := 9) fkX4_31 q_m20 rfl rfl dX4_fork_147 ?_
    refine q_bipush F (nI 64) dX4_fork_150 (by decide) ?_
    refine q_iload_n F dX4_fork_152 rfl ?_
    refine q_imulN F dX4_fork_153 ?_
    refine q_iload F dX4_fork_154 rfl ?_
    refine q_iaddN F dX4_fork_156 ?_
    refine q_aload_n F dX4_fork_157 rfl ?_
    refine q_getr F (k := 9) fkX4_31 q_m20 rfl rfl dX4_fork_158 ?_
    refine q_bipush F (nI 64) dX4_fork_161 (by decide) ?_
    refine q_iload_n F dX4_fork_163 rfl ?_
    refine q_imulN F dX4_fork_164 ?_
    refine q_iload F dX4_fork_165 rfl ?_
    refine q_iaddN F dX4_fork_167 ?_
    refine q_kald F 8 (_) q_m28 rfl rfl rfl (by omega) (by decide) dX4_fork_168 ?_
    refine q_top (K 8 (64 * p + i)) (by unfold k_fill; rw [if_neg (by omega)]; simp [k_f1, k_u]) ?_
    refine q_kast F 8 (_) q_m28 rfl rfl rfl (by omega) (by decide) dX4_fork_169 ?_
    rw [k_fill_s _ _ _ _ (fun x => K 8 (64 * p + (x - 64 * c))) _ (by rw [show 64 * c + i - 64 * c = i by omega])]
    refine q_iinc_4 F _ dX4_fork_170 (q_inc1 _) (by decide) ?_
    exact q_goto F 139 dX4_fork_173 (by decide) (ih h143)

set_option maxRecDepth 100000 in
set_option maxHeartbeats 4000000 in
theorem lp_fork1 {G : q_g} {n : Nat} {ad : q_ix → Nat} {X : q_cx} (F : q_fx G X iX4_fork) {S : q_st} {K : k_t} {p a c : Nat} (hp : p < 8) (ha : a < 8) (hc : c < 8) (hpc : p ≠ c) (hff : k_ff K = some c) (E : q_en G X iX4_fork (q_pi (q_w G n ad) (fun r S' => r = (k_fk K p a).1 ∧ S' = q_put S (k_fk K p a).2))) : ∀ i, i ≤ 8 → q_W G X iX4_fork (q_w G n ad) (0, 0) 65 [some (.inr (some (20, 0))), some (.inl (nI p)), some (.inl (nI a)), some (.inl (nI c)), some (.inl (nI i))] [] (q_put S (k_f1 (k_u (k_u (k_u (k_u K 2 c (nI 1)) 3 c (nI p)) 6 c (K 6 p)) 7 c (K 7 p)) p a c i)) := by
  refine q_loop (fun i hi ih => ?_)
  refine q_iload F dX4_fork_65 rfl ?_
  refine q_bipush F (nI 8) dX4_fork_67 (by decide) ?_
  refine q_icmpN_ge F 136 dX4_fork_69 (by decide) (by omega) (by omega) (fun h69 => ?_) (fun h69 => ?_)
  · obtain rfl : i = 8 := by omega
    refine q_iconst F (nI 0) dX4_fork_136 (by decide) ?_
    refine q_istore_4 F dX4_fork_137 (by decide) ?_
    have h := lp_fork2 F hp ha hc hpc hff E 0 (by decide)
    rw [k_fill_0] at h
    exact h
  · refine q_aload_n F dX4_fork_72 rfl ?_
    refine q_getr F (k := 6) fkX4_22 q_m20 rfl rfl dX4_fork_73 ?_
    refine q_bipush F (nI 8) dX4_fork_76 (by decide) ?_
    refine q_iload_n F dX4_fork_78 rfl ?_
    refine q_imulN F dX4_fork_79 ?_
    refine q_iload F dX4_fork_80 rfl ?_
    refine q_iaddN F dX4_fork_82 ?_
    refine q_iload F dX4_fork_83 rfl ?_
    refine q_iload_n F dX4_fork_85 rfl ?_
    refine q_icmpN_ne F 93 dX4_fork_86 (by decide) (by omega) (by omega) (fun h86 => ?_) (fun h86 => ?_)
    · refine q_aload_n F dX4_fork_93 rfl ?_
      refine q_getr F (k := 6) fkX4_22 q_m20 rfl rfl dX4_fork_94 ?_
      refine q_bipush F (nI 8) dX4_fork_97 (by decide) ?_
      refine q_iload_n F dX4_fork_99 rfl ?_
      refine q_imulN F dX4_fork_100 ?_
      refine q_iload F dX4_fork_101 rfl ?_
      refine q_iaddN F dX4_fork_103 ?_
      refine q_kald F 5 (_) q_m25 rfl rfl rfl (by omega) (by decide) dX4_fork_104 ?_
      refine q_top ((k_u (k_u (k_u (k_u K 2 c (nI 1)) 3 c (nI p)) 6 c (K 6 p)) 7 c (K 7 p)) 5 (8 * p + i)) (k_f1_5 _ _ _ _ _ _ hpc h69 |>.resolve_right (by omega)) ?_
      refine q_kast F 5 (_) q_m25 rfl rfl rfl (by omega) (by decide) dX4_fork_105 ?_
      refine q_aload_n F dX4_fork_106 rfl ?_
      refine q_getr F (k := 10) fkX4_34 q_m20 rfl rfl dX4_fork_107 ?_
      refine q_bipush F (nI 8) dX4_fork_110 (by decide) ?_
      refine q_iload_n F dX4_fork_112 rfl ?_
      refine q_imulN F dX4_fork_113 ?_
      refine q_iload F dX4_fork_114 rfl ?_
      refine q_iaddN F dX4_fork_116 ?_
      refine q_aload_n F dX4_fork_117 rfl ?_
      refine q_getr F (k := 10) fkX4_34 q_m20 rfl rfl dX4_fork_118 ?_
      refine q_bipush F (nI 8) dX4_fork_121 (by decide) ?_
      refine q_iload_n F dX4_fork_123 rfl ?_
      refine q_imulN F dX4_fork_124 ?_
      refine q_iload F dX4_fork_125 rfl ?_
      refine q_iaddN F dX4_fork_127 ?_
      refine q_kald F 9 (_) q_m29 rfl rfl rfl (by omega) (by decide) dX4_fork_128 ?_
      refine q_top ((k_u (k_u (k_u (k_u K 2 c (nI 1)) 3 c (nI p)) 6 c (K 6 p)) 7 c (K 7 p)) 9 (8 * p + i)) (by rw [k_u_ne _ _ _ _ (by simp)]; exact k_f1_9 _ _ _ _ _ _ hpc h69 (by omega)) ?_
      refine q_kast F 9 (_) q_m29 rfl rfl rfl (by omega) (by decide) dX4_fork_129 ?_
      rw [k_f1_s _ _ _ _ _ _ (by first | (rw [if_pos h86]; rfl) | rw [if_neg h86])]
      refine q_iinc_4 F _ dX4_fork_130 (q_inc1 _) (by decide) ?_
      exact q_goto F 65 dX4_fork_133 (by decide) (ih h69)
    · refine q_iconst F (nI 0) dX4_fork_89 (by decide) ?_
      refine q_goto F 105 dX4_fork_90 (by decide) ?_
      refine q_kast F 5 (_) q_m25 rfl rfl rfl (by omega) (by decide) dX4_fork_105 ?_
      refine q_aload_n F dX4_fork_106 rfl ?_
      refine q_getr F (k := 10) fkX4_34 q_m20 rfl rfl dX4_fork_107 ?_
      refine q_bipush F (nI 8) dX4_fork_110 (by decide) ?_
      refine q_iload_n F dX4_fork_112 rfl ?_
      refine q_imulN F dX4_fork_113 ?_
      refine q_iload F dX4_fork_114 rfl ?_
      refine q_iaddN F dX4_fork_116 ?_
      refine q_aload_n F dX4_fork_117 rfl ?_
      refine q_getr F (k := 10) fkX4_34 q_m20 rfl rfl dX4_fork_118 ?_
      refine q_bipush F (nI 8) dX4_fork_121 (by decide) ?_
      refine q_iload_n F dX4_fork_123 rfl ?_
      refine q_imulN F dX4_fork_124 ?_
      refine q_iload F dX4_fork_125 rfl ?_
      refine q_iaddN F dX4_fork_127 ?_
      refine q_kald F 9 (_) q_m29 rfl rfl rfl (by omega) (by decide) dX4_fork_128 ?_
      refine q_top ((k_u (k_u (k_u (k_u K 2 c (nI 1)) 3 c (nI p)) 6 c (K 6 p)) 7 c (K 7 p)) 9 (8 * p + i)) (by rw [k_u_ne _ _ _ _ (by simp)]; exact k_f1_9 _ _ _ _ _ _ hpc h69 (by omega)) ?_
      refine q_kast F 9 (_) q_m29 rfl rfl rfl (by omega) (by decide) dX4_fork_129 ?_
      rw [k_f1_s _ _ _ _ _ _ (by first | (rw [if_pos h86]; rfl) | rw [if_neg h86])]
      refine q_iinc_4 F _ dX4_fork_130 (q_inc1 _) (by decide) ?_
      exact q_goto F 65 dX4_fork_133 (by decide) (ih h69)

set_option maxRecDepth 100000 in
set_option maxHeartbeats 4000000 in
theorem t_mfork {G : q_g} {n : Nat} {ad : q_ix → Nat} (l : Launch) (S : q_st) (K : k_t) {p a : Nat} (hp : p < 8) (ha : a < 8) (hst : ¬ K 2 p = 0) : q_Ct l G iX4_fork [.inr (some (20, 0)), .inl (nI p), .inl (nI a)] (q_w G n ad) (q_put S K) (q_pi (q_w G n ad) (fun r S' => r = (k_fk K p a).1 ∧ S' = q_put S (k_fk K p a).2)) := by
  refine q_enter (by decide) (Nat.le_of_ble_eq_true rfl) (fun X F E => ?_)
  show q_W G X iX4_fork (q_w G n ad) (0, 0) 0 [some (.inr (some (20, 0))), some (.inl (nI p)), some (.inl (nI a)), none, none] [] (q_put S K)
  refine q_aload_n F dX4_fork_0 rfl ?_
  refine q_callVi F [] (fun l => t_mfirstFree l S K) clX4_71 rfl q_m20 rfl rfl rfl ⟨Nat.le_of_ble_eq_true rfl, Nat.le_of_ble_eq_true rfl⟩ (Nat.le_of_ble_eq_true rfl) ⟨rfl, rfl⟩ ⟨Nat.zero_le _, Nat.zero_le _⟩ dX4_fork_1 (fun v S' hv => ?_)
  obtain ⟨hv, hS⟩ := hv
  subst hS
  subst hv
  rcases f_st_spec (P := fun p => K 2 p = 0) 8 with ⟨hff, -⟩ | ⟨c, hff, hc, hc0, -⟩
  · refine q_top (-1) (by unfold k_ff; rw [hff]; rfl) ?_
    refine q_istore_n_3 F dX4_fork_4 (by decide) ?_
    refine q_iload_n F dX4_fork_5 rfl ?_
    refine q_iconst F (-1) dX4_fork_6 (by decide) ?_
    refine q_icmp_ne F 24 dX4_fork_7 (by decide) (fun h7 => ?_) (fun h7 => ?_)
    · exact absurd rfl h7
    · refine q_aload_n F dX4_fork_10 rfl ?_
      refine q_getr F (k := 6) fkX4_22 q_m20 rfl rfl dX4_fork_11 ?_
      refine q_bipush F (nI 8) dX4_fork_14 (by decide) ?_
      refine q_iload_n F dX4_fork_16 rfl ?_
      refine q_imulN F dX4_fork_17 ?_
      refine q_iload_n F dX4_fork_18 rfl ?_
      refine q_iaddN F dX4_fork_19 ?_
      refine q_iconst F (-1) dX4_fork_20 (by decide) ?_
      refine q_kast F 5 (_) q_m25 rfl rfl rfl (by omega) (by decide) dX4_fork_21 ?_
      refine q_iconst F (nI 1) dX4_fork_22 (by decide) ?_
      refine q_iret F E rfl (by unfold k_fk k_ff; rw [hff]; exact ⟨rfl, rfl⟩) dX4_fork_23
  · refine q_top (nI c) (by unfold k_ff; rw [hff]; rfl) ?_
    have hpc : p ≠ c := by rintro rfl; exact hst hc0
    refine q_istore_n_3 F dX4_fork_4 (by decide) ?_
    refine q_iload_n F dX4_fork_5 rfl ?_
    refine q_iconst F (-1) dX4_fork_6 (by decide) ?_
    refine q_icmp_ne F 24 dX4_fork_7 (by decide) (fun h7 => ?_) (fun h7 => ?_)
    · refine q_aload_n F dX4_fork_24 rfl ?_
      refine q_getr F (k := 3) fkX4_13 q_m20 rfl rfl dX4_fork_25 ?_
      refine q_iload_n F dX4_fork_28 rfl ?_
      refine q_iconst F (nI 1) dX4_fork_29 (by decide) ?_
      refine q_kast F 2 (_) q_m22 rfl rfl rfl (by omega) (by decide) dX4_fork_30 ?_
      refine q_aload_n F dX4_fork_31 rfl ?_
      refine q_getr F (k := 4) fkX4_16 q_m20 rfl rfl dX4_fork_32 ?_
      refine q_iload_n F dX4_fork_35 rfl ?_
      refine q_iload_n F dX4_fork_36 rfl ?_
      refine q_kast F 3 (_) q_m23 rfl rfl rfl (by omega) (by decide) dX4_fork_37 ?_
      refine q_aload_n F dX4_fork_38 rfl ?_
      refine q_getr F (k := 7) fkX4_25 q_m20 rfl rfl dX4_fork_39 ?_
      refine q_iload_n F dX4_fork_42 rfl ?_
      refine q_aload_n F dX4_fork_43 rfl ?_
      refine q_getr F (k := 7) fkX4_25 q_m20 rfl rfl dX4_fork_44 ?_
      refine q_iload_n F dX4_fork_47 rfl ?_
      refine q_kald F 6 (_) q_m26 rfl rfl rfl (by omega) (by decide) dX4_fork_48 ?_
      refine q_top (K 6 p) (by simp [k_u]) ?_
      refine q_kast F 6 (_) q_m26 rfl rfl rfl (by omega) (by decide) dX4_fork_49 ?_
      refine q_aload_n F dX4_fork_50 rfl ?_
      refine q_getr F (k := 8) fkX4_28 q_m20 rfl rfl dX4_fork_51 ?_
      refine q_iload_n F dX4_fork_54 rfl ?_
      refine q_aload_n F dX4_fork_55 rfl ?_
      refine q_getr F (k := 8) fkX4_28 q_m20 rfl rfl dX4_fork_56 ?_
      refine q_iload_n F dX4_fork_59 rfl ?_
      refine q_kald F 7 (_) q_m27 rfl rfl rfl (by omega) (by decide) dX4_fork_60 ?_
      refine q_top (K 7 p) (by simp [k_u]) ?_
      refine q_kast F 7 (_) q_m27 rfl rfl rfl (by omega) (by decide) dX4_fork_61 ?_
      refine q_iconst F (nI 0) dX4_fork_62 (by decide) ?_
      refine q_istore_4 F dX4_fork_63 (by decide) ?_
      have h := lp_fork1 F hp ha hc hpc hff E 0 (by decide)
      rw [k_f1_0] at h
      exact h
    · exact absurd h7 (q_nm1 (by omega))
end
section
/-! the reference: grow, await (rows laid by wip/whole/m43.py) -/
theorem k_gr0_eq (K : k_t) (p a b : Nat) : k_rz (k_u (k_u K 5 (8 * p + a) (K 7 p)) 7 p (nI b)) p b 8 = k_gr0 K p a b := by
  funext c j
  unfold k_rz k_gr0
  repeat' split
  all_goals first | rfl | (exfalso; omega)
theorem k_cl_eq (K : k_t) (p b : Nat) : k_fill K 8 (64 * p + b) (8 * (b / 8 + 1) - b) (fun _ => 0) = k_cl K p b := by
  funext c j
  unfold k_fill k_cl
  repeat' split
  all_goals first | rfl | (exfalso; omega)

set_option maxRecDepth 100000 in
set_option maxHeartbeats 4000000 in
theorem lp_grow_181 {G : q_g} {n : Nat} {ad : q_ix → Nat} {X : q_cx} (F : q_fx G X iX4_grow) {S : q_st} {K : k_t} {p a b0 b : Nat} {c : Int32} {z : Option q_v} {Q : q_st → Prop} (hp : p < 8) (hb : b < 64) (h8 : ¬ b % 8 = 0) (E : q_en G X iX4_grow (q_pv (q_w G n ad) Q)) (hQ : Q (q_put S (k_cl K p b))) : ∀ t, t ≤ 8 * (b / 8 + 1) - b → q_W G X iX4_grow (q_w G n ad) (0, 0) 181 [some (.inr (some (20, 0))), some (.inl (nI p)), some (.inl (nI a)), some (.inl c), some (.inl (nI b0)), some (.inl (nI b)), z, some (.inl (nI (b + t)))] [] (q_put S (k_fill K 8 (64 * p + b) t (fun _ => 0))) := by
  refine q_loop (fun t ht ih => ?_)
  refine q_iload F dX4_grow_181 rfl ?_
  refine q_bipush F (nI 8) dX4_grow_183 (by decide) ?_
  refine q_iremN F dX4_grow_185 (by omega) (by omega) (by omega) ?_
  refine q_ifN_eq F 208 dX4_grow_186 (by decide) (by omega) (fun h186 => ?_) (fun h186 => ?_)
  · obtain rfl : t = 8 * (b / 8 + 1) - b := by omega
    refine q_vret F E rfl (by rw [k_cl_eq]; exact hQ) dX4_grow_208
  · refine q_aload_n F dX4_grow_189 rfl ?_
    refine q_getr F (k := 9) fkX4_31 q_m20 rfl rfl dX4_grow_190 ?_
    refine q_bipush F (nI 64) dX4_grow_193 (by decide) ?_
    refine q_iload_n F dX4_grow_195 rfl ?_
    refine q_imulN F dX4_grow_196 ?_
    refine q_iload F dX4_grow_197 rfl ?_
    refine q_iaddN F dX4_grow_199 ?_
    refine q_iconst F (nI 0) dX4_grow_200 (by decide) ?_
    refine q_kast F 8 (64 * p + b + t) q_m28 rfl rfl (by rw [Nat.add_assoc]) (by omega) (by decide) dX4_grow_201 ?_
    rw [k_fill_s _ _ _ _ (fun _ => 0) (nI 0) rfl]
    refine q_iinc_7 F _ dX4_grow_202 (q_inc1 _) (by decide) ?_
    exact q_goto F 181 dX4_grow_205 (by decide) (ih (by omega))

set_option maxRecDepth 100000 in
set_option maxHeartbeats 4000000 in
theorem lp_grow_103 {G : q_g} {n : Nat} {ad : q_ix → Nat} {X : q_cx} (F : q_fx G X iX4_grow) {S : q_st} {K : k_t} {p a b0 b : Nat} {c v : Int32} (hp : p < 8) (hb : b ≤ 64) (kk : q_W G X iX4_grow (q_w G n ad) (0, 0) 137 [some (.inr (some (20, 0))), some (.inl (nI p)), some (.inl (nI a)), some (.inl c), some (.inl (nI b0)), some (.inl (nI b)), some (.inl v), none] [] (q_put S (k_rz K p b 8))) : ∀ i, i ≤ 8 → q_W G X iX4_grow (q_w G n ad) (0, 0) 103 [some (.inr (some (20, 0))), some (.inl (nI p)), some (.inl (nI a)), some (.inl c), some (.inl (nI b0)), some (.inl (nI b)), some (.inl v), some (.inl (nI i))] [] (q_put S (k_rz K p b i)) := by
  refine q_loop (fun i hi ih => ?_)
  refine q_iload F dX4_grow_103 rfl ?_
  refine q_bipush F (nI 8) dX4_grow_105 (by decide) ?_
  refine q_icmpN_ge F 137 dX4_grow_107 (by decide) (by omega) (by omega) (fun h107 => ?_) (fun h107 => ?_)
  · obtain rfl : i = 8 := by omega
    exact q_drop_7 kk
  · refine q_bipush F (nI 8) dX4_grow_110 (by decide) ?_
    refine q_iload F dX4_grow_112 rfl ?_
    refine q_imulN F dX4_grow_114 ?_
    refine q_iload F dX4_grow_115 rfl ?_
    refine q_icmpN_lt F 131 dX4_grow_117 (by decide) (by omega) (by omega) (fun h117 => ?_) (fun h117 => ?_)
    · rw [k_rz_n _ _ _ _ h107 h117]
      refine q_iinc_7 F _ dX4_grow_131 (q_inc1 _) (by decide) ?_
      exact q_goto F 103 dX4_grow_134 (by decide) (ih h107)
    · refine q_aload_n F dX4_grow_120 rfl ?_
      refine q_bipush F (nI 8) dX4_grow_121 (by decide) ?_
      refine q_iload_n F dX4_grow_123 rfl ?_
      refine q_imulN F dX4_grow_124 ?_
      refine q_iload F dX4_grow_125 rfl ?_
      refine q_iaddN F dX4_grow_127 ?_
      refine q_callVv F [.inl (nI (8 * p + i))] (fun l => t_release l S _ (by omega)) clX4_74 rfl q_m20 rfl rfl rfl ⟨Nat.le_of_ble_eq_true rfl, Nat.le_of_ble_eq_true rfl⟩ (Nat.le_of_ble_eq_true rfl) ⟨rfl, rfl⟩ ⟨Nat.zero_le _, Nat.zero_le _⟩ dX4_grow_128 (fun S' hS => ?_)
      subst hS
      rw [k_rz_s _ _ _ _ h107 h117]
      refine q_iinc_7 F _ dX4_grow_131 (q_inc1 _) (by decide) ?_
      exact q_goto F 103 dX4_grow_134 (by decide) (ih h107)

theorem k_gr_in {K : k_t} {p a b0 b : Nat} {c : Int32} (hb0 : K 7 p = nI b0) (hbe : nI b0 + c = nI b) (hb : b ≤ 64) : k_gr K p a c = @ite _ ((nI b).toInt < (nI b0).toInt ∧ b % 8 ≠ 0 ∧ 0 < (K 9 (8 * p + b / 8)).toInt) (Classical.propDecidable _) (k_gr1 (k_gr0 K p a b) p b) (k_gr0 K p a b) := by
  unfold k_gr
  rw [hb0, hbe, nI_toInt (n := b) (by omega), Int.toNat_natCast, if_neg (by omega)]

set_option maxRecDepth 100000 in
set_option maxHeartbeats 4000000 in
theorem lp_grow_137a {G : q_g} {n : Nat} {ad : q_ix → Nat} {X : q_cx} (F : q_fx G X iX4_grow) {S : q_st} {K : k_t} {p a b0 b : Nat} {c : Int32} (hp : p < 8) (hb0 : K 7 p = nI b0) (hbe : nI b0 + c = nI b) (hb : b ≤ 64) (E : q_en G X iX4_grow (q_pv (q_w G n ad) (fun S' => S' = q_put S (k_gr K p a c)))) (hno : ¬ ((nI b).toInt < (nI b0).toInt ∧ b % 8 ≠ 0 ∧ 0 < (K 9 (8 * p + b / 8)).toInt)) : q_W G X iX4_grow (q_w G n ad) (0, 0) 137 [some (.inr (some (20, 0))), some (.inl (nI p)), some (.inl (nI a)), some (.inl c), some (.inl (nI b0)), some (.inl (nI b)), some (.inl (nI 0)), none] [] (q_put S (k_gr0 K p a b)) := by
  refine q_iload F dX4_grow_137 rfl ?_
  refine q_ifN_eq F 208 dX4_grow_139 (by decide) (by omega) (fun h139 => ?_) (fun h139 => ?_)
  · refine q_vret F E rfl (by rw [k_gr_in hb0 hbe hb, if_neg hno]) dX4_grow_208
  · exact absurd h139 (by decide)

set_option maxRecDepth 100000 in
set_option maxHeartbeats 4000000 in
theorem lp_grow_137b {G : q_g} {n : Nat} {ad : q_ix → Nat} {X : q_cx} (F : q_fx G X iX4_grow) {S : q_st} {K : k_t} {p a b0 b : Nat} {c : Int32} (hp : p < 8) (hb0 : K 7 p = nI b0) (hbe : nI b0 + c = nI b) (hb : b ≤ 64) (E : q_en G X iX4_grow (q_pv (q_w G n ad) (fun S' => S' = q_put S (k_gr K p a c)))) (hb64 : b < 64) (hyes : (nI b).toInt < (nI b0).toInt ∧ b % 8 ≠ 0 ∧ 0 < (K 9 (8 * p + b / 8)).toInt) : q_W G X iX4_grow (q_w G n ad) (0, 0) 137 [some (.inr (some (20, 0))), some (.inl (nI p)), some (.inl (nI a)), some (.inl c), some (.inl (nI b0)), some (.inl (nI b)), some (.inl (nI 1)), none] [] (q_put S (k_gr0 K p a b)) := by
  have e := k_gr_in (a := a) hb0 hbe hb
  rw [if_pos hyes] at e
  refine q_iload F dX4_grow_137 rfl ?_
  refine q_ifN_eq F 208 dX4_grow_139 (by decide) (by omega) (fun h139 => ?_) (fun h139 => ?_)
  · exact absurd h139 (by decide)
  · refine q_aload_n F dX4_grow_142 rfl ?_
    refine q_bipush F (nI 8) dX4_grow_143 (by decide) ?_
    refine q_iload_n F dX4_grow_145 rfl ?_
    refine q_imulN F dX4_grow_146 ?_
    refine q_iload F dX4_grow_147 rfl ?_
    refine q_bipush F (nI 8) dX4_grow_149 (by decide) ?_
    refine q_idivN F dX4_grow_151 (by omega) (by omega) (by omega) ?_
    refine q_iaddN F dX4_grow_152 ?_
    refine q_callVi F [.inl (nI (8 * p + b / 8))] (fun l => t_sharers l S _ (by omega)) clX4_60 rfl q_m20 rfl rfl rfl ⟨Nat.le_of_ble_eq_true rfl, Nat.le_of_ble_eq_true rfl⟩ (Nat.le_of_ble_eq_true rfl) ⟨rfl, rfl⟩ ⟨Nat.zero_le _, Nat.zero_le _⟩ dX4_grow_153 (fun v S' hv => ?_)
    obtain ⟨hv, hS⟩ := hv
    subst hS
    subst hv
    have hsh : k_sh (k_gr0 K p a b) (8 * p + b / 8) ≤ 64 := c_n_le _ _
    refine q_iconst F (nI 1) dX4_grow_156 (by decide) ?_
    refine q_icmpN_eq F 177 dX4_grow_157 (by decide) (by omega) (by omega) (fun h157 => ?_) (fun h157 => ?_)
    · refine q_iload F dX4_grow_177 rfl ?_
      refine q_istore_7 F dX4_grow_179 (by decide) ?_
      have h := lp_grow_181 (a := a) (b0 := b0) (c := c) (z := some (.inl (nI 1))) F hp hb64 hyes.2.1 E (show _ = _ from by rw [e]; unfold k_gr1; rw [if_pos h157]) 0 (Nat.zero_le _)
      rw [k_fill_0] at h
      exact h
    · refine q_aload_n F dX4_grow_160 rfl ?_
      refine q_bipush F (nI 8) dX4_grow_161 (by decide) ?_
      refine q_iload_n F dX4_grow_163 rfl ?_
      refine q_imulN F dX4_grow_164 ?_
      refine q_iload F dX4_grow_165 rfl ?_
      refine q_bipush F (nI 8) dX4_grow_167 (by decide) ?_
      refine q_idivN F dX4_grow_169 (by omega) (by omega) (by omega) ?_
      refine q_iaddN F dX4_grow_170 ?_
      refine q_callVi F [.inl (nI (8 * p + b / 8))] (fun l => t_alone l S _ (by omega)) clX4_64 rfl q_m20 rfl rfl rfl ⟨Nat.le_of_ble_eq_true rfl, Nat.le_of_ble_eq_true rfl⟩ (Nat.le_of_ble_eq_true rfl) ⟨rfl, rfl⟩ ⟨Nat.zero_le _, Nat.zero_le _⟩ dX4_grow_171 (fun v S' hv => ?_)
      obtain ⟨hv, hS⟩ := hv
      subst hS
      rcases hv with ⟨rfl, hal⟩ | ⟨rfl, hal⟩
      · refine q_ifN_eq F 208 dX4_grow_174 (by decide) (by omega) (fun h174 => ?_) (fun h174 => ?_)
        · refine q_vret F E rfl (by rw [e]; unfold k_gr1; rw [if_neg h157, hal]; rfl) dX4_grow_208
        · exact absurd h174 (by decide)
      · refine q_ifN_eq F 208 dX4_grow_174 (by decide) (by omega) (fun h174 => ?_) (fun h174 => ?_)
        · exact absurd h174 (by decide)
        · refine q_iload F dX4_grow_177 rfl ?_
          refine q_istore_7 F dX4_grow_179 (by decide) ?_
          have h := lp_grow_181 (a := a) (b0 := b0) (c := c) (z := some (.inl (nI 1))) F hp hb64 hyes.2.1 E (show _ = _ from by rw [e]; unfold k_gr1; rw [if_neg h157, if_pos hal]) 0 (Nat.zero_le _)
          rw [k_fill_0] at h
          exact h

set_option maxRecDepth 100000 in
set_option maxHeartbeats 4000000 in
theorem t_mgrow {G : q_g} {n : Nat} {ad : q_ix → Nat} (l : Launch) (S : q_st) (K : k_t) {p a b0 : Nat} {c : Int32} (hp : p < 8) (ha : a < 8) (hb0 : K 7 p = nI b0) (hb064 : b0 ≤ 64) : q_Ct l G iX4_grow [.inr (some (20, 0)), .inl (nI p), .inl (nI a), .inl c] (q_w G n ad) (q_put S K) (q_pv (q_w G n ad) (fun S' => S' = q_put S (k_gr K p a c))) := by
  refine q_enter (by decide) (Nat.le_of_ble_eq_true rfl) (fun X F E => ?_)
  show q_W G X iX4_grow (q_w G n ad) (0, 0) 0 [some (.inr (some (20, 0))), some (.inl (nI p)), some (.inl (nI a)), some (.inl c), none, none, none, none] [] (q_put S K)
  refine q_aload_n F dX4_grow_0 rfl ?_
  refine q_getr F (k := 8) fkX4_28 q_m20 rfl rfl dX4_grow_1 ?_
  refine q_iload_n F dX4_grow_4 rfl ?_
  refine q_kald F 7 (_) q_m27 rfl rfl rfl (by omega) (by decide) dX4_grow_5 ?_
  refine q_top (nI b0) hb0 ?_
  refine q_istore_4 F dX4_grow_6 (by decide) ?_
  refine q_iload F dX4_grow_8 rfl ?_
  refine q_iload_n F dX4_grow_10 rfl ?_
  refine q_iadd F dX4_grow_11 ?_
  refine q_istore_5 F dX4_grow_12 (by decide) ?_
  refine q_iload F dX4_grow_14 rfl ?_
  refine q_if_lt F 26 dX4_grow_16 (by decide) (fun h16 => ?_) (fun h16 => ?_)
  · refine q_aload_n F dX4_grow_26 rfl ?_
    refine q_getr F (k := 6) fkX4_22 q_m20 rfl rfl dX4_grow_27 ?_
    refine q_bipush F (nI 8) dX4_grow_30 (by decide) ?_
    refine q_iload_n F dX4_grow_32 rfl ?_
    refine q_imulN F dX4_grow_33 ?_
    refine q_iload_n F dX4_grow_34 rfl ?_
    refine q_iaddN F dX4_grow_35 ?_
    refine q_iconst F (-1) dX4_grow_36 (by decide) ?_
    refine q_kast F 5 (_) q_m25 rfl rfl rfl (by omega) (by decide) dX4_grow_37 ?_
    refine q_vret F E rfl (by unfold k_gr; rw [hb0, if_pos (by omega)]) dX4_grow_38
  · refine q_iload F dX4_grow_19 rfl ?_
    refine q_bipush F (nI 64) dX4_grow_21 (by decide) ?_
    refine q_icmp_le F 39 dX4_grow_23 (by decide) (fun h23 => ?_) (fun h23 => ?_)
    · rw [nI_toInt (by omega)] at h23
      obtain ⟨b, hb65, hbe⟩ := q_ofx (x := nI b0 + c) (m := 65) (by decide) h16 (by omega)
      rw [hbe] at h16 h23 ⊢
      refine q_aload_n F dX4_grow_39 rfl ?_
      refine q_getr F (k := 6) fkX4_22 q_m20 rfl rfl dX4_grow_40 ?_
      refine q_bipush F (nI 8) dX4_grow_43 (by decide) ?_
      refine q_iload_n F dX4_grow_45 rfl ?_
      refine q_imulN F dX4_grow_46 ?_
      refine q_iload_n F dX4_grow_47 rfl ?_
      refine q_iaddN F dX4_grow_48 ?_
      refine q_iload F dX4_grow_49 rfl ?_
      refine q_kast F 5 (_) q_m25 rfl rfl rfl (by omega) (by decide) dX4_grow_51 ?_
      refine q_iload F dX4_grow_52 rfl ?_
      refine q_iload F dX4_grow_54 rfl ?_
      refine q_icmpN_ge F 89 dX4_grow_56 (by decide) (by omega) (by omega) (fun h56 => ?_) (fun h56 => ?_)
      · have hno : ¬ ((nI b).toInt < (nI b0).toInt ∧ b % 8 ≠ 0 ∧ 0 < (K 9 (8 * p + b / 8)).toInt) := by rw [nI_toInt (n := b) (by omega), nI_toInt (n := b0) (by omega)]; omega
        refine q_iconst F (nI 0) dX4_grow_89 (by decide) ?_
        refine q_istore_6 F dX4_grow_90 (by decide) ?_
        refine q_aload_n F dX4_grow_92 rfl ?_
        refine q_getr F (k := 8) fkX4_28 q_m20 rfl rfl dX4_grow_93 ?_
        refine q_iload_n F dX4_grow_96 rfl ?_
        refine q_iload F dX4_grow_97 rfl ?_
        refine q_kast F 7 (_) q_m27 rfl rfl rfl (by omega) (by decide) dX4_grow_99 ?_
        refine q_iconst F (nI 0) dX4_grow_100 (by decide) ?_
        refine q_istore_7 F dX4_grow_101 (by decide) ?_
        have h := lp_grow_103 (a := a) (b0 := b0) (c := c) (v := nI 0) F hp (show b ≤ 64 by omega) (K := k_u (k_u K 5 (8 * p + a) (nI b0)) 7 p (nI b)) (S := S) (by have e0 := k_gr0_eq K p a b; rw [hb0] at e0; rw [e0]; exact q_drop_7 (lp_grow_137a F hp hb0 hbe (by omega) E hno)) 0 (by decide)
        rw [k_rz_0] at h
        exact h
      · refine q_iload F dX4_grow_59 rfl ?_
        refine q_bipush F (nI 8) dX4_grow_61 (by decide) ?_
        refine q_iremN F dX4_grow_63 (by omega) (by omega) (by omega) ?_
        refine q_ifN_eq F 89 dX4_grow_64 (by decide) (by omega) (fun h64 => ?_) (fun h64 => ?_)
        · have hno : ¬ ((nI b).toInt < (nI b0).toInt ∧ b % 8 ≠ 0 ∧ 0 < (K 9 (8 * p + b / 8)).toInt) := fun q => q.2.1 h64
          refine q_iconst F (nI 0) dX4_grow_89 (by decide) ?_
          refine q_istore_6 F dX4_grow_90 (by decide) ?_
          refine q_aload_n F dX4_grow_92 rfl ?_
          refine q_getr F (k := 8) fkX4_28 q_m20 rfl rfl dX4_grow_93 ?_
          refine q_iload_n F dX4_grow_96 rfl ?_
          refine q_iload F dX4_grow_97 rfl ?_
          refine q_kast F 7 (_) q_m27 rfl rfl rfl (by omega) (by decide) dX4_grow_99 ?_
          refine q_iconst F (nI 0) dX4_grow_100 (by decide) ?_
          refine q_istore_7 F dX4_grow_101 (by decide) ?_
          have h := lp_grow_103 (a := a) (b0 := b0) (c := c) (v := nI 0) F hp (show b ≤ 64 by omega) (K := k_u (k_u K 5 (8 * p + a) (nI b0)) 7 p (nI b)) (S := S) (by have e0 := k_gr0_eq K p a b; rw [hb0] at e0; rw [e0]; exact q_drop_7 (lp_grow_137a F hp hb0 hbe (by omega) E hno)) 0 (by decide)
          rw [k_rz_0] at h
          exact h
        · refine q_aload_n F dX4_grow_67 rfl ?_
          refine q_getr F (k := 10) fkX4_34 q_m20 rfl rfl dX4_grow_68 ?_
          refine q_bipush F (nI 8) dX4_grow_71 (by decide) ?_
          refine q_iload_n F dX4_grow_73 rfl ?_
          refine q_imulN F dX4_grow_74 ?_
          refine q_iload F dX4_grow_75 rfl ?_
          refine q_bipush F (nI 8) dX4_grow_77 (by decide) ?_
          refine q_idivN F dX4_grow_79 (by omega) (by omega) (by omega) ?_
          refine q_iaddN F dX4_grow_80 ?_
          refine q_kald F 9 (_) q_m29 rfl rfl rfl (by omega) (by decide) dX4_grow_81 ?_
          refine q_top (K 9 (8 * p + b / 8)) (by simp [k_u]) ?_
          refine q_if_le F 89 dX4_grow_82 (by decide) (fun h82 => ?_) (fun h82 => ?_)
          · have hno : ¬ ((nI b).toInt < (nI b0).toInt ∧ b % 8 ≠ 0 ∧ 0 < (K 9 (8 * p + b / 8)).toInt) := fun q => by have := q.2.2; omega
            refine q_iconst F (nI 0) dX4_grow_89 (by decide) ?_
            refine q_istore_6 F dX4_grow_90 (by decide) ?_
            refine q_aload_n F dX4_grow_92 rfl ?_
            refine q_getr F (k := 8) fkX4_28 q_m20 rfl rfl dX4_grow_93 ?_
            refine q_iload_n F dX4_grow_96 rfl ?_
            refine q_iload F dX4_grow_97 rfl ?_
            refine q_kast F 7 (_) q_m27 rfl rfl rfl (by omega) (by decide) dX4_grow_99 ?_
            refine q_iconst F (nI 0) dX4_grow_100 (by decide) ?_
            refine q_istore_7 F dX4_grow_101 (by decide) ?_
            have h := lp_grow_103 (a := a) (b0 := b0) (c := c) (v := nI 0) F hp (show b ≤ 64 by omega) (K := k_u (k_u K 5 (8 * p + a) (nI b0)) 7 p (nI b)) (S := S) (by have e0 := k_gr0_eq K p a b; rw [hb0] at e0; rw [e0]; exact q_drop_7 (lp_grow_137a F hp hb0 hbe (by omega) E hno)) 0 (by decide)
            rw [k_rz_0] at h
            exact h
          · have hyes : (nI b).toInt < (nI b0).toInt ∧ b % 8 ≠ 0 ∧ 0 < (K 9 (8 * p + b / 8)).toInt := ⟨by rw [nI_toInt (n := b) (by omega), nI_toInt (n := b0) (by omega)]; omega, h64, h82⟩
            refine q_iconst F (nI 1) dX4_grow_85 (by decide) ?_
            refine q_goto F 90 dX4_grow_86 (by decide) ?_
            refine q_istore_6 F dX4_grow_90 (by decide) ?_
            refine q_aload_n F dX4_grow_92 rfl ?_
            refine q_getr F (k := 8) fkX4_28 q_m20 rfl rfl dX4_grow_93 ?_
            refine q_iload_n F dX4_grow_96 rfl ?_
            refine q_iload F dX4_grow_97 rfl ?_
            refine q_kast F 7 (_) q_m27 rfl rfl rfl (by omega) (by decide) dX4_grow_99 ?_
            refine q_iconst F (nI 0) dX4_grow_100 (by decide) ?_
            refine q_istore_7 F dX4_grow_101 (by decide) ?_
            have h := lp_grow_103 (a := a) (b0 := b0) (c := c) (v := nI 1) F hp (show b ≤ 64 by omega) (K := k_u (k_u K 5 (8 * p + a) (nI b0)) 7 p (nI b)) (S := S) (by have e0 := k_gr0_eq K p a b; rw [hb0] at e0; rw [e0]; exact q_drop_7 (lp_grow_137b F hp hb0 hbe (by omega) E (by omega) hyes)) 0 (by decide)
            rw [k_rz_0] at h
            exact h
    · rw [nI_toInt (by omega)] at h23
      refine q_aload_n F dX4_grow_26 rfl ?_
      refine q_getr F (k := 6) fkX4_22 q_m20 rfl rfl dX4_grow_27 ?_
      refine q_bipush F (nI 8) dX4_grow_30 (by decide) ?_
      refine q_iload_n F dX4_grow_32 rfl ?_
      refine q_imulN F dX4_grow_33 ?_
      refine q_iload_n F dX4_grow_34 rfl ?_
      refine q_iaddN F dX4_grow_35 ?_
      refine q_iconst F (-1) dX4_grow_36 (by decide) ?_
      refine q_kast F 5 (_) q_m25 rfl rfl rfl (by omega) (by decide) dX4_grow_37 ?_
      refine q_vret F E rfl (by unfold k_gr; rw [hb0, if_pos (by omega)]) dX4_grow_38

/-- the first from k on -/
def f_dn (P : Nat → Prop) (k : Nat) (o : Option Nat) : Prop := (o = none ∧ ∀ i, k ≤ i → i < 8 → ¬ P i) ∨ ∃ z, o = some z ∧ k ≤ z ∧ z < 8 ∧ P z ∧ ∀ i, k ≤ i → i < z → ¬ P i
theorem f_dn_yes {P : Nat → Prop} {k : Nat} (hk : k < 8) (h : P k) : f_dn P k (some k) := Or.inr ⟨k, rfl, Nat.le_refl _, hk, h, fun i h1 h2 => by omega⟩
theorem f_dn_no {P : Nat → Prop} {k : Nat} {o : Option Nat} (hd : f_dn P (k + 1) o) (h : ¬ P k) : f_dn P k o := by
  rcases hd with ⟨h1, h2⟩ | ⟨z, h1, h2, h3, h4, h5⟩
  · refine Or.inl ⟨h1, fun i hi hi8 => ?_⟩
    by_cases hik : i = k
    · subst hik; exact h
    · exact h2 i (by omega) hi8
  · refine Or.inr ⟨z, h1, by omega, h3, h4, fun i hi hi8 => ?_⟩
    by_cases hik : i = k
    · subst hik; exact h
    · exact h5 i (by omega) hi8
theorem f_dn_0 {P : Nat → Prop} {o : Option Nat} (hd : f_dn P 0 o) : f_st P 8 = o := by
  rcases hd with ⟨h1, h2⟩ | ⟨z, h1, h2, h3, h4, h5⟩
  · rw [h1]
    exact f_st_none (fun i hi => h2 i (Nat.zero_le _) hi)
  · rw [h1]
    exact f_st_some h4 (fun i hi => h5 i (Nat.zero_le _) hi) h3
theorem q_dec1 (k : Nat) : nI (k + 1) + Int32.ofInt (-1) = nI k := pk_m1 k

set_option maxRecDepth 100000 in
set_option maxHeartbeats 4000000 in
theorem lp_await_88 {G : q_g} {n : Nat} {ad : q_ix → Nat} {X : q_cx} (F : q_fx G X iX4_await) {S : q_st} {K : k_t} {p a : Nat} (hp : p < 8) (ha : a < 8) (E : q_en G X iX4_await (q_pi (q_w G n ad) (fun r S' => r = (k_aw K p a).1 ∧ S' = q_put S (k_aw K p a).2))) {v : Int32} {z : Option Nat} {u : Option q_v} (hv : q_bl v (∃ i, 0 ≤ i ∧ i < 8 ∧ k_cd K p i)) (hz : f_dn (fun k => k_cd K p k ∧ K 2 k = nI 3) 0 z) : q_W G X iX4_await (q_w G n ad) (0, 0) 88 [some (.inr (some (20, 0))), some (.inl (nI p)), some (.inl (nI a)), some (.inl v), some (.inl (q_fe z)), u, none] [] (q_put S K) := by
  have hz0 := f_dn_0 hz
  have hv' : q_bl v (∃ k, k < 8 ∧ k_cd K p k) := by
    rcases hv with ⟨h1, i, -, h2⟩ | ⟨h1, h2⟩
    · exact Or.inl ⟨h1, i, h2⟩
    · exact Or.inr ⟨h1, fun ⟨i, q⟩ => h2 ⟨i, Nat.zero_le _, q⟩⟩
  refine q_iload F dX4_await_88 rfl ?_
  refine q_iconst F (-1) dX4_await_90 (by decide) ?_
  refine q_icmp_eq F 120 dX4_await_91 (by decide) (fun h91 => ?_) (fun h91 => ?_)
  · obtain rfl : z = none := by
      rcases hz with ⟨h1, -⟩ | ⟨w, h1, -, h3, -⟩
      · exact h1
      · rw [h1] at h91; exact absurd h91 (q_nm1 (show w < 2 ^ 31 by omega))
    refine q_iload_n F dX4_await_120 rfl ?_
    refine q_if_ne F 138 dX4_await_121 (by decide) (fun h121 => ?_) (fun h121 => ?_)
    · refine q_aload_n F dX4_await_138 rfl ?_
      refine q_getr F (k := 3) fkX4_13 q_m20 rfl rfl dX4_await_139 ?_
      refine q_iload_n F dX4_await_142 rfl ?_
      refine q_iconst F (nI 2) dX4_await_143 (by decide) ?_
      refine q_kast F 2 (_) q_m22 rfl rfl rfl (by omega) (by decide) dX4_await_144 ?_
      refine q_aload_n F dX4_await_145 rfl ?_
      refine q_getr F (k := 7) fkX4_25 q_m20 rfl rfl dX4_await_146 ?_
      refine q_iload_n F dX4_await_149 rfl ?_
      refine q_dup2 F dX4_await_150 ?_
      refine q_kald F 6 (_) q_m26 rfl rfl rfl (by omega) (by decide) dX4_await_151 ?_
      refine q_top (K 6 p) (by simp [k_u]) ?_
      refine q_iconst F (nI 1) dX4_await_152 (by decide) ?_
      refine q_isub F dX4_await_153 ?_
      refine q_kast F 6 (_) q_m26 rfl rfl rfl (by omega) (by decide) dX4_await_154 ?_
      refine q_iconst F (nI 4) dX4_await_155 (by decide) ?_
      refine q_iret F E rfl (by unfold k_aw; rw [hz0]; simp only []; rw [if_pos (q_bl_T hv' h121)]; exact ⟨rfl, rfl⟩) dX4_await_156
    · refine q_aload_n F dX4_await_124 rfl ?_
      refine q_getr F (k := 6) fkX4_22 q_m20 rfl rfl dX4_await_125 ?_
      refine q_bipush F (nI 8) dX4_await_128 (by decide) ?_
      refine q_iload_n F dX4_await_130 rfl ?_
      refine q_imulN F dX4_await_131 ?_
      refine q_iload_n F dX4_await_132 rfl ?_
      refine q_iaddN F dX4_await_133 ?_
      refine q_iconst F (-1) dX4_await_134 (by decide) ?_
      refine q_kast F 5 (_) q_m25 rfl rfl rfl (by omega) (by decide) dX4_await_135 ?_
      refine q_iconst F (nI 1) dX4_await_136 (by decide) ?_
      refine q_iret F E rfl (by unfold k_aw; rw [hz0]; simp only []; rw [if_neg (q_bl_F hv' h121)]; exact ⟨rfl, rfl⟩) dX4_await_137
  · obtain ⟨w, rfl, hw8⟩ : ∃ w, z = some w ∧ w < 8 := by
      rcases hz with ⟨h1, -⟩ | ⟨w, h1, -, h3, -⟩
      · rw [h1] at h91; exact absurd rfl h91
      · exact ⟨w, h1, h3⟩
    refine q_aload_n F dX4_await_94 rfl ?_
    refine q_getr F (k := 6) fkX4_22 q_m20 rfl rfl dX4_await_95 ?_
    refine q_bipush F (nI 8) dX4_await_98 (by decide) ?_
    refine q_iload_n F dX4_await_100 rfl ?_
    refine q_imulN F dX4_await_101 ?_
    refine q_iload_n F dX4_await_102 rfl ?_
    refine q_iaddN F dX4_await_103 ?_
    refine q_aload_n F dX4_await_104 rfl ?_
    refine q_getr F (k := 5) fkX4_19 q_m20 rfl rfl dX4_await_105 ?_
    refine q_iload F dX4_await_108 rfl ?_
    refine q_kald F 4 (w) q_m24 rfl rfl rfl (by omega) (by decide) dX4_await_110 ?_
    refine q_kast F 5 (_) q_m25 rfl rfl rfl (by omega) (by decide) dX4_await_111 ?_
    refine q_aload_n F dX4_await_112 rfl ?_
    refine q_iload F dX4_await_113 rfl ?_
    refine q_callVv F [.inl (nI w)] (fun l => t_mfree l S _ hw8) clX4_85 rfl q_m20 rfl rfl rfl ⟨Nat.le_of_ble_eq_true rfl, Nat.le_of_ble_eq_true rfl⟩ (Nat.le_of_ble_eq_true rfl) ⟨rfl, rfl⟩ ⟨Nat.zero_le _, Nat.zero_le _⟩ dX4_await_115 (fun S' hS => ?_)
    subst hS
    refine q_iconst F (nI 1) dX4_await_118 (by decide) ?_
    refine q_iret F E rfl (by unfold k_aw; rw [hz0]; exact ⟨rfl, rfl⟩) dX4_await_119

set_option maxRecDepth 100000 in
set_option maxHeartbeats 4000000 in
theorem lp_await {G : q_g} {n : Nat} {ad : q_ix → Nat} {X : q_cx} (F : q_fx G X iX4_await) {S : q_st} {K : k_t} {p a : Nat} (hp : p < 8) (ha : a < 8) (E : q_en G X iX4_await (q_pi (q_w G n ad) (fun r S' => r = (k_aw K p a).1 ∧ S' = q_put S (k_aw K p a).2))) : ∀ k, k ≤ 8 → ∀ (v : Int32) (z : Option Nat) (cc : Int32), cc = nI k + Int32.ofInt (-1) → q_bl v (∃ i, k ≤ i ∧ i < 8 ∧ k_cd K p i) → f_dn (fun k => k_cd K p k ∧ K 2 k = nI 3) k z → q_W G X iX4_await (q_w G n ad) (0, 0) 9 [some (.inr (some (20, 0))), some (.inl (nI p)), some (.inl (nI a)), some (.inl v), some (.inl (q_fe z)), some (.inl cc), none] [] (q_put S K) := by
  intro k
  induction k with
  | zero =>
    intro _ v z cc hcc hv hz
    subst hcc
    refine q_iload F dX4_await_9 rfl ?_
    refine q_if_lt F 88 dX4_await_11 (by decide) (fun h11 => ?_) (fun h11 => ?_)
    · exact lp_await_88 F hp ha E hv hz
    · exact absurd h11 (by decide)
  | succ k ih =>
    intro hk8 v z cc hcc hv hz
    rw [q_dec1] at hcc
    subst hcc
    refine q_iload F dX4_await_9 rfl ?_
    refine q_ifN_lt F 88 dX4_await_11 (by decide) (by omega) (fun h11 => ?_) (fun h11 => ?_)
    · exfalso; omega
    · refine q_aload_n F dX4_await_14 rfl ?_
      refine q_getr F (k := 3) fkX4_13 q_m20 rfl rfl dX4_await_15 ?_
      refine q_iload F dX4_await_18 rfl ?_
      refine q_kald F 2 (_) q_m22 rfl rfl rfl (by omega) (by decide) dX4_await_20 ?_
      refine q_if_eq F 39 dX4_await_21 (by decide) (fun h21 => ?_) (fun h21 => ?_)
      · refine q_iconst F (nI 0) dX4_await_39 (by decide) ?_
        refine q_istore_6 F dX4_await_40 (by decide) ?_
        refine q_iload_n F dX4_await_42 rfl ?_
        refine q_if_ne F 51 dX4_await_43 (by decide) (fun h43 => ?_) (fun h43 => ?_)
        · refine q_iconst F (nI 1) dX4_await_51 (by decide) ?_
          refine q_goto F 56 dX4_await_52 (by decide) ?_
          refine q_istore_n_3 F dX4_await_56 (by decide) ?_
          refine q_iload F dX4_await_57 rfl ?_
          refine q_ifN_eq F 78 dX4_await_59 (by decide) (by omega) (fun h59 => ?_) (fun h59 => ?_)
          · refine q_iload F dX4_await_78 rfl ?_
            refine q_istore_4 F dX4_await_80 (by decide) ?_
            refine q_iinc_5 F _ dX4_await_82 rfl (by decide) ?_
            refine q_goto F 9 dX4_await_85 (by decide) (q_drop_6 (ih (by omega) _ _ _ rfl ?_ ?_))
            · first | exact q_bl_1 ⟨k, Nat.le_refl _, by omega, h21, h32⟩ | exact q_bl_1 (by obtain ⟨i, h1, h2⟩ := q_bl_T hv h43; exact ⟨i, by omega, h2⟩) | exact q_bl_0 (by rintro ⟨i, h1, h2, h3⟩; by_cases hik : i = k; (subst hik; first | exact h3.1 h21 | exact h32 h3.2); exact q_bl_F hv h43 ⟨i, by omega, h2, h3⟩)
            · first | exact f_dn_yes (by omega) ⟨⟨h21, h32⟩, h70⟩ | exact f_dn_no hz (fun q => h70 q.2) | exact f_dn_no hz (fun q => q.1.1 h21) | exact f_dn_no hz (fun q => h32 q.1.2)
          · exact absurd h59 (by decide)
        · refine q_iload F dX4_await_46 rfl ?_
          refine q_ifN_eq F 55 dX4_await_48 (by decide) (by omega) (fun h48 => ?_) (fun h48 => ?_)
          · refine q_iconst F (nI 0) dX4_await_55 (by decide) ?_
            refine q_istore_n_3 F dX4_await_56 (by decide) ?_
            refine q_iload F dX4_await_57 rfl ?_
            refine q_ifN_eq F 78 dX4_await_59 (by decide) (by omega) (fun h59 => ?_) (fun h59 => ?_)
            · refine q_iload F dX4_await_78 rfl ?_
              refine q_istore_4 F dX4_await_80 (by decide) ?_
              refine q_iinc_5 F _ dX4_await_82 rfl (by decide) ?_
              refine q_goto F 9 dX4_await_85 (by decide) (q_drop_6 (ih (by omega) _ _ _ rfl ?_ ?_))
              · first | exact q_bl_1 ⟨k, Nat.le_refl _, by omega, h21, h32⟩ | exact q_bl_1 (by obtain ⟨i, h1, h2⟩ := q_bl_T hv h43; exact ⟨i, by omega, h2⟩) | exact q_bl_0 (by rintro ⟨i, h1, h2, h3⟩; by_cases hik : i = k; (subst hik; first | exact h3.1 h21 | exact h32 h3.2); exact q_bl_F hv h43 ⟨i, by omega, h2, h3⟩)
              · first | exact f_dn_yes (by omega) ⟨⟨h21, h32⟩, h70⟩ | exact f_dn_no hz (fun q => h70 q.2) | exact f_dn_no hz (fun q => q.1.1 h21) | exact f_dn_no hz (fun q => h32 q.1.2)
            · exact absurd h59 (by decide)
          · exact absurd h48 (by decide)
      · refine q_aload_n F dX4_await_24 rfl ?_
        refine q_getr F (k := 4) fkX4_16 q_m20 rfl rfl dX4_await_25 ?_
        refine q_iload F dX4_await_28 rfl ?_
        refine q_kald F 3 (_) q_m23 rfl rfl rfl (by omega) (by decide) dX4_await_30 ?_
        refine q_iload_n F dX4_await_31 rfl ?_
        refine q_icmp_ne F 39 dX4_await_32 (by decide) (fun h32 => ?_) (fun h32 => ?_)
        · refine q_iconst F (nI 0) dX4_await_39 (by decide) ?_
          refine q_istore_6 F dX4_await_40 (by decide) ?_
          refine q_iload_n F dX4_await_42 rfl ?_
          refine q_if_ne F 51 dX4_await_43 (by decide) (fun h43 => ?_) (fun h43 => ?_)
          · refine q_iconst F (nI 1) dX4_await_51 (by decide) ?_
            refine q_goto F 56 dX4_await_52 (by decide) ?_
            refine q_istore_n_3 F dX4_await_56 (by decide) ?_
            refine q_iload F dX4_await_57 rfl ?_
            refine q_ifN_eq F 78 dX4_await_59 (by decide) (by omega) (fun h59 => ?_) (fun h59 => ?_)
            · refine q_iload F dX4_await_78 rfl ?_
              refine q_istore_4 F dX4_await_80 (by decide) ?_
              refine q_iinc_5 F _ dX4_await_82 rfl (by decide) ?_
              refine q_goto F 9 dX4_await_85 (by decide) (q_drop_6 (ih (by omega) _ _ _ rfl ?_ ?_))
              · first | exact q_bl_1 ⟨k, Nat.le_refl _, by omega, h21, h32⟩ | exact q_bl_1 (by obtain ⟨i, h1, h2⟩ := q_bl_T hv h43; exact ⟨i, by omega, h2⟩) | exact q_bl_0 (by rintro ⟨i, h1, h2, h3⟩; by_cases hik : i = k; (subst hik; first | exact h3.1 h21 | exact h32 h3.2); exact q_bl_F hv h43 ⟨i, by omega, h2, h3⟩)
              · first | exact f_dn_yes (by omega) ⟨⟨h21, h32⟩, h70⟩ | exact f_dn_no hz (fun q => h70 q.2) | exact f_dn_no hz (fun q => q.1.1 h21) | exact f_dn_no hz (fun q => h32 q.1.2)
            · exact absurd h59 (by decide)
          · refine q_iload F dX4_await_46 rfl ?_
            refine q_ifN_eq F 55 dX4_await_48 (by decide) (by omega) (fun h48 => ?_) (fun h48 => ?_)
            · refine q_iconst F (nI 0) dX4_await_55 (by decide) ?_
              refine q_istore_n_3 F dX4_await_56 (by decide) ?_
              refine q_iload F dX4_await_57 rfl ?_
              refine q_ifN_eq F 78 dX4_await_59 (by decide) (by omega) (fun h59 => ?_) (fun h59 => ?_)
              · refine q_iload F dX4_await_78 rfl ?_
                refine q_istore_4 F dX4_await_80 (by decide) ?_
                refine q_iinc_5 F _ dX4_await_82 rfl (by decide) ?_
                refine q_goto F 9 dX4_await_85 (by decide) (q_drop_6 (ih (by omega) _ _ _ rfl ?_ ?_))
                · first | exact q_bl_1 ⟨k, Nat.le_refl _, by omega, h21, h32⟩ | exact q_bl_1 (by obtain ⟨i, h1, h2⟩ := q_bl_T hv h43; exact ⟨i, by omega, h2⟩) | exact q_bl_0 (by rintro ⟨i, h1, h2, h3⟩; by_cases hik : i = k; (subst hik; first | exact h3.1 h21 | exact h32 h3.2); exact q_bl_F hv h43 ⟨i, by omega, h2, h3⟩)
                · first | exact f_dn_yes (by omega) ⟨⟨h21, h32⟩, h70⟩ | exact f_dn_no hz (fun q => h70 q.2) | exact f_dn_no hz (fun q => q.1.1 h21) | exact f_dn_no hz (fun q => h32 q.1.2)
              · exact absurd h59 (by decide)
            · exact absurd h48 (by decide)
        · refine q_iconst F (nI 1) dX4_await_35 (by decide) ?_
          refine q_goto F 40 dX4_await_36 (by decide) ?_
          refine q_istore_6 F dX4_await_40 (by decide) ?_
          refine q_iload_n F dX4_await_42 rfl ?_
          refine q_if_ne F 51 dX4_await_43 (by decide) (fun h43 => ?_) (fun h43 => ?_)
          · refine q_iconst F (nI 1) dX4_await_51 (by decide) ?_
            refine q_goto F 56 dX4_await_52 (by decide) ?_
            refine q_istore_n_3 F dX4_await_56 (by decide) ?_
            refine q_iload F dX4_await_57 rfl ?_
            refine q_ifN_eq F 78 dX4_await_59 (by decide) (by omega) (fun h59 => ?_) (fun h59 => ?_)
            · exact absurd h59 (by decide)
            · refine q_aload_n F dX4_await_62 rfl ?_
              refine q_getr F (k := 3) fkX4_13 q_m20 rfl rfl dX4_await_63 ?_
              refine q_iload F dX4_await_66 rfl ?_
              refine q_kald F 2 (_) q_m22 rfl rfl rfl (by omega) (by decide) dX4_await_68 ?_
              refine q_iconst F (nI 3) dX4_await_69 (by decide) ?_
              refine q_icmp_ne F 78 dX4_await_70 (by decide) (fun h70 => ?_) (fun h70 => ?_)
              · refine q_iload F dX4_await_78 rfl ?_
                refine q_istore_4 F dX4_await_80 (by decide) ?_
                refine q_iinc_5 F _ dX4_await_82 rfl (by decide) ?_
                refine q_goto F 9 dX4_await_85 (by decide) (q_drop_6 (ih (by omega) _ _ _ rfl ?_ ?_))
                · first | exact q_bl_1 ⟨k, Nat.le_refl _, by omega, h21, h32⟩ | exact q_bl_1 (by obtain ⟨i, h1, h2⟩ := q_bl_T hv h43; exact ⟨i, by omega, h2⟩) | exact q_bl_0 (by rintro ⟨i, h1, h2, h3⟩; by_cases hik : i = k; (subst hik; first | exact h3.1 h21 | exact h32 h3.2); exact q_bl_F hv h43 ⟨i, by omega, h2, h3⟩)
                · first | exact f_dn_yes (by omega) ⟨⟨h21, h32⟩, h70⟩ | exact f_dn_no hz (fun q => h70 q.2) | exact f_dn_no hz (fun q => q.1.1 h21) | exact f_dn_no hz (fun q => h32 q.1.2)
              · refine q_iload F dX4_await_73 rfl ?_
                refine q_top (q_fe (some k)) rfl ?_
                refine q_goto F 80 dX4_await_75 (by decide) ?_
                refine q_istore_4 F dX4_await_80 (by decide) ?_
                refine q_iinc_5 F _ dX4_await_82 rfl (by decide) ?_
                refine q_goto F 9 dX4_await_85 (by decide) (q_drop_6 (ih (by omega) _ _ _ rfl ?_ ?_))
                · first | exact q_bl_1 ⟨k, Nat.le_refl _, by omega, h21, h32⟩ | exact q_bl_1 (by obtain ⟨i, h1, h2⟩ := q_bl_T hv h43; exact ⟨i, by omega, h2⟩) | exact q_bl_0 (by rintro ⟨i, h1, h2, h3⟩; by_cases hik : i = k; (subst hik; first | exact h3.1 h21 | exact h32 h3.2); exact q_bl_F hv h43 ⟨i, by omega, h2, h3⟩)
                · first | exact f_dn_yes (by omega) ⟨⟨h21, h32⟩, h70⟩ | exact f_dn_no hz (fun q => h70 q.2) | exact f_dn_no hz (fun q => q.1.1 h21) | exact f_dn_no hz (fun q => h32 q.1.2)
          · refine q_iload F dX4_await_46 rfl ?_
            refine q_ifN_eq F 55 dX4_await_48 (by decide) (by omega) (fun h48 => ?_) (fun h48 => ?_)
            · exact absurd h48 (by decide)
            · refine q_iconst F (nI 1) dX4_await_51 (by decide) ?_
              refine q_goto F 56 dX4_await_52 (by decide) ?_
              refine q_istore_n_3 F dX4_await_56 (by decide) ?_
              refine q_iload F dX4_await_57 rfl ?_
              refine q_ifN_eq F 78 dX4_await_59 (by decide) (by omega) (fun h59 => ?_) (fun h59 => ?_)
              · exact absurd h59 (by decide)
              · refine q_aload_n F dX4_await_62 rfl ?_
                refine q_getr F (k := 3) fkX4_13 q_m20 rfl rfl dX4_await_63 ?_
                refine q_iload F dX4_await_66 rfl ?_
                refine q_kald F 2 (_) q_m22 rfl rfl rfl (by omega) (by decide) dX4_await_68 ?_
                refine q_iconst F (nI 3) dX4_await_69 (by decide) ?_
                refine q_icmp_ne F 78 dX4_await_70 (by decide) (fun h70 => ?_) (fun h70 => ?_)
                · refine q_iload F dX4_await_78 rfl ?_
                  refine q_istore_4 F dX4_await_80 (by decide) ?_
                  refine q_iinc_5 F _ dX4_await_82 rfl (by decide) ?_
                  refine q_goto F 9 dX4_await_85 (by decide) (q_drop_6 (ih (by omega) _ _ _ rfl ?_ ?_))
                  · first | exact q_bl_1 ⟨k, Nat.le_refl _, by omega, h21, h32⟩ | exact q_bl_1 (by obtain ⟨i, h1, h2⟩ := q_bl_T hv h43; exact ⟨i, by omega, h2⟩) | exact q_bl_0 (by rintro ⟨i, h1, h2, h3⟩; by_cases hik : i = k; (subst hik; first | exact h3.1 h21 | exact h32 h3.2); exact q_bl_F hv h43 ⟨i, by omega, h2, h3⟩)
                  · first | exact f_dn_yes (by omega) ⟨⟨h21, h32⟩, h70⟩ | exact f_dn_no hz (fun q => h70 q.2) | exact f_dn_no hz (fun q => q.1.1 h21) | exact f_dn_no hz (fun q => h32 q.1.2)
                · refine q_iload F dX4_await_73 rfl ?_
                  refine q_top (q_fe (some k)) rfl ?_
                  refine q_goto F 80 dX4_await_75 (by decide) ?_
                  refine q_istore_4 F dX4_await_80 (by decide) ?_
                  refine q_iinc_5 F _ dX4_await_82 rfl (by decide) ?_
                  refine q_goto F 9 dX4_await_85 (by decide) (q_drop_6 (ih (by omega) _ _ _ rfl ?_ ?_))
                  · first | exact q_bl_1 ⟨k, Nat.le_refl _, by omega, h21, h32⟩ | exact q_bl_1 (by obtain ⟨i, h1, h2⟩ := q_bl_T hv h43; exact ⟨i, by omega, h2⟩) | exact q_bl_0 (by rintro ⟨i, h1, h2, h3⟩; by_cases hik : i = k; (subst hik; first | exact h3.1 h21 | exact h32 h3.2); exact q_bl_F hv h43 ⟨i, by omega, h2, h3⟩)
                  · first | exact f_dn_yes (by omega) ⟨⟨h21, h32⟩, h70⟩ | exact f_dn_no hz (fun q => h70 q.2) | exact f_dn_no hz (fun q => q.1.1 h21) | exact f_dn_no hz (fun q => h32 q.1.2)

set_option maxRecDepth 100000 in
set_option maxHeartbeats 4000000 in
theorem t_mawait {G : q_g} {n : Nat} {ad : q_ix → Nat} (l : Launch) (S : q_st) (K : k_t) {p a : Nat} (hp : p < 8) (ha : a < 8) : q_Ct l G iX4_await [.inr (some (20, 0)), .inl (nI p), .inl (nI a)] (q_w G n ad) (q_put S K) (q_pi (q_w G n ad) (fun r S' => r = (k_aw K p a).1 ∧ S' = q_put S (k_aw K p a).2)) := by
  refine q_enter (by decide) (Nat.le_of_ble_eq_true rfl) (fun X F E => ?_)
  show q_W G X iX4_await (q_w G n ad) (0, 0) 0 [some (.inr (some (20, 0))), some (.inl (nI p)), some (.inl (nI a)), none, none, none, none] [] (q_put S K)
  refine q_iconst F (nI 0) dX4_await_0 (by decide) ?_
  refine q_istore_n_3 F dX4_await_1 (by decide) ?_
  refine q_iconst F (-1) dX4_await_2 (by decide) ?_
  refine q_istore_4 F dX4_await_3 (by decide) ?_
  refine q_bipush F (nI 7) dX4_await_5 (by decide) ?_
  refine q_istore_5 F dX4_await_7 (by decide) ?_
  exact lp_await F hp ha E 8 (by decide) (nI 0) none _ (by decide) (q_bl_0 (by rintro ⟨i, h1, h2, -⟩; omega)) (Or.inl ⟨rfl, fun i h1 h2 => by omega⟩)
end
section
/-! the reference: ops, step, steps (rows laid by wip/whole/m44.py) -/
theorem k_al_k {K : k_t} {g a : Nat} (h0 : a ≠ 0) (h9 : a ≠ 9) : (k_al K g).2 a = K a := by
  unfold k_al
  split
  · funext j; simp [k_u, h0]
  · funext j; simp [k_u, h0, h9]
theorem k_pg_k {K : k_t} {g a : Nat} {wr : Bool} (h0 : a ≠ 0) (h9 : a ≠ 9) : (k_pg K g wr).2 a = K a := by
  unfold k_pg
  split
  · rfl
  · exact k_al_k h0 h9
theorem k_re_k {K : k_t} {p a : Nat} {x : Int32} {wr : Bool} (h0 : a ≠ 0) (h9 : a ≠ 9) : (k_re K p x wr).2 a = K a := by
  unfold k_re
  split
  · funext j; simp [k_u, h0]
  · exact k_pg_k h0 h9
theorem k_re_ok {K : k_t} {p : Nat} {x : Int32} {wr : Bool} (h : (k_re K p x wr).1 = true) (hb : (K 7 p).toInt ≤ 64) : ∃ t, t < 64 ∧ x = nI t := by
  unfold k_re at h
  split at h
  · cases h
  next hc => exact q_ofx (m := 64) (by decide) (by omega) (by omega)
theorem k_al_0 {K : k_t} {g j : Nat} (h11 : j ≠ 11) (h14 : j ≠ 14) : (k_al K g).2 0 j = K 0 j := by
  unfold k_al
  split
  · simp [k_u, h14]
  · simp [k_u, h11]
theorem k_pg_0 {K : k_t} {g j : Nat} {wr : Bool} (h11 : j ≠ 11) (h14 : j ≠ 14) : (k_pg K g wr).2 0 j = K 0 j := by
  unfold k_pg
  split
  · rfl
  · exact k_al_0 h11 h14
theorem k_re_0 {K : k_t} {p j : Nat} {x : Int32} {wr : Bool} (h11 : j ≠ 11) (h14 : j ≠ 14) : (k_re K p x wr).2 0 j = K 0 j := by
  unfold k_re
  split
  · simp [k_u, h14]
  · exact k_pg_0 h11 h14

theorem k_u_id (K : k_t) (a i : Nat) (v : Int32) (h : K a i = v) : k_u K a i v = K := by
  rw [← h]
  exact k_u_self K a i

set_option maxRecDepth 100000 in
set_option maxHeartbeats 4000000 in
theorem t_simple0 {G : q_g} {n : Nat} {ad : q_ix → Nat} (l : Launch) (S : q_st) (K : k_t) {p a b : Nat} {c : Int32} (hp : p < 8) (ha : a < 8) (hb : b < 8) (hbr : (K 7 p).toInt ≤ 64) : q_Ct l G iX4_simple [.inr (some (20, 0)), .inl (nI p), .inl (nI 0), .inl (nI a), .inl (nI b), .inl c] (q_w G n ad) (q_put S K) (q_pi (q_w G n ad) (fun r S' => r = (k_op K p 0 a b c).1 ∧ S' = q_put S (k_op K p 0 a b c).2)) := by
  refine q_enter (by decide) (Nat.le_of_ble_eq_true rfl) (fun X F E => ?_)
  show q_W G X iX4_simple (q_w G n ad) (0, 0) 0 [some (.inr (some (20, 0))), some (.inl (nI p)), some (.inl (nI 0)), some (.inl (nI a)), some (.inl (nI b)), some (.inl c), none, none, none] [] (q_put S K)
  refine q_aload_n F dX4_simple_0 rfl ?_
  refine q_getr F (k := 6) fkX4_22 q_m20 rfl rfl dX4_simple_1 ?_
  refine q_bipush F (nI 8) dX4_simple_4 (by decide) ?_
  refine q_iload_n F dX4_simple_6 rfl ?_
  refine q_imulN F dX4_simple_7 ?_
  refine q_iload_n F dX4_simple_8 rfl ?_
  refine q_iaddN F dX4_simple_9 ?_
  refine q_kald F 5 (_) q_m25 rfl rfl rfl (by omega) (by decide) dX4_simple_10 ?_
  refine q_istore_6 F dX4_simple_11 (by decide) ?_
  refine q_aload_n F dX4_simple_13 rfl ?_
  refine q_getr F (k := 6) fkX4_22 q_m20 rfl rfl dX4_simple_14 ?_
  refine q_bipush F (nI 8) dX4_simple_17 (by decide) ?_
  refine q_iload_n F dX4_simple_19 rfl ?_
  refine q_imulN F dX4_simple_20 ?_
  refine q_iload F dX4_simple_21 rfl ?_
  refine q_iaddN F dX4_simple_23 ?_
  refine q_kald F 5 (_) q_m25 rfl rfl rfl (by omega) (by decide) dX4_simple_24 ?_
  refine q_istore_7 F dX4_simple_25 (by decide) ?_
  refine q_iload F dX4_simple_27 rfl ?_
  refine q_istore_8 F dX4_simple_29 (by decide) ?_
  refine q_iload_n F dX4_simple_31 rfl ?_
  refine q_tsw_in F 76 dX4_simple_32 (by decide) (by decide) rfl (by decide) ?_
  refine q_iload F dX4_simple_76 rfl ?_
  refine q_istore_8 F dX4_simple_78 (by decide) ?_
  refine q_goto F 255 dX4_simple_80 (by decide) ?_
  refine q_aload_n F dX4_simple_255 rfl ?_
  refine q_getr F (k := 6) fkX4_22 q_m20 rfl rfl dX4_simple_256 ?_
  refine q_bipush F (nI 8) dX4_simple_259 (by decide) ?_
  refine q_iload_n F dX4_simple_261 rfl ?_
  refine q_imulN F dX4_simple_262 ?_
  refine q_iload_n F dX4_simple_263 rfl ?_
  refine q_iaddN F dX4_simple_264 ?_
  refine q_iload F dX4_simple_265 rfl ?_
  refine q_kast F 5 (_) q_m25 rfl rfl rfl (by omega) (by decide) dX4_simple_267 ?_
  refine q_iload_n F dX4_simple_268 rfl ?_
  refine q_bipush F (nI 7) dX4_simple_269 (by decide) ?_
  refine q_icmpN_ne F 278 dX4_simple_271 (by decide) (by omega) (by omega) (fun h271 => ?_) (fun h271 => ?_)
  · refine q_iconst F (nI 1) dX4_simple_278 (by decide) ?_
    refine q_iret F E rfl ⟨rfl, rfl⟩ dX4_simple_279
  · exact absurd h271 (by decide)

set_option maxRecDepth 100000 in
set_option maxHeartbeats 4000000 in
theorem t_simple1 {G : q_g} {n : Nat} {ad : q_ix → Nat} (l : Launch) (S : q_st) (K : k_t) {p a b : Nat} {c : Int32} (hp : p < 8) (ha : a < 8) (hb : b < 8) (hbr : (K 7 p).toInt ≤ 64) : q_Ct l G iX4_simple [.inr (some (20, 0)), .inl (nI p), .inl (nI 1), .inl (nI a), .inl (nI b), .inl c] (q_w G n ad) (q_put S K) (q_pi (q_w G n ad) (fun r S' => r = (k_op K p 1 a b c).1 ∧ S' = q_put S (k_op K p 1 a b c).2)) := by
  refine q_enter (by decide) (Nat.le_of_ble_eq_true rfl) (fun X F E => ?_)
  show q_W G X iX4_simple (q_w G n ad) (0, 0) 0 [some (.inr (some (20, 0))), some (.inl (nI p)), some (.inl (nI 1)), some (.inl (nI a)), some (.inl (nI b)), some (.inl c), none, none, none] [] (q_put S K)
  refine q_aload_n F dX4_simple_0 rfl ?_
  refine q_getr F (k := 6) fkX4_22 q_m20 rfl rfl dX4_simple_1 ?_
  refine q_bipush F (nI 8) dX4_simple_4 (by decide) ?_
  refine q_iload_n F dX4_simple_6 rfl ?_
  refine q_imulN F dX4_simple_7 ?_
  refine q_iload_n F dX4_simple_8 rfl ?_
  refine q_iaddN F dX4_simple_9 ?_
  refine q_kald F 5 (_) q_m25 rfl rfl rfl (by omega) (by decide) dX4_simple_10 ?_
  refine q_istore_6 F dX4_simple_11 (by decide) ?_
  refine q_aload_n F dX4_simple_13 rfl ?_
  refine q_getr F (k := 6) fkX4_22 q_m20 rfl rfl dX4_simple_14 ?_
  refine q_bipush F (nI 8) dX4_simple_17 (by decide) ?_
  refine q_iload_n F dX4_simple_19 rfl ?_
  refine q_imulN F dX4_simple_20 ?_
  refine q_iload F dX4_simple_21 rfl ?_
  refine q_iaddN F dX4_simple_23 ?_
  refine q_kald F 5 (_) q_m25 rfl rfl rfl (by omega) (by decide) dX4_simple_24 ?_
  refine q_istore_7 F dX4_simple_25 (by decide) ?_
  refine q_iload F dX4_simple_27 rfl ?_
  refine q_istore_8 F dX4_simple_29 (by decide) ?_
  refine q_iload_n F dX4_simple_31 rfl ?_
  refine q_tsw_in F 83 dX4_simple_32 (by decide) (by decide) rfl (by decide) ?_
  refine q_iload F dX4_simple_83 rfl ?_
  refine q_iload F dX4_simple_85 rfl ?_
  refine q_iadd F dX4_simple_87 ?_
  refine q_iload F dX4_simple_88 rfl ?_
  refine q_iadd F dX4_simple_90 ?_
  refine q_istore_8 F dX4_simple_91 (by decide) ?_
  refine q_goto F 255 dX4_simple_93 (by decide) ?_
  refine q_aload_n F dX4_simple_255 rfl ?_
  refine q_getr F (k := 6) fkX4_22 q_m20 rfl rfl dX4_simple_256 ?_
  refine q_bipush F (nI 8) dX4_simple_259 (by decide) ?_
  refine q_iload_n F dX4_simple_261 rfl ?_
  refine q_imulN F dX4_simple_262 ?_
  refine q_iload_n F dX4_simple_263 rfl ?_
  refine q_iaddN F dX4_simple_264 ?_
  refine q_iload F dX4_simple_265 rfl ?_
  refine q_kast F 5 (_) q_m25 rfl rfl rfl (by omega) (by decide) dX4_simple_267 ?_
  refine q_iload_n F dX4_simple_268 rfl ?_
  refine q_bipush F (nI 7) dX4_simple_269 (by decide) ?_
  refine q_icmpN_ne F 278 dX4_simple_271 (by decide) (by omega) (by omega) (fun h271 => ?_) (fun h271 => ?_)
  · refine q_iconst F (nI 1) dX4_simple_278 (by decide) ?_
    refine q_iret F E rfl ⟨rfl, rfl⟩ dX4_simple_279
  · exact absurd h271 (by decide)

set_option maxRecDepth 100000 in
set_option maxHeartbeats 4000000 in
theorem t_simple2 {G : q_g} {n : Nat} {ad : q_ix → Nat} (l : Launch) (S : q_st) (K : k_t) {p a b : Nat} {c : Int32} (hp : p < 8) (ha : a < 8) (hb : b < 8) (hbr : (K 7 p).toInt ≤ 64) : q_Ct l G iX4_simple [.inr (some (20, 0)), .inl (nI p), .inl (nI 2), .inl (nI a), .inl (nI b), .inl c] (q_w G n ad) (q_put S K) (q_pi (q_w G n ad) (fun r S' => r = (k_op K p 2 a b c).1 ∧ S' = q_put S (k_op K p 2 a b c).2)) := by
  refine q_enter (by decide) (Nat.le_of_ble_eq_true rfl) (fun X F E => ?_)
  show q_W G X iX4_simple (q_w G n ad) (0, 0) 0 [some (.inr (some (20, 0))), some (.inl (nI p)), some (.inl (nI 2)), some (.inl (nI a)), some (.inl (nI b)), some (.inl c), none, none, none] [] (q_put S K)
  refine q_aload_n F dX4_simple_0 rfl ?_
  refine q_getr F (k := 6) fkX4_22 q_m20 rfl rfl dX4_simple_1 ?_
  refine q_bipush F (nI 8) dX4_simple_4 (by decide) ?_
  refine q_iload_n F dX4_simple_6 rfl ?_
  refine q_imulN F dX4_simple_7 ?_
  refine q_iload_n F dX4_simple_8 rfl ?_
  refine q_iaddN F dX4_simple_9 ?_
  refine q_kald F 5 (_) q_m25 rfl rfl rfl (by omega) (by decide) dX4_simple_10 ?_
  refine q_istore_6 F dX4_simple_11 (by decide) ?_
  refine q_aload_n F dX4_simple_13 rfl ?_
  refine q_getr F (k := 6) fkX4_22 q_m20 rfl rfl dX4_simple_14 ?_
  refine q_bipush F (nI 8) dX4_simple_17 (by decide) ?_
  refine q_iload_n F dX4_simple_19 rfl ?_
  refine q_imulN F dX4_simple_20 ?_
  refine q_iload F dX4_simple_21 rfl ?_
  refine q_iaddN F dX4_simple_23 ?_
  refine q_kald F 5 (_) q_m25 rfl rfl rfl (by omega) (by decide) dX4_simple_24 ?_
  refine q_istore_7 F dX4_simple_25 (by decide) ?_
  refine q_iload F dX4_simple_27 rfl ?_
  refine q_istore_8 F dX4_simple_29 (by decide) ?_
  refine q_iload_n F dX4_simple_31 rfl ?_
  refine q_tsw_in F 96 dX4_simple_32 (by decide) (by decide) rfl (by decide) ?_
  refine q_iload F dX4_simple_96 rfl ?_
  refine q_iload F dX4_simple_98 rfl ?_
  refine q_isub F dX4_simple_100 ?_
  refine q_istore_8 F dX4_simple_101 (by decide) ?_
  refine q_goto F 255 dX4_simple_103 (by decide) ?_
  refine q_aload_n F dX4_simple_255 rfl ?_
  refine q_getr F (k := 6) fkX4_22 q_m20 rfl rfl dX4_simple_256 ?_
  refine q_bipush F (nI 8) dX4_simple_259 (by decide) ?_
  refine q_iload_n F dX4_simple_261 rfl ?_
  refine q_imulN F dX4_simple_262 ?_
  refine q_iload_n F dX4_simple_263 rfl ?_
  refine q_iaddN F dX4_simple_264 ?_
  refine q_iload F dX4_simple_265 rfl ?_
  refine q_kast F 5 (_) q_m25 rfl rfl rfl (by omega) (by decide) dX4_simple_267 ?_
  refine q_iload_n F dX4_simple_268 rfl ?_
  refine q_bipush F (nI 7) dX4_simple_269 (by decide) ?_
  refine q_icmpN_ne F 278 dX4_simple_271 (by decide) (by omega) (by omega) (fun h271 => ?_) (fun h271 => ?_)
  · refine q_iconst F (nI 1) dX4_simple_278 (by decide) ?_
    refine q_iret F E rfl ⟨rfl, rfl⟩ dX4_simple_279
  · exact absurd h271 (by decide)

set_option maxRecDepth 100000 in
set_option maxHeartbeats 4000000 in
theorem t_simple3 {G : q_g} {n : Nat} {ad : q_ix → Nat} (l : Launch) (S : q_st) (K : k_t) {p a b : Nat} {c : Int32} (hp : p < 8) (ha : a < 8) (hb : b < 8) (hbr : (K 7 p).toInt ≤ 64) : q_Ct l G iX4_simple [.inr (some (20, 0)), .inl (nI p), .inl (nI 3), .inl (nI a), .inl (nI b), .inl c] (q_w G n ad) (q_put S K) (q_pi (q_w G n ad) (fun r S' => r = (k_op K p 3 a b c).1 ∧ S' = q_put S (k_op K p 3 a b c).2)) := by
  refine q_enter (by decide) (Nat.le_of_ble_eq_true rfl) (fun X F E => ?_)
  show q_W G X iX4_simple (q_w G n ad) (0, 0) 0 [some (.inr (some (20, 0))), some (.inl (nI p)), some (.inl (nI 3)), some (.inl (nI a)), some (.inl (nI b)), some (.inl c), none, none, none] [] (q_put S K)
  refine q_aload_n F dX4_simple_0 rfl ?_
  refine q_getr F (k := 6) fkX4_22 q_m20 rfl rfl dX4_simple_1 ?_
  refine q_bipush F (nI 8) dX4_simple_4 (by decide) ?_
  refine q_iload_n F dX4_simple_6 rfl ?_
  refine q_imulN F dX4_simple_7 ?_
  refine q_iload_n F dX4_simple_8 rfl ?_
  refine q_iaddN F dX4_simple_9 ?_
  refine q_kald F 5 (_) q_m25 rfl rfl rfl (by omega) (by decide) dX4_simple_10 ?_
  refine q_istore_6 F dX4_simple_11 (by decide) ?_
  refine q_aload_n F dX4_simple_13 rfl ?_
  refine q_getr F (k := 6) fkX4_22 q_m20 rfl rfl dX4_simple_14 ?_
  refine q_bipush F (nI 8) dX4_simple_17 (by decide) ?_
  refine q_iload_n F dX4_simple_19 rfl ?_
  refine q_imulN F dX4_simple_20 ?_
  refine q_iload F dX4_simple_21 rfl ?_
  refine q_iaddN F dX4_simple_23 ?_
  refine q_kald F 5 (_) q_m25 rfl rfl rfl (by omega) (by decide) dX4_simple_24 ?_
  refine q_istore_7 F dX4_simple_25 (by decide) ?_
  refine q_iload F dX4_simple_27 rfl ?_
  refine q_istore_8 F dX4_simple_29 (by decide) ?_
  refine q_iload_n F dX4_simple_31 rfl ?_
  refine q_tsw_in F 106 dX4_simple_32 (by decide) (by decide) rfl (by decide) ?_
  refine q_aload_n F dX4_simple_106 rfl ?_
  refine q_iload_n F dX4_simple_107 rfl ?_
  refine q_iload F dX4_simple_108 rfl ?_
  refine q_iload F dX4_simple_110 rfl ?_
  refine q_iadd F dX4_simple_112 ?_
  refine q_iconst F (nI 0) dX4_simple_113 (by decide) ?_
  refine q_callVi F [.inl (nI p), .inl (K 5 (8 * p + b) + c), .inl (nI 0)] (fun l => t_reach l S K hp (wr := false) (q_bl_0 (by decide)) hbr) clX4_91 rfl q_m20 rfl rfl rfl ⟨Nat.le_of_ble_eq_true rfl, Nat.le_of_ble_eq_true rfl⟩ (Nat.le_of_ble_eq_true rfl) ⟨rfl, rfl⟩ ⟨Nat.zero_le _, Nat.zero_le _⟩ dX4_simple_114 (fun v S' hv => ?_)
  obtain ⟨hv, hS⟩ := hv
  subst hS
  rcases hv with ⟨rfl, hre⟩ | ⟨rfl, hre⟩
  · refine q_ifN_eq F 138 dX4_simple_117 (by decide) (by omega) (fun h117 => ?_) (fun h117 => ?_)
    · refine q_iload F dX4_simple_138 rfl ?_
      refine q_istore_8 F dX4_simple_140 (by decide) ?_
      refine q_goto F 255 dX4_simple_142 (by decide) ?_
      refine q_aload_n F dX4_simple_255 rfl ?_
      refine q_getr F (k := 6) fkX4_22 q_m20 rfl rfl dX4_simple_256 ?_
      refine q_bipush F (nI 8) dX4_simple_259 (by decide) ?_
      refine q_iload_n F dX4_simple_261 rfl ?_
      refine q_imulN F dX4_simple_262 ?_
      refine q_iload_n F dX4_simple_263 rfl ?_
      refine q_iaddN F dX4_simple_264 ?_
      refine q_iload F dX4_simple_265 rfl ?_
      refine q_kast F 5 (_) q_m25 rfl rfl rfl (by omega) (by decide) dX4_simple_267 ?_
      refine q_iload_n F dX4_simple_268 rfl ?_
      refine q_bipush F (nI 7) dX4_simple_269 (by decide) ?_
      refine q_icmpN_ne F 278 dX4_simple_271 (by decide) (by omega) (by omega) (fun h271 => ?_) (fun h271 => ?_)
      · refine q_iconst F (nI 1) dX4_simple_278 (by decide) ?_
        refine q_iret F E rfl ⟨rfl, by show _ = q_put S (k_ld K p a (K 5 (8 * p + b) + c)); unfold k_ld; rw [hre, k_u_id _ _ _ _ (congrFun (k_re_k (by decide) (by decide)) _)]; rfl⟩ dX4_simple_279
      · exact absurd h271 (by decide)
    · exact absurd h117 (by decide)
  · refine q_ifN_eq F 138 dX4_simple_117 (by decide) (by omega) (fun h117 => ?_) (fun h117 => ?_)
    · exact absurd h117 (by decide)
    · obtain ⟨t, ht, hte⟩ := k_re_ok hre hbr
      have htn : (K 5 (8 * p + b) + c).toInt.toNat = t := by rw [hte, nI_toInt (by omega)]; rfl
      refine q_aload_n F dX4_simple_120 rfl ?_
      refine q_getr F (k := 9) fkX4_31 q_m20 rfl rfl dX4_simple_121 ?_
      refine q_bipush F (nI 64) dX4_simple_124 (by decide) ?_
      refine q_iload_n F dX4_simple_126 rfl ?_
      refine q_imulN F dX4_simple_127 ?_
      refine q_iload F dX4_simple_128 rfl ?_
      refine q_iadd F dX4_simple_130 ?_
      refine q_iload F dX4_simple_131 rfl ?_
      refine q_iadd F dX4_simple_133 ?_
      refine q_kald F 8 (64 * p + t) q_m28 rfl rfl (by rw [Int32.add_assoc, hte, nI_add]) (by omega) (by decide) dX4_simple_134 ?_
      refine q_goto F 140 dX4_simple_135 (by decide) ?_
      refine q_istore_8 F dX4_simple_140 (by decide) ?_
      refine q_goto F 255 dX4_simple_142 (by decide) ?_
      refine q_aload_n F dX4_simple_255 rfl ?_
      refine q_getr F (k := 6) fkX4_22 q_m20 rfl rfl dX4_simple_256 ?_
      refine q_bipush F (nI 8) dX4_simple_259 (by decide) ?_
      refine q_iload_n F dX4_simple_261 rfl ?_
      refine q_imulN F dX4_simple_262 ?_
      refine q_iload_n F dX4_simple_263 rfl ?_
      refine q_iaddN F dX4_simple_264 ?_
      refine q_iload F dX4_simple_265 rfl ?_
      refine q_kast F 5 (_) q_m25 rfl rfl rfl (by omega) (by decide) dX4_simple_267 ?_
      refine q_iload_n F dX4_simple_268 rfl ?_
      refine q_bipush F (nI 7) dX4_simple_269 (by decide) ?_
      refine q_icmpN_ne F 278 dX4_simple_271 (by decide) (by omega) (by omega) (fun h271 => ?_) (fun h271 => ?_)
      · refine q_iconst F (nI 1) dX4_simple_278 (by decide) ?_
        refine q_iret F E rfl ⟨rfl, by show _ = q_put S (k_ld K p a (K 5 (8 * p + b) + c)); unfold k_ld; rw [if_pos hre, htn]⟩ dX4_simple_279
      · exact absurd h271 (by decide)

set_option maxRecDepth 100000 in
set_option maxHeartbeats 4000000 in
theorem t_simple4 {G : q_g} {n : Nat} {ad : q_ix → Nat} (l : Launch) (S : q_st) (K : k_t) {p a b : Nat} {c : Int32} (hp : p < 8) (ha : a < 8) (hb : b < 8) (hbr : (K 7 p).toInt ≤ 64) : q_Ct l G iX4_simple [.inr (some (20, 0)), .inl (nI p), .inl (nI 4), .inl (nI a), .inl (nI b), .inl c] (q_w G n ad) (q_put S K) (q_pi (q_w G n ad) (fun r S' => r = (k_op K p 4 a b c).1 ∧ S' = q_put S (k_op K p 4 a b c).2)) := by
  refine q_enter (by decide) (Nat.le_of_ble_eq_true rfl) (fun X F E => ?_)
  show q_W G X iX4_simple (q_w G n ad) (0, 0) 0 [some (.inr (some (20, 0))), some (.inl (nI p)), some (.inl (nI 4)), some (.inl (nI a)), some (.inl (nI b)), some (.inl c), none, none, none] [] (q_put S K)
  refine q_aload_n F dX4_simple_0 rfl ?_
  refine q_getr F (k := 6) fkX4_22 q_m20 rfl rfl dX4_simple_1 ?_
  refine q_bipush F (nI 8) dX4_simple_4 (by decide) ?_
  refine q_iload_n F dX4_simple_6 rfl ?_
  refine q_imulN F dX4_simple_7 ?_
  refine q_iload_n F dX4_simple_8 rfl ?_
  refine q_iaddN F dX4_simple_9 ?_
  refine q_kald F 5 (_) q_m25 rfl rfl rfl (by omega) (by decide) dX4_simple_10 ?_
  refine q_istore_6 F dX4_simple_11 (by decide) ?_
  refine q_aload_n F dX4_simple_13 rfl ?_
  refine q_getr F (k := 6) fkX4_22 q_m20 rfl rfl dX4_simple_14 ?_
  refine q_bipush F (nI 8) dX4_simple_17 (by decide) ?_
  refine q_iload_n F dX4_simple_19 rfl ?_
  refine q_imulN F dX4_simple_20 ?_
  refine q_iload F dX4_simple_21 rfl ?_
  refine q_iaddN F dX4_simple_23 ?_
  refine q_kald F 5 (_) q_m25 rfl rfl rfl (by omega) (by decide) dX4_simple_24 ?_
  refine q_istore_7 F dX4_simple_25 (by decide) ?_
  refine q_iload F dX4_simple_27 rfl ?_
  refine q_istore_8 F dX4_simple_29 (by decide) ?_
  refine q_iload_n F dX4_simple_31 rfl ?_
  refine q_tsw_in F 145 dX4_simple_32 (by decide) (by decide) rfl (by decide) ?_
  refine q_aload_n F dX4_simple_145 rfl ?_
  refine q_iload_n F dX4_simple_146 rfl ?_
  refine q_iload F dX4_simple_147 rfl ?_
  refine q_iload F dX4_simple_149 rfl ?_
  refine q_iadd F dX4_simple_151 ?_
  refine q_iconst F (nI 1) dX4_simple_152 (by decide) ?_
  refine q_callVi F [.inl (nI p), .inl (K 5 (8 * p + b) + c), .inl (nI 1)] (fun l => t_reach l S K hp (wr := true) (q_bl_1 rfl) hbr) clX4_91 rfl q_m20 rfl rfl rfl ⟨Nat.le_of_ble_eq_true rfl, Nat.le_of_ble_eq_true rfl⟩ (Nat.le_of_ble_eq_true rfl) ⟨rfl, rfl⟩ ⟨Nat.zero_le _, Nat.zero_le _⟩ dX4_simple_153 (fun v S' hv => ?_)
  obtain ⟨hv, hS⟩ := hv
  subst hS
  rcases hv with ⟨rfl, hre⟩ | ⟨rfl, hre⟩
  · refine q_ifN_eq F 255 dX4_simple_156 (by decide) (by omega) (fun h156 => ?_) (fun h156 => ?_)
    · refine q_aload_n F dX4_simple_255 rfl ?_
      refine q_getr F (k := 6) fkX4_22 q_m20 rfl rfl dX4_simple_256 ?_
      refine q_bipush F (nI 8) dX4_simple_259 (by decide) ?_
      refine q_iload_n F dX4_simple_261 rfl ?_
      refine q_imulN F dX4_simple_262 ?_
      refine q_iload_n F dX4_simple_263 rfl ?_
      refine q_iaddN F dX4_simple_264 ?_
      refine q_iload F dX4_simple_265 rfl ?_
      refine q_kast F 5 (_) q_m25 rfl rfl rfl (by omega) (by decide) dX4_simple_267 ?_
      refine q_iload_n F dX4_simple_268 rfl ?_
      refine q_bipush F (nI 7) dX4_simple_269 (by decide) ?_
      refine q_icmpN_ne F 278 dX4_simple_271 (by decide) (by omega) (by omega) (fun h271 => ?_) (fun h271 => ?_)
      · refine q_iconst F (nI 1) dX4_simple_278 (by decide) ?_
        refine q_iret F E rfl ⟨rfl, by show _ = q_put S (k_so K p a (K 5 (8 * p + b) + c)); unfold k_so; rw [hre, k_u_id _ _ _ _ (congrFun (k_re_k (by decide) (by decide)) _)]; rfl⟩ dX4_simple_279
      · exact absurd h271 (by decide)
    · exact absurd h156 (by decide)
  · refine q_ifN_eq F 255 dX4_simple_156 (by decide) (by omega) (fun h156 => ?_) (fun h156 => ?_)
    · exact absurd h156 (by decide)
    · obtain ⟨t, ht, hte⟩ := k_re_ok hre hbr
      have htn : (K 5 (8 * p + b) + c).toInt.toNat = t := by rw [hte, nI_toInt (by omega)]; rfl
      refine q_aload_n F dX4_simple_159 rfl ?_
      refine q_getr F (k := 9) fkX4_31 q_m20 rfl rfl dX4_simple_160 ?_
      refine q_bipush F (nI 64) dX4_simple_163 (by decide) ?_
      refine q_iload_n F dX4_simple_165 rfl ?_
      refine q_imulN F dX4_simple_166 ?_
      refine q_iload F dX4_simple_167 rfl ?_
      refine q_iadd F dX4_simple_169 ?_
      refine q_iload F dX4_simple_170 rfl ?_
      refine q_iadd F dX4_simple_172 ?_
      refine q_iload F dX4_simple_173 rfl ?_
      refine q_kast F 8 (64 * p + t) q_m28 rfl rfl (by rw [Int32.add_assoc, hte, nI_add]) (by omega) (by decide) dX4_simple_175 ?_
      refine q_goto F 255 dX4_simple_176 (by decide) ?_
      refine q_aload_n F dX4_simple_255 rfl ?_
      refine q_getr F (k := 6) fkX4_22 q_m20 rfl rfl dX4_simple_256 ?_
      refine q_bipush F (nI 8) dX4_simple_259 (by decide) ?_
      refine q_iload_n F dX4_simple_261 rfl ?_
      refine q_imulN F dX4_simple_262 ?_
      refine q_iload_n F dX4_simple_263 rfl ?_
      refine q_iaddN F dX4_simple_264 ?_
      refine q_iload F dX4_simple_265 rfl ?_
      refine q_kast F 5 (_) q_m25 rfl rfl rfl (by omega) (by decide) dX4_simple_267 ?_
      refine q_iload_n F dX4_simple_268 rfl ?_
      refine q_bipush F (nI 7) dX4_simple_269 (by decide) ?_
      refine q_icmpN_ne F 278 dX4_simple_271 (by decide) (by omega) (by omega) (fun h271 => ?_) (fun h271 => ?_)
      · refine q_iconst F (nI 1) dX4_simple_278 (by decide) ?_
        refine q_iret F E rfl ⟨rfl, by show _ = q_put S (k_so K p a (K 5 (8 * p + b) + c)); unfold k_so; rw [if_pos hre, htn, k_u_id _ _ _ _ (by rw [k_u_ne _ _ _ _ (by simp)]; exact congrFun (k_re_k (by decide) (by decide)) _)]⟩ dX4_simple_279
      · exact absurd h271 (by decide)

set_option maxRecDepth 100000 in
set_option maxHeartbeats 4000000 in
theorem t_simple5 {G : q_g} {n : Nat} {ad : q_ix → Nat} (l : Launch) (S : q_st) (K : k_t) {p a b : Nat} {c : Int32} (hp : p < 8) (ha : a < 8) (hb : b < 8) (hbr : (K 7 p).toInt ≤ 64) : q_Ct l G iX4_simple [.inr (some (20, 0)), .inl (nI p), .inl (nI 5), .inl (nI a), .inl (nI b), .inl c] (q_w G n ad) (q_put S K) (q_pi (q_w G n ad) (fun r S' => r = (k_op K p 5 a b c).1 ∧ S' = q_put S (k_op K p 5 a b c).2)) := by
  refine q_enter (by decide) (Nat.le_of_ble_eq_true rfl) (fun X F E => ?_)
  show q_W G X iX4_simple (q_w G n ad) (0, 0) 0 [some (.inr (some (20, 0))), some (.inl (nI p)), some (.inl (nI 5)), some (.inl (nI a)), some (.inl (nI b)), some (.inl c), none, none, none] [] (q_put S K)
  refine q_aload_n F dX4_simple_0 rfl ?_
  refine q_getr F (k := 6) fkX4_22 q_m20 rfl rfl dX4_simple_1 ?_
  refine q_bipush F (nI 8) dX4_simple_4 (by decide) ?_
  refine q_iload_n F dX4_simple_6 rfl ?_
  refine q_imulN F dX4_simple_7 ?_
  refine q_iload_n F dX4_simple_8 rfl ?_
  refine q_iaddN F dX4_simple_9 ?_
  refine q_kald F 5 (_) q_m25 rfl rfl rfl (by omega) (by decide) dX4_simple_10 ?_
  refine q_istore_6 F dX4_simple_11 (by decide) ?_
  refine q_aload_n F dX4_simple_13 rfl ?_
  refine q_getr F (k := 6) fkX4_22 q_m20 rfl rfl dX4_simple_14 ?_
  refine q_bipush F (nI 8) dX4_simple_17 (by decide) ?_
  refine q_iload_n F dX4_simple_19 rfl ?_
  refine q_imulN F dX4_simple_20 ?_
  refine q_iload F dX4_simple_21 rfl ?_
  refine q_iaddN F dX4_simple_23 ?_
  refine q_kald F 5 (_) q_m25 rfl rfl rfl (by omega) (by decide) dX4_simple_24 ?_
  refine q_istore_7 F dX4_simple_25 (by decide) ?_
  refine q_iload F dX4_simple_27 rfl ?_
  refine q_istore_8 F dX4_simple_29 (by decide) ?_
  refine q_iload_n F dX4_simple_31 rfl ?_
  refine q_tsw_in F 179 dX4_simple_32 (by decide) (by decide) rfl (by decide) ?_
  refine q_aload_n F dX4_simple_179 rfl ?_
  refine q_getr F (k := 7) fkX4_25 q_m20 rfl rfl dX4_simple_180 ?_
  refine q_iload_n F dX4_simple_183 rfl ?_
  refine q_iload F dX4_simple_184 rfl ?_
  refine q_if_eq F 194 dX4_simple_186 (by decide) (fun h186 => ?_) (fun h186 => ?_)
  · refine q_aload_n F dX4_simple_194 rfl ?_
    refine q_getr F (k := 7) fkX4_25 q_m20 rfl rfl dX4_simple_195 ?_
    refine q_iload_n F dX4_simple_198 rfl ?_
    refine q_kald F 6 (_) q_m26 rfl rfl rfl (by omega) (by decide) dX4_simple_199 ?_
    refine q_kast F 6 (_) q_m26 rfl rfl rfl (by omega) (by decide) dX4_simple_200 ?_
    refine q_goto F 255 dX4_simple_201 (by decide) ?_
    refine q_aload_n F dX4_simple_255 rfl ?_
    refine q_getr F (k := 6) fkX4_22 q_m20 rfl rfl dX4_simple_256 ?_
    refine q_bipush F (nI 8) dX4_simple_259 (by decide) ?_
    refine q_iload_n F dX4_simple_261 rfl ?_
    refine q_imulN F dX4_simple_262 ?_
    refine q_iload_n F dX4_simple_263 rfl ?_
    refine q_iaddN F dX4_simple_264 ?_
    refine q_iload F dX4_simple_265 rfl ?_
    refine q_kast F 5 (_) q_m25 rfl rfl rfl (by omega) (by decide) dX4_simple_267 ?_
    refine q_iload_n F dX4_simple_268 rfl ?_
    refine q_bipush F (nI 7) dX4_simple_269 (by decide) ?_
    refine q_icmpN_ne F 278 dX4_simple_271 (by decide) (by omega) (by omega) (fun h271 => ?_) (fun h271 => ?_)
    · refine q_iconst F (nI 1) dX4_simple_278 (by decide) ?_
      refine q_iret F E rfl ⟨rfl, by show _ = q_put S (if K 5 (8 * p + a) ≠ 0 then k_u K 6 p c else K); first | (rw [if_pos h186, k_u_id _ _ _ _ (k_u_ne _ _ _ _ (by simp))]; done) | (rw [if_neg (fun q => q h186), k_u_self, k_u_self]; done)⟩ dX4_simple_279
    · exact absurd h271 (by decide)
  · refine q_iload F dX4_simple_189 rfl ?_
    refine q_goto F 200 dX4_simple_191 (by decide) ?_
    refine q_kast F 6 (_) q_m26 rfl rfl rfl (by omega) (by decide) dX4_simple_200 ?_
    refine q_goto F 255 dX4_simple_201 (by decide) ?_
    refine q_aload_n F dX4_simple_255 rfl ?_
    refine q_getr F (k := 6) fkX4_22 q_m20 rfl rfl dX4_simple_256 ?_
    refine q_bipush F (nI 8) dX4_simple_259 (by decide) ?_
    refine q_iload_n F dX4_simple_261 rfl ?_
    refine q_imulN F dX4_simple_262 ?_
    refine q_iload_n F dX4_simple_263 rfl ?_
    refine q_iaddN F dX4_simple_264 ?_
    refine q_iload F dX4_simple_265 rfl ?_
    refine q_kast F 5 (_) q_m25 rfl rfl rfl (by omega) (by decide) dX4_simple_267 ?_
    refine q_iload_n F dX4_simple_268 rfl ?_
    refine q_bipush F (nI 7) dX4_simple_269 (by decide) ?_
    refine q_icmpN_ne F 278 dX4_simple_271 (by decide) (by omega) (by omega) (fun h271 => ?_) (fun h271 => ?_)
    · refine q_iconst F (nI 1) dX4_simple_278 (by decide) ?_
      refine q_iret F E rfl ⟨rfl, by show _ = q_put S (if K 5 (8 * p + a) ≠ 0 then k_u K 6 p c else K); first | (rw [if_pos h186, k_u_id _ _ _ _ (k_u_ne _ _ _ _ (by simp))]; done) | (rw [if_neg (fun q => q h186), k_u_self, k_u_self]; done)⟩ dX4_simple_279
    · exact absurd h271 (by decide)

set_option maxRecDepth 100000 in
set_option maxHeartbeats 4000000 in
theorem t_simple6 {G : q_g} {n : Nat} {ad : q_ix → Nat} (l : Launch) (S : q_st) (K : k_t) {p a b : Nat} {c : Int32} (hp : p < 8) (ha : a < 8) (hb : b < 8) (hbr : (K 7 p).toInt ≤ 64) : q_Ct l G iX4_simple [.inr (some (20, 0)), .inl (nI p), .inl (nI 6), .inl (nI a), .inl (nI b), .inl c] (q_w G n ad) (q_put S K) (q_pi (q_w G n ad) (fun r S' => r = (k_op K p 6 a b c).1 ∧ S' = q_put S (k_op K p 6 a b c).2)) := by
  refine q_enter (by decide) (Nat.le_of_ble_eq_true rfl) (fun X F E => ?_)
  show q_W G X iX4_simple (q_w G n ad) (0, 0) 0 [some (.inr (some (20, 0))), some (.inl (nI p)), some (.inl (nI 6)), some (.inl (nI a)), some (.inl (nI b)), some (.inl c), none, none, none] [] (q_put S K)
  refine q_aload_n F dX4_simple_0 rfl ?_
  refine q_getr F (k := 6) fkX4_22 q_m20 rfl rfl dX4_simple_1 ?_
  refine q_bipush F (nI 8) dX4_simple_4 (by decide) ?_
  refine q_iload_n F dX4_simple_6 rfl ?_
  refine q_imulN F dX4_simple_7 ?_
  refine q_iload_n F dX4_simple_8 rfl ?_
  refine q_iaddN F dX4_simple_9 ?_
  refine q_kald F 5 (_) q_m25 rfl rfl rfl (by omega) (by decide) dX4_simple_10 ?_
  refine q_istore_6 F dX4_simple_11 (by decide) ?_
  refine q_aload_n F dX4_simple_13 rfl ?_
  refine q_getr F (k := 6) fkX4_22 q_m20 rfl rfl dX4_simple_14 ?_
  refine q_bipush F (nI 8) dX4_simple_17 (by decide) ?_
  refine q_iload_n F dX4_simple_19 rfl ?_
  refine q_imulN F dX4_simple_20 ?_
  refine q_iload F dX4_simple_21 rfl ?_
  refine q_iaddN F dX4_simple_23 ?_
  refine q_kald F 5 (_) q_m25 rfl rfl rfl (by omega) (by decide) dX4_simple_24 ?_
  refine q_istore_7 F dX4_simple_25 (by decide) ?_
  refine q_iload F dX4_simple_27 rfl ?_
  refine q_istore_8 F dX4_simple_29 (by decide) ?_
  refine q_iload_n F dX4_simple_31 rfl ?_
  refine q_tsw_in F 204 dX4_simple_32 (by decide) (by decide) rfl (by decide) ?_
  refine q_aload_n F dX4_simple_204 rfl ?_
  refine q_getr F (k := 7) fkX4_25 q_m20 rfl rfl dX4_simple_205 ?_
  refine q_iload_n F dX4_simple_208 rfl ?_
  refine q_iload F dX4_simple_209 rfl ?_
  refine q_iload F dX4_simple_211 rfl ?_
  refine q_icmp_ge F 221 dX4_simple_213 (by decide) (fun h213 => ?_) (fun h213 => ?_)
  · refine q_aload_n F dX4_simple_221 rfl ?_
    refine q_getr F (k := 7) fkX4_25 q_m20 rfl rfl dX4_simple_222 ?_
    refine q_iload_n F dX4_simple_225 rfl ?_
    refine q_kald F 6 (_) q_m26 rfl rfl rfl (by omega) (by decide) dX4_simple_226 ?_
    refine q_kast F 6 (_) q_m26 rfl rfl rfl (by omega) (by decide) dX4_simple_227 ?_
    refine q_goto F 255 dX4_simple_228 (by decide) ?_
    refine q_aload_n F dX4_simple_255 rfl ?_
    refine q_getr F (k := 6) fkX4_22 q_m20 rfl rfl dX4_simple_256 ?_
    refine q_bipush F (nI 8) dX4_simple_259 (by decide) ?_
    refine q_iload_n F dX4_simple_261 rfl ?_
    refine q_imulN F dX4_simple_262 ?_
    refine q_iload_n F dX4_simple_263 rfl ?_
    refine q_iaddN F dX4_simple_264 ?_
    refine q_iload F dX4_simple_265 rfl ?_
    refine q_kast F 5 (_) q_m25 rfl rfl rfl (by omega) (by decide) dX4_simple_267 ?_
    refine q_iload_n F dX4_simple_268 rfl ?_
    refine q_bipush F (nI 7) dX4_simple_269 (by decide) ?_
    refine q_icmpN_ne F 278 dX4_simple_271 (by decide) (by omega) (by omega) (fun h271 => ?_) (fun h271 => ?_)
    · refine q_iconst F (nI 1) dX4_simple_278 (by decide) ?_
      refine q_iret F E rfl ⟨rfl, by show _ = q_put S (if (K 5 (8 * p + a)).toInt < (K 5 (8 * p + b)).toInt then k_u K 6 p c else K); first | (rw [if_pos h213, k_u_id _ _ _ _ (k_u_ne _ _ _ _ (by simp))]; done) | (rw [if_neg (by omega), k_u_self, k_u_self]; done)⟩ dX4_simple_279
    · exact absurd h271 (by decide)
  · refine q_iload F dX4_simple_216 rfl ?_
    refine q_goto F 227 dX4_simple_218 (by decide) ?_
    refine q_kast F 6 (_) q_m26 rfl rfl rfl (by omega) (by decide) dX4_simple_227 ?_
    refine q_goto F 255 dX4_simple_228 (by decide) ?_
    refine q_aload_n F dX4_simple_255 rfl ?_
    refine q_getr F (k := 6) fkX4_22 q_m20 rfl rfl dX4_simple_256 ?_
    refine q_bipush F (nI 8) dX4_simple_259 (by decide) ?_
    refine q_iload_n F dX4_simple_261 rfl ?_
    refine q_imulN F dX4_simple_262 ?_
    refine q_iload_n F dX4_simple_263 rfl ?_
    refine q_iaddN F dX4_simple_264 ?_
    refine q_iload F dX4_simple_265 rfl ?_
    refine q_kast F 5 (_) q_m25 rfl rfl rfl (by omega) (by decide) dX4_simple_267 ?_
    refine q_iload_n F dX4_simple_268 rfl ?_
    refine q_bipush F (nI 7) dX4_simple_269 (by decide) ?_
    refine q_icmpN_ne F 278 dX4_simple_271 (by decide) (by omega) (by omega) (fun h271 => ?_) (fun h271 => ?_)
    · refine q_iconst F (nI 1) dX4_simple_278 (by decide) ?_
      refine q_iret F E rfl ⟨rfl, by show _ = q_put S (if (K 5 (8 * p + a)).toInt < (K 5 (8 * p + b)).toInt then k_u K 6 p c else K); first | (rw [if_pos h213, k_u_id _ _ _ _ (k_u_ne _ _ _ _ (by simp))]; done) | (rw [if_neg (by omega), k_u_self, k_u_self]; done)⟩ dX4_simple_279
    · exact absurd h271 (by decide)

set_option maxRecDepth 100000 in
set_option maxHeartbeats 4000000 in
theorem t_simple7 {G : q_g} {n : Nat} {ad : q_ix → Nat} (l : Launch) (S : q_st) (K : k_t) {p a b : Nat} {c : Int32} (hp : p < 8) (ha : a < 8) (hb : b < 8) (hbr : (K 7 p).toInt ≤ 64) {m : Nat} (hm : K 0 15 = nI m) (hm2 : m < 2 ^ 30) : q_Ct l G iX4_simple [.inr (some (20, 0)), .inl (nI p), .inl (nI 7), .inl (nI a), .inl (nI b), .inl c] (q_w G n ad) (q_put S K) (q_pi (q_w G n ad) (fun r S' => r = (k_op K p 7 a b c).1 ∧ S' = q_put S (k_op K p 7 a b c).2)) := by
  refine q_enter (by decide) (Nat.le_of_ble_eq_true rfl) (fun X F E => ?_)
  show q_W G X iX4_simple (q_w G n ad) (0, 0) 0 [some (.inr (some (20, 0))), some (.inl (nI p)), some (.inl (nI 7)), some (.inl (nI a)), some (.inl (nI b)), some (.inl c), none, none, none] [] (q_put S K)
  refine q_aload_n F dX4_simple_0 rfl ?_
  refine q_getr F (k := 6) fkX4_22 q_m20 rfl rfl dX4_simple_1 ?_
  refine q_bipush F (nI 8) dX4_simple_4 (by decide) ?_
  refine q_iload_n F dX4_simple_6 rfl ?_
  refine q_imulN F dX4_simple_7 ?_
  refine q_iload_n F dX4_simple_8 rfl ?_
  refine q_iaddN F dX4_simple_9 ?_
  refine q_kald F 5 (_) q_m25 rfl rfl rfl (by omega) (by decide) dX4_simple_10 ?_
  refine q_istore_6 F dX4_simple_11 (by decide) ?_
  refine q_aload_n F dX4_simple_13 rfl ?_
  refine q_getr F (k := 6) fkX4_22 q_m20 rfl rfl dX4_simple_14 ?_
  refine q_bipush F (nI 8) dX4_simple_17 (by decide) ?_
  refine q_iload_n F dX4_simple_19 rfl ?_
  refine q_imulN F dX4_simple_20 ?_
  refine q_iload F dX4_simple_21 rfl ?_
  refine q_iaddN F dX4_simple_23 ?_
  refine q_kald F 5 (_) q_m25 rfl rfl rfl (by omega) (by decide) dX4_simple_24 ?_
  refine q_istore_7 F dX4_simple_25 (by decide) ?_
  refine q_iload F dX4_simple_27 rfl ?_
  refine q_istore_8 F dX4_simple_29 (by decide) ?_
  refine q_iload_n F dX4_simple_31 rfl ?_
  refine q_tsw_out F 231 dX4_simple_32 (by decide) (by decide) ?_
  refine q_aload_n F dX4_simple_231 rfl ?_
  refine q_getr F (k := 16) fkX4_41 q_m20 rfl rfl dX4_simple_232 ?_
  refine q_aload_n F dX4_simple_235 rfl ?_
  refine q_kgeti F (k := 15) fkX4_95 rfl dX4_simple_236 ?_
  refine q_top (nI m) hm ?_
  refine q_bipush F (nI 32) dX4_simple_239 (by decide) ?_
  refine q_iremN F dX4_simple_241 (by omega) (by omega) (by omega) ?_
  refine q_iload F dX4_simple_242 rfl ?_
  refine q_kast F 10 (_) q_m30 rfl rfl rfl (by omega) (by decide) dX4_simple_244 ?_
  refine q_aload_n F dX4_simple_245 rfl ?_
  refine q_dup F dX4_simple_246 ?_
  refine q_kgeti F (k := 15) fkX4_95 rfl dX4_simple_247 ?_
  refine q_top (nI m) (by rw [k_u_ne _ _ _ _ (by simp)]; exact hm) ?_
  refine q_iconst F (nI 1) dX4_simple_250 (by decide) ?_
  refine q_iaddN F dX4_simple_251 ?_
  refine q_kputi F (k := 15) fkX4_95 fp4_15 rfl dX4_simple_252 ?_
  refine q_aload_n F dX4_simple_255 rfl ?_
  refine q_getr F (k := 6) fkX4_22 q_m20 rfl rfl dX4_simple_256 ?_
  refine q_bipush F (nI 8) dX4_simple_259 (by decide) ?_
  refine q_iload_n F dX4_simple_261 rfl ?_
  refine q_imulN F dX4_simple_262 ?_
  refine q_iload_n F dX4_simple_263 rfl ?_
  refine q_iaddN F dX4_simple_264 ?_
  refine q_iload F dX4_simple_265 rfl ?_
  refine q_kast F 5 (_) q_m25 rfl rfl rfl (by omega) (by decide) dX4_simple_267 ?_
  refine q_iload_n F dX4_simple_268 rfl ?_
  refine q_bipush F (nI 7) dX4_simple_269 (by decide) ?_
  refine q_icmpN_ne F 278 dX4_simple_271 (by decide) (by omega) (by omega) (fun h271 => ?_) (fun h271 => ?_)
  · exact absurd h271 (by decide)
  · refine q_iconst F (nI 2) dX4_simple_274 (by decide) ?_
    refine q_goto F 279 dX4_simple_275 (by decide) ?_
    refine q_iret F E rfl ⟨rfl, by show _ = q_put S (k_pr K (K 5 (8 * p + a))); unfold k_pr; rw [hm, nI_toInt (by omega), Int.toNat_natCast, k_u_id _ _ _ _ (by rw [k_u_ne _ _ _ _ (by simp), k_u_ne _ _ _ _ (by simp)]), nI_1]⟩ dX4_simple_279

set_option maxRecDepth 100000 in
set_option maxHeartbeats 4000000 in
theorem t_simple {G : q_g} {n : Nat} {ad : q_ix → Nat} (l : Launch) (S : q_st) (K : k_t) {p a b : Nat} {c : Int32} (hp : p < 8) (ha : a < 8) (hb : b < 8) (hbr : (K 7 p).toInt ≤ 64) {op : Nat} (hop : op < 8) {m : Nat} (hm : K 0 15 = nI m) (hm2 : m < 2 ^ 30) : q_Ct l G iX4_simple [.inr (some (20, 0)), .inl (nI p), .inl (nI op), .inl (nI a), .inl (nI b), .inl c] (q_w G n ad) (q_put S K) (q_pi (q_w G n ad) (fun r S' => r = (k_op K p op a b c).1 ∧ S' = q_put S (k_op K p op a b c).2)) := by
  rcases (show op = 0 ∨ op = 1 ∨ op = 2 ∨ op = 3 ∨ op = 4 ∨ op = 5 ∨ op = 6 ∨ op = 7 by omega) with rfl | rfl | rfl | rfl | rfl | rfl | rfl | rfl
  · exact t_simple0 l S K hp ha hb hbr
  · exact t_simple1 l S K hp ha hb hbr
  · exact t_simple2 l S K hp ha hb hbr
  · exact t_simple3 l S K hp ha hb hbr
  · exact t_simple4 l S K hp ha hb hbr
  · exact t_simple5 l S K hp ha hb hbr
  · exact t_simple6 l S K hp ha hb hbr
  · exact t_simple7 l S K hp ha hb hbr hm hm2

theorem q_and15 (w : Int32) : ∃ j, j < 16 ∧ w &&& nI 15 = nI j ∧ (w &&& 15).toInt.toNat = j := by
  obtain ⟨j, hj, h⟩ := pk_andE w (m := 15) 4 (by decide)
  have h2 : w &&& 15 = nI j := h
  exact ⟨j, hj, h, by rw [h2, nI_toInt (by omega)]; rfl⟩
theorem q_and7 (w : Int32) : ∃ j, j < 8 ∧ w &&& nI 7 = nI j ∧ (w &&& 7).toInt.toNat = j := by
  obtain ⟨j, hj, h⟩ := pk_andE w (m := 7) 3 (by decide)
  have h2 : w &&& 7 = nI j := h
  exact ⟨j, hj, h, by rw [h2, nI_toInt (by omega)]; rfl⟩
def k_Par (K : k_t) : Prop := ∀ j, j < 8 → K 3 j = -1 ∨ ∃ r, r < 8 ∧ K 3 j = nI r

set_option maxRecDepth 100000 in
set_option maxHeartbeats 4000000 in
theorem lp_perform8 {G : q_g} {n : Nat} {ad : q_ix → Nat} {X : q_cx} (F : q_fx G X iX4_perform) {S : q_st} {K : k_t} {p a b : Nat} {w : Int32} (hp : p < 8) (ha : a < 8) (hb : b < 8) {b0 : Nat} (hb0 : K 7 p = nI b0) (hb064 : b0 ≤ 64) (hpar : k_Par K) (hst : ¬ K 2 p = 0) (E : q_en G X iX4_perform (q_pi (q_w G n ad) (fun r S' => r = (k_dn K p w).1 ∧ S' = q_put S (k_dn K p w).2))) (hdn : k_dn K p w = k_op K p 8 a b (w >>> 10)) : q_W G X iX4_perform (q_w G n ad) (0, 0) 28 [some (.inr (some (20, 0))), some (.inl (nI p)), some (.inl w), some (.inl (nI 8)), some (.inl (nI a)), some (.inl (nI b)), some (.inl (w >>> 10))] [] (q_put S K) := by
  refine q_iload_n F dX4_perform_28 rfl ?_
  refine q_bipush F (nI 8) dX4_perform_29 (by decide) ?_
  refine q_icmpN_ge F 47 dX4_perform_31 (by decide) (by omega) (by omega) (fun h31 => ?_) (fun h31 => ?_)
  · refine q_iload_n F dX4_perform_47 rfl ?_
    refine q_bipush F (nI 8) dX4_perform_48 (by decide) ?_
    refine q_icmpN_ne F 61 dX4_perform_50 (by decide) (by omega) (by omega) (fun h50 => ?_) (fun h50 => ?_)
    · exact absurd h50 (by decide)
    · refine q_aload_n F dX4_perform_53 rfl ?_
      refine q_iload_n F dX4_perform_54 rfl ?_
      refine q_iload F dX4_perform_55 rfl ?_
      refine q_callVi F [.inl (nI p), .inl (nI a)] (fun l => t_mfork l S K hp ha hst) clX4_102 rfl q_m20 rfl rfl rfl ⟨Nat.le_of_ble_eq_true rfl, Nat.le_of_ble_eq_true rfl⟩ (Nat.le_of_ble_eq_true rfl) ⟨rfl, rfl⟩ ⟨Nat.zero_le _, Nat.zero_le _⟩ dX4_perform_57 (fun v S' hv => ?_)
      obtain ⟨hv, hS⟩ := hv
      subst hS
      subst hv
      refine q_iret F E rfl (by rw [hdn]; exact ⟨rfl, rfl⟩) dX4_perform_60
  · exact absurd h31 (by decide)

set_option maxRecDepth 100000 in
set_option maxHeartbeats 4000000 in
theorem lp_perform9 {G : q_g} {n : Nat} {ad : q_ix → Nat} {X : q_cx} (F : q_fx G X iX4_perform) {S : q_st} {K : k_t} {p a b : Nat} {w : Int32} (hp : p < 8) (ha : a < 8) (hb : b < 8) {b0 : Nat} (hb0 : K 7 p = nI b0) (hb064 : b0 ≤ 64) (hpar : k_Par K) (hst : ¬ K 2 p = 0) (E : q_en G X iX4_perform (q_pi (q_w G n ad) (fun r S' => r = (k_dn K p w).1 ∧ S' = q_put S (k_dn K p w).2))) (hdn : k_dn K p w = k_op K p 9 a b (w >>> 10)) : q_W G X iX4_perform (q_w G n ad) (0, 0) 28 [some (.inr (some (20, 0))), some (.inl (nI p)), some (.inl w), some (.inl (nI 9)), some (.inl (nI a)), some (.inl (nI b)), some (.inl (w >>> 10))] [] (q_put S K) := by
  refine q_iload_n F dX4_perform_28 rfl ?_
  refine q_bipush F (nI 8) dX4_perform_29 (by decide) ?_
  refine q_icmpN_ge F 47 dX4_perform_31 (by decide) (by omega) (by omega) (fun h31 => ?_) (fun h31 => ?_)
  · refine q_iload_n F dX4_perform_47 rfl ?_
    refine q_bipush F (nI 8) dX4_perform_48 (by decide) ?_
    refine q_icmpN_ne F 61 dX4_perform_50 (by decide) (by omega) (by omega) (fun h50 => ?_) (fun h50 => ?_)
    · refine q_iload_n F dX4_perform_61 rfl ?_
      refine q_bipush F (nI 9) dX4_perform_62 (by decide) ?_
      refine q_icmpN_ne F 76 dX4_perform_64 (by decide) (by omega) (by omega) (fun h64 => ?_) (fun h64 => ?_)
      · exact absurd h64 (by decide)
      · refine q_aload_n F dX4_perform_67 rfl ?_
        refine q_iload_n F dX4_perform_68 rfl ?_
        refine q_iload F dX4_perform_69 rfl ?_
        refine q_iload F dX4_perform_71 rfl ?_
        refine q_callVv F [.inl (nI p), .inl (nI a), .inl (w >>> 10)] (fun l => t_mgrow l S K hp ha hb0 hb064) clX4_106 rfl q_m20 rfl rfl rfl ⟨Nat.le_of_ble_eq_true rfl, Nat.le_of_ble_eq_true rfl⟩ (Nat.le_of_ble_eq_true rfl) ⟨rfl, rfl⟩ ⟨Nat.zero_le _, Nat.zero_le _⟩ dX4_perform_73 (fun S' hS => ?_)
        subst hS
        refine q_iload_n F dX4_perform_76 rfl ?_
        refine q_bipush F (nI 11) dX4_perform_77 (by decide) ?_
        refine q_icmpN_ne F 90 dX4_perform_79 (by decide) (by omega) (by omega) (fun h79 => ?_) (fun h79 => ?_)
        · refine q_iload_n F dX4_perform_90 rfl ?_
          refine q_bipush F (nI 12) dX4_perform_91 (by decide) ?_
          refine q_icmpN_ne F 104 dX4_perform_93 (by decide) (by omega) (by omega) (fun h93 => ?_) (fun h93 => ?_)
          · refine q_iload_n F dX4_perform_104 rfl ?_
            refine q_bipush F (nI 13) dX4_perform_105 (by decide) ?_
            refine q_icmpN_ne F 123 dX4_perform_107 (by decide) (by omega) (by omega) (fun h107 => ?_) (fun h107 => ?_)
            · refine q_iload_n F dX4_perform_123 rfl ?_
              refine q_bipush F (nI 13) dX4_perform_124 (by decide) ?_
              refine q_icmpN_le F 135 dX4_perform_126 (by decide) (by omega) (by omega) (fun h126 => ?_) (fun h126 => ?_)
              · refine q_iload_n F dX4_perform_135 rfl ?_
                refine q_bipush F (nI 10) dX4_perform_136 (by decide) ?_
                refine q_icmpN_ne F 160 dX4_perform_138 (by decide) (by omega) (by omega) (fun h138 => ?_) (fun h138 => ?_)
                · refine q_iconst F (nI 1) dX4_perform_160 (by decide) ?_
                  refine q_iret F E rfl (by rw [hdn]; exact ⟨rfl, rfl⟩) dX4_perform_161
                · exact absurd h138 (by decide)
              · exact absurd h126 (by decide)
            · exact absurd h107 (by decide)
          · exact absurd h93 (by decide)
        · exact absurd h79 (by decide)
    · exact absurd h50 (by decide)
  · exact absurd h31 (by decide)

set_option maxRecDepth 100000 in
set_option maxHeartbeats 4000000 in
theorem lp_perform10 {G : q_g} {n : Nat} {ad : q_ix → Nat} {X : q_cx} (F : q_fx G X iX4_perform) {S : q_st} {K : k_t} {p a b : Nat} {w : Int32} (hp : p < 8) (ha : a < 8) (hb : b < 8) {b0 : Nat} (hb0 : K 7 p = nI b0) (hb064 : b0 ≤ 64) (hpar : k_Par K) (hst : ¬ K 2 p = 0) (E : q_en G X iX4_perform (q_pi (q_w G n ad) (fun r S' => r = (k_dn K p w).1 ∧ S' = q_put S (k_dn K p w).2))) (hdn : k_dn K p w = k_op K p 10 a b (w >>> 10)) : q_W G X iX4_perform (q_w G n ad) (0, 0) 28 [some (.inr (some (20, 0))), some (.inl (nI p)), some (.inl w), some (.inl (nI 10)), some (.inl (nI a)), some (.inl (nI b)), some (.inl (w >>> 10))] [] (q_put S K) := by
  refine q_iload_n F dX4_perform_28 rfl ?_
  refine q_bipush F (nI 8) dX4_perform_29 (by decide) ?_
  refine q_icmpN_ge F 47 dX4_perform_31 (by decide) (by omega) (by omega) (fun h31 => ?_) (fun h31 => ?_)
  · refine q_iload_n F dX4_perform_47 rfl ?_
    refine q_bipush F (nI 8) dX4_perform_48 (by decide) ?_
    refine q_icmpN_ne F 61 dX4_perform_50 (by decide) (by omega) (by omega) (fun h50 => ?_) (fun h50 => ?_)
    · refine q_iload_n F dX4_perform_61 rfl ?_
      refine q_bipush F (nI 9) dX4_perform_62 (by decide) ?_
      refine q_icmpN_ne F 76 dX4_perform_64 (by decide) (by omega) (by omega) (fun h64 => ?_) (fun h64 => ?_)
      · refine q_iload_n F dX4_perform_76 rfl ?_
        refine q_bipush F (nI 11) dX4_perform_77 (by decide) ?_
        refine q_icmpN_ne F 90 dX4_perform_79 (by decide) (by omega) (by omega) (fun h79 => ?_) (fun h79 => ?_)
        · refine q_iload_n F dX4_perform_90 rfl ?_
          refine q_bipush F (nI 12) dX4_perform_91 (by decide) ?_
          refine q_icmpN_ne F 104 dX4_perform_93 (by decide) (by omega) (by omega) (fun h93 => ?_) (fun h93 => ?_)
          · refine q_iload_n F dX4_perform_104 rfl ?_
            refine q_bipush F (nI 13) dX4_perform_105 (by decide) ?_
            refine q_icmpN_ne F 123 dX4_perform_107 (by decide) (by omega) (by omega) (fun h107 => ?_) (fun h107 => ?_)
            · refine q_iload_n F dX4_perform_123 rfl ?_
              refine q_bipush F (nI 13) dX4_perform_124 (by decide) ?_
              refine q_icmpN_le F 135 dX4_perform_126 (by decide) (by omega) (by omega) (fun h126 => ?_) (fun h126 => ?_)
              · refine q_iload_n F dX4_perform_135 rfl ?_
                refine q_bipush F (nI 10) dX4_perform_136 (by decide) ?_
                refine q_icmpN_ne F 160 dX4_perform_138 (by decide) (by omega) (by omega) (fun h138 => ?_) (fun h138 => ?_)
                · exact absurd h138 (by decide)
                · refine q_aload_n F dX4_perform_141 rfl ?_
                  refine q_iload_n F dX4_perform_142 rfl ?_
                  refine q_aload_n F dX4_perform_143 rfl ?_
                  refine q_getr F (k := 6) fkX4_22 q_m20 rfl rfl dX4_perform_144 ?_
                  refine q_bipush F (nI 8) dX4_perform_147 (by decide) ?_
                  refine q_iload_n F dX4_perform_149 rfl ?_
                  refine q_imulN F dX4_perform_150 ?_
                  refine q_iload F dX4_perform_151 rfl ?_
                  refine q_iaddN F dX4_perform_153 ?_
                  refine q_kald F 5 (_) q_m25 rfl rfl rfl (by omega) (by decide) dX4_perform_154 ?_
                  refine q_callVv F [.inl (nI p), .inl (K 5 (8 * p + a))] (fun l => t_mend l S K hp hpar) clX4_81 rfl q_m20 rfl rfl rfl ⟨Nat.le_of_ble_eq_true rfl, Nat.le_of_ble_eq_true rfl⟩ (Nat.le_of_ble_eq_true rfl) ⟨rfl, rfl⟩ ⟨Nat.zero_le _, Nat.zero_le _⟩ dX4_perform_155 (fun S' hS => ?_)
                  subst hS
                  refine q_iconst F (nI 5) dX4_perform_158 (by decide) ?_
                  refine q_iret F E rfl (by rw [hdn]; exact ⟨rfl, rfl⟩) dX4_perform_159
              · exact absurd h126 (by decide)
            · exact absurd h107 (by decide)
          · exact absurd h93 (by decide)
        · exact absurd h79 (by decide)
      · exact absurd h64 (by decide)
    · exact absurd h50 (by decide)
  · exact absurd h31 (by decide)

set_option maxRecDepth 100000 in
set_option maxHeartbeats 4000000 in
theorem lp_perform11 {G : q_g} {n : Nat} {ad : q_ix → Nat} {X : q_cx} (F : q_fx G X iX4_perform) {S : q_st} {K : k_t} {p a b : Nat} {w : Int32} (hp : p < 8) (ha : a < 8) (hb : b < 8) {b0 : Nat} (hb0 : K 7 p = nI b0) (hb064 : b0 ≤ 64) (hpar : k_Par K) (hst : ¬ K 2 p = 0) (E : q_en G X iX4_perform (q_pi (q_w G n ad) (fun r S' => r = (k_dn K p w).1 ∧ S' = q_put S (k_dn K p w).2))) (hdn : k_dn K p w = k_op K p 11 a b (w >>> 10)) : q_W G X iX4_perform (q_w G n ad) (0, 0) 28 [some (.inr (some (20, 0))), some (.inl (nI p)), some (.inl w), some (.inl (nI 11)), some (.inl (nI a)), some (.inl (nI b)), some (.inl (w >>> 10))] [] (q_put S K) := by
  refine q_iload_n F dX4_perform_28 rfl ?_
  refine q_bipush F (nI 8) dX4_perform_29 (by decide) ?_
  refine q_icmpN_ge F 47 dX4_perform_31 (by decide) (by omega) (by omega) (fun h31 => ?_) (fun h31 => ?_)
  · refine q_iload_n F dX4_perform_47 rfl ?_
    refine q_bipush F (nI 8) dX4_perform_48 (by decide) ?_
    refine q_icmpN_ne F 61 dX4_perform_50 (by decide) (by omega) (by omega) (fun h50 => ?_) (fun h50 => ?_)
    · refine q_iload_n F dX4_perform_61 rfl ?_
      refine q_bipush F (nI 9) dX4_perform_62 (by decide) ?_
      refine q_icmpN_ne F 76 dX4_perform_64 (by decide) (by omega) (by omega) (fun h64 => ?_) (fun h64 => ?_)
      · refine q_iload_n F dX4_perform_76 rfl ?_
        refine q_bipush F (nI 11) dX4_perform_77 (by decide) ?_
        refine q_icmpN_ne F 90 dX4_perform_79 (by decide) (by omega) (by omega) (fun h79 => ?_) (fun h79 => ?_)
        · exact absurd h79 (by decide)
        · refine q_aload_n F dX4_perform_82 rfl ?_
          refine q_iload_n F dX4_perform_83 rfl ?_
          refine q_iload F dX4_perform_84 rfl ?_
          refine q_callVi F [.inl (nI p), .inl (nI a)] (fun l => t_mawait l S K hp ha) clX4_110 rfl q_m20 rfl rfl rfl ⟨Nat.le_of_ble_eq_true rfl, Nat.le_of_ble_eq_true rfl⟩ (Nat.le_of_ble_eq_true rfl) ⟨rfl, rfl⟩ ⟨Nat.zero_le _, Nat.zero_le _⟩ dX4_perform_86 (fun v S' hv => ?_)
          obtain ⟨hv, hS⟩ := hv
          subst hS
          subst hv
          refine q_iret F E rfl (by rw [hdn]; exact ⟨rfl, rfl⟩) dX4_perform_89
      · exact absurd h64 (by decide)
    · exact absurd h50 (by decide)
  · exact absurd h31 (by decide)

set_option maxRecDepth 100000 in
set_option maxHeartbeats 4000000 in
theorem lp_perform12 {G : q_g} {n : Nat} {ad : q_ix → Nat} {X : q_cx} (F : q_fx G X iX4_perform) {S : q_st} {K : k_t} {p a b : Nat} {w : Int32} (hp : p < 8) (ha : a < 8) (hb : b < 8) {b0 : Nat} (hb0 : K 7 p = nI b0) (hb064 : b0 ≤ 64) (hpar : k_Par K) (hst : ¬ K 2 p = 0) (E : q_en G X iX4_perform (q_pi (q_w G n ad) (fun r S' => r = (k_dn K p w).1 ∧ S' = q_put S (k_dn K p w).2))) (hdn : k_dn K p w = k_op K p 12 a b (w >>> 10)) : q_W G X iX4_perform (q_w G n ad) (0, 0) 28 [some (.inr (some (20, 0))), some (.inl (nI p)), some (.inl w), some (.inl (nI 12)), some (.inl (nI a)), some (.inl (nI b)), some (.inl (w >>> 10))] [] (q_put S K) := by
  refine q_iload_n F dX4_perform_28 rfl ?_
  refine q_bipush F (nI 8) dX4_perform_29 (by decide) ?_
  refine q_icmpN_ge F 47 dX4_perform_31 (by decide) (by omega) (by omega) (fun h31 => ?_) (fun h31 => ?_)
  · refine q_iload_n F dX4_perform_47 rfl ?_
    refine q_bipush F (nI 8) dX4_perform_48 (by decide) ?_
    refine q_icmpN_ne F 61 dX4_perform_50 (by decide) (by omega) (by omega) (fun h50 => ?_) (fun h50 => ?_)
    · refine q_iload_n F dX4_perform_61 rfl ?_
      refine q_bipush F (nI 9) dX4_perform_62 (by decide) ?_
      refine q_icmpN_ne F 76 dX4_perform_64 (by decide) (by omega) (by omega) (fun h64 => ?_) (fun h64 => ?_)
      · refine q_iload_n F dX4_perform_76 rfl ?_
        refine q_bipush F (nI 11) dX4_perform_77 (by decide) ?_
        refine q_icmpN_ne F 90 dX4_perform_79 (by decide) (by omega) (by omega) (fun h79 => ?_) (fun h79 => ?_)
        · refine q_iload_n F dX4_perform_90 rfl ?_
          refine q_bipush F (nI 12) dX4_perform_91 (by decide) ?_
          refine q_icmpN_ne F 104 dX4_perform_93 (by decide) (by omega) (by omega) (fun h93 => ?_) (fun h93 => ?_)
          · exact absurd h93 (by decide)
          · refine q_aload_n F dX4_perform_96 rfl ?_
            refine q_aload_n F dX4_perform_97 rfl ?_
            refine q_kgeti F (k := 1) fkX4_47 rfl dX4_perform_98 ?_
            refine q_kputi F (k := 13) fkX4_88 fp4_13 rfl dX4_perform_101 ?_
            refine q_iload_n F dX4_perform_104 rfl ?_
            refine q_bipush F (nI 13) dX4_perform_105 (by decide) ?_
            refine q_icmpN_ne F 123 dX4_perform_107 (by decide) (by omega) (by omega) (fun h107 => ?_) (fun h107 => ?_)
            · refine q_iload_n F dX4_perform_123 rfl ?_
              refine q_bipush F (nI 13) dX4_perform_124 (by decide) ?_
              refine q_icmpN_le F 135 dX4_perform_126 (by decide) (by omega) (by omega) (fun h126 => ?_) (fun h126 => ?_)
              · refine q_iload_n F dX4_perform_135 rfl ?_
                refine q_bipush F (nI 10) dX4_perform_136 (by decide) ?_
                refine q_icmpN_ne F 160 dX4_perform_138 (by decide) (by omega) (by omega) (fun h138 => ?_) (fun h138 => ?_)
                · refine q_iconst F (nI 1) dX4_perform_160 (by decide) ?_
                  refine q_iret F E rfl (by rw [hdn]; exact ⟨rfl, rfl⟩) dX4_perform_161
                · exact absurd h138 (by decide)
              · exact absurd h126 (by decide)
            · exact absurd h107 (by decide)
        · exact absurd h79 (by decide)
      · exact absurd h64 (by decide)
    · exact absurd h50 (by decide)
  · exact absurd h31 (by decide)

set_option maxRecDepth 100000 in
set_option maxHeartbeats 4000000 in
theorem lp_perform13 {G : q_g} {n : Nat} {ad : q_ix → Nat} {X : q_cx} (F : q_fx G X iX4_perform) {S : q_st} {K : k_t} {p a b : Nat} {w : Int32} (hp : p < 8) (ha : a < 8) (hb : b < 8) {b0 : Nat} (hb0 : K 7 p = nI b0) (hb064 : b0 ≤ 64) (hpar : k_Par K) (hst : ¬ K 2 p = 0) (E : q_en G X iX4_perform (q_pi (q_w G n ad) (fun r S' => r = (k_dn K p w).1 ∧ S' = q_put S (k_dn K p w).2))) (hdn : k_dn K p w = k_op K p 13 a b (w >>> 10)) : q_W G X iX4_perform (q_w G n ad) (0, 0) 28 [some (.inr (some (20, 0))), some (.inl (nI p)), some (.inl w), some (.inl (nI 13)), some (.inl (nI a)), some (.inl (nI b)), some (.inl (w >>> 10))] [] (q_put S K) := by
  refine q_iload_n F dX4_perform_28 rfl ?_
  refine q_bipush F (nI 8) dX4_perform_29 (by decide) ?_
  refine q_icmpN_ge F 47 dX4_perform_31 (by decide) (by omega) (by omega) (fun h31 => ?_) (fun h31 => ?_)
  · refine q_iload_n F dX4_perform_47 rfl ?_
    refine q_bipush F (nI 8) dX4_perform_48 (by decide) ?_
    refine q_icmpN_ne F 61 dX4_perform_50 (by decide) (by omega) (by omega) (fun h50 => ?_) (fun h50 => ?_)
    · refine q_iload_n F dX4_perform_61 rfl ?_
      refine q_bipush F (nI 9) dX4_perform_62 (by decide) ?_
      refine q_icmpN_ne F 76 dX4_perform_64 (by decide) (by omega) (by omega) (fun h64 => ?_) (fun h64 => ?_)
      · refine q_iload_n F dX4_perform_76 rfl ?_
        refine q_bipush F (nI 11) dX4_perform_77 (by decide) ?_
        refine q_icmpN_ne F 90 dX4_perform_79 (by decide) (by omega) (by omega) (fun h79 => ?_) (fun h79 => ?_)
        · refine q_iload_n F dX4_perform_90 rfl ?_
          refine q_bipush F (nI 12) dX4_perform_91 (by decide) ?_
          refine q_icmpN_ne F 104 dX4_perform_93 (by decide) (by omega) (by omega) (fun h93 => ?_) (fun h93 => ?_)
          · refine q_iload_n F dX4_perform_104 rfl ?_
            refine q_bipush F (nI 13) dX4_perform_105 (by decide) ?_
            refine q_icmpN_ne F 123 dX4_perform_107 (by decide) (by omega) (by omega) (fun h107 => ?_) (fun h107 => ?_)
            · exact absurd h107 (by decide)
            · refine q_aload_n F dX4_perform_110 rfl ?_
              refine q_getr F (k := 6) fkX4_22 q_m20 rfl rfl dX4_perform_111 ?_
              refine q_bipush F (nI 8) dX4_perform_114 (by decide) ?_
              refine q_iload_n F dX4_perform_116 rfl ?_
              refine q_imulN F dX4_perform_117 ?_
              refine q_iload F dX4_perform_118 rfl ?_
              refine q_iaddN F dX4_perform_120 ?_
              refine q_iload_n F dX4_perform_121 rfl ?_
              refine q_kast F 5 (_) q_m25 rfl rfl rfl (by omega) (by decide) dX4_perform_122 ?_
              refine q_iload_n F dX4_perform_123 rfl ?_
              refine q_bipush F (nI 13) dX4_perform_124 (by decide) ?_
              refine q_icmpN_le F 135 dX4_perform_126 (by decide) (by omega) (by omega) (fun h126 => ?_) (fun h126 => ?_)
              · refine q_iload_n F dX4_perform_135 rfl ?_
                refine q_bipush F (nI 10) dX4_perform_136 (by decide) ?_
                refine q_icmpN_ne F 160 dX4_perform_138 (by decide) (by omega) (by omega) (fun h138 => ?_) (fun h138 => ?_)
                · refine q_iconst F (nI 1) dX4_perform_160 (by decide) ?_
                  refine q_iret F E rfl (by rw [hdn]; exact ⟨rfl, rfl⟩) dX4_perform_161
                · exact absurd h138 (by decide)
              · exact absurd h126 (by decide)
          · exact absurd h93 (by decide)
        · exact absurd h79 (by decide)
      · exact absurd h64 (by decide)
    · exact absurd h50 (by decide)
  · exact absurd h31 (by decide)

set_option maxRecDepth 100000 in
set_option maxHeartbeats 4000000 in
theorem lp_perform14 {G : q_g} {n : Nat} {ad : q_ix → Nat} {X : q_cx} (F : q_fx G X iX4_perform) {S : q_st} {K : k_t} {p a b : Nat} {w : Int32} (hp : p < 8) (ha : a < 8) (hb : b < 8) {b0 : Nat} (hb0 : K 7 p = nI b0) (hb064 : b0 ≤ 64) (hpar : k_Par K) (hst : ¬ K 2 p = 0) (E : q_en G X iX4_perform (q_pi (q_w G n ad) (fun r S' => r = (k_dn K p w).1 ∧ S' = q_put S (k_dn K p w).2))) (hdn : k_dn K p w = k_op K p 14 a b (w >>> 10)) : q_W G X iX4_perform (q_w G n ad) (0, 0) 28 [some (.inr (some (20, 0))), some (.inl (nI p)), some (.inl w), some (.inl (nI 14)), some (.inl (nI a)), some (.inl (nI b)), some (.inl (w >>> 10))] [] (q_put S K) := by
  refine q_iload_n F dX4_perform_28 rfl ?_
  refine q_bipush F (nI 8) dX4_perform_29 (by decide) ?_
  refine q_icmpN_ge F 47 dX4_perform_31 (by decide) (by omega) (by omega) (fun h31 => ?_) (fun h31 => ?_)
  · refine q_iload_n F dX4_perform_47 rfl ?_
    refine q_bipush F (nI 8) dX4_perform_48 (by decide) ?_
    refine q_icmpN_ne F 61 dX4_perform_50 (by decide) (by omega) (by omega) (fun h50 => ?_) (fun h50 => ?_)
    · refine q_iload_n F dX4_perform_61 rfl ?_
      refine q_bipush F (nI 9) dX4_perform_62 (by decide) ?_
      refine q_icmpN_ne F 76 dX4_perform_64 (by decide) (by omega) (by omega) (fun h64 => ?_) (fun h64 => ?_)
      · refine q_iload_n F dX4_perform_76 rfl ?_
        refine q_bipush F (nI 11) dX4_perform_77 (by decide) ?_
        refine q_icmpN_ne F 90 dX4_perform_79 (by decide) (by omega) (by omega) (fun h79 => ?_) (fun h79 => ?_)
        · refine q_iload_n F dX4_perform_90 rfl ?_
          refine q_bipush F (nI 12) dX4_perform_91 (by decide) ?_
          refine q_icmpN_ne F 104 dX4_perform_93 (by decide) (by omega) (by omega) (fun h93 => ?_) (fun h93 => ?_)
          · refine q_iload_n F dX4_perform_104 rfl ?_
            refine q_bipush F (nI 13) dX4_perform_105 (by decide) ?_
            refine q_icmpN_ne F 123 dX4_perform_107 (by decide) (by omega) (by omega) (fun h107 => ?_) (fun h107 => ?_)
            · refine q_iload_n F dX4_perform_123 rfl ?_
              refine q_bipush F (nI 13) dX4_perform_124 (by decide) ?_
              refine q_icmpN_le F 135 dX4_perform_126 (by decide) (by omega) (by omega) (fun h126 => ?_) (fun h126 => ?_)
              · exact absurd h126 (by decide)
              · refine q_aload_n F dX4_perform_129 rfl ?_
                refine q_bipush F (-12) dX4_perform_130 (by decide) ?_
                refine q_kputi F (k := 14) fkX4_54 fp4_14 rfl dX4_perform_132 ?_
                refine q_iload_n F dX4_perform_135 rfl ?_
                refine q_bipush F (nI 10) dX4_perform_136 (by decide) ?_
                refine q_icmpN_ne F 160 dX4_perform_138 (by decide) (by omega) (by omega) (fun h138 => ?_) (fun h138 => ?_)
                · refine q_iconst F (nI 1) dX4_perform_160 (by decide) ?_
                  refine q_iret F E rfl (by rw [hdn]; exact ⟨rfl, rfl⟩) dX4_perform_161
                · exact absurd h138 (by decide)
            · exact absurd h107 (by decide)
          · exact absurd h93 (by decide)
        · exact absurd h79 (by decide)
      · exact absurd h64 (by decide)
    · exact absurd h50 (by decide)
  · exact absurd h31 (by decide)

set_option maxRecDepth 100000 in
set_option maxHeartbeats 4000000 in
theorem lp_perform15 {G : q_g} {n : Nat} {ad : q_ix → Nat} {X : q_cx} (F : q_fx G X iX4_perform) {S : q_st} {K : k_t} {p a b : Nat} {w : Int32} (hp : p < 8) (ha : a < 8) (hb : b < 8) {b0 : Nat} (hb0 : K 7 p = nI b0) (hb064 : b0 ≤ 64) (hpar : k_Par K) (hst : ¬ K 2 p = 0) (E : q_en G X iX4_perform (q_pi (q_w G n ad) (fun r S' => r = (k_dn K p w).1 ∧ S' = q_put S (k_dn K p w).2))) (hdn : k_dn K p w = k_op K p 15 a b (w >>> 10)) : q_W G X iX4_perform (q_w G n ad) (0, 0) 28 [some (.inr (some (20, 0))), some (.inl (nI p)), some (.inl w), some (.inl (nI 15)), some (.inl (nI a)), some (.inl (nI b)), some (.inl (w >>> 10))] [] (q_put S K) := by
  refine q_iload_n F dX4_perform_28 rfl ?_
  refine q_bipush F (nI 8) dX4_perform_29 (by decide) ?_
  refine q_icmpN_ge F 47 dX4_perform_31 (by decide) (by omega) (by omega) (fun h31 => ?_) (fun h31 => ?_)
  · refine q_iload_n F dX4_perform_47 rfl ?_
    refine q_bipush F (nI 8) dX4_perform_48 (by decide) ?_
    refine q_icmpN_ne F 61 dX4_perform_50 (by decide) (by omega) (by omega) (fun h50 => ?_) (fun h50 => ?_)
    · refine q_iload_n F dX4_perform_61 rfl ?_
      refine q_bipush F (nI 9) dX4_perform_62 (by decide) ?_
      refine q_icmpN_ne F 76 dX4_perform_64 (by decide) (by omega) (by omega) (fun h64 => ?_) (fun h64 => ?_)
      · refine q_iload_n F dX4_perform_76 rfl ?_
        refine q_bipush F (nI 11) dX4_perform_77 (by decide) ?_
        refine q_icmpN_ne F 90 dX4_perform_79 (by decide) (by omega) (by omega) (fun h79 => ?_) (fun h79 => ?_)
        · refine q_iload_n F dX4_perform_90 rfl ?_
          refine q_bipush F (nI 12) dX4_perform_91 (by decide) ?_
          refine q_icmpN_ne F 104 dX4_perform_93 (by decide) (by omega) (by omega) (fun h93 => ?_) (fun h93 => ?_)
          · refine q_iload_n F dX4_perform_104 rfl ?_
            refine q_bipush F (nI 13) dX4_perform_105 (by decide) ?_
            refine q_icmpN_ne F 123 dX4_perform_107 (by decide) (by omega) (by omega) (fun h107 => ?_) (fun h107 => ?_)
            · refine q_iload_n F dX4_perform_123 rfl ?_
              refine q_bipush F (nI 13) dX4_perform_124 (by decide) ?_
              refine q_icmpN_le F 135 dX4_perform_126 (by decide) (by omega) (by omega) (fun h126 => ?_) (fun h126 => ?_)
              · exact absurd h126 (by decide)
              · refine q_aload_n F dX4_perform_129 rfl ?_
                refine q_bipush F (-12) dX4_perform_130 (by decide) ?_
                refine q_kputi F (k := 14) fkX4_54 fp4_14 rfl dX4_perform_132 ?_
                refine q_iload_n F dX4_perform_135 rfl ?_
                refine q_bipush F (nI 10) dX4_perform_136 (by decide) ?_
                refine q_icmpN_ne F 160 dX4_perform_138 (by decide) (by omega) (by omega) (fun h138 => ?_) (fun h138 => ?_)
                · refine q_iconst F (nI 1) dX4_perform_160 (by decide) ?_
                  refine q_iret F E rfl (by rw [hdn]; exact ⟨rfl, rfl⟩) dX4_perform_161
                · exact absurd h138 (by decide)
            · exact absurd h107 (by decide)
          · exact absurd h93 (by decide)
        · exact absurd h79 (by decide)
      · exact absurd h64 (by decide)
    · exact absurd h50 (by decide)
  · exact absurd h31 (by decide)

set_option maxRecDepth 100000 in
set_option maxHeartbeats 4000000 in
theorem lp_performS {G : q_g} {n : Nat} {ad : q_ix → Nat} {X : q_cx} (F : q_fx G X iX4_perform) {S : q_st} {K : k_t} {p a b j : Nat} {w : Int32} (hp : p < 8) (ha : a < 8) (hb : b < 8) {b0 : Nat} (hb0 : K 7 p = nI b0) (hb064 : b0 ≤ 64) {m : Nat} (hm : K 0 15 = nI m) (hm2 : m < 2 ^ 30) (h8 : j < 8) (E : q_en G X iX4_perform (q_pi (q_w G n ad) (fun r S' => r = (k_dn K p w).1 ∧ S' = q_put S (k_dn K p w).2))) (hdn : k_dn K p w = k_op K p j a b (w >>> 10)) : q_W G X iX4_perform (q_w G n ad) (0, 0) 28 [some (.inr (some (20, 0))), some (.inl (nI p)), some (.inl w), some (.inl (nI j)), some (.inl (nI a)), some (.inl (nI b)), some (.inl (w >>> 10))] [] (q_put S K) := by
  have hbr : (K 7 p).toInt ≤ 64 := by rw [hb0, nI_toInt (by omega)]; omega
  refine q_iload_n F dX4_perform_28 rfl ?_
  refine q_bipush F (nI 8) dX4_perform_29 (by decide) ?_
  refine q_icmpN_ge F 47 dX4_perform_31 (by decide) (by omega) (by omega) (fun h31 => ?_) (fun h31 => ?_)
  · exfalso; omega
  · refine q_aload_n F dX4_perform_34 rfl ?_
    refine q_iload_n F dX4_perform_35 rfl ?_
    refine q_iload_n F dX4_perform_36 rfl ?_
    refine q_iload F dX4_perform_37 rfl ?_
    refine q_iload F dX4_perform_39 rfl ?_
    refine q_iload F dX4_perform_41 rfl ?_
    refine q_callVi F [.inl (nI p), .inl (nI j), .inl (nI a), .inl (nI b), .inl (w >>> 10)] (fun l => t_simple l S K hp ha hb hbr h8 hm hm2) clX4_98 rfl q_m20 rfl rfl rfl ⟨Nat.le_of_ble_eq_true rfl, Nat.le_of_ble_eq_true rfl⟩ (Nat.le_of_ble_eq_true rfl) ⟨rfl, rfl⟩ ⟨Nat.zero_le _, Nat.zero_le _⟩ dX4_perform_43 (fun v S' hv => ?_)
    obtain ⟨hv, hS⟩ := hv
    subst hS
    subst hv
    refine q_iret F E rfl (by rw [hdn]; exact ⟨rfl, rfl⟩) dX4_perform_46

set_option maxRecDepth 100000 in
set_option maxHeartbeats 4000000 in
theorem t_perform {G : q_g} {n : Nat} {ad : q_ix → Nat} (l : Launch) (S : q_st) (K : k_t) {p : Nat} {w : Int32} (hp : p < 8) {b0 : Nat} (hb0 : K 7 p = nI b0) (hb064 : b0 ≤ 64) (hpar : k_Par K) (hst : ¬ K 2 p = 0) {m : Nat} (hm : K 0 15 = nI m) (hm2 : m < 2 ^ 30) : q_Ct l G iX4_perform [.inr (some (20, 0)), .inl (nI p), .inl w] (q_w G n ad) (q_put S K) (q_pi (q_w G n ad) (fun r S' => r = (k_dn K p w).1 ∧ S' = q_put S (k_dn K p w).2)) := by
  refine q_enter (by decide) (Nat.le_of_ble_eq_true rfl) (fun X F E => ?_)
  show q_W G X iX4_perform (q_w G n ad) (0, 0) 0 [some (.inr (some (20, 0))), some (.inl (nI p)), some (.inl w), none, none, none, none] [] (q_put S K)
  obtain ⟨j, hj16, hj, hjn⟩ := q_and15 w
  obtain ⟨a, ha8, ha, han⟩ := q_and7 (w >>> 4)
  obtain ⟨b, hb8, hb, hbn⟩ := q_and7 (w >>> 7)
  refine q_iload_n F dX4_perform_0 rfl ?_
  refine q_bipush F (nI 15) dX4_perform_1 (by decide) ?_
  refine q_iand F dX4_perform_3 ?_
  refine q_top (nI j) hj ?_
  refine q_istore_n_3 F dX4_perform_4 (by decide) ?_
  refine q_iload_n F dX4_perform_5 rfl ?_
  refine q_iconst F (nI 4) dX4_perform_6 (by decide) ?_
  refine q_ishr F dX4_perform_7 ?_
  refine q_top (w >>> 4) (by rw [show (nI 4 &&& 31 : Int32) = 4 by decide]) ?_
  refine q_bipush F (nI 7) dX4_perform_8 (by decide) ?_
  refine q_iand F dX4_perform_10 ?_
  refine q_top (nI a) ha ?_
  refine q_istore_4 F dX4_perform_11 (by decide) ?_
  refine q_iload_n F dX4_perform_13 rfl ?_
  refine q_bipush F (nI 7) dX4_perform_14 (by decide) ?_
  refine q_ishr F dX4_perform_16 ?_
  refine q_top (w >>> 7) (by rw [show (nI 7 &&& 31 : Int32) = 7 by decide]) ?_
  refine q_bipush F (nI 7) dX4_perform_17 (by decide) ?_
  refine q_iand F dX4_perform_19 ?_
  refine q_top (nI b) hb ?_
  refine q_istore_5 F dX4_perform_20 (by decide) ?_
  refine q_iload_n F dX4_perform_22 rfl ?_
  refine q_bipush F (nI 10) dX4_perform_23 (by decide) ?_
  refine q_ishr F dX4_perform_25 ?_
  refine q_top (w >>> 10) (by rw [show (nI 10 &&& 31 : Int32) = 10 by decide]) ?_
  refine q_istore_6 F dX4_perform_26 (by decide) ?_
  have hdn : k_dn K p w = k_op K p j a b (w >>> 10) := by unfold k_dn; rw [hjn, han, hbn]
  by_cases h8 : j < 8
  · exact lp_performS F hp ha8 hb8 hb0 hb064 hm hm2 h8 E hdn
  · rcases (show j = 8 ∨ j = 9 ∨ j = 10 ∨ j = 11 ∨ j = 12 ∨ j = 13 ∨ j = 14 ∨ j = 15 by omega) with rfl | rfl | rfl | rfl | rfl | rfl | rfl | rfl
    · exact lp_perform8 F hp ha8 hb8 hb0 hb064 hpar hst E hdn
    · exact lp_perform9 F hp ha8 hb8 hb0 hb064 hpar hst E hdn
    · exact lp_perform10 F hp ha8 hb8 hb0 hb064 hpar hst E hdn
    · exact lp_perform11 F hp ha8 hb8 hb0 hb064 hpar hst E hdn
    · exact lp_perform12 F hp ha8 hb8 hb0 hb064 hpar hst E hdn
    · exact lp_perform13 F hp ha8 hb8 hb0 hb064 hpar hst E hdn
    · exact lp_perform14 F hp ha8 hb8 hb0 hb064 hpar hst E hdn
    · exact lp_perform15 F hp ha8 hb8 hb0 hb064 hpar hst E hdn
end
section
/-! the reference's numbers stay in their ranges -/
def k_Pr (K : k_t) (p : Nat) : Prop := (∃ s, s < 4 ∧ K 2 p = nI s) ∧ (K 3 p = -1 ∨ ∃ r, r < 8 ∧ K 3 p = nI r) ∧ (∃ b, b ≤ 64 ∧ K 7 p = nI b) ∧ (K 2 p = 0 → K 3 p = -1)
def k_Gl (K : k_t) (B : Nat) : Prop := (K 0 12 = -1 ∨ ∃ c, c < 8 ∧ K 0 12 = nI c) ∧ (∃ m, m < B ∧ K 0 15 = nI m) ∧ (∃ q, 1 ≤ q ∧ q ≤ 20 ∧ K 0 1 = nI q) ∧ (∃ r, r ≤ 20 ∧ K 0 13 = nI r)
def k_Ok (K : k_t) (B : Nat) : Prop := (∀ p, p < 8 → k_Pr K p) ∧ k_Gl K B
theorem k_Pr_same {K K' : k_t} {p : Nat} (h2 : K' 2 p = K 2 p) (h3 : K' 3 p = K 3 p) (h7 : K' 7 p = K 7 p) (h : k_Pr K p) : k_Pr K' p := by
  unfold k_Pr at *
  rw [h2, h3, h7]
  exact h
theorem k_Gl_same {K K' : k_t} {B : Nat} (h : ∀ j, j ≠ 11 → j ≠ 14 → K' 0 j = K 0 j) (hg : k_Gl K B) : k_Gl K' B := by
  unfold k_Gl at *
  rw [h 12 (by decide) (by decide), h 15 (by decide) (by decide), h 1 (by decide) (by decide), h 13 (by decide) (by decide)]
  exact hg
theorem k_Gl_le {K : k_t} {B B' : Nat} (h : B ≤ B') (hg : k_Gl K B) : k_Gl K B' := by
  obtain ⟨h1, ⟨m, hm, h2⟩, h3⟩ := hg
  exact ⟨h1, ⟨m, by omega, h2⟩, h3⟩
theorem k_Ok_le {K : k_t} {B B' : Nat} (h : B ≤ B') (hg : k_Ok K B) : k_Ok K B' := ⟨hg.1, k_Gl_le h hg.2⟩
theorem k_Ok_par {K : k_t} {B : Nat} (h : k_Ok K B) : k_Par K := fun j hj => (h.1 j hj).2.1
/-- the kinds that the ranges speak of are the same -/
theorem k_Ok_same {K K' : k_t} {B : Nat} (h2 : K' 2 = K 2) (h3 : K' 3 = K 3) (h7 : K' 7 = K 7) (h0 : ∀ j, j ≠ 11 → j ≠ 14 → K' 0 j = K 0 j) (h : k_Ok K B) : k_Ok K' B :=
  ⟨fun p hp => k_Pr_same (by rw [h2]) (by rw [h3]) (by rw [h7]) (h.1 p hp), k_Gl_same h0 h.2⟩
theorem k_u_k (K : k_t) (a i : Nat) (v : Int32) {b : Nat} (h : b ≠ a) : k_u K a i v b = K b := by
  funext j
  simp [k_u, h]
theorem k_Ok_u {K : k_t} {B a i : Nat} {v : Int32} (ha : a ≠ 0 ∧ a ≠ 2 ∧ a ≠ 3 ∧ a ≠ 7) (h : k_Ok K B) : k_Ok (k_u K a i v) B :=
  k_Ok_same (k_u_k _ _ _ _ (Ne.symm ha.2.1)) (k_u_k _ _ _ _ (Ne.symm ha.2.2.1)) (k_u_k _ _ _ _ (Ne.symm ha.2.2.2)) (fun j _ _ => by rw [k_u_k _ _ _ _ (Ne.symm ha.1)]) h
theorem k_Ok_u0 {K : k_t} {B i : Nat} {v : Int32} (hi : i = 11 ∨ i = 14) (h : k_Ok K B) : k_Ok (k_u K 0 i v) B :=
  k_Ok_same (k_u_k _ _ _ _ (by decide)) (k_u_k _ _ _ _ (by decide)) (k_u_k _ _ _ _ (by decide)) (fun j h1 h2 => k_u_ne _ _ _ _ (by omega)) h
theorem k_Ok_al {K : k_t} {B g : Nat} (h : k_Ok K B) : k_Ok (k_al K g).2 B :=
  k_Ok_same (k_al_k (by decide) (by decide)) (k_al_k (by decide) (by decide)) (k_al_k (by decide) (by decide)) (fun j h1 h2 => k_al_0 h1 h2) h
theorem k_Ok_pg {K : k_t} {B g : Nat} {wr : Bool} (h : k_Ok K B) : k_Ok (k_pg K g wr).2 B :=
  k_Ok_same (k_pg_k (by decide) (by decide)) (k_pg_k (by decide) (by decide)) (k_pg_k (by decide) (by decide)) (fun j h1 h2 => k_pg_0 h1 h2) h
theorem k_Ok_re {K : k_t} {B p : Nat} {x : Int32} {wr : Bool} (h : k_Ok K B) : k_Ok (k_re K p x wr).2 B :=
  k_Ok_same (k_re_k (by decide) (by decide)) (k_re_k (by decide) (by decide)) (k_re_k (by decide) (by decide)) (fun j h1 h2 => k_re_0 h1 h2) h
theorem k_Ok_cl {K : k_t} {B p b : Nat} (h : k_Ok K B) : k_Ok (k_cl K p b) B :=
  k_Ok_same (by funext j; simp [k_cl]) (by funext j; simp [k_cl]) (by funext j; simp [k_cl]) (fun j _ _ => by simp [k_cl]) h
theorem k_Ok_fk {K : k_t} {B p a : Nat} (hp : p < 8) (h : k_Ok K B) : k_Ok (k_fk K p a).2 B := by
  unfold k_fk
  split
  · exact k_Ok_u (by decide) h
  next c hc =>
    refine k_Ok_u (by decide) ⟨fun j hj => ?_, k_Gl_same (fun j _ _ => by simp [k_fk0]) h.2⟩
    by_cases hjc : j = c
    · subst hjc
      refine ⟨⟨1, by decide, by simp [k_fk0]⟩, Or.inr ⟨p, hp, by simp [k_fk0]⟩, ?_, fun q => ?_⟩
      · obtain ⟨b, hb, hb2⟩ := (h.1 p hp).2.2.1
        exact ⟨b, hb, by simp [k_fk0, hb2]⟩
      · simp [k_fk0] at q
        exact absurd q (by decide)
    · exact k_Pr_same (by simp [k_fk0, hjc]) (by simp [k_fk0, hjc]) (by simp [k_fk0, hjc]) (h.1 j hj)
theorem k_Ok_gr0 {K : k_t} {B p a b : Nat} (hb : b ≤ 64) (h : k_Ok K B) : k_Ok (k_gr0 K p a b) B := by
  refine ⟨fun j hj => ?_, k_Gl_same (fun j _ _ => by simp [k_gr0, k_u]) h.2⟩
  by_cases hjp : j = p
  · subst hjp
    obtain ⟨h1, h2, -, h4⟩ := h.1 j hj
    refine ⟨by simpa [k_gr0, k_u] using h1, by simpa [k_gr0, k_u] using h2, ⟨b, hb, by simp [k_gr0, k_u]⟩, by simpa [k_gr0, k_u] using h4⟩
  · exact k_Pr_same (by simp [k_gr0, k_u]) (by simp [k_gr0, k_u]) (by simp [k_gr0, k_u, hjp]) (h.1 j hj)
theorem k_Ok_gr {K : k_t} {B p a : Nat} {c : Int32} (h : k_Ok K B) : k_Ok (k_gr K p a c) B := by
  unfold k_gr
  split
  · exact k_Ok_u (by decide) h
  next hc =>
    have h0 : k_Ok (k_gr0 K p a (K 7 p + c).toInt.toNat) B := k_Ok_gr0 (by omega) h
    split
    · unfold k_gr1
      split
      · exact k_Ok_cl h0
      · split
        · exact k_Ok_cl (k_Ok_al h0)
        · exact k_Ok_al h0
    · exact h0
theorem k_Ok_en {K : k_t} {B p : Nat} {code : Int32} (hp : p < 8) (h : k_Ok K B) : k_Ok (k_en K p code) B := by
  have h0 : k_Ok (k_en0 K p code) B := by
    refine ⟨fun j hj => ?_, k_Gl_same (fun j _ _ => by simp [k_en0]) h.2⟩
    obtain ⟨h1, h2, h3, h4⟩ := h.1 j hj
    by_cases hjp : j = p
    · subst hjp
      refine ⟨⟨3, by decide, by simp [k_en0]⟩, k_en0_3 hj (k_Ok_par h), by simpa [k_en0] using h3, fun q => ?_⟩
      simp [k_en0] at q
      exact absurd q (by decide)
    · refine ⟨by simpa [k_en0, hjp] using h1, ?_, by simpa [k_en0] using h3, fun q => ?_⟩
      · by_cases hq : K 3 j = nI p
        · left
          simp [k_en0, hj, hq]
        · simpa [k_en0, hq] using h2
      · have q' : K 2 j = 0 := by simpa [k_en0, hjp] using q
        by_cases hq : K 3 j = nI p
        · simp [k_en0, hj, hq]
        · simpa [k_en0, hq] using h4 q'
  unfold k_en
  split
  next hc =>
    generalize hu : (k_en0 K p code 3 p).toInt.toNat = u at *
    refine ⟨fun j hj => ?_, k_Gl_same (fun j _ _ => by simp [k_u]) h0.2⟩
    by_cases hju : j = u
    · subst hju
      obtain ⟨h1, h2, h3, h4⟩ := h0.1 j hj
      refine ⟨⟨1, by decide, by simp [k_u]⟩, by simpa [k_u] using h2, by simpa [k_u] using h3, fun q => ?_⟩
      simp [k_u] at q
      exact absurd q (by decide)
    · exact k_Pr_same (by simp [k_u, hju]) (by simp [k_u]) (by simp [k_u]) (h0.1 j hj)
  · exact h0
theorem k_Ok_free {K : k_t} {B z : Nat} (h : k_Ok K B) : k_Ok (k_free K z) B := by
  refine ⟨fun j hj => ?_, k_Gl_same (fun j _ _ => by simp [k_free, k_u]) h.2⟩
  by_cases hjz : j = z
  · subst hjz
    obtain ⟨h1, h2, h3, h4⟩ := h.1 j hj
    exact ⟨⟨0, by decide, by simp [k_free, k_u]; rfl⟩, Or.inl (by simp [k_free, k_u]), by simpa [k_free, k_u] using h3, fun _ => by simp [k_free, k_u]⟩
  · exact k_Pr_same (by simp [k_free, k_u, hjz]) (by simp [k_free, k_u, hjz]) (by simp [k_free, k_u]) (h.1 j hj)
theorem k_Ok_aw {K : k_t} {B p a : Nat} (h : k_Ok K B) : k_Ok (k_aw K p a).2 B := by
  unfold k_aw
  split
  · exact k_Ok_free (k_Ok_u (by decide) h)
  · split
    · refine k_Ok_u (by decide) ⟨fun j hj => ?_, k_Gl_same (fun j _ _ => by simp [k_u]) h.2⟩
      by_cases hjp : j = p
      · subst hjp
        obtain ⟨h1, h2, h3, h4⟩ := h.1 j hj
        refine ⟨⟨2, by decide, by simp [k_u]⟩, by simpa [k_u] using h2, by simpa [k_u] using h3, fun q => ?_⟩
        simp [k_u] at q
        exact absurd q (by decide)
      · exact k_Pr_same (by simp [k_u, hjp]) (by simp [k_u]) (by simp [k_u]) (h.1 j hj)
    · exact k_Ok_u (by decide) h
theorem k_Ok_pr {K : k_t} {B : Nat} {x : Int32} (h : k_Ok K B) : k_Ok (k_pr K x) (B + 1) := by
  obtain ⟨h1, g1, ⟨m, hm, g2⟩, g3, g4⟩ := h
  refine ⟨fun j hj => k_Pr_same (by simp [k_pr, k_u]) (by simp [k_pr, k_u]) (by simp [k_pr, k_u]) (h1 j hj), by simpa [k_pr, k_u] using g1, ⟨m + 1, by omega, by simp [k_pr, k_u, g2, nI_1]⟩, by simpa [k_pr, k_u] using g3, by simpa [k_pr, k_u] using g4⟩
theorem k_Ok_ld {K : k_t} {B p a : Nat} {x : Int32} (h : k_Ok K B) : k_Ok (k_ld K p a x) B := by
  unfold k_ld
  split
  · exact k_Ok_u (by decide) (k_Ok_re h)
  · exact k_Ok_re h
theorem k_Ok_so {K : k_t} {B p a : Nat} {x : Int32} (h : k_Ok K B) : k_Ok (k_so K p a x) B := by
  unfold k_so
  split
  · exact k_Ok_u (by decide) (k_Ok_re h)
  · exact k_Ok_re h
theorem k_Ok_if {K K' : k_t} {B : Nat} {c : Prop} {d : Decidable c} (h : k_Ok K B) (h' : k_Ok K' B) : k_Ok (@ite _ c d K K') B := by
  split
  · exact h
  · exact h'
theorem k_Ok_yield {K : k_t} {B : Nat} (h : k_Ok K B) : k_Ok (k_u K 0 13 (K 0 1)) B := by
  obtain ⟨h1, g1, g2, g3, g4⟩ := h
  obtain ⟨q, q1, q2, q3⟩ := g3
  exact ⟨fun j hj => k_Pr_same (by simp [k_u]) (by simp [k_u]) (by simp [k_u]) (h1 j hj), by simpa [k_u] using g1, by simpa [k_u] using g2, ⟨q, q1, q2, by simpa [k_u] using q3⟩, ⟨q, q2, by simpa [k_u] using q3⟩⟩
theorem k_Ok_op {K : k_t} {B p op a b : Nat} {c : Int32} (hp : p < 8) (h : k_Ok K B) : k_Ok (k_op K p op a b c).2 (B + 1) := by
  have h' := k_Ok_le (Nat.le_succ B) h
  by_cases e0 : op = 0
  · subst e0
    show k_Ok (k_u K 5 (8 * p + a) c) (B + 1)
    exact k_Ok_u (by decide) h'
  by_cases e1 : op = 1
  · subst e1
    show k_Ok (k_u K 5 (8 * p + a) (K 5 (8 * p + a) + K 5 (8 * p + b) + c)) (B + 1)
    exact k_Ok_u (by decide) h'
  by_cases e2 : op = 2
  · subst e2
    show k_Ok (k_u K 5 (8 * p + a) (K 5 (8 * p + a) - K 5 (8 * p + b))) (B + 1)
    exact k_Ok_u (by decide) h'
  by_cases e3 : op = 3
  · subst e3
    show k_Ok (k_ld K p a (K 5 (8 * p + b) + c)) (B + 1)
    exact k_Ok_ld h'
  by_cases e4 : op = 4
  · subst e4
    show k_Ok (k_so K p a (K 5 (8 * p + b) + c)) (B + 1)
    exact k_Ok_so h'
  by_cases e5 : op = 5
  · subst e5
    show k_Ok (if K 5 (8 * p + a) ≠ 0 then k_u K 6 p c else K) (B + 1)
    exact k_Ok_if (k_Ok_u (by decide) h') h'
  by_cases e6 : op = 6
  · subst e6
    show k_Ok (if (K 5 (8 * p + a)).toInt < (K 5 (8 * p + b)).toInt then k_u K 6 p c else K) (B + 1)
    exact k_Ok_if (k_Ok_u (by decide) h') h'
  by_cases e7 : op = 7
  · subst e7
    show k_Ok (k_pr K (K 5 (8 * p + a))) (B + 1)
    exact k_Ok_pr h
  by_cases e8 : op = 8
  · subst e8
    show k_Ok ((k_fk K p a).2) (B + 1)
    exact k_Ok_fk hp h'
  by_cases e9 : op = 9
  · subst e9
    show k_Ok (k_gr K p a c) (B + 1)
    exact k_Ok_gr h'
  by_cases e10 : op = 10
  · subst e10
    show k_Ok (k_en K p (K 5 (8 * p + a))) (B + 1)
    exact k_Ok_en hp h'
  by_cases e11 : op = 11
  · subst e11
    show k_Ok ((k_aw K p a).2) (B + 1)
    exact k_Ok_aw h'
  by_cases e12 : op = 12
  · subst e12
    show k_Ok (k_u K 0 13 (K 0 1)) (B + 1)
    exact k_Ok_yield h'
  by_cases e13 : op = 13
  · subst e13
    show k_Ok (k_u K 5 (8 * p + a) (nI p)) (B + 1)
    exact k_Ok_u (by decide) h'
  have e : k_op K p op a b c = (nI 1, k_u K 0 14 (-12)) := by
    unfold k_op
    simp only [e0, e1, e2, e3, e4, e5, e6, e7, e8, e9, e10, e11, e12, e13, if_false]
  rw [e]
  exact k_Ok_u0 (by decide) h'
/-- whom choose chooses -/
theorem k_ch_ok {K : k_t} {B : Nat} (h : k_Ok K B) (hc : (k_ch K).1 = true) : k_Ok (k_ch K).2 B ∧ (∀ a, a ≠ 0 → (k_ch K).2 a = K a) ∧ (∀ j, j ≠ 12 → j ≠ 13 → (k_ch K).2 0 j = K 0 j) ∧ ∃ p, p < 8 ∧ (k_ch K).2 0 12 = nI p ∧ K 2 p = nI 1 ∧ ((k_ch K).2 0 13).toInt < (K 0 1).toInt := by
  by_cases hon : k_on K
  · rw [k_ch_on hon]
    obtain ⟨c, hc8, hcc⟩ := h.2.1.resolve_left hon.1
    refine ⟨h, fun _ _ => rfl, fun _ _ _ => rfl, c, hc8, hcc, ?_, hon.2.2⟩
    have := hon.2.1
    rw [hcc, nI_toInt (by omega)] at this
    exact this
  · rcases f_st_spec (P := fun k => K 2 ((k_fm K + k) % 8) = nI 1) 8 with ⟨hn, -⟩ | ⟨k, hk, hk8, hkp, -⟩
    · rw [k_ch_none hon hn] at hc
      cases hc
    · rw [k_ch_some hon hk]
      obtain ⟨h1, g1, g2, g3, g4⟩ := h
      obtain ⟨q, q1, q2, q3⟩ := g3
      refine ⟨⟨fun j hj => k_Pr_same (by simp [k_u]) (by simp [k_u]) (by simp [k_u]) (h1 j hj), Or.inr ⟨(k_fm K + k) % 8, by omega, by simp [k_u]⟩, by simpa [k_u] using g2, ⟨q, q1, q2, by simpa [k_u] using q3⟩, ⟨0, by decide, by simp [k_u]; rfl⟩⟩, fun a ha => by funext j; simp [k_u, ha], fun j h12 h13 => by simp [k_u, h12, h13], (k_fm K + k) % 8, by omega, by simp [k_u], hkp, ?_⟩
      simp [k_u]
      rw [q3, nI_toInt (by omega)]
      omega
theorem k_ch_no {K : k_t} {B : Nat} (h : k_Ok K B) (hc : (k_ch K).1 = false) : (k_ch K).2 = k_u K 0 12 (-1) ∧ k_Ok (k_ch K).2 B ∧ ¬ k_on K ∧ ∀ p, p < 8 → ¬ K 2 p = nI 1 := by
  by_cases hon : k_on K
  · rw [k_ch_on hon] at hc
    cases hc
  · rcases f_st_spec (P := fun k => K 2 ((k_fm K + k) % 8) = nI 1) 8 with ⟨hn, hall⟩ | ⟨k, hk, hk8, hkp, -⟩
    · rw [k_ch_none hon hn]
      obtain ⟨h1, g1, g2, g3, g4⟩ := h
      refine ⟨rfl, ⟨fun j hj => k_Pr_same (by simp [k_u]) (by simp [k_u]) (by simp [k_u]) (h1 j hj), Or.inl (by simp [k_u]), by simpa [k_u] using g2, by simpa [k_u] using g3, by simpa [k_u] using g4⟩, hon, fun p hp hpp => ?_⟩
      refine hall ((p + 8 - k_fm K % 8) % 8) (by omega) ?_
      rw [show (k_fm K + (p + 8 - k_fm K % 8) % 8) % 8 = p by omega]
      exact hpp
    · rw [k_ch_some hon hk] at hc
      cases hc
theorem k_Ok_s1 {K : k_t} {B p : Nat} (hp : p < 8) (h : k_Ok K B) : k_Ok (k_s1 K p).2 (B + 1) := by
  unfold k_s1
  split
  · have h1 : k_Ok (k_dn (k_u (k_re K p (K 6 p) false).2 6 p (K 6 p + 1)) p ((k_re K p (K 6 p) false).2 8 (64 * p + (K 6 p).toInt.toNat))).2 (B + 1) := k_Ok_op hp (k_Ok_u (by decide) (k_Ok_re h))
    unfold k_s2
    split
    · exact h1
    · exact k_Ok_en hp h1
  · exact k_Ok_en hp (k_Ok_le (Nat.le_succ B) (k_Ok_re h))
/-- behind the choice: a row more, no fault -/
theorem k_Ok_row {K : k_t} {B : Nat} (h : k_Ok K B) (hc : (k_ch K).1 = true) : k_Ok (k_u (k_u (k_ch K).2 0 13 ((k_ch K).2 0 13 + 1)) 0 14 0) B := by
  obtain ⟨⟨h1, g1, g2, g3, g4⟩, ha, h0, p, hp, hp1, hp2, hlt⟩ := k_ch_ok h hc
  obtain ⟨q, q1, q2, q3⟩ := h.2.2.2.1
  obtain ⟨r, r1, r2⟩ := g4
  refine k_Ok_u0 (by decide) ⟨fun j hj => k_Pr_same (by simp [k_u]) (by simp [k_u]) (by simp [k_u]) (h1 j hj), by simpa [k_u] using g1, by simpa [k_u] using g2, by simpa [k_u] using g3, ⟨r + 1, ?_, by simp [k_u, r2, nI_1]⟩⟩
  rw [r2, q3, nI_toInt (by omega), nI_toInt (by omega)] at hlt
  omega
theorem k_Ok_s {K : k_t} {B : Nat} (h : k_Ok K B) : k_Ok (k_s K).2 (B + 1) := by
  unfold k_s
  split
  next hc =>
    obtain ⟨-, -, -, p, hp, hp1, -⟩ := k_ch_ok h hc
    rw [hp1, nI_toInt (by omega), Int.toNat_natCast]
    exact k_Ok_s1 hp (k_Ok_row h hc)
  next hc =>
    exact k_Ok_le (Nat.le_succ B) (k_ch_no h (by simpa using hc)).2.1
end
section
/-! the reference: step, steps (rows laid by wip/whole/m46.py) -/
set_option maxRecDepth 100000 in
set_option maxHeartbeats 4000000 in
theorem lp_mstep {G : q_g} {n : Nat} {ad : q_ix → Nat} {X : q_cx} (F : q_fx G X iX4_step) {S : q_st} {K : k_t} {p B : Nat} (hp : p < 8) (hok : k_Ok K B) (hB : B < 2 ^ 30) (hst : ¬ K 2 p = 0) (Q : Int32 × k_t) (hQ : Q = k_s1 K p) (E : q_en G X iX4_step (q_pi (q_w G n ad) (fun r S' => r = Q.1 ∧ S' = q_put S Q.2))) : q_W G X iX4_step (q_w G n ad) (0, 0) 29 [some (.inr (some (20, 0))), some (.inl (nI p)), none, none] [] (q_put S K) := by
  obtain ⟨b0, hb064, hb0⟩ := (hok.1 p hp).2.2.1
  obtain ⟨m, hm, hm1⟩ := hok.2.2.1
  have hbr : (K 7 p).toInt ≤ 64 := by rw [hb0, nI_toInt (by omega)]; omega
  have hok1 : k_Ok (k_re K p (K 6 p) false).2 B := k_Ok_re hok
  unfold k_s1 at hQ
  refine q_aload_n F dX4_step_29 rfl ?_
  refine q_getr F (k := 7) fkX4_25 q_m20 rfl rfl dX4_step_30 ?_
  refine q_iload_n F dX4_step_33 rfl ?_
  refine q_kald F 6 (_) q_m26 rfl rfl rfl (by omega) (by decide) dX4_step_34 ?_
  refine q_istore_n_2 F dX4_step_35 (by decide) ?_
  refine q_aload_n F dX4_step_36 rfl ?_
  refine q_iload_n F dX4_step_37 rfl ?_
  refine q_iload_n F dX4_step_38 rfl ?_
  refine q_iconst F (nI 0) dX4_step_39 (by decide) ?_
  refine q_callVi F [.inl (nI p), .inl (K 6 p), .inl (nI 0)] (fun l => t_reach l S K hp (wr := false) (q_bl_0 (by decide)) hbr) clX4_91 rfl q_m20 rfl rfl rfl ⟨Nat.le_of_ble_eq_true rfl, Nat.le_of_ble_eq_true rfl⟩ (Nat.le_of_ble_eq_true rfl) ⟨rfl, rfl⟩ ⟨Nat.zero_le _, Nat.zero_le _⟩ dX4_step_40 (fun v S' hv => ?_)
  obtain ⟨hv, hS⟩ := hv
  subst hS
  rcases hv with ⟨rfl, hre⟩ | ⟨rfl, hre⟩
  · refine q_ifN_eq F 81 dX4_step_43 (by decide) (by omega) (fun h43 => ?_) (fun h43 => ?_)
    · refine q_aload_n F dX4_step_81 rfl ?_
      refine q_iload_n F dX4_step_82 rfl ?_
      refine q_aload_n F dX4_step_83 rfl ?_
      refine q_kgeti F (k := 14) fkX4_54 rfl dX4_step_84 ?_
      refine q_callVv F [.inl (nI p), .inl ((k_re K p (K 6 p) false).2 0 14)] (fun l => t_mend l S _ hp (k_Ok_par hok1)) clX4_81 rfl q_m20 rfl rfl rfl ⟨Nat.le_of_ble_eq_true rfl, Nat.le_of_ble_eq_true rfl⟩ (Nat.le_of_ble_eq_true rfl) ⟨rfl, rfl⟩ ⟨Nat.zero_le _, Nat.zero_le _⟩ dX4_step_87 (fun S' hS => ?_)
      subst hS
      refine q_iconst F (nI 5) dX4_step_90 (by decide) ?_
      refine q_iret F E rfl (by rw [hQ, if_neg (by rw [hre]; decide)]; exact ⟨rfl, rfl⟩) dX4_step_91
    · exact absurd h43 (by decide)
  · refine q_ifN_eq F 81 dX4_step_43 (by decide) (by omega) (fun h43 => ?_) (fun h43 => ?_)
    · exact absurd h43 (by decide)
    · rw [if_pos hre] at hQ
      obtain ⟨t, ht, hte⟩ := k_re_ok hre hbr
      have htn : (K 6 p).toInt.toNat = t := by rw [hte, nI_toInt (by omega)]; rfl
      have hok4 : k_Ok (k_u (k_re K p (K 6 p) false).2 6 p (K 6 p + 1)) B := k_Ok_u (by decide) hok1
      refine q_aload_n F dX4_step_46 rfl ?_
      refine q_getr F (k := 7) fkX4_25 q_m20 rfl rfl dX4_step_47 ?_
      refine q_iload_n F dX4_step_50 rfl ?_
      refine q_iload_n F dX4_step_51 rfl ?_
      refine q_iconst F (nI 1) dX4_step_52 (by decide) ?_
      refine q_iadd F dX4_step_53 ?_
      refine q_top (K 6 p + 1) rfl ?_
      refine q_kast F 6 (_) q_m26 rfl rfl rfl (by omega) (by decide) dX4_step_54 ?_
      refine q_aload_n F dX4_step_55 rfl ?_
      refine q_iload_n F dX4_step_56 rfl ?_
      refine q_aload_n F dX4_step_57 rfl ?_
      refine q_getr F (k := 9) fkX4_31 q_m20 rfl rfl dX4_step_58 ?_
      refine q_bipush F (nI 64) dX4_step_61 (by decide) ?_
      refine q_iload_n F dX4_step_63 rfl ?_
      refine q_imulN F dX4_step_64 ?_
      refine q_iload_n F dX4_step_65 rfl ?_
      refine q_iadd F dX4_step_66 ?_
      refine q_kald F 8 (64 * p + t) q_m28 rfl rfl (by rw [hte, nI_add]) (by omega) (by decide) dX4_step_67 ?_
      refine q_top (((k_re K p (K 6 p) false).2 8 (64 * p + (K 6 p).toInt.toNat))) (by rw [k_u_ne _ _ _ _ (by simp), htn]) ?_
      refine q_callVi F [.inl (nI p), .inl ((k_re K p (K 6 p) false).2 8 (64 * p + (K 6 p).toInt.toNat))] (fun l => t_perform l S (k_u (k_re K p (K 6 p) false).2 6 p (K 6 p + 1)) hp (b0 := b0) (by rw [k_u_ne _ _ _ _ (by simp)]; exact (congrFun (k_re_k (by decide) (by decide)) _).trans hb0) hb064 (k_Ok_par hok4) (by rw [k_u_ne _ _ _ _ (by simp)]; rw [congrFun (k_re_k (by decide) (by decide)) _]; exact hst) (m := m) (by rw [k_u_ne _ _ _ _ (by simp)]; exact (k_re_0 (by decide) (by decide)).trans hm1) (by omega)) clX4_117 rfl q_m20 rfl rfl rfl ⟨Nat.le_of_ble_eq_true rfl, Nat.le_of_ble_eq_true rfl⟩ (Nat.le_of_ble_eq_true rfl) ⟨rfl, rfl⟩ ⟨Nat.zero_le _, Nat.zero_le _⟩ dX4_step_68 (fun v S' hv => ?_)
      obtain ⟨hv, hS⟩ := hv
      subst hS
      subst hv
      have hok5 : k_Ok (k_dn (k_u (k_re K p (K 6 p) false).2 6 p (K 6 p + 1)) p ((k_re K p (K 6 p) false).2 8 (64 * p + (K 6 p).toInt.toNat))).2 (B + 1) := k_Ok_op hp hok4
      unfold k_s2 at hQ
      refine q_istore_n_3 F dX4_step_71 (by decide) ?_
      refine q_aload_n F dX4_step_72 rfl ?_
      refine q_kgeti F (k := 14) fkX4_54 rfl dX4_step_73 ?_
      refine q_if_ne F 81 dX4_step_76 (by decide) (fun h76 => ?_) (fun h76 => ?_)
      · refine q_aload_n F dX4_step_81 rfl ?_
        refine q_iload_n F dX4_step_82 rfl ?_
        refine q_aload_n F dX4_step_83 rfl ?_
        refine q_kgeti F (k := 14) fkX4_54 rfl dX4_step_84 ?_
        refine q_callVv F [.inl (nI p), .inl ((k_dn (k_u (k_re K p (K 6 p) false).2 6 p (K 6 p + 1)) p ((k_re K p (K 6 p) false).2 8 (64 * p + (K 6 p).toInt.toNat))).2 0 14)] (fun l => t_mend l S _ hp (k_Ok_par hok5)) clX4_81 rfl q_m20 rfl rfl rfl ⟨Nat.le_of_ble_eq_true rfl, Nat.le_of_ble_eq_true rfl⟩ (Nat.le_of_ble_eq_true rfl) ⟨rfl, rfl⟩ ⟨Nat.zero_le _, Nat.zero_le _⟩ dX4_step_87 (fun S' hS => ?_)
        subst hS
        refine q_iconst F (nI 5) dX4_step_90 (by decide) ?_
        refine q_iret F E rfl (by rw [hQ, if_neg h76]; exact ⟨rfl, rfl⟩) dX4_step_91
      · refine q_iload_n F dX4_step_79 rfl ?_
        refine q_iret F E rfl (by rw [hQ, if_pos h76]; exact ⟨rfl, rfl⟩) dX4_step_80

set_option maxRecDepth 100000 in
set_option maxHeartbeats 4000000 in
theorem t_mstep {G : q_g} {n : Nat} {ad : q_ix → Nat} (l : Launch) (S : q_st) (K : k_t) {B : Nat} (hok : k_Ok K B) (hB : B < 2 ^ 30) : q_Ct l G iX4_step [.inr (some (20, 0))] (q_w G n ad) (q_put S K) (q_pi (q_w G n ad) (fun r S' => r = (k_s K).1 ∧ S' = q_put S (k_s K).2)) := by
  refine q_enter (by decide) (Nat.le_of_ble_eq_true rfl) (fun X F E => ?_)
  show q_W G X iX4_step (q_w G n ad) (0, 0) 0 [some (.inr (some (20, 0))), none, none, none] [] (q_put S K)
  refine q_aload_n F dX4_step_0 rfl ?_
  refine q_callVi F [] (fun l => t_choose l S K hok.2.1) clX4_113 rfl q_m20 rfl rfl rfl ⟨Nat.le_of_ble_eq_true rfl, Nat.le_of_ble_eq_true rfl⟩ (Nat.le_of_ble_eq_true rfl) ⟨rfl, rfl⟩ ⟨Nat.zero_le _, Nat.zero_le _⟩ dX4_step_1 (fun v S' hv => ?_)
  obtain ⟨hv, hS⟩ := hv
  subst hS
  rcases hv with ⟨rfl, hch⟩ | ⟨rfl, hch⟩
  · refine q_ifN_ne F 9 dX4_step_4 (by decide) (by omega) (fun h4 => ?_) (fun h4 => ?_)
    · exact absurd h4 (by decide)
    · refine q_iconst F (nI 0) dX4_step_7 (by decide) ?_
      refine q_iret F E rfl (by unfold k_s; rw [if_neg (by rw [hch]; decide)]; exact ⟨rfl, rfl⟩) dX4_step_8
  · refine q_ifN_ne F 9 dX4_step_4 (by decide) (by omega) (fun h4 => ?_) (fun h4 => ?_)
    · obtain ⟨hok1, ha, h0, p, hp, hp1, hp2, -⟩ := k_ch_ok hok hch
      refine q_aload_n F dX4_step_9 rfl ?_
      refine q_kgeti F (k := 12) fkX4_37 rfl dX4_step_10 ?_
      refine q_top (nI p) hp1 ?_
      refine q_istore_n_1 F dX4_step_13 (by decide) ?_
      refine q_aload_n F dX4_step_14 rfl ?_
      refine q_dup F dX4_step_15 ?_
      refine q_kgeti F (k := 13) fkX4_88 rfl dX4_step_16 ?_
      refine q_iconst F (nI 1) dX4_step_19 (by decide) ?_
      refine q_iadd F dX4_step_20 ?_
      refine q_kputi F (k := 13) fkX4_88 fp4_13 rfl dX4_step_21 ?_
      refine q_aload_n F dX4_step_24 rfl ?_
      refine q_iconst F (nI 0) dX4_step_25 (by decide) ?_
      refine q_kputi F (k := 14) fkX4_54 fp4_14 rfl dX4_step_26 ?_
      refine lp_mstep F hp (k_Ok_row hok hch) hB ?_ (k_s K) ?_ E
      · rw [k_u_ne _ _ _ _ (by simp), k_u_ne _ _ _ _ (by simp), ha 2 (by decide), hp2]; decide
      · unfold k_s; rw [if_pos hch, hp1, nI_toInt (by omega), Int.toNat_natCast]; rfl
    · exact absurd h4 (by decide)

theorem k_ss_stop {K : k_t} {m : Nat} (h : (k_ss m K).1 < m) : ∀ d, k_ss (m + d) K = k_ss m K
  | 0 => rfl
  | d + 1 => by
    have ih := k_ss_stop h d
    show k_ss (m + d + 1) K = _
    rw [k_ss, ih, if_neg (fun q => by have := q.1; omega), if_neg (by omega)]
theorem k_ss_go {K : k_t} {k : Nat} (h : (k_ss k K).1 = k) (hs : ¬ (k_s (k_ss k K).2).1 = 0) : k_ss (k + 1) K = (k + 1, (k_s (k_ss k K).2).2) := by
  rw [k_ss, if_pos ⟨h, hs⟩]
theorem k_ss_end {K : k_t} {k : Nat} (h : (k_ss k K).1 = k) (hs : (k_s (k_ss k K).2).1 = 0) : k_ss (k + 1) K = (k, (k_s (k_ss k K).2).2) := by
  rw [k_ss, if_neg (fun q => q.2 hs), if_pos h]
theorem k_Ok_ss {K : k_t} {B : Nat} (h : k_Ok K B) : ∀ k, k_Ok (k_ss k K).2 (B + k)
  | 0 => h
  | k + 1 => by
    have ih := k_Ok_ss h k
    rw [k_ss]
    split
    · exact k_Ok_s ih
    · split
      · exact k_Ok_s ih
      · exact k_Ok_le (by omega) ih

set_option maxRecDepth 100000 in
set_option maxHeartbeats 4000000 in
theorem lp_msteps {G : q_g} {n : Nat} {ad : q_ix → Nat} {X : q_cx} (F : q_fx G X iX4_steps) {S : q_st} {K : k_t} {B m : Nat} (hok : k_Ok K B) (hB : B + 50 < 2 ^ 30) (hm : m ≤ 50) {P : Int32 → q_st → Prop} (hP : P (nI (k_ss m K).1) (q_put S (k_ss m K).2)) (E : q_en G X iX4_steps (q_pi (q_w G n ad) P)) : ∀ k, k ≤ m → (k_ss k K).1 = k → q_W G X iX4_steps (q_w G n ad) (0, 0) 14 [some (.inr (some (20, 0))), some (.inl (nI m)), some (.inl (nI k))] [] (q_put S (k_ss k K).2) := by
  refine q_loop (fun k hk ih => ?_)
  intro hkk
  refine q_iload_n F dX4_steps_14 rfl ?_
  refine q_iload_n F dX4_steps_15 rfl ?_
  refine q_icmpN_ge F 32 dX4_steps_16 (by decide) (by omega) (by omega) (fun h16 => ?_) (fun h16 => ?_)
  · obtain rfl : k = m := by omega
    rw [hkk] at hP
    refine q_iload_n F dX4_steps_32 rfl ?_
    refine q_iret F E rfl hP dX4_steps_33
  · refine q_aload_n F dX4_steps_19 rfl ?_
    refine q_callVi F [] (fun l => t_mstep l S _ (k_Ok_ss hok k) (by omega)) clX4_120 rfl q_m20 rfl rfl rfl ⟨Nat.le_of_ble_eq_true rfl, Nat.le_of_ble_eq_true rfl⟩ (Nat.le_of_ble_eq_true rfl) ⟨rfl, rfl⟩ ⟨Nat.zero_le _, Nat.zero_le _⟩ dX4_steps_20 (fun v S' hv => ?_)
    obtain ⟨hv, hS⟩ := hv
    subst hS
    subst hv
    refine q_if_eq F 32 dX4_steps_23 (by decide) (fun h23 => ?_) (fun h23 => ?_)
    · have he := k_ss_end hkk h23
      have hst := k_ss_stop (K := K) (m := k + 1) (by rw [he]; exact Nat.lt_succ_self k) (m - (k + 1))
      rw [show k + 1 + (m - (k + 1)) = m by omega, he] at hst
      rw [hst] at hP
      refine q_iload_n F dX4_steps_32 rfl ?_
      refine q_iret F E rfl hP dX4_steps_33
    · refine q_iinc_2 F _ dX4_steps_26 (q_inc1 _) (by decide) ?_
      have hg := k_ss_go hkk h23
      refine q_goto F 14 dX4_steps_29 (by decide) ?_
      have h := ih h16 (by rw [hg])
      rw [hg] at h
      exact h

set_option maxRecDepth 100000 in
set_option maxHeartbeats 4000000 in
theorem t_msteps {G : q_g} {n : Nat} {ad : q_ix → Nat} (l : Launch) (S : q_st) (K : k_t) {x : Int32} {B : Nat} (hok : k_Ok K B) (hB : B + 50 < 2 ^ 30) : q_Ct l G iX4_steps [.inr (some (20, 0)), .inl x] (q_w G n ad) (q_put S K) (q_pi (q_w G n ad) (fun r S' => (r = -1 ∧ ¬ (0 ≤ x.toInt ∧ x.toInt ≤ 50) ∧ S' = q_put S K) ∨ (∃ m, m ≤ 50 ∧ x = nI m ∧ r = nI (k_ss m K).1 ∧ S' = q_put S (k_ss m K).2))) := by
  refine q_enter (by decide) (Nat.le_of_ble_eq_true rfl) (fun X F E => ?_)
  show q_W G X iX4_steps (q_w G n ad) (0, 0) 0 [some (.inr (some (20, 0))), some (.inl x), none] [] (q_put S K)
  refine q_iload_n F dX4_steps_0 rfl ?_
  refine q_if_lt F 10 dX4_steps_1 (by decide) (fun h1 => ?_) (fun h1 => ?_)
  · refine q_iconst F (-1) dX4_steps_10 (by decide) ?_
    refine q_iret F E rfl (Or.inl ⟨rfl, by omega, rfl⟩) dX4_steps_11
  · refine q_iload_n F dX4_steps_4 rfl ?_
    refine q_bipush F (nI 50) dX4_steps_5 (by decide) ?_
    refine q_icmp_le F 12 dX4_steps_7 (by decide) (fun h7 => ?_) (fun h7 => ?_)
    · rw [nI_toInt (by omega)] at h7
      obtain ⟨m, hm, rfl⟩ := q_ofx (x := x) (m := 51) (by decide) h1 (by omega)
      refine q_iconst F (nI 0) dX4_steps_12 (by decide) ?_
      refine q_istore_n_2 F dX4_steps_13 (by decide) ?_
      exact lp_msteps F hok hB (by omega) (Or.inr ⟨m, by omega, rfl, rfl, rfl⟩) E 0 (Nat.zero_le _) rfl
    · rw [nI_toInt (by omega)] at h7
      refine q_iconst F (-1) dX4_steps_10 (by decide) ?_
      refine q_iret F E rfl (Or.inl ⟨rfl, by omega, rfl⟩) dX4_steps_11
end
section
/-! the class: pages given back, words cleared (rows laid by wip/whole/m50.py) -/
/-- the pages of process p from page i0 up to page i are given back -/
def q_rf (S0 : q_st) (K : k_t) (n p b i0 : Nat) (pg : Nat → Option Nat) (L i : Nat) (S : q_st) : Prop := ∃ (pg' : Nat → Option Nat) (us' lab' : Nat → Nat), q_R S (k_rz K p b i) n pg' us' lab' L ∧ q_sm S0 S ∧ ∀ x, pg' x = if x / 8 = p ∧ i0 ≤ x % 8 ∧ x % 8 < i then none else pg x
theorem k_rz_id (K : k_t) (p b i : Nat) (h : ∀ j, j < i → 8 * j < b) : k_rz K p b i = K := by
  induction i with
  | zero => exact k_rz_0 K p b
  | succ i ih =>
    by_cases hi : i < 8
    · rw [← k_rz_n K p b i hi (h i (Nat.lt_succ_self i))]
      exact ih (fun j hj => h j (by omega))
    · funext a j
      have e := congrFun (congrFun (ih (fun j hj => h j (by omega))) a) j
      rw [← e]
      unfold k_rz
      repeat' split
      all_goals first | rfl | (exfalso; omega)
theorem q_rf_0 {S : q_st} {K : k_t} {n p b i0 : Nat} {pg : Nat → Option Nat} {us lab : Nat → Nat} {L : Nat} (h : q_R S K n pg us lab L) (hb : ∀ i, i < 8 → (i0 ≤ i ↔ b ≤ 8 * i)) (h8 : i0 ≤ 8) : q_rf S K n p b i0 pg L i0 S := by
  refine ⟨pg, us, lab, ?_, q_sm_rf S, fun x => ?_⟩
  · rw [k_rz_id K p b i0 (fun j hj => by have := hb j (by omega); omega)]
    exact h
  · rw [if_neg (by omega)]
theorem q_rf_s {S0 S S' : q_st} {K : k_t} {n p b i0 : Nat} {pg : Nat → Option Nat} {L i : Nat} {pg' : Nat → Option Nat} {us' lab' : Nat → Nat} (hp : p < 8) (hi : i < 8) (h0 : i0 ≤ i) (hb : b ≤ 8 * i) (h : q_R S (k_rz K p b i) n pg' us' lab' L) (hs : q_sm S0 S) (hpg : ∀ x, pg' x = if x / 8 = p ∧ i0 ≤ x % 8 ∧ x % 8 < i then none else pg x)
    (hS : (pg' (8 * p + i) = none ∧ S' = S) ∨ ∃ f, pg' (8 * p + i) = some f ∧ S' = c_lv S f) : q_rf S0 K n p b i0 pg L (i + 1) (q_up S' (7, p) i (-1)) := by
  have key : q_R (q_up S' (7, p) i (-1)) (k_rz K p b (i + 1)) n (fun x => if x = 8 * p + i then none else pg' x) (fun x => if pg' (8 * p + i) = some x then us' x - 1 else us' x) (fun x => if x = 8 * p + i then 0 else lab' x) L := by
    refine q_R_rel h hp hi ?_ ?_ ?_ ?_ ?_ ?_ ?_ ?_
    · intro p' i' hp' hi'
      by_cases hx : 8 * p' + i' = 8 * p + i
      · obtain ⟨rfl, rfl⟩ : p' = p ∧ i' = i := by omega
        simp [q_up]
      · rw [if_neg hx, q_irr _ _ _ _ _ _ (by rintro ⟨q, rfl⟩; cases q; exact hx rfl)]
        rcases hS with ⟨-, rfl⟩ | ⟨f, -, rfl⟩
        · rfl
        · simp [c_lv_at]
    · intro x hx
      rw [q_irr _ _ _ _ _ _ (by simp)]
      rcases hS with ⟨hn, rfl⟩ | ⟨f, hf, rfl⟩
      · rw [hn]; simp
      · rw [hf, c_lv_at]
        by_cases hxf : x = f
        · subst hxf
          have h1 := q_R_us1 h hf
          rw [if_pos ⟨rfl, rfl⟩, if_pos rfl, h.2.2.2.1 x hx, pk_sub (by omega)]
        · rw [if_neg (fun q => hxf q.2), if_neg (by simp), if_neg (by intro q; cases q; exact hxf rfl)]
    · rw [q_irr _ _ _ _ _ _ (by simp)]
      rcases hS with ⟨hn, rfl⟩ | ⟨f, hf, rfl⟩
      · rw [if_neg (by rintro ⟨x, hx, -⟩; rw [hn] at hx; cases hx)]
      · have hfn := (h.2.1.1 _ _ hf).1
        have h1 := q_R_us1 h hf
        have h2 := q_R_us h hfn
        have hz : S (3, 0) f - nI 1 = 0 ↔ us' f = 1 := by
          rw [h.2.2.2.1 f hfn, pk_sub (by omega), q_nI0 (by omega)]
          omega
        rw [c_lv_at, if_neg (by simp)]
        by_cases h3 : us' f = 1
        · rw [if_pos ⟨rfl, rfl, hz.mpr h3⟩, if_pos ⟨f, hf, h3⟩]
          rfl
        · rw [if_neg (fun q => h3 (hz.mp q.2.2)), if_neg (by rintro ⟨x, hx, hx1⟩; rw [hf] at hx; cases hx; exact h3 hx1)]
    · rw [q_irr _ _ _ _ _ _ (by simp)]
      rcases hS with ⟨hn, rfl⟩ | ⟨f, hf, rfl⟩
      · rfl
      · simp [c_lv_at]
    · funext x
      rw [q_irr _ _ _ _ _ _ (by simp)]
      rcases hS with ⟨hn, rfl⟩ | ⟨f, hf, rfl⟩
      · rfl
      · simp [c_lv_at]
    · rw [← k_rz_s K p b i hi hb]
      funext j
      simp [k_rl]
    · intro g
      rw [← k_rz_s K p b i hi hb]
      simp [k_rl]
    · intro x
      rw [← k_rz_s K p b i hi hb]
      simp [k_rl]
  refine ⟨_, _, _, key, q_sm_tr hs (fun j a b c d => ?_), fun x => ?_⟩
  · funext x
    rw [q_irr _ _ _ _ _ _ (by rintro ⟨rfl, -⟩; exact d rfl)]
    rcases hS with ⟨-, rfl⟩ | ⟨f, -, rfl⟩
    · rfl
    · rw [c_lv_at, if_neg (by rintro ⟨rfl, -⟩; exact c rfl), if_neg (by rintro ⟨rfl, -⟩; exact a rfl)]
  · by_cases hx : x = 8 * p + i
    · rw [if_pos hx, if_pos (by omega)]
    · rw [if_neg hx, hpg]
      repeat' split
      all_goals first | rfl | (exfalso; omega)

set_option maxRecDepth 100000 in
set_option maxHeartbeats 4000000 in
theorem lp_releaseFrom {G : q_g} {n : Nat} {ad : q_ix → Nat} {X : q_cx} (F : q_fx G X iX3_releaseFrom) {S0 : q_st} {K : k_t} {p b i0 : Nat} {pg : Nat → Option Nat} {L : Nat} (hp : p < 8) (hb : ∀ i, i < 8 → (i0 ≤ i ↔ b ≤ 8 * i)) (E : q_en G X iX3_releaseFrom (q_pv (q_w G n ad) (fun S' => q_rf S0 K n p b i0 pg L 8 S'))) : ∀ i, i ≤ 8 → i0 ≤ i → ∀ S, q_rf S0 K n p b i0 pg L i S → q_W G X iX3_releaseFrom (q_w G n ad) (0, 0) 2 [some (.inr (some (0, 0))), some (.inr (some (5, p))), some (.inl (nI i0)), some (.inl (nI i))] [] S := by
  refine q_loop (fun i hi8 ih => ?_)
  intro h0 S hrf
  refine q_iload_n F dX3_releaseFrom_2 rfl ?_
  refine q_bipush F (nI 8) dX3_releaseFrom_3 (by decide) ?_
  refine q_icmpN_ge F 34 dX3_releaseFrom_5 (by decide) (by omega) (by omega) (fun h5 => ?_) (fun h5 => ?_)
  · obtain rfl : i = 8 := by omega
    refine q_vret F E rfl hrf dX3_releaseFrom_34
  · obtain ⟨pg1, us1, lab1, hR, hs, hpg⟩ := hrf
    have hn := hR.1.2
    refine q_aload_n F dX3_releaseFrom_8 rfl ?_
    refine q_getr F (k := 0) fkX3_14 q_m0 rfl rfl dX3_releaseFrom_9 ?_
    refine q_aload_n F dX3_releaseFrom_12 rfl ?_
    refine q_getr F (k := 6) fkX3_112 (q_m5 (by omega)) rfl rfl dX3_releaseFrom_13 ?_
    refine q_iload_n F dX3_releaseFrom_16 rfl ?_
    refine q_iald F (_) (q_m7 (by omega)) rfl rfl (by omega) (by omega) dX3_releaseFrom_17 ?_
    cases hf : pg1 (8 * p + i)
    · refine q_top (-1) (by rw [hR.2.2.1 p i hp h5, hf]; rfl) ?_
      refine q_callVv F [.inl (-1)] (fun l => t_leave0 l S) clX3_191 rfl q_m1 rfl rfl rfl ⟨Nat.le_of_ble_eq_true rfl, Nat.le_of_ble_eq_true rfl⟩ (Nat.le_of_ble_eq_true rfl) ⟨rfl, rfl⟩ ⟨Nat.zero_le _, Nat.zero_le _⟩ dX3_releaseFrom_18 (fun S' hS => ?_)
      subst hS
      refine q_aload_n F dX3_releaseFrom_21 rfl ?_
      refine q_getr F (k := 6) fkX3_112 (q_m5 (by omega)) rfl rfl dX3_releaseFrom_22 ?_
      refine q_iload_n F dX3_releaseFrom_25 rfl ?_
      refine q_iconst F (-1) dX3_releaseFrom_26 (by decide) ?_
      refine q_iast F (_) (q_m7 (by omega)) rfl rfl (by omega) (by omega) dX3_releaseFrom_27 ?_
      refine q_iinc_3 F _ dX3_releaseFrom_28 (q_inc1 _) (by decide) ?_
      exact q_goto F 2 dX3_releaseFrom_31 (by decide) (ih h5 (by omega) _ (q_rf_s hp h5 h0 ((hb i h5).mp h0) hR hs hpg (Or.inl ⟨hf, rfl⟩)))
    · rename_i f
      have hff := (hR.2.1.1 _ _ hf).1
      refine q_top (nI f) (by rw [hR.2.2.1 p i hp h5, hf]; rfl) ?_
      refine q_callVv F [.inl (nI f)] (fun l => t_leave l S hff hn) clX3_191 rfl q_m1 rfl rfl rfl ⟨Nat.le_of_ble_eq_true rfl, Nat.le_of_ble_eq_true rfl⟩ (Nat.le_of_ble_eq_true rfl) ⟨rfl, rfl⟩ ⟨Nat.zero_le _, Nat.zero_le _⟩ dX3_releaseFrom_18 (fun S' hS => ?_)
      subst hS
      refine q_aload_n F dX3_releaseFrom_21 rfl ?_
      refine q_getr F (k := 6) fkX3_112 (q_m5 (by omega)) rfl rfl dX3_releaseFrom_22 ?_
      refine q_iload_n F dX3_releaseFrom_25 rfl ?_
      refine q_iconst F (-1) dX3_releaseFrom_26 (by decide) ?_
      refine q_iast F (_) (q_m7 (by omega)) rfl rfl (by omega) (by omega) dX3_releaseFrom_27 ?_
      refine q_iinc_3 F _ dX3_releaseFrom_28 (q_inc1 _) (by decide) ?_
      exact q_goto F 2 dX3_releaseFrom_31 (by decide) (ih h5 (by omega) _ (q_rf_s hp h5 h0 ((hb i h5).mp h0) hR hs hpg (Or.inr ⟨f, hf, rfl⟩)))

set_option maxRecDepth 100000 in
set_option maxHeartbeats 4000000 in
theorem t_releaseFrom {G : q_g} {n : Nat} {ad : q_ix → Nat} (l : Launch) (S0 : q_st) {K : k_t} {p b i0 : Nat} {pg : Nat → Option Nat} {us lab : Nat → Nat} {L : Nat} (hp : p < 8) (hi0 : i0 ≤ 8) (hb : ∀ i, i < 8 → (i0 ≤ i ↔ b ≤ 8 * i)) (hR : q_R S0 K n pg us lab L) : q_Ct l G iX3_releaseFrom [.inr (some (0, 0)), .inr (some (5, p)), .inl (nI i0)] (q_w G n ad) (S0) (q_pv (q_w G n ad) (fun S' => q_rf S0 K n p b i0 pg L 8 S')) := by
  refine q_enter (by decide) (Nat.le_of_ble_eq_true rfl) (fun X F E => ?_)
  show q_W G X iX3_releaseFrom (q_w G n ad) (0, 0) 0 [some (.inr (some (0, 0))), some (.inr (some (5, p))), some (.inl (nI i0)), none] [] (S0)
  refine q_iload_n F dX3_releaseFrom_0 rfl ?_
  refine q_istore_n_3 F dX3_releaseFrom_1 (by decide) ?_
  exact lp_releaseFrom F hp hb E i0 hi0 (Nat.le_refl _) S0 (q_rf_0 hR hb hi0)

def q_cf (S0 : q_st) (K : k_t) (n p b : Nat) (pg : Nat → Option Nat) (us lab : Nat → Nat) (L t : Nat) (S : q_st) : Prop := q_R S (k_fill K 8 (64 * p + b) t (fun _ => 0)) n pg us lab L ∧ q_sm S0 S
theorem q_cf_s {S0 S : q_st} {K : k_t} {n p b : Nat} {pg : Nat → Option Nat} {us lab : Nat → Nat} {L t f : Nat} (hp : p < 8) (hb : b < 64) (ht : t < 8 * (b / 8 + 1) - b) (h : q_cf S0 K n p b pg us lab L t S) (hf : pg (8 * p + b / 8) = some f) (hu : us f = 1) : q_cf S0 K n p b pg us lab L (t + 1) (q_up S (2, 0) (8 * f + (b + t) % 8) (nI 0)) := by
  obtain ⟨hR, hs⟩ := h
  refine ⟨?_, q_sm_tr hs (fun j a b c d => ?_)⟩
  · rw [← k_fill_s K 8 (64 * p + b) t (fun _ => 0) 0 rfl]
    refine q_R_put (v := 0) hR hf hu (k := (b + t) % 8) (by omega) (fun x => ?_) (fun i j hi => ?_) (fun x => ?_) (fun a ha => ?_)
    · simp only [q_up, true_and]
      rfl
    · rw [q_irr _ _ _ _ _ _ (fun q => hi q.1)]
    · simp only [k_u, true_and]
      rw [show 64 * p + b + t = 8 * (8 * p + b / 8) + (b + t) % 8 by omega]
    · exact k_u_k _ _ _ _ ha
  · funext x
    rw [q_irr _ _ _ _ _ _ (by rintro ⟨rfl, -⟩; exact b rfl)]

set_option maxRecDepth 100000 in
set_option maxHeartbeats 4000000 in
theorem lp_clearFrom {G : q_g} {n : Nat} {ad : q_ix → Nat} {X : q_cx} (F : q_fx G X iX3_clearFrom) {S0 : q_st} {K : k_t} {p b f : Nat} {pg : Nat → Option Nat} {us lab : Nat → Nat} {L : Nat} (hp : p < 8) (hb : b < 64) (hf : pg (8 * p + b / 8) = some f) (hu : us f = 1) (E : q_en G X iX3_clearFrom (q_pv (q_w G n ad) (fun S' => q_R S' (k_cl K p b) n pg us lab L ∧ q_sm S0 S'))) : ∀ t, t ≤ 8 * (b / 8 + 1) - b → ∀ S, q_cf S0 K n p b pg us lab L t S → q_W G X iX3_clearFrom (q_w G n ad) (0, 0) 13 [some (.inr (some (0, 0))), some (.inr (some (5, p))), some (.inl (nI b)), some (.inl (nI ((b / 8 + 1) * 8))), some (.inl (nI (b + t)))] [] S := by
  refine q_loop (fun t ht ih => ?_)
  intro S hcf
  refine q_iload F dX3_clearFrom_13 rfl ?_
  refine q_iload_n F dX3_clearFrom_15 rfl ?_
  refine q_icmpN_ge F 33 dX3_clearFrom_16 (by decide) (by omega) (by omega) (fun h16 => ?_) (fun h16 => ?_)
  · obtain rfl : t = 8 * (b / 8 + 1) - b := by omega
    refine q_vret F E rfl (by obtain ⟨h1, h2⟩ := hcf; rw [k_cl_eq] at h1; exact ⟨h1, h2⟩) dX3_clearFrom_33
  · refine q_aload_n F dX3_clearFrom_19 rfl ?_
    refine q_aload_n F dX3_clearFrom_20 rfl ?_
    refine q_iload F dX3_clearFrom_21 rfl ?_
    refine q_iconst F (nI 0) dX3_clearFrom_23 (by decide) ?_
    refine q_callVv F [.inr (some (5, p)), .inl (nI (b + t)), .inl (nI 0)] (fun l => t_putWord l S hp (show b + t < 64 by omega) (hcf.1.2.1.1 _ _ hf).1 hcf.1.1.2 (by rw [show (b + t) / 8 = b / 8 by omega, hcf.1.2.2.1 p (b / 8) hp (by omega), hf]; rfl)) clX3_63 rfl q_m0 rfl rfl rfl ⟨Nat.le_of_ble_eq_true rfl, Nat.le_of_ble_eq_true rfl⟩ (Nat.le_of_ble_eq_true rfl) ⟨rfl, rfl⟩ ⟨Nat.zero_le _, Nat.zero_le _⟩ dX3_clearFrom_24 (fun S' hS => ?_)
    subst hS
    refine q_iinc_4 F _ dX3_clearFrom_27 (q_inc1 _) (by decide) ?_
    exact q_goto F 13 dX3_clearFrom_30 (by decide) (ih (by omega) _ (q_cf_s hp hb (by omega) hcf hf hu))

set_option maxRecDepth 100000 in
set_option maxHeartbeats 4000000 in
theorem t_clearFrom {G : q_g} {n : Nat} {ad : q_ix → Nat} (l : Launch) (S0 : q_st) {K : k_t} {p b f : Nat} {pg : Nat → Option Nat} {us lab : Nat → Nat} {L : Nat} (hp : p < 8) (hb : b < 64) (hf : pg (8 * p + b / 8) = some f) (hu : us f = 1) (hR : q_R S0 K n pg us lab L) : q_Ct l G iX3_clearFrom [.inr (some (0, 0)), .inr (some (5, p)), .inl (nI b)] (q_w G n ad) (S0) (q_pv (q_w G n ad) (fun S' => q_R S' (k_cl K p b) n pg us lab L ∧ q_sm S0 S')) := by
  refine q_enter (by decide) (Nat.le_of_ble_eq_true rfl) (fun X F E => ?_)
  show q_W G X iX3_clearFrom (q_w G n ad) (0, 0) 0 [some (.inr (some (0, 0))), some (.inr (some (5, p))), some (.inl (nI b)), none, none] [] (S0)
  refine q_iload_n F dX3_clearFrom_0 rfl ?_
  refine q_bipush F (nI 8) dX3_clearFrom_1 (by decide) ?_
  refine q_idivN F dX3_clearFrom_3 (by omega) (by omega) (by omega) ?_
  refine q_iconst F (nI 1) dX3_clearFrom_4 (by decide) ?_
  refine q_iaddN F dX3_clearFrom_5 ?_
  refine q_bipush F (nI 8) dX3_clearFrom_6 (by decide) ?_
  refine q_imulN F dX3_clearFrom_8 ?_
  refine q_istore_n_3 F dX3_clearFrom_9 (by decide) ?_
  refine q_iload_n F dX3_clearFrom_10 rfl ?_
  refine q_istore_4 F dX3_clearFrom_11 (by decide) ?_
  exact lp_clearFrom F hp hb hf hu E 0 (Nat.zero_le _) S0 ⟨by rw [k_fill_0]; exact hR, q_sm_rf S0⟩
end
section
/-! the whole relation between the class's cells and the reference's numbers -/
def q_T (S : q_st) (K : k_t) : Prop := (∀ i, i < 64 → S (10, 0) i = K 1 i) ∧ (∀ p, p < 8 → S (5, p) 0 = K 2 p ∧ S (5, p) 1 = K 3 p ∧ S (5, p) 2 = K 4 p ∧ S (5, p) 3 = K 6 p ∧ S (5, p) 4 = K 7 p) ∧ (∀ p r, p < 8 → r < 8 → S (6, p) r = K 5 (8 * p + r)) ∧ S (8, 0) 1 = K 0 15 ∧ (∀ i, i < 32 → S (9, 0) i = K 10 i) ∧ S (0, 0) 4 = K 0 1
def q_C (S : q_st) (K : k_t) : Prop := S (0, 0) 5 = K 0 12 ∧ (K 0 12 ≠ -1 → S (0, 0) 6 = K 0 13)
def q_Zn (K : k_t) (pg : Nat → Option Nat) : Prop := ∀ p, p < 8 → (K 2 p = 0 ∨ K 2 p = nI 3) → ∀ i, i < 8 → pg (8 * p + i) = none
def q_fr (S S' : q_st) : Prop := ∀ j : q_ix, 20 ≤ j.1 → S' j = S j
def q_F (S : q_st) (K : k_t) (n L B : Nat) : Prop := k_Ok K B ∧ q_T S K ∧ q_C S K ∧ ∃ (pg : Nat → Option Nat) (us lab : Nat → Nat), q_R S K n pg us lab L ∧ q_Zn K pg
/-- only tables change: processes, registers, log, image -/
def q_sn (S S' : q_st) : Prop := ∀ j : q_ix, (j.1 = 0 ∨ j.1 = 1 ∨ j.1 = 2 ∨ j.1 = 3 ∨ j.1 = 7 ∨ 20 ≤ j.1) → S' j = S j
theorem q_sn_rf (S : q_st) : q_sn S S := fun _ _ => rfl
theorem q_sn_tr {S S1 S2 : q_st} (h1 : q_sn S S1) (h2 : q_sn S1 S2) : q_sn S S2 := fun j a => (h2 j a).trans (h1 j a)
theorem q_sn_up {S : q_st} {i : q_ix} {k : Nat} {v : Int32} (h : i.1 = 5 ∨ i.1 = 6 ∨ i.1 = 8 ∨ i.1 = 9 ∨ i.1 = 10) : q_sn S (q_up S i k v) := fun j hj => q_up_other S i k v j (by rintro rfl; omega)
theorem q_fr_rf (S : q_st) : q_fr S S := fun _ _ => rfl
theorem q_fr_tr {S S1 S2 : q_st} (h1 : q_fr S S1) (h2 : q_fr S1 S2) : q_fr S S2 := fun j a => (h2 j a).trans (h1 j a)
theorem q_fr_sn {S S' : q_st} (h : q_sn S S') : q_fr S S' := fun j hj => h j (by omega)
theorem q_fr_sm {S S' : q_st} (h : q_sm S S') : q_fr S S' := fun j hj => h j (by omega) (by omega) (by omega) (by omega)
theorem q_fr_up {S : q_st} {i : q_ix} {k : Nat} {v : Int32} (h : i.1 < 20) : q_fr S (q_up S i k v) := fun j hj => q_up_other S i k v j (by rintro rfl; omega)
theorem q_T_sm {S S' : q_st} {K : k_t} (hs : q_sm S S') (h : q_T S K) : q_T S' K := by
  obtain ⟨h1, h2, h3, h4, h5, h6⟩ := h
  have e : ∀ j : q_ix, j.1 ≠ 1 → j.1 ≠ 2 → j.1 ≠ 3 → j.1 ≠ 7 → S' j = S j := hs
  refine ⟨fun i hi => ?_, fun p hp => ?_, fun p r hp hr => ?_, ?_, fun i hi => ?_, ?_⟩
  · rw [e (10, 0) (by simp) (by simp) (by simp) (by simp)]; exact h1 i hi
  · rw [e (5, p) (by simp) (by simp) (by simp) (by simp)]; exact h2 p hp
  · rw [e (6, p) (by simp) (by simp) (by simp) (by simp)]; exact h3 p r hp hr
  · rw [e (8, 0) (by simp) (by simp) (by simp) (by simp)]; exact h4
  · rw [e (9, 0) (by simp) (by simp) (by simp) (by simp)]; exact h5 i hi
  · rw [e (0, 0) (by simp) (by simp) (by simp) (by simp)]; exact h6
theorem q_C_sm {S S' : q_st} {K : k_t} (hs : q_sm S S') (h : q_C S K) : q_C S' K := by
  unfold q_C at *
  rw [hs (0, 0) (by simp) (by simp) (by simp) (by simp)]
  exact h
theorem q_C_sn {S S' : q_st} {K : k_t} (hs : q_sn S S') (h : q_C S K) : q_C S' K := by
  unfold q_C at *
  rw [hs (0, 0) (by simp)]
  exact h
theorem q_T_k {S : q_st} {K K' : k_t} (h : ∀ a, a ≠ 0 → a ≠ 8 → a ≠ 9 → K' a = K a) (h0 : ∀ j, j ≠ 11 → j ≠ 14 → K' 0 j = K 0 j) (hT : q_T S K) : q_T S K' := by
  unfold q_T at *
  rw [h 1 (by decide) (by decide) (by decide), h 2 (by decide) (by decide) (by decide), h 3 (by decide) (by decide) (by decide), h 4 (by decide) (by decide) (by decide), h 5 (by decide) (by decide) (by decide), h 6 (by decide) (by decide) (by decide), h 7 (by decide) (by decide) (by decide), h 10 (by decide) (by decide) (by decide), h0 15 (by decide) (by decide), h0 1 (by decide) (by decide)]
  exact hT
theorem q_C_k {S : q_st} {K K' : k_t} (h0 : ∀ j, j ≠ 11 → j ≠ 14 → K' 0 j = K 0 j) (hT : q_C S K) : q_C S K' := by
  unfold q_C at *
  rw [h0 12 (by decide) (by decide), h0 13 (by decide) (by decide)]
  exact hT
theorem q_Zn_k {K K' : k_t} {pg : Nat → Option Nat} (h : K' 2 = K 2) (hZ : q_Zn K pg) : q_Zn K' pg := by
  unfold q_Zn at *
  rw [h]
  exact hZ
/-- a table's word is written on both sides -/
def q_tc (i : q_ix) (s a j : Nat) : Prop := (i.1 = 5 ∧ i.2 < 8 ∧ j = i.2 ∧ ((s = 0 ∧ a = 2) ∨ (s = 1 ∧ a = 3) ∨ (s = 2 ∧ a = 4) ∨ (s = 3 ∧ a = 6) ∨ (s = 4 ∧ a = 7))) ∨ (i.1 = 6 ∧ i.2 < 8 ∧ s < 8 ∧ a = 5 ∧ j = 8 * i.2 + s) ∨ (i = (10, 0) ∧ a = 1 ∧ j = s) ∨ (i = (9, 0) ∧ a = 10 ∧ j = s) ∨ (i = (8, 0) ∧ s = 1 ∧ a = 0 ∧ j = 15)
theorem q_T_up {S : q_st} {K : k_t} {i : q_ix} {s a j : Nat} {v : Int32} (hc : q_tc i s a j) (h : q_T S K) : q_T (q_up S i s v) (k_u K a j v) := by
  obtain ⟨h1, h2, h3, h4, h5, h6⟩ := h
  obtain ⟨ic, iq⟩ := i
  have eq5 : ∀ (p q : Nat), ((5, p) : q_ix) = (5, q) ↔ p = q := fun p q => by simp
  rcases hc with ⟨hi, hp, hj, hs⟩ | ⟨hi, hp, hs, ha, hj⟩ | ⟨hi, ha, hj⟩ | ⟨hi, ha, hj⟩ | ⟨hi, hs, ha, hj⟩
  · obtain rfl : ic = 5 := hi
    obtain rfl : j = iq := hj
    refine ⟨fun x hx => ?_, fun q hq => ?_, fun q r hq hr => ?_, ?_, fun x hx => ?_, ?_⟩
    · rw [q_irr _ _ _ _ _ _ (by simp), k_u_ne _ _ _ _ (by omega)]; exact h1 x hx
    · obtain ⟨t0, t1, t2, t3, t4⟩ := h2 q hq
      by_cases hqj : q = j
      · subst hqj
        rcases hs with ⟨rfl, rfl⟩ | ⟨rfl, rfl⟩ | ⟨rfl, rfl⟩ | ⟨rfl, rfl⟩ | ⟨rfl, rfl⟩ <;> simp [q_up, k_u, t0, t1, t2, t3, t4]
      · simp [q_up, k_u, hqj, t0, t1, t2, t3, t4]
    · rw [q_irr _ _ _ _ _ _ (by simp), k_u_ne _ _ _ _ (by omega)]; exact h3 q r hq hr
    · rw [q_irr _ _ _ _ _ _ (by simp), k_u_ne _ _ _ _ (by omega)]; exact h4
    · rw [q_irr _ _ _ _ _ _ (by simp), k_u_ne _ _ _ _ (by omega)]; exact h5 x hx
    · rw [q_irr _ _ _ _ _ _ (by simp), k_u_ne _ _ _ _ (by omega)]; exact h6
  · obtain rfl : ic = 6 := hi
    subst ha hj
    refine ⟨fun x hx => ?_, fun q hq => ?_, fun q r hq hr => ?_, ?_, fun x hx => ?_, ?_⟩
    · rw [q_irr _ _ _ _ _ _ (by simp), k_u_ne _ _ _ _ (by omega)]; exact h1 x hx
    · simp [q_up, k_u]; exact h2 q hq
    · have hp' : iq < 8 := hp
      by_cases hqr : q = iq ∧ r = s
      · obtain ⟨rfl, rfl⟩ := hqr
        simp [q_up, k_u]
      · rw [q_irr _ _ _ _ _ _ (by rintro ⟨q1, q2⟩; cases q1; exact hqr ⟨rfl, q2⟩), k_u_ne _ _ _ _ (by rintro ⟨-, q2⟩; simp only at q2; exact hqr (by omega))]
        exact h3 q r hq hr
    · rw [q_irr _ _ _ _ _ _ (by simp), k_u_ne _ _ _ _ (by omega)]; exact h4
    · rw [q_irr _ _ _ _ _ _ (by simp), k_u_ne _ _ _ _ (by omega)]; exact h5 x hx
    · rw [q_irr _ _ _ _ _ _ (by simp), k_u_ne _ _ _ _ (by omega)]; exact h6
  · cases hi
    subst ha hj
    refine ⟨fun x hx => ?_, fun q hq => ?_, fun q r hq hr => ?_, ?_, fun x hx => ?_, ?_⟩
    · by_cases hxs : x = j
      · subst hxs; simp [q_up, k_u]
      · simp [q_up, k_u, hxs]; exact h1 x hx
    · simp [q_up, k_u]; exact h2 q hq
    · simp [q_up, k_u]; exact h3 q r hq hr
    · simp [q_up, k_u]; exact h4
    · simp [q_up, k_u]; exact h5 x hx
    · simp [q_up, k_u]; exact h6
  · cases hi
    subst ha hj
    refine ⟨fun x hx => ?_, fun q hq => ?_, fun q r hq hr => ?_, ?_, fun x hx => ?_, ?_⟩
    · simp [q_up, k_u]; exact h1 x hx
    · simp [q_up, k_u]; exact h2 q hq
    · simp [q_up, k_u]; exact h3 q r hq hr
    · simp [q_up, k_u]; exact h4
    · by_cases hxs : x = j
      · subst hxs; simp [q_up, k_u]
      · simp [q_up, k_u, hxs]; exact h5 x hx
    · simp [q_up, k_u]; exact h6
  · cases hi
    subst hs ha hj
    refine ⟨fun x hx => ?_, fun q hq => ?_, fun q r hq hr => ?_, ?_, fun x hx => ?_, ?_⟩
    · simp [q_up, k_u]; exact h1 x hx
    · simp [q_up, k_u]; exact h2 q hq
    · simp [q_up, k_u]; exact h3 q r hq hr
    · simp [q_up, k_u]
    · simp [q_up, k_u]; exact h5 x hx
    · simp [q_up, k_u]; exact h6
theorem q_R_sn {S S' : q_st} {K K' : k_t} {n : Nat} {pg : Nat → Option Nat} {us lab : Nat → Nat} {L : Nat} (hs : q_sn S S') (k8 : K' 8 = K 8) (k9 : K' 9 = K 9) (k00 : K' 0 0 = K 0 0) (k11 : K' 0 11 = K 0 11) (h : q_R S K n pg us lab L) : q_R S' K' n pg us lab L := by
  obtain ⟨hn, hM, h7, h3, h1, h0, hK0, h9, hl, hL0⟩ := h
  refine ⟨hn, ?_, fun p i hp hi => ?_, fun f hf => ?_, ?_, ?_, ?_, ?_, ?_, hL0⟩
  · rw [hs (2, 0) (by simp), k8]; exact hM
  · rw [hs (7, p) (by simp)]; exact h7 p i hp hi
  · rw [hs (3, 0) (by simp)]; exact h3 f hf
  · rw [hs (1, 0) (by simp)]; exact h1
  · rw [hs (1, 0) (by simp)]; exact h0
  · rw [k00]; exact hK0
  · rw [k9]; exact h9
  · rw [k11]; exact hl
/-- the same class cells, other numbers of the reference: only its fault, its labels' latest -/
theorem q_R_k {S : q_st} {K K' : k_t} {n : Nat} {pg : Nat → Option Nat} {us lab : Nat → Nat} {L : Nat} (k8 : K' 8 = K 8) (k9 : K' 9 = K 9) (k00 : K' 0 0 = K 0 0) (k11 : K' 0 11 = K 0 11) (h : q_R S K n pg us lab L) : q_R S K' n pg us lab L := q_R_sn (q_sn_rf S) k8 k9 k00 k11 h
/-- the fault is nobody's -/
theorem q_F_14 {S : q_st} {K : k_t} {n L B : Nat} {v : Int32} (h : q_F S K n L B) : q_F S (k_u K 0 14 v) n L B := by
  obtain ⟨h1, h2, h3, pg, us, lab, h4, h5⟩ := h
  refine ⟨k_Ok_u0 (by decide) h1, q_T_k (fun a ha _ _ => k_u_k _ _ _ _ ha) (fun j _ hj => k_u_ne _ _ _ _ (by omega)) h2, q_C_k (fun j _ hj => k_u_ne _ _ _ _ (by omega)) h3, pg, us, lab, q_R_k (k_u_k _ _ _ _ (by decide)) (k_u_k _ _ _ _ (by decide)) (k_u_ne _ _ _ _ (by decide)) (k_u_ne _ _ _ _ (by decide)) h4, q_Zn_k (k_u_k _ _ _ _ (by decide)) h5⟩
/-- a table's word that no range and no page hangs on -/
theorem q_F_up {S : q_st} {K : k_t} {n L B : Nat} {i : q_ix} {s a j : Nat} {v : Int32} (hc : q_tc i s a j) (ha : a = 1 ∨ a = 4 ∨ a = 5 ∨ a = 6 ∨ a = 10) (h : q_F S K n L B) : q_F (q_up S i s v) (k_u K a j v) n L B := by
  obtain ⟨h1, h2, h3, pg, us, lab, h4, h5⟩ := h
  have hk : i.1 = 5 ∨ i.1 = 6 ∨ i.1 = 8 ∨ i.1 = 9 ∨ i.1 = 10 := by
    rcases hc with ⟨h, -⟩ | ⟨h, -⟩ | ⟨h, -⟩ | ⟨h, -⟩ | ⟨h, -⟩
    · exact Or.inl h
    · exact Or.inr (Or.inl h)
    · rw [h]; simp
    · rw [h]; simp
    · rw [h]; simp
  refine ⟨k_Ok_u (by omega) h1, q_T_up hc h2, ?_, pg, us, lab, ?_, q_Zn_k (k_u_k _ _ _ _ (by omega)) h5⟩
  · refine q_C_sn (q_sn_up hk) (q_C_k (fun j _ _ => k_u_ne _ _ _ _ (by omega)) h3)
  · exact q_R_sn (q_sn_up hk) (k_u_k _ _ _ _ (by omega)) (k_u_k _ _ _ _ (by omega)) (k_u_ne _ _ _ _ (by omega)) (k_u_ne _ _ _ _ (by omega)) h4
end
section
/-! the class: a process ends (rows laid by wip/whole/m52.py) -/
theorem k_en0_eq2 (K : k_t) (p : Nat) (code : Int32) : k_pz (k_u (k_u (k_rz K p 0 8) 2 p (nI 3)) 4 p code) p 8 = k_en0 K p code := by
  have e : k_u (k_u (k_rz K p 0 8) 2 p (nI 3)) 4 p code = k_rz (k_u (k_u K 2 p (nI 3)) 4 p code) p 0 8 := by
    funext a j
    by_cases h4 : a = 4
    · subst h4; simp [k_u, k_rz]
    · by_cases h2 : a = 2
      · subst h2; simp [k_u, k_rz]
      · simp [k_u, k_rz, h4, h2]
  rw [e, k_en0_eq]
theorem q_tcP {p : Nat} (hp : p < 8) : q_tc (5, p) 0 2 p ∧ q_tc (5, p) 1 3 p ∧ q_tc (5, p) 2 4 p ∧ q_tc (5, p) 3 6 p ∧ q_tc (5, p) 4 7 p := by
  refine ⟨?_, ?_, ?_, ?_, ?_⟩ <;> exact Or.inl ⟨rfl, hp, rfl, by simp⟩
theorem q_tcR {p r : Nat} (hp : p < 8) (hr : r < 8) : q_tc (6, p) r 5 (8 * p + r) := Or.inr (Or.inl ⟨rfl, hp, hr, rfl, rfl⟩)
theorem k_en_k {K : k_t} {p : Nat} {code : Int32} {a : Nat} (h : a ≠ 2) : k_en K p code a = k_en0 K p code a := by
  unfold k_en
  split
  · exact k_u_k _ _ _ _ h
  · rfl
theorem k_en_2 {K : k_t} {p : Nat} {code : Int32} {q : Nat} (h : k_en K p code 2 q = 0 ∨ k_en K p code 2 q = nI 3) : q = p ∨ K 2 q = 0 ∨ K 2 q = nI 3 := by
  by_cases hq : q = p
  · exact Or.inl hq
  · right
    unfold k_en at h
    split at h
    next hc =>
      generalize (k_en0 K p code 3 p).toInt.toNat = u at *
      by_cases hu : q = u
      · subst hu
        rw [k_u_at] at h
        rcases h with h | h <;> exact absurd h (by decide)
      · rw [k_u_ne _ _ _ _ (fun z => hu z.2)] at h
        simpa [k_en0, hq] using h
    · simpa [k_en0, hq] using h
/-- what end leaves behind -/
theorem q_F_en {S0 S1 S4 : q_st} {K : k_t} {n L B p : Nat} {code : Int32} (hp : p < 8) (hF : q_F S0 K n L B) {pg : Nat → Option Nat} {us lab : Nat → Nat} (hR : q_R S0 K n pg us lab L) (hZ : q_Zn K pg) (hrf : q_rf S0 K n p 0 0 pg L 8 S1) (hT : q_T S4 (k_en K p code)) (hsn : q_sn S1 S4) : q_F S4 (k_en K p code) n L B ∧ q_fr S0 S4 := by
  obtain ⟨h1, h2, h3, -⟩ := hF
  obtain ⟨pg', us', lab', hR', hsm, hpg⟩ := hrf
  refine ⟨⟨k_Ok_en hp h1, hT, ?_, pg', us', lab', ?_, ?_⟩, q_fr_tr (q_fr_sm hsm) (q_fr_sn hsn)⟩
  · refine q_C_sn hsn (q_C_sm hsm (q_C_k (fun j _ _ => ?_) h3))
    rw [k_en_k (by decide)]
    simp [k_en0]
  · refine q_R_sn hsn ?_ ?_ ?_ ?_ hR'
    · rw [k_en_k (by decide)]
      funext j
      unfold k_en0 k_rz
      repeat' split
      all_goals first | rfl | (exfalso; omega)
    · rw [k_en_k (by decide)]
      funext j
      unfold k_en0 k_rz
      repeat' split
      all_goals first | rfl | (exfalso; omega)
    · rw [k_en_k (by decide)]
      simp [k_en0, k_rz]
    · rw [k_en_k (by decide)]
      simp [k_en0, k_rz]
  · intro q hq hs i hi
    rw [hpg]
    by_cases hqp : q = p
    · rw [if_pos ⟨by omega, by omega, by omega⟩]
    · split
      · rfl
      · exact hZ q hq ((k_en_2 hs).resolve_left hqp) i hi

theorem k_pz_n (K : k_t) (p k : Nat) (h : ¬ K 3 k = nI p) : k_pz K p k = k_pz K p (k + 1) := by
  rw [← k_pz_s K p k (K 3 k) (by rw [if_neg h]), k_u_id _ _ _ _ (k_pz_at _ _ _)]

set_option maxRecDepth 100000 in
set_option maxHeartbeats 4000000 in
theorem lp_kend_64 {G : q_g} {n : Nat} {ad : q_ix → Nat} {X : q_cx} (F : q_fx G X iX3_end) {S0 S1 : q_st} {K : k_t} {p L B : Nat} {code : Int32} (hp : p < 8) (hF : q_F S0 K n L B) {pg : Nat → Option Nat} {us lab : Nat → Nat} (hR : q_R S0 K n pg us lab L) (hZ : q_Zn K pg) (hrf : q_rf S0 K n p 0 0 pg L 8 S1) (E : q_en G X iX3_end (q_pi (q_w G n ad) (fun r S' => r = nI 5 ∧ q_F S' (k_en K p code) n L B ∧ q_fr S0 S'))) {S : q_st} {z : Option q_v} (hT : q_T S (k_en0 K p code)) (hsn : q_sn S1 S) : q_W G X iX3_end (q_w G n ad) (0, 0) 64 [some (.inr (some (0, 0))), some (.inl (nI p)), some (.inl code), some (.inr (some (5, p))), z] [] S := by
  obtain ⟨t0, t1, t2, t3, t4⟩ := hT.2.1 p hp
  have hp3 := k_en0_3 (code := code) hp (k_Ok_par hF.1)
  refine q_aload_n F dX3_end_64 rfl ?_
  refine q_geti F (k := 1) fkX3_81 (q_m5 (by omega)) rfl rfl dX3_end_65 ?_
  refine q_top (k_en0 K p code 3 p) t1 ?_
  refine q_iconst F (-1) dX3_end_68 (by decide) ?_
  refine q_icmp_eq F 101 dX3_end_69 (by decide) (fun h69 => ?_) (fun h69 => ?_)
  · have hen : k_en K p code = k_en0 K p code := by unfold k_en; rw [if_neg (fun q => q.1 h69)]
    refine q_iconst F (nI 5) dX3_end_101 (by decide) ?_
    refine q_iret F E rfl ⟨rfl, by first | exact q_F_en hp hF hR hZ hrf (Eq.mpr (congrArg (q_T _) hen) hT) hsn | exact q_F_en hp hF hR hZ hrf (Eq.mpr (congrArg (q_T _) hen) (q_T_up (q_tcP hu8).1 hT)) (q_sn_tr hsn (q_sn_up (Or.inl rfl)))⟩ dX3_end_102
  · obtain ⟨u, hu8, hu⟩ := hp3.resolve_left h69
    have hun : (k_en0 K p code 3 p).toInt.toNat = u := by rw [hu, nI_toInt (by omega)]; rfl
    refine q_aload_n F dX3_end_72 rfl ?_
    refine q_getr F (k := 1) fkX3_20 q_m0 rfl rfl dX3_end_73 ?_
    refine q_aload_n F dX3_end_76 rfl ?_
    refine q_geti F (k := 1) fkX3_81 (q_m5 (by omega)) rfl rfl dX3_end_77 ?_
    refine q_top (nI u) (t1.trans hu) ?_
    refine q_aald F (_) q_m4 rfl rfl (by omega) (by decide) rfl dX3_end_80 ?_
    refine q_geti F (k := 0) fkX3_90 (q_m5 (by omega)) rfl rfl dX3_end_81 ?_
    refine q_top (k_en0 K p code 2 u) (hT.2.1 u hu8).1 ?_
    refine q_iconst F (nI 2) dX3_end_84 (by decide) ?_
    refine q_icmp_ne F 101 dX3_end_85 (by decide) (fun h85 => ?_) (fun h85 => ?_)
    · have hen : k_en K p code = k_en0 K p code := by unfold k_en; rw [hun, if_neg (fun q => h85 q.2)]
      refine q_iconst F (nI 5) dX3_end_101 (by decide) ?_
      refine q_iret F E rfl ⟨rfl, by first | exact q_F_en hp hF hR hZ hrf (Eq.mpr (congrArg (q_T _) hen) hT) hsn | exact q_F_en hp hF hR hZ hrf (Eq.mpr (congrArg (q_T _) hen) (q_T_up (q_tcP hu8).1 hT)) (q_sn_tr hsn (q_sn_up (Or.inl rfl)))⟩ dX3_end_102
    · have hen : k_en K p code = k_u (k_en0 K p code) 2 u (nI 1) := by unfold k_en; rw [hun, if_pos ⟨h69, h85⟩]
      refine q_aload_n F dX3_end_88 rfl ?_
      refine q_getr F (k := 1) fkX3_20 q_m0 rfl rfl dX3_end_89 ?_
      refine q_aload_n F dX3_end_92 rfl ?_
      refine q_geti F (k := 1) fkX3_81 (q_m5 (by omega)) rfl rfl dX3_end_93 ?_
      refine q_top (nI u) (t1.trans hu) ?_
      refine q_aald F (_) q_m4 rfl rfl (by omega) (by decide) rfl dX3_end_96 ?_
      refine q_iconst F (nI 1) dX3_end_97 (by decide) ?_
      refine q_puti F (k := 0) fkX3_90 fp2_0 (q_m5 (by omega)) rfl rfl dX3_end_98 ?_
      refine q_iconst F (nI 5) dX3_end_101 (by decide) ?_
      refine q_iret F E rfl ⟨rfl, by first | exact q_F_en hp hF hR hZ hrf (Eq.mpr (congrArg (q_T _) hen) hT) hsn | exact q_F_en hp hF hR hZ hrf (Eq.mpr (congrArg (q_T _) hen) (q_T_up (q_tcP hu8).1 hT)) (q_sn_tr hsn (q_sn_up (Or.inl rfl)))⟩ dX3_end_102

set_option maxRecDepth 100000 in
set_option maxHeartbeats 4000000 in
theorem lp_kend {G : q_g} {n : Nat} {ad : q_ix → Nat} {X : q_cx} (F : q_fx G X iX3_end) {S0 S1 : q_st} {K : k_t} {p L B : Nat} {code : Int32} (hp : p < 8) (hF : q_F S0 K n L B) {pg : Nat → Option Nat} {us lab : Nat → Nat} (hR : q_R S0 K n pg us lab L) (hZ : q_Zn K pg) (hrf : q_rf S0 K n p 0 0 pg L 8 S1) (E : q_en G X iX3_end (q_pi (q_w G n ad) (fun r S' => r = nI 5 ∧ q_F S' (k_en K p code) n L B ∧ q_fr S0 S'))) : ∀ k, k ≤ 8 → ∀ S, q_T S (k_pz (k_u (k_u (k_rz K p 0 8) 2 p (nI 3)) 4 p code) p k) → q_sn S1 S → q_W G X iX3_end (q_w G n ad) (0, 0) 26 [some (.inr (some (0, 0))), some (.inl (nI p)), some (.inl code), some (.inr (some (5, p))), some (.inl (nI k))] [] S := by
  refine q_loop (fun k hk ih => ?_)
  intro S hT hsn
  refine q_iload F dX3_end_26 rfl ?_
  refine q_bipush F (nI 8) dX3_end_28 (by decide) ?_
  refine q_icmpN_ge F 64 dX3_end_30 (by decide) (by omega) (by omega) (fun h30 => ?_) (fun h30 => ?_)
  · obtain rfl : k = 8 := by omega
    rw [k_en0_eq2] at hT
    exact lp_kend_64 F hp hF hR hZ hrf E hT hsn
  · refine q_aload_n F dX3_end_33 rfl ?_
    refine q_getr F (k := 1) fkX3_20 q_m0 rfl rfl dX3_end_34 ?_
    refine q_iload F dX3_end_37 rfl ?_
    refine q_aald F (_) q_m4 rfl rfl (by omega) (by decide) rfl dX3_end_39 ?_
    refine q_geti F (k := 1) fkX3_81 (q_m5 (by omega)) rfl rfl dX3_end_40 ?_
    refine q_top ((k_u (k_u (k_rz K p 0 8) 2 p (nI 3)) 4 p code) 3 k) ((hT.2.1 k h30).2.1.trans (k_pz_at _ _ _)) ?_
    refine q_iload_n F dX3_end_43 rfl ?_
    refine q_icmp_ne F 58 dX3_end_44 (by decide) (fun h44 => ?_) (fun h44 => ?_)
    · refine q_iinc_4 F _ dX3_end_58 (q_inc1 _) (by decide) ?_
      refine q_goto F 26 dX3_end_61 (by decide) (ih h30 _ ?_ ?_)
      · first | exact (k_pz_s _ _ _ (-1) (by rw [if_pos h44])) ▸ q_T_up (q_tcP h30).2.1 hT | exact (k_pz_n _ _ _ h44) ▸ hT
      · first | exact hsn | exact q_sn_tr hsn (q_sn_up (by simp))
    · refine q_aload_n F dX3_end_47 rfl ?_
      refine q_getr F (k := 1) fkX3_20 q_m0 rfl rfl dX3_end_48 ?_
      refine q_iload F dX3_end_51 rfl ?_
      refine q_aald F (_) q_m4 rfl rfl (by omega) (by decide) rfl dX3_end_53 ?_
      refine q_iconst F (-1) dX3_end_54 (by decide) ?_
      refine q_puti F (k := 1) fkX3_81 fp2_1 (q_m5 (by omega)) rfl rfl dX3_end_55 ?_
      refine q_iinc_4 F _ dX3_end_58 (q_inc1 _) (by decide) ?_
      refine q_goto F 26 dX3_end_61 (by decide) (ih h30 _ ?_ ?_)
      · first | exact (k_pz_s _ _ _ (-1) (by rw [if_pos h44])) ▸ q_T_up (q_tcP h30).2.1 hT | exact (k_pz_n _ _ _ h44) ▸ hT
      · first | exact hsn | exact q_sn_tr hsn (q_sn_up (by simp))

set_option maxRecDepth 100000 in
set_option maxHeartbeats 4000000 in
theorem t_end {G : q_g} {n : Nat} {ad : q_ix → Nat} (l : Launch) (S0 : q_st) {K : k_t} {p L B : Nat} {code : Int32} (hp : p < 8) (hF : q_F S0 K n L B) : q_Ct l G iX3_end [.inr (some (0, 0)), .inl (nI p), .inl code] (q_w G n ad) (S0) (q_pi (q_w G n ad) (fun r S' => r = nI 5 ∧ q_F S' (k_en K p code) n L B ∧ q_fr S0 S')) := by
  refine q_enter (by decide) (Nat.le_of_ble_eq_true rfl) (fun X F E => ?_)
  show q_W G X iX3_end (q_w G n ad) (0, 0) 0 [some (.inr (some (0, 0))), some (.inl (nI p)), some (.inl code), none, none] [] (S0)
  obtain ⟨hok, hT0, hC, pg, us, lab, hR, hZ⟩ := id hF
  refine q_aload_n F dX3_end_0 rfl ?_
  refine q_getr F (k := 1) fkX3_20 q_m0 rfl rfl dX3_end_1 ?_
  refine q_iload_n F dX3_end_4 rfl ?_
  refine q_aald F (_) q_m4 rfl rfl (by omega) (by decide) rfl dX3_end_5 ?_
  refine q_astore_n_3 F dX3_end_6 (by decide) ?_
  refine q_aload_n F dX3_end_7 rfl ?_
  refine q_aload_n F dX3_end_8 rfl ?_
  refine q_iconst F (nI 0) dX3_end_9 (by decide) ?_
  refine q_callVv F [.inr (some (5, p)), .inl (nI 0)] (fun l => t_releaseFrom l S0 (K := K) (b := 0) hp (Nat.zero_le _) (fun i hi => by omega) hR) clX3_171 rfl q_m0 rfl rfl rfl ⟨Nat.le_of_ble_eq_true rfl, Nat.le_of_ble_eq_true rfl⟩ (Nat.le_of_ble_eq_true rfl) ⟨rfl, rfl⟩ ⟨Nat.zero_le _, Nat.zero_le _⟩ dX3_end_10 (fun S1 hrf => ?_)
  refine q_aload_n F dX3_end_13 rfl ?_
  refine q_iconst F (nI 3) dX3_end_14 (by decide) ?_
  refine q_puti F (k := 0) fkX3_90 fp2_0 (q_m5 (by omega)) rfl rfl dX3_end_15 ?_
  refine q_aload_n F dX3_end_18 rfl ?_
  refine q_iload_n F dX3_end_19 rfl ?_
  refine q_puti F (k := 2) fkX3_93 fp2_2 (q_m5 (by omega)) rfl rfl dX3_end_20 ?_
  refine q_iconst F (nI 0) dX3_end_23 (by decide) ?_
  refine q_istore_4 F dX3_end_24 (by decide) ?_
  refine lp_kend F hp hF hR hZ hrf E 0 (by decide) _ ?_ (q_sn_tr (q_sn_up (by simp)) (q_sn_up (by simp)))
  rw [k_pz_0]
  obtain ⟨pg1, us1, lab1, hR1, hsm, -⟩ := hrf
  refine q_T_up (q_tcP hp).2.2.1 (q_T_up (q_tcP hp).1 (q_T_sm hsm (q_T_k (fun a h0 h8 h9 => ?_) (fun j _ _ => ?_) hT0)))
  · funext j; simp [k_rz, h8, h9]
  · simp [k_rz]
end
section
/-! the class: a word read, a word written (rows laid by wip/whole/m53.py) -/
/-- a word is reached: for the class and for the reference alike -/
def q_rho (wr : Bool) (S : q_st) (K : k_t) (n L p : Nat) (x r : Int32) (S' : q_st) : Prop :=
  (r = nI 0 ∧ (k_re K p x wr).1 = true ∧ ∃ (b f : Nat) (pg' : Nat → Option Nat) (us' lab' : Nat → Nat) (L' : Nat), b < 64 ∧ x = nI b ∧ q_R S' (k_re K p x wr).2 n pg' us' lab' L' ∧ q_Zn (k_re K p x wr).2 pg' ∧ L' ≤ L + 1 ∧ q_sm S S' ∧ pg' (8 * p + b / 8) = some f ∧ (wr = true → us' f = 1)) ∨ (¬ r = 0 ∧ (k_re K p x wr).1 = false ∧ (∃ v, ¬ v = 0 ∧ (k_re K p x wr).2 = k_u K 0 14 v ∧ r = v) ∧ S' = S)
theorem q_rho_pg {wr : Bool} {S S' : q_st} {K : k_t} {n L p b : Nat} {r : Int32} {pg : Nat → Option Nat} (hp : p < 8) (hb : b < 64) (hlt : (b : Int) < (K 7 p).toInt) (hlive : ¬ (K 2 p = 0 ∨ K 2 p = nI 3)) (hZ : q_Zn K pg) (h : q_pgo wr S K n pg L (8 * p + b / 8) r S') : q_rho wr S K n L p (nI b) r S' := by
  have e : k_re K p (nI b) wr = k_pg K (8 * p + b / 8) wr := k_re_in hb hlt
  unfold q_rho
  rw [e]
  rcases h with ⟨h1, h2, pg', us', lab', L', h3, h4, h5, h6, h7, f, h8, h9⟩ | ⟨h1, h2, h3, h4⟩
  · refine Or.inl ⟨h1, h2, b, f, pg', us', lab', L', hb, rfl, h3, ?_, h5, h6, h8, h9⟩
    intro q hq hs i hi
    rw [k_pg_k (by decide) (by decide)] at hs
    rw [h7 _ (by intro z; have hqp : q = p := (by omega); subst hqp; exact hlive hs)]
    exact hZ q hq hs i hi
  · exact Or.inr ⟨by rw [h1]; decide, h2, ⟨-13, by decide, h3, h1⟩, h4⟩
theorem q_rho_out {wr : Bool} {S : q_st} {K : k_t} {n L p : Nat} {x : Int32} (h : ¬ (0 ≤ x.toInt ∧ x.toInt < (K 7 p).toInt)) : q_rho wr S K n L p x (-11) S := by
  have e : k_re K p x wr = (false, k_u K 0 14 (-11)) := k_re_out (by omega)
  refine Or.inr ⟨by decide, by rw [e], ⟨-11, by decide, by rw [e], rfl⟩, rfl⟩
theorem k_re_14 {K : k_t} {p : Nat} {x : Int32} {wr : Bool} (h : (k_re K p x wr).1 = true) : (k_re K p x wr).2 0 14 = K 0 14 := by
  unfold k_re at *
  split at h
  · cases h
  next hc =>
    rw [if_neg hc]
    unfold k_pg at *
    split at h
    next h1 => rw [if_pos h1]
    next h1 =>
      rw [if_neg h1]
      unfold k_al at *
      split at h
      · cases h
      next h2 =>
        rw [if_neg h2]
        simp [k_u]
/-- behind a reached word the whole relation holds -/
theorem q_rho_F {wr : Bool} {S S' : q_st} {K : k_t} {n L B p : Nat} {x : Int32} {pg' : Nat → Option Nat} {us' lab' : Nat → Nat} {L' : Nat} (hF : q_F S K n L B) (hR : q_R S' (k_re K p x wr).2 n pg' us' lab' L') (hZ : q_Zn (k_re K p x wr).2 pg') (hs : q_sm S S') : q_F S' (k_re K p x wr).2 n L' B :=
  ⟨k_Ok_re hF.1, q_T_sm hs (q_T_k (fun a h0 _ h9 => k_re_k h0 h9) (fun j h1 h2 => k_re_0 h1 h2) hF.2.1), q_C_sm hs (q_C_k (fun j h1 h2 => k_re_0 h1 h2) hF.2.2.1), pg', us', lab', hR, hZ⟩

theorem q_ld_ok {S0 S1 S' : q_st} {K : k_t} {n L B p a b f L' : Nat} {x : Int32} {pg' : Nat → Option Nat} {us' lab' : Nat → Nat} (hp : p < 8) (ha : a < 8) (hF : q_F S0 K n L B) (h14 : K 0 14 = 0) (hre : (k_re K p x false).1 = true) (hb : b < 64) (hx : x = nI b) (hR : q_R S1 (k_re K p x false).2 n pg' us' lab' L') (hZ : q_Zn (k_re K p x false).2 pg') (hL' : L' ≤ L + 1) (hs : q_sm S0 S1) (hf : pg' (8 * p + b / 8) = some f) (hS : S' = q_up S1 (6, p) a (S1 (2, 0) (8 * f + b % 8))) : ∃ L', L' ≤ L + 1 ∧ nI 1 = (k_s2 K p (nI 1, k_ld K p a x)).1 ∧ q_F S' (k_s2 K p (nI 1, k_ld K p a x)).2 n L' B ∧ q_fr S0 S' := by
  have hw : S1 (2, 0) (8 * f + b % 8) = (k_re K p x false).2 8 (64 * p + x.toInt.toNat) := by
    rw [← hR.2.1.2.2.2.2.2.1 (8 * p + b / 8) f (b % 8) hf (by omega), hx, nI_toInt (by omega), Int.toNat_natCast, show 8 * (8 * p + b / 8) + b % 8 = 64 * p + b by omega]
  have hld : k_ld K p a x = k_u (k_re K p x false).2 5 (8 * p + a) ((k_re K p x false).2 8 (64 * p + x.toInt.toNat)) := by
    unfold k_ld
    rw [if_pos hre]
  have e : k_s2 K p (nI 1, k_ld K p a x) = (nI 1, k_ld K p a x) := by
    unfold k_s2
    rw [if_pos]
    show k_ld K p a x 0 14 = 0
    rw [hld, k_u_ne _ _ _ _ (by simp), k_re_14 hre, h14]
  rw [e]
  refine ⟨L', hL', rfl, ?_, ?_⟩
  · show q_F S' (k_ld K p a x) n L' B
    rw [hld, hS, hw]
    exact q_F_up (q_tcR hp ha) (by simp) (q_rho_F hF hR hZ hs)
  · rw [hS]
    exact q_fr_tr (q_fr_sm hs) (q_fr_up (by simp))
theorem q_so_ok {S0 S1 S' : q_st} {K : k_t} {n L B p a b f L' : Nat} {x : Int32} {pg' : Nat → Option Nat} {us' lab' : Nat → Nat} (hp : p < 8) (ha : a < 8) (hF : q_F S0 K n L B) (h14 : K 0 14 = 0) (hre : (k_re K p x true).1 = true) (hb : b < 64) (hx : x = nI b) (hR : q_R S1 (k_re K p x true).2 n pg' us' lab' L') (hZ : q_Zn (k_re K p x true).2 pg') (hL' : L' ≤ L + 1) (hs : q_sm S0 S1) (hf : pg' (8 * p + b / 8) = some f) (hu : us' f = 1) (hS : S' = q_up S1 (2, 0) (8 * f + b % 8) (S1 (6, p) a)) : ∃ L', L' ≤ L + 1 ∧ nI 1 = (k_s2 K p (nI 1, k_so K p a x)).1 ∧ q_F S' (k_s2 K p (nI 1, k_so K p a x)).2 n L' B ∧ q_fr S0 S' := by
  have hw : S1 (6, p) a = K 5 (8 * p + a) := by
    rw [hs (6, p) (by simp) (by simp) (by simp) (by simp)]
    exact hF.2.1.2.2.1 p a hp ha
  have hso : k_so K p a x = k_u (k_re K p x true).2 8 (64 * p + b) (K 5 (8 * p + a)) := by
    unfold k_so
    rw [if_pos hre, hx, nI_toInt (by omega), Int.toNat_natCast]
  have e : k_s2 K p (nI 1, k_so K p a x) = (nI 1, k_so K p a x) := by
    unfold k_s2
    rw [if_pos]
    show k_so K p a x 0 14 = 0
    rw [hso, k_u_ne _ _ _ _ (by simp), k_re_14 hre, h14]
  rw [e]
  have hF1 := q_rho_F hF hR hZ hs
  refine ⟨L', hL', rfl, ?_, ?_⟩
  · show q_F S' (k_so K p a x) n L' B
    rw [hso, hS, hw]
    refine ⟨k_Ok_u (by decide) hF1.1, ?_, ?_, pg', us', lab', ?_, q_Zn_k (k_u_k _ _ _ _ (by decide)) hZ⟩
    · refine q_T_sm (S := S1) (fun j a b c d => q_up_other _ _ _ _ _ (by rintro rfl; exact b rfl)) (q_T_k (fun a _ h8 _ => k_u_k _ _ _ _ h8) (fun j _ _ => k_u_ne _ _ _ _ (by simp)) hF1.2.1)
    · refine q_C_sm (S := S1) (fun j a b c d => q_up_other _ _ _ _ _ (by rintro rfl; exact b rfl)) (q_C_k (fun j _ _ => k_u_ne _ _ _ _ (by simp)) hF1.2.2.1)
    · refine q_R_put (v := K 5 (8 * p + a)) hR hf hu (k := b % 8) (by omega) (fun x => ?_) (fun i j hi => ?_) (fun x => ?_) (fun a ha => ?_)
      · simp only [q_up, true_and]
      · rw [q_irr _ _ _ _ _ _ (fun q => hi q.1)]
      · simp only [k_u, true_and]
        rw [show 64 * p + b = 8 * (8 * p + b / 8) + b % 8 by omega]
      · exact k_u_k _ _ _ _ ha
  · rw [hS]
    exact q_fr_tr (q_fr_sm hs) (q_fr_up (by simp))
/-- a word that isn't reached ends the process -/
theorem q_no {S0 S' : q_st} {K : k_t} {n L B p : Nat} {r v : Int32} {Q : Int32 × k_t} (hQ : Q.2 = k_u K 0 14 v) (hv : ¬ v = 0) (hr : r = nI 5 ∧ q_F S' (k_en (k_u K 0 14 v) p v) n L B ∧ q_fr S0 S') : ∃ L', L' ≤ L + 1 ∧ r = (k_s2 K p Q).1 ∧ q_F S' (k_s2 K p Q).2 n L' B ∧ q_fr S0 S' := by
  have h1 : k_u K 0 14 v 0 14 = v := k_u_at _ _ _ _
  have e : k_s2 K p Q = (nI 5, k_en (k_u K 0 14 v) p v) := by
    unfold k_s2
    rw [hQ, h1, if_neg hv]
  rw [e]
  exact ⟨L, Nat.le_succ L, hr⟩

set_option maxRecDepth 100000 in
set_option maxHeartbeats 4000000 in
theorem t_readInto {G : q_g} {n : Nat} {ad : q_ix → Nat} (l : Launch) (S0 : q_st) {K : k_t} {p a L B : Nat} {x : Int32} (hp : p < 8) (ha : a < 8) (hF : q_F S0 K n L B) (hL : L + 1 < 2 ^ 30) (hlive : ¬ (K 2 p = 0 ∨ K 2 p = nI 3)) (h14 : K 0 14 = 0) : q_Ct l G iX3_readInto [.inr (some (0, 0)), .inl (nI p), .inl (nI a), .inl x] (q_w G n ad) (S0) (q_pi (q_w G n ad) (fun r S' => ∃ L', L' ≤ L + 1 ∧ r = (k_s2 K p (nI 1, k_ld K p a x)).1 ∧ q_F S' (k_s2 K p (nI 1, k_ld K p a x)).2 n L' B ∧ q_fr S0 S')) := by
  refine q_enter (by decide) (Nat.le_of_ble_eq_true rfl) (fun X F E => ?_)
  show q_W G X iX3_readInto (q_w G n ad) (0, 0) 0 [some (.inr (some (0, 0))), some (.inl (nI p)), some (.inl (nI a)), some (.inl x), none, none] [] (S0)
  obtain ⟨hok, hT0, hC, pg, us, lab, hR, hZ⟩ := id hF
  obtain ⟨b0, hb064, hb0⟩ := (hok.1 p hp).2.2.1
  have hlim : (S0 (5, p) 4).toInt = (K 7 p).toInt := by rw [(hT0.2.1 p hp).2.2.2.2]
  have hb7 : (K 7 p).toInt ≤ 64 := by rw [hb0, nI_toInt (by omega)]; omega
  refine q_aload_n F dX3_readInto_0 rfl ?_
  refine q_getr F (k := 1) fkX3_20 q_m0 rfl rfl dX3_readInto_1 ?_
  refine q_iload_n F dX3_readInto_4 rfl ?_
  refine q_aald F (_) q_m4 rfl rfl (by omega) (by decide) rfl dX3_readInto_5 ?_
  refine q_astore_4 F dX3_readInto_6 (by decide) ?_
  refine q_aload_n F dX3_readInto_8 rfl ?_
  refine q_aload F dX3_readInto_9 rfl ?_
  refine q_iload_n F dX3_readInto_11 rfl ?_
  refine q_callVi F [.inr (some (5, p)), .inl x] (fun l => t_touch l S0 hp (by omega) hR hL) clX3_134 rfl q_m0 rfl rfl rfl ⟨Nat.le_of_ble_eq_true rfl, Nat.le_of_ble_eq_true rfl⟩ (Nat.le_of_ble_eq_true rfl) ⟨rfl, rfl⟩ ⟨Nat.zero_le _, Nat.zero_le _⟩ dX3_readInto_12 (fun r1 S1 h1 => ?_)
  have hrho : q_rho false S0 K n L p x r1 S1 := by
    rcases h1 with ⟨rfl, h1, rfl⟩ | ⟨b, hb, rfl, h1, h2⟩
    · exact q_rho_out (by rw [← hlim]; exact h1)
    · exact q_rho_pg hp hb (by have := h1.2; rw [nI_toInt (by omega)] at this; omega) hlive hZ h2
  rcases hrho with ⟨rfl, hre, b, f, pg1, us1, lab1, L1, hb, rfl, hR1, hZ1, hL1, hs, hf, hu⟩ | ⟨hr0, hre, ⟨v, hv0, hrv, rfl⟩, hSS⟩
  · refine q_istore_5 F dX3_readInto_15 (by decide) ?_
    refine q_iload F dX3_readInto_17 rfl ?_
    refine q_ifN_eq F 30 dX3_readInto_19 (by decide) (by omega) (fun h19 => ?_) (fun h19 => ?_)
    · refine q_aload F dX3_readInto_30 rfl ?_
      refine q_getr F (k := 5) fkX3_103 (q_m5 (by omega)) rfl rfl dX3_readInto_32 ?_
      refine q_iload_n F dX3_readInto_35 rfl ?_
      refine q_aload_n F dX3_readInto_36 rfl ?_
      refine q_aload F dX3_readInto_37 rfl ?_
      refine q_iload_n F dX3_readInto_39 rfl ?_
      refine q_callVi F [.inr (some (5, p)), .inl (nI b)] (fun l => t_wordAt l S1 hp hb (hR1.2.1.1 _ _ hf).1 hR1.1.2 (by rw [hR1.2.2.1 p (b / 8) hp (by omega), hf]; rfl)) clX3_109 rfl q_m0 rfl rfl rfl ⟨Nat.le_of_ble_eq_true rfl, Nat.le_of_ble_eq_true rfl⟩ (Nat.le_of_ble_eq_true rfl) ⟨rfl, rfl⟩ ⟨Nat.zero_le _, Nat.zero_le _⟩ dX3_readInto_40 (fun v2 S2 hv2 => ?_)
      obtain ⟨rfl, rfl⟩ := hv2
      refine q_iast F (_) (q_m6 (by omega)) rfl rfl (by omega) (by omega) dX3_readInto_43 ?_
      refine q_iconst F (nI 1) dX3_readInto_44 (by decide) ?_
      refine q_iret F E rfl (q_ld_ok hp ha hF h14 hre hb rfl hR1 hZ1 hL1 hs hf rfl) dX3_readInto_45
    · exact absurd h19 (by decide)
  · subst hSS
    refine q_istore_5 F dX3_readInto_15 (by decide) ?_
    refine q_iload F dX3_readInto_17 rfl ?_
    refine q_if_eq F 30 dX3_readInto_19 (by decide) (fun h19 => ?_) (fun h19 => ?_)
    · exact absurd h19 hr0
    · refine q_aload_n F dX3_readInto_22 rfl ?_
      refine q_iload_n F dX3_readInto_23 rfl ?_
      refine q_iload F dX3_readInto_24 rfl ?_
      refine q_callVi F [.inl (nI p), .inl r1] (fun l => t_end l _ hp (q_F_14 (v := r1) hF)) clX3_74 rfl q_m0 rfl rfl rfl ⟨Nat.le_of_ble_eq_true rfl, Nat.le_of_ble_eq_true rfl⟩ (Nat.le_of_ble_eq_true rfl) ⟨rfl, rfl⟩ ⟨Nat.zero_le _, Nat.zero_le _⟩ dX3_readInto_26 (fun v2 S2 hv2 => ?_)
      obtain ⟨rfl, hv2⟩ := hv2
      refine q_iret F E rfl (q_no (Q := (nI 1, k_ld K p a x)) (by show k_ld K p a x = _; unfold k_ld; rw [if_neg (by rw [hre]; decide)]; exact hrv) hv0 ⟨rfl, hv2⟩) dX3_readInto_29

set_option maxRecDepth 100000 in
set_option maxHeartbeats 4000000 in
theorem t_writeFrom {G : q_g} {n : Nat} {ad : q_ix → Nat} (l : Launch) (S0 : q_st) {K : k_t} {p a L B : Nat} {x : Int32} (hp : p < 8) (ha : a < 8) (hF : q_F S0 K n L B) (hL : L + 1 < 2 ^ 30) (hlive : ¬ (K 2 p = 0 ∨ K 2 p = nI 3)) (h14 : K 0 14 = 0) : q_Ct l G iX3_writeFrom [.inr (some (0, 0)), .inl (nI p), .inl (nI a), .inl x] (q_w G n ad) (S0) (q_pi (q_w G n ad) (fun r S' => ∃ L', L' ≤ L + 1 ∧ r = (k_s2 K p (nI 1, k_so K p a x)).1 ∧ q_F S' (k_s2 K p (nI 1, k_so K p a x)).2 n L' B ∧ q_fr S0 S')) := by
  refine q_enter (by decide) (Nat.le_of_ble_eq_true rfl) (fun X F E => ?_)
  show q_W G X iX3_writeFrom (q_w G n ad) (0, 0) 0 [some (.inr (some (0, 0))), some (.inl (nI p)), some (.inl (nI a)), some (.inl x), none, none] [] (S0)
  have h14K := h14
  obtain ⟨hok, hT0, hC, pg, us, lab, hR, hZ⟩ := id hF
  obtain ⟨b0, hb064, hb0⟩ := (hok.1 p hp).2.2.1
  have hlim : (S0 (5, p) 4).toInt = (K 7 p).toInt := by rw [(hT0.2.1 p hp).2.2.2.2]
  have hb7 : (K 7 p).toInt ≤ 64 := by rw [hb0, nI_toInt (by omega)]; omega
  refine q_aload_n F dX3_writeFrom_0 rfl ?_
  refine q_getr F (k := 1) fkX3_20 q_m0 rfl rfl dX3_writeFrom_1 ?_
  refine q_iload_n F dX3_writeFrom_4 rfl ?_
  refine q_aald F (_) q_m4 rfl rfl (by omega) (by decide) rfl dX3_writeFrom_5 ?_
  refine q_astore_4 F dX3_writeFrom_6 (by decide) ?_
  refine q_aload F dX3_writeFrom_8 rfl ?_
  refine q_iload_n F dX3_writeFrom_10 rfl ?_
  refine q_callVi F [.inl x] (fun l => t_holds l S0 hp) clX3_106 rfl (q_m5 (by omega)) rfl rfl rfl ⟨Nat.le_of_ble_eq_true rfl, Nat.le_of_ble_eq_true rfl⟩ (Nat.le_of_ble_eq_true rfl) ⟨rfl, rfl⟩ ⟨Nat.zero_le _, Nat.zero_le _⟩ dX3_writeFrom_11 (fun v1 S1 hv1 => ?_)
  obtain ⟨hv1, hS1⟩ := hv1
  have hS1 := hS1.symm
  subst hS1
  refine q_if_eq F 30 dX3_writeFrom_14 (by decide) (fun h14 => ?_) (fun h14 => ?_)
  · have hout := q_bl_F hv1 h14
    refine q_bipush F (-11) dX3_writeFrom_30 (by decide) ?_
    have hrho : q_rho true S0 K n L p x (-11) S0 := q_rho_out (by rw [← hlim]; exact hout)
    rcases hrho with ⟨h, -⟩ | ⟨hr0, hre, ⟨v, hv0, hrv, rfl⟩, -⟩
    · exact absurd h (by decide)
    · refine q_istore_5 F dX3_writeFrom_32 (by decide) ?_
      refine q_iload F dX3_writeFrom_34 rfl ?_
      refine q_if_eq F 47 dX3_writeFrom_36 (by decide) (fun h36 => ?_) (fun h36 => ?_)
      · exact absurd h36 (by decide)
      · refine q_aload_n F dX3_writeFrom_39 rfl ?_
        refine q_iload_n F dX3_writeFrom_40 rfl ?_
        refine q_iload F dX3_writeFrom_41 rfl ?_
        refine q_callVi F [.inl (nI p), .inl (-11)] (fun l => t_end l _ hp (q_F_14 (v := -11) hF)) clX3_74 rfl q_m0 rfl rfl rfl ⟨Nat.le_of_ble_eq_true rfl, Nat.le_of_ble_eq_true rfl⟩ (Nat.le_of_ble_eq_true rfl) ⟨rfl, rfl⟩ ⟨Nat.zero_le _, Nat.zero_le _⟩ dX3_writeFrom_43 (fun v2 S2 hv2 => ?_)
        obtain ⟨rfl, hv2⟩ := hv2
        refine q_iret F E rfl (q_no (Q := (nI 1, k_so K p a x)) (by show k_so K p a x = _; unfold k_so; rw [if_neg (by rw [hre]; decide)]; exact hrv) hv0 ⟨rfl, hv2⟩) dX3_writeFrom_46
  · have h14x := h14
    obtain ⟨h14a, h14b⟩ := q_bl_T hv1 h14x
    obtain ⟨b, hb, rfl⟩ := q_ofx (x := x) (m := 64) (by decide) h14a (by omega)
    rw [nI_toInt (by omega)] at h14a h14b
    refine q_aload_n F dX3_writeFrom_17 rfl ?_
    refine q_aload F dX3_writeFrom_18 rfl ?_
    refine q_iload_n F dX3_writeFrom_20 rfl ?_
    refine q_bipush F (nI 8) dX3_writeFrom_21 (by decide) ?_
    refine q_idivN F dX3_writeFrom_23 (by omega) (by omega) (by omega) ?_
    refine q_callVi F [.inr (some (5, p)), .inl (nI (b / 8))] (fun l => t_own l S0 hp (by omega) hR hL) clX3_59 rfl q_m0 rfl rfl rfl ⟨Nat.le_of_ble_eq_true rfl, Nat.le_of_ble_eq_true rfl⟩ (Nat.le_of_ble_eq_true rfl) ⟨rfl, rfl⟩ ⟨Nat.zero_le _, Nat.zero_le _⟩ dX3_writeFrom_24 (fun r1 S1 h1 => ?_)
    have hrho : q_rho true S0 K n L p (nI b) r1 S1 := q_rho_pg hp hb (by omega) hlive hZ h1
    rcases hrho with ⟨rfl, hre, b1, f, pg1, us1, lab1, L1, hb1, hbe, hR1, hZ1, hL1, hs, hf, hu⟩ | ⟨hr0, hre, ⟨v, hv0, hrv, rfl⟩, hSS⟩
    · refine q_goto F 32 dX3_writeFrom_27 (by decide) ?_
      refine q_istore_5 F dX3_writeFrom_32 (by decide) ?_
      refine q_iload F dX3_writeFrom_34 rfl ?_
      refine q_ifN_eq F 47 dX3_writeFrom_36 (by decide) (by omega) (fun h36 => ?_) (fun h36 => ?_)
      · refine q_aload_n F dX3_writeFrom_47 rfl ?_
        refine q_aload F dX3_writeFrom_48 rfl ?_
        refine q_iload_n F dX3_writeFrom_50 rfl ?_
        refine q_aload F dX3_writeFrom_51 rfl ?_
        refine q_getr F (k := 5) fkX3_103 (q_m5 (by omega)) rfl rfl dX3_writeFrom_53 ?_
        refine q_iload_n F dX3_writeFrom_56 rfl ?_
        refine q_iald F (_) (q_m6 (by omega)) rfl rfl (by omega) (by omega) dX3_writeFrom_57 ?_
        have hbb : b = b1 := (nI_eq (by omega) (by omega)).mp hbe
        subst hbb
        refine q_callVv F [.inr (some (5, p)), .inl (nI b), .inl (S1 (6, p) a)] (fun l => t_putWord l S1 hp hb (hR1.2.1.1 _ _ hf).1 hR1.1.2 (by rw [hR1.2.2.1 p (b / 8) hp (by omega), hf]; rfl)) clX3_63 rfl q_m0 rfl rfl rfl ⟨Nat.le_of_ble_eq_true rfl, Nat.le_of_ble_eq_true rfl⟩ (Nat.le_of_ble_eq_true rfl) ⟨rfl, rfl⟩ ⟨Nat.zero_le _, Nat.zero_le _⟩ dX3_writeFrom_58 (fun S2 hS2 => ?_)
        subst hS2
        refine q_iconst F (nI 1) dX3_writeFrom_61 (by decide) ?_
        refine q_iret F E rfl (q_so_ok hp ha hF h14K hre hb rfl hR1 hZ1 hL1 hs hf (hu rfl) rfl) dX3_writeFrom_62
      · exact absurd h36 (by decide)
    · subst hSS
      refine q_goto F 32 dX3_writeFrom_27 (by decide) ?_
      refine q_istore_5 F dX3_writeFrom_32 (by decide) ?_
      refine q_iload F dX3_writeFrom_34 rfl ?_
      refine q_if_eq F 47 dX3_writeFrom_36 (by decide) (fun h36 => ?_) (fun h36 => ?_)
      · exact absurd h36 hr0
      · refine q_aload_n F dX3_writeFrom_39 rfl ?_
        refine q_iload_n F dX3_writeFrom_40 rfl ?_
        refine q_iload F dX3_writeFrom_41 rfl ?_
        refine q_callVi F [.inl (nI p), .inl r1] (fun l => t_end l _ hp (q_F_14 (v := r1) hF)) clX3_74 rfl q_m0 rfl rfl rfl ⟨Nat.le_of_ble_eq_true rfl, Nat.le_of_ble_eq_true rfl⟩ (Nat.le_of_ble_eq_true rfl) ⟨rfl, rfl⟩ ⟨Nat.zero_le _, Nat.zero_le _⟩ dX3_writeFrom_43 (fun v2 S2 hv2 => ?_)
        obtain ⟨rfl, hv2⟩ := hv2
        refine q_iret F E rfl (q_no (Q := (nI 1, k_so K p a (nI b))) (by show k_so K p a (nI b) = _; unfold k_so; rw [if_neg (by rw [hre]; decide)]; exact hrv) hv0 ⟨rfl, hv2⟩) dX3_writeFrom_46
end
section
/-! the class: waiting, moving the break (rows laid by wip/whole/m54.py) -/
theorem k_free_u (K : k_t) (z a : Nat) (v : Int32) : k_u (k_free K z) 5 a v = k_free (k_u K 5 a v) z := by
  funext b j
  unfold k_free k_u
  by_cases h5 : b = 5
  · subst h5; simp
  · simp [h5]
/-- a zombie's number becomes free -/
theorem q_F_free {S : q_st} {K : k_t} {n L B z : Nat} (hz : z < 8) (hzz : K 2 z = nI 3) (h : q_F S K n L B) : q_F (q_up (q_up S (5, z) 0 (nI 0)) (5, z) 1 (-1)) (k_free K z) n L B ∧ q_fr S (q_up (q_up S (5, z) 0 (nI 0)) (5, z) 1 (-1)) := by
  obtain ⟨h1, h2, h3, pg, us, lab, h4, h5⟩ := h
  have hsn : q_sn S (q_up (q_up S (5, z) 0 (nI 0)) (5, z) 1 (-1)) := q_sn_tr (q_sn_up (by simp)) (q_sn_up (by simp))
  refine ⟨⟨k_Ok_free h1, q_T_up (q_tcP hz).2.1 (q_T_up (q_tcP hz).1 h2), q_C_sn hsn (q_C_k (fun j _ _ => by simp [k_free, k_u]) h3), pg, us, lab, q_R_sn hsn (by funext j; simp [k_free, k_u]) (by funext j; simp [k_free, k_u]) (by simp [k_free, k_u]) (by simp [k_free, k_u]) h4, ?_⟩, q_fr_sn hsn⟩
  intro q hq hs i hi
  by_cases hqz : q = z
  · subst hqz
    exact h5 q hq (Or.inr hzz) i hi
  · refine h5 q hq ?_ i hi
    simpa [k_free, k_u, hqz] using hs
theorem k_Ok_st {K : k_t} {B p s : Nat} (hs : s < 4) (hs0 : 0 < s) (h : k_Ok K B) : k_Ok (k_u K 2 p (nI s)) B := by
  refine ⟨fun j hj => ?_, k_Gl_same (fun j _ _ => by simp [k_u]) h.2⟩
  by_cases hjp : j = p
  · subst hjp
    obtain ⟨h1, h2, h3, h4⟩ := h.1 j hj
    refine ⟨⟨s, hs, by simp [k_u]⟩, by simpa [k_u] using h2, by simpa [k_u] using h3, fun q => ?_⟩
    simp [k_u] at q
    exact absurd q (nI_ne0 hs0 (by omega))
  · exact k_Pr_same (by simp [k_u, hjp]) (by simp [k_u]) (by simp [k_u]) (h.1 j hj)
/-- a live process's state: ready or waiting -/
theorem q_F_st {S : q_st} {K : k_t} {n L B p s : Nat} (hp : p < 8) (hs : s = 1 ∨ s = 2) (h : q_F S K n L B) : q_F (q_up S (5, p) 0 (nI s)) (k_u K 2 p (nI s)) n L B := by
  obtain ⟨h1, h2, h3, pg, us, lab, h4, h5⟩ := h
  have hsn : q_sn S (q_up S (5, p) 0 (nI s)) := q_sn_up (by simp)
  refine ⟨k_Ok_st (by omega) (by omega) h1, q_T_up (q_tcP hp).1 h2, q_C_sn hsn (q_C_k (fun j _ _ => by simp [k_u]) h3), pg, us, lab, q_R_sn hsn (by funext j; simp [k_u]) (by funext j; simp [k_u]) (by simp [k_u]) (by simp [k_u]) h4, ?_⟩
  intro q hq hss i hi
  by_cases hqp : q = p
  · subst hqp
    rw [k_u_at, q_nI0 (by omega), nI_eq (by omega) (by omega)] at hss
    omega
  · refine h5 q hq ?_ i hi
    simpa [k_u, hqp] using hss
/-- a break -/
theorem q_F_lim {S : q_st} {K : k_t} {n L B p b : Nat} (hp : p < 8) (hb : b ≤ 64) (h : q_F S K n L B) : q_F (q_up S (5, p) 4 (nI b)) (k_u K 7 p (nI b)) n L B := by
  obtain ⟨h1, h2, h3, pg, us, lab, h4, h5⟩ := h
  have hsn : q_sn S (q_up S (5, p) 4 (nI b)) := q_sn_up (by simp)
  refine ⟨⟨fun j hj => ?_, k_Gl_same (fun j _ _ => by simp [k_u]) h1.2⟩, q_T_up (q_tcP hp).2.2.2.2 h2, q_C_sn hsn (q_C_k (fun j _ _ => by simp [k_u]) h3), pg, us, lab, q_R_sn hsn (by funext j; simp [k_u]) (by funext j; simp [k_u]) (by simp [k_u]) (by simp [k_u]) h4, q_Zn_k (k_u_k _ _ _ _ (by decide)) h5⟩
  by_cases hjp : j = p
  · subst hjp
    obtain ⟨t1, t2, t3, t4⟩ := h1.1 j hj
    exact ⟨by simpa [k_u] using t1, by simpa [k_u] using t2, ⟨b, hb, by simp [k_u]⟩, by simpa [k_u] using t4⟩
  · exact k_Pr_same (by simp [k_u]) (by simp [k_u]) (by simp [k_u, hjp]) (h1.1 j hj)

theorem q_zc {S : q_st} {K : k_t} {n L B p : Nat} (hF : q_F S K n L B) : f_st (fun k => S (5, k) 1 = nI p ∧ S (5, k) 0 = nI 3) 8 = f_st (fun k => k_cd K p k ∧ K 2 k = nI 3) 8 := by
  refine f_st_congr (fun k hk => ?_)
  obtain ⟨t0, t1, -⟩ := hF.2.1.2.1 k hk
  rw [t0, t1]
  constructor
  · rintro ⟨q1, q2⟩
    exact ⟨⟨by rw [q2]; decide, q1⟩, q2⟩
  · rintro ⟨⟨-, q1⟩, q2⟩
    exact ⟨q1, q2⟩
theorem q_hc {S : q_st} {K : k_t} {n L B p : Nat} (hp : p < 8) (hF : q_F S K n L B) : (∃ k, k < 8 ∧ S (5, k) 1 = nI p) ↔ ∃ k, k < 8 ∧ k_cd K p k := by
  constructor
  · rintro ⟨k, hk, h⟩
    obtain ⟨t0, t1, -⟩ := hF.2.1.2.1 k hk
    rw [t1] at h
    refine ⟨k, hk, fun q => ?_, h⟩
    have := (hF.1.1 k hk).2.2.2 q
    rw [this] at h
    exact q_nm1 (show p < 2 ^ 31 by omega) h.symm
  · rintro ⟨k, hk, -, h⟩
    obtain ⟨t0, t1, -⟩ := hF.2.1.2.1 k hk
    exact ⟨k, hk, by rw [t1]; exact h⟩

theorem q_wait_fin {S : q_st} {K : k_t} {n L B p : Nat} (hp : p < 8) (hF : q_F S K n L B) : q_F (q_up (q_up S (5, p) 0 (nI 2)) (5, p) 3 (q_up S (5, p) 0 (nI 2) (5, p) 3 - nI 1)) (k_u (k_u K 2 p (nI 2)) 6 p (K 6 p - 1)) n L B := by
  have e : q_up S (5, p) 0 (nI 2) (5, p) 3 - nI 1 = K 6 p - 1 := by
    rw [q_irr _ _ _ _ _ _ (by simp), (hF.2.1.2.1 p hp).2.2.2.1]
    rfl
  rw [e]
  exact q_F_up (q_tcP hp).2.2.2.1 (by simp) (q_F_st hp (Or.inr rfl) hF)

set_option maxRecDepth 100000 in
set_option maxHeartbeats 4000000 in
theorem t_wait {G : q_g} {n : Nat} {ad : q_ix → Nat} (l : Launch) (S0 : q_st) {K : k_t} {p a L B : Nat} (hp : p < 8) (ha : a < 8) (hF : q_F S0 K n L B) : q_Ct l G iX3_waitForChild [.inr (some (0, 0)), .inl (nI p), .inl (nI a)] (q_w G n ad) (S0) (q_pi (q_w G n ad) (fun r S' => r = (k_aw K p a).1 ∧ q_F S' (k_aw K p a).2 n L B ∧ q_fr S0 S')) := by
  refine q_enter (by decide) (Nat.le_of_ble_eq_true rfl) (fun X F E => ?_)
  show q_W G X iX3_waitForChild (q_w G n ad) (0, 0) 0 [some (.inr (some (0, 0))), some (.inl (nI p)), some (.inl (nI a)), none, none] [] (S0)
  refine q_aload_n F dX3_waitForChild_0 rfl ?_
  refine q_getr F (k := 1) fkX3_20 q_m0 rfl rfl dX3_waitForChild_1 ?_
  refine q_iload_n F dX3_waitForChild_4 rfl ?_
  refine q_aald F (_) q_m4 rfl rfl (by omega) (by decide) rfl dX3_waitForChild_5 ?_
  refine q_astore_n_3 F dX3_waitForChild_6 (by decide) ?_
  refine q_aload_n F dX3_waitForChild_7 rfl ?_
  refine q_iload_n F dX3_waitForChild_8 rfl ?_
  refine q_callVi F [.inl (nI p)] (fun l => t_firstZombieChild l S0) clX3_178 rfl q_m0 rfl rfl rfl ⟨Nat.le_of_ble_eq_true rfl, Nat.le_of_ble_eq_true rfl⟩ (Nat.le_of_ble_eq_true rfl) ⟨rfl, rfl⟩ ⟨Nat.zero_le _, Nat.zero_le _⟩ dX3_waitForChild_9 (fun v1 S1 hv1 => ?_)
  obtain ⟨hv1, hS1⟩ := hv1
  have hS1 := hS1.symm
  subst hS1
  rw [q_zc hF] at hv1
  subst hv1
  rcases f_st_spec (P := fun k => k_cd K p k ∧ K 2 k = nI 3) 8 with ⟨hz, hzn⟩ | ⟨z, hz, hz8, hzz, -⟩
  · refine q_top (-1) (by rw [hz]; rfl) ?_
    refine q_istore_4 F dX3_waitForChild_12 (by decide) ?_
    refine q_iload F dX3_waitForChild_14 rfl ?_
    refine q_iconst F (-1) dX3_waitForChild_16 (by decide) ?_
    refine q_icmp_eq F 38 dX3_waitForChild_17 (by decide) (fun h17 => ?_) (fun h17 => ?_)
    · refine q_aload_n F dX3_waitForChild_38 rfl ?_
      refine q_iload_n F dX3_waitForChild_39 rfl ?_
      refine q_callVi F [.inl (nI p)] (fun l => t_hasChild l S0) clX3_181 rfl q_m0 rfl rfl rfl ⟨Nat.le_of_ble_eq_true rfl, Nat.le_of_ble_eq_true rfl⟩ (Nat.le_of_ble_eq_true rfl) ⟨rfl, rfl⟩ ⟨Nat.zero_le _, Nat.zero_le _⟩ dX3_waitForChild_40 (fun v2 S2 hv2 => ?_)
      obtain ⟨hv2, hS2⟩ := hv2
      have hS2 := hS2.symm
      subst hS2
      refine q_if_ne F 55 dX3_waitForChild_43 (by decide) (fun h43 => ?_) (fun h43 => ?_)
      · refine q_aload_n F dX3_waitForChild_55 rfl ?_
        refine q_iconst F (nI 2) dX3_waitForChild_56 (by decide) ?_
        refine q_puti F (k := 0) fkX3_90 fp2_0 (q_m5 (by omega)) rfl rfl dX3_waitForChild_57 ?_
        refine q_aload_n F dX3_waitForChild_60 rfl ?_
        refine q_dup F dX3_waitForChild_61 ?_
        refine q_geti F (k := 3) fkX3_100 (q_m5 (by omega)) rfl rfl dX3_waitForChild_62 ?_
        refine q_iconst F (nI 1) dX3_waitForChild_65 (by decide) ?_
        refine q_isub F dX3_waitForChild_66 ?_
        refine q_puti F (k := 3) fkX3_100 fp2_3 (q_m5 (by omega)) rfl rfl dX3_waitForChild_67 ?_
        refine q_iconst F (nI 4) dX3_waitForChild_70 (by decide) ?_
        refine q_iret F E rfl (by unfold k_aw; rw [hz]; simp only []; rw [if_pos ((q_hc hp hF).mp (q_bl_T hv2 h43))]; exact ⟨rfl, q_wait_fin hp hF, q_fr_tr (q_fr_up (by simp)) (q_fr_up (by simp))⟩) dX3_waitForChild_71
      · refine q_aload_n F dX3_waitForChild_46 rfl ?_
        refine q_getr F (k := 5) fkX3_103 (q_m5 (by omega)) rfl rfl dX3_waitForChild_47 ?_
        refine q_iload_n F dX3_waitForChild_50 rfl ?_
        refine q_iconst F (-1) dX3_waitForChild_51 (by decide) ?_
        refine q_iast F (_) (q_m6 (by omega)) rfl rfl (by omega) (by omega) dX3_waitForChild_52 ?_
        refine q_iconst F (nI 1) dX3_waitForChild_53 (by decide) ?_
        refine q_iret F E rfl (by unfold k_aw; rw [hz]; simp only []; rw [if_neg (fun q => q_bl_F hv2 h43 ((q_hc hp hF).mpr q))]; exact ⟨rfl, q_F_up (q_tcR hp ha) (by simp) hF, q_fr_up (by simp)⟩) dX3_waitForChild_54
    · exact absurd rfl h17
  · refine q_top (nI z) (by rw [hz]; rfl) ?_
    refine q_istore_4 F dX3_waitForChild_12 (by decide) ?_
    refine q_iload F dX3_waitForChild_14 rfl ?_
    refine q_iconst F (-1) dX3_waitForChild_16 (by decide) ?_
    refine q_icmp_eq F 38 dX3_waitForChild_17 (by decide) (fun h17 => ?_) (fun h17 => ?_)
    · exact absurd h17 (q_nm1 (by omega))
    · refine q_aload_n F dX3_waitForChild_20 rfl ?_
      refine q_getr F (k := 5) fkX3_103 (q_m5 (by omega)) rfl rfl dX3_waitForChild_21 ?_
      refine q_iload_n F dX3_waitForChild_24 rfl ?_
      refine q_aload_n F dX3_waitForChild_25 rfl ?_
      refine q_getr F (k := 1) fkX3_20 q_m0 rfl rfl dX3_waitForChild_26 ?_
      refine q_iload F dX3_waitForChild_29 rfl ?_
      refine q_aald F (_) q_m4 rfl rfl (by omega) (by decide) rfl dX3_waitForChild_31 ?_
      refine q_callVi F [] (fun l => t_vacate l S0 hz8) clX3_84 rfl (q_m5 (by omega)) rfl rfl rfl ⟨Nat.le_of_ble_eq_true rfl, Nat.le_of_ble_eq_true rfl⟩ (Nat.le_of_ble_eq_true rfl) ⟨rfl, rfl⟩ ⟨Nat.zero_le _, Nat.zero_le _⟩ dX3_waitForChild_32 (fun v2 S2 hv2 => ?_)
      obtain ⟨rfl, rfl⟩ := hv2
      refine q_iast F (_) (q_m6 (by omega)) rfl rfl (by omega) (by omega) dX3_waitForChild_35 ?_
      refine q_iconst F (nI 1) dX3_waitForChild_36 (by decide) ?_
      refine q_iret F E rfl (by unfold k_aw; rw [hz]; show nI 1 = nI 1 ∧ q_F _ (k_free (k_u K 5 (8 * p + a) (K 4 z)) z) n L B ∧ _; rw [← k_free_u]; have e4 := (hF.2.1.2.1 z hz8).2.2.1; rw [← e4]; exact ⟨rfl, q_F_up (q_tcR hp ha) (by simp) (q_F_free hz8 hzz.2 hF).1, q_fr_tr (q_F_free hz8 hzz.2 hF).2 (q_fr_up (by simp))⟩) dX3_waitForChild_37

/-- pages given back from a break on -/
theorem q_F_rf {S S' : q_st} {K : k_t} {n L B p b i0 : Nat} {pg : Nat → Option Nat} (hF : q_F S K n L B) (hZ : q_Zn K pg) (hrf : q_rf S K n p b i0 pg L 8 S') : ∃ (pg' : Nat → Option Nat) (us' lab' : Nat → Nat), q_R S' (k_rz K p b 8) n pg' us' lab' L ∧ q_Zn (k_rz K p b 8) pg' ∧ q_sm S S' ∧ (∀ x, pg' x = if x / 8 = p ∧ i0 ≤ x % 8 then none else pg x) ∧ q_F S' (k_rz K p b 8) n L B := by
  obtain ⟨pg', us', lab', hR, hs, hpg⟩ := hrf
  have h2 : ∀ a, a ≠ 8 → a ≠ 9 → k_rz K p b 8 a = K a := fun a h8 h9 => by funext j; simp [k_rz, h8, h9]
  have hZ' : q_Zn (k_rz K p b 8) pg' := by
    intro q hq hs i hi
    rw [h2 2 (by decide) (by decide)] at hs
    rw [hpg]
    split
    · rfl
    · exact hZ q hq hs i hi
  refine ⟨pg', us', lab', hR, hZ', hs, fun x => ?_, k_Ok_same (h2 2 (by decide) (by decide)) (h2 3 (by decide) (by decide)) (h2 7 (by decide) (by decide)) (fun j _ _ => by rw [h2 0 (by decide) (by decide)]) hF.1, q_T_sm hs (q_T_k (fun a _ h8 h9 => h2 a h8 h9) (fun j _ _ => by rw [h2 0 (by decide) (by decide)]) hF.2.1), q_C_sm hs (q_C_k (fun j _ _ => by rw [h2 0 (by decide) (by decide)]) hF.2.2.1), pg', us', lab', hR, hZ'⟩
  rw [hpg]
  repeat' split
  all_goals first | rfl | (exfalso; omega)
theorem k_gr1_eq (K : k_t) (p b : Nat) : k_gr1 K p b = if (k_pg K (8 * p + b / 8) true).1 = true then k_cl (k_pg K (8 * p + b / 8) true).2 p b else (k_pg K (8 * p + b / 8) true).2 := by
  unfold k_gr1
  by_cases h1 : k_sh K (8 * p + b / 8) = 1
  · rw [if_pos h1, k_pg_t (by omega) (Or.inr h1)]
    rfl
  · rw [if_neg h1, k_pg_f (by rintro ⟨-, q | q⟩; cases q; exact h1 q)]
theorem k_pg_14 {K : k_t} {g : Nat} {wr : Bool} (h : (k_pg K g wr).1 = true) : (k_pg K g wr).2 0 14 = K 0 14 := by
  unfold k_pg at *
  split at h
  next h1 => rw [if_pos h1]
  next h1 =>
    rw [if_neg h1]
    unfold k_al at *
    split at h
    · cases h
    next h2 =>
      rw [if_neg h2]
      simp [k_u]

theorem q_gr_same {S0 S' : q_st} {K : k_t} {n L B p a L' : Nat} {c : Int32} {K' : k_t} (e : k_gr K p a c = K') (h14 : K' 0 14 = 0) (hL : L' ≤ L + 1) (hF : q_F S' K' n L' B) (hfr : q_fr S0 S') : ∃ L', L' ≤ L + 1 ∧ nI 1 = (k_s2 K p (nI 1, k_gr K p a c)).1 ∧ q_F S' (k_s2 K p (nI 1, k_gr K p a c)).2 n L' B ∧ q_fr S0 S' := by
  have e2 : k_s2 K p (nI 1, k_gr K p a c) = (nI 1, k_gr K p a c) := by
    unfold k_s2
    rw [if_pos]
    show k_gr K p a c 0 14 = 0
    rw [e, h14]
  rw [e2]
  refine ⟨L', hL, rfl, ?_, hfr⟩
  show q_F S' (k_gr K p a c) n L' B
  rw [e]
  exact hF

theorem q_gr_no {S0 S' : q_st} {K : k_t} {n L B p a b : Nat} {c : Int32} (e : k_gr K p a c = k_u (k_gr0 K p a b) 0 14 (-13)) (hF : q_F S' (k_en (k_u (k_gr0 K p a b) 0 14 (-13)) p (-13)) n L B) (hfr : q_fr S0 S') : ∃ L', L' ≤ L + 1 ∧ nI 5 = (k_s2 K p (nI 1, k_gr K p a c)).1 ∧ q_F S' (k_s2 K p (nI 1, k_gr K p a c)).2 n L' B ∧ q_fr S0 S' := by
  have e2 : k_s2 K p (nI 1, k_gr K p a c) = (nI 5, k_en (k_u (k_gr0 K p a b) 0 14 (-13)) p (-13)) := by
    unfold k_s2
    show (if k_gr K p a c 0 14 = 0 then _ else (nI 5, k_en (k_gr K p a c) p (k_gr K p a c 0 14))) = _
    rw [e, k_u_at, if_neg (by decide)]
  rw [e2]
  exact ⟨L, Nat.le_succ L, rfl, hF, hfr⟩
theorem q_cut_F {S2 S3 S4 : q_st} {K2 : k_t} {n L B p b L3 : Nat} {pg2 pg3 : Nat → Option Nat} {us3 lab3 : Nat → Nat} (hp : p < 8) (hlive : ¬ (K2 2 p = 0 ∨ K2 2 p = nI 3)) (hF2 : q_F S2 K2 n L B) (hZ2 : q_Zn K2 pg2) (hR4 : q_R S4 (k_cl (k_pg K2 (8 * p + b / 8) true).2 p b) n pg3 us3 lab3 L3) (hs3 : q_sm S2 S3) (hs4 : q_sm S3 S4) (hpg : ∀ x, x ≠ 8 * p + b / 8 → pg3 x = pg2 x) (hb : b < 64 := by omega) : q_F S4 (k_cl (k_pg K2 (8 * p + b / 8) true).2 p b) n L3 B := by
  have ha : ∀ a, a ≠ 0 → a ≠ 8 → a ≠ 9 → k_cl (k_pg K2 (8 * p + b / 8) true).2 p b a = K2 a := by
    intro a h0 h8 h9
    rw [← k_pg_k (K := K2) (g := 8 * p + b / 8) (wr := true) h0 h9]
    funext j
    simp [k_cl, h8]
  have h0 : ∀ j, j ≠ 11 → j ≠ 14 → k_cl (k_pg K2 (8 * p + b / 8) true).2 p b 0 j = K2 0 j := by
    intro j h1 h2
    rw [← k_pg_0 (K := K2) (g := 8 * p + b / 8) (wr := true) h1 h2]
    simp [k_cl]
  have hs := q_sm_tr hs3 hs4
  refine ⟨k_Ok_cl (k_Ok_pg hF2.1), q_T_sm hs (q_T_k ha h0 hF2.2.1), q_C_sm hs (q_C_k h0 hF2.2.2.1), pg3, us3, lab3, hR4, ?_⟩
  intro q hq hss i hi
  rw [ha 2 (by decide) (by decide) (by decide)] at hss
  rw [hpg _ (by intro z; have hqp : q = p := (by omega); subst hqp; exact hlive hss)]
  exact hZ2 q hq hss i hi

set_option maxRecDepth 100000 in
set_option maxHeartbeats 4000000 in
theorem t_moveBreak {G : q_g} {n : Nat} {ad : q_ix → Nat} (l : Launch) (S0 : q_st) {K : k_t} {p a L B : Nat} {c : Int32} (hp : p < 8) (ha : a < 8) (hF : q_F S0 K n L B) (hL : L + 1 < 2 ^ 30) (hlive : ¬ (K 2 p = 0 ∨ K 2 p = nI 3)) (h14 : K 0 14 = 0) : q_Ct l G iX3_moveBreak [.inr (some (0, 0)), .inl (nI p), .inl (nI a), .inl c] (q_w G n ad) (S0) (q_pi (q_w G n ad) (fun r S' => ∃ L', L' ≤ L + 1 ∧ r = (k_s2 K p (nI 1, k_gr K p a c)).1 ∧ q_F S' (k_s2 K p (nI 1, k_gr K p a c)).2 n L' B ∧ q_fr S0 S')) := by
  refine q_enter (by decide) (Nat.le_of_ble_eq_true rfl) (fun X F E => ?_)
  show q_W G X iX3_moveBreak (q_w G n ad) (0, 0) 0 [some (.inr (some (0, 0))), some (.inl (nI p)), some (.inl (nI a)), some (.inl c), none, none, none, none, none] [] (S0)
  obtain ⟨hok, hT0, hC, pg, us, lab, hR, hZ⟩ := id hF
  obtain ⟨b0, hb064, hb0⟩ := (hok.1 p hp).2.2.1
  refine q_aload_n F dX3_moveBreak_0 rfl ?_
  refine q_getr F (k := 1) fkX3_20 q_m0 rfl rfl dX3_moveBreak_1 ?_
  refine q_iload_n F dX3_moveBreak_4 rfl ?_
  refine q_aald F (_) q_m4 rfl rfl (by omega) (by decide) rfl dX3_moveBreak_5 ?_
  refine q_astore_4 F dX3_moveBreak_6 (by decide) ?_
  refine q_aload F dX3_moveBreak_8 rfl ?_
  refine q_geti F (k := 4) fkX3_56 (q_m5 (by omega)) rfl rfl dX3_moveBreak_10 ?_
  refine q_top (nI b0) ((hT0.2.1 p hp).2.2.2.2.trans hb0) ?_
  refine q_istore_5 F dX3_moveBreak_13 (by decide) ?_
  refine q_iload F dX3_moveBreak_15 rfl ?_
  refine q_iload_n F dX3_moveBreak_17 rfl ?_
  refine q_iadd F dX3_moveBreak_18 ?_
  refine q_istore_6 F dX3_moveBreak_19 (by decide) ?_
  refine q_iload F dX3_moveBreak_21 rfl ?_
  refine q_if_lt F 33 dX3_moveBreak_23 (by decide) (fun h23 => ?_) (fun h23 => ?_)
  · refine q_aload F dX3_moveBreak_33 rfl ?_
    refine q_getr F (k := 5) fkX3_103 (q_m5 (by omega)) rfl rfl dX3_moveBreak_35 ?_
    refine q_iload_n F dX3_moveBreak_38 rfl ?_
    refine q_iconst F (-1) dX3_moveBreak_39 (by decide) ?_
    refine q_iast F (_) (q_m6 (by omega)) rfl rfl (by omega) (by omega) dX3_moveBreak_40 ?_
    refine q_iconst F (nI 1) dX3_moveBreak_41 (by decide) ?_
    refine q_iret F E rfl (q_gr_same (by unfold k_gr; rw [hb0, if_pos (by omega)]) (by rw [k_u_ne _ _ _ _ (by simp)]; exact h14) (Nat.le_succ L) (q_F_up (q_tcR hp ha) (by simp) hF) (q_fr_up (by simp))) dX3_moveBreak_42
  · refine q_iload F dX3_moveBreak_26 rfl ?_
    refine q_bipush F (nI 64) dX3_moveBreak_28 (by decide) ?_
    refine q_icmp_le F 43 dX3_moveBreak_30 (by decide) (fun h30 => ?_) (fun h30 => ?_)
    · rw [nI_toInt (by omega)] at h30
      obtain ⟨b, hb65, hbe⟩ := q_ofx (x := nI b0 + c) (m := 65) (by decide) h23 (by omega)
      rw [hbe] at h23 h30 ⊢
      refine q_aload F dX3_moveBreak_43 rfl ?_
      refine q_getr F (k := 5) fkX3_103 (q_m5 (by omega)) rfl rfl dX3_moveBreak_45 ?_
      refine q_iload_n F dX3_moveBreak_48 rfl ?_
      refine q_iload F dX3_moveBreak_49 rfl ?_
      refine q_iast F (_) (q_m6 (by omega)) rfl rfl (by omega) (by omega) dX3_moveBreak_51 ?_
      refine q_aload F dX3_moveBreak_52 rfl ?_
      refine q_iload F dX3_moveBreak_54 rfl ?_
      refine q_puti F (k := 4) fkX3_56 fp2_4 (q_m5 (by omega)) rfl rfl dX3_moveBreak_56 ?_
      have hF1 : q_F (q_up (q_up S0 (6, p) a (nI b0)) (5, p) 4 (nI b)) (k_u (k_u K 5 (8 * p + a) (nI b0)) 7 p (nI b)) n L B := q_F_lim hp (by omega) (q_F_up (q_tcR hp ha) (by simp) hF)
      obtain ⟨-, -, -, pg1, us1, lab1, hR1, hZ1⟩ := id hF1
      refine q_aload_n F dX3_moveBreak_59 rfl ?_
      refine q_aload F dX3_moveBreak_60 rfl ?_
      refine q_iload F dX3_moveBreak_62 rfl ?_
      refine q_bipush F (nI 8) dX3_moveBreak_64 (by decide) ?_
      refine q_iaddN F dX3_moveBreak_66 ?_
      refine q_iconst F (nI 1) dX3_moveBreak_67 (by decide) ?_
      refine q_isubN F dX3_moveBreak_68 (by omega) ?_
      refine q_bipush F (nI 8) dX3_moveBreak_69 (by decide) ?_
      refine q_idivN F dX3_moveBreak_71 (by omega) (by omega) (by omega) ?_
      refine q_callVv F [.inr (some (5, p)), .inl (nI ((b + 8 - 1) / 8))] (fun l => t_releaseFrom l _ (b := b) hp (by omega) (fun i hi => by omega) hR1) clX3_171 rfl q_m0 rfl rfl rfl ⟨Nat.le_of_ble_eq_true rfl, Nat.le_of_ble_eq_true rfl⟩ (Nat.le_of_ble_eq_true rfl) ⟨rfl, rfl⟩ ⟨Nat.zero_le _, Nat.zero_le _⟩ dX3_moveBreak_72 (fun S2 hrf => ?_)
      obtain ⟨pg2, us2, lab2, hR2, hZ2, hs2, hpg2, hF2⟩ := q_F_rf hF1 hZ1 hrf
      have ek : k_rz (k_u (k_u K 5 (8 * p + a) (nI b0)) 7 p (nI b)) p b 8 = k_gr0 K p a b := by rw [← hb0, k_gr0_eq]
      rw [ek] at hR2 hZ2 hF2
      have hfr2 : q_fr S0 S2 := q_fr_tr (q_fr_tr (q_fr_up (by simp)) (q_fr_up (by simp))) (q_fr_sm hs2)
      have h214 : k_gr0 K p a b 0 14 = 0 := by simp [k_gr0, k_u]; exact h14
      have egr := k_gr_in (a := a) (c := c) hb0 hbe (show b ≤ 64 by omega)
      have hlab : K 9 (8 * p + b / 8) = nI (lab1 (8 * p + b / 8)) ∨ 63 < b := by
        by_cases hb63 : 63 < b
        · exact Or.inr hb63
        · left; rw [← hR1.2.2.2.2.2.2.2.1 _ (by omega)]; simp [k_u]
      have hlb1 : ∀ g, g < 64 → lab1 g < 2 ^ 30 := fun g hg => by have := hR1.2.1.2.1 g hg; omega
      refine q_iload F dX3_moveBreak_75 rfl ?_
      refine q_bipush F (nI 8) dX3_moveBreak_77 (by decide) ?_
      refine q_idivN F dX3_moveBreak_79 (by omega) (by omega) (by omega) ?_
      refine q_istore_7 F dX3_moveBreak_80 (by decide) ?_
      refine q_iload F dX3_moveBreak_82 rfl ?_
      refine q_iload F dX3_moveBreak_84 rfl ?_
      refine q_icmpN_ge F 101 dX3_moveBreak_86 (by decide) (by omega) (by omega) (fun h86 => ?_) (fun h86 => ?_)
      · have hno : ¬ ((nI b).toInt < (nI b0).toInt ∧ b % 8 ≠ 0 ∧ 0 < (K 9 (8 * p + b / 8)).toInt) := by rw [nI_toInt (n := b) (by omega), nI_toInt (n := b0) (by omega)]; omega
        refine q_iconst F (nI 1) dX3_moveBreak_101 (by decide) ?_
        refine q_iret F E rfl (q_gr_same (egr.trans (if_neg hno)) h214 (Nat.le_succ L) hF2 hfr2) dX3_moveBreak_102
      · refine q_aload F dX3_moveBreak_89 rfl ?_
        refine q_getr F (k := 6) fkX3_112 (q_m5 (by omega)) rfl rfl dX3_moveBreak_91 ?_
        refine q_iload F dX3_moveBreak_94 rfl ?_
        refine q_iald F (_) (q_m7 (by omega)) rfl rfl (by omega) (by omega) dX3_moveBreak_96 ?_
        refine q_iconst F (-1) dX3_moveBreak_97 (by decide) ?_
        refine q_icmp_ne F 103 dX3_moveBreak_98 (by decide) (fun h98 => ?_) (fun h98 => ?_)
        · have hp2 : ¬ pg2 (8 * p + b / 8) = none := fun q => h98 (by show S2 (7, p) (b / 8) = -1; rw [hR2.2.2.1 p (b / 8) hp (by omega), q]; rfl)
          have hb8 : b % 8 ≠ 0 := by
            intro q
            apply hp2
            rw [hpg2, if_pos (by omega)]
          have hyes : (nI b).toInt < (nI b0).toInt ∧ b % 8 ≠ 0 ∧ 0 < (K 9 (8 * p + b / 8)).toInt := by
            refine ⟨by rw [nI_toInt (n := b) (by omega), nI_toInt (n := b0) (by omega)]; omega, hb8, ?_⟩
            rw [hpg2, if_neg (by omega)] at hp2
            have := mt (hR1.2.1.2.2.1 _ (show 8 * p + b / 8 < 64 by omega)).mpr hp2
            rw [hlab.resolve_right (by omega), nI_toInt (by have := hlb1 (8 * p + b / 8) (by omega); omega)]
            omega
          have egy : k_gr K p a c = k_gr1 (k_gr0 K p a b) p b := egr.trans (if_pos hyes)
          rw [k_gr1_eq] at egy
          refine q_aload_n F dX3_moveBreak_103 rfl ?_
          refine q_aload F dX3_moveBreak_104 rfl ?_
          refine q_iload F dX3_moveBreak_106 rfl ?_
          have hlive2 : ¬ (k_gr0 K p a b 2 p = 0 ∨ k_gr0 K p a b 2 p = nI 3) := by simpa [k_gr0, k_u] using hlive
          refine q_callVi F [.inr (some (5, p)), .inl (nI (b / 8))] (fun l => t_own l S2 hp (by omega) hR2 hL) clX3_59 rfl q_m0 rfl rfl rfl ⟨Nat.le_of_ble_eq_true rfl, Nat.le_of_ble_eq_true rfl⟩ (Nat.le_of_ble_eq_true rfl) ⟨rfl, rfl⟩ ⟨Nat.zero_le _, Nat.zero_le _⟩ dX3_moveBreak_108 (fun r1 S3 h1 => ?_)
          rcases h1 with ⟨rfl, hk1, pg3, us3, lab3, L3, hR3, hL3a, hL3, hs3, hpg3, f, hf3, hu3⟩ | ⟨rfl, hk1, hk2, rfl⟩
          · refine q_istore_8 F dX3_moveBreak_111 (by decide) ?_
            refine q_iload F dX3_moveBreak_113 rfl ?_
            refine q_ifN_eq F 126 dX3_moveBreak_115 (by decide) (by omega) (fun h115 => ?_) (fun h115 => ?_)
            · refine q_aload_n F dX3_moveBreak_126 rfl ?_
              refine q_aload F dX3_moveBreak_127 rfl ?_
              refine q_iload F dX3_moveBreak_129 rfl ?_
              refine q_callVv F [.inr (some (5, p)), .inl (nI b)] (fun l => t_clearFrom l S3 hp (by omega) hf3 (hu3 rfl) hR3) clX3_175 rfl q_m0 rfl rfl rfl ⟨Nat.le_of_ble_eq_true rfl, Nat.le_of_ble_eq_true rfl⟩ (Nat.le_of_ble_eq_true rfl) ⟨rfl, rfl⟩ ⟨Nat.zero_le _, Nat.zero_le _⟩ dX3_moveBreak_131 (fun S4 hS4 => ?_)
              obtain ⟨hR4, hs4⟩ := hS4
              rw [if_pos hk1] at egy
              refine q_iconst F (nI 1) dX3_moveBreak_134 (by decide) ?_
              refine q_iret F E rfl (q_gr_same egy (by simp only [k_cl]; rw [if_neg (by simp), k_pg_14 hk1]; exact h214) hL3 (q_cut_F hp hlive2 hF2 hZ2 hR4 hs3 hs4 hpg3) (q_fr_tr hfr2 (q_fr_tr (q_fr_sm hs3) (q_fr_sm hs4)))) dX3_moveBreak_135
            · exact absurd h115 (by decide)
          · refine q_istore_8 F dX3_moveBreak_111 (by decide) ?_
            refine q_iload F dX3_moveBreak_113 rfl ?_
            refine q_if_eq F 126 dX3_moveBreak_115 (by decide) (fun h115 => ?_) (fun h115 => ?_)
            · exact absurd h115 (by decide)
            · refine q_aload_n F dX3_moveBreak_118 rfl ?_
              refine q_iload_n F dX3_moveBreak_119 rfl ?_
              refine q_iload F dX3_moveBreak_120 rfl ?_
              refine q_callVi F [.inl (nI p), .inl (-13)] (fun l => t_end l _ hp (q_F_14 (v := -13) hF2)) clX3_74 rfl q_m0 rfl rfl rfl ⟨Nat.le_of_ble_eq_true rfl, Nat.le_of_ble_eq_true rfl⟩ (Nat.le_of_ble_eq_true rfl) ⟨rfl, rfl⟩ ⟨Nat.zero_le _, Nat.zero_le _⟩ dX3_moveBreak_122 (fun v2 S4 hv2 => ?_)
              obtain ⟨rfl, hv2, hv3⟩ := hv2
              rw [if_neg (by rw [hk1]; decide), hk2] at egy
              refine q_iret F E rfl (q_gr_no egy hv2 (q_fr_tr hfr2 hv3)) dX3_moveBreak_125
        · have hp2 : pg2 (8 * p + b / 8) = none := q_fe_none (o := pg2 (8 * p + b / 8)) (by rw [← hR2.2.2.1 p (b / 8) hp (by omega)]; exact h98) (fun f hf => by have h1 := (hR2.2.1.1 _ _ hf).1; have h2 := hR2.1.2; omega)
          have hno : ¬ ((nI b).toInt < (nI b0).toInt ∧ b % 8 ≠ 0 ∧ 0 < (K 9 (8 * p + b / 8)).toInt) := by
            rintro ⟨-, q2, q3⟩
            rw [hpg2, if_neg (by omega)] at hp2
            have := (hR1.2.1.2.2.1 _ (by omega)).mp hp2
            rw [hlab.resolve_right (by omega), nI_toInt (by have := hlb1 (8 * p + b / 8) (by omega); omega)] at q3
            omega
          refine q_iconst F (nI 1) dX3_moveBreak_101 (by decide) ?_
          refine q_iret F E rfl (q_gr_same (egr.trans (if_neg hno)) h214 (Nat.le_succ L) hF2 hfr2) dX3_moveBreak_102
    · rw [nI_toInt (by omega)] at h30
      refine q_aload F dX3_moveBreak_33 rfl ?_
      refine q_getr F (k := 5) fkX3_103 (q_m5 (by omega)) rfl rfl dX3_moveBreak_35 ?_
      refine q_iload_n F dX3_moveBreak_38 rfl ?_
      refine q_iconst F (-1) dX3_moveBreak_39 (by decide) ?_
      refine q_iast F (_) (q_m6 (by omega)) rfl rfl (by omega) (by omega) dX3_moveBreak_40 ?_
      refine q_iconst F (nI 1) dX3_moveBreak_41 (by decide) ?_
      refine q_iret F E rfl (q_gr_same (by unfold k_gr; rw [hb0, if_pos (by omega)]) (by rw [k_u_ne _ _ _ _ (by simp)]; exact h14) (Nat.le_succ L) (q_F_up (q_tcR hp ha) (by simp) hF) (q_fr_up (by simp))) dX3_moveBreak_42
end
section
/-! the class: fork (rows laid by wip/whole/m55.py) -/
def k_fT (K : k_t) (p a c : Nat) : k_t := fun b j => if b = 2 ∧ j = c then nI 1 else if b = 3 ∧ j = c then nI p else if b = 6 ∧ j = c then K 6 p else if b = 7 ∧ j = c then K 7 p else if b = 5 ∧ j / 8 = c then (if j % 8 = a then 0 else K 5 (8 * p + j % 8)) else K b j
def k_fs (K : k_t) (p c i : Nat) : k_t := fun b j => if b = 9 ∧ j / 8 = c ∧ j % 8 < i then K 9 (8 * p + j % 8) else if b = 8 ∧ j / 64 = c ∧ j % 64 / 8 < i then K 8 (64 * p + j % 64) else K b j
theorem k_fs_0 (K : k_t) (p c : Nat) : k_fs K p c 0 = K := by
  funext b j
  unfold k_fs
  rw [if_neg (by omega), if_neg (by omega)]
theorem k_fs_8 (K : k_t) (p a c : Nat) : k_fs (k_fT K p a c) p c 8 = k_fk0 K p a c := by
  funext b j
  unfold k_fs k_fk0
  by_cases h9 : b = 9
  · subst h9
    by_cases hj : j / 8 = c
    · rw [if_pos ⟨rfl, hj, by omega⟩]
      simp [k_fT, hj]
    · rw [if_neg (fun q => hj q.2.1)]
      simp [k_fT, hj]
  · by_cases h8 : b = 8
    · subst h8
      rw [if_neg (by simp)]
      by_cases hj : j / 64 = c
      · rw [if_pos ⟨rfl, hj, by omega⟩]
        simp [k_fT, hj]
      · rw [if_neg (fun q => hj q.2.1)]
        simp [k_fT, hj]
    · simp only [h9, h8, false_and, if_false]
      rfl
/-- the child's tables -/
def q_ft (S0 S : q_st) (K : k_t) (p a c : Nat) : Prop := (∀ q s, S (5, q) s = if q = c then (if s = 0 then nI 1 else if s = 1 then nI p else if s = 3 then K 6 p else if s = 4 then K 7 p else S0 (5, q) s) else S0 (5, q) s) ∧ (∀ q r, r < 8 → S (6, q) r = if q = c then (if r = a then 0 else K 5 (8 * p + r)) else S0 (6, q) r) ∧ ∀ j : q_ix, j.1 ≠ 5 → j.1 ≠ 6 → S j = S0 j
theorem q_ft_T {S0 S : q_st} {K : k_t} {p a c : Nat} (hc : c < 8) (h : q_ft S0 S K p a c) (hT : q_T S0 K) : q_T S (k_fT K p a c) := by
  obtain ⟨f5, f6, fo⟩ := h
  obtain ⟨h1, h2, h3, h4, h5, h6⟩ := hT
  refine ⟨fun i hi => ?_, fun q hq => ?_, fun q r hq hr => ?_, ?_, fun i hi => ?_, ?_⟩
  · rw [fo (10, 0) (by simp) (by simp)]; simp [k_fT]; exact h1 i hi
  · obtain ⟨t0, t1, t2, t3, t4⟩ := h2 q hq
    by_cases hqc : q = c
    · subst hqc
      simp [f5, k_fT, t2]
    · simp [f5, k_fT, hqc, t0, t1, t2, t3, t4]
  · rw [f6 q r hr]
    by_cases hqc : q = c
    · subst hqc
      simp [k_fT, show (8 * q + r) / 8 = q by omega, show (8 * q + r) % 8 = r by omega]
    · rw [if_neg hqc, h3 q r hq hr]
      simp [k_fT, show ¬ (8 * q + r) / 8 = c by omega]
  · rw [fo (8, 0) (by simp) (by simp)]; simp [k_fT]; exact h4
  · rw [fo (9, 0) (by simp) (by simp)]; simp [k_fT]; exact h5 i hi
  · rw [fo (0, 0) (by simp) (by simp)]; simp [k_fT]; exact h6
theorem q_ft_sn {S0 S : q_st} {K : k_t} {p a c : Nat} (h : q_ft S0 S K p a c) : q_sn S0 S := fun j hj => h.2.2 j (by omega) (by omega)
/-- pages below i of the child are shared -/
def q_fi (S0 S4 : q_st) (KT : k_t) (n p c : Nat) (pg : Nat → Option Nat) (L i : Nat) (S : q_st) : Prop := ∃ (pg' : Nat → Option Nat) (us' lab' : Nat → Nat), q_R S (k_fs KT p c i) n pg' us' lab' L ∧ q_sm S4 S ∧ ∀ x, pg' x = if x / 8 = c ∧ x % 8 < i then pg (8 * p + x % 8) else pg x
theorem q_fi_s {S0 S4 S S' : q_st} {KT : k_t} {n p c : Nat} {pg pg' : Nat → Option Nat} {us' lab' : Nat → Nat} {L i : Nat} (hp : p < 8) (hc : c < 8) (hpc : p ≠ c) (hi : i < 8) (hpn : pg (8 * c + i) = none) (hR : q_R S (k_fs KT p c i) n pg' us' lab' L) (hs : q_sm S4 S) (hpg : ∀ x, pg' x = if x / 8 = c ∧ x % 8 < i then pg (8 * p + x % 8) else pg x)
    (hS : (pg' (8 * p + i) = none ∧ S' = q_up S (7, c) i (-1)) ∨ ∃ f, pg' (8 * p + i) = some f ∧ S' = q_up (q_up S (7, c) i (nI f)) (3, 0) f (q_up S (7, c) i (nI f) (3, 0) f + nI 1)) : q_fi S0 S4 KT n p c pg L (i + 1) S' := by
  have hcn : pg' (8 * c + i) = none := by rw [hpg, if_neg (by omega)]; exact hpn
  have key : q_R S' (k_fs KT p c (i + 1)) n (fun x => if x = 8 * c + i then pg' (8 * p + i) else pg' x) (fun x => if pg' (8 * p + i) = some x then us' x + 1 else us' x) (fun x => if x = 8 * c + i then lab' (8 * p + i) else lab' x) L := by
    refine q_R_share hR hp hc hi hpc hcn ?_ ?_ ?_ ?_ ?_ ?_ ?_
    · intro q j hq hj
      rw [hR.2.2.1 p i hp hi]
      rcases hS with ⟨hn, rfl⟩ | ⟨f, hf, rfl⟩
      · rw [hn]
        by_cases hx : 8 * q + j = 8 * c + i
        · obtain ⟨rfl, rfl⟩ : q = c ∧ j = i := by omega
          simp [q_up, q_fe]
        · rw [if_neg hx, q_irr _ _ _ _ _ _ (by rintro ⟨q1, rfl⟩; cases q1; exact hx rfl)]
      · rw [hf, q_irr _ _ _ _ _ _ (by simp)]
        by_cases hx : 8 * q + j = 8 * c + i
        · obtain ⟨rfl, rfl⟩ : q = c ∧ j = i := by omega
          simp [q_up, q_fe]
        · rw [if_neg hx, q_irr _ _ _ _ _ _ (by rintro ⟨q1, rfl⟩; cases q1; exact hx rfl)]
    · intro x hx
      rcases hS with ⟨hn, rfl⟩ | ⟨f, hf, rfl⟩
      · rw [hn, q_irr _ _ _ _ _ _ (by simp)]
        simp
      · rw [hf]
        by_cases hxf : x = f
        · subst hxf
          rw [q_irs, q_irr _ _ _ _ _ _ (by simp), if_pos rfl, hR.2.2.2.1 x hx, nI_add]
        · rw [q_irr _ _ _ _ _ _ (fun q => hxf q.2), q_irr _ _ _ _ _ _ (by simp), if_neg (by intro q; cases q; exact hxf rfl)]
    · funext x
      rcases hS with ⟨hn, rfl⟩ | ⟨f, hf, rfl⟩
      · rw [q_irr _ _ _ _ _ _ (by simp)]
      · rw [q_irr _ _ _ _ _ _ (by simp), q_irr _ _ _ _ _ _ (by simp)]
    · funext x
      rcases hS with ⟨hn, rfl⟩ | ⟨f, hf, rfl⟩
      · rw [q_irr _ _ _ _ _ _ (by simp)]
      · rw [q_irr _ _ _ _ _ _ (by simp), q_irr _ _ _ _ _ _ (by simp)]
    · funext j
      simp [k_fs]
    · intro g
      unfold k_fs
      simp only [true_and]
      by_cases hg : g = 8 * c + i
      · subst hg
        rw [if_pos (by omega), if_pos rfl, if_neg (by omega), show (8 * c + i) % 8 = i by omega]
        simp
      · rw [if_neg hg]
        repeat' split
        all_goals first | rfl | (exfalso; omega)
    · intro x
      unfold k_fs
      simp only [true_and]
      by_cases hg : x / 8 = 8 * c + i
      · rw [if_neg (by simp), if_pos (by omega), if_pos hg, if_neg (by simp), if_neg (by omega), show 8 * (8 * p + i) + x % 8 = 64 * p + x % 64 by omega]
      · rw [if_neg hg]
        repeat' split
        all_goals first | rfl | (exfalso; omega)
  refine ⟨_, _, _, key, q_sm_tr hs (fun j a b d e => ?_), fun x => ?_⟩
  · funext x
    rcases hS with ⟨hn, rfl⟩ | ⟨f, hf, rfl⟩
    · rw [q_irr _ _ _ _ _ _ (by rintro ⟨rfl, -⟩; exact e rfl)]
    · rw [q_irr _ _ _ _ _ _ (by rintro ⟨rfl, -⟩; exact d rfl), q_irr _ _ _ _ _ _ (by rintro ⟨rfl, -⟩; exact e rfl)]
  · by_cases hx : x = 8 * c + i
    · rw [if_pos hx, if_pos (by omega), hpg, if_neg (by omega), hx, show (8 * c + i) % 8 = i by omega]
    · rw [if_neg hx, hpg]
      repeat' split
      all_goals first | rfl | (exfalso; omega)
theorem q_ff_eq {S : q_st} {K : k_t} (hT : q_T S K) : f_st (fun p => S (5, p) 0 = 0) 8 = k_ff K := f_st_congr (fun p hp => by rw [(hT.2.1 p hp).1])
theorem q_fork_F {S0 S4 S : q_st} {K : k_t} {n L B p a c : Nat} {pg : Nat → Option Nat} (hp : p < 8) (ha : a < 8) (hc : c < 8) (hF : q_F S0 K n L B) (hZ : q_Zn K pg) (hff : k_ff K = some c) (hft : q_ft S0 S4 K p a c) (hfi : q_fi S0 S4 (k_fT K p a c) n p c pg L 8 S) : q_F (q_up S (6, p) a (nI c)) (k_fk K p a).2 n L B ∧ q_fr S0 (q_up S (6, p) a (nI c)) := by
  obtain ⟨pg', us', lab', hR, hs, hpg⟩ := hfi
  rw [k_fs_8] at hR
  have hok := k_Ok_fk (a := a) hp hF.1
  have e : (k_fk K p a).2 = k_u (k_fk0 K p a c) 5 (8 * p + a) (nI c) := by
    unfold k_fk
    rw [hff]
  rw [e] at hok ⊢
  have h0 : ∀ j, k_fk0 K p a c 0 j = K 0 j := fun j => by simp [k_fk0]
  have hT : q_T S (k_fk0 K p a c) := by
    rw [← k_fs_8]
    refine q_T_sm hs (q_T_k (fun b _ h8 h9 => ?_) (fun j _ _ => ?_) (q_ft_T hc hft hF.2.1))
    · funext j; simp [k_fs, h8, h9]
    · simp [k_fs]
  have hC : q_C S (k_fk0 K p a c) := q_C_sm hs (q_C_sn (q_ft_sn hft) (q_C_k (fun j _ _ => h0 j) hF.2.2.1))
  have hsn : q_sn S (q_up S (6, p) a (nI c)) := q_sn_up (by simp)
  refine ⟨⟨hok, q_T_up (q_tcR hp ha) hT, q_C_sn hsn (q_C_k (fun j _ _ => k_u_ne _ _ _ _ (by simp)) hC), pg', us', lab', q_R_sn hsn (k_u_k _ _ _ _ (by decide)) (k_u_k _ _ _ _ (by decide)) (k_u_ne _ _ _ _ (by simp)) (k_u_ne _ _ _ _ (by simp)) hR, ?_⟩, q_fr_tr (q_fr_tr (q_fr_sn (q_ft_sn hft)) (q_fr_sm hs)) (q_fr_sn hsn)⟩
  intro q hq hss i hi
  rw [k_u_k _ _ _ _ (by decide)] at hss
  by_cases hqc : q = c
  · subst hqc
    simp [k_fk0] at hss
    rcases hss with hss | hss <;> exact absurd hss (by decide)
  · rw [hpg, if_neg (by omega)]
    refine hZ q hq ?_ i hi
    simpa [k_fk0, hqc] using hss

set_option maxRecDepth 100000 in
set_option maxHeartbeats 4000000 in
theorem lp_fork_103 {G : q_g} {n : Nat} {ad : q_ix → Nat} {X : q_cx} (F : q_fx G X iX3_fork) {S0 S4 : q_st} {K : k_t} {p a c L B : Nat} (hp : p < 8) (ha : a < 8) (hc : c < 8) (hpc : p ≠ c) (hF : q_F S0 K n L B) {pg : Nat → Option Nat} (hZ : q_Zn K pg) (hc0 : K 2 c = 0) (hff : k_ff K = some c) (hft : q_ft S0 S4 K p a c) (E : q_en G X iX3_fork (q_pi (q_w G n ad) (fun r S' => r = (k_fk K p a).1 ∧ q_F S' (k_fk K p a).2 n L B ∧ q_fr S0 S'))) : ∀ i, i ≤ 8 → ∀ S, q_fi S0 S4 (k_fT K p a c) n p c pg L i S → q_W G X iX3_fork (q_w G n ad) (0, 0) 103 [some (.inr (some (0, 0))), some (.inl (nI p)), some (.inl (nI a)), some (.inr (some (5, p))), some (.inl (nI c)), some (.inr (some (5, c))), some (.inl (nI i))] [] S := by
  refine q_loop (fun i hi8 ih => ?_)
  intro S hfi
  refine q_iload F dX3_fork_103 rfl ?_
  refine q_bipush F (nI 8) dX3_fork_105 (by decide) ?_
  refine q_icmpN_ge F 146 dX3_fork_107 (by decide) (by omega) (by omega) (fun h107 => ?_) (fun h107 => ?_)
  · obtain rfl : i = 8 := by omega
    refine q_aload_n F dX3_fork_146 rfl ?_
    refine q_getr F (k := 5) fkX3_103 (q_m5 (by omega)) rfl rfl dX3_fork_147 ?_
    refine q_iload_n F dX3_fork_150 rfl ?_
    refine q_iload F dX3_fork_151 rfl ?_
    refine q_iast F (_) (q_m6 (by omega)) rfl rfl (by omega) (by omega) dX3_fork_153 ?_
    refine q_iconst F (nI 3) dX3_fork_154 (by decide) ?_
    refine q_iret F E rfl ⟨by unfold k_fk; rw [hff], q_fork_F hp ha hc hF hZ hff hft hfi⟩ dX3_fork_155
  · obtain ⟨pg1, us1, lab1, hR, hs, hpg⟩ := hfi
    have hn := hR.1.2
    have h7 := hR.2.2.1 p i hp h107
    cases hf : pg1 (8 * p + i)
    · refine q_aload F dX3_fork_110 rfl ?_
      refine q_getr F (k := 6) fkX3_112 (q_m5 (by omega)) rfl rfl dX3_fork_112 ?_
      refine q_iload F dX3_fork_115 rfl ?_
      refine q_aload_n F dX3_fork_117 rfl ?_
      refine q_getr F (k := 6) fkX3_112 (q_m5 (by omega)) rfl rfl dX3_fork_118 ?_
      refine q_iload F dX3_fork_121 rfl ?_
      refine q_iald F (_) (q_m7 (by omega)) rfl rfl (by omega) (by omega) dX3_fork_123 ?_
      refine q_top (-1) (by rw [h7, hf]; rfl) ?_
      refine q_iast F (_) (q_m7 (by omega)) rfl rfl (by omega) (by omega) dX3_fork_124 ?_
      refine q_aload_n F dX3_fork_125 rfl ?_
      refine q_getr F (k := 0) fkX3_14 q_m0 rfl rfl dX3_fork_126 ?_
      refine q_aload F dX3_fork_129 rfl ?_
      refine q_getr F (k := 6) fkX3_112 (q_m5 (by omega)) rfl rfl dX3_fork_131 ?_
      refine q_iload F dX3_fork_134 rfl ?_
      refine q_iald F (_) (q_m7 (by omega)) rfl rfl (by omega) (by omega) dX3_fork_136 ?_
      refine q_top (-1) (q_irs _ _ _ _) ?_
      refine q_callVv F [.inl (-1)] (fun l => t_join0 l _) clX3_168 rfl q_m1 rfl rfl rfl ⟨Nat.le_of_ble_eq_true rfl, Nat.le_of_ble_eq_true rfl⟩ (Nat.le_of_ble_eq_true rfl) ⟨rfl, rfl⟩ ⟨Nat.zero_le _, Nat.zero_le _⟩ dX3_fork_137 (fun S' hS => ?_)
      subst hS
      refine q_iinc_6 F _ dX3_fork_140 (q_inc1 _) (by decide) ?_
      exact q_goto F 103 dX3_fork_143 (by decide) (ih h107 _ (q_fi_s hp hc hpc h107 (hZ c hc (Or.inl hc0) i h107) hR hs hpg (Or.inl ⟨hf, rfl⟩)))
    · rename_i f
      have hff2 := (hR.2.1.1 _ _ hf).1
      refine q_aload F dX3_fork_110 rfl ?_
      refine q_getr F (k := 6) fkX3_112 (q_m5 (by omega)) rfl rfl dX3_fork_112 ?_
      refine q_iload F dX3_fork_115 rfl ?_
      refine q_aload_n F dX3_fork_117 rfl ?_
      refine q_getr F (k := 6) fkX3_112 (q_m5 (by omega)) rfl rfl dX3_fork_118 ?_
      refine q_iload F dX3_fork_121 rfl ?_
      refine q_iald F (_) (q_m7 (by omega)) rfl rfl (by omega) (by omega) dX3_fork_123 ?_
      refine q_top (nI f) (by rw [h7, hf]; rfl) ?_
      refine q_iast F (_) (q_m7 (by omega)) rfl rfl (by omega) (by omega) dX3_fork_124 ?_
      refine q_aload_n F dX3_fork_125 rfl ?_
      refine q_getr F (k := 0) fkX3_14 q_m0 rfl rfl dX3_fork_126 ?_
      refine q_aload F dX3_fork_129 rfl ?_
      refine q_getr F (k := 6) fkX3_112 (q_m5 (by omega)) rfl rfl dX3_fork_131 ?_
      refine q_iload F dX3_fork_134 rfl ?_
      refine q_iald F (_) (q_m7 (by omega)) rfl rfl (by omega) (by omega) dX3_fork_136 ?_
      refine q_top (nI f) (q_irs _ _ _ _) ?_
      refine q_callVv F [.inl (nI f)] (fun l => t_join l _ hff2 hn) clX3_168 rfl q_m1 rfl rfl rfl ⟨Nat.le_of_ble_eq_true rfl, Nat.le_of_ble_eq_true rfl⟩ (Nat.le_of_ble_eq_true rfl) ⟨rfl, rfl⟩ ⟨Nat.zero_le _, Nat.zero_le _⟩ dX3_fork_137 (fun S' hS => ?_)
      subst hS
      refine q_iinc_6 F _ dX3_fork_140 (q_inc1 _) (by decide) ?_
      exact q_goto F 103 dX3_fork_143 (by decide) (ih h107 _ (q_fi_s hp hc hpc h107 (hZ c hc (Or.inl hc0) i h107) hR hs hpg (Or.inr ⟨f, hf, rfl⟩)))

theorem q_ft_mk {S0 : q_st} {K : k_t} {p a c : Nat} : q_ft S0 (q_up (q_fill (q_up (q_up (q_fill (q_up (q_up (q_up S0 (5, c) 0 (nI 1)) (5, c) 1 (nI p)) (5, c) 3 (nI 0)) (6, c) 0 8 (fun _ => 0)) (5, c) 3 (K 6 p)) (5, c) 4 (K 7 p)) (6, c) 0 8 (fun x => K 5 (8 * p + x))) (6, c) a (nI 0)) K p a c := by
  refine ⟨fun q s => ?_, fun q r hr => ?_, fun j h5 h6 => ?_⟩
  · by_cases hq : q = c
    · subst hq
      simp [q_up, q_fill]
      repeat' split
      all_goals first | rfl | (exfalso; omega) | simp_all
    · simp [q_up, q_fill, hq]
  · by_cases hq : q = c
    · subst hq
      simp [q_up, q_fill]
      by_cases hra : r = a
      · simp [hra]; rfl
      · simp [hra, hr]
    · simp [q_up, q_fill, hq]
  · funext x
    obtain ⟨j1, j2⟩ := j
    simp only at h5 h6
    simp [q_up, q_fill, h5, h6]

set_option maxRecDepth 100000 in
set_option maxHeartbeats 4000000 in
theorem lp_fork_64 {G : q_g} {n : Nat} {ad : q_ix → Nat} {X : q_cx} (F : q_fx G X iX3_fork) {S0 : q_st} {K : k_t} {p a c L B : Nat} (hp : p < 8) (ha : a < 8) (hc : c < 8) (hpc : p ≠ c) (hF : q_F S0 K n L B) {pg : Nat → Option Nat} {us lab : Nat → Nat} (hR : q_R S0 K n pg us lab L) (hZ : q_Zn K pg) (hc0 : K 2 c = 0) (hff : k_ff K = some c) (E : q_en G X iX3_fork (q_pi (q_w G n ad) (fun r S' => r = (k_fk K p a).1 ∧ q_F S' (k_fk K p a).2 n L B ∧ q_fr S0 S'))) : ∀ i, i ≤ 8 → q_W G X iX3_fork (q_w G n ad) (0, 0) 64 [some (.inr (some (0, 0))), some (.inl (nI p)), some (.inl (nI a)), some (.inr (some (5, p))), some (.inl (nI c)), some (.inr (some (5, c))), some (.inl (nI i))] [] (q_fill (q_up (q_up (q_fill (q_up (q_up (q_up S0 (5, c) 0 (nI 1)) (5, c) 1 (nI p)) (5, c) 3 (nI 0)) (6, c) 0 8 (fun _ => 0)) (5, c) 3 (K 6 p)) (5, c) 4 (K 7 p)) (6, c) 0 i (fun x => K 5 (8 * p + x))) := by
  refine q_loop (fun i hi8 ih => ?_)
  refine q_iload F dX3_fork_64 rfl ?_
  refine q_bipush F (nI 8) dX3_fork_66 (by decide) ?_
  refine q_icmpN_ge F 92 dX3_fork_68 (by decide) (by omega) (by omega) (fun h68 => ?_) (fun h68 => ?_)
  · obtain rfl : i = 8 := by omega
    refine q_aload F dX3_fork_92 rfl ?_
    refine q_getr F (k := 5) fkX3_103 (q_m5 (by omega)) rfl rfl dX3_fork_94 ?_
    refine q_iload_n F dX3_fork_97 rfl ?_
    refine q_iconst F (nI 0) dX3_fork_98 (by decide) ?_
    refine q_iast F (_) (q_m6 (by omega)) rfl rfl (by omega) (by omega) dX3_fork_99 ?_
    refine q_iconst F (nI 0) dX3_fork_100 (by decide) ?_
    refine q_istore_6 F dX3_fork_101 (by decide) ?_
    have hft : q_ft S0 (q_up (q_fill (q_up (q_up (q_fill (q_up (q_up (q_up S0 (5, c) 0 (nI 1)) (5, c) 1 (nI p)) (5, c) 3 (nI 0)) (6, c) 0 8 (fun _ => 0)) (5, c) 3 (K 6 p)) (5, c) 4 (K 7 p)) (6, c) 0 8 (fun x => K 5 (8 * p + x))) (6, c) a (nI 0)) K p a c := q_ft_mk
    refine lp_fork_103 F hp ha hc hpc hF hZ hc0 hff hft E 0 (by decide) _ ⟨pg, us, lab, ?_, q_sm_rf _, fun x => by rw [if_neg (by omega)]⟩
    rw [k_fs_0]
    exact q_R_sn (q_ft_sn hft) (by funext j; simp [k_fT]) (by funext j; simp [k_fT]) (by simp [k_fT]) (by simp [k_fT]) hR
  · refine q_aload F dX3_fork_71 rfl ?_
    refine q_getr F (k := 5) fkX3_103 (q_m5 (by omega)) rfl rfl dX3_fork_73 ?_
    refine q_iload F dX3_fork_76 rfl ?_
    refine q_aload_n F dX3_fork_78 rfl ?_
    refine q_getr F (k := 5) fkX3_103 (q_m5 (by omega)) rfl rfl dX3_fork_79 ?_
    refine q_iload F dX3_fork_82 rfl ?_
    refine q_iald F (_) (q_m6 (by omega)) rfl rfl (by omega) (by omega) dX3_fork_84 ?_
    refine q_top (K 5 (8 * p + i)) (by rw [q_fill_ne _ _ _ _ _ _ (by simp [hpc])]; simp [q_up, q_fill, hpc]; exact hF.2.1.2.2.1 p i hp h68) ?_
    refine q_iast F (0 + i) (q_m6 (by omega)) rfl (by rw [Nat.zero_add]) (by omega) (by omega) dX3_fork_85 ?_
    rw [q_fill_s _ _ _ _ (fun x => K 5 (8 * p + x)) _ (by rw [Nat.zero_add])]
    refine q_iinc_6 F _ dX3_fork_86 (q_inc1 _) (by decide) ?_
    exact q_goto F 64 dX3_fork_89 (by decide) (ih h68)

set_option maxRecDepth 100000 in
set_option maxHeartbeats 4000000 in
theorem t_fork {G : q_g} {n : Nat} {ad : q_ix → Nat} (l : Launch) (S0 : q_st) {K : k_t} {p a L B : Nat} (hp : p < 8) (ha : a < 8) (hF : q_F S0 K n L B) (hlive : ¬ (K 2 p = 0 ∨ K 2 p = nI 3)) : q_Ct l G iX3_fork [.inr (some (0, 0)), .inl (nI p), .inl (nI a)] (q_w G n ad) (S0) (q_pi (q_w G n ad) (fun r S' => r = (k_fk K p a).1 ∧ q_F S' (k_fk K p a).2 n L B ∧ q_fr S0 S')) := by
  refine q_enter (by decide) (Nat.le_of_ble_eq_true rfl) (fun X F E => ?_)
  show q_W G X iX3_fork (q_w G n ad) (0, 0) 0 [some (.inr (some (0, 0))), some (.inl (nI p)), some (.inl (nI a)), none, none, none, none] [] (S0)
  obtain ⟨hok, hT0, hC, pg, us, lab, hR, hZ⟩ := id hF
  refine q_aload_n F dX3_fork_0 rfl ?_
  refine q_getr F (k := 1) fkX3_20 q_m0 rfl rfl dX3_fork_1 ?_
  refine q_iload_n F dX3_fork_4 rfl ?_
  refine q_aald F (_) q_m4 rfl rfl (by omega) (by decide) rfl dX3_fork_5 ?_
  refine q_astore_n_3 F dX3_fork_6 (by decide) ?_
  refine q_aload_n F dX3_fork_7 rfl ?_
  refine q_callVi F [] (fun l => t_firstFree l S0) clX3_46 rfl q_m0 rfl rfl rfl ⟨Nat.le_of_ble_eq_true rfl, Nat.le_of_ble_eq_true rfl⟩ (Nat.le_of_ble_eq_true rfl) ⟨rfl, rfl⟩ ⟨Nat.zero_le _, Nat.zero_le _⟩ dX3_fork_8 (fun v1 S1 hv1 => ?_)
  obtain ⟨hv1, hS1⟩ := hv1
  have hS1 := hS1.symm
  subst hS1
  rw [q_ff_eq hT0] at hv1
  subst hv1
  rcases f_st_spec (P := fun p => K 2 p = 0) 8 with ⟨hff, -⟩ | ⟨c, hff, hc, hc0, -⟩
  · refine q_top (-1) (by unfold k_ff; rw [hff]; rfl) ?_
    refine q_istore_4 F dX3_fork_11 (by decide) ?_
    refine q_iload F dX3_fork_13 rfl ?_
    refine q_iconst F (-1) dX3_fork_15 (by decide) ?_
    refine q_icmp_ne F 28 dX3_fork_16 (by decide) (fun h16 => ?_) (fun h16 => ?_)
    · exact absurd rfl h16
    · refine q_aload_n F dX3_fork_19 rfl ?_
      refine q_getr F (k := 5) fkX3_103 (q_m5 (by omega)) rfl rfl dX3_fork_20 ?_
      refine q_iload_n F dX3_fork_23 rfl ?_
      refine q_iconst F (-1) dX3_fork_24 (by decide) ?_
      refine q_iast F (_) (q_m6 (by omega)) rfl rfl (by omega) (by omega) dX3_fork_25 ?_
      refine q_iconst F (nI 1) dX3_fork_26 (by decide) ?_
      refine q_iret F E rfl (by unfold k_fk k_ff; rw [hff]; exact ⟨rfl, q_F_up (q_tcR hp ha) (by simp) hF, q_fr_up (by simp)⟩) dX3_fork_27
  · refine q_top (nI c) (by unfold k_ff; rw [hff]; rfl) ?_
    have hpc : p ≠ c := by rintro rfl; exact hlive (Or.inl hc0)
    refine q_istore_4 F dX3_fork_11 (by decide) ?_
    refine q_iload F dX3_fork_13 rfl ?_
    refine q_iconst F (-1) dX3_fork_15 (by decide) ?_
    refine q_icmp_ne F 28 dX3_fork_16 (by decide) (fun h16 => ?_) (fun h16 => ?_)
    · refine q_aload_n F dX3_fork_28 rfl ?_
      refine q_getr F (k := 1) fkX3_20 q_m0 rfl rfl dX3_fork_29 ?_
      refine q_iload F dX3_fork_32 rfl ?_
      refine q_aald F (_) q_m4 rfl rfl (by omega) (by decide) rfl dX3_fork_34 ?_
      refine q_astore_5 F dX3_fork_35 (by decide) ?_
      refine q_aload F dX3_fork_37 rfl ?_
      refine q_iload_n F dX3_fork_39 rfl ?_
      refine q_callVv F [.inl (nI p)] (fun l => t_begin l S0 hc) clX3_53 rfl (q_m5 (by omega)) rfl rfl rfl ⟨Nat.le_of_ble_eq_true rfl, Nat.le_of_ble_eq_true rfl⟩ (Nat.le_of_ble_eq_true rfl) ⟨rfl, rfl⟩ ⟨Nat.zero_le _, Nat.zero_le _⟩ dX3_fork_40 (fun S1 hS1 => ?_)
      subst hS1
      refine q_aload F dX3_fork_43 rfl ?_
      refine q_aload_n F dX3_fork_45 rfl ?_
      refine q_geti F (k := 3) fkX3_100 (q_m5 (by omega)) rfl rfl dX3_fork_46 ?_
      refine q_top (K 6 p) (by simp [q_up, q_fill, hpc]; exact (hT0.2.1 p hp).2.2.2.1) ?_
      refine q_puti F (k := 3) fkX3_100 fp2_3 (q_m5 (by omega)) rfl rfl dX3_fork_49 ?_
      refine q_aload F dX3_fork_52 rfl ?_
      refine q_aload_n F dX3_fork_54 rfl ?_
      refine q_geti F (k := 4) fkX3_56 (q_m5 (by omega)) rfl rfl dX3_fork_55 ?_
      refine q_top (K 7 p) (by simp [q_up, q_fill, hpc]; exact (hT0.2.1 p hp).2.2.2.2) ?_
      refine q_puti F (k := 4) fkX3_56 fp2_4 (q_m5 (by omega)) rfl rfl dX3_fork_58 ?_
      refine q_iconst F (nI 0) dX3_fork_61 (by decide) ?_
      refine q_istore_6 F dX3_fork_62 (by decide) ?_
      have h := lp_fork_64 F hp ha hc hpc hF hR hZ hc0 hff E 0 (by decide)
      rw [q_fill_0] at h
      exact h
    · exact absurd h16 (q_nm1 (by omega))
end
section
/-! the class: load (rows laid by wip/whole/m56.py) -/
def k_lT (K : k_t) (c len : Nat) : k_t := fun a j => if a = 2 ∧ j = c then nI 1 else if a = 3 ∧ j = c then -1 else if a = 6 ∧ j = c then 0 else if a = 7 ∧ j = c then nI len else if a = 5 ∧ j / 8 = c then 0 else K a j
def k_lt (K : k_t) (c L t : Nat) : k_t := fun a j => if a = 0 ∧ j = 11 then nI (L + (t + 7) / 8) else if a = 9 ∧ j / 8 = c ∧ j % 8 < (t + 7) / 8 then nI (L + j % 8 + 1) else if a = 8 ∧ j / 64 = c ∧ j % 64 < t then K 1 (j % 64) else K a j
theorem k_lt_0 (K : k_t) (c L : Nat) (h : K 0 11 = nI L) : k_lt K c L 0 = K := by
  funext a j
  unfold k_lt
  split
  next q => rw [q.1, q.2, h]; rfl
  next =>
    rw [if_neg (by omega), if_neg (by omega)]
theorem k_lt_same (K : k_t) (c L t : Nat) (h : t % 8 ≠ 0) : k_u (k_lt K c L t) 8 (64 * c + t) (K 1 t) = k_lt K c L (t + 1) ∨ 64 ≤ t := by
  by_cases ht : 64 ≤ t
  · exact Or.inr ht
  · left
    funext a j
    unfold k_u k_lt
    rw [show (t + 1 + 7) / 8 = (t + 7) / 8 by omega]
    by_cases h8 : a = 8 ∧ j = 64 * c + t
    · rw [if_pos h8, if_neg (by omega), if_neg (by omega), if_pos ⟨h8.1, by omega, by omega⟩, show j % 64 = t by omega]
    · rw [if_neg h8]
      repeat' split
      all_goals first | rfl | (exfalso; omega)
theorem k_lt_new (K : k_t) (c L t : Nat) (h : t % 8 = 0) (ht : t < 64) : k_u (k_u (k_u (k_lt K c L t) 0 11 (k_lt K c L t 0 11 + 1)) 9 (8 * c + t / 8) (k_lt K c L t 0 11 + 1)) 8 (64 * c + t) (K 1 t) = k_lt K c L (t + 1) := by
  have e : k_lt K c L t 0 11 + 1 = nI (L + t / 8 + 1) := by
    unfold k_lt
    rw [if_pos ⟨rfl, rfl⟩, nI_1, show (t + 7) / 8 = t / 8 by omega]
  rw [e]
  funext a j
  unfold k_u k_lt
  rw [show (t + 1 + 7) / 8 = t / 8 + 1 by omega, show (t + 7) / 8 = t / 8 by omega]
  by_cases h8 : a = 8 ∧ j = 64 * c + t
  · rw [if_pos h8, if_neg (by omega), if_neg (by omega), if_pos ⟨h8.1, by omega, by omega⟩, show j % 64 = t by omega]
  · rw [if_neg h8]
    by_cases h9 : a = 9 ∧ j = 8 * c + t / 8
    · rw [if_pos h9, if_neg (by omega), if_pos ⟨h9.1, by omega, by omega⟩, show j % 8 = t / 8 by omega]
    · rw [if_neg h9]
      by_cases h0 : a = 0 ∧ j = 11
      · rw [if_pos h0, if_pos h0, Nat.add_assoc]
      · rw [if_neg h0, if_neg h0, if_neg h0]
        repeat' split
        all_goals first | rfl | (exfalso; omega)
theorem k_fr_9 {K K' : k_t} (h : K' 9 = K 9) : k_fr K' = k_fr K := by
  unfold k_fr
  rw [h]
theorem k_fr_add {K K' : k_t} {g : Nat} {v : Int32} (hg : g < 64) (h0 : K 9 g = 0) (hv : 0 < v.toInt) (hf : ∀ j, j < 64 → ¬ K 9 j = v) (h : ∀ j, K' 9 j = if j = g then v else K 9 j) : k_fr K' = k_fr K + 1 := by
  unfold k_fr
  have e : c_n (fun g => 0 < (K' 9 g).toInt ∧ ∀ j, j < g → ¬ K' 9 j = K' 9 g) 64 = c_n (fun i => (i < 64 ∧ 0 < (K' 9 i).toInt ∧ ∀ j, j < i → ¬ K' 9 j = K' 9 i)) 64 := c_n_congr (fun i hi => ⟨fun q => ⟨hi, q⟩, fun q => q.2⟩)
  have e2 : c_n (fun g => 0 < (K 9 g).toInt ∧ ∀ j, j < g → ¬ K 9 j = K 9 g) 64 = c_n (fun i => (i < 64 ∧ 0 < (K 9 i).toInt ∧ ∀ j, j < i → ¬ K 9 j = K 9 i)) 64 := c_n_congr (fun i hi => ⟨fun q => ⟨hi, q⟩, fun q => q.2⟩)
  rw [e, e2]
  refine c_n_add (k := g) ?_ ?_ (fun i hi => ?_) hg
  · rintro ⟨-, q, -⟩
    rw [h0] at q
    exact absurd q (by decide)
  · refine ⟨hg, by rw [h, if_pos rfl]; exact hv, fun j hj => ?_⟩
    rw [h j, if_neg (by omega), h g, if_pos rfl]
    exact hf j (by omega)
  · rw [h i, if_neg hi]
    constructor
    · rintro ⟨q1, q2, q3⟩
      refine ⟨q1, q2, fun j hj => ?_⟩
      rw [h j]
      split
      · exact fun z => hf i q1 z.symm
      · exact q3 j hj
    · rintro ⟨q1, q2, q3⟩
      refine ⟨q1, q2, fun j hj => ?_⟩
      have := q3 j hj
      rw [h j] at this
      split at this
      next hjg =>
        subst hjg
        rw [h0]
        intro z
        rw [← z] at q2
        exact absurd q2 (by decide)
      · exact this
def q_ltf (S0 S : q_st) (c len : Nat) : Prop := (∀ q s, S (5, q) s = if q = c then (if s = 0 then nI 1 else if s = 1 then -1 else if s = 3 then 0 else if s = 4 then nI len else S0 (5, q) s) else S0 (5, q) s) ∧ (∀ q r, r < 8 → S (6, q) r = if q = c then 0 else S0 (6, q) r) ∧ ∀ j : q_ix, j.1 ≠ 5 → j.1 ≠ 6 → S j = S0 j
theorem q_ltf_T {S0 S : q_st} {K : k_t} {c len : Nat} (h : q_ltf S0 S c len) (hT : q_T S0 K) : q_T S (k_lT K c len) := by
  obtain ⟨f5, f6, fo⟩ := h
  obtain ⟨h1, h2, h3, h4, h5, h6⟩ := hT
  refine ⟨fun i hi => ?_, fun q hq => ?_, fun q r hq hr => ?_, ?_, fun i hi => ?_, ?_⟩
  · rw [fo (10, 0) (by simp) (by simp)]; simp [k_lT]; exact h1 i hi
  · obtain ⟨t0, t1, t2, t3, t4⟩ := h2 q hq
    by_cases hqc : q = c
    · subst hqc
      simp [f5, k_lT, t2]
    · simp [f5, k_lT, hqc, t0, t1, t2, t3, t4]
  · rw [f6 q r hr]
    by_cases hqc : q = c
    · subst hqc
      simp [k_lT, show (8 * q + r) / 8 = q by omega]
    · rw [if_neg hqc, h3 q r hq hr]
      simp [k_lT, show ¬ (8 * q + r) / 8 = c by omega]
  · rw [fo (8, 0) (by simp) (by simp)]; simp [k_lT]; exact h4
  · rw [fo (9, 0) (by simp) (by simp)]; simp [k_lT]; exact h5 i hi
  · rw [fo (0, 0) (by simp) (by simp)]; simp [k_lT]; exact h6
theorem q_ltf_mk {S0 : q_st} {c len : Nat} : q_ltf S0 (q_up (q_fill (q_up (q_up (q_up S0 (5, c) 0 (nI 1)) (5, c) 1 (-1)) (5, c) 3 (nI 0)) (6, c) 0 8 (fun _ => 0)) (5, c) 4 (nI len)) c len := by
  refine ⟨fun q s => ?_, fun q r hr => ?_, fun j h5 h6 => ?_⟩
  · by_cases hq : q = c
    · subst hq
      simp [q_up, q_fill]
      repeat' split
      all_goals first | rfl | (exfalso; omega) | simp_all
    · simp [q_up, q_fill, hq]
  · by_cases hq : q = c
    · subst hq
      simp [q_up, q_fill, hr]
    · simp [q_up, q_fill, hq]
  · funext x
    obtain ⟨j1, j2⟩ := j
    simp only at h5 h6
    simp [q_up, q_fill, h5, h6]
/-- t words are loaded -/
def q_li (S1 : q_st) (KT : k_t) (n c L fr0 : Nat) (pg : Nat → Option Nat) (t : Nat) (S : q_st) : Prop := ∃ (pg' : Nat → Option Nat) (us' lab' : Nat → Nat), q_R S (k_lt KT c L t) n pg' us' lab' (L + (t + 7) / 8) ∧ q_sm S1 S ∧ (∀ x, x / 8 ≠ c → pg' x = pg x) ∧ (∀ i, (t + 7) / 8 ≤ i → i < 8 → pg' (8 * c + i) = none) ∧ (t % 8 ≠ 0 → ∃ f, pg' (8 * c + t / 8) = some f ∧ us' f = 1) ∧ k_fr (k_lt KT c L t) = fr0 + (t + 7) / 8
/-- a page of the new process is owned -/
theorem q_li_own {S1 S S2 : q_st} {KT : k_t} {n c L fr0 t len : Nat} {pg pg' : Nat → Option Nat} {us' lab' : Nat → Nat} {r : Int32} (hc : c < 8) (ht : t < len) (hlen : len ≤ 64) (hfr : fr0 + (len + 7) / 8 ≤ n) (hL : L + 9 < 2 ^ 30)
    (hR : q_R S (k_lt KT c L t) n pg' us' lab' (L + (t + 7) / 8)) (hs : q_sm S1 S) (hx : ∀ x, x / 8 ≠ c → pg' x = pg x) (hnone : ∀ i, (t + 7) / 8 ≤ i → i < 8 → pg' (8 * c + i) = none) (hal : t % 8 ≠ 0 → ∃ f, pg' (8 * c + t / 8) = some f ∧ us' f = 1) (hkf : k_fr (k_lt KT c L t) = fr0 + (t + 7) / 8)
    (h : q_pgo true S (k_lt KT c L t) n pg' (L + (t + 7) / 8) (8 * c + t / 8) r S2) : r = nI 0 ∧ ∃ (f : Nat) (pg2 : Nat → Option Nat) (us2 lab2 : Nat → Nat), q_R S2 (k_pg (k_lt KT c L t) (8 * c + t / 8) true).2 n pg2 us2 lab2 (L + (t + 1 + 7) / 8) ∧ q_sm S1 S2 ∧ pg2 (8 * c + t / 8) = some f ∧ us2 f = 1 ∧ ∀ (S3 : q_st), S3 = q_up S2 (2, 0) (8 * f + t % 8) (KT 1 t) → q_li S1 KT n c L fr0 pg (t + 1) S3 := by
  have hg : 8 * c + t / 8 < 64 := by omega
  have hn := hR.1
  -- what the page is
  have hk : (t % 8 ≠ 0 ∧ k_pg (k_lt KT c L t) (8 * c + t / 8) true = (true, k_lt KT c L t)) ∨ (t % 8 = 0 ∧ k_pg (k_lt KT c L t) (8 * c + t / 8) true = (true, k_u (k_u (k_lt KT c L t) 0 11 (k_lt KT c L t 0 11 + 1)) 9 (8 * c + t / 8) (k_lt KT c L t 0 11 + 1))) := by
    have hsh := q_R_sh hR hg
    by_cases h8 : t % 8 = 0
    · right
      refine ⟨h8, ?_⟩
      rw [hnone (t / 8) (by omega) (by omega)] at hsh
      rw [k_pg_f (by rw [hsh]; simp)]
      unfold k_al
      rw [if_neg]
      rw [hkf, hR.2.2.2.2.2.2.1, nI_eq (by omega) (by omega)]
      omega
    · left
      obtain ⟨f, hf, hu⟩ := hal h8
      rw [hf] at hsh
      have hsh : k_sh (k_lt KT c L t) (8 * c + t / 8) = us' f := hsh
      exact ⟨h8, k_pg_t (by rw [hsh, hu]; decide) (Or.inr (by rw [hsh]; exact hu))⟩
  rcases h with ⟨h1, h2, pg2, us2, lab2, L2, h3, h4, h5, h6, h7, f, hf, hu⟩ | ⟨h1, h2, h3, h4⟩
  · have hL2 : L2 = L + (t + 1 + 7) / 8 := by
      have e := h3.2.2.2.2.2.2.2.2.1
      have e1 := h3.2.2.2.2.2.2.2.2.2
      rcases hk with ⟨h8, hk⟩ | ⟨h8, hk⟩
      · rw [hk] at e
        have e : k_lt KT c L t 0 11 = nI L2 := e
        have e2 : k_lt KT c L t 0 11 = nI (L + (t + 7) / 8) := by simp [k_lt]
        rw [e2, nI_eq (by omega) (by omega)] at e
        omega
      · rw [hk] at e
        have e2 : k_u (k_u (k_lt KT c L t) 0 11 (k_lt KT c L t 0 11 + 1)) 9 (8 * c + t / 8) (k_lt KT c L t 0 11 + 1) 0 11 = nI (L + (t + 7) / 8 + 1) := by
          rw [k_u_ne _ _ _ _ (by simp), k_u_at]
          simp [k_lt, nI_1]
        rw [show ((true, k_u (k_u (k_lt KT c L t) 0 11 (k_lt KT c L t 0 11 + 1)) 9 (8 * c + t / 8) (k_lt KT c L t 0 11 + 1)) : Bool × k_t).2 0 11 = nI (L + (t + 7) / 8 + 1) from e2, nI_eq (by omega) (by omega)] at e
        omega
    subst hL2
    refine ⟨h1, f, pg2, us2, lab2, h3, q_sm_tr hs h6, hf, hu rfl, fun S3 hS3 => ?_⟩
    subst hS3
    have hKe : k_u (k_pg (k_lt KT c L t) (8 * c + t / 8) true).2 8 (64 * c + t) (KT 1 t) = k_lt KT c L (t + 1) := by
      rcases hk with ⟨h8, hk⟩ | ⟨h8, hk⟩
      · rw [hk]
        exact (k_lt_same KT c L t h8).resolve_right (by omega)
      · rw [hk]
        exact k_lt_new KT c L t h8 (by omega)
    refine ⟨pg2, us2, lab2, ?_, q_sm_tr (q_sm_tr hs h6) (fun j a b d e => q_up_other _ _ _ _ _ (by rintro rfl; exact b rfl)), fun x hxx => ?_, fun i hi hi8 => ?_, fun h8 => ⟨f, by rw [show (t + 1) / 8 = t / 8 by omega]; exact hf, hu rfl⟩, ?_⟩
    · rw [← hKe]
      refine q_R_put (v := KT 1 t) h3 hf (hu rfl) (k := t % 8) (by omega) (fun x => ?_) (fun i j hi => ?_) (fun x => ?_) (fun a ha => ?_)
      · simp only [q_up, true_and]
      · rw [q_irr _ _ _ _ _ _ (fun q => hi q.1)]
      · simp only [k_u, true_and]
        rw [show 64 * c + t = 8 * (8 * c + t / 8) + t % 8 by omega]
      · exact k_u_k _ _ _ _ ha
    · rw [h7 x (by omega)]
      exact hx x hxx
    · rw [h7 _ (by omega)]
      exact hnone i (by omega) hi8
    · rw [← hKe, k_fr_9 (k_u_k _ _ _ _ (by decide))]
      rcases hk with ⟨h8, hk⟩ | ⟨h8, hk⟩
      · rw [hk]
        show k_fr (k_lt KT c L t) = _
        rw [hkf]
        omega
      · rw [hk]
        have hlab : ∀ g, g < 64 → k_lt KT c L t 9 g = nI (lab' g) ∧ lab' g ≤ L + (t + 7) / 8 := fun g hg => ⟨hR.2.2.2.2.2.2.2.1 g hg, hR.2.1.2.1 g hg⟩
        have e11 : k_lt KT c L t 0 11 + 1 = nI (L + (t + 7) / 8 + 1) := by simp [k_lt, nI_1]
        rw [k_fr_add (K := k_lt KT c L t) (g := 8 * c + t / 8) (v := nI (L + (t + 7) / 8 + 1)) hg ?_ ?_ ?_ ?_, hkf]
        · omega
        · rw [(hlab _ hg).1, (hR.2.1.2.2.1 _ hg).mp (hnone (t / 8) (by omega) (by omega))]
          rfl
        · rw [nI_toInt (by omega)]
          omega
        · intro j hj
          rw [(hlab j hj).1, nI_eq (by have := (hlab j hj).2; omega) (by omega)]
          have := (hlab j hj).2
          omega
        · intro j
          show k_u (k_u (k_lt KT c L t) 0 11 (k_lt KT c L t 0 11 + 1)) 9 (8 * c + t / 8) (k_lt KT c L t 0 11 + 1) 9 j = _
          rw [e11]
          by_cases hj : j = 8 * c + t / 8
          · rw [hj, k_u_at, if_pos rfl]
          · rw [k_u_ne _ _ _ _ (fun q => hj q.2), k_u_ne _ _ _ _ (by simp), if_neg hj]
  · exfalso
    rcases hk with ⟨h8, hk⟩ | ⟨h8, hk⟩ <;> (rw [hk] at h2; cases h2)
theorem k_Ok_ld0 {K : k_t} {B c len : Nat} {v : Int32} (hl : len ≤ 64) (h : k_Ok K B) : k_Ok (k_ld0 K c len v) B := by
  refine ⟨fun j hj => ?_, k_Gl_same (fun j h11 _ => by simp [k_ld0, h11]) h.2⟩
  by_cases hjc : j = c
  · subst hjc
    refine ⟨⟨1, by decide, by simp [k_ld0]⟩, Or.inl (by simp [k_ld0]), ⟨len, hl, by simp [k_ld0]⟩, fun _ => by simp [k_ld0]⟩
  · exact k_Pr_same (by simp [k_ld0, hjc]) (by simp [k_ld0, hjc]) (by simp [k_ld0, hjc]) (h.1 j hj)
theorem q_load_F {S0 S1 S : q_st} {K : k_t} {n L B c len fr0 : Nat} {pg : Nat → Option Nat} {us lab : Nat → Nat} (hc : c < 8) (hlen : len ≤ 64) (hL : L + 9 < 2 ^ 30) (hF : q_F S0 K n L B) (hR : q_R S0 K n pg us lab L) (hZ : q_Zn K pg) (hc0 : K 2 c = 0) (hft : q_ltf S0 S1 c len) (hli : q_li S1 (k_lT K c len) n c L fr0 pg len S) : q_F S (k_ld0 K c len (K 0 11)) n (L + 8) B ∧ q_fr S0 S := by
  obtain ⟨pg', us', lab', hR', hs, hx, hnone, -, -⟩ := hli
  have hsn : q_sn S0 S1 := fun j hj => hft.2.2 j (by omega) (by omega)
  have h11 : K 0 11 = nI L := hR.2.2.2.2.2.2.2.2.1
  have ha : ∀ a, a ≠ 0 → a ≠ 8 → a ≠ 9 → k_ld0 K c len (K 0 11) a = k_lT K c len a := by
    intro a h0 h8 h9
    funext j
    simp [k_ld0, k_lT, h0, h8, h9]
  have h0 : ∀ j, j ≠ 11 → j ≠ 14 → k_ld0 K c len (K 0 11) 0 j = k_lT K c len 0 j := by
    intro j h1 _
    simp [k_ld0, k_lT, h1]
  have h9 : ∀ g, g < 64 → k_ld0 K c len (K 0 11) 9 g = k_lt (k_lT K c len) c L len 9 g := by
    intro g hg
    by_cases hgc : g / 8 = c
    · by_cases hp : g % 8 < (len + 7) / 8
      · simp [k_ld0, k_lt, hgc, hp, h11, nI_add]
        rw [Nat.add_assoc]
      · have hpn := hZ c hc (Or.inl hc0) (g % 8) (by omega)
        rw [show 8 * c + g % 8 = g by omega] at hpn
        have hl0 := (hR.2.1.2.2.1 g hg).mp hpn
        have := hR.2.2.2.2.2.2.2.1 g hg
        rw [hl0] at this
        simp [k_ld0, k_lt, k_lT, hgc, hp, this]
        rfl
    · simp [k_ld0, k_lt, k_lT, hgc]
  have h8 : ∀ j, j < 512 → k_ld0 K c len (K 0 11) 8 j = k_lt (k_lT K c len) c L len 8 j := by
    intro j hj
    by_cases hjc : j / 64 = c
    · by_cases hp : j % 64 < len
      · simp [k_ld0, k_lt, k_lT, hjc, hp]
      · have hpn := hZ c hc (Or.inl hc0) (j % 64 / 8) (by omega)
        have := hR.2.1.2.2.2.2.2.2 (8 * c + j % 64 / 8) (j % 8) (by omega) hpn (by omega)
        rw [show 8 * (8 * c + j % 64 / 8) + j % 8 = j by omega] at this
        simp [k_ld0, k_lt, k_lT, hjc, hp, this]
    · simp [k_ld0, k_lt, k_lT, hjc]
  refine ⟨⟨k_Ok_ld0 hlen hF.1, q_T_sm hs (q_T_k ha h0 (q_ltf_T hft hF.2.1)), ?_, pg', us', lab', ?_, ?_⟩, q_fr_tr (q_fr_sn hsn) (q_fr_sm hs)⟩
  · refine q_C_sm hs (q_C_sn hsn (q_C_k (fun j h1 h2 => ?_) hF.2.2.1))
    simp [k_ld0, h1]
  · obtain ⟨hn, ⟨m1, m2, m3, m4, m5, m6, m7⟩, t7, t3, t1, t0, tK0, t9, tl, tL0⟩ := hR'
    refine ⟨hn, ⟨m1, fun g hg => by have := m2 g hg; omega, m3, m4, m5, fun g f k hg hk => ?_, fun g k hg hp hk => ?_⟩, t7, t3, t1, t0, ?_, fun g hg => ?_, ?_, by omega⟩
    · rw [h8 _ (by have := (m1 g f hg).2; omega)]
      exact m6 g f k hg hk
    · rw [h8 _ (by omega)]
      exact m7 g k hg hp hk
    · rw [← tK0]
      simp [k_ld0, k_lt, k_lT]
    · rw [h9 g hg]
      exact t9 g hg
    · simp [k_ld0, h11, nI_add]
  · intro q hq hss i hi
    by_cases hqc : q = c
    · subst hqc
      simp [k_ld0] at hss
      rcases hss with hss | hss <;> exact absurd hss (by decide)
    · rw [hx _ (by omega)]
      refine hZ q hq ?_ i hi
      simpa [k_ld0, hqc] using hss

set_option maxRecDepth 100000 in
set_option maxHeartbeats 4000000 in
theorem lp_kload {G : q_g} {n : Nat} {ad : q_ix → Nat} {X : q_cx} (F : q_fx G X iX3_load) {S0 S1 : q_st} {K : k_t} {x : Int32} {c len L B : Nat} {pg : Nat → Option Nat} {us lab : Nat → Nat} (hc : c < 8) (hl1 : 1 ≤ len) (hlen : len ≤ 64) (hx : x = nI len) (hL : L + 9 < 2 ^ 30) (hF : q_F S0 K n L B) (hR0 : q_R S0 K n pg us lab L) (hZ : q_Zn K pg) (hc0 : K 2 c = 0) (hff : k_ff K = some c) (hfr : k_fr K + (len + 7) / 8 ≤ n) (hft : q_ltf S0 S1 c len) (E : q_en G X iX3_load (q_pi (q_w G n ad) (fun r S' => (r = -16 ∧ ¬ (1 ≤ x.toInt ∧ x.toInt ≤ 64) ∧ S' = S0) ∨ (∃ len, 1 ≤ len ∧ len ≤ 64 ∧ x = nI len ∧ ((k_ff K = none ∧ r = -15 ∧ S' = S0) ∨ (∃ p, p < 8 ∧ k_ff K = some p ∧ ((¬ k_fr K + (len + 7) / 8 ≤ n ∧ r = -13 ∧ S' = S0) ∨ (k_fr K + (len + 7) / 8 ≤ n ∧ r = nI p ∧ q_F S' (k_ld0 K p len (K 0 11)) n (L + 8) B ∧ q_fr S0 S')))))))) : ∀ t, t ≤ len → ∀ S, q_li S1 (k_lT K c len) n c L (k_fr K) pg t S → q_W G X iX3_load (q_w G n ad) (0, 0) 74 [some (.inr (some (0, 0))), some (.inl (nI len)), some (.inl (nI c)), some (.inl (nI ((len + 8 - 1) / 8))), some (.inr (some (5, c))), some (.inl (nI t))] [] S := by
  refine q_loop (fun t ht ih => ?_)
  intro S hli
  refine q_iload F dX3_load_74 rfl ?_
  refine q_iload_n F dX3_load_76 rfl ?_
  refine q_icmpN_ge F 115 dX3_load_77 (by decide) (by omega) (by omega) (fun h77 => ?_) (fun h77 => ?_)
  · obtain rfl : t = len := by omega
    refine q_iload_n F dX3_load_115 rfl ?_
    refine q_iret F E rfl (Or.inr ⟨t, hl1, hlen, hx, Or.inr ⟨c, hc, hff, Or.inr ⟨hfr, rfl, q_load_F hc hlen hL hF hR0 hZ hc0 hft hli⟩⟩⟩) dX3_load_116
  · obtain ⟨pg1, us1, lab1, hR, hs, hpx, hnone, hal, hkf⟩ := hli
    refine q_aload_n F dX3_load_80 rfl ?_
    refine q_aload F dX3_load_81 rfl ?_
    refine q_iload F dX3_load_83 rfl ?_
    refine q_bipush F (nI 8) dX3_load_85 (by decide) ?_
    refine q_idivN F dX3_load_87 (by omega) (by omega) (by omega) ?_
    refine q_callVi F [.inr (some (5, c)), .inl (nI (t / 8))] (fun l => t_own l S hc (by omega) hR (by omega)) clX3_59 rfl q_m0 rfl rfl rfl ⟨Nat.le_of_ble_eq_true rfl, Nat.le_of_ble_eq_true rfl⟩ (Nat.le_of_ble_eq_true rfl) ⟨rfl, rfl⟩ ⟨Nat.zero_le _, Nat.zero_le _⟩ dX3_load_88 (fun r1 S2 h1 => ?_)
    obtain ⟨rfl, f, pg2, us2, lab2, hR2, hs2, hf2, hu2, hnx⟩ := q_li_own hc h77 hlen hfr hL hR hs hpx hnone hal hkf h1
    refine q_ifN_ne F 109 dX3_load_91 (by decide) (by omega) (fun h91 => ?_) (fun h91 => ?_)
    · exact absurd h91 (by decide)
    · refine q_aload_n F dX3_load_94 rfl ?_
      refine q_aload F dX3_load_95 rfl ?_
      refine q_iload F dX3_load_97 rfl ?_
      refine q_aload_n F dX3_load_99 rfl ?_
      refine q_getr F (k := 3) fkX3_32 q_m0 rfl rfl dX3_load_100 ?_
      refine q_iload F dX3_load_103 rfl ?_
      refine q_iald F (_) q_m10 rfl rfl (by omega) (by omega) dX3_load_105 ?_
      refine q_top (k_lT K c len 1 t) (by rw [hs2 (10, 0) (by simp) (by simp) (by simp) (by simp)]; exact (q_ltf_T hft hF.2.1).1 t (by omega)) ?_
      refine q_callVv F [.inr (some (5, c)), .inl (nI t), .inl (k_lT K c len 1 t)] (fun l => t_putWord l S2 hc (by omega) (hR2.2.1.1 _ _ hf2).1 hR2.1.2 (by rw [hR2.2.2.1 c (t / 8) hc (by omega), hf2]; rfl)) clX3_63 rfl q_m0 rfl rfl rfl ⟨Nat.le_of_ble_eq_true rfl, Nat.le_of_ble_eq_true rfl⟩ (Nat.le_of_ble_eq_true rfl) ⟨rfl, rfl⟩ ⟨Nat.zero_le _, Nat.zero_le _⟩ dX3_load_106 (fun S3 hS3 => ?_)
      refine q_iinc_5 F _ dX3_load_109 (q_inc1 _) (by decide) ?_
      exact q_goto F 74 dX3_load_112 (by decide) (ih h77 _ (hnx S3 hS3))

set_option maxRecDepth 100000 in
set_option maxHeartbeats 4000000 in
theorem t_load {G : q_g} {n : Nat} {ad : q_ix → Nat} (l : Launch) (S0 : q_st) {K : k_t} {L B : Nat} {x : Int32} (hF : q_F S0 K n L B) (hL : L + 9 < 2 ^ 30) : q_Ct l G iX3_load [.inr (some (0, 0)), .inl x] (q_w G n ad) (S0) (q_pi (q_w G n ad) (fun r S' => (r = -16 ∧ ¬ (1 ≤ x.toInt ∧ x.toInt ≤ 64) ∧ S' = S0) ∨ (∃ len, 1 ≤ len ∧ len ≤ 64 ∧ x = nI len ∧ ((k_ff K = none ∧ r = -15 ∧ S' = S0) ∨ (∃ p, p < 8 ∧ k_ff K = some p ∧ ((¬ k_fr K + (len + 7) / 8 ≤ n ∧ r = -13 ∧ S' = S0) ∨ (k_fr K + (len + 7) / 8 ≤ n ∧ r = nI p ∧ q_F S' (k_ld0 K p len (K 0 11)) n (L + 8) B ∧ q_fr S0 S'))))))) := by
  refine q_enter (by decide) (Nat.le_of_ble_eq_true rfl) (fun X F E => ?_)
  show q_W G X iX3_load (q_w G n ad) (0, 0) 0 [some (.inr (some (0, 0))), some (.inl x), none, none, none, none] [] (S0)
  obtain ⟨hok, hT0, hC, pg, us, lab, hR, hZ⟩ := id hF
  have hn := hR.1
  refine q_iload_n F dX3_load_0 rfl ?_
  refine q_iconst F (nI 1) dX3_load_1 (by decide) ?_
  refine q_icmp_lt F 11 dX3_load_2 (by decide) (fun h2 => ?_) (fun h2 => ?_)
  · rw [nI_toInt (by omega)] at h2
    refine q_bipush F (-16) dX3_load_11 (by decide) ?_
    refine q_iret F E rfl (Or.inl ⟨rfl, by omega, rfl⟩) dX3_load_13
  · rw [nI_toInt (by omega)] at h2
    refine q_iload_n F dX3_load_5 rfl ?_
    refine q_bipush F (nI 64) dX3_load_6 (by decide) ?_
    refine q_icmp_le F 14 dX3_load_8 (by decide) (fun h8 => ?_) (fun h8 => ?_)
    · rw [nI_toInt (by omega)] at h8
      obtain ⟨len, hl65, rfl⟩ := q_ofx (x := x) (m := 65) (by decide) (by omega) (by omega)
      rw [nI_toInt (by omega)] at h2 h8
      refine q_aload_n F dX3_load_14 rfl ?_
      refine q_callVi F [] (fun l => t_firstFree l S0) clX3_46 rfl q_m0 rfl rfl rfl ⟨Nat.le_of_ble_eq_true rfl, Nat.le_of_ble_eq_true rfl⟩ (Nat.le_of_ble_eq_true rfl) ⟨rfl, rfl⟩ ⟨Nat.zero_le _, Nat.zero_le _⟩ dX3_load_15 (fun v1 S1 hv1 => ?_)
      obtain ⟨hv1, hS1⟩ := hv1
      have hS1 := hS1.symm
      subst hS1
      rw [q_ff_eq hT0] at hv1
      subst hv1
      rcases f_st_spec (P := fun p => K 2 p = 0) 8 with ⟨hff, -⟩ | ⟨c, hff, hc, hc0, -⟩
      · refine q_top (-1) (by unfold k_ff; rw [hff]; rfl) ?_
        refine q_istore_n_2 F dX3_load_18 (by decide) ?_
        refine q_iload_n F dX3_load_19 rfl ?_
        refine q_iconst F (-1) dX3_load_20 (by decide) ?_
        refine q_icmp_ne F 27 dX3_load_21 (by decide) (fun h21 => ?_) (fun h21 => ?_)
        · exact absurd rfl h21
        · refine q_bipush F (-15) dX3_load_24 (by decide) ?_
          refine q_iret F E rfl (Or.inr ⟨len, by omega, by omega, rfl, Or.inl ⟨hff, rfl, rfl⟩⟩) dX3_load_26
      · refine q_top (nI c) (by unfold k_ff; rw [hff]; rfl) ?_
        refine q_istore_n_2 F dX3_load_18 (by decide) ?_
        refine q_iload_n F dX3_load_19 rfl ?_
        refine q_iconst F (-1) dX3_load_20 (by decide) ?_
        refine q_icmp_ne F 27 dX3_load_21 (by decide) (fun h21 => ?_) (fun h21 => ?_)
        · refine q_iload_n F dX3_load_27 rfl ?_
          refine q_bipush F (nI 8) dX3_load_28 (by decide) ?_
          refine q_iaddN F dX3_load_30 ?_
          refine q_iconst F (nI 1) dX3_load_31 (by decide) ?_
          refine q_isubN F dX3_load_32 (by omega) ?_
          refine q_bipush F (nI 8) dX3_load_33 (by decide) ?_
          refine q_idivN F dX3_load_35 (by omega) (by omega) (by omega) ?_
          refine q_istore_n_3 F dX3_load_36 (by decide) ?_
          refine q_iload_n F dX3_load_37 rfl ?_
          refine q_aload_n F dX3_load_38 rfl ?_
          refine q_getr F (k := 0) fkX3_14 q_m0 rfl rfl dX3_load_39 ?_
          refine q_callVi F [] (fun l => t_unused l S0) clX3_50 rfl q_m1 rfl rfl rfl ⟨Nat.le_of_ble_eq_true rfl, Nat.le_of_ble_eq_true rfl⟩ (Nat.le_of_ble_eq_true rfl) ⟨rfl, rfl⟩ ⟨Nat.zero_le _, Nat.zero_le _⟩ dX3_load_42 (fun v2 S2 hv2 => ?_)
          obtain ⟨hv2, hS2⟩ := hv2
          have hS2 := hS2.symm
          subst hS2
          have hun : v2 = nI (n - k_fr K) := by rw [hv2, hR.2.2.2.2.2.1, hR.2.2.2.2.1, q_R_fr hR, pk_sub (c_n_le _ _)]
          subst hun
          have hfrn : k_fr K ≤ n := by rw [q_R_fr hR]; exact c_n_le _ _
          refine q_icmpN_le F 51 dX3_load_45 (by decide) (by omega) (by omega) (fun h45 => ?_) (fun h45 => ?_)
          · refine q_aload_n F dX3_load_51 rfl ?_
            refine q_getr F (k := 1) fkX3_20 q_m0 rfl rfl dX3_load_52 ?_
            refine q_iload_n F dX3_load_55 rfl ?_
            refine q_aald F (_) q_m4 rfl rfl (by omega) (by decide) rfl dX3_load_56 ?_
            refine q_astore_4 F dX3_load_57 (by decide) ?_
            refine q_aload F dX3_load_59 rfl ?_
            refine q_iconst F (-1) dX3_load_61 (by decide) ?_
            refine q_callVv F [.inl (-1)] (fun l => t_begin l S0 hc) clX3_53 rfl (q_m5 (by omega)) rfl rfl rfl ⟨Nat.le_of_ble_eq_true rfl, Nat.le_of_ble_eq_true rfl⟩ (Nat.le_of_ble_eq_true rfl) ⟨rfl, rfl⟩ ⟨Nat.zero_le _, Nat.zero_le _⟩ dX3_load_62 (fun S3 hS3 => ?_)
            subst hS3
            refine q_aload F dX3_load_65 rfl ?_
            refine q_iload_n F dX3_load_67 rfl ?_
            refine q_puti F (k := 4) fkX3_56 fp2_4 (q_m5 (by omega)) rfl rfl dX3_load_68 ?_
            refine q_iconst F (nI 0) dX3_load_71 (by decide) ?_
            refine q_istore_5 F dX3_load_72 (by decide) ?_
            refine lp_kload F hc (by omega) (by omega) rfl hL hF hR hZ hc0 hff (by omega) q_ltf_mk E 0 (Nat.zero_le _) _ ⟨pg, us, lab, ?_, q_sm_rf _, fun _ _ => rfl, fun i _ hi => hZ c hc (Or.inl hc0) i hi, fun q => absurd rfl q, ?_⟩
            · rw [k_lt_0 _ _ _ (by simp [k_lT]; exact hR.2.2.2.2.2.2.2.2.1)]
              exact q_R_sn (fun j hj => (q_ltf_mk (S0 := S0) (c := c) (len := len)).2.2 j (by omega) (by omega)) (by funext j; simp [k_lT]) (by funext j; simp [k_lT]) (by simp [k_lT]) (by simp [k_lT]) hR
            · rw [k_lt_0 _ _ _ (by simp [k_lT]; exact hR.2.2.2.2.2.2.2.2.1)]
              rw [k_fr_9 (K := K) (K' := k_lT K c len) (by funext j; simp [k_lT])]
              omega
          · refine q_bipush F (-13) dX3_load_48 (by decide) ?_
            refine q_iret F E rfl (Or.inr ⟨len, by omega, by omega, rfl, Or.inr ⟨c, hc, hff, Or.inl ⟨by omega, rfl, rfl⟩⟩⟩) dX3_load_50
        · exact absurd h21 (q_nm1 (by omega))
    · rw [nI_toInt (by omega)] at h8
      refine q_bipush F (-16) dX3_load_11 (by decide) ?_
      refine q_iret F E rfl (Or.inl ⟨rfl, by omega, rfl⟩) dX3_load_13
end
