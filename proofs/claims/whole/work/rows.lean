section
-- ===== PART A: goes FIRST, ahead of the names: the tables' words, and 'selects' of the private methods out of them =====
/-- a private method of a class that the tables say can be made, by its rows of tables_1 -/
def lw_okq (q : MethodName × Nat) : Prop := (q.1.cls ≠ "java/lang/invoke/MethodHandle" ∧ q.1.cls ≠ "java/lang/invoke/VarHandle") ∧ Cond.instantiable q.1.cls q.2 ∈ tables_1 ∧ Cond.privateMethod q.1 ∈ tables_1 ∧ Cond.instanceMethod q.1 ∈ tables_1
theorem lw_p0 : lw_okq (⟨"PagedKernel$Memory", "clear", "(I)V"⟩, 3) := ⟨⟨by decide +kernel, by decide +kernel⟩, List.mem_of_getElem? (i := 18) (by decide +kernel), List.mem_of_getElem? (i := 168) (by decide +kernel), List.mem_of_getElem? (i := 169) (by decide +kernel)⟩
theorem lw_p1 : lw_okq (⟨"PagedKernel", "makeReady", "(LPagedKernel$Task;)V"⟩, 13) := ⟨⟨by decide +kernel, by decide +kernel⟩, List.mem_of_getElem? (i := 10) (by decide +kernel), List.mem_of_getElem? (i := 184) (by decide +kernel), List.mem_of_getElem? (i := 185) (by decide +kernel)⟩
theorem lw_p2 : lw_okq (⟨"PagedKernel", "makeStep", "()I"⟩, 13) := ⟨⟨by decide +kernel, by decide +kernel⟩, List.mem_of_getElem? (i := 10) (by decide +kernel), List.mem_of_getElem? (i := 196) (by decide +kernel), List.mem_of_getElem? (i := 197) (by decide +kernel)⟩
theorem lw_p3 : lw_okq (⟨"PagedKernel", "find", "(I)LPagedKernel$Task;"⟩, 13) := ⟨⟨by decide +kernel, by decide +kernel⟩, List.mem_of_getElem? (i := 10) (by decide +kernel), List.mem_of_getElem? (i := 212) (by decide +kernel), List.mem_of_getElem? (i := 213) (by decide +kernel)⟩
theorem lw_p4 : lw_okq (⟨"PagedKernel", "beginCall", "(LPagedKernel$Task;)Z"⟩, 13) := ⟨⟨by decide +kernel, by decide +kernel⟩, List.mem_of_getElem? (i := 10) (by decide +kernel), List.mem_of_getElem? (i := 304) (by decide +kernel), List.mem_of_getElem? (i := 305) (by decide +kernel)⟩
theorem lw_p5 : lw_okq (⟨"PagedKernel", "obstacleOf", "(LPagedKernel$Task;)I"⟩, 13) := ⟨⟨by decide +kernel, by decide +kernel⟩, List.mem_of_getElem? (i := 10) (by decide +kernel), List.mem_of_getElem? (i := 308) (by decide +kernel), List.mem_of_getElem? (i := 309) (by decide +kernel)⟩
theorem lw_p6 : lw_okq (⟨"PagedKernel", "hasChild", "(LPagedKernel$Task;)Z"⟩, 13) := ⟨⟨by decide +kernel, by decide +kernel⟩, List.mem_of_getElem? (i := 10) (by decide +kernel), List.mem_of_getElem? (i := 317) (by decide +kernel), List.mem_of_getElem? (i := 318) (by decide +kernel)⟩
theorem lw_p7 : lw_okq (⟨"PagedKernel", "endedChildOf", "(LPagedKernel$Task;)LPagedKernel$Task;"⟩, 13) := ⟨⟨by decide +kernel, by decide +kernel⟩, List.mem_of_getElem? (i := 10) (by decide +kernel), List.mem_of_getElem? (i := 325) (by decide +kernel), List.mem_of_getElem? (i := 326) (by decide +kernel)⟩
theorem lw_p8 : lw_okq (⟨"PagedKernel", "pipeOf", "(I)LPagedKernel$Pipe;"⟩, 13) := ⟨⟨by decide +kernel, by decide +kernel⟩, List.mem_of_getElem? (i := 10) (by decide +kernel), List.mem_of_getElem? (i := 332) (by decide +kernel), List.mem_of_getElem? (i := 333) (by decide +kernel)⟩
theorem lw_p9 : lw_okq (⟨"PagedKernel", "isHeld", "(I)Z"⟩, 13) := ⟨⟨by decide +kernel, by decide +kernel⟩, List.mem_of_getElem? (i := 10) (by decide +kernel), List.mem_of_getElem? (i := 340) (by decide +kernel), List.mem_of_getElem? (i := 341) (by decide +kernel)⟩
theorem lw_p10 : lw_okq (⟨"PagedKernel", "answerOf", "(LPagedKernel$Task;I)I"⟩, 13) := ⟨⟨by decide +kernel, by decide +kernel⟩, List.mem_of_getElem? (i := 10) (by decide +kernel), List.mem_of_getElem? (i := 351) (by decide +kernel), List.mem_of_getElem? (i := 352) (by decide +kernel)⟩
theorem lw_p11 : lw_okq (⟨"PagedKernel", "end", "(LPagedKernel$Task;I)V"⟩, 13) := ⟨⟨by decide +kernel, by decide +kernel⟩, List.mem_of_getElem? (i := 10) (by decide +kernel), List.mem_of_getElem? (i := 355) (by decide +kernel), List.mem_of_getElem? (i := 356) (by decide +kernel)⟩
theorem lw_p12 : lw_okq (⟨"PagedKernel", "handOverChildren", "(LPagedKernel$Task;)V"⟩, 13) := ⟨⟨by decide +kernel, by decide +kernel⟩, List.mem_of_getElem? (i := 10) (by decide +kernel), List.mem_of_getElem? (i := 368) (by decide +kernel), List.mem_of_getElem? (i := 369) (by decide +kernel)⟩
theorem lw_p13 : lw_okq (⟨"PagedKernel", "fork", "(LPagedKernel$Task;)I"⟩, 13) := ⟨⟨by decide +kernel, by decide +kernel⟩, List.mem_of_getElem? (i := 10) (by decide +kernel), List.mem_of_getElem? (i := 372) (by decide +kernel), List.mem_of_getElem? (i := 373) (by decide +kernel)⟩
theorem lw_p14 : lw_okq (⟨"PagedKernel", "leastAbsent", "()LPagedKernel$Task;"⟩, 13) := ⟨⟨by decide +kernel, by decide +kernel⟩, List.mem_of_getElem? (i := 10) (by decide +kernel), List.mem_of_getElem? (i := 376) (by decide +kernel), List.mem_of_getElem? (i := 377) (by decide +kernel)⟩
theorem lw_p15 : lw_okq (⟨"PagedKernel", "collectChild", "(LPagedKernel$Task;)I"⟩, 13) := ⟨⟨by decide +kernel, by decide +kernel⟩, List.mem_of_getElem? (i := 10) (by decide +kernel), List.mem_of_getElem? (i := 392) (by decide +kernel), List.mem_of_getElem? (i := 393) (by decide +kernel)⟩
def lw_privs_1 : List (MethodName × Nat) := [(⟨"PagedKernel$Memory", "clear", "(I)V"⟩, 3), (⟨"PagedKernel", "makeReady", "(LPagedKernel$Task;)V"⟩, 13), (⟨"PagedKernel", "makeStep", "()I"⟩, 13), (⟨"PagedKernel", "find", "(I)LPagedKernel$Task;"⟩, 13), (⟨"PagedKernel", "beginCall", "(LPagedKernel$Task;)Z"⟩, 13), (⟨"PagedKernel", "obstacleOf", "(LPagedKernel$Task;)I"⟩, 13), (⟨"PagedKernel", "hasChild", "(LPagedKernel$Task;)Z"⟩, 13), (⟨"PagedKernel", "endedChildOf", "(LPagedKernel$Task;)LPagedKernel$Task;"⟩, 13), (⟨"PagedKernel", "pipeOf", "(I)LPagedKernel$Pipe;"⟩, 13), (⟨"PagedKernel", "isHeld", "(I)Z"⟩, 13), (⟨"PagedKernel", "answerOf", "(LPagedKernel$Task;I)I"⟩, 13), (⟨"PagedKernel", "end", "(LPagedKernel$Task;I)V"⟩, 13), (⟨"PagedKernel", "handOverChildren", "(LPagedKernel$Task;)V"⟩, 13), (⟨"PagedKernel", "fork", "(LPagedKernel$Task;)I"⟩, 13), (⟨"PagedKernel", "leastAbsent", "()LPagedKernel$Task;"⟩, 13), (⟨"PagedKernel", "collectChild", "(LPagedKernel$Task;)I"⟩, 13)]
theorem lw_r1 : ∀ q ∈ lw_privs_1, lw_okq q := List.forall_mem_cons.mpr ⟨lw_p0, List.forall_mem_cons.mpr ⟨lw_p1, List.forall_mem_cons.mpr ⟨lw_p2, List.forall_mem_cons.mpr ⟨lw_p3, List.forall_mem_cons.mpr ⟨lw_p4, List.forall_mem_cons.mpr ⟨lw_p5, List.forall_mem_cons.mpr ⟨lw_p6, List.forall_mem_cons.mpr ⟨lw_p7, List.forall_mem_cons.mpr ⟨lw_p8, List.forall_mem_cons.mpr ⟨lw_p9, List.forall_mem_cons.mpr ⟨lw_p10, List.forall_mem_cons.mpr ⟨lw_p11, List.forall_mem_cons.mpr ⟨lw_p12, List.forall_mem_cons.mpr ⟨lw_p13, List.forall_mem_cons.mpr ⟨lw_p14, List.forall_mem_cons.mpr ⟨lw_p15, fun _ h => absurd h List.not_mem_nil⟩⟩⟩⟩⟩⟩⟩⟩⟩⟩⟩⟩⟩⟩⟩⟩
theorem lw_p16 : lw_okq (⟨"PagedKernel", "grow", "(LPagedKernel$Task;I)I"⟩, 13) := ⟨⟨by decide +kernel, by decide +kernel⟩, List.mem_of_getElem? (i := 10) (by decide +kernel), List.mem_of_getElem? (i := 396) (by decide +kernel), List.mem_of_getElem? (i := 397) (by decide +kernel)⟩
theorem lw_p17 : lw_okq (⟨"PagedKernel", "write", "(II)I"⟩, 13) := ⟨⟨by decide +kernel, by decide +kernel⟩, List.mem_of_getElem? (i := 10) (by decide +kernel), List.mem_of_getElem? (i := 400) (by decide +kernel), List.mem_of_getElem? (i := 401) (by decide +kernel)⟩
theorem lw_p18 : lw_okq (⟨"PagedKernel", "print", "(I)I"⟩, 13) := ⟨⟨by decide +kernel, by decide +kernel⟩, List.mem_of_getElem? (i := 10) (by decide +kernel), List.mem_of_getElem? (i := 404) (by decide +kernel), List.mem_of_getElem? (i := 405) (by decide +kernel)⟩
theorem lw_p19 : lw_okq (⟨"PagedKernel", "read", "(I)I"⟩, 13) := ⟨⟨by decide +kernel, by decide +kernel⟩, List.mem_of_getElem? (i := 10) (by decide +kernel), List.mem_of_getElem? (i := 413) (by decide +kernel), List.mem_of_getElem? (i := 414) (by decide +kernel)⟩
theorem lw_p20 : lw_okq (⟨"PagedKernel", "openPipe", "(LPagedKernel$Task;)I"⟩, 13) := ⟨⟨by decide +kernel, by decide +kernel⟩, List.mem_of_getElem? (i := 10) (by decide +kernel), List.mem_of_getElem? (i := 422) (by decide +kernel), List.mem_of_getElem? (i := 423) (by decide +kernel)⟩
theorem lw_p21 : lw_okq (⟨"PagedKernel", "leastFreeReadingEnd", "()I"⟩, 13) := ⟨⟨by decide +kernel, by decide +kernel⟩, List.mem_of_getElem? (i := 10) (by decide +kernel), List.mem_of_getElem? (i := 426) (by decide +kernel), List.mem_of_getElem? (i := 427) (by decide +kernel)⟩
theorem lw_p22 : lw_okq (⟨"PagedKernel", "isFreePipe", "(I)Z"⟩, 13) := ⟨⟨by decide +kernel, by decide +kernel⟩, List.mem_of_getElem? (i := 10) (by decide +kernel), List.mem_of_getElem? (i := 430) (by decide +kernel), List.mem_of_getElem? (i := 431) (by decide +kernel)⟩
theorem lw_p23 : lw_okq (⟨"PagedKernel", "close", "(LPagedKernel$Task;I)I"⟩, 13) := ⟨⟨by decide +kernel, by decide +kernel⟩, List.mem_of_getElem? (i := 10) (by decide +kernel), List.mem_of_getElem? (i := 442) (by decide +kernel), List.mem_of_getElem? (i := 443) (by decide +kernel)⟩
theorem lw_p24 : lw_okq (⟨"PagedKernel", "duplicate", "(LPagedKernel$Task;I)I"⟩, 13) := ⟨⟨by decide +kernel, by decide +kernel⟩, List.mem_of_getElem? (i := 10) (by decide +kernel), List.mem_of_getElem? (i := 446) (by decide +kernel), List.mem_of_getElem? (i := 447) (by decide +kernel)⟩
theorem lw_p25 : lw_okq (⟨"PagedKernel", "kill", "(I)I"⟩, 13) := ⟨⟨by decide +kernel, by decide +kernel⟩, List.mem_of_getElem? (i := 10) (by decide +kernel), List.mem_of_getElem? (i := 450) (by decide +kernel), List.mem_of_getElem? (i := 451) (by decide +kernel)⟩
theorem lw_p26 : lw_okq (⟨"PagedKernel", "passTurn", "(LPagedKernel$Task;)V"⟩, 13) := ⟨⟨by decide +kernel, by decide +kernel⟩, List.mem_of_getElem? (i := 10) (by decide +kernel), List.mem_of_getElem? (i := 454) (by decide +kernel), List.mem_of_getElem? (i := 455) (by decide +kernel)⟩
theorem lw_p27 : lw_okq (⟨"PagedKernel", "wakeSleepers", "()V"⟩, 13) := ⟨⟨by decide +kernel, by decide +kernel⟩, List.mem_of_getElem? (i := 10) (by decide +kernel), List.mem_of_getElem? (i := 458) (by decide +kernel), List.mem_of_getElem? (i := 459) (by decide +kernel)⟩
theorem lw_p28 : lw_okq (⟨"PagedKernel", "allHaveEnded", "()Z"⟩, 13) := ⟨⟨by decide +kernel, by decide +kernel⟩, List.mem_of_getElem? (i := 10) (by decide +kernel), List.mem_of_getElem? (i := 466) (by decide +kernel), List.mem_of_getElem? (i := 467) (by decide +kernel)⟩
theorem lw_p29 : lw_okq (⟨"PagedKernelModel", "grow", "(I)I"⟩, 28) := ⟨⟨by decide +kernel, by decide +kernel⟩, List.mem_of_getElem? (i := 535) (by decide +kernel), List.mem_of_getElem? (i := 638) (by decide +kernel), List.mem_of_getElem? (i := 639) (by decide +kernel)⟩
theorem lw_p30 : lw_okq (⟨"PagedKernelModel", "wake", "(I)V"⟩, 28) := ⟨⟨by decide +kernel, by decide +kernel⟩, List.mem_of_getElem? (i := 535) (by decide +kernel), List.mem_of_getElem? (i := 642) (by decide +kernel), List.mem_of_getElem? (i := 643) (by decide +kernel)⟩
theorem lw_p31 : lw_okq (⟨"PagedKernelModel", "unrow", "(I)V"⟩, 28) := ⟨⟨by decide +kernel, by decide +kernel⟩, List.mem_of_getElem? (i := 535) (by decide +kernel), List.mem_of_getElem? (i := 650) (by decide +kernel), List.mem_of_getElem? (i := 651) (by decide +kernel)⟩
def lw_privs_2 : List (MethodName × Nat) := [(⟨"PagedKernel", "grow", "(LPagedKernel$Task;I)I"⟩, 13), (⟨"PagedKernel", "write", "(II)I"⟩, 13), (⟨"PagedKernel", "print", "(I)I"⟩, 13), (⟨"PagedKernel", "read", "(I)I"⟩, 13), (⟨"PagedKernel", "openPipe", "(LPagedKernel$Task;)I"⟩, 13), (⟨"PagedKernel", "leastFreeReadingEnd", "()I"⟩, 13), (⟨"PagedKernel", "isFreePipe", "(I)Z"⟩, 13), (⟨"PagedKernel", "close", "(LPagedKernel$Task;I)I"⟩, 13), (⟨"PagedKernel", "duplicate", "(LPagedKernel$Task;I)I"⟩, 13), (⟨"PagedKernel", "kill", "(I)I"⟩, 13), (⟨"PagedKernel", "passTurn", "(LPagedKernel$Task;)V"⟩, 13), (⟨"PagedKernel", "wakeSleepers", "()V"⟩, 13), (⟨"PagedKernel", "allHaveEnded", "()Z"⟩, 13), (⟨"PagedKernelModel", "grow", "(I)I"⟩, 28), (⟨"PagedKernelModel", "wake", "(I)V"⟩, 28), (⟨"PagedKernelModel", "unrow", "(I)V"⟩, 28)]
theorem lw_r2 : ∀ q ∈ lw_privs_2, lw_okq q := List.forall_mem_cons.mpr ⟨lw_p16, List.forall_mem_cons.mpr ⟨lw_p17, List.forall_mem_cons.mpr ⟨lw_p18, List.forall_mem_cons.mpr ⟨lw_p19, List.forall_mem_cons.mpr ⟨lw_p20, List.forall_mem_cons.mpr ⟨lw_p21, List.forall_mem_cons.mpr ⟨lw_p22, List.forall_mem_cons.mpr ⟨lw_p23, List.forall_mem_cons.mpr ⟨lw_p24, List.forall_mem_cons.mpr ⟨lw_p25, List.forall_mem_cons.mpr ⟨lw_p26, List.forall_mem_cons.mpr ⟨lw_p27, List.forall_mem_cons.mpr ⟨lw_p28, List.forall_mem_cons.mpr ⟨lw_p29, List.forall_mem_cons.mpr ⟨lw_p30, List.forall_mem_cons.mpr ⟨lw_p31, fun _ h => absurd h List.not_mem_nil⟩⟩⟩⟩⟩⟩⟩⟩⟩⟩⟩⟩⟩⟩⟩⟩
theorem lw_p32 : lw_okq (⟨"PagedKernelModel", "instruction", "()V"⟩, 28) := ⟨⟨by decide +kernel, by decide +kernel⟩, List.mem_of_getElem? (i := 535) (by decide +kernel), List.mem_of_getElem? (i := 654) (by decide +kernel), List.mem_of_getElem? (i := 655) (by decide +kernel)⟩
theorem lw_p33 : lw_okq (⟨"PagedKernelModel", "there", "(II)Z"⟩, 28) := ⟨⟨by decide +kernel, by decide +kernel⟩, List.mem_of_getElem? (i := 535) (by decide +kernel), List.mem_of_getElem? (i := 658) (by decide +kernel), List.mem_of_getElem? (i := 659) (by decide +kernel)⟩
theorem lw_p34 : lw_okq (⟨"PagedKernelModel", "fault", "(I)V"⟩, 28) := ⟨⟨by decide +kernel, by decide +kernel⟩, List.mem_of_getElem? (i := 535) (by decide +kernel), List.mem_of_getElem? (i := 662) (by decide +kernel), List.mem_of_getElem? (i := 663) (by decide +kernel)⟩
theorem lw_p35 : lw_okq (⟨"PagedKernelModel", "end", "(II)V"⟩, 28) := ⟨⟨by decide +kernel, by decide +kernel⟩, List.mem_of_getElem? (i := 535) (by decide +kernel), List.mem_of_getElem? (i := 666) (by decide +kernel), List.mem_of_getElem? (i := 667) (by decide +kernel)⟩
theorem lw_p36 : lw_okq (⟨"PagedKernelModel", "tidyPipes", "()V"⟩, 28) := ⟨⟨by decide +kernel, by decide +kernel⟩, List.mem_of_getElem? (i := 535) (by decide +kernel), List.mem_of_getElem? (i := 670) (by decide +kernel), List.mem_of_getElem? (i := 671) (by decide +kernel)⟩
theorem lw_p37 : lw_okq (⟨"PagedKernelModel", "isHeld", "(I)Z"⟩, 28) := ⟨⟨by decide +kernel, by decide +kernel⟩, List.mem_of_getElem? (i := 535) (by decide +kernel), List.mem_of_getElem? (i := 674) (by decide +kernel), List.mem_of_getElem? (i := 675) (by decide +kernel)⟩
theorem lw_p38 : lw_okq (⟨"PagedKernelModel", "remove", "(I)V"⟩, 28) := ⟨⟨by decide +kernel, by decide +kernel⟩, List.mem_of_getElem? (i := 535) (by decide +kernel), List.mem_of_getElem? (i := 678) (by decide +kernel), List.mem_of_getElem? (i := 679) (by decide +kernel)⟩
theorem lw_p39 : lw_okq (⟨"PagedKernelModel", "cellOf", "(II)I"⟩, 28) := ⟨⟨by decide +kernel, by decide +kernel⟩, List.mem_of_getElem? (i := 535) (by decide +kernel), List.mem_of_getElem? (i := 682) (by decide +kernel), List.mem_of_getElem? (i := 683) (by decide +kernel)⟩
theorem lw_p40 : lw_okq (⟨"PagedKernelModel", "bits", "(II)I"⟩, 28) := ⟨⟨by decide +kernel, by decide +kernel⟩, List.mem_of_getElem? (i := 535) (by decide +kernel), List.mem_of_getElem? (i := 686) (by decide +kernel), List.mem_of_getElem? (i := 687) (by decide +kernel)⟩
theorem lw_p41 : lw_okq (⟨"PagedKernelModel", "d", "()I"⟩, 28) := ⟨⟨by decide +kernel, by decide +kernel⟩, List.mem_of_getElem? (i := 535) (by decide +kernel), List.mem_of_getElem? (i := 690) (by decide +kernel), List.mem_of_getElem? (i := 691) (by decide +kernel)⟩
theorem lw_p42 : lw_okq (⟨"PagedKernelModel", "set", "(II)V"⟩, 28) := ⟨⟨by decide +kernel, by decide +kernel⟩, List.mem_of_getElem? (i := 535) (by decide +kernel), List.mem_of_getElem? (i := 694) (by decide +kernel), List.mem_of_getElem? (i := 695) (by decide +kernel)⟩
theorem lw_p43 : lw_okq (⟨"PagedKernelModel", "jump", "(I)V"⟩, 28) := ⟨⟨by decide +kernel, by decide +kernel⟩, List.mem_of_getElem? (i := 535) (by decide +kernel), List.mem_of_getElem? (i := 698) (by decide +kernel), List.mem_of_getElem? (i := 699) (by decide +kernel)⟩
theorem lw_p44 : lw_okq (⟨"PagedKernelModel", "s", "()I"⟩, 28) := ⟨⟨by decide +kernel, by decide +kernel⟩, List.mem_of_getElem? (i := 535) (by decide +kernel), List.mem_of_getElem? (i := 702) (by decide +kernel), List.mem_of_getElem? (i := 703) (by decide +kernel)⟩
theorem lw_p45 : lw_okq (⟨"PagedKernelModel", "get", "(I)I"⟩, 28) := ⟨⟨by decide +kernel, by decide +kernel⟩, List.mem_of_getElem? (i := 535) (by decide +kernel), List.mem_of_getElem? (i := 706) (by decide +kernel), List.mem_of_getElem? (i := 707) (by decide +kernel)⟩
theorem lw_p46 : lw_okq (⟨"PagedKernelModel", "branch", "(I)V"⟩, 28) := ⟨⟨by decide +kernel, by decide +kernel⟩, List.mem_of_getElem? (i := 535) (by decide +kernel), List.mem_of_getElem? (i := 710) (by decide +kernel), List.mem_of_getElem? (i := 711) (by decide +kernel)⟩
theorem lw_p47 : lw_okq (⟨"PagedKernelModel", "t", "()I"⟩, 28) := ⟨⟨by decide +kernel, by decide +kernel⟩, List.mem_of_getElem? (i := 535) (by decide +kernel), List.mem_of_getElem? (i := 714) (by decide +kernel), List.mem_of_getElem? (i := 715) (by decide +kernel)⟩
def lw_privs_3 : List (MethodName × Nat) := [(⟨"PagedKernelModel", "instruction", "()V"⟩, 28), (⟨"PagedKernelModel", "there", "(II)Z"⟩, 28), (⟨"PagedKernelModel", "fault", "(I)V"⟩, 28), (⟨"PagedKernelModel", "end", "(II)V"⟩, 28), (⟨"PagedKernelModel", "tidyPipes", "()V"⟩, 28), (⟨"PagedKernelModel", "isHeld", "(I)Z"⟩, 28), (⟨"PagedKernelModel", "remove", "(I)V"⟩, 28), (⟨"PagedKernelModel", "cellOf", "(II)I"⟩, 28), (⟨"PagedKernelModel", "bits", "(II)I"⟩, 28), (⟨"PagedKernelModel", "d", "()I"⟩, 28), (⟨"PagedKernelModel", "set", "(II)V"⟩, 28), (⟨"PagedKernelModel", "jump", "(I)V"⟩, 28), (⟨"PagedKernelModel", "s", "()I"⟩, 28), (⟨"PagedKernelModel", "get", "(I)I"⟩, 28), (⟨"PagedKernelModel", "branch", "(I)V"⟩, 28), (⟨"PagedKernelModel", "t", "()I"⟩, 28)]
theorem lw_r3 : ∀ q ∈ lw_privs_3, lw_okq q := List.forall_mem_cons.mpr ⟨lw_p32, List.forall_mem_cons.mpr ⟨lw_p33, List.forall_mem_cons.mpr ⟨lw_p34, List.forall_mem_cons.mpr ⟨lw_p35, List.forall_mem_cons.mpr ⟨lw_p36, List.forall_mem_cons.mpr ⟨lw_p37, List.forall_mem_cons.mpr ⟨lw_p38, List.forall_mem_cons.mpr ⟨lw_p39, List.forall_mem_cons.mpr ⟨lw_p40, List.forall_mem_cons.mpr ⟨lw_p41, List.forall_mem_cons.mpr ⟨lw_p42, List.forall_mem_cons.mpr ⟨lw_p43, List.forall_mem_cons.mpr ⟨lw_p44, List.forall_mem_cons.mpr ⟨lw_p45, List.forall_mem_cons.mpr ⟨lw_p46, List.forall_mem_cons.mpr ⟨lw_p47, fun _ h => absurd h List.not_mem_nil⟩⟩⟩⟩⟩⟩⟩⟩⟩⟩⟩⟩⟩⟩⟩⟩
theorem lw_p48 : lw_okq (⟨"PagedKernelModel", "read", "()V"⟩, 28) := ⟨⟨by decide +kernel, by decide +kernel⟩, List.mem_of_getElem? (i := 535) (by decide +kernel), List.mem_of_getElem? (i := 722) (by decide +kernel), List.mem_of_getElem? (i := 723) (by decide +kernel)⟩
theorem lw_p49 : lw_okq (⟨"PagedKernelModel", "reach", "(III)Z"⟩, 28) := ⟨⟨by decide +kernel, by decide +kernel⟩, List.mem_of_getElem? (i := 535) (by decide +kernel), List.mem_of_getElem? (i := 726) (by decide +kernel), List.mem_of_getElem? (i := 727) (by decide +kernel)⟩
theorem lw_p50 : lw_okq (⟨"PagedKernelModel", "byteAt", "(II)I"⟩, 28) := ⟨⟨by decide +kernel, by decide +kernel⟩, List.mem_of_getElem? (i := 535) (by decide +kernel), List.mem_of_getElem? (i := 730) (by decide +kernel), List.mem_of_getElem? (i := 731) (by decide +kernel)⟩
theorem lw_p51 : lw_okq (⟨"PagedKernelModel", "write", "()V"⟩, 28) := ⟨⟨by decide +kernel, by decide +kernel⟩, List.mem_of_getElem? (i := 535) (by decide +kernel), List.mem_of_getElem? (i := 734) (by decide +kernel), List.mem_of_getElem? (i := 735) (by decide +kernel)⟩
theorem lw_p52 : lw_okq (⟨"PagedKernelModel", "putByte", "(III)V"⟩, 28) := ⟨⟨by decide +kernel, by decide +kernel⟩, List.mem_of_getElem? (i := 535) (by decide +kernel), List.mem_of_getElem? (i := 738) (by decide +kernel), List.mem_of_getElem? (i := 739) (by decide +kernel)⟩
theorem lw_p53 : lw_okq (⟨"PagedKernelModel", "compute", "(Z)V"⟩, 28) := ⟨⟨by decide +kernel, by decide +kernel⟩, List.mem_of_getElem? (i := 535) (by decide +kernel), List.mem_of_getElem? (i := 742) (by decide +kernel), List.mem_of_getElem? (i := 743) (by decide +kernel)⟩
theorem lw_p54 : lw_okq (⟨"PagedKernelModel", "call", "()V"⟩, 28) := ⟨⟨by decide +kernel, by decide +kernel⟩, List.mem_of_getElem? (i := 535) (by decide +kernel), List.mem_of_getElem? (i := 746) (by decide +kernel), List.mem_of_getElem? (i := 747) (by decide +kernel)⟩
theorem lw_p55 : lw_okq (⟨"PagedKernelModel", "leave", "(I)V"⟩, 28) := ⟨⟨by decide +kernel, by decide +kernel⟩, List.mem_of_getElem? (i := 535) (by decide +kernel), List.mem_of_getElem? (i := 750) (by decide +kernel), List.mem_of_getElem? (i := 751) (by decide +kernel)⟩
theorem lw_p56 : lw_okq (⟨"PagedKernelModel", "fork", "()I"⟩, 28) := ⟨⟨by decide +kernel, by decide +kernel⟩, List.mem_of_getElem? (i := 535) (by decide +kernel), List.mem_of_getElem? (i := 754) (by decide +kernel), List.mem_of_getElem? (i := 755) (by decide +kernel)⟩
theorem lw_p57 : lw_okq (⟨"PagedKernelModel", "waits", "()V"⟩, 28) := ⟨⟨by decide +kernel, by decide +kernel⟩, List.mem_of_getElem? (i := 535) (by decide +kernel), List.mem_of_getElem? (i := 759) (by decide +kernel), List.mem_of_getElem? (i := 760) (by decide +kernel)⟩
theorem lw_p58 : lw_okq (⟨"PagedKernelModel", "lostChild", "(I)I"⟩, 28) := ⟨⟨by decide +kernel, by decide +kernel⟩, List.mem_of_getElem? (i := 535) (by decide +kernel), List.mem_of_getElem? (i := 763) (by decide +kernel), List.mem_of_getElem? (i := 764) (by decide +kernel)⟩
theorem lw_p59 : lw_okq (⟨"PagedKernelModel", "block", "(I)V"⟩, 28) := ⟨⟨by decide +kernel, by decide +kernel⟩, List.mem_of_getElem? (i := 535) (by decide +kernel), List.mem_of_getElem? (i := 767) (by decide +kernel), List.mem_of_getElem? (i := 768) (by decide +kernel)⟩
theorem lw_p60 : lw_okq (⟨"PagedKernelModel", "more", "(I)I"⟩, 28) := ⟨⟨by decide +kernel, by decide +kernel⟩, List.mem_of_getElem? (i := 535) (by decide +kernel), List.mem_of_getElem? (i := 771) (by decide +kernel), List.mem_of_getElem? (i := 772) (by decide +kernel)⟩
theorem lw_p61 : lw_okq (⟨"PagedKernelModel", "descriptorOf", "(II)I"⟩, 28) := ⟨⟨by decide +kernel, by decide +kernel⟩, List.mem_of_getElem? (i := 535) (by decide +kernel), List.mem_of_getElem? (i := 775) (by decide +kernel), List.mem_of_getElem? (i := 776) (by decide +kernel)⟩
theorem lw_p62 : lw_okq (⟨"PagedKernelModel", "send", "(I)V"⟩, 28) := ⟨⟨by decide +kernel, by decide +kernel⟩, List.mem_of_getElem? (i := 535) (by decide +kernel), List.mem_of_getElem? (i := 779) (by decide +kernel), List.mem_of_getElem? (i := 780) (by decide +kernel)⟩
theorem lw_p63 : lw_okq (⟨"PagedKernelModel", "take", "(I)V"⟩, 28) := ⟨⟨by decide +kernel, by decide +kernel⟩, List.mem_of_getElem? (i := 535) (by decide +kernel), List.mem_of_getElem? (i := 783) (by decide +kernel), List.mem_of_getElem? (i := 784) (by decide +kernel)⟩
def lw_privs_4 : List (MethodName × Nat) := [(⟨"PagedKernelModel", "read", "()V"⟩, 28), (⟨"PagedKernelModel", "reach", "(III)Z"⟩, 28), (⟨"PagedKernelModel", "byteAt", "(II)I"⟩, 28), (⟨"PagedKernelModel", "write", "()V"⟩, 28), (⟨"PagedKernelModel", "putByte", "(III)V"⟩, 28), (⟨"PagedKernelModel", "compute", "(Z)V"⟩, 28), (⟨"PagedKernelModel", "call", "()V"⟩, 28), (⟨"PagedKernelModel", "leave", "(I)V"⟩, 28), (⟨"PagedKernelModel", "fork", "()I"⟩, 28), (⟨"PagedKernelModel", "waits", "()V"⟩, 28), (⟨"PagedKernelModel", "lostChild", "(I)I"⟩, 28), (⟨"PagedKernelModel", "block", "(I)V"⟩, 28), (⟨"PagedKernelModel", "more", "(I)I"⟩, 28), (⟨"PagedKernelModel", "descriptorOf", "(II)I"⟩, 28), (⟨"PagedKernelModel", "send", "(I)V"⟩, 28), (⟨"PagedKernelModel", "take", "(I)V"⟩, 28)]
theorem lw_r4 : ∀ q ∈ lw_privs_4, lw_okq q := List.forall_mem_cons.mpr ⟨lw_p48, List.forall_mem_cons.mpr ⟨lw_p49, List.forall_mem_cons.mpr ⟨lw_p50, List.forall_mem_cons.mpr ⟨lw_p51, List.forall_mem_cons.mpr ⟨lw_p52, List.forall_mem_cons.mpr ⟨lw_p53, List.forall_mem_cons.mpr ⟨lw_p54, List.forall_mem_cons.mpr ⟨lw_p55, List.forall_mem_cons.mpr ⟨lw_p56, List.forall_mem_cons.mpr ⟨lw_p57, List.forall_mem_cons.mpr ⟨lw_p58, List.forall_mem_cons.mpr ⟨lw_p59, List.forall_mem_cons.mpr ⟨lw_p60, List.forall_mem_cons.mpr ⟨lw_p61, List.forall_mem_cons.mpr ⟨lw_p62, List.forall_mem_cons.mpr ⟨lw_p63, fun _ h => absurd h List.not_mem_nil⟩⟩⟩⟩⟩⟩⟩⟩⟩⟩⟩⟩⟩⟩⟩⟩
theorem lw_p64 : lw_okq (⟨"PagedKernelModel", "pipe", "()V"⟩, 28) := ⟨⟨by decide +kernel, by decide +kernel⟩, List.mem_of_getElem? (i := 535) (by decide +kernel), List.mem_of_getElem? (i := 787) (by decide +kernel), List.mem_of_getElem? (i := 788) (by decide +kernel)⟩
theorem lw_p65 : lw_okq (⟨"PagedKernelModel", "freeDescriptor", "(I)I"⟩, 28) := ⟨⟨by decide +kernel, by decide +kernel⟩, List.mem_of_getElem? (i := 535) (by decide +kernel), List.mem_of_getElem? (i := 791) (by decide +kernel), List.mem_of_getElem? (i := 792) (by decide +kernel)⟩
theorem lw_p66 : lw_okq (⟨"PagedKernelModel", "close", "(I)I"⟩, 28) := ⟨⟨by decide +kernel, by decide +kernel⟩, List.mem_of_getElem? (i := 535) (by decide +kernel), List.mem_of_getElem? (i := 795) (by decide +kernel), List.mem_of_getElem? (i := 796) (by decide +kernel)⟩
theorem lw_p67 : lw_okq (⟨"PagedKernelModel", "duplicate", "(I)I"⟩, 28) := ⟨⟨by decide +kernel, by decide +kernel⟩, List.mem_of_getElem? (i := 535) (by decide +kernel), List.mem_of_getElem? (i := 799) (by decide +kernel), List.mem_of_getElem? (i := 800) (by decide +kernel)⟩
theorem lw_p68 : lw_okq (⟨"PagedKernelModel", "kill", "(I)V"⟩, 28) := ⟨⟨by decide +kernel, by decide +kernel⟩, List.mem_of_getElem? (i := 535) (by decide +kernel), List.mem_of_getElem? (i := 803) (by decide +kernel), List.mem_of_getElem? (i := 804) (by decide +kernel)⟩
theorem lw_p69 : lw_okq (⟨"PagedKernelModel", "mayGo", "(I)Z"⟩, 28) := ⟨⟨by decide +kernel, by decide +kernel⟩, List.mem_of_getElem? (i := 535) (by decide +kernel), List.mem_of_getElem? (i := 808) (by decide +kernel), List.mem_of_getElem? (i := 809) (by decide +kernel)⟩
theorem lw_p70 : lw_okq (⟨"PagedKernelModel", "is", "(I)Z"⟩, 28) := ⟨⟨by decide +kernel, by decide +kernel⟩, List.mem_of_getElem? (i := 535) (by decide +kernel), List.mem_of_getElem? (i := 825) (by decide +kernel), List.mem_of_getElem? (i := 826) (by decide +kernel)⟩
def lw_privs_5 : List (MethodName × Nat) := [(⟨"PagedKernelModel", "pipe", "()V"⟩, 28), (⟨"PagedKernelModel", "freeDescriptor", "(I)I"⟩, 28), (⟨"PagedKernelModel", "close", "(I)I"⟩, 28), (⟨"PagedKernelModel", "duplicate", "(I)I"⟩, 28), (⟨"PagedKernelModel", "kill", "(I)V"⟩, 28), (⟨"PagedKernelModel", "mayGo", "(I)Z"⟩, 28), (⟨"PagedKernelModel", "is", "(I)Z"⟩, 28)]
theorem lw_r5 : ∀ q ∈ lw_privs_5, lw_okq q := List.forall_mem_cons.mpr ⟨lw_p64, List.forall_mem_cons.mpr ⟨lw_p65, List.forall_mem_cons.mpr ⟨lw_p66, List.forall_mem_cons.mpr ⟨lw_p67, List.forall_mem_cons.mpr ⟨lw_p68, List.forall_mem_cons.mpr ⟨lw_p69, List.forall_mem_cons.mpr ⟨lw_p70, fun _ h => absurd h List.not_mem_nil⟩⟩⟩⟩⟩⟩⟩
def lw_privs : List (MethodName × Nat) := lw_privs_1 ++ (lw_privs_2 ++ (lw_privs_3 ++ (lw_privs_4 ++ (lw_privs_5))))
def lw_tbl : List Cond := k2_sels lw_privs ++ tables_1
theorem lw_privs_ok : ∀ q ∈ lw_privs, lw_okq q := by
  show ∀ q ∈ lw_privs_1 ++ (lw_privs_2 ++ (lw_privs_3 ++ (lw_privs_4 ++ (lw_privs_5)))), lw_okq q
  exact List.forall_mem_append.mpr ⟨lw_r1, List.forall_mem_append.mpr ⟨lw_r2, List.forall_mem_append.mpr ⟨lw_r3, List.forall_mem_append.mpr ⟨lw_r4, lw_r5⟩⟩⟩⟩
end
section
/-! ===== names, fields, words: written by program ===== -/
abbrev R_K : String := "PagedKernel"
abbrev R_MEM : String := "PagedKernel$Memory"
abbrev R_T : String := "PagedKernel$Task"
abbrev R_P : String := "PagedKernel$Pipe"
abbrev R_ROW : String := "PagedKernel$Row"
abbrev R_X : String := "PagedKernel$Machine"
abbrev R_MOD : String := "PagedKernelModel"
abbrev R_LAW : String := "PagedKernelLaw"
abbrev R_Task : String := R_T
abbrev R_Pipe : String := R_P
def F_K : u_T := fun k => match k with
  | 0 => ("PagedKernel", "memory", "LPagedKernel$Memory;", true)
  | 1 => ("PagedKernel", "tasks", "[LPagedKernel$Task;", true)
  | 2 => ("PagedKernel", "pipes", "[LPagedKernel$Pipe;", true)
  | 3 => ("PagedKernel", "row", "LPagedKernel$Row;", true)
  | 4 => ("PagedKernel", "quantum", "I", true)
  | 5 => ("PagedKernel", "program", "[I", true)
  | 6 => ("PagedKernel", "printed", "[I", true)
  | 7 => ("PagedKernel", "programLength", "I", false)
  | 8 => ("PagedKernel", "printedLength", "I", false)
  | 9 => ("PagedKernel", "booted", "Z", false)
  | 10 => ("PagedKernel", "turn", "I", false)
  | 11 => ("PagedKernel", "stepsLeft", "I", false)
  | _ => ("PagedKernel", "yielded", "Z", false)
def ft_K : Nat → FieldType := fun k => match k with
  | 0 => .object "PagedKernel$Memory"
  | 1 => .array (.object "PagedKernel$Task")
  | 2 => .array (.object "PagedKernel$Pipe")
  | 3 => .object "PagedKernel$Row"
  | 4 => .int
  | 5 => .array .int
  | 6 => .array .int
  | 7 => .int
  | 8 => .int
  | 9 => .boolean
  | 10 => .int
  | 11 => .int
  | _ => .boolean
def F_MEM : u_T := fun k => match k with
  | 0 => ("PagedKernel$Memory", "words", "[I", true)
  | 1 => ("PagedKernel$Memory", "used", "[Z", true)
  | _ => ("PagedKernel$Memory", "unused", "I", false)
def ft_MEM : Nat → FieldType := fun k => match k with
  | 0 => .array .int
  | 1 => .array .boolean
  | _ => .int
def F_T : u_T := fun k => match k with
  | 0 => ("PagedKernel$Task", "number", "I", true)
  | 1 => ("PagedKernel$Task", "registers", "[I", true)
  | 2 => ("PagedKernel$Task", "frames", "[I", true)
  | 3 => ("PagedKernel$Task", "descriptors", "[I", true)
  | 4 => ("PagedKernel$Task", "pageCount", "I", false)
  | 5 => ("PagedKernel$Task", "state", "I", false)
  | 6 => ("PagedKernel$Task", "counter", "I", false)
  | 7 => ("PagedKernel$Task", "parent", "I", false)
  | _ => ("PagedKernel$Task", "exit", "I", false)
def ft_T : Nat → FieldType := fun k => match k with
  | 0 => .int
  | 1 => .array .int
  | 2 => .array .int
  | 3 => .array .int
  | 4 => .int
  | 5 => .int
  | 6 => .int
  | 7 => .int
  | _ => .int
def F_P : u_T := fun k => match k with
  | 0 => ("PagedKernel$Pipe", "bytes", "[I", true)
  | 1 => ("PagedKernel$Pipe", "first", "I", false)
  | _ => ("PagedKernel$Pipe", "count", "I", false)
def ft_P : Nat → FieldType := fun k => match k with
  | 0 => .array .int
  | 1 => .int
  | _ => .int
def F_ROW : u_T := fun k => match k with
  | 0 => ("PagedKernel$Row", "numbers", "[I", true)
  | _ => ("PagedKernel$Row", "size", "I", false)
def ft_ROW : Nat → FieldType := fun k => match k with
  | 0 => .array .int
  | _ => .int
def F_MOD : u_T := fun k => match k with
  | 0 => ("PagedKernelModel", "frames", "I", false)
  | 1 => ("PagedKernelModel", "quantum", "I", false)
  | 2 => ("PagedKernelModel", "memory", "[I", true)
  | 3 => ("PagedKernelModel", "holder", "[I", true)
  | 4 => ("PagedKernelModel", "loaded", "I", false)
  | 5 => ("PagedKernelModel", "program", "[I", true)
  | 6 => ("PagedKernelModel", "booted", "Z", false)
  | 7 => ("PagedKernelModel", "state", "[I", true)
  | 8 => ("PagedKernelModel", "exit", "[I", true)
  | 9 => ("PagedKernelModel", "parent", "[I", true)
  | 10 => ("PagedKernelModel", "at", "[I", true)
  | 11 => ("PagedKernelModel", "size", "[I", true)
  | 12 => ("PagedKernelModel", "x", "[I", true)
  | 13 => ("PagedKernelModel", "page", "[I", true)
  | 14 => ("PagedKernelModel", "ends", "[I", true)
  | 15 => ("PagedKernelModel", "many", "I", false)
  | 16 => ("PagedKernelModel", "row", "[I", true)
  | 17 => ("PagedKernelModel", "turn", "I", false)
  | 18 => ("PagedKernelModel", "used", "I", false)
  | 19 => ("PagedKernelModel", "yields", "Z", false)
  | 20 => ("PagedKernelModel", "bytes", "[I", true)
  | 21 => ("PagedKernelModel", "count", "[I", true)
  | 22 => ("PagedKernelModel", "shown", "I", false)
  | 23 => ("PagedKernelModel", "screen", "[I", true)
  | 24 => ("PagedKernelModel", "me", "I", false)
  | 25 => ("PagedKernelModel", "w", "I", false)
  | 26 => ("PagedKernelModel", "next", "I", false)
  | _ => ("PagedKernelModel", "goes", "Z", false)
def ft_MOD : Nat → FieldType := fun k => match k with
  | 0 => .int
  | 1 => .int
  | 2 => .array .int
  | 3 => .array .int
  | 4 => .int
  | 5 => .array .int
  | 6 => .boolean
  | 7 => .array .int
  | 8 => .array .int
  | 9 => .array .int
  | 10 => .array .int
  | 11 => .array .int
  | 12 => .array .int
  | 13 => .array .int
  | 14 => .array .int
  | 15 => .int
  | 16 => .array .int
  | 17 => .int
  | 18 => .int
  | 19 => .boolean
  | 20 => .array .int
  | 21 => .array .int
  | 22 => .int
  | 23 => .array .int
  | 24 => .int
  | 25 => .int
  | 26 => .int
  | _ => .boolean
def cls : List vw_C := [(R_K, F_K, 13), (R_MEM, F_MEM, 3), (R_T, F_T, 9), (R_P, F_P, 3), (R_ROW, F_ROW, 2), (R_MOD, F_MOD, 28)]
def tyT : Nat → Nat → FieldType := fun ci => match ci with
  | 0 => ft_K
  | 1 => ft_MEM
  | 2 => ft_T
  | 3 => ft_P
  | 4 => ft_ROW
  | _ => ft_MOD
/-- the words that go along into every callee -/
def gw : List Cond := lw_tbl.filter goodWord
theorem gw_at (i : Nat) {w : Cond} (h : lw_tbl[i]? = some w) (hg : goodWord w = true) : w ∈ gw := List.mem_filter.mpr ⟨List.mem_of_getElem? h, hg⟩
theorem ci_K : ∀ w ∈ u_ws R_K F_K 13, w ∈ gw := by decide +kernel
theorem ci_MEM : ∀ w ∈ u_ws R_MEM F_MEM 3, w ∈ gw := by decide +kernel
theorem ci_T : ∀ w ∈ u_ws R_T F_T 9, w ∈ gw := by decide +kernel
theorem ci_P : ∀ w ∈ u_ws R_P F_P 3, w ∈ gw := by decide +kernel
theorem ci_ROW : ∀ w ∈ u_ws R_ROW F_ROW 2, w ∈ gw := by decide +kernel
theorem ci_MOD : ∀ w ∈ u_ws R_MOD F_MOD 28, w ∈ gw := by decide +kernel
theorem cls_in : ∀ (ci : Nat) (q : vw_C), cls[ci]? = some q → ∀ w ∈ u_ws q.1 q.2.1 q.2.2, w ∈ gw := by
  intro ci q hq
  match ci, hq with
  | 0, hq => cases hq; exact ci_K
  | 1, hq => cases hq; exact ci_MEM
  | 2, hq => cases hq; exact ci_T
  | 3, hq => cases hq; exact ci_P
  | 4, hq => cases hq; exact ci_ROW
  | 5, hq => cases hq; exact ci_MOD
  | k + 6, hq => simp [cls] at hq
theorem cls_ty : ∀ (ci : Nat) (q : vw_C), cls[ci]? = some q → ∀ k, k < q.2.2 → parseFieldDescriptor (q.2.1 k).2.2.1 = some (tyT ci k) := by
  intro ci q hq
  match ci, hq with
  | 0, hq => cases hq; decide +kernel
  | 1, hq => cases hq; decide +kernel
  | 2, hq => cases hq; decide +kernel
  | 3, hq => cases hq; decide +kernel
  | 4, hq => cases hq; decide +kernel
  | 5, hq => cases hq; decide +kernel
  | k + 6, hq => simp [cls] at hq
theorem cls_nm : ∀ (ci : Nat) (q : vw_C), cls[ci]? = some q → ∀ a, a < q.2.2 → ∀ b, b < q.2.2 → a ≠ b → (q.2.1 a).2.1 ≠ (q.2.1 b).2.1 := by
  intro ci q hq
  match ci, hq with
  | 0, hq => cases hq; decide +kernel
  | 1, hq => cases hq; decide +kernel
  | 2, hq => cases hq; decide +kernel
  | 3, hq => cases hq; decide +kernel
  | 4, hq => cases hq; decide +kernel
  | 5, hq => cases hq; decide +kernel
  | k + 6, hq => simp [cls] at hq
theorem cls_df : ∀ (ci : Nat) (q : vw_C), cls[ci]? = some q → ∀ k, k < q.2.2 → defaultValue (tyT ci k) = if refKind (tyT ci k) = true then .null else .int 0 := by
  intro ci q hq
  match ci, hq with
  | 0, hq => cases hq; decide +kernel
  | 1, hq => cases hq; decide +kernel
  | 2, hq => cases hq; decide +kernel
  | 3, hq => cases hq; decide +kernel
  | 4, hq => cases hq; decide +kernel
  | 5, hq => cases hq; decide +kernel
  | k + 6, hq => simp [cls] at hq
end
section
/-! ===== the machine layer: worlds by number, Ev (from here the method comes to its end with Q), Mt (a method's contract) ===== -/
abbrev iV : Type := Int32 ⊕ (Option Nat ⊕ (Int64 ⊕ Unit))
abbrev vI (x : Int32) : iV := Sum.inl x
abbrev vQ (r : Option Nat) : iV := Sum.inr (Sum.inl r)
abbrev vR (k : Nat) : iV := Sum.inr (Sum.inl (some k))
abbrev vN : iV := Sum.inr (Sum.inl none)
abbrev vL (x : Int64) : iV := Sum.inr (Sum.inr (Sum.inl x))
abbrev vS : iV := Sum.inr (Sum.inr (Sum.inr ()))
abbrev iH : Type := List (Nat × Nat) × (Nat → Nat → Int32) × (Nat → Nat → Option Nat)
abbrev iM : Type := MethodName × ByteArray × Nat × Option FieldType
abbrev iG : Type := va_G × (Nat → ClassId) × Nat × Nat × Nat × (Nat → Int32)
def iw_b (G : iG) (r : Option Nat) : Option Nat := match r with
  | none => none
  | some k => some (G.2.2.1 + k)
def tv (G : iG) (v : iV) : Value := match v with
  | .inl x => .int x
  | .inr (.inl r) => va_rf (iw_b G r)
  | .inr (.inr (.inl x)) => .long x
  | .inr (.inr (.inr _)) => .ref G.2.2.2.1
def ct (v : iV) : Nat := match v with
  | .inr (.inr (.inl _)) => 2
  | _ => 1
def rv (v : iV) : Bool := match v with
  | .inl _ => false
  | .inr (.inl _) => true
  | .inr (.inr (.inl _)) => false
  | .inr (.inr (.inr _)) => true
theorem tv_ct (G : iG) (v : iV) : (tv G v).category = ct v := by
  rcases v with x | r | x | u
  · rfl
  · cases r <;> rfl
  · rfl
  · rfl
/-- is field j of class ci a reference -/
def rf (ci j : Nat) : Bool := refKind (tyT ci j)
def fv (G : iG) (h : iH) (k ci j : Nat) : Value := if rf ci j = true then va_rf (iw_b G (h.2.2 k j)) else .int (h.2.1 k j)
/-- the cell number k: 0 int[], 1 boolean[], 2 Task[], 3 Pipe[], from 4 on an object of class ci -/
def en (G : iG) (h : iH) (k : Nat) (kn : Nat × Nat) : va_E := match kn.1 with
  | 0 => .inl (G.2.1 0, kn.2, .inl (h.2.1 k))
  | 1 => .inl (G.2.1 1, kn.2, .inl (h.2.1 k))
  | 2 => .inl (G.2.1 2, kn.2, .inr (.inr (.inr (.inr fun j => iw_b G (h.2.2 k j)))))
  | 3 => .inl (G.2.1 3, kn.2, .inr (.inr (.inr (.inr fun j => iw_b G (h.2.2 k j)))))
  | ci + 4 => .inr (ci, (List.range kn.2).map (fun j => fv G h k ci j))
def wh (G : iG) (h : iH) : va_W := h.1.mapIdx (fun k kn => (G.2.2.1 + k, en G h k kn))
theorem wh_at {G : iG} {h : iH} {k : Nat} {kn : Nat × Nat} (hk : h.1[k]? = some kn) : (wh G h)[k]? = some (G.2.2.1 + k, en G h k kn) := by
  simp [wh, hk]
theorem wh_of {G : iG} {h : iH} {k : Nat} {q : Nat × va_E} (hq : (wh G h)[k]? = some q) : ∃ kn, h.1[k]? = some kn ∧ q = (G.2.2.1 + k, en G h k kn) := by
  rw [wh, List.getElem?_mapIdx] at hq
  cases hk : h.1[k]? with
  | none => rw [hk] at hq; cases hq
  | some kn => rw [hk] at hq; exact ⟨kn, rfl, (Option.some.inj hq).symm⟩
theorem wh_D (G : iG) (h : iH) : va_D (fun q => G.2.2.1 ≤ q) (wh G h) := by
  refine ⟨fun i j p q hp hq e => ?_, fun k q hq => ?_⟩
  · obtain ⟨a, -, rfl⟩ := wh_of hp
    obtain ⟨b, -, rfl⟩ := wh_of hq
    have e : G.2.2.1 + i = G.2.2.1 + j := e
    omega
  · obtain ⟨a, -, rfl⟩ := wh_of hq
    exact Nat.le_add_right _ _
theorem wh_set {G : iG} {h h' : iH} {k : Nat} {kn : Nat × Nat} {e : va_E} (h1 : h'.1 = h.1) (hk : h.1[k]? = some kn) (he : en G h' k kn = e) (ho : ∀ i kn', i ≠ k → h.1[i]? = some kn' → en G h' i kn' = en G h i kn') : (wh G h).set k (G.2.2.1 + k, e) = wh G h' := by
  apply List.ext_getElem?
  intro i
  by_cases hik : k = i
  · subst hik
    have hlt : k < (wh G h).length := by
      rw [wh, List.length_mapIdx]
      exact (List.getElem?_eq_some_iff.mp hk).1
    rw [List.getElem?_set_self hlt, wh_at (h1 ▸ hk), he]
  · rw [List.getElem?_set_ne hik, wh, wh, List.getElem?_mapIdx, List.getElem?_mapIdx, h1]
    cases hi : h.1[i]? with
    | none => rfl
    | some kn' =>
      show some (_, _) = some (_, _)
      rw [ho i kn' (fun q => hik q.symm) hi]
/-- σ with x at (k, j) -/
def up2 (σ : Nat → Nat → Int32) (k j : Nat) (x : Int32) : Nat → Nat → Int32 := fun k' j' => if k' = k ∧ j' = j then x else σ k' j'
def up3 (ρ : Nat → Nat → Option Nat) (k j : Nat) (x : Option Nat) : Nat → Nat → Option Nat := fun k' j' => if k' = k ∧ j' = j then x else ρ k' j'
theorem up2_self (σ : Nat → Nat → Int32) (k j : Nat) (x : Int32) : up2 σ k j x k = upd (σ k) j x := by
  funext j'
  simp [up2, upd]
theorem up2_ne (σ : Nat → Nat → Int32) {k i : Nat} (j : Nat) (x : Int32) (h : i ≠ k) : up2 σ k j x i = σ i := by
  funext j'
  simp [up2, h]
theorem up3_ne (ρ : Nat → Nat → Option Nat) {k i : Nat} (j : Nat) (x : Option Nat) (h : i ≠ k) : up3 ρ k j x i = ρ i := by
  funext j'
  simp [up3, h]
theorem en_ne {G : iG} {h h' : iH} {i : Nat} (e1 : h'.2.1 i = h.2.1 i) (e2 : h'.2.2 i = h.2.2 i) (kn : Nat × Nat) : en G h' i kn = en G h i kn := by
  obtain ⟨a, n⟩ := kn
  have e3 : ∀ ci j, fv G h' i ci j = fv G h i ci j := fun ci j => by unfold fv; rw [e1, e2]
  match a with
  | 0 => show Sum.inl (_, _, _) = Sum.inl (_, _, _); rw [e1]
  | 1 => show Sum.inl (_, _, _) = Sum.inl (_, _, _); rw [e1]
  | 2 => show Sum.inl (_, _, _) = Sum.inl (_, _, _); rw [e2]
  | 3 => show Sum.inl (_, _, _) = Sum.inl (_, _, _); rw [e2]
  | ci + 4 => show Sum.inr (_, _) = Sum.inr (_, _); simp only [e3]
theorem wh_set_i {G : iG} {h : iH} {k j n : Nat} {x : Int32} {a : Nat} (ha : a = 0 ∨ a = 1) (hk : h.1[k]? = some (a, n)) : (wh G h).set k (G.2.2.1 + k, .inl (G.2.1 a, n, .inl (upd (h.2.1 k) j x))) = wh G (h.1, up2 h.2.1 k j x, h.2.2) := by
  refine wh_set (h' := (h.1, up2 h.2.1 k j x, h.2.2)) (kn := (a, n)) rfl hk ?_ (fun i kn' hi _ => en_ne (h := h) (h' := (h.1, up2 h.2.1 k j x, h.2.2)) (up2_ne _ _ _ hi) rfl kn')
  rcases ha with rfl | rfl <;> (show Sum.inl (_, _, _) = Sum.inl (_, _, _); rw [show (h.1, up2 h.2.1 k j x, h.2.2).2.1 k = _ from up2_self _ _ _ _])
theorem wh_set_q {G : iG} {h : iH} {k j n : Nat} {x : Option Nat} {a : Nat} (ha : a = 2 ∨ a = 3) (hk : h.1[k]? = some (a, n)) : (wh G h).set k (G.2.2.1 + k, .inl (G.2.1 a, n, .inr (.inr (.inr (.inr (va_up (fun j => iw_b G (h.2.2 k j)) j (iw_b G x))))))) = wh G (h.1, h.2.1, up3 h.2.2 k j x) := by
  have e : (fun j' => iw_b G (up3 h.2.2 k j x k j')) = va_up (fun j => iw_b G (h.2.2 k j)) j (iw_b G x) := by
    funext j'
    by_cases hj : j' = j <;> simp [up3, va_up, hj]
  refine wh_set (h' := (h.1, h.2.1, up3 h.2.2 k j x)) (kn := (a, n)) rfl hk ?_ (fun i kn' hi _ => en_ne (h := h) (h' := (h.1, h.2.1, up3 h.2.2 k j x)) rfl (up3_ne _ _ _ hi) kn')
  rcases ha with rfl | rfl <;> (show Sum.inl (_, _, _) = Sum.inl (_, _, _); rw [← e])
theorem fv_map_set {G : iG} {h h' : iH} {k ci j n : Nat} {v : Value} (hv : fv G h' k ci j = v) (ho : ∀ j', j' ≠ j → fv G h' k ci j' = fv G h k ci j') : ((List.range n).map (fun j => fv G h k ci j)).set j v = (List.range n).map (fun j => fv G h' k ci j) := by
  apply List.ext_getElem?
  intro i
  by_cases hij : j = i
  · subst hij
    by_cases hn : j < n
    · rw [List.getElem?_set_self (by simpa using hn)]
      simp [hn, hv]
    · simp [hn]
  · rw [List.getElem?_set_ne hij]
    by_cases hn : i < n
    · simp [hn, ho i (fun q => hij q.symm)]
    · simp [hn]
theorem wh_set_fi {G : iG} {h : iH} {k ci j n : Nat} {x : Int32} (hr : rf ci j = false) (hk : h.1[k]? = some (ci + 4, n)) : (wh G h).set k (G.2.2.1 + k, .inr (ci, ((List.range n).map (fun j => fv G h k ci j)).set j (.int x))) = wh G (h.1, up2 h.2.1 k j x, h.2.2) := by
  refine wh_set (h' := (h.1, up2 h.2.1 k j x, h.2.2)) (kn := (ci + 4, n)) rfl hk ?_ (fun i kn' hi _ => en_ne (h := h) (h' := (h.1, up2 h.2.1 k j x, h.2.2)) (up2_ne _ _ _ hi) rfl kn')
  show Sum.inr (_, _) = Sum.inr (_, _)
  rw [fv_map_set (h' := (h.1, up2 h.2.1 k j x, h.2.2)) (by simp [fv, hr, up2]) (fun j' hj => by simp [fv, up2, hj])]
theorem wh_set_fq {G : iG} {h : iH} {k ci j n : Nat} {x : Option Nat} (hr : rf ci j = true) (hk : h.1[k]? = some (ci + 4, n)) : (wh G h).set k (G.2.2.1 + k, .inr (ci, ((List.range n).map (fun j => fv G h k ci j)).set j (va_rf (iw_b G x)))) = wh G (h.1, h.2.1, up3 h.2.2 k j x) := by
  refine wh_set (h' := (h.1, h.2.1, up3 h.2.2 k j x)) (kn := (ci + 4, n)) rfl hk ?_ (fun i kn' hi _ => en_ne (h := h) (h' := (h.1, h.2.1, up3 h.2.2 k j x)) rfl (up3_ne _ _ _ hi) kn')
  show Sum.inr (_, _) = Sum.inr (_, _)
  rw [fv_map_set (h' := (h.1, h.2.1, up3 h.2.2 k j x)) (by simp [fv, hr, up3]) (fun j' hj => by simp [fv, up3, hj])]
/-- what the tables say -/
def tl (G : iG) : List (ClassId × FieldType) := [(G.2.1 0, .int), (G.2.1 1, .boolean), (G.2.1 2, .object R_Task), (G.2.1 3, .object R_Pipe)]
abbrev yN_P : MethodName := ⟨"PagedKernel$Pipe", "<init>", "()V"⟩
abbrev yN_R : MethodName := ⟨"PagedKernel$Row", "<init>", "()V"⟩
def KK (G : iG) (U : State) : Prop := va_K G.1 cls (tl G) U ∧ va_AO R_Task U ∧ va_AO R_Pipe U ∧ va_Nw (.methodLinkNest "PagedKernel" 39 yN_P "PagedKernel") U ∧ va_Nw (.methodLinkNest "PagedKernel" 42 yN_R "PagedKernel") U
theorem KK.warm {G : iG} {u U : State} (hW : u.WarmedH U.vm) (h : KK G u) : KK G U := ⟨va_K.moved hW.alike h.1, va_AO.moved hW.alike h.2.1, va_AO.moved hW.alike h.2.2.1, h.2.2.2.1.warmM hW, h.2.2.2.2.warmM hW⟩
theorem KK.same {G : iG} {u U : State} (hvm : u.vm = U.vm) (h : KK G u) : KK G U := ⟨va_K.moved (by rw [hvm]; exact Vm.Alike.refl _) h.1, va_AO.moved (by rw [hvm]; exact Vm.Alike.refl _) h.2.1, va_AO.moved (by rw [hvm]; exact Vm.Alike.refl _) h.2.2.1, h.2.2.2.1.same rfl hvm, h.2.2.2.2.same rfl hvm⟩
def Wd (G : iG) (h : iH) (H : Heap) : Prop := va_P G.1 cls (wh G h) H
def Xs (G : iG) (U : State) (H : Heap) : Prop := va_X G.2.2.2.1 G.2.2.2.2.1 G.2.2.2.2.2 U H ∧ G.2.2.2.1 < G.2.2.1
theorem Xs.moved {G : iG} {u U : State} {H : Heap} (hvm : u.vm.Alike U.vm) (w : Xs G u H) : Xs G U H := ⟨w.1.moved hvm, w.2⟩
/-- the locals -/
def lz (G : iG) : Nat → List (Option iV) → List (Nat × Value)
  | _, [] => []
  | i, none :: r => lz G (i + 1) r
  | i, some v :: r => (i, tv G v) :: lz G (i + 1) r
theorem lz_mem {G : iG} : ∀ (Ls : List (Option iV)) (j i : Nat) (v : iV), Ls[i]? = some (some v) → (j + i, tv G v) ∈ lz G j Ls
  | [], j, i, v, h => by simp at h
  | none :: r, j, 0, v, h => by simp at h
  | none :: r, j, i + 1, v, h => by
    have := lz_mem (G := G) r (j + 1) i v (by simpa using h)
    rw [show j + (i + 1) = j + 1 + i by omega]
    exact this
  | some w :: r, j, 0, v, h => by
    have h : w = v := by simpa using h
    subst h
    exact List.mem_cons_self
  | some w :: r, j, i + 1, v, h => by
    have := lz_mem (G := G) r (j + 1) i v (by simpa using h)
    rw [show j + (i + 1) = j + 1 + i by omega]
    exact List.mem_cons_of_mem _ this
theorem lz_of {G : iG} : ∀ (Ls : List (Option iV)) (j : Nat) (q : Nat × Value), q ∈ lz G j Ls → ∃ i v, q = (j + i, tv G v) ∧ Ls[i]? = some (some v)
  | [], j, q, h => by cases h
  | none :: r, j, q, h => by
    obtain ⟨i, v, h1, h2⟩ := lz_of r (j + 1) q h
    exact ⟨i + 1, v, by rw [h1, show j + (i + 1) = j + 1 + i by omega], by simpa using h2⟩
  | some w :: r, j, q, h => by
    rcases List.mem_cons.mp h with h | h
    · exact ⟨0, w, h, rfl⟩
    · obtain ⟨i, v, h1, h2⟩ := lz_of r (j + 1) q h
      exact ⟨i + 1, v, by rw [h1, show j + (i + 1) = j + 1 + i by omega], by simpa using h2⟩
def lh (G : iG) (ls : Array Slot) (nL : Nat) (Ls : List (Option iV)) : Prop := lv_has ls nL (lz G 0 Ls) ∧ ∀ v, some v ∈ Ls → ct v = 1
theorem lh_at {G : iG} {ls : Array Slot} {nL : Nat} {Ls : List (Option iV)} {i : Nat} {v : iV} (hl : lh G ls nL Ls) (hi : Ls[i]? = some (some v)) : ls[i]? = some (.val (tv G v)) := by
  have := hl.1.2.2 _ (lz_mem Ls 0 i v hi)
  simpa using this
theorem lh_st {G : iG} {ls ls' : Array Slot} {nL : Nat} {Ls : List (Option iV)} {i : Nat} {v : iV} (hl : lh G ls nL Ls) (hv : ct v = 1)
    (h' : lv_has ls' nL ((i, tv G v) :: (lz G 0 Ls).filter (fun q => !(q.1 == i) && !(q.1 + 1 == i && q.2.category == 2)))) : lh G ls' nL (Ls.set i (some v)) := by
  refine ⟨⟨h'.1, h'.2.1, fun q hq => ?_⟩, fun w hw => ?_⟩
  · obtain ⟨j, w, e1, e2⟩ := lz_of _ 0 q hq
    by_cases hij : i = j
    · subst hij
      have hlt : i < Ls.length := by
        have := (List.getElem?_eq_some_iff.mp e2).1
        simpa using this
      rw [List.getElem?_set_self hlt] at e2
      have : v = w := by simpa using e2
      subst this
      rw [e1, show 0 + i = i by omega]
      exact h'.2.2 _ List.mem_cons_self
    · rw [List.getElem?_set_ne hij] at e2
      have hm := lz_mem (G := G) Ls 0 j w e2
      rw [← e1] at hm
      refine h'.2.2 q (List.mem_cons_of_mem _ (List.mem_filter.mpr ⟨hm, ?_⟩))
      have hc : q.2.category = 1 := by rw [e1]; exact (tv_ct G w).trans (hl.2 w (List.mem_of_getElem? e2))
      have hq1 : q.1 ≠ i := by rw [e1]; show 0 + j ≠ i; omega
      simp [hc, hq1]
  · rcases List.mem_or_eq_of_mem_set hw with h | h
    · exact hl.2 w h
    · cases h; exact hv
/-- what stands at a method's end -/
def Rt (m : iM) (pc : Nat) (r : Option iV) : Prop :=
  (∃ x, r = some (vI x) ∧ decode m.2.1 pc = .ok (.ireturn, 1) ∧ (m.2.2.2 = some .int ∨ (m.2.2.2 = some .boolean ∧ (x = 0 ∨ x = 1)))) ∨
  (∃ q, r = some (vQ q) ∧ decode m.2.1 pc = .ok (.areturn, 1) ∧ ∃ C, m.2.2.2 = some (.object C)) ∨
  (r = none ∧ decode m.2.1 pc = .ok (.return_, 1) ∧ m.2.2.2 = none)
def Cx (G : iG) (m : iM) (d : Nat) (p : Program) (R : Room) (s : State) (mid : MethodId) (args : Array Value) (meth : Method) (c : Code) : Prop :=
  p.tables.exec = Jvm.exec ∧ c.code = m.2.1 ∧ c.maxLocals = m.2.2.1 ∧ s.vm.findClass m.1.cls = some mid.cls ∧ (∀ w ∈ gw, w.before args s = true) ∧ KK G s ∧ Xs G s s.heap ∧ G.2.2.1 ≤ s.heap.size ∧ d ≤ R.frames ∧ 36 * d ≤ R.locals ∧ meth.name = m.1.name
abbrev gA (G : iG) : Nat → Prop := fun q => G.2.2.1 ≤ q
def Ev (G : iG) (m : iM) (d ac az pc : Nat) (Ls : List (Option iV)) (st : List iV) (h : iH) (Q : Option iV → iH → Prop) : Prop :=
  ∀ (p : Program) (l : Launch) (e : Env) (R : Room) (s : State) (mid : MethodId) (args : Array Value) (below : List Frame) (meth : Method) (c : Code) (H : Heap) (locs : List Loc) (cells slots : Nat) (Z : State → Prop) (ls : Array Slot),
    Cx G m d p R s mid args meth c → Wd G h H → s.heap.size + cells = G.2.2.1 + h.1.length → va_S (gA G) s.heap H locs → lh G ls m.2.2.1 Ls → cells + ac ≤ R.cells → slots + az ≤ R.slots →
    (∀ (H' : Heap) (locs' : List Loc) (slots' : Nat) (r : Option iV) (h' : iH) (pc' : Nat) (ls' : Array Slot), Q r h' → Wd G h' H' → s.heap.size + (cells + ac) = G.2.2.1 + h'.1.length → va_S (gA G) s.heap H' locs' → slots' ≤ slots + az → Rt m pc' r → W p l e R s mid args below meth c H' locs' (cells + ac) slots' Z (F0 mid pc' ls' (r.toList.map (tv G)))) →
    W p l e R s mid args below meth c H locs cells slots Z (F0 mid pc ls (st.map (tv G)))
def mw (m : iM) : List Cond := .code m.1 m.2.1 m.2.2.1 m.2.2.2 :: gw
def rm (d ac az : Nat) : Room := { frames := d, cells := ac, slots := az, locals := 36 * d }
def Pm (G : iG) (h : iH) (U : State) : Prop := Wd G h U.heap ∧ U.heap.size = G.2.2.1 + h.1.length ∧ Xs G U U.heap ∧ KK G U
def Qm (G : iG) (ac : Nat) (h : iH) (Q : Option iV → iH → Prop) (st : State) (oc : Outcome) (t : State) : Prop :=
  (∃ (r : Option iV) (h' : iH), oc = .returned (r.map (tv G)) ∧ Q r h' ∧ Wd G h' t.heap ∧ h'.1.length = h.1.length + ac) ∧ va_F (gA G) st t
def Mt (G : iG) (m : iM) (d ac az : Nat) (As : List iV) (h : iH) (Q : Option iV → iH → Prop) : Prop :=
  ∀ l : Launch, Met l m.1 (mw m) (rm d ac az) (va_Pc (As.map (tv G)) (Pm G h)) (fun _ st oc t => Qm G ac h Q st oc t) ac az (gA G)
theorem Ev.mono {G : iG} {m : iM} {d ac az pc : Nat} {Ls : List (Option iV)} {st : List iV} {h : iH} {Q Q' : Option iV → iH → Prop} (k : Ev G m d ac az pc Ls st h Q) (hq : ∀ r h', Q r h' → Q' r h') : Ev G m d ac az pc Ls st h Q' :=
  fun p l e R s mid args below meth c H locs cells slots Z ls a1 a2 a3 a4 a5 a6 a7 a8 => k p l e R s mid args below meth c H locs cells slots Z ls a1 a2 a3 a4 a5 a6 a7 (fun H' locs' slots' r h' pc' ls' b1 => a8 H' locs' slots' r h' pc' ls' (hq r h' b1))
theorem lg_len (G : iG) : ∀ As : List iV, (∀ v ∈ As, ct v = 1) → (lg_sl (As.map (tv G))).length = As.length
  | [], _ => rfl
  | v :: As, h => by
    have h1 : (tv G v).category = 1 := (tv_ct G v).trans (h v List.mem_cons_self)
    have ih := lg_len G As (fun w hw => h w (List.mem_cons_of_mem _ hw))
    simp only [lg_sl, List.map_cons, List.flatMap_cons, h1] at ih ⊢
    simp [ih]
theorem lv_args_of (G : iG) : ∀ (As : List iV) (j : Nat) (n : Nat), (∀ v ∈ As, ct v = 1) → ∀ q ∈ lz G j (As.map some ++ List.replicate n none), q ∈ lv_args j (As.map (tv G))
  | [], j, n, _, q, hq => by
    obtain ⟨i, v, -, h2⟩ := lz_of _ j q hq
    have h3 := List.mem_of_getElem? h2
    simp at h3
  | v :: As, j, n, h, q, hq => by
    have h1 : (tv G v).category = 1 := (tv_ct G v).trans (h v List.mem_cons_self)
    have e : lv_args j ((v :: As).map (tv G)) = (j, tv G v) :: lv_args (j + 1) (As.map (tv G)) := by
      simp [lv_args, h1]
    rw [e]
    rcases List.mem_cons.mp hq with hq | hq
    · rw [hq]; exact List.mem_cons_self
    · exact List.mem_cons_of_mem _ (lv_args_of G As (j + 1) n (fun w hw => h w (List.mem_cons_of_mem _ hw)) q hq)
theorem gw_good : ∀ w ∈ gw, goodWord w = true := fun w h => (List.mem_filter.mp h).2
theorem gw_in {m : iM} (h : Cond.code m.1 m.2.1 m.2.2.1 m.2.2.2 ∈ gw) : GoodIn gw (mw m) := fun w hw => by
  rcases List.mem_cons.mp hw with hw | hw
  · rw [hw]; exact ⟨h, good_of_word (gw_good _ h)⟩
  · exact ⟨hw, good_of_word (gw_good _ hw)⟩
/-- a method's contract out of its walk -/
theorem Mt.of {G : iG} {m : iM} {d ac az : Nat} {As : List iV} {h : iH} {Q : Option iV → iH → Prop} (hpl : plainName m.1.cls = true) (hct : ∀ v ∈ As, ct v = 1) (hlen : As.length ≤ m.2.2.1)
    (k : Ev G m d ac az 0 (As.map some ++ List.replicate (m.2.2.1 - As.length) none) [] h Q) : Mt G m d ac az As h Q := by
  intro l
  refine Met.ofW (cc := m.2.1) (maxL := m.2.2.1) (ret := m.2.2.2) hpl rfl ?_
  intro p e s mid args below meth c s₁ B hml hv
  obtain ⟨rfl, hW, hsz, hX, hK⟩ := hv
  have hts := atoms_spec (ws := mw m) B.pre
  have hr := B.returns
  have hb := B.bytes
  have hx := B.exec
  have hlocks := B.notSynchronized
  have hl := lv_entry (As.map (tv G)) (n := m.2.2.1) (by rw [lg_len G As hct]; exact hlen)
  rw [lg_entry_eq]
  generalize (lg_sl (As.map (tv G)) ++ List.replicate (m.2.2.1 - (lg_sl (As.map (tv G))).length) Slot.unset).toArray = ls at hl ⊢
  have hl2 : lh G ls m.2.2.1 (As.map some ++ List.replicate (m.2.2.1 - As.length) none) := by
    refine ⟨⟨hl.1, hl.2.1, fun q hq => hl.2.2 q (lv_args_of G As 0 _ hct q hq)⟩, fun v hv => ?_⟩
    have : v ∈ As := by simpa using hv
    exact hct v this
  have hg : G.2.2.1 ≤ s.heap.size := by rw [hsz]; exact Nat.le_add_right _ _
  refine k p l e _ s mid _ below meth c s.heap [] 0 0 _ ls ⟨hx, hb, hml, findClass_of_methodNamed B.named, fun w hw => hts w (List.mem_cons_of_mem _ hw), hK, hX, hg, Nat.le_refl _, Nat.le_refl _, (name_of_methodNamed B.named B.method).1⟩ hW (by omega) va_S.rf hl2 (by show 0 + ac ≤ ac; omega) (by show 0 + az ≤ az; omega) ?_
  intro H' locs' slots' r h' pc' ls' hq hW' hn hS' hs hRt
  refine W.widen (k := ac) (n := az) (by omega) (by omega) ?_
  have hn' : h'.1.length = h.1.length + ac := by omega
  have hpost : ∀ t : State, t.heap = H' → s.WarmedH t.vm → Qm G ac h Q s (.returned (r.map (tv G))) t := fun t ht hWm => ⟨⟨r, h', rfl, hq, by rw [ht]; exact hW', hn'⟩, hS'.F ht⟩
  rcases hRt with ⟨x, rfl, hd, hty⟩ | ⟨q, rfl, hd, C, hty⟩ | ⟨rfl, hd, hty⟩
  · rcases hty with hty | ⟨hty, hx01⟩
    · exact W.iret (v := x) hx hb (hr.trans hty) hpost hS'.2.2 hd
    · exact W.zret (v := x) (ty := .boolean) hx hb (hr.trans hty) (by rcases hx01 with rfl | rfl <;> rfl) hpost hS'.2.2 hd
  · exact W.aret (v := tv G (vQ q)) (rt := .object C) hx hb (hr.trans hty) (Or.inl ⟨C, rfl⟩) (by cases q <;> first | exact Or.inl rfl | exact Or.inr ⟨_, rfl⟩) hpost hS'.2.2 hd
  · exact W.vret hx hb (hr.trans hty) hpost hS'.2.2 hd
end
section
section EV
variable {G : iG} {m : iM} {d ac az pc : Nat} {Ls : List (Option iV)} {st : List iV} {h : iH} {Q : Option iV → iH → Prop}
theorem E_iconst {n : Int} {v : Int32} (hd : decode m.2.1 pc = .ok (.iconst n, 1)) (hv : Int32.ofInt n = v) (k : Ev G m d ac az (pc + 1) Ls (vI v :: st) h Q) : Ev G m d ac az pc Ls (st) h Q := by
  intro p l e R s mid args below meth c H locs cells slots Z ls a1 a2 a3 a4 a5 a6 a7 a8
  exact lv_iconst a1.1 a1.2.1 hd hv (k p l e R s mid args below meth c H locs cells slots Z ls a1 a2 a3 a4 a5 a6 a7 a8)
theorem E_bipush {n : Int} {v : Int32} (hd : decode m.2.1 pc = .ok (.bipush n, 2)) (hv : (Int8.ofInt n).toInt32 = v) (k : Ev G m d ac az (pc + 2) Ls (vI v :: st) h Q) : Ev G m d ac az pc Ls (st) h Q := by
  intro p l e R s mid args below meth c H locs cells slots Z ls a1 a2 a3 a4 a5 a6 a7 a8
  exact lv_bipush a1.1 a1.2.1 hd hv (k p l e R s mid args below meth c H locs cells slots Z ls a1 a2 a3 a4 a5 a6 a7 a8)
theorem E_sipush {n : Int} {v : Int32} (hd : decode m.2.1 pc = .ok (.sipush n, 3)) (hv : (Int16.ofInt n).toInt32 = v) (k : Ev G m d ac az (pc + 3) Ls (vI v :: st) h Q) : Ev G m d ac az pc Ls (st) h Q := by
  intro p l e R s mid args below meth c H locs cells slots Z ls a1 a2 a3 a4 a5 a6 a7 a8
  exact lv_sipush a1.1 a1.2.1 hd hv (k p l e R s mid args below meth c H locs cells slots Z ls a1 a2 a3 a4 a5 a6 a7 a8)
theorem E_iload_n {i : Fin 4} {x : Int32} (hd : decode m.2.1 pc = .ok (.iload_n i, 1)) (hl : Ls[(i : Nat)]? = some (some (vI x))) (k : Ev G m d ac az (pc + 1) Ls (vI x :: st) h Q) : Ev G m d ac az pc Ls (st) h Q := by
  intro p l e R s mid args below meth c H locs cells slots Z ls a1 a2 a3 a4 a5 a6 a7 a8
  exact lv_iload_n a1.1 a1.2.1 hd rfl (lh_at a5 hl) (k p l e R s mid args below meth c H locs cells slots Z ls a1 a2 a3 a4 a5 a6 a7 a8)
theorem E_iload {i : Nat} {x : Int32} (hd : decode m.2.1 pc = .ok (.iload i, 2)) (hl : Ls[i]? = some (some (vI x))) (k : Ev G m d ac az (pc + 2) Ls (vI x :: st) h Q) : Ev G m d ac az pc Ls (st) h Q := by
  intro p l e R s mid args below meth c H locs cells slots Z ls a1 a2 a3 a4 a5 a6 a7 a8
  exact lv_iload a1.1 a1.2.1 hd (lh_at a5 hl) (k p l e R s mid args below meth c H locs cells slots Z ls a1 a2 a3 a4 a5 a6 a7 a8)
theorem E_aload_n {i : Fin 4} {v : iV} (hd : decode m.2.1 pc = .ok (.aload_n i, 1)) (hl : Ls[(i : Nat)]? = some (some v)) (hv : rv v = true) (k : Ev G m d ac az (pc + 1) Ls (v :: st) h Q) : Ev G m d ac az pc Ls st h Q := by
  intro p l e R s mid args below meth c H locs cells slots Z ls a1 a2 a3 a4 a5 a6 a7 a8
  have hat := lh_at a5 hl
  have K := (k p l e R s mid args below meth c H locs cells slots Z ls a1 a2 a3 a4 a5 a6 a7 a8)
  rcases v with x | r | x | u
  · cases hv
  · cases r with
    | none => exact lv_aload_nN a1.1 a1.2.1 hd rfl hat K
    | some q => exact lv_aload_n a1.1 a1.2.1 hd rfl hat K
  · cases hv
  · exact lv_aload_n a1.1 a1.2.1 hd rfl hat K
theorem E_aload {i : Nat} {v : iV} (hd : decode m.2.1 pc = .ok (.aload i, 2)) (hl : Ls[i]? = some (some v)) (hv : rv v = true) (k : Ev G m d ac az (pc + 2) Ls (v :: st) h Q) : Ev G m d ac az pc Ls st h Q := by
  intro p l e R s mid args below meth c H locs cells slots Z ls a1 a2 a3 a4 a5 a6 a7 a8
  have hat := lh_at a5 hl
  have K := (k p l e R s mid args below meth c H locs cells slots Z ls a1 a2 a3 a4 a5 a6 a7 a8)
  rcases v with x | r | x | u
  · cases hv
  · cases r with
    | none => exact lv_aloadN a1.1 a1.2.1 hd hat K
    | some q => exact lv_aload a1.1 a1.2.1 hd hat K
  · cases hv
  · exact lv_aload a1.1 a1.2.1 hd hat K
theorem E_istore_n {i : Fin 4} {x : Int32} (hd : decode m.2.1 pc = .ok (.istore_n i, 1)) (hi : (i : Nat) < m.2.2.1) (k : Ev G m d ac az (pc + 1) (Ls.set (i : Nat) (some (vI x))) st h Q) : Ev G m d ac az pc Ls (vI x :: st) h Q := by
  intro p l e R s mid args below meth c H locs cells slots Z ls a1 a2 a3 a4 a5 a6 a7 a8
  exact lv_istore_n a1.1 a1.2.1 hd rfl a5.1 hi rfl (fun ls' hl' => k p l e R s mid args below meth c H locs cells slots Z ls' a1 a2 a3 a4 (lh_st (v := vI x) a5 rfl hl') a6 a7 a8)
theorem E_istore {i : Nat} {x : Int32} (hd : decode m.2.1 pc = .ok (.istore i, 2)) (hi : i < m.2.2.1) (k : Ev G m d ac az (pc + 2) (Ls.set i (some (vI x))) st h Q) : Ev G m d ac az pc Ls (vI x :: st) h Q := by
  intro p l e R s mid args below meth c H locs cells slots Z ls a1 a2 a3 a4 a5 a6 a7 a8
  exact lv_istore a1.1 a1.2.1 hd a5.1 hi rfl (fun ls' hl' => k p l e R s mid args below meth c H locs cells slots Z ls' a1 a2 a3 a4 (lh_st (v := vI x) a5 rfl hl') a6 a7 a8)
theorem E_astore_n {i : Fin 4} {v : iV} (hd : decode m.2.1 pc = .ok (.astore_n i, 1)) (hi : (i : Nat) < m.2.2.1) (hv : rv v = true) (k : Ev G m d ac az (pc + 1) (Ls.set (i : Nat) (some v)) st h Q) : Ev G m d ac az pc Ls (v :: st) h Q := by
  intro p l e R s mid args below meth c H locs cells slots Z ls a1 a2 a3 a4 a5 a6 a7 a8
  rcases v with x | r | x | u
  · cases hv
  · cases r with
    | none => exact lv_astore_nN a1.1 a1.2.1 hd rfl a5.1 hi rfl (fun ls' hl' => k p l e R s mid args below meth c H locs cells slots Z ls' a1 a2 a3 a4 (lh_st (v := vN) a5 rfl hl') a6 a7 a8)
    | some q => exact lv_astore_n a1.1 a1.2.1 hd rfl a5.1 hi rfl (fun ls' hl' => k p l e R s mid args below meth c H locs cells slots Z ls' a1 a2 a3 a4 (lh_st (v := vR q) a5 rfl hl') a6 a7 a8)
  · cases hv
  · exact lv_astore_n a1.1 a1.2.1 hd rfl a5.1 hi rfl (fun ls' hl' => k p l e R s mid args below meth c H locs cells slots Z ls' a1 a2 a3 a4 (lh_st (v := vS) a5 rfl hl') a6 a7 a8)
theorem E_astore {i : Nat} {v : iV} (hd : decode m.2.1 pc = .ok (.astore i, 2)) (hi : i < m.2.2.1) (hv : rv v = true) (k : Ev G m d ac az (pc + 2) (Ls.set i (some v)) st h Q) : Ev G m d ac az pc Ls (v :: st) h Q := by
  intro p l e R s mid args below meth c H locs cells slots Z ls a1 a2 a3 a4 a5 a6 a7 a8
  rcases v with x | r | x | u
  · cases hv
  · cases r with
    | none => exact lv_astoreN a1.1 a1.2.1 hd a5.1 hi rfl (fun ls' hl' => k p l e R s mid args below meth c H locs cells slots Z ls' a1 a2 a3 a4 (lh_st (v := vN) a5 rfl hl') a6 a7 a8)
    | some q => exact lv_astore a1.1 a1.2.1 hd a5.1 hi rfl (fun ls' hl' => k p l e R s mid args below meth c H locs cells slots Z ls' a1 a2 a3 a4 (lh_st (v := vR q) a5 rfl hl') a6 a7 a8)
  · cases hv
  · exact lv_astore a1.1 a1.2.1 hd a5.1 hi rfl (fun ls' hl' => k p l e R s mid args below meth c H locs cells slots Z ls' a1 a2 a3 a4 (lh_st (v := vS) a5 rfl hl') a6 a7 a8)
theorem E_iinc {i : Nat} {n : Int} {x v : Int32} (hd : decode m.2.1 pc = .ok (.iinc i n, 3)) (hl : Ls[i]? = some (some (vI x))) (hv : x + Int32.ofInt n = v) (hi : i < m.2.2.1) (k : Ev G m d ac az (pc + 3) (Ls.set i (some (vI v))) st h Q) : Ev G m d ac az pc Ls st h Q := by
  intro p l e R s mid args below meth c H locs cells slots Z ls a1 a2 a3 a4 a5 a6 a7 a8
  obtain ⟨j, hj⟩ := List.getElem?_of_mem (lz_mem (G := G) Ls 0 i (vI x) hl)
  rw [Nat.zero_add] at hj
  exact lv_iinc a1.1 a1.2.1 hd a5.1 hj hv hi rfl (fun ls' hl' => k p l e R s mid args below meth c H locs cells slots Z ls' a1 a2 a3 a4 (lh_st (v := vI v) a5 rfl hl') a6 a7 a8)
theorem E_iadd {x y : Int32} (hd : decode m.2.1 pc = .ok (.iadd, 1))  (k : Ev G m d ac az (pc + 1) Ls (vI (x + y) :: st) h Q) : Ev G m d ac az pc Ls (vI y :: vI x :: st) h Q := by
  intro p l e R s mid args below meth c H locs cells slots Z ls a1 a2 a3 a4 a5 a6 a7 a8
  exact lv_iadd a1.1 a1.2.1 hd  (k p l e R s mid args below meth c H locs cells slots Z ls a1 a2 a3 a4 a5 a6 a7 a8)
theorem E_isub {x y : Int32} (hd : decode m.2.1 pc = .ok (.isub, 1))  (k : Ev G m d ac az (pc + 1) Ls (vI (x - y) :: st) h Q) : Ev G m d ac az pc Ls (vI y :: vI x :: st) h Q := by
  intro p l e R s mid args below meth c H locs cells slots Z ls a1 a2 a3 a4 a5 a6 a7 a8
  exact lv_isub a1.1 a1.2.1 hd  (k p l e R s mid args below meth c H locs cells slots Z ls a1 a2 a3 a4 a5 a6 a7 a8)
theorem E_imul {x y : Int32} (hd : decode m.2.1 pc = .ok (.imul, 1))  (k : Ev G m d ac az (pc + 1) Ls (vI (x * y) :: st) h Q) : Ev G m d ac az pc Ls (vI y :: vI x :: st) h Q := by
  intro p l e R s mid args below meth c H locs cells slots Z ls a1 a2 a3 a4 a5 a6 a7 a8
  exact lv_imul a1.1 a1.2.1 hd  (k p l e R s mid args below meth c H locs cells slots Z ls a1 a2 a3 a4 a5 a6 a7 a8)
theorem E_iand {x y : Int32} (hd : decode m.2.1 pc = .ok (.iand, 1))  (k : Ev G m d ac az (pc + 1) Ls (vI (x &&& y) :: st) h Q) : Ev G m d ac az pc Ls (vI y :: vI x :: st) h Q := by
  intro p l e R s mid args below meth c H locs cells slots Z ls a1 a2 a3 a4 a5 a6 a7 a8
  exact lv_iand a1.1 a1.2.1 hd  (k p l e R s mid args below meth c H locs cells slots Z ls a1 a2 a3 a4 a5 a6 a7 a8)
theorem E_ior {x y : Int32} (hd : decode m.2.1 pc = .ok (.ior, 1))  (k : Ev G m d ac az (pc + 1) Ls (vI (x ||| y) :: st) h Q) : Ev G m d ac az pc Ls (vI y :: vI x :: st) h Q := by
  intro p l e R s mid args below meth c H locs cells slots Z ls a1 a2 a3 a4 a5 a6 a7 a8
  exact lv_ior a1.1 a1.2.1 hd  (k p l e R s mid args below meth c H locs cells slots Z ls a1 a2 a3 a4 a5 a6 a7 a8)
theorem E_ixor {x y : Int32} (hd : decode m.2.1 pc = .ok (.ixor, 1))  (k : Ev G m d ac az (pc + 1) Ls (vI (x ^^^ y) :: st) h Q) : Ev G m d ac az pc Ls (vI y :: vI x :: st) h Q := by
  intro p l e R s mid args below meth c H locs cells slots Z ls a1 a2 a3 a4 a5 a6 a7 a8
  exact lv_ixor a1.1 a1.2.1 hd  (k p l e R s mid args below meth c H locs cells slots Z ls a1 a2 a3 a4 a5 a6 a7 a8)
theorem E_ishl {x y : Int32} (hd : decode m.2.1 pc = .ok (.ishl, 1))  (k : Ev G m d ac az (pc + 1) Ls (vI (x <<< (y &&& 31)) :: st) h Q) : Ev G m d ac az pc Ls (vI y :: vI x :: st) h Q := by
  intro p l e R s mid args below meth c H locs cells slots Z ls a1 a2 a3 a4 a5 a6 a7 a8
  exact lv_ishl a1.1 a1.2.1 hd  (k p l e R s mid args below meth c H locs cells slots Z ls a1 a2 a3 a4 a5 a6 a7 a8)
theorem E_ishr {x y : Int32} (hd : decode m.2.1 pc = .ok (.ishr, 1))  (k : Ev G m d ac az (pc + 1) Ls (vI (x >>> (y &&& 31)) :: st) h Q) : Ev G m d ac az pc Ls (vI y :: vI x :: st) h Q := by
  intro p l e R s mid args below meth c H locs cells slots Z ls a1 a2 a3 a4 a5 a6 a7 a8
  exact lv_ishr a1.1 a1.2.1 hd  (k p l e R s mid args below meth c H locs cells slots Z ls a1 a2 a3 a4 a5 a6 a7 a8)
theorem E_iushr {x y : Int32} (hd : decode m.2.1 pc = .ok (.iushr, 1))  (k : Ev G m d ac az (pc + 1) Ls (vI ((x.toUInt32 >>> (y.toUInt32 &&& Int32.toUInt32 31)).toInt32) :: st) h Q) : Ev G m d ac az pc Ls (vI y :: vI x :: st) h Q := by
  intro p l e R s mid args below meth c H locs cells slots Z ls a1 a2 a3 a4 a5 a6 a7 a8
  exact lv_iushr a1.1 a1.2.1 hd rfl (k p l e R s mid args below meth c H locs cells slots Z ls a1 a2 a3 a4 a5 a6 a7 a8)
theorem E_idiv {x y : Int32} (hd : decode m.2.1 pc = .ok (.idiv, 1)) (hne : ¬ y = 0) (k : Ev G m d ac az (pc + 1) Ls (vI (x / y) :: st) h Q) : Ev G m d ac az pc Ls (vI y :: vI x :: st) h Q := by
  intro p l e R s mid args below meth c H locs cells slots Z ls a1 a2 a3 a4 a5 a6 a7 a8
  exact lv_idiv a1.1 a1.2.1 hd hne (k p l e R s mid args below meth c H locs cells slots Z ls a1 a2 a3 a4 a5 a6 a7 a8)
theorem E_irem {x y : Int32} (hd : decode m.2.1 pc = .ok (.irem, 1)) (hne : ¬ y = 0) (k : Ev G m d ac az (pc + 1) Ls (vI (x - x / y * y) :: st) h Q) : Ev G m d ac az pc Ls (vI y :: vI x :: st) h Q := by
  intro p l e R s mid args below meth c H locs cells slots Z ls a1 a2 a3 a4 a5 a6 a7 a8
  exact lv_irem a1.1 a1.2.1 hd hne (k p l e R s mid args below meth c H locs cells slots Z ls a1 a2 a3 a4 a5 a6 a7 a8)
theorem E_i2l {x : Int32} (hd : decode m.2.1 pc = .ok (.i2l, 1))  (k : Ev G m d ac az (pc + 1) Ls (vL x.toInt64 :: st) h Q) : Ev G m d ac az pc Ls (vI x :: st) h Q := by
  intro p l e R s mid args below meth c H locs cells slots Z ls a1 a2 a3 a4 a5 a6 a7 a8
  exact lv_i2l a1.1 a1.2.1 hd rfl (k p l e R s mid args below meth c H locs cells slots Z ls a1 a2 a3 a4 a5 a6 a7 a8)
theorem E_land {x y : Int64} (hd : decode m.2.1 pc = .ok (.land, 1))  (k : Ev G m d ac az (pc + 1) Ls (vL (x &&& y) :: st) h Q) : Ev G m d ac az pc Ls (vL y :: vL x :: st) h Q := by
  intro p l e R s mid args below meth c H locs cells slots Z ls a1 a2 a3 a4 a5 a6 a7 a8
  exact lv_land a1.1 a1.2.1 hd  (k p l e R s mid args below meth c H locs cells slots Z ls a1 a2 a3 a4 a5 a6 a7 a8)
theorem E_lcmp {x y : Int64} (hd : decode m.2.1 pc = .ok (.lcmp, 1))  (k : Ev G m d ac az (pc + 1) Ls (vI (lg_cmp x y) :: st) h Q) : Ev G m d ac az pc Ls (vL y :: vL x :: st) h Q := by
  intro p l e R s mid args below meth c H locs cells slots Z ls a1 a2 a3 a4 a5 a6 a7 a8
  exact W.lcmp a1.1 a1.2.1 hd  (k p l e R s mid args below meth c H locs cells slots Z ls a1 a2 a3 a4 a5 a6 a7 a8)
theorem E_null  (hd : decode m.2.1 pc = .ok (.aconst_null, 1))  (k : Ev G m d ac az (pc + 1) Ls (vN :: st) h Q) : Ev G m d ac az pc Ls (st) h Q := by
  intro p l e R s mid args below meth c H locs cells slots Z ls a1 a2 a3 a4 a5 a6 a7 a8
  exact lv_null a1.1 a1.2.1 hd  (k p l e R s mid args below meth c H locs cells slots Z ls a1 a2 a3 a4 a5 a6 a7 a8)
theorem E_dup {v : iV} (hd : decode m.2.1 pc = .ok (.dup, 1)) (hv : ct v = 1) (k : Ev G m d ac az (pc + 1) Ls (v :: v :: st) h Q) : Ev G m d ac az pc Ls (v :: st) h Q := by
  intro p l e R s mid args below meth c H locs cells slots Z ls a1 a2 a3 a4 a5 a6 a7 a8
  exact lv_dup a1.1 a1.2.1 hd ((tv_ct G v).trans hv) (k p l e R s mid args below meth c H locs cells slots Z ls a1 a2 a3 a4 a5 a6 a7 a8)
theorem E_pop {v : iV} (hd : decode m.2.1 pc = .ok (.pop, 1)) (hv : ct v = 1) (k : Ev G m d ac az (pc + 1) Ls st h Q) : Ev G m d ac az pc Ls (v :: st) h Q := by
  intro p l e R s mid args below meth c H locs cells slots Z ls a1 a2 a3 a4 a5 a6 a7 a8
  exact lv_pop a1.1 a1.2.1 hd ((tv_ct G v).trans hv) (k p l e R s mid args below meth c H locs cells slots Z ls a1 a2 a3 a4 a5 a6 a7 a8)
theorem E_dup2 {v w : iV} (hd : decode m.2.1 pc = .ok (.dup2, 1)) (hv : ct v = 1) (hw : ct w = 1) (k : Ev G m d ac az (pc + 1) Ls (v :: w :: v :: w :: st) h Q) : Ev G m d ac az pc Ls (v :: w :: st) h Q := by
  intro p l e R s mid args below meth c H locs cells slots Z ls a1 a2 a3 a4 a5 a6 a7 a8
  exact lv_dup2_11 a1.1 a1.2.1 hd ((tv_ct G v).trans hv) ((tv_ct G w).trans hw) (k p l e R s mid args below meth c H locs cells slots Z ls a1 a2 a3 a4 a5 a6 a7 a8)
theorem E_icmp_eq {x y : Int32} {off : Int} {tgt : Nat} (hd : decode m.2.1 pc = .ok (.if_icmp .eq off, 3)) (ht : (pc : Int) + off = (tgt : Int)) (kt : x = y → Ev G m d ac az tgt Ls st h Q) (kf : ¬ x = y → Ev G m d ac az (pc + 3) Ls st h Q) : Ev G m d ac az pc Ls (vI y :: vI x :: st) h Q := by
  intro p l e R s mid args below meth c H locs cells slots Z ls a1 a2 a3 a4 a5 a6 a7 a8
  exact lv_icmp_eq a1.1 a1.2.1 hd ht (fun z => kt z p l e R s mid args below meth c H locs cells slots Z ls a1 a2 a3 a4 a5 a6 a7 a8) (fun z => kf z p l e R s mid args below meth c H locs cells slots Z ls a1 a2 a3 a4 a5 a6 a7 a8)
theorem E_if_eq {x : Int32} {off : Int} {tgt : Nat} (hd : decode m.2.1 pc = .ok (.ifCond .eq off, 3)) (ht : (pc : Int) + off = (tgt : Int)) (kt : x = 0 → Ev G m d ac az tgt Ls st h Q) (kf : ¬ x = 0 → Ev G m d ac az (pc + 3) Ls st h Q) : Ev G m d ac az pc Ls (vI x :: st) h Q := by
  intro p l e R s mid args below meth c H locs cells slots Z ls a1 a2 a3 a4 a5 a6 a7 a8
  exact lv_if_eq a1.1 a1.2.1 hd ht (fun z => kt z p l e R s mid args below meth c H locs cells slots Z ls a1 a2 a3 a4 a5 a6 a7 a8) (fun z => kf z p l e R s mid args below meth c H locs cells slots Z ls a1 a2 a3 a4 a5 a6 a7 a8)
theorem E_icmp_ne {x y : Int32} {off : Int} {tgt : Nat} (hd : decode m.2.1 pc = .ok (.if_icmp .ne off, 3)) (ht : (pc : Int) + off = (tgt : Int)) (kt : ¬ x = y → Ev G m d ac az tgt Ls st h Q) (kf : x = y → Ev G m d ac az (pc + 3) Ls st h Q) : Ev G m d ac az pc Ls (vI y :: vI x :: st) h Q := by
  intro p l e R s mid args below meth c H locs cells slots Z ls a1 a2 a3 a4 a5 a6 a7 a8
  exact lv_icmp_ne a1.1 a1.2.1 hd ht (fun z => kt z p l e R s mid args below meth c H locs cells slots Z ls a1 a2 a3 a4 a5 a6 a7 a8) (fun z => kf z p l e R s mid args below meth c H locs cells slots Z ls a1 a2 a3 a4 a5 a6 a7 a8)
theorem E_if_ne {x : Int32} {off : Int} {tgt : Nat} (hd : decode m.2.1 pc = .ok (.ifCond .ne off, 3)) (ht : (pc : Int) + off = (tgt : Int)) (kt : ¬ x = 0 → Ev G m d ac az tgt Ls st h Q) (kf : x = 0 → Ev G m d ac az (pc + 3) Ls st h Q) : Ev G m d ac az pc Ls (vI x :: st) h Q := by
  intro p l e R s mid args below meth c H locs cells slots Z ls a1 a2 a3 a4 a5 a6 a7 a8
  exact lv_if_ne a1.1 a1.2.1 hd ht (fun z => kt z p l e R s mid args below meth c H locs cells slots Z ls a1 a2 a3 a4 a5 a6 a7 a8) (fun z => kf z p l e R s mid args below meth c H locs cells slots Z ls a1 a2 a3 a4 a5 a6 a7 a8)
theorem E_icmp_lt {x y : Int32} {off : Int} {tgt : Nat} (hd : decode m.2.1 pc = .ok (.if_icmp .lt off, 3)) (ht : (pc : Int) + off = (tgt : Int)) (kt : x < y → Ev G m d ac az tgt Ls st h Q) (kf : ¬ x < y → Ev G m d ac az (pc + 3) Ls st h Q) : Ev G m d ac az pc Ls (vI y :: vI x :: st) h Q := by
  intro p l e R s mid args below meth c H locs cells slots Z ls a1 a2 a3 a4 a5 a6 a7 a8
  exact lv_icmp_lt a1.1 a1.2.1 hd ht (fun z => kt z p l e R s mid args below meth c H locs cells slots Z ls a1 a2 a3 a4 a5 a6 a7 a8) (fun z => kf z p l e R s mid args below meth c H locs cells slots Z ls a1 a2 a3 a4 a5 a6 a7 a8)
theorem E_if_lt {x : Int32} {off : Int} {tgt : Nat} (hd : decode m.2.1 pc = .ok (.ifCond .lt off, 3)) (ht : (pc : Int) + off = (tgt : Int)) (kt : x < 0 → Ev G m d ac az tgt Ls st h Q) (kf : ¬ x < 0 → Ev G m d ac az (pc + 3) Ls st h Q) : Ev G m d ac az pc Ls (vI x :: st) h Q := by
  intro p l e R s mid args below meth c H locs cells slots Z ls a1 a2 a3 a4 a5 a6 a7 a8
  exact lv_if_lt a1.1 a1.2.1 hd ht (fun z => kt z p l e R s mid args below meth c H locs cells slots Z ls a1 a2 a3 a4 a5 a6 a7 a8) (fun z => kf z p l e R s mid args below meth c H locs cells slots Z ls a1 a2 a3 a4 a5 a6 a7 a8)
theorem E_icmp_ge {x y : Int32} {off : Int} {tgt : Nat} (hd : decode m.2.1 pc = .ok (.if_icmp .ge off, 3)) (ht : (pc : Int) + off = (tgt : Int)) (kt : y ≤ x → Ev G m d ac az tgt Ls st h Q) (kf : ¬ y ≤ x → Ev G m d ac az (pc + 3) Ls st h Q) : Ev G m d ac az pc Ls (vI y :: vI x :: st) h Q := by
  intro p l e R s mid args below meth c H locs cells slots Z ls a1 a2 a3 a4 a5 a6 a7 a8
  exact lv_icmp_ge a1.1 a1.2.1 hd ht (fun z => kt z p l e R s mid args below meth c H locs cells slots Z ls a1 a2 a3 a4 a5 a6 a7 a8) (fun z => kf z p l e R s mid args below meth c H locs cells slots Z ls a1 a2 a3 a4 a5 a6 a7 a8)
theorem E_if_ge {x : Int32} {off : Int} {tgt : Nat} (hd : decode m.2.1 pc = .ok (.ifCond .ge off, 3)) (ht : (pc : Int) + off = (tgt : Int)) (kt : 0 ≤ x → Ev G m d ac az tgt Ls st h Q) (kf : ¬ 0 ≤ x → Ev G m d ac az (pc + 3) Ls st h Q) : Ev G m d ac az pc Ls (vI x :: st) h Q := by
  intro p l e R s mid args below meth c H locs cells slots Z ls a1 a2 a3 a4 a5 a6 a7 a8
  exact lv_if_ge a1.1 a1.2.1 hd ht (fun z => kt z p l e R s mid args below meth c H locs cells slots Z ls a1 a2 a3 a4 a5 a6 a7 a8) (fun z => kf z p l e R s mid args below meth c H locs cells slots Z ls a1 a2 a3 a4 a5 a6 a7 a8)
theorem E_icmp_gt {x y : Int32} {off : Int} {tgt : Nat} (hd : decode m.2.1 pc = .ok (.if_icmp .gt off, 3)) (ht : (pc : Int) + off = (tgt : Int)) (kt : y < x → Ev G m d ac az tgt Ls st h Q) (kf : ¬ y < x → Ev G m d ac az (pc + 3) Ls st h Q) : Ev G m d ac az pc Ls (vI y :: vI x :: st) h Q := by
  intro p l e R s mid args below meth c H locs cells slots Z ls a1 a2 a3 a4 a5 a6 a7 a8
  exact lv_icmp_gt a1.1 a1.2.1 hd ht (fun z => kt z p l e R s mid args below meth c H locs cells slots Z ls a1 a2 a3 a4 a5 a6 a7 a8) (fun z => kf z p l e R s mid args below meth c H locs cells slots Z ls a1 a2 a3 a4 a5 a6 a7 a8)
theorem E_if_gt {x : Int32} {off : Int} {tgt : Nat} (hd : decode m.2.1 pc = .ok (.ifCond .gt off, 3)) (ht : (pc : Int) + off = (tgt : Int)) (kt : 0 < x → Ev G m d ac az tgt Ls st h Q) (kf : ¬ 0 < x → Ev G m d ac az (pc + 3) Ls st h Q) : Ev G m d ac az pc Ls (vI x :: st) h Q := by
  intro p l e R s mid args below meth c H locs cells slots Z ls a1 a2 a3 a4 a5 a6 a7 a8
  exact lv_if_gt a1.1 a1.2.1 hd ht (fun z => kt z p l e R s mid args below meth c H locs cells slots Z ls a1 a2 a3 a4 a5 a6 a7 a8) (fun z => kf z p l e R s mid args below meth c H locs cells slots Z ls a1 a2 a3 a4 a5 a6 a7 a8)
theorem E_icmp_le {x y : Int32} {off : Int} {tgt : Nat} (hd : decode m.2.1 pc = .ok (.if_icmp .le off, 3)) (ht : (pc : Int) + off = (tgt : Int)) (kt : x ≤ y → Ev G m d ac az tgt Ls st h Q) (kf : ¬ x ≤ y → Ev G m d ac az (pc + 3) Ls st h Q) : Ev G m d ac az pc Ls (vI y :: vI x :: st) h Q := by
  intro p l e R s mid args below meth c H locs cells slots Z ls a1 a2 a3 a4 a5 a6 a7 a8
  exact lv_icmp_le a1.1 a1.2.1 hd ht (fun z => kt z p l e R s mid args below meth c H locs cells slots Z ls a1 a2 a3 a4 a5 a6 a7 a8) (fun z => kf z p l e R s mid args below meth c H locs cells slots Z ls a1 a2 a3 a4 a5 a6 a7 a8)
theorem E_if_le {x : Int32} {off : Int} {tgt : Nat} (hd : decode m.2.1 pc = .ok (.ifCond .le off, 3)) (ht : (pc : Int) + off = (tgt : Int)) (kt : x ≤ 0 → Ev G m d ac az tgt Ls st h Q) (kf : ¬ x ≤ 0 → Ev G m d ac az (pc + 3) Ls st h Q) : Ev G m d ac az pc Ls (vI x :: st) h Q := by
  intro p l e R s mid args below meth c H locs cells slots Z ls a1 a2 a3 a4 a5 a6 a7 a8
  exact lv_if_le a1.1 a1.2.1 hd ht (fun z => kt z p l e R s mid args below meth c H locs cells slots Z ls a1 a2 a3 a4 a5 a6 a7 a8) (fun z => kf z p l e R s mid args below meth c H locs cells slots Z ls a1 a2 a3 a4 a5 a6 a7 a8)
theorem E_goto {off : Int} {tgt : Nat} (hd : decode m.2.1 pc = .ok (.goto off, 3)) (ht : (pc : Int) + off = (tgt : Int)) (k : Ev G m d ac az tgt Ls st h Q) : Ev G m d ac az pc Ls st h Q := by
  intro p l e R s mid args below meth c H locs cells slots Z ls a1 a2 a3 a4 a5 a6 a7 a8
  exact lv_goto a1.1 a1.2.1 hd ht (k p l e R s mid args below meth c H locs cells slots Z ls a1 a2 a3 a4 a5 a6 a7 a8)
theorem E_ifnull {r : Option Nat} {off : Int} {tgt : Nat} (hd : decode m.2.1 pc = .ok (.ifnull off, 3)) (ht : (pc : Int) + off = (tgt : Int)) (kt : r = none → Ev G m d ac az tgt Ls st h Q) (kf : ∀ q, r = some q → Ev G m d ac az (pc + 3) Ls st h Q) : Ev G m d ac az pc Ls (vQ r :: st) h Q := by
  intro p l e R s mid args below meth c H locs cells slots Z ls a1 a2 a3 a4 a5 a6 a7 a8
  cases r with
  | none => exact lv_ifnullN a1.1 a1.2.1 hd ht (kt rfl p l e R s mid args below meth c H locs cells slots Z ls a1 a2 a3 a4 a5 a6 a7 a8)
  | some q => exact lv_ifnull a1.1 a1.2.1 hd (kf q rfl p l e R s mid args below meth c H locs cells slots Z ls a1 a2 a3 a4 a5 a6 a7 a8)
theorem E_ifnonnull {r : Option Nat} {off : Int} {tgt : Nat} (hd : decode m.2.1 pc = .ok (.ifnonnull off, 3)) (ht : (pc : Int) + off = (tgt : Int)) (kt : ∀ q, r = some q → Ev G m d ac az tgt Ls st h Q) (kf : r = none → Ev G m d ac az (pc + 3) Ls st h Q) : Ev G m d ac az pc Ls (vQ r :: st) h Q := by
  intro p l e R s mid args below meth c H locs cells slots Z ls a1 a2 a3 a4 a5 a6 a7 a8
  cases r with
  | none => exact lv_ifnonnullN a1.1 a1.2.1 hd (kf rfl p l e R s mid args below meth c H locs cells slots Z ls a1 a2 a3 a4 a5 a6 a7 a8)
  | some q => exact lv_ifnonnull a1.1 a1.2.1 hd ht (kt q rfl p l e R s mid args below meth c H locs cells slots Z ls a1 a2 a3 a4 a5 a6 a7 a8)
theorem E_tsOut {dflt lo hi : Int} {offs : Array Int} {len : Nat} {x : Int32} {tgt : Nat} (hd : decode m.2.1 pc = .ok (.tableswitch dflt lo hi offs, len)) (hx : x.toInt < lo ∨ hi < x.toInt) (ht : (pc : Int) + dflt = (tgt : Int)) (k : Ev G m d ac az tgt Ls st h Q) : Ev G m d ac az pc Ls (vI x :: st) h Q := by
  intro p l e R s mid args below meth c H locs cells slots Z ls a1 a2 a3 a4 a5 a6 a7 a8
  exact lv_tableOut a1.1 a1.2.1 hd hx ht (k p l e R s mid args below meth c H locs cells slots Z ls a1 a2 a3 a4 a5 a6 a7 a8)
theorem E_tsIn {dflt lo hi : Int} {offs : Array Int} {len : Nat} {x : Int32} {off : Int} {tgt : Nat} (hd : decode m.2.1 pc = .ok (.tableswitch dflt lo hi offs, len)) (h1 : ¬ x.toInt < lo) (h2 : ¬ hi < x.toInt) (ho : offs[(x.toInt - lo).toNat]? = some off) (ht : (pc : Int) + off = (tgt : Int)) (k : Ev G m d ac az tgt Ls st h Q) : Ev G m d ac az pc Ls (vI x :: st) h Q := by
  intro p l e R s mid args below meth c H locs cells slots Z ls a1 a2 a3 a4 a5 a6 a7 a8
  exact lv_tableIn a1.1 a1.2.1 hd h1 h2 ho ht (k p l e R s mid args below meth c H locs cells slots Z ls a1 a2 a3 a4 a5 a6 a7 a8)
theorem E_lookup {dflt : Int} {ps : Array (Int × Int)} {len : Nat} {x : Int32} {off : Int} {tgt : Nat} (hd : decode m.2.1 pc = .ok (.lookupswitch dflt ps, len)) (hp : (ps.toList.zip (ps.toList.drop 1)).all (fun (a, next) => a.1 < next.1) = true) (ho : Op.lookupswitch.offset ps.toList dflt x.toInt = off) (ht : (pc : Int) + off = (tgt : Int)) (k : Ev G m d ac az tgt Ls st h Q) : Ev G m d ac az pc Ls (vI x :: st) h Q := by
  intro p l e R s mid args below meth c H locs cells slots Z ls a1 a2 a3 a4 a5 a6 a7 a8
  exact lv_lookup a1.1 a1.2.1 hd hp ho ht (k p l e R s mid args below meth c H locs cells slots Z ls a1 a2 a3 a4 a5 a6 a7 a8)
theorem E_ldc {idx : Nat} {v : Int32} (hd : decode m.2.1 pc = .ok (.ldc idx, 2)) (hc : Jvm.Cond.constant m.1.cls idx v ∈ gw) (k : Ev G m d ac az (pc + 2) Ls (vI v :: st) h Q) : Ev G m d ac az pc Ls st h Q := by
  intro p l e R s mid args below meth c H locs cells slots Z ls a1 a2 a3 a4 a5 a6 a7 a8
  exact lv_ldc a1.1 a1.2.1 a1.2.2.2.1 (a1.2.2.2.2.1 _ hc) hd (k p l e R s mid args below meth c H locs cells slots Z ls a1 a2 a3 a4 a5 a6 a7 a8)
theorem E_ldc2 {idx : Nat} {v : Int64} (hd : decode m.2.1 pc = .ok (.ldc2_w idx, 3)) (hc : Jvm.Cond.constantLong m.1.cls idx v ∈ gw) (k : Ev G m d ac az (pc + 3) Ls (vL v :: st) h Q) : Ev G m d ac az pc Ls st h Q := by
  intro p l e R s mid args below meth c H locs cells slots Z ls a1 a2 a3 a4 a5 a6 a7 a8
  exact lv_ldc2 a1.1 a1.2.1 a1.2.2.2.1 (a1.2.2.2.2.1 _ hc) hd (k p l e R s mid args below meth c H locs cells slots Z ls a1 a2 a3 a4 a5 a6 a7 a8)
theorem E_ireturn {x : Int32} (hd : decode m.2.1 pc = .ok (.ireturn, 1)) (hr : m.2.2.2 = some .int ∨ (m.2.2.2 = some .boolean ∧ (x = 0 ∨ x = 1))) (h0 : ac = 0) (hq : Q (some (vI x)) h) : Ev G m d ac az pc Ls [vI x] h Q := by
  intro p l e R s mid args below meth c H locs cells slots Z ls a1 a2 a3 a4 a5 a6 a7 a8
  subst h0
  exact a8 H locs slots (some (vI x)) h pc ls hq a2 a3 a4 (Nat.le_add_right _ _) (Or.inl ⟨x, rfl, hd, hr⟩)
theorem E_areturn {q : Option Nat} {C : String} (hd : decode m.2.1 pc = .ok (.areturn, 1)) (hr : m.2.2.2 = some (.object C)) (h0 : ac = 0) (hq : Q (some (vQ q)) h) : Ev G m d ac az pc Ls [vQ q] h Q := by
  intro p l e R s mid args below meth c H locs cells slots Z ls a1 a2 a3 a4 a5 a6 a7 a8
  subst h0
  exact a8 H locs slots (some (vQ q)) h pc ls hq a2 a3 a4 (Nat.le_add_right _ _) (Or.inr (Or.inl ⟨q, rfl, hd, C, hr⟩))
theorem E_return (hd : decode m.2.1 pc = .ok (.return_, 1)) (hr : m.2.2.2 = none) (h0 : ac = 0) (hq : Q none h) : Ev G m d ac az pc Ls [] h Q := by
  intro p l e R s mid args below meth c H locs cells slots Z ls a1 a2 a3 a4 a5 a6 a7 a8
  subst h0
  exact a8 H locs slots none h pc ls hq a2 a3 a4 (Nat.le_add_right _ _) (Or.inr (Or.inr ⟨rfl, hd, hr⟩))
/-- pool index idx of class own names field j of class ci -/
def FLk (own : String) (idx ci j : Nat) : Prop := ∃ q : vw_C, cls[ci]? = some q ∧ j < q.2.2 ∧ Cond.fieldLink own idx (q.2.1 j).1 (q.2.1 j).2.1 (q.2.1 j).2.2.1 ∈ gw
def fnl (ci j : Nat) : Bool := match cls[ci]? with
  | some q => (q.2.1 j).2.2.2
  | none => true
def own_ (ci j : Nat) : String := match cls[ci]? with
  | some q => (q.2.1 j).1
  | none => ""
theorem wh_obj {k ci n : Nat} (hk : h.1[k]? = some (ci + 4, n)) : (wh G h)[k]? = some (G.2.2.1 + k, .inr (ci, (List.range n).map (fun j => fv G h k ci j))) := wh_at hk
theorem wh_fld {k ci j n : Nat} (hj : j < n) : ((List.range n).map (fun j => fv G h k ci j))[j]? = some (fv G h k ci j) := by simp [hj]
theorem E_getI {idx ci j k n : Nat} (hd : decode m.2.1 pc = .ok (.getfield idx, 3)) (hf : FLk m.1.cls idx ci j) (hk : h.1[k]? = some (ci + 4, n)) (hj : j < n) (hr : rf ci j = false) (kk : Ev G m d ac az (pc + 3) Ls (vI (h.2.1 k j) :: st) h Q) : Ev G m d ac az pc Ls (vR k :: st) h Q := by
  intro p l e R s mid args below meth c H locs cells slots Z ls a1 a2 a3 a4 a5 a6 a7 a8
  obtain ⟨hx, hb, hml, hown, hts, hK, hX, hg, hfr, hlo, hnm⟩ := id a1
  obtain ⟨⟨C, T, N⟩, hc, hjN, hw⟩ := hf
  exact va_get (D := G.1) (ci := ci) (v := .int (h.2.1 k j)) (C := C) (T := T) (N := N) hx hb hts (cls_in ci _ hc) hown hK.1 a2 k (wh_obj hk) hc j hjN (hts _ hw) (fun _ h9 => h9) (by rw [wh_fld hj, fv, hr]; rfl) hd (kk p l e R s mid args below meth c H locs cells slots Z ls a1 a2 a3 a4 a5 a6 a7 a8)
theorem E_getQ {idx ci j k n : Nat} (hd : decode m.2.1 pc = .ok (.getfield idx, 3)) (hf : FLk m.1.cls idx ci j) (hk : h.1[k]? = some (ci + 4, n)) (hj : j < n) (hr : rf ci j = true) (kk : Ev G m d ac az (pc + 3) Ls (vQ (h.2.2 k j) :: st) h Q) : Ev G m d ac az pc Ls (vR k :: st) h Q := by
  intro p l e R s mid args below meth c H locs cells slots Z ls a1 a2 a3 a4 a5 a6 a7 a8
  obtain ⟨hx, hb, hml, hown, hts, hK, hX, hg, hfr, hlo, hnm⟩ := id a1
  obtain ⟨⟨C, T, N⟩, hc, hjN, hw⟩ := hf
  exact va_get (D := G.1) (ci := ci) (v := va_rf (iw_b G (h.2.2 k j))) (C := C) (T := T) (N := N) hx hb hts (cls_in ci _ hc) hown hK.1 a2 k (wh_obj hk) hc j hjN (hts _ hw) (fun _ h9 => h9) (by rw [wh_fld hj, fv, hr]; rfl) hd (kk p l e R s mid args below meth c H locs cells slots Z ls a1 a2 a3 a4 a5 a6 a7 a8)
theorem fits_i {ci j : Nat} {x : Int32} (ht : tyT ci j = .int ∨ (tyT ci j = .boolean ∧ (x = 0 ∨ x = 1))) : narrow (tyT ci j) (.int x) = .int x ∧ fits (tyT ci j) (.int x) = true ∧ rf ci j = false := by
  rcases ht with ht | ⟨ht, rfl | rfl⟩ <;> (unfold rf; rw [ht]; exact ⟨rfl, rfl, rfl⟩)
theorem fits_q {ci j : Nat} (x : Option Nat) (hr : rf ci j = true) : narrow (tyT ci j) (va_rf (iw_b G x)) = va_rf (iw_b G x) ∧ fits (tyT ci j) (va_rf (iw_b G x)) = true := by
  unfold rf at hr
  generalize tyT ci j = t at hr ⊢
  cases t <;> first | (cases hr; done) | (cases x <;> exact ⟨rfl, rfl⟩)
theorem E_putI {idx ci j k n : Nat} {x : Int32} (hd : decode m.2.1 pc = .ok (.putfield idx, 3)) (hf : FLk m.1.cls idx ci j) (hk : h.1[k]? = some (ci + 4, n)) (hj : j < n) (ht : tyT ci j = .int ∨ (tyT ci j = .boolean ∧ (x = 0 ∨ x = 1))) (hfin : fnl ci j = false) (kk : Ev G m d ac az (pc + 3) Ls st (h.1, up2 h.2.1 k j x, h.2.2) Q) : Ev G m d ac az pc Ls (vI x :: vR k :: st) h Q := by
  intro p l e R s mid args below meth c H locs cells slots Z ls a1 a2 a3 a4 a5 a6 a7 a8
  obtain ⟨hx, hb, hml, hown, hts, hK, hX, hg, hfr, hlo, hnm⟩ := id a1
  obtain ⟨⟨C, T, N⟩, hc, hjN, hw⟩ := hf
  obtain ⟨f1, f2, f3⟩ := fits_i ht
  refine va_put (D := G.1) (ci := ci) (v := .int x) (ty := tyT ci j) (C := C) (T := T) (N := N) hx hb hts (cls_in ci _ hc) (tyT ci) (cls_ty ci _ hc) (cls_nm ci _ hc) hown hK.1 a2 (wh_D G h) a4 k (wh_obj hk) hc j hjN (hts _ hw) (fun _ h9 => h9) (by have := hfin; simp only [fnl, hc] at this; exact this) (cls_ty ci _ hc j hjN) f1 f2 (by simpa using hj) hd (fun H1 locs1 hP1 _ hS1 => ?_)
  rw [wh_set_fi f3 hk] at hP1
  exact kk p l e R s mid args below meth c H1 locs1 cells slots Z ls a1 hP1 a3 hS1 a5 a6 a7 a8
theorem E_putFI {idx ci j k n : Nat} {x : Int32} (hd : decode m.2.1 pc = .ok (.putfield idx, 3)) (hf : FLk m.1.cls idx ci j) (hk : h.1[k]? = some (ci + 4, n)) (hj : j < n) (ht : tyT ci j = .int ∨ (tyT ci j = .boolean ∧ (x = 0 ∨ x = 1))) (hfin : fnl ci j = true) (hin : m.1.name = "<init>") (hown2 : own_ ci j = m.1.cls) (kk : Ev G m d ac az (pc + 3) Ls st (h.1, up2 h.2.1 k j x, h.2.2) Q) : Ev G m d ac az pc Ls (vI x :: vR k :: st) h Q := by
  intro p l e R s mid args below meth c H locs cells slots Z ls a1 a2 a3 a4 a5 a6 a7 a8
  obtain ⟨hx, hb, hml, hown, hts, hK, hX, hg, hfr, hlo, hnm⟩ := id a1
  obtain ⟨⟨C, T, N⟩, hc, hjN, hw⟩ := hf
  obtain ⟨f1, f2, f3⟩ := fits_i ht
  refine va_putF (D := G.1) (ci := ci) (v := .int x) (ty := tyT ci j) (C := C) (T := T) (N := N) hx hb hts (cls_in ci _ hc) (tyT ci) (cls_ty ci _ hc) (cls_nm ci _ hc) hown hK.1 a2 (wh_D G h) a4 k (wh_obj hk) hc j hjN (hts _ hw) (fun _ h9 => h9) (by have := hfin; simp only [fnl, hc] at this; exact this) (hnm.trans hin) (by have := hown2; simp only [own_, hc] at this; exact this) (cls_ty ci _ hc j hjN) f1 f2 (by simpa using hj) hd (fun H1 locs1 hP1 _ hS1 => ?_)
  rw [wh_set_fi f3 hk] at hP1
  exact kk p l e R s mid args below meth c H1 locs1 cells slots Z ls a1 hP1 a3 hS1 a5 a6 a7 a8
theorem E_putFQ {idx ci j k n : Nat} {x : Option Nat} (hd : decode m.2.1 pc = .ok (.putfield idx, 3)) (hf : FLk m.1.cls idx ci j) (hk : h.1[k]? = some (ci + 4, n)) (hj : j < n) (hr : rf ci j = true) (hfin : fnl ci j = true) (hin : m.1.name = "<init>") (hown2 : own_ ci j = m.1.cls) (kk : Ev G m d ac az (pc + 3) Ls st (h.1, h.2.1, up3 h.2.2 k j x) Q) : Ev G m d ac az pc Ls (vQ x :: vR k :: st) h Q := by
  intro p l e R s mid args below meth c H locs cells slots Z ls a1 a2 a3 a4 a5 a6 a7 a8
  obtain ⟨hx, hb, hml, hown, hts, hK, hX, hg, hfr, hlo, hnm⟩ := id a1
  obtain ⟨⟨C, T, N⟩, hc, hjN, hw⟩ := hf
  obtain ⟨f1, f2⟩ := fits_q (G := G) x hr
  refine va_putF (D := G.1) (ci := ci) (v := va_rf (iw_b G x)) (ty := tyT ci j) (C := C) (T := T) (N := N) hx hb hts (cls_in ci _ hc) (tyT ci) (cls_ty ci _ hc) (cls_nm ci _ hc) hown hK.1 a2 (wh_D G h) a4 k (wh_obj hk) hc j hjN (hts _ hw) (fun _ h9 => h9) (by have := hfin; simp only [fnl, hc] at this; exact this) (hnm.trans hin) (by have := hown2; simp only [own_, hc] at this; exact this) (cls_ty ci _ hc j hjN) f1 f2 (by simpa using hj) hd (fun H1 locs1 hP1 _ hS1 => ?_)
  rw [wh_set_fq hr hk] at hP1
  exact kk p l e R s mid args below meth c H1 locs1 cells slots Z ls a1 hP1 a3 hS1 a5 a6 a7 a8
theorem in_of {i : Int32} {j n : Nat} (hi : i = nI j) (hj : j < n) (hn : n < 2 ^ 31) : vp_in i n ∧ i.toNatClampNeg = j := by
  subst hi
  exact ⟨vp_in_nI hj hn, nI_clamp (by omega)⟩
theorem E_iald {i : Int32} {j k n : Nat} (hd : decode m.2.1 pc = .ok (.iaload, 1)) (hk : h.1[k]? = some (0, n)) (hi : i = nI j) (hj : j < n) (hn : n < 2 ^ 31) (kk : Ev G m d ac az (pc + 1) Ls (vI (h.2.1 k j) :: st) h Q) : Ev G m d ac az pc Ls (vI i :: vR k :: st) h Q := by
  intro p l e R s mid args below meth c H locs cells slots Z ls a1 a2 a3 a4 a5 a6 a7 a8
  obtain ⟨hx, hb, hml, hown, hts, hK, hX, hg, hfr, hlo, hnm⟩ := id a1
  obtain ⟨g1, g2⟩ := in_of hi hj hn
  refine va_iald (D := G.1) (cA := G.2.1 0) (n := n) (f := h.2.1 k) hx hb hK.1 a2 k 0 (wh_at hk) rfl g1 hd ?_
  rw [g2]
  exact kk p l e R s mid args below meth c H locs cells slots Z ls a1 a2 a3 a4 a5 a6 a7 a8
theorem E_zald {i : Int32} {j k n : Nat} (hd : decode m.2.1 pc = .ok (.baload, 1)) (hk : h.1[k]? = some (1, n)) (hi : i = nI j) (hj : j < n) (hn : n < 2 ^ 31) (kk : Ev G m d ac az (pc + 1) Ls (vI (h.2.1 k j) :: st) h Q) : Ev G m d ac az pc Ls (vI i :: vR k :: st) h Q := by
  intro p l e R s mid args below meth c H locs cells slots Z ls a1 a2 a3 a4 a5 a6 a7 a8
  obtain ⟨hx, hb, hml, hown, hts, hK, hX, hg, hfr, hlo, hnm⟩ := id a1
  obtain ⟨g1, g2⟩ := in_of hi hj hn
  refine va_zald (D := G.1) (cA := G.2.1 1) (n := n) (f := h.2.1 k) hx hb hK.1 a2 k 1 (wh_at hk) rfl g1 hd ?_
  rw [g2]
  exact kk p l e R s mid args below meth c H locs cells slots Z ls a1 a2 a3 a4 a5 a6 a7 a8
theorem E_iast {i x : Int32} {j k n : Nat} (hd : decode m.2.1 pc = .ok (.iastore, 1)) (hk : h.1[k]? = some (0, n)) (hi : i = nI j) (hj : j < n) (hn : n < 2 ^ 31) (kk : Ev G m d ac az (pc + 1) Ls st (h.1, up2 h.2.1 k j x, h.2.2) Q) : Ev G m d ac az pc Ls (vI x :: vI i :: vR k :: st) h Q := by
  intro p l e R s mid args below meth c H locs cells slots Z ls a1 a2 a3 a4 a5 a6 a7 a8
  obtain ⟨hx, hb, hml, hown, hts, hK, hX, hg, hfr, hlo, hnm⟩ := id a1
  obtain ⟨g1, g2⟩ := in_of hi hj hn
  refine va_iast (D := G.1) (cA := G.2.1 0) (n := n) (f := h.2.1 k) hx hb hK.1 a2 (wh_D G h) a4 k 0 (wh_at hk) rfl g1 hd (fun H1 locs1 hP1 _ hS1 => ?_)
  rw [g2, wh_set_i (Or.inl rfl) hk] at hP1
  exact kk p l e R s mid args below meth c H1 locs1 cells slots Z ls a1 hP1 a3 hS1 a5 a6 a7 a8
theorem E_zast {i x : Int32} {j k n : Nat} (hd : decode m.2.1 pc = .ok (.bastore, 1)) (hk : h.1[k]? = some (1, n)) (hi : i = nI j) (hj : j < n) (hn : n < 2 ^ 31) (hx01 : x = 0 ∨ x = 1) (kk : Ev G m d ac az (pc + 1) Ls st (h.1, up2 h.2.1 k j x, h.2.2) Q) : Ev G m d ac az pc Ls (vI x :: vI i :: vR k :: st) h Q := by
  intro p l e R s mid args below meth c H locs cells slots Z ls a1 a2 a3 a4 a5 a6 a7 a8
  obtain ⟨hx, hb, hml, hown, hts, hK, hX, hg, hfr, hlo, hnm⟩ := id a1
  obtain ⟨g1, g2⟩ := in_of hi hj hn
  have hna : vp_nar .boolean x = x := by rcases hx01 with rfl | rfl <;> rfl
  refine va_zast (D := G.1) (cA := G.2.1 1) (n := n) (f := h.2.1 k) hx hb hK.1 a2 (wh_D G h) a4 k 1 (wh_at hk) rfl g1 hd (fun H1 locs1 hP1 _ hS1 => ?_)
  rw [g2, hna, wh_set_i (Or.inr rfl) hk] at hP1
  exact kk p l e R s mid args below meth c H1 locs1 cells slots Z ls a1 hP1 a3 hS1 a5 a6 a7 a8
theorem E_aald2 {i : Int32} {j k n : Nat} (hd : decode m.2.1 pc = .ok (.aaload, 1)) (hk : h.1[k]? = some (2, n)) (hi : i = nI j) (hj : j < n) (hn : n < 2 ^ 31) (kk : Ev G m d ac az (pc + 1) Ls (vQ (h.2.2 k j) :: st) h Q) : Ev G m d ac az pc Ls (vI i :: vR k :: st) h Q := by
  intro p l e R s mid args below meth c H locs cells slots Z ls a1 a2 a3 a4 a5 a6 a7 a8
  obtain ⟨hx, hb, hml, hown, hts, hK, hX, hg, hfr, hlo, hnm⟩ := id a1
  obtain ⟨g1, g2⟩ := in_of hi hj hn
  refine va_aldq (D := G.1) (cA := G.2.1 2) (C := R_Task) (n := n) (f := fun j => iw_b G (h.2.2 k j)) hx hb hK.1 a2 k 2 (wh_at hk) rfl g1 hd ?_
  rw [g2]
  exact kk p l e R s mid args below meth c H locs cells slots Z ls a1 a2 a3 a4 a5 a6 a7 a8
theorem E_aast2 {i : Int32} {j k n v N ci : Nat} (hd : decode m.2.1 pc = .ok (.aastore, 1)) (hk : h.1[k]? = some (2, n)) (hv : h.1[v]? = some (ci + 4, N)) (hcv : ∃ q : vw_C, cls[ci]? = some q ∧ q.1 = R_Task) (hi : i = nI j) (hj : j < n) (hn : n < 2 ^ 31) (kk : Ev G m d ac az (pc + 1) Ls st (h.1, h.2.1, up3 h.2.2 k j (some v)) Q) : Ev G m d ac az pc Ls (vR v :: vI i :: vR k :: st) h Q := by
  intro p l e R s mid args below meth c H locs cells slots Z ls a1 a2 a3 a4 a5 a6 a7 a8
  obtain ⟨hx, hb, hml, hown, hts, hK, hX, hg, hfr, hlo, hnm⟩ := id a1
  obtain ⟨g1, g2⟩ := in_of hi hj hn
  obtain ⟨q, hc, hqn⟩ := hcv
  refine va_astq (D := G.1) (cA := G.2.1 2) (r := q) (n := n) (f := fun j => iw_b G (h.2.2 k j)) hx hb hK.1 a2 (wh_D G h) a4 k 2 v ci (wh_at hk) (by rw [hqn]; rfl) (wh_obj hv) hc g1 hd (fun H1 locs1 hP1 _ hS1 => ?_)
  have hP2 : va_P G.1 cls ((wh G h).set k (G.2.2.1 + k, .inl (G.2.1 2, n, .inr (.inr (.inr (.inr (va_up (fun j => iw_b G (h.2.2 k j)) j (iw_b G (some v)))))))) ) H1 := by rw [g2] at hP1; exact hP1
  rw [wh_set_q (Or.inl rfl) hk] at hP2
  exact kk p l e R s mid args below meth c H1 locs1 cells slots Z ls a1 hP2 a3 hS1 a5 a6 a7 a8
theorem E_aald3 {i : Int32} {j k n : Nat} (hd : decode m.2.1 pc = .ok (.aaload, 1)) (hk : h.1[k]? = some (3, n)) (hi : i = nI j) (hj : j < n) (hn : n < 2 ^ 31) (kk : Ev G m d ac az (pc + 1) Ls (vQ (h.2.2 k j) :: st) h Q) : Ev G m d ac az pc Ls (vI i :: vR k :: st) h Q := by
  intro p l e R s mid args below meth c H locs cells slots Z ls a1 a2 a3 a4 a5 a6 a7 a8
  obtain ⟨hx, hb, hml, hown, hts, hK, hX, hg, hfr, hlo, hnm⟩ := id a1
  obtain ⟨g1, g2⟩ := in_of hi hj hn
  refine va_aldq (D := G.1) (cA := G.2.1 3) (C := R_Pipe) (n := n) (f := fun j => iw_b G (h.2.2 k j)) hx hb hK.1 a2 k 3 (wh_at hk) rfl g1 hd ?_
  rw [g2]
  exact kk p l e R s mid args below meth c H locs cells slots Z ls a1 a2 a3 a4 a5 a6 a7 a8
theorem E_aast3 {i : Int32} {j k n v N ci : Nat} (hd : decode m.2.1 pc = .ok (.aastore, 1)) (hk : h.1[k]? = some (3, n)) (hv : h.1[v]? = some (ci + 4, N)) (hcv : ∃ q : vw_C, cls[ci]? = some q ∧ q.1 = R_Pipe) (hi : i = nI j) (hj : j < n) (hn : n < 2 ^ 31) (kk : Ev G m d ac az (pc + 1) Ls st (h.1, h.2.1, up3 h.2.2 k j (some v)) Q) : Ev G m d ac az pc Ls (vR v :: vI i :: vR k :: st) h Q := by
  intro p l e R s mid args below meth c H locs cells slots Z ls a1 a2 a3 a4 a5 a6 a7 a8
  obtain ⟨hx, hb, hml, hown, hts, hK, hX, hg, hfr, hlo, hnm⟩ := id a1
  obtain ⟨g1, g2⟩ := in_of hi hj hn
  obtain ⟨q, hc, hqn⟩ := hcv
  refine va_astq (D := G.1) (cA := G.2.1 3) (r := q) (n := n) (f := fun j => iw_b G (h.2.2 k j)) hx hb hK.1 a2 (wh_D G h) a4 k 3 v ci (wh_at hk) (by rw [hqn]; rfl) (wh_obj hv) hc g1 hd (fun H1 locs1 hP1 _ hS1 => ?_)
  have hP2 : va_P G.1 cls ((wh G h).set k (G.2.2.1 + k, .inl (G.2.1 3, n, .inr (.inr (.inr (.inr (va_up (fun j => iw_b G (h.2.2 k j)) j (iw_b G (some v)))))))) ) H1 := by rw [g2] at hP1; exact hP1
  rw [wh_set_q (Or.inr rfl) hk] at hP2
  exact kk p l e R s mid args below meth c H1 locs1 cells slots Z ls a1 hP2 a3 hS1 a5 a6 a7 a8
theorem E_alen0 {k n : Nat} (hd : decode m.2.1 pc = .ok (.arraylength, 1)) (hk : h.1[k]? = some (0, n)) (kk : Ev G m d ac az (pc + 1) Ls (vI (nI n) :: st) h Q) : Ev G m d ac az pc Ls (vR k :: st) h Q := by
  intro p l e R s mid args below meth c H locs cells slots Z ls a1 a2 a3 a4 a5 a6 a7 a8
  exact va_alen (D := G.1) (cA := G.2.1 0) a1.1 a1.2.1 a1.2.2.2.2.2.1.1 a2 k 0 (wh_at hk) rfl rfl hd (kk p l e R s mid args below meth c H locs cells slots Z ls a1 a2 a3 a4 a5 a6 a7 a8)
theorem E_alen1 {k n : Nat} (hd : decode m.2.1 pc = .ok (.arraylength, 1)) (hk : h.1[k]? = some (1, n)) (kk : Ev G m d ac az (pc + 1) Ls (vI (nI n) :: st) h Q) : Ev G m d ac az pc Ls (vR k :: st) h Q := by
  intro p l e R s mid args below meth c H locs cells slots Z ls a1 a2 a3 a4 a5 a6 a7 a8
  exact va_alen (D := G.1) (cA := G.2.1 1) a1.1 a1.2.1 a1.2.2.2.2.2.1.1 a2 k 1 (wh_at hk) rfl rfl hd (kk p l e R s mid args below meth c H locs cells slots Z ls a1 a2 a3 a4 a5 a6 a7 a8)
theorem E_sld {i : Int32} {j : Nat} (hd : decode m.2.1 pc = .ok (.iaload, 1)) (hi : i = nI j) (hj : j < G.2.2.2.2.1) (hn : G.2.2.2.2.1 < 2 ^ 31) (kk : Ev G m d ac az (pc + 1) Ls (vI (G.2.2.2.2.2 j) :: st) h Q) : Ev G m d ac az pc Ls (vI i :: vS :: st) h Q := by
  intro p l e R s mid args below meth c H locs cells slots Z ls a1 a2 a3 a4 a5 a6 a7 a8
  obtain ⟨hx, hb, hml, hown, hts, hK, hX, hg, hfr, hlo, hnm⟩ := id a1
  obtain ⟨g1, g2⟩ := in_of hi hj hn
  refine va_sld (A := gA G) hx hb hX.1 (Nat.lt_of_lt_of_le hX.2 hg) (Nat.not_le.mpr hX.2) a4 g1 hd ?_
  rw [g2]
  exact kk p l e R s mid args below meth c H locs cells slots Z ls a1 a2 a3 a4 a5 a6 a7 a8
theorem E_slen (hd : decode m.2.1 pc = .ok (.arraylength, 1)) (kk : Ev G m d ac az (pc + 1) Ls (vI (nI G.2.2.2.2.1) :: st) h Q) : Ev G m d ac az pc Ls (vS :: st) h Q := by
  intro p l e R s mid args below meth c H locs cells slots Z ls a1 a2 a3 a4 a5 a6 a7 a8
  obtain ⟨hx, hb, hml, hown, hts, hK, hX, hg, hfr, hlo, hnm⟩ := id a1
  exact va_slen (A := gA G) hx hb hX.1 (Nat.lt_of_lt_of_le hX.2 hg) (Nat.not_le.mpr hX.2) a4 hd (kk p l e R s mid args below meth c H locs cells slots Z ls a1 a2 a3 a4 a5 a6 a7 a8)
end EV
end
section
section EC
variable {G : iG} {m : iM} {d ac az pc : Nat} {Ls : List (Option iV)} {st : List iV} {h : iH} {Q : Option iV → iH → Prop}
theorem sz_of {s : State} {H : Heap} {locs : List Loc} (a2 : Wd G h H) (a4 : va_S (gA G) s.heap H locs) (hg : G.2.2.1 ≤ s.heap.size) (hle : H.size ≤ G.2.2.1 + h.1.length) : H.size = G.2.2.1 + h.1.length := by
  have h1 := a4.1
  by_cases h0 : h.1.length = 0
  · omega
  · have hk : h.1[h.1.length - 1]? = some (h.1[h.1.length - 1]'(by omega)) := List.getElem?_eq_getElem (by omega)
    have h2 : G.2.2.1 + (h.1.length - 1) < H.size := (a2 _ _ (wh_at hk)).lt
    omega
theorem W_size {p : Program} {l : Launch} {e : Env} {R : Room} {s : State} {mid : MethodId} {args : Array Value} {below : List Frame} {meth : Method} {c : Code} {H : Heap} {locs : List Loc} {cells slots : Nat} {Z : State → Prop} {g : JFrame} (k : H.size ≤ s.heap.size + cells → W p l e R s mid args below meth c H locs cells slots Z g) : W p l e R s mid args below meth c H locs cells slots Z g := fun T hT X => k (by rw [← hT]; exact X.heapSize) T hT X
theorem Pm_blind (As : List Value) : FrameBlind (va_Pc As (Pm G h)) := fun a U g mk q => by
  obtain ⟨q0, q1, q2, q3, q4⟩ := q
  exact ⟨q0, q1, q2, q3.moved (u := U) (U := U.calling g mk a) (Vm.Alike.refl U.vm), q4.same rfl⟩
theorem Pm_at {s U : State} {H : Heap} {locs : List Loc} (a2 : Wd G h H) (a4 : va_S (gA G) s.heap H locs) (hX : Xs G s s.heap) (hg : G.2.2.1 ≤ s.heap.size) (hK : KK G s) (hsz : H.size = G.2.2.1 + h.1.length) (hU : U.heap = H) (hW : s.WarmedH U.vm) : Pm G h U := by
  refine ⟨by rw [hU]; exact a2, by rw [hU]; exact hsz, ?_, hK.warm hW⟩
  rw [hU]
  exact Xs.moved hW.alike ⟨hX.1.kept (a4.2.1 _ (Nat.lt_of_lt_of_le hX.2 hg) (Nat.not_le.mpr hX.2)), hX.2⟩
/-- behind a call -/
theorem Ev_run {p : Program} {l : Launch} {e : Env} {R : Room} {s : State} {mid : MethodId} {args : Array Value} {below : List Frame} {meth : Method} {c : Code} {H : Heap} {locs : List Loc} {cells slots : Nat} {Z : State → Prop} {ls : Array Slot} {stv : List Value} {rest : List iV} {ac2 az2 : Nat} {Q2 : Option iV → iH → Prop}
    (a1 : Cx G m d p R s mid args meth c) (a3 : s.heap.size + cells = G.2.2.1 + h.1.length) (a4 : va_S (gA G) s.heap H locs) (a5 : lh G ls m.2.2.1 Ls) (a6 : cells + ac ≤ R.cells) (a7 : slots + az ≤ R.slots)
    (a8 : ∀ (H' : Heap) (locs' : List Loc) (slots' : Nat) (r : Option iV) (h' : iH) (pc' : Nat) (ls' : Array Slot), Q r h' → Wd G h' H' → s.heap.size + (cells + ac) = G.2.2.1 + h'.1.length → va_S (gA G) s.heap H' locs' → slots' ≤ slots + az → Rt m pc' r → W p l e R s mid args below meth c H' locs' (cells + ac) slots' Z (F0 mid pc' ls' (r.toList.map (tv G))))
    (hc : ac2 ≤ ac) (hz : az2 ≤ az) (hr : va_Run p l e R s mid args below meth c H locs cells slots ac2 az2 (F0 mid pc ls stv) (rest.map (tv G)) (fun st oc t => Qm G ac2 h Q2 st oc t) (gA G))
    (kk : ∀ r h', Q2 r h' → Ev G m d (ac - ac2) (az - az2) (pc + 3) Ls (r.toList ++ rest) h' Q) : W p l e R s mid args below meth c H locs cells slots Z (F0 mid pc ls stv) := by
  intro T hT X
  obtain ⟨v, st₀, t, T', L, h0, X', hL, e1, e2, ⟨⟨r, h', hv, hq, hW', hn'⟩, hzz, hk⟩, stp⟩ := hr T hT X
  have hv : v = r.map (tv G) := by injection hv
  rw [h0] at hzz hk
  have hcc : cells + ac2 + (ac - ac2) = cells + ac := by omega
  obtain ⟨t2, b1, b2⟩ := kk r h' hq p l e R s mid args below meth c T'.heap (locs ++ L) (cells + ac2) (slots + az2) Z ls a1 (by rw [e1]; exact hW') (by omega)
    ⟨Nat.le_trans a4.1 (by rw [e1]; exact hzz), fun q h1 h2 => by rw [e1, hk q (Nat.lt_of_lt_of_le h1 a4.1) h2]; exact a4.2.1 q h1 h2, fun q hq => by
      rcases List.mem_append.mp hq with h | h
      · exact a4.2.2 q h
      · exact hL q h⟩ a5 (by omega) (by omega)
    (fun H1 locs1 slots1 r1 h1 pc1 ls1 c1 c2 c3 c4 c5 c6 => by rw [hcc] at c3 ⊢; exact a8 H1 locs1 slots1 r1 h1 pc1 ls1 c1 c2 c3 c4 (by omega) c6) T' rfl X'
  refine ⟨t2, stp t2 ?_, b2⟩
  subst hv
  cases r with
  | none => exact b1
  | some w => exact b1
def CMk (m2 : iM) (n : Nat) : Prop := Cond.initialized m2.1.cls ∈ gw ∧ Cond.code m2.1 m2.2.1 m2.2.2.1 m2.2.2.2 ∈ gw ∧ m2.2.2.1 ≤ 17 ∧
  (m2.1.cls ≠ "java/lang/invoke/MethodHandle" ∧ m2.1.cls ≠ "java/lang/invoke/VarHandle" ∧ (parseMethodDescriptor m2.1.desc).map (fun d => d.parameters.length) = some n)
def CBk (own : String) (idx : Nat) (m2 : iM) (n : Nat) : Prop := Cond.methodLink own idx m2.1 ∈ gw ∧ CMk m2 n
def VMk (ci : Nat) (m2 : iM) (n : Nat) : Prop := CMk m2 n ∧ Cond.instanceMethod m2.1 ∈ gw ∧ Cond.selects m2.1.cls m2.1 m2.1 ∈ gw ∧ ∃ q : vw_C, cls[ci]? = some q ∧ q.1 = m2.1.cls
def CVk (own : String) (idx ci : Nat) (m2 : iM) (n : Nat) : Prop := Cond.methodLink own idx m2.1 ∈ gw ∧ VMk ci m2 n
def SMk (m2 : iM) (n : Nat) : Prop := CMk m2 n ∧ Cond.static m2.1 ∈ gw
def CSk (own : String) (idx : Nat) (m2 : iM) (n : Nat) : Prop := Cond.methodLink own idx m2.1 ∈ gw ∧ SMk m2 n
def IMk (m2 : iM) (n : Nat) : Prop := CMk m2 n ∧ m2.1.name = "<init>" ∧ Cond.instanceMethod m2.1 ∈ gw ∧ m2.2.2.2 = none
def CIk (own : String) (idx : Nat) (m2 : iM) (n : Nat) : Prop := Cond.methodLink own idx m2.1 ∈ gw ∧ IMk m2 n
theorem CB_of {R : Room} {s : State} {args : Array Value} {own : String} {idx : Nat} {m2 : iM} {n d2 ac2 az2 : Nat} (hB : CBk own idx m2 n) (hts : ∀ w ∈ gw, w.before args s = true) (hd2 : d2 + 1 ≤ d) (hfr : d ≤ R.frames) (hlo : 36 * d ≤ R.locals) : CallB R s args own idx m2.1 m2.2.1 m2.2.2.1 m2.2.2.2 (mw m2) (rm d2 ac2 az2) ac2 az2 n := by
  obtain ⟨h1, h2, h3, h4, h5⟩ := hB
  exact callB_of (Ts := gw) n hts (gw_in h3) rfl rfl rfl (hts _ h2) (hts _ h1) h5 ⟨by show d2 + 1 ≤ R.frames; omega, by show 8 + (m2.2.2.1 + 11) + 36 * d2 ≤ R.locals; omega⟩
theorem cat_sum (rest : List iV) : ((rest.map (tv G)).map fun v => v.category).sum = (rest.map ct).sum := by
  rw [List.map_map]
  congr 1
  apply List.map_congr_left
  intro v _
  exact tv_ct G v
/-- a call by invokevirtual; As: the arguments, the last one on top -/
theorem E_callV {idx ci n k N d2 ac2 az2 : Nat} {m2 : iM} {As rest : List iV} {Q2 : Option iV → iH → Prop} (hd : decode m.2.1 pc = .ok (.invokevirtual idx, 3)) (hw : CVk m.1.cls idx ci m2 n) (hk : h.1[k]? = some (ci + 4, N)) (hd2 : d2 + 1 ≤ d) (hc : ac2 ≤ ac) (hz : az2 ≤ az) (hn : As.length = n) (hst : st = As.reverse ++ vR k :: rest) (hrest : (rest.map ct).sum ≤ 8)
    (hM : Mt G m2 d2 ac2 az2 (vR k :: As) h Q2) (kk : ∀ r h', Q2 r h' → Ev G m d (ac - ac2) (az - az2) (pc + 3) Ls (r.toList ++ rest) h' Q) : Ev G m d ac az pc Ls st h Q := by
  intro p l e R s mid args below meth c H locs cells slots Z ls a1 a2 a3 a4 a5 a6 a7 a8
  obtain ⟨hx, hb, hml, hown, hts, hK, hX, hg, hfr, hlo, hnm⟩ := id a1
  refine W_size (fun hle => ?_)
  have hsz := sz_of a2 a4 hg (by omega)
  obtain ⟨hlk, hC, hin, hse, q, hcq, hqc⟩ := hw
  have hB : CBk m.1.cls idx m2 n := ⟨hlk, hC⟩
  have hrecv := va_recv hK.1 a2 hcq (wh_obj hk)
  rw [hqc] at hrecv
  refine Ev_run a1 a3 a4 a5 a6 a7 a8 hc hz (rest := rest) (Q2 := Q2) ?_ kk
  exact va_runV (As := As.map (tv G)) (rest := rest.map (tv G)) (b := G.2.2.1 + k) (Ts := gw) (C := m2.1.cls) ⟨hx, hb, hml, hown, hts⟩ (hM l) ⟨CB_of hB hts hd2 hfr hlo, hts _ hin, hts _ hse⟩ ⟨Pm_blind _, hrecv, fun U hU hW => ⟨rfl, Pm_at a2 a4 hX hg hK hsz hU hW⟩⟩ rfl (by rw [List.length_map]; exact hn) a5.1.1 (by rw [hst]; show List.map (tv G) _ = _; rw [List.map_append, List.map_reverse]; rfl) (lv_room (by rw [cat_sum]; exact hrest)) hd ⟨by omega, by omega⟩
theorem E_callS {idx n d2 ac2 az2 : Nat} {m2 : iM} {As rest : List iV} {Q2 : Option iV → iH → Prop} (hd : decode m.2.1 pc = .ok (.invokestatic idx, 3)) (hw : CSk m.1.cls idx m2 n) (hd2 : d2 + 1 ≤ d) (hc : ac2 ≤ ac) (hz : az2 ≤ az) (hn : As.length = n) (hst : st = As.reverse ++ rest) (hrest : (rest.map ct).sum ≤ 8)
    (hM : Mt G m2 d2 ac2 az2 As h Q2) (kk : ∀ r h', Q2 r h' → Ev G m d (ac - ac2) (az - az2) (pc + 3) Ls (r.toList ++ rest) h' Q) : Ev G m d ac az pc Ls st h Q := by
  intro p l e R s mid args below meth c H locs cells slots Z ls a1 a2 a3 a4 a5 a6 a7 a8
  obtain ⟨hx, hb, hml, hown, hts, hK, hX, hg, hfr, hlo, hnm⟩ := id a1
  refine W_size (fun hle => ?_)
  have hsz := sz_of a2 a4 hg (by omega)
  obtain ⟨hlk, hC, hsta⟩ := hw
  have hB : CBk m.1.cls idx m2 n := ⟨hlk, hC⟩
  refine Ev_run a1 a3 a4 a5 a6 a7 a8 hc hz (rest := rest) (Q2 := Q2) ?_ kk
  exact va_runS (As := As.map (tv G)) (rest := rest.map (tv G)) (Ts := gw) ⟨hx, hb, hml, hown, hts⟩ (hM l) ⟨CB_of hB hts hd2 hfr hlo, hts _ hsta⟩ ⟨Pm_blind _, fun U hU hW => ⟨rfl, Pm_at a2 a4 hX hg hK hsz hU hW⟩⟩ rfl (by rw [List.length_map]; exact hn) a5.1.1 (by rw [hst]; show List.map (tv G) _ = _; rw [List.map_append, List.map_reverse]) (lv_room (by rw [cat_sum]; exact hrest)) hd ⟨by omega, by omega⟩
theorem E_callI {idx n k d2 ac2 az2 : Nat} {m2 : iM} {As rest : List iV} {Q2 : Option iV → iH → Prop} (hd : decode m.2.1 pc = .ok (.invokespecial idx, 3)) (hw : CIk m.1.cls idx m2 n) (hd2 : d2 + 1 ≤ d) (hc : ac2 ≤ ac) (hz : az2 ≤ az) (hn : As.length = n) (hst : st = As.reverse ++ vR k :: rest) (hrest : (rest.map ct).sum ≤ 8)
    (hM : Mt G m2 d2 ac2 az2 (vR k :: As) h Q2) (kk : ∀ r h', Q2 r h' → Ev G m d (ac - ac2) (az - az2) (pc + 3) Ls (r.toList ++ rest) h' Q) : Ev G m d ac az pc Ls st h Q := by
  intro p l e R s mid args below meth c H locs cells slots Z ls a1 a2 a3 a4 a5 a6 a7 a8
  obtain ⟨hx, hb, hml, hown, hts, hK, hX, hg, hfr, hlo, hnm⟩ := id a1
  refine W_size (fun hle => ?_)
  have hsz := sz_of a2 a4 hg (by omega)
  obtain ⟨hlk, hC, hy, hin, hret⟩ := hw
  have hB : CBk m.1.cls idx m2 n := ⟨hlk, hC⟩
  have hCB := CB_of (R := R) (s := s) (args := args) (d2 := d2) (ac2 := ac2) (az2 := az2) hB hts hd2 hfr hlo
  rw [hret] at hCB
  refine Ev_run a1 a3 a4 a5 a6 a7 a8 hc hz (rest := rest) (Q2 := Q2) ?_ kk
  exact va_runI (As := As.map (tv G)) (rest := rest.map (tv G)) (b := G.2.2.1 + k) (Ts := gw) ⟨hx, hb, hml, hown, hts⟩ (hM l) ⟨hCB, hy, hts _ hin⟩ ⟨Pm_blind _, fun U hU hW => ⟨rfl, Pm_at a2 a4 hX hg hK hsz hU hW⟩⟩ rfl (by rw [List.length_map]; exact hn) a5.1.1 (by rw [hst]; show List.map (tv G) _ = _; rw [List.map_append, List.map_reverse]; rfl) (lv_room (by rw [cat_sum]; exact hrest)) hd ⟨by omega, by omega⟩
theorem E_callN {idx n k d2 ac2 az2 : Nat} {m2 : iM} {As rest : List iV} {Q2 : Option iV → iH → Prop} (hd : decode m.2.1 pc = .ok (.invokespecial idx, 3)) (hw : IMk m2 n) (hown0 : m.1.cls = "PagedKernel") (hnest : (idx = 39 ∧ m2.1 = yN_P) ∨ (idx = 42 ∧ m2.1 = yN_R)) (hd2 : d2 + 1 ≤ d) (hc : ac2 ≤ ac) (hz : az2 ≤ az) (hn : As.length = n) (hst : st = As.reverse ++ vR k :: rest) (hrest : (rest.map ct).sum ≤ 8)
    (hM : Mt G m2 d2 ac2 az2 (vR k :: As) h Q2) (kk : ∀ r h', Q2 r h' → Ev G m d (ac - ac2) (az - az2) (pc + 3) Ls (r.toList ++ rest) h' Q) : Ev G m d ac az pc Ls st h Q := by
  intro p l e R s mid args below meth c H locs cells slots Z ls a1 a2 a3 a4 a5 a6 a7 a8
  obtain ⟨hx, hb, hml, hown, hts, hK, hX, hg, hfr, hlo, hnm⟩ := id a1
  refine W_size (fun hle => ?_)
  have hsz := sz_of a2 a4 hg (by omega)
  obtain ⟨⟨h2, h3, h4, h5⟩, hy, hin, hret⟩ := hw
  have hl : va_Nw (.methodLinkNest m.1.cls idx m2.1 "PagedKernel") s := by
    rw [hown0]
    rcases hnest with ⟨rfl, e⟩ | ⟨rfl, e⟩
    · rw [e]; exact hK.2.2.2.1
    · rw [e]; exact hK.2.2.2.2
  have hCN : va_CN R s args m.1.cls idx m2.1 "PagedKernel" m2.2.1 m2.2.2.1 m2.2.2.2 (mw m2) (rm d2 ac2 az2) ac2 az2 n := va_cnB (Ts := gw) n hts (gw_in h3) rfl rfl rfl hl (hts _ h2) h5 ⟨by show d2 + 1 ≤ R.frames; omega, by show 8 + (m2.2.2.1 + 11) + 36 * d2 ≤ R.locals; omega⟩
  rw [hret] at hCN
  refine Ev_run a1 a3 a4 a5 a6 a7 a8 hc hz (rest := rest) (Q2 := Q2) ?_ kk
  exact va_runIN (As := As.map (tv G)) (rest := rest.map (tv G)) (b := G.2.2.1 + k) (Ts := gw) ⟨hx, hb, hml, hown, hts⟩ (hM l) ⟨hCN, hy, hts _ hin⟩ ⟨Pm_blind _, fun U hU hW => ⟨rfl, Pm_at a2 a4 hX hg hK hsz hU hW⟩⟩ rfl (by rw [List.length_map]; exact hn) a5.1.1 (by rw [hst]; show List.map (tv G) _ = _; rw [List.map_append, List.map_reverse]; rfl) (lv_room (by rw [cat_sum]; exact hrest)) hd ⟨by omega, by omega⟩
theorem E_objInit {idx k : Nat} (hd : decode m.2.1 pc = .ok (.invokespecial idx, 3)) (hw : Cond.methodLink m.1.cls idx Lib.objectInit ∈ gw ∧ Cond.instanceMethod Lib.objectInit ∈ gw ∧ Cond.code Lib.objectInit ⟨#[0xb1]⟩ 1 none ∈ gw) (hd2 : 1 ≤ d) (hrest : (st.map ct).sum ≤ 8) (k0 : Ev G m d ac az (pc + 3) Ls st h Q) : Ev G m d ac az pc Ls (vR k :: st) h Q := by
  intro p l e R s mid args below meth c H locs cells slots Z ls a1 a2 a3 a4 a5 a6 a7 a8
  obtain ⟨hx, hb, hml, hown, hts, hK, hX, hg, hfr, hlo, hnm⟩ := id a1
  refine W.objInit (g := F0 mid pc ls (.ref (G.2.2.1 + k) :: st.map (tv G))) hx hb hown (hts _ hw.1) (hts _ hw.2.1) (hts _ hw.2.2) rfl (by rw [hml]; exact a5.1.1) rfl hd (by omega) ?_ (k0 p l e R s mid args below meth c H locs cells slots Z ls a1 a2 a3 a4 a5 a6 a7 a8)
  show 2 * 0 + _ + 12 ≤ _
  rw [cat_sum]
  omega
/-- σ with row k put to f -/
def upk (σ : Nat → Nat → Int32) (k : Nat) (f : Nat → Int32) : Nat → Nat → Int32 := fun k' j' => if k' = k then f j' else σ k' j'
theorem wh_set_k {k n : Nat} {f : Nat → Int32} (hk : h.1[k]? = some (0, n)) : (wh G h).set k (G.2.2.1 + k, .inl (G.2.1 0, n, .inl f)) = wh G (h.1, upk h.2.1 k f, h.2.2) := by
  refine wh_set (h' := (h.1, upk h.2.1 k f, h.2.2)) (kn := (0, n)) rfl hk ?_ (fun i kn' hi _ => en_ne (h := h) (h' := (h.1, upk h.2.1 k f, h.2.2)) (by funext j; simp [upk, hi]) rfl kn')
  show Sum.inl (_, _, _) = Sum.inl (_, _, _)
  rw [show (h.1, upk h.2.1 k f, h.2.2).2.1 k = f by funext j; simp [upk]]
theorem E_copy {idx k0 k1 n0 n1 a b n : Nat} {sp dp nn : Int32} (hd : decode m.2.1 pc = .ok (.invokestatic idx, 3)) (hw : Cond.methodLink m.1.cls idx arraycopyName ∈ gw ∧ Cond.native arraycopyName ∈ gw ∧ Cond.static arraycopyName ∈ gw ∧ Cond.initialized "java/lang/System" ∈ gw) (hd2 : 1 ≤ d) (hrest : (st.map ct).sum ≤ 8)
    (hk0 : h.1[k0]? = some (0, n0)) (hk1 : h.1[k1]? = some (0, n1)) (hsp : sp = nI a) (hdp : dp = nI b) (hnn : nn = nI n) (hn0 : a + n ≤ n0) (hn1 : b + n ≤ n1) (hb0 : n0 < 2 ^ 31) (hb1 : n1 < 2 ^ 31)
    (kk : Ev G m d ac az (pc + 3) Ls st (h.1, upk h.2.1 k1 (va_cpy (h.2.1 k0) (h.2.1 k1) a b n), h.2.2) Q) : Ev G m d ac az pc Ls (vI nn :: vI dp :: vR k1 :: vI sp :: vR k0 :: st) h Q := by
  intro p l e R s mid args below meth c H locs cells slots Z ls a1 a2 a3 a4 a5 a6 a7 a8
  obtain ⟨hx, hb, hml, hown, hts, hK, hX, hg, hfr, hlo, hnm⟩ := id a1
  have ea : sp.toNatClampNeg = a := by rw [hsp]; exact nI_clamp (by omega)
  have eb : dp.toNatClampNeg = b := by rw [hdp]; exact nI_clamp (by omega)
  have en' : nn.toNatClampNeg = n := by rw [hnn]; exact nI_clamp (by omega)
  have hnw : nativeFrameWords "java/lang/System" "arraycopy" 5 + 11 ≤ 28 := by decide
  refine va_copyi (D := G.1) (c0 := G.2.1 0) (c1 := G.2.1 0) (ty := .int) hx hb (by rw [hml]; exact a5.1.1.symm) hown (hts _ hw.1) (hts _ hw.2.1) (hts _ hw.2.2.1) (hts _ hw.2.2.2) hK.1 a2 (wh_D G h) a4 k0 k1 0 0 (wh_at hk0) (wh_at hk1) rfl rfl rfl (by rw [hsp]; exact nI_pos (by omega)) (by rw [hdp]; exact nI_pos (by omega)) (by rw [hnn]; exact nI_pos (by omega)) (by rw [ea, en']; exact hn0) (by rw [eb, en']; exact hn1) (fun _ _ => rfl) (by omega) (by rw [cat_sum]; omega) hd (fun H1 locs1 hP1 _ hS1 => ?_)
  rw [ea, eb, en', wh_set_k hk1] at hP1
  exact kk p l e R s mid args below meth c H1 locs1 cells slots Z ls a1 hP1 a3 hS1 a5 a6 a7 a8
def zr (σ : Nat → Nat → Int32) (n : Nat) : Nat → Nat → Int32 := fun k j => if k = n then 0 else σ k j
def zq (ρ : Nat → Nat → Option Nat) (n : Nat) : Nat → Nat → Option Nat := fun k j => if k = n then none else ρ k j
/-- the world with one more cell -/
def hpush (h : iH) (kn : Nat × Nat) : iH := (h.1 ++ [kn], zr h.2.1 h.1.length, zq h.2.2 h.1.length)
theorem wh_push (kn : Nat × Nat) : wh G h ++ [(G.2.2.1 + h.1.length, en G (hpush h kn) h.1.length kn)] = wh G (hpush h kn) := by
  apply List.ext_getElem?
  intro i
  have hl : (wh G h).length = h.1.length := by simp [wh]
  rcases Nat.lt_trichotomy i h.1.length with hi | hi | hi
  · rw [List.getElem?_append_left (by omega)]
    have e1 : h.1[i]? = some (h.1[i]) := List.getElem?_eq_getElem hi
    have e2 : (hpush h kn).1[i]? = some (h.1[i]) := by
      show (h.1 ++ [kn])[i]? = _
      rw [List.getElem?_append_left hi, e1]
    rw [wh_at e1, wh_at e2]
    have hne : i ≠ h.1.length := by omega
    rw [en_ne (h := h) (h' := hpush h kn) (by funext j; simp [hpush, zr, hne]) (by funext j; simp [hpush, zq, hne])]
  · subst hi
    have e2 : (hpush h kn).1[h.1.length]? = some kn := by
      show (h.1 ++ [kn])[_]? = _
      simp
    rw [wh_at e2, List.getElem?_append_right (by omega), hl]
    simp
  · have e2 : (hpush h kn).1[i]? = none := by
      show (h.1 ++ [kn])[i]? = _
      simp; omega
    rw [wh, List.getElem?_append_right (by simp; omega), wh, List.getElem?_mapIdx, e2]
    simp; omega
theorem q_of {q : Nat} {e : va_E} {H1 : Heap} (hP1 : va_P G.1 cls (wh G h ++ [(q, e)]) H1) (hD1 : va_D (gA G) (wh G h ++ [(q, e)])) (hsz : H1.size ≤ G.2.2.1 + h.1.length + 1) : q = G.2.2.1 + h.1.length := by
  have hl : (wh G h).length = h.1.length := by simp [wh]
  have hlast : (wh G h ++ [(q, e)])[h.1.length]? = some (q, e) := by
    rw [List.getElem?_append_right (by omega), hl]
    simp
  have h1 : q < H1.size := (hP1 _ _ hlast).lt
  have h2 : G.2.2.1 ≤ q := hD1.2 _ _ hlast
  by_cases h3 : q < G.2.2.1 + h.1.length
  · exfalso
    have hk : q - G.2.2.1 < h.1.length := by omega
    have h4 := wh_at (G := G) (h := h) (List.getElem?_eq_getElem hk)
    have h5 : (wh G h ++ [(q, e)])[q - G.2.2.1]? = some (G.2.2.1 + (q - G.2.2.1), en G h (q - G.2.2.1) (h.1[q - G.2.2.1])) := by
      rw [List.getElem?_append_left (by omega)]
      exact h4
    have h6 := hD1.1 _ _ _ _ h5 hlast (by show G.2.2.1 + (q - G.2.2.1) = q; omega)
    omega
  · omega
theorem E_newA0 {x : Int32} {N : Nat} (hd : decode m.2.1 pc = .ok (.newarray .int, 2)) (har : Cond.arrayClass .int ∈ gw) (hx : x = nI N) (hN : N ≤ 100000) (hac : 1 ≤ ac) (haz : N ≤ az) (kk : Ev G m d (ac - 1) (az - N) (pc + 2) Ls (vR h.1.length :: st) (hpush h (0, N)) Q) : Ev G m d ac az pc Ls (vI x :: st) h Q := by
  intro p l e R s mid args below meth c H locs cells slots Z ls a1 a2 a3 a4 a5 a6 a7 a8
  obtain ⟨hxx, hb, hml, hown, hts, hK, hX, hg, hfr, hlo, hnm⟩ := id a1
  refine va_newa (atype := .int) (D := G.1) (A := gA G) (ty := .int) (N' := N) (a0 := (N, .inl (fun _ => 0))) hxx hb (hts _ har) rfl hK.1 a2 (wh_D G h) a4 (fun q hq => Nat.le_trans hg hq) (fun _ => rfl) (by rw [hx]; exact nI_pos (by omega)) (by rw [hx]; exact nI_clamp (by omega)) (by show N * _ ≤ _; simp only [componentBytes]; omega) (by omega) (by omega) hd (fun q cA H1 hK1 hP1 hD1 hS1 => ?_)
  refine W_size (fun hle => ?_)
  have hq := q_of hP1 hD1 (by omega)
  have hcA : cA = G.2.1 0 := Option.some.inj ((hK1.2 4 (cA, .int) rfl).2.symm.trans (hK.1.2 0 (G.2.1 0, .int) rfl).2)
  subst hq hcA
  have hP2 : va_P G.1 cls (wh G (hpush h (0, N))) H1 := by
    rw [← wh_push]
    have e : en G (hpush h (0, N)) h.1.length (0, N) = .inl (G.2.1 0, N, .inl (fun _ => 0)) := by
      show Sum.inl (_, _, _) = _
      rw [show (hpush h (0, N)).2.1 h.1.length = fun _ => 0 by funext j; simp [hpush, zr]]
    rw [e]
    exact hP1
  have hcc : cells + 1 + (ac - 1) = cells + ac := by omega
  exact kk p l e R s mid args below meth c H1 locs (cells + 1) (slots + N) Z ls a1 hP2 (by simp only [hpush, List.length_append, List.length_singleton]; omega) hS1 a5 (by omega) (by omega) (fun H1 locs1 slots1 r1 h1 pc1 ls1 c1 c2 c3 c4 c5 c6 => by rw [hcc] at c3 ⊢; exact a8 H1 locs1 slots1 r1 h1 pc1 ls1 c1 c2 c3 c4 (by omega) c6)
theorem E_newA1 {x : Int32} {N : Nat} (hd : decode m.2.1 pc = .ok (.newarray .boolean, 2)) (har : Cond.arrayClass .boolean ∈ gw) (hx : x = nI N) (hN : N ≤ 100000) (hac : 1 ≤ ac) (haz : N ≤ az) (kk : Ev G m d (ac - 1) (az - N) (pc + 2) Ls (vR h.1.length :: st) (hpush h (1, N)) Q) : Ev G m d ac az pc Ls (vI x :: st) h Q := by
  intro p l e R s mid args below meth c H locs cells slots Z ls a1 a2 a3 a4 a5 a6 a7 a8
  obtain ⟨hxx, hb, hml, hown, hts, hK, hX, hg, hfr, hlo, hnm⟩ := id a1
  refine va_newa (atype := .boolean) (D := G.1) (A := gA G) (ty := .boolean) (N' := N) (a0 := (N, .inl (fun _ => 0))) hxx hb (hts _ har) rfl hK.1 a2 (wh_D G h) a4 (fun q hq => Nat.le_trans hg hq) (fun _ => rfl) (by rw [hx]; exact nI_pos (by omega)) (by rw [hx]; exact nI_clamp (by omega)) (by show N * _ ≤ _; simp only [componentBytes]; omega) (by omega) (by omega) hd (fun q cA H1 hK1 hP1 hD1 hS1 => ?_)
  refine W_size (fun hle => ?_)
  have hq := q_of hP1 hD1 (by omega)
  have hcA : cA = G.2.1 1 := Option.some.inj ((hK1.2 4 (cA, .boolean) rfl).2.symm.trans (hK.1.2 1 (G.2.1 1, .boolean) rfl).2)
  subst hq hcA
  have hP2 : va_P G.1 cls (wh G (hpush h (1, N))) H1 := by
    rw [← wh_push]
    have e : en G (hpush h (1, N)) h.1.length (1, N) = .inl (G.2.1 1, N, .inl (fun _ => 0)) := by
      show Sum.inl (_, _, _) = _
      rw [show (hpush h (1, N)).2.1 h.1.length = fun _ => 0 by funext j; simp [hpush, zr]]
    rw [e]
    exact hP1
  have hcc : cells + 1 + (ac - 1) = cells + ac := by omega
  exact kk p l e R s mid args below meth c H1 locs (cells + 1) (slots + N) Z ls a1 hP2 (by simp only [hpush, List.length_append, List.length_singleton]; omega) hS1 a5 (by omega) (by omega) (fun H1 locs1 slots1 r1 h1 pc1 ls1 c1 c2 c3 c4 c5 c6 => by rw [hcc] at c3 ⊢; exact a8 H1 locs1 slots1 r1 h1 pc1 ls1 c1 c2 c3 c4 (by omega) c6)
theorem E_newA2 {x : Int32} {N idx : Nat} (hd : decode m.2.1 pc = .ok (.anewarray idx, 3)) (hcl : Cond.classLink m.1.cls idx R_Task ∈ gw) (hx : x = nI N) (hN : N ≤ 100000) (hac : 1 ≤ ac) (haz : N ≤ az) (kk : Ev G m d (ac - 1) (az - N) (pc + 3) Ls (vR h.1.length :: st) (hpush h (2, N)) Q) : Ev G m d ac az pc Ls (vI x :: st) h Q := by
  intro p l e R s mid args below meth c H locs cells slots Z ls a1 a2 a3 a4 a5 a6 a7 a8
  obtain ⟨hxx, hb, hml, hown, hts, hK, hX, hg, hfr, hlo, hnm⟩ := id a1
  refine va_newq (D := G.1) (A := gA G) (C := R_Task) (N' := N) hxx hb hown (hts _ hcl) hK.2.1 hK.1 a2 (wh_D G h) a4 (fun q hq => Nat.le_trans hg hq) (by rw [hx]; exact nI_pos (by omega)) (by rw [hx]; exact nI_clamp (by omega)) (by omega) (by omega) (by omega) hd (fun q cA H1 hK1 hP1 hD1 hS1 => ?_)
  refine W_size (fun hle => ?_)
  have hq := q_of hP1 hD1 (by omega)
  obtain ⟨_, _, _, _, _, f1⟩ := (hK1.2 4 (cA, .object R_Task) rfl).2
  obtain ⟨_, _, _, _, _, f2⟩ := (hK.1.2 2 (G.2.1 2, .object R_Task) rfl).2
  have hcA : cA = G.2.1 2 := Option.some.inj (f1.symm.trans f2)
  subst hq hcA
  have hP2 : va_P G.1 cls (wh G (hpush h (2, N))) H1 := by
    rw [← wh_push]
    have e : en G (hpush h (2, N)) h.1.length (2, N) = .inl (G.2.1 2, N, .inr (.inr (.inr (.inr (fun _ => none))))) := by
      show Sum.inl (_, _, _) = _
      rw [show (hpush h (2, N)).2.2 h.1.length = fun _ => none by funext j; simp [hpush, zq]]
      rfl
    rw [e]
    exact hP1
  have hcc : cells + 1 + (ac - 1) = cells + ac := by omega
  exact kk p l e R s mid args below meth c H1 locs (cells + 1) (slots + N) Z ls a1 hP2 (by simp only [hpush, List.length_append, List.length_singleton]; omega) hS1 a5 (by omega) (by omega) (fun H1 locs1 slots1 r1 h1 pc1 ls1 c1 c2 c3 c4 c5 c6 => by rw [hcc] at c3 ⊢; exact a8 H1 locs1 slots1 r1 h1 pc1 ls1 c1 c2 c3 c4 (by omega) c6)
theorem E_newA3 {x : Int32} {N idx : Nat} (hd : decode m.2.1 pc = .ok (.anewarray idx, 3)) (hcl : Cond.classLink m.1.cls idx R_Pipe ∈ gw) (hx : x = nI N) (hN : N ≤ 100000) (hac : 1 ≤ ac) (haz : N ≤ az) (kk : Ev G m d (ac - 1) (az - N) (pc + 3) Ls (vR h.1.length :: st) (hpush h (3, N)) Q) : Ev G m d ac az pc Ls (vI x :: st) h Q := by
  intro p l e R s mid args below meth c H locs cells slots Z ls a1 a2 a3 a4 a5 a6 a7 a8
  obtain ⟨hxx, hb, hml, hown, hts, hK, hX, hg, hfr, hlo, hnm⟩ := id a1
  refine va_newq (D := G.1) (A := gA G) (C := R_Pipe) (N' := N) hxx hb hown (hts _ hcl) hK.2.2.1 hK.1 a2 (wh_D G h) a4 (fun q hq => Nat.le_trans hg hq) (by rw [hx]; exact nI_pos (by omega)) (by rw [hx]; exact nI_clamp (by omega)) (by omega) (by omega) (by omega) hd (fun q cA H1 hK1 hP1 hD1 hS1 => ?_)
  refine W_size (fun hle => ?_)
  have hq := q_of hP1 hD1 (by omega)
  obtain ⟨_, _, _, _, _, f1⟩ := (hK1.2 4 (cA, .object R_Pipe) rfl).2
  obtain ⟨_, _, _, _, _, f2⟩ := (hK.1.2 3 (G.2.1 3, .object R_Pipe) rfl).2
  have hcA : cA = G.2.1 3 := Option.some.inj (f1.symm.trans f2)
  subst hq hcA
  have hP2 : va_P G.1 cls (wh G (hpush h (3, N))) H1 := by
    rw [← wh_push]
    have e : en G (hpush h (3, N)) h.1.length (3, N) = .inl (G.2.1 3, N, .inr (.inr (.inr (.inr (fun _ => none))))) := by
      show Sum.inl (_, _, _) = _
      rw [show (hpush h (3, N)).2.2 h.1.length = fun _ => none by funext j; simp [hpush, zq]]
      rfl
    rw [e]
    exact hP1
  have hcc : cells + 1 + (ac - 1) = cells + ac := by omega
  exact kk p l e R s mid args below meth c H1 locs (cells + 1) (slots + N) Z ls a1 hP2 (by simp only [hpush, List.length_append, List.length_singleton]; omega) hS1 a5 (by omega) (by omega) (fun H1 locs1 slots1 r1 h1 pc1 ls1 c1 c2 c3 c4 c5 c6 => by rw [hcc] at c3 ⊢; exact a8 H1 locs1 slots1 r1 h1 pc1 ls1 c1 c2 c3 c4 (by omega) c6)
def NWk (own : String) (idx ci N : Nat) : Prop := ∃ q : vw_C, cls[ci]? = some q ∧ q.2.2 = N ∧ Cond.classLink own idx q.1 ∈ gw ∧ Cond.instantiable q.1 N ∈ gw ∧ Cond.initialized q.1 ∈ gw
theorem E_new {idx ci N : Nat} (hd : decode m.2.1 pc = .ok (.new idx, 3)) (hw : NWk m.1.cls idx ci N) (hac : 1 ≤ ac) (haz : N ≤ az) (kk : Ev G m d (ac - 1) (az - N) (pc + 3) Ls (vR h.1.length :: st) (hpush h (ci + 4, N)) Q) : Ev G m d ac az pc Ls st h Q := by
  intro p l e R s mid args below meth c H locs cells slots Z ls a1 a2 a3 a4 a5 a6 a7 a8
  obtain ⟨hxx, hb, hml, hown, hts, hK, hX, hg, hfr, hlo, hnm⟩ := id a1
  obtain ⟨⟨C, T, N'⟩, hc, hN, hcl, hins, hini⟩ := hw
  have hN : N' = N := hN
  subst hN
  have hfs : ∀ j, j < N' → defaultValue (tyT ci j) = vp_V ((List.range N').map (fun j => fv G (hpush h (ci + 4, N')) h.1.length ci j)) j := fun j hj => by
    have e := cls_df ci _ hc j hj
    change defaultValue (tyT ci j) = if rf ci j = true then Value.null else Value.int 0 at e
    rw [e]
    rw [vp_V, List.getD_eq_getElem?_getD, wh_fld hj, Option.getD_some]
    simp only [fv, hpush, zr, zq]
    cases rf ci j <;> simp [va_rf, iw_b]
  refine va_new (D := G.1) (A := gA G) (ci := ci) (fs := (List.range N').map (fun j => fv G (hpush h (ci + 4, N')) h.1.length ci j)) (C := C) (T := T) (N := N') hxx hb hts (cls_in ci _ hc) (tyT ci) (cls_ty ci _ hc) hown (hts _ hcl) (hts _ hins) (hts _ hini) hK.1 a2 (wh_D G h) a4 (fun q hq => Nat.le_trans hg hq) hc hfs (by omega) (by omega) hd (fun q H1 hP1 hD1 hS1 => ?_)
  refine W_size (fun hle => ?_)
  have hq := q_of hP1 hD1 (by omega)
  subst hq
  have hP2 : va_P G.1 cls (wh G (hpush h (ci + 4, N'))) H1 := by
    rw [← wh_push]
    exact hP1
  have hcc : cells + 1 + (ac - 1) = cells + ac := by omega
  exact kk p l e R s mid args below meth c H1 locs (cells + 1) (slots + N') Z ls a1 hP2 (by simp only [hpush, List.length_append, List.length_singleton]; omega) hS1 a5 (by omega) (by omega) (fun H1 locs1 slots1 r1 h1 pc1 ls1 c1 c2 c3 c4 c5 c6 => by rw [hcc] at c3 ⊢; exact a8 H1 locs1 slots1 r1 h1 pc1 ls1 c1 c2 c3 c4 (by omega) c6)
/-- contracts by what is answered -/
def MI (G : iG) (m : iM) (d : Nat) (As : List iV) (h : iH) (P : Int32 → iH → Prop) : Prop := Mt G m d 0 0 As h (fun r h' => ∃ x, r = some (vI x) ∧ P x h')
def MV (G : iG) (m : iM) (d : Nat) (As : List iV) (h : iH) (P : iH → Prop) : Prop := Mt G m d 0 0 As h (fun r h' => r = none ∧ P h')
def MQ_ (G : iG) (m : iM) (d : Nat) (As : List iV) (h : iH) (P : Option Nat → iH → Prop) : Prop := Mt G m d 0 0 As h (fun r h' => ∃ x, r = some (vQ x) ∧ P x h')
theorem E_V0i {idx d2 ci k N : Nat} {m2 : iM}  {P : Int32 → iH → Prop} (hd : decode m.2.1 pc = .ok (.invokevirtual idx, 3)) (hw : CVk m.1.cls idx ci m2 0) (hk : h.1[k]? = some (ci + 4, N)) (hd2 : d2 + 1 ≤ d) (hrest : (st.map ct).sum ≤ 8) (hM : MI G m2 d2 (vR k :: []) h P) (kk : ∀ (x : Int32) (h' : iH), P x h' → Ev G m d ac az (pc + 3) Ls (vI x :: st) h' Q) : Ev G m d ac az pc Ls (vR k :: st) h Q :=
  E_callV (As := []) (rest := st) hd hw hk hd2 (Nat.zero_le _) (Nat.zero_le _) rfl rfl hrest hM (fun r h' hq => by
    obtain ⟨x, rfl, hp⟩ := hq
    exact kk x h' hp)
theorem E_V0v {idx d2 ci k N : Nat} {m2 : iM}  {P : iH → Prop} (hd : decode m.2.1 pc = .ok (.invokevirtual idx, 3)) (hw : CVk m.1.cls idx ci m2 0) (hk : h.1[k]? = some (ci + 4, N)) (hd2 : d2 + 1 ≤ d) (hrest : (st.map ct).sum ≤ 8) (hM : MV G m2 d2 (vR k :: []) h P) (kk : ∀ (h' : iH), P h' → Ev G m d ac az (pc + 3) Ls (st) h' Q) : Ev G m d ac az pc Ls (vR k :: st) h Q :=
  E_callV (As := []) (rest := st) hd hw hk hd2 (Nat.zero_le _) (Nat.zero_le _) rfl rfl hrest hM (fun r h' hq => by
    obtain ⟨rfl, hp⟩ := hq
    exact kk h' hp)
theorem E_V0q {idx d2 ci k N : Nat} {m2 : iM}  {P : Option Nat → iH → Prop} (hd : decode m.2.1 pc = .ok (.invokevirtual idx, 3)) (hw : CVk m.1.cls idx ci m2 0) (hk : h.1[k]? = some (ci + 4, N)) (hd2 : d2 + 1 ≤ d) (hrest : (st.map ct).sum ≤ 8) (hM : MQ_ G m2 d2 (vR k :: []) h P) (kk : ∀ (x : Option Nat) (h' : iH), P x h' → Ev G m d ac az (pc + 3) Ls (vQ x :: st) h' Q) : Ev G m d ac az pc Ls (vR k :: st) h Q :=
  E_callV (As := []) (rest := st) hd hw hk hd2 (Nat.zero_le _) (Nat.zero_le _) rfl rfl hrest hM (fun r h' hq => by
    obtain ⟨x, rfl, hp⟩ := hq
    exact kk x h' hp)
theorem E_V1i {idx d2 ci k N : Nat} {m2 : iM} {v1 : iV} {P : Int32 → iH → Prop} (hd : decode m.2.1 pc = .ok (.invokevirtual idx, 3)) (hw : CVk m.1.cls idx ci m2 1) (hk : h.1[k]? = some (ci + 4, N)) (hd2 : d2 + 1 ≤ d) (hrest : (st.map ct).sum ≤ 8) (hM : MI G m2 d2 (vR k :: [v1]) h P) (kk : ∀ (x : Int32) (h' : iH), P x h' → Ev G m d ac az (pc + 3) Ls (vI x :: st) h' Q) : Ev G m d ac az pc Ls (v1 :: vR k :: st) h Q :=
  E_callV (As := [v1]) (rest := st) hd hw hk hd2 (Nat.zero_le _) (Nat.zero_le _) rfl rfl hrest hM (fun r h' hq => by
    obtain ⟨x, rfl, hp⟩ := hq
    exact kk x h' hp)
theorem E_V1v {idx d2 ci k N : Nat} {m2 : iM} {v1 : iV} {P : iH → Prop} (hd : decode m.2.1 pc = .ok (.invokevirtual idx, 3)) (hw : CVk m.1.cls idx ci m2 1) (hk : h.1[k]? = some (ci + 4, N)) (hd2 : d2 + 1 ≤ d) (hrest : (st.map ct).sum ≤ 8) (hM : MV G m2 d2 (vR k :: [v1]) h P) (kk : ∀ (h' : iH), P h' → Ev G m d ac az (pc + 3) Ls (st) h' Q) : Ev G m d ac az pc Ls (v1 :: vR k :: st) h Q :=
  E_callV (As := [v1]) (rest := st) hd hw hk hd2 (Nat.zero_le _) (Nat.zero_le _) rfl rfl hrest hM (fun r h' hq => by
    obtain ⟨rfl, hp⟩ := hq
    exact kk h' hp)
theorem E_V1q {idx d2 ci k N : Nat} {m2 : iM} {v1 : iV} {P : Option Nat → iH → Prop} (hd : decode m.2.1 pc = .ok (.invokevirtual idx, 3)) (hw : CVk m.1.cls idx ci m2 1) (hk : h.1[k]? = some (ci + 4, N)) (hd2 : d2 + 1 ≤ d) (hrest : (st.map ct).sum ≤ 8) (hM : MQ_ G m2 d2 (vR k :: [v1]) h P) (kk : ∀ (x : Option Nat) (h' : iH), P x h' → Ev G m d ac az (pc + 3) Ls (vQ x :: st) h' Q) : Ev G m d ac az pc Ls (v1 :: vR k :: st) h Q :=
  E_callV (As := [v1]) (rest := st) hd hw hk hd2 (Nat.zero_le _) (Nat.zero_le _) rfl rfl hrest hM (fun r h' hq => by
    obtain ⟨x, rfl, hp⟩ := hq
    exact kk x h' hp)
theorem E_V2i {idx d2 ci k N : Nat} {m2 : iM} {v1 v2 : iV} {P : Int32 → iH → Prop} (hd : decode m.2.1 pc = .ok (.invokevirtual idx, 3)) (hw : CVk m.1.cls idx ci m2 2) (hk : h.1[k]? = some (ci + 4, N)) (hd2 : d2 + 1 ≤ d) (hrest : (st.map ct).sum ≤ 8) (hM : MI G m2 d2 (vR k :: [v1, v2]) h P) (kk : ∀ (x : Int32) (h' : iH), P x h' → Ev G m d ac az (pc + 3) Ls (vI x :: st) h' Q) : Ev G m d ac az pc Ls (v2 :: v1 :: vR k :: st) h Q :=
  E_callV (As := [v1, v2]) (rest := st) hd hw hk hd2 (Nat.zero_le _) (Nat.zero_le _) rfl rfl hrest hM (fun r h' hq => by
    obtain ⟨x, rfl, hp⟩ := hq
    exact kk x h' hp)
theorem E_V2v {idx d2 ci k N : Nat} {m2 : iM} {v1 v2 : iV} {P : iH → Prop} (hd : decode m.2.1 pc = .ok (.invokevirtual idx, 3)) (hw : CVk m.1.cls idx ci m2 2) (hk : h.1[k]? = some (ci + 4, N)) (hd2 : d2 + 1 ≤ d) (hrest : (st.map ct).sum ≤ 8) (hM : MV G m2 d2 (vR k :: [v1, v2]) h P) (kk : ∀ (h' : iH), P h' → Ev G m d ac az (pc + 3) Ls (st) h' Q) : Ev G m d ac az pc Ls (v2 :: v1 :: vR k :: st) h Q :=
  E_callV (As := [v1, v2]) (rest := st) hd hw hk hd2 (Nat.zero_le _) (Nat.zero_le _) rfl rfl hrest hM (fun r h' hq => by
    obtain ⟨rfl, hp⟩ := hq
    exact kk h' hp)
theorem E_V2q {idx d2 ci k N : Nat} {m2 : iM} {v1 v2 : iV} {P : Option Nat → iH → Prop} (hd : decode m.2.1 pc = .ok (.invokevirtual idx, 3)) (hw : CVk m.1.cls idx ci m2 2) (hk : h.1[k]? = some (ci + 4, N)) (hd2 : d2 + 1 ≤ d) (hrest : (st.map ct).sum ≤ 8) (hM : MQ_ G m2 d2 (vR k :: [v1, v2]) h P) (kk : ∀ (x : Option Nat) (h' : iH), P x h' → Ev G m d ac az (pc + 3) Ls (vQ x :: st) h' Q) : Ev G m d ac az pc Ls (v2 :: v1 :: vR k :: st) h Q :=
  E_callV (As := [v1, v2]) (rest := st) hd hw hk hd2 (Nat.zero_le _) (Nat.zero_le _) rfl rfl hrest hM (fun r h' hq => by
    obtain ⟨x, rfl, hp⟩ := hq
    exact kk x h' hp)
theorem E_V3i {idx d2 ci k N : Nat} {m2 : iM} {v1 v2 v3 : iV} {P : Int32 → iH → Prop} (hd : decode m.2.1 pc = .ok (.invokevirtual idx, 3)) (hw : CVk m.1.cls idx ci m2 3) (hk : h.1[k]? = some (ci + 4, N)) (hd2 : d2 + 1 ≤ d) (hrest : (st.map ct).sum ≤ 8) (hM : MI G m2 d2 (vR k :: [v1, v2, v3]) h P) (kk : ∀ (x : Int32) (h' : iH), P x h' → Ev G m d ac az (pc + 3) Ls (vI x :: st) h' Q) : Ev G m d ac az pc Ls (v3 :: v2 :: v1 :: vR k :: st) h Q :=
  E_callV (As := [v1, v2, v3]) (rest := st) hd hw hk hd2 (Nat.zero_le _) (Nat.zero_le _) rfl rfl hrest hM (fun r h' hq => by
    obtain ⟨x, rfl, hp⟩ := hq
    exact kk x h' hp)
theorem E_V3v {idx d2 ci k N : Nat} {m2 : iM} {v1 v2 v3 : iV} {P : iH → Prop} (hd : decode m.2.1 pc = .ok (.invokevirtual idx, 3)) (hw : CVk m.1.cls idx ci m2 3) (hk : h.1[k]? = some (ci + 4, N)) (hd2 : d2 + 1 ≤ d) (hrest : (st.map ct).sum ≤ 8) (hM : MV G m2 d2 (vR k :: [v1, v2, v3]) h P) (kk : ∀ (h' : iH), P h' → Ev G m d ac az (pc + 3) Ls (st) h' Q) : Ev G m d ac az pc Ls (v3 :: v2 :: v1 :: vR k :: st) h Q :=
  E_callV (As := [v1, v2, v3]) (rest := st) hd hw hk hd2 (Nat.zero_le _) (Nat.zero_le _) rfl rfl hrest hM (fun r h' hq => by
    obtain ⟨rfl, hp⟩ := hq
    exact kk h' hp)
theorem E_V3q {idx d2 ci k N : Nat} {m2 : iM} {v1 v2 v3 : iV} {P : Option Nat → iH → Prop} (hd : decode m.2.1 pc = .ok (.invokevirtual idx, 3)) (hw : CVk m.1.cls idx ci m2 3) (hk : h.1[k]? = some (ci + 4, N)) (hd2 : d2 + 1 ≤ d) (hrest : (st.map ct).sum ≤ 8) (hM : MQ_ G m2 d2 (vR k :: [v1, v2, v3]) h P) (kk : ∀ (x : Option Nat) (h' : iH), P x h' → Ev G m d ac az (pc + 3) Ls (vQ x :: st) h' Q) : Ev G m d ac az pc Ls (v3 :: v2 :: v1 :: vR k :: st) h Q :=
  E_callV (As := [v1, v2, v3]) (rest := st) hd hw hk hd2 (Nat.zero_le _) (Nat.zero_le _) rfl rfl hrest hM (fun r h' hq => by
    obtain ⟨x, rfl, hp⟩ := hq
    exact kk x h' hp)
theorem E_S1i {idx d2 : Nat} {m2 : iM} {v1 : iV} {P : Int32 → iH → Prop} (hd : decode m.2.1 pc = .ok (.invokestatic idx, 3)) (hw : CSk m.1.cls idx m2 1)  (hd2 : d2 + 1 ≤ d) (hrest : (st.map ct).sum ≤ 8) (hM : MI G m2 d2 [v1] h P) (kk : ∀ (x : Int32) (h' : iH), P x h' → Ev G m d ac az (pc + 3) Ls (vI x :: st) h' Q) : Ev G m d ac az pc Ls (v1 :: st) h Q :=
  E_callS (As := [v1]) (rest := st) hd hw hd2 (Nat.zero_le _) (Nat.zero_le _) rfl rfl hrest hM (fun r h' hq => by
    obtain ⟨x, rfl, hp⟩ := hq
    exact kk x h' hp)
theorem E_S1v {idx d2 : Nat} {m2 : iM} {v1 : iV} {P : iH → Prop} (hd : decode m.2.1 pc = .ok (.invokestatic idx, 3)) (hw : CSk m.1.cls idx m2 1)  (hd2 : d2 + 1 ≤ d) (hrest : (st.map ct).sum ≤ 8) (hM : MV G m2 d2 [v1] h P) (kk : ∀ (h' : iH), P h' → Ev G m d ac az (pc + 3) Ls (st) h' Q) : Ev G m d ac az pc Ls (v1 :: st) h Q :=
  E_callS (As := [v1]) (rest := st) hd hw hd2 (Nat.zero_le _) (Nat.zero_le _) rfl rfl hrest hM (fun r h' hq => by
    obtain ⟨rfl, hp⟩ := hq
    exact kk h' hp)
theorem E_S1q {idx d2 : Nat} {m2 : iM} {v1 : iV} {P : Option Nat → iH → Prop} (hd : decode m.2.1 pc = .ok (.invokestatic idx, 3)) (hw : CSk m.1.cls idx m2 1)  (hd2 : d2 + 1 ≤ d) (hrest : (st.map ct).sum ≤ 8) (hM : MQ_ G m2 d2 [v1] h P) (kk : ∀ (x : Option Nat) (h' : iH), P x h' → Ev G m d ac az (pc + 3) Ls (vQ x :: st) h' Q) : Ev G m d ac az pc Ls (v1 :: st) h Q :=
  E_callS (As := [v1]) (rest := st) hd hw hd2 (Nat.zero_le _) (Nat.zero_le _) rfl rfl hrest hM (fun r h' hq => by
    obtain ⟨x, rfl, hp⟩ := hq
    exact kk x h' hp)
theorem E_S2i {idx d2 : Nat} {m2 : iM} {v1 v2 : iV} {P : Int32 → iH → Prop} (hd : decode m.2.1 pc = .ok (.invokestatic idx, 3)) (hw : CSk m.1.cls idx m2 2)  (hd2 : d2 + 1 ≤ d) (hrest : (st.map ct).sum ≤ 8) (hM : MI G m2 d2 [v1, v2] h P) (kk : ∀ (x : Int32) (h' : iH), P x h' → Ev G m d ac az (pc + 3) Ls (vI x :: st) h' Q) : Ev G m d ac az pc Ls (v2 :: v1 :: st) h Q :=
  E_callS (As := [v1, v2]) (rest := st) hd hw hd2 (Nat.zero_le _) (Nat.zero_le _) rfl rfl hrest hM (fun r h' hq => by
    obtain ⟨x, rfl, hp⟩ := hq
    exact kk x h' hp)
theorem E_S2v {idx d2 : Nat} {m2 : iM} {v1 v2 : iV} {P : iH → Prop} (hd : decode m.2.1 pc = .ok (.invokestatic idx, 3)) (hw : CSk m.1.cls idx m2 2)  (hd2 : d2 + 1 ≤ d) (hrest : (st.map ct).sum ≤ 8) (hM : MV G m2 d2 [v1, v2] h P) (kk : ∀ (h' : iH), P h' → Ev G m d ac az (pc + 3) Ls (st) h' Q) : Ev G m d ac az pc Ls (v2 :: v1 :: st) h Q :=
  E_callS (As := [v1, v2]) (rest := st) hd hw hd2 (Nat.zero_le _) (Nat.zero_le _) rfl rfl hrest hM (fun r h' hq => by
    obtain ⟨rfl, hp⟩ := hq
    exact kk h' hp)
theorem E_S2q {idx d2 : Nat} {m2 : iM} {v1 v2 : iV} {P : Option Nat → iH → Prop} (hd : decode m.2.1 pc = .ok (.invokestatic idx, 3)) (hw : CSk m.1.cls idx m2 2)  (hd2 : d2 + 1 ≤ d) (hrest : (st.map ct).sum ≤ 8) (hM : MQ_ G m2 d2 [v1, v2] h P) (kk : ∀ (x : Option Nat) (h' : iH), P x h' → Ev G m d ac az (pc + 3) Ls (vQ x :: st) h' Q) : Ev G m d ac az pc Ls (v2 :: v1 :: st) h Q :=
  E_callS (As := [v1, v2]) (rest := st) hd hw hd2 (Nat.zero_le _) (Nat.zero_le _) rfl rfl hrest hM (fun r h' hq => by
    obtain ⟨x, rfl, hp⟩ := hq
    exact kk x h' hp)
theorem E_S3i {idx d2 : Nat} {m2 : iM} {v1 v2 v3 : iV} {P : Int32 → iH → Prop} (hd : decode m.2.1 pc = .ok (.invokestatic idx, 3)) (hw : CSk m.1.cls idx m2 3)  (hd2 : d2 + 1 ≤ d) (hrest : (st.map ct).sum ≤ 8) (hM : MI G m2 d2 [v1, v2, v3] h P) (kk : ∀ (x : Int32) (h' : iH), P x h' → Ev G m d ac az (pc + 3) Ls (vI x :: st) h' Q) : Ev G m d ac az pc Ls (v3 :: v2 :: v1 :: st) h Q :=
  E_callS (As := [v1, v2, v3]) (rest := st) hd hw hd2 (Nat.zero_le _) (Nat.zero_le _) rfl rfl hrest hM (fun r h' hq => by
    obtain ⟨x, rfl, hp⟩ := hq
    exact kk x h' hp)
theorem E_S3v {idx d2 : Nat} {m2 : iM} {v1 v2 v3 : iV} {P : iH → Prop} (hd : decode m.2.1 pc = .ok (.invokestatic idx, 3)) (hw : CSk m.1.cls idx m2 3)  (hd2 : d2 + 1 ≤ d) (hrest : (st.map ct).sum ≤ 8) (hM : MV G m2 d2 [v1, v2, v3] h P) (kk : ∀ (h' : iH), P h' → Ev G m d ac az (pc + 3) Ls (st) h' Q) : Ev G m d ac az pc Ls (v3 :: v2 :: v1 :: st) h Q :=
  E_callS (As := [v1, v2, v3]) (rest := st) hd hw hd2 (Nat.zero_le _) (Nat.zero_le _) rfl rfl hrest hM (fun r h' hq => by
    obtain ⟨rfl, hp⟩ := hq
    exact kk h' hp)
theorem E_S3q {idx d2 : Nat} {m2 : iM} {v1 v2 v3 : iV} {P : Option Nat → iH → Prop} (hd : decode m.2.1 pc = .ok (.invokestatic idx, 3)) (hw : CSk m.1.cls idx m2 3)  (hd2 : d2 + 1 ≤ d) (hrest : (st.map ct).sum ≤ 8) (hM : MQ_ G m2 d2 [v1, v2, v3] h P) (kk : ∀ (x : Option Nat) (h' : iH), P x h' → Ev G m d ac az (pc + 3) Ls (vQ x :: st) h' Q) : Ev G m d ac az pc Ls (v3 :: v2 :: v1 :: st) h Q :=
  E_callS (As := [v1, v2, v3]) (rest := st) hd hw hd2 (Nat.zero_le _) (Nat.zero_le _) rfl rfl hrest hM (fun r h' hq => by
    obtain ⟨x, rfl, hp⟩ := hq
    exact kk x h' hp)
theorem E_S4i {idx d2 : Nat} {m2 : iM} {v1 v2 v3 v4 : iV} {P : Int32 → iH → Prop} (hd : decode m.2.1 pc = .ok (.invokestatic idx, 3)) (hw : CSk m.1.cls idx m2 4)  (hd2 : d2 + 1 ≤ d) (hrest : (st.map ct).sum ≤ 8) (hM : MI G m2 d2 [v1, v2, v3, v4] h P) (kk : ∀ (x : Int32) (h' : iH), P x h' → Ev G m d ac az (pc + 3) Ls (vI x :: st) h' Q) : Ev G m d ac az pc Ls (v4 :: v3 :: v2 :: v1 :: st) h Q :=
  E_callS (As := [v1, v2, v3, v4]) (rest := st) hd hw hd2 (Nat.zero_le _) (Nat.zero_le _) rfl rfl hrest hM (fun r h' hq => by
    obtain ⟨x, rfl, hp⟩ := hq
    exact kk x h' hp)
theorem E_S4v {idx d2 : Nat} {m2 : iM} {v1 v2 v3 v4 : iV} {P : iH → Prop} (hd : decode m.2.1 pc = .ok (.invokestatic idx, 3)) (hw : CSk m.1.cls idx m2 4)  (hd2 : d2 + 1 ≤ d) (hrest : (st.map ct).sum ≤ 8) (hM : MV G m2 d2 [v1, v2, v3, v4] h P) (kk : ∀ (h' : iH), P h' → Ev G m d ac az (pc + 3) Ls (st) h' Q) : Ev G m d ac az pc Ls (v4 :: v3 :: v2 :: v1 :: st) h Q :=
  E_callS (As := [v1, v2, v3, v4]) (rest := st) hd hw hd2 (Nat.zero_le _) (Nat.zero_le _) rfl rfl hrest hM (fun r h' hq => by
    obtain ⟨rfl, hp⟩ := hq
    exact kk h' hp)
theorem E_S4q {idx d2 : Nat} {m2 : iM} {v1 v2 v3 v4 : iV} {P : Option Nat → iH → Prop} (hd : decode m.2.1 pc = .ok (.invokestatic idx, 3)) (hw : CSk m.1.cls idx m2 4)  (hd2 : d2 + 1 ≤ d) (hrest : (st.map ct).sum ≤ 8) (hM : MQ_ G m2 d2 [v1, v2, v3, v4] h P) (kk : ∀ (x : Option Nat) (h' : iH), P x h' → Ev G m d ac az (pc + 3) Ls (vQ x :: st) h' Q) : Ev G m d ac az pc Ls (v4 :: v3 :: v2 :: v1 :: st) h Q :=
  E_callS (As := [v1, v2, v3, v4]) (rest := st) hd hw hd2 (Nat.zero_le _) (Nat.zero_le _) rfl rfl hrest hM (fun r h' hq => by
    obtain ⟨x, rfl, hp⟩ := hq
    exact kk x h' hp)
end EC
end
section
/-! ===== the layout: class cells 0..49 (C), reference cells 50..65 (M) ===== -/
def tk (i : Nat) : Nat := 5 + 4 * i
def pp (i : Nat) : Nat := 38 + 2 * i
def fl (C M : Nat → Nat → Int32) : Nat → Nat → Int32 := fun k j =>
  if k < 5 then C k j
  else if k < 37 then
    (if (k - 5) % 4 = 0 then (if j < 9 then C (10 + j) ((k - 5) / 4) else 0)
     else if (k - 5) % 4 = 1 then (if j < 32 then C 20 (32 * ((k - 5) / 4) + j) else 0)
     else if (k - 5) % 4 = 2 then (if j < 8 then C 21 (8 * ((k - 5) / 4) + j) else 0)
     else (if j < 6 then C 22 (6 * ((k - 5) / 4) + j) else 0))
  else if k < 38 then 0
  else if k < 46 then
    (if (k - 38) % 2 = 0 then (if j < 3 then C (24 + j) ((k - 38) / 2) else 0)
     else (if j < 8 then C 27 (8 * ((k - 38) / 2) + j) else 0))
  else if k < 50 then C k j
  else M (k - 50) j
def RH : Nat → Nat → Option Nat := fun k j =>
  if 5 ≤ k ∧ k < 37 then some (k + j)
  else if 38 ≤ k ∧ k < 46 then some (k + 1)
  else match k with
    | 0 => (match j with | 0 => some 1 | 1 => some 4 | 2 => some 37 | 3 => some 46 | 5 => some 48 | 6 => some 49 | _ => none)
    | 1 => (match j with | 0 => some 2 | 1 => some 3 | _ => none)
    | 4 => some (tk j)
    | 37 => some (pp j)
    | 46 => some 47
    | 50 => (match j with | 2 => some 51 | 3 => some 52 | 5 => some 53 | 7 => some 54 | 8 => some 55 | 9 => some 56 | 10 => some 57 | 11 => some 58 | 12 => some 59 | 13 => some 60 | 14 => some 61 | 16 => some 62 | 20 => some 63 | 21 => some 64 | 23 => some 65 | _ => none)
    | _ => none
def SH (F : Nat) : List (Nat × Nat) := [(0 + 4, 13), (1 + 4, 3), (0, 16 * F), (1, F), (2, 8), (2 + 4, 9), (0, 32), (0, 8), (0, 6), (2 + 4, 9), (0, 32), (0, 8), (0, 6), (2 + 4, 9), (0, 32), (0, 8), (0, 6), (2 + 4, 9), (0, 32), (0, 8), (0, 6), (2 + 4, 9), (0, 32), (0, 8), (0, 6), (2 + 4, 9), (0, 32), (0, 8), (0, 6), (2 + 4, 9), (0, 32), (0, 8), (0, 6), (2 + 4, 9), (0, 32), (0, 8), (0, 6), (3, 4), (3 + 4, 3), (0, 8), (3 + 4, 3), (0, 8), (3 + 4, 3), (0, 8), (3 + 4, 3), (0, 8), (4 + 4, 2), (0, 8), (0, 64), (0, 200), (5 + 4, 28), (0, 640), (0, 40), (0, 64), (0, 9), (0, 9), (0, 9), (0, 9), (0, 9), (0, 288), (0, 72), (0, 54), (0, 9), (0, 32), (0, 4), (0, 200)]
def HW (F : Nat) (C M : Nat → Nat → Int32) : iH := (SH F, fl C M, RH)
theorem lt8 {P : Nat → Prop} (h0 : P 0) (h1 : P 1) (h2 : P 2) (h3 : P 3) (h4 : P 4) (h5 : P 5) (h6 : P 6) (h7 : P 7) {i : Nat} (hi : i < 8) : P i := by
  match i, hi with
  | 0, _ => exact h0
  | 1, _ => exact h1
  | 2, _ => exact h2
  | 3, _ => exact h3
  | 4, _ => exact h4
  | 5, _ => exact h5
  | 6, _ => exact h6
  | 7, _ => exact h7
theorem lt4 {P : Nat → Prop} (h0 : P 0) (h1 : P 1) (h2 : P 2) (h3 : P 3) {i : Nat} (hi : i < 4) : P i := by
  match i, hi with
  | 0, _ => exact h0
  | 1, _ => exact h1
  | 2, _ => exact h2
  | 3, _ => exact h3
theorem SH_T0 {F i : Nat} (hi : i < 8) : (SH F)[tk i]? = some (2 + 4, 9) := lt8 (P := fun i => (SH F)[tk i]? = some (2 + 4, 9)) rfl rfl rfl rfl rfl rfl rfl rfl hi
theorem SH_T1 {F i : Nat} (hi : i < 8) : (SH F)[tk i + 1]? = some (0, 32) := lt8 (P := fun i => (SH F)[tk i + 1]? = some (0, 32)) rfl rfl rfl rfl rfl rfl rfl rfl hi
theorem SH_T2 {F i : Nat} (hi : i < 8) : (SH F)[tk i + 2]? = some (0, 8) := lt8 (P := fun i => (SH F)[tk i + 2]? = some (0, 8)) rfl rfl rfl rfl rfl rfl rfl rfl hi
theorem SH_T3 {F i : Nat} (hi : i < 8) : (SH F)[tk i + 3]? = some (0, 6) := lt8 (P := fun i => (SH F)[tk i + 3]? = some (0, 6)) rfl rfl rfl rfl rfl rfl rfl rfl hi
theorem SH_P0 {F i : Nat} (hi : i < 4) : (SH F)[pp i]? = some (3 + 4, 3) := lt4 (P := fun i => (SH F)[pp i]? = some (3 + 4, 3)) rfl rfl rfl rfl hi
theorem SH_P1 {F i : Nat} (hi : i < 4) : (SH F)[pp i + 1]? = some (0, 8) := lt4 (P := fun i => (SH F)[pp i + 1]? = some (0, 8)) rfl rfl rfl rfl hi
theorem RH_T {i : Nat} (j : Nat) (hi : i < 8) : RH (tk i) j = some (tk i + j) := by
  unfold RH tk
  rw [if_pos (by omega)]
theorem RH_P {i : Nat} (hi : i < 4) : RH (pp i) 0 = some (pp i + 1) := by
  unfold RH pp
  rw [if_neg (by omega), if_pos (by omega)]
section LAY
variable {C M : Nat → Nat → Int32}
theorem fr_K {k : Nat} (j : Nat) (hk : k < 5 ∨ (46 ≤ k ∧ k < 50)) : fl C M k j = C k j := by
  simp only [fl, tk, pp]
  repeat' split
  all_goals first | rfl | (exfalso; omega) | (congr 1 <;> omega) | (congr 2 <;> omega)
theorem fr_M (a j : Nat) : fl C M (50 + a) j = M a j := by
  unfold fl
  rw [if_neg (by omega), if_neg (by omega), if_neg (by omega), if_neg (by omega), if_neg (by omega), Nat.add_sub_cancel_left]
theorem fr_T {i j : Nat} (hi : i < 8) (hj : j < 9) : fl C M (tk i) j = C (10 + j) i := by
  unfold fl tk
  rw [if_neg (by omega), if_pos (by omega), if_pos (by omega), if_pos hj, show (5 + 4 * i - 5) / 4 = i by omega]
theorem fr_R {i j : Nat} (hi : i < 8) (hj : j < 32) : fl C M (tk i + 1) j = C 20 (32 * i + j) := by
  unfold fl tk
  rw [if_neg (by omega), if_pos (by omega), if_neg (by omega), if_pos (by omega), if_pos hj, show (5 + 4 * i + 1 - 5) / 4 = i by omega]
theorem fr_F {i j : Nat} (hi : i < 8) (hj : j < 8) : fl C M (tk i + 2) j = C 21 (8 * i + j) := by
  unfold fl tk
  rw [if_neg (by omega), if_pos (by omega), if_neg (by omega), if_neg (by omega), if_pos (by omega), if_pos hj, show (5 + 4 * i + 2 - 5) / 4 = i by omega]
theorem fr_D {i j : Nat} (hi : i < 8) (hj : j < 6) : fl C M (tk i + 3) j = C 22 (6 * i + j) := by
  unfold fl tk
  rw [if_neg (by omega), if_pos (by omega), if_neg (by omega), if_neg (by omega), if_neg (by omega), if_pos hj, show (5 + 4 * i + 3 - 5) / 4 = i by omega]
theorem fr_P {i j : Nat} (hi : i < 4) (hj : j < 3) : fl C M (pp i) j = C (24 + j) i := by
  unfold fl pp
  rw [if_neg (by omega), if_neg (by omega), if_neg (by omega), if_pos (by omega), if_pos (by omega), if_pos hj, show (38 + 2 * i - 38) / 2 = i by omega]
theorem fr_B {i j : Nat} (hi : i < 4) (hj : j < 8) : fl C M (pp i + 1) j = C 27 (8 * i + j) := by
  unfold fl pp
  rw [if_neg (by omega), if_neg (by omega), if_neg (by omega), if_pos (by omega), if_neg (by omega), if_pos hj, show (38 + 2 * i + 1 - 38) / 2 = i by omega]
theorem fu_K {k : Nat} (j : Nat) (x : Int32) (hk : k < 5 ∨ (46 ≤ k ∧ k < 50)) : up2 (fl C M) k j x = fl (up2 C k j x) M := by
  funext k' j'
  simp only [fl, up2, tk, pp]
  repeat' split
  all_goals first | rfl | (exfalso; omega)
theorem fu_M (a j : Nat) (x : Int32) : up2 (fl C M) (50 + a) j x = fl C (up2 M a j x) := by
  funext k' j'
  simp only [fl, up2, tk, pp]
  repeat' split
  all_goals first | rfl | (exfalso; omega)
theorem fu_T {i j : Nat} (x : Int32) (hi : i < 8) (hj : j < 9) : up2 (fl C M) (tk i) j x = fl (up2 C (10 + j) i x) M := by
  funext k' j'
  simp only [fl, up2, tk, pp]
  repeat' split
  all_goals first | rfl | (exfalso; omega)
theorem fu_R {i j : Nat} (x : Int32) (hi : i < 8) (hj : j < 32) : up2 (fl C M) (tk i + 1) j x = fl (up2 C 20 (32 * i + j) x) M := by
  funext k' j'
  simp only [fl, up2, tk, pp]
  repeat' split
  all_goals first | rfl | (exfalso; omega)
theorem fu_F {i j : Nat} (x : Int32) (hi : i < 8) (hj : j < 8) : up2 (fl C M) (tk i + 2) j x = fl (up2 C 21 (8 * i + j) x) M := by
  funext k' j'
  simp only [fl, up2, tk, pp]
  repeat' split
  all_goals first | rfl | (exfalso; omega)
theorem fu_D {i j : Nat} (x : Int32) (hi : i < 8) (hj : j < 6) : up2 (fl C M) (tk i + 3) j x = fl (up2 C 22 (6 * i + j) x) M := by
  funext k' j'
  simp only [fl, up2, tk, pp]
  repeat' split
  all_goals first | rfl | (exfalso; omega)
theorem fu_P {i j : Nat} (x : Int32) (hi : i < 4) (hj : j < 3) : up2 (fl C M) (pp i) j x = fl (up2 C (24 + j) i x) M := by
  funext k' j'
  simp only [fl, up2, tk, pp]
  repeat' split
  all_goals first | rfl | (exfalso; omega)
theorem fu_B {i j : Nat} (x : Int32) (hi : i < 4) (hj : j < 8) : up2 (fl C M) (pp i + 1) j x = fl (up2 C 27 (8 * i + j) x) M := by
  funext k' j'
  simp only [fl, up2, tk, pp]
  repeat' split
  all_goals first | rfl | (exfalso; omega)
/-- C with the places lo .. lo + n of row a put to f -/
def upr (C : Nat → Nat → Int32) (a lo n : Nat) (f : Nat → Int32) : Nat → Nat → Int32 := fun a' j => if a' = a ∧ lo ≤ j ∧ j < lo + n then f (j - lo) else C a' j
end LAY
section LW
variable {G : iG} {m : iM} {d ac az pc : Nat} {Ls : List (Option iV)} {st : List iV} {F : Nat} {C M : Nat → Nat → Int32} {Q : Option iV → iH → Prop}
theorem L_ld {k n j : Nat} {i v : Int32} (hd : decode m.2.1 pc = .ok (.iaload, 1)) (hk : (SH F)[k]? = some (0, n)) (hi : i = nI j) (hj : j < n) (hn : n < 2 ^ 31) (hv : fl C M k j = v) (kk : Ev G m d ac az (pc + 1) Ls (vI v :: st) (HW F C M) Q) : Ev G m d ac az pc Ls (vI i :: vR k :: st) (HW F C M) Q :=
  E_iald hd hk hi hj hn (by rw [show (HW F C M).2.1 k j = v from hv]; exact kk)
theorem L_zld {k n j : Nat} {i v : Int32} (hd : decode m.2.1 pc = .ok (.baload, 1)) (hk : (SH F)[k]? = some (1, n)) (hi : i = nI j) (hj : j < n) (hn : n < 2 ^ 31) (hv : fl C M k j = v) (kk : Ev G m d ac az (pc + 1) Ls (vI v :: st) (HW F C M) Q) : Ev G m d ac az pc Ls (vI i :: vR k :: st) (HW F C M) Q :=
  E_zald hd hk hi hj hn (by rw [show (HW F C M).2.1 k j = v from hv]; exact kk)
theorem L_st {k n j : Nat} {i x : Int32} {C' M' : Nat → Nat → Int32} (hd : decode m.2.1 pc = .ok (.iastore, 1)) (hk : (SH F)[k]? = some (0, n)) (hi : i = nI j) (hj : j < n) (hn : n < 2 ^ 31) (hv : up2 (fl C M) k j x = fl C' M') (kk : Ev G m d ac az (pc + 1) Ls st (HW F C' M') Q) : Ev G m d ac az pc Ls (vI x :: vI i :: vR k :: st) (HW F C M) Q :=
  E_iast hd hk hi hj hn (by show Ev G m d ac az (pc + 1) Ls st (SH F, up2 (fl C M) k j x, RH) Q; rw [hv]; exact kk)
theorem L_zst {k n j : Nat} {i x : Int32} {C' M' : Nat → Nat → Int32} (hd : decode m.2.1 pc = .ok (.bastore, 1)) (hk : (SH F)[k]? = some (1, n)) (hi : i = nI j) (hj : j < n) (hn : n < 2 ^ 31) (hx : x = 0 ∨ x = 1) (hv : up2 (fl C M) k j x = fl C' M') (kk : Ev G m d ac az (pc + 1) Ls st (HW F C' M') Q) : Ev G m d ac az pc Ls (vI x :: vI i :: vR k :: st) (HW F C M) Q :=
  E_zast hd hk hi hj hn hx (by show Ev G m d ac az (pc + 1) Ls st (SH F, up2 (fl C M) k j x, RH) Q; rw [hv]; exact kk)
theorem L_gi {idx ci j k n : Nat} {v : Int32} (hd : decode m.2.1 pc = .ok (.getfield idx, 3)) (hf : FLk m.1.cls idx ci j) (hk : (SH F)[k]? = some (ci + 4, n)) (hj : j < n) (hr : rf ci j = false) (hv : fl C M k j = v) (kk : Ev G m d ac az (pc + 3) Ls (vI v :: st) (HW F C M) Q) : Ev G m d ac az pc Ls (vR k :: st) (HW F C M) Q :=
  E_getI hd hf hk hj hr (by rw [show (HW F C M).2.1 k j = v from hv]; exact kk)
theorem L_gr {idx ci j k n k' : Nat} (hd : decode m.2.1 pc = .ok (.getfield idx, 3)) (hf : FLk m.1.cls idx ci j) (hk : (SH F)[k]? = some (ci + 4, n)) (hj : j < n) (hr : rf ci j = true) (hq : RH k j = some k') (kk : Ev G m d ac az (pc + 3) Ls (vR k' :: st) (HW F C M) Q) : Ev G m d ac az pc Ls (vR k :: st) (HW F C M) Q :=
  E_getQ hd hf hk hj hr (by rw [show (HW F C M).2.2 k j = some k' from hq]; exact kk)
theorem L_pi {idx ci j k n : Nat} {x : Int32} {C' M' : Nat → Nat → Int32} (hd : decode m.2.1 pc = .ok (.putfield idx, 3)) (hf : FLk m.1.cls idx ci j) (hk : (SH F)[k]? = some (ci + 4, n)) (hj : j < n) (ht : tyT ci j = .int ∨ (tyT ci j = .boolean ∧ (x = 0 ∨ x = 1))) (hfin : fnl ci j = false) (hv : up2 (fl C M) k j x = fl C' M') (kk : Ev G m d ac az (pc + 3) Ls st (HW F C' M') Q) : Ev G m d ac az pc Ls (vI x :: vR k :: st) (HW F C M) Q :=
  E_putI hd hf hk hj ht hfin (by show Ev G m d ac az (pc + 3) Ls st (SH F, up2 (fl C M) k j x, RH) Q; rw [hv]; exact kk)
theorem L_ar2 {k n j k' : Nat} {i : Int32} (hd : decode m.2.1 pc = .ok (.aaload, 1)) (hk : (SH F)[k]? = some (2, n)) (hi : i = nI j) (hj : j < n) (hn : n < 2 ^ 31) (hq : RH k j = some k') (kk : Ev G m d ac az (pc + 1) Ls (vR k' :: st) (HW F C M) Q) : Ev G m d ac az pc Ls (vI i :: vR k :: st) (HW F C M) Q :=
  E_aald2 hd hk hi hj hn (by rw [show (HW F C M).2.2 k j = some k' from hq]; exact kk)
theorem L_ar3 {k n j k' : Nat} {i : Int32} (hd : decode m.2.1 pc = .ok (.aaload, 1)) (hk : (SH F)[k]? = some (3, n)) (hi : i = nI j) (hj : j < n) (hn : n < 2 ^ 31) (hq : RH k j = some k') (kk : Ev G m d ac az (pc + 1) Ls (vR k' :: st) (HW F C M) Q) : Ev G m d ac az pc Ls (vI i :: vR k :: st) (HW F C M) Q :=
  E_aald3 hd hk hi hj hn (by rw [show (HW F C M).2.2 k j = some k' from hq]; exact kk)
end LW
end
section
/-! ===== fields of a word ===== -/
def bf (w : Int32) (a k : Nat) : Nat := w.toBitVec.toNat / 2 ^ a % 2 ^ k
theorem bf_lt (w : Int32) (a k : Nat) : bf w a k < 2 ^ k := Nat.mod_lt _ (Nat.two_pow_pos k)
theorem bf_u (w : Int32) (a k : Nat) {s m : Int32} (hs : ((s.toUInt32 &&& Int32.toUInt32 31).toBitVec % 32).toNat = a) (hm : m.toBitVec.toNat = 2 ^ k - 1) : (w.toUInt32 >>> (s.toUInt32 &&& Int32.toUInt32 31)).toInt32 &&& m = nI (bf w a k) := by
  rw [pk_and _ k hm, pk_ushr w s a hs]
  rfl
theorem bf_s (w : Int32) (a k : Nat) {s m : Int32} (hs : ((s &&& 31).toBitVec.smod 32).toNat = a) (hm : m.toBitVec.toNat = 2 ^ k - 1) (hak : a + k ≤ 32) : (w >>> (s &&& 31)) &&& m = nI (bf w a k) := by
  rw [pk_and _ k hm]
  congr 1
  have e : (w >>> (s &&& 31)).toBitVec = w.toBitVec.sshiftRight a := by
    rw [← hs]
    rfl
  rw [e]
  apply Nat.eq_of_testBit_eq
  intro i
  unfold bf
  rw [Nat.testBit_mod_two_pow, Nat.testBit_mod_two_pow, Nat.testBit_div_two_pow]
  by_cases hi : i < k
  · have h1 : (w.toBitVec.sshiftRight a).toNat.testBit i = (w.toBitVec.sshiftRight a).getLsbD i := rfl
    have h2 : w.toBitVec.toNat.testBit (a + i) = w.toBitVec.getLsbD (a + i) := rfl
    rw [h1, BitVec.getLsbD_sshiftRight]
    have h3 : a + i < 32 := by omega
    have h4 : ¬ 32 ≤ i := by omega
    simp [hi, h3, h4]
    first | rfl | (rw [Nat.add_comm]; rfl)
  · simp [hi]
theorem nadd {x y : Int32} {a b : Nat} (hx : x = nI a) (hy : y = nI b) : x + y = nI (a + b) := by rw [hx, hy, nI_add]
theorem nmul {x y : Int32} {a b : Nat} (hx : x = nI a) (hy : y = nI b) : x * y = nI (a * b) := by rw [hx, hy, pk_mul]
end
