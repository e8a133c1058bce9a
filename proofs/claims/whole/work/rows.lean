section
-- ===== PART A: goes FIRST, ahead of the names: the tables' words, and 'selects' of the private methods out of them =====
/-- a private method of a class that the tables say can be made, by its rows of tables_1 -/
def lw_okq (q : MethodName × Nat) : Prop := (q.1.cls ≠ "java/lang/invoke/MethodHandle" ∧ q.1.cls ≠ "java/lang/invoke/VarHandle") ∧ Cond.instantiable q.1.cls q.2 ∈ tables_1 ∧ Cond.privateMethod q.1 ∈ tables_1 ∧ Cond.instanceMethod q.1 ∈ tables_1
theorem lw_p0 : lw_okq (⟨"PagedKernel$Memory", "clear", "(I)V"⟩, 3) := ⟨⟨by decide +kernel, by decide +kernel⟩, List.mem_of_getElem? (i := 18) (by decide +kernel), List.mem_of_getElem? (i := 168) (by decide +kernel), List.mem_of_getElem? (i := 169) (by decide +kernel)⟩
theorem lw_p1 : lw_okq (⟨"PagedKernel", "makeReady", "(LPagedKernel$Task;)V"⟩, 13) := ⟨⟨by decide +kernel, by decide +kernel⟩, List.mem_of_getElem? (i := 10) (by decide +kernel), List.mem_of_getElem? (i := 184) (by decide +kernel), List.mem_of_getElem? (i := 185) (by decide +kernel)⟩
theorem lw_p2 : lw_okq (⟨"PagedKernel", "makeStep", "()I"⟩, 13) := ⟨⟨by decide +kernel, by decide +kernel⟩, List.mem_of_getElem? (i := 10) (by decide +kernel), List.mem_of_getElem? (i := 196) (by decide +kernel), List.mem_of_getElem? (i := 197) (by decide +kernel)⟩
theorem lw_p3 : lw_okq (⟨"PagedKernel", "find", "(I)LPagedKernel$Task;"⟩, 13) := ⟨⟨by decide +kernel, by decide +kernel⟩, List.mem_of_getElem? (i := 10) (by decide +kernel), List.mem_of_getElem? (i := 212) (by decide +kernel), List.mem_of_getElem? (i := 213) (by decide +kernel)⟩
theorem lw_p4 : lw_okq (⟨"PagedKernel", "beginCall", "(LPagedKernel$Task;)Z"⟩, 13) := ⟨⟨by decide +kernel, by decide +kernel⟩, List.mem_of_getElem? (i := 10) (by decide +kernel), List.mem_of_getElem? (i := 304) (by decide +kernel), List.mem_of_getElem? (i := 305) (by decide +kernel)⟩
theorem lw_p5 : lw_okq (⟨"PagedKernel", "obstacleOf", "(LPagedKernel$Task;)I"⟩, 13) := ⟨⟨by decide +kernel, by decide +kernel⟩, List.mem_of_getElem? (i := 10) (by decide +kernel), List.mem_of_getElem? (i := 308) (by decide +kernel), List.mem_of_getElem? (i := 309) (by decide +kernel)⟩
theorem lw_p6 : lw_okq (⟨"PagedKernel", "hasChild", "(LPagedKernel$Task;)Z"⟩, 13) := ⟨⟨by decide +kernel, by decide +kernel⟩, List.mem_of_getElem? (i := 10) (by decide +kernel), List.mem_of_getElem? (i := 317) (by decide +kernel), List.mem_of_getElem? (i := 318) (by decide +kernel)⟩
theorem lw_p7 : lw_okq (⟨"PagedKernel", "endedChildOf", "(LPagedKernel$Task;)LPagedKernel$Task;"⟩, 13) := ⟨⟨by decide +kernel, by decide +kernel⟩, List.mem_of_getElem? (i := 10) (by decide +kernel), List.mem_of_getElem? (i := 325) (by decide +kernel), List.mem_of_getElem? (i := 326) (by decide +kernel)⟩
theorem lw_p8 : lw_okq (⟨"PagedKernel", "pipeOf", "(I)LPagedKernel$Pipe;"⟩, 13) := ⟨⟨by decide +kernel, by decide +kernel⟩, List.mem_of_getElem? (i := 10) (by decide +kernel), List.mem_of_getElem? (i := 332) (by decide +kernel), List.mem_of_getElem? (i := 333) (by decide +kernel)⟩
theorem lw_p9 : lw_okq (⟨"PagedKernel", "isHeld", "(I)Z"⟩, 13) := ⟨⟨by decide +kernel, by decide +kernel⟩, List.mem_of_getElem? (i := 10) (by decide +kernel), List.mem_of_getElem? (i := 340) (by decide +kernel), List.mem_of_getElem? (i := 341) (by decide +kernel)⟩
theorem lw_p10 : lw_okq (⟨"PagedKernel", "answerOf", "(LPagedKernel$Task;I)I"⟩, 13) := ⟨⟨by decide +kernel, by decide +kernel⟩, List.mem_of_getElem? (i := 10) (by decide +kernel), List.mem_of_getElem? (i := 351) (by decide +kernel), List.mem_of_getElem? (i := 352) (by decide +kernel)⟩
theorem lw_p11 : lw_okq (⟨"PagedKernel", "end", "(LPagedKernel$Task;I)V"⟩, 13) := ⟨⟨by decide +kernel, by decide +kernel⟩, List.mem_of_getElem? (i := 10) (by decide +kernel), List.mem_of_getElem? (i := 355) (by decide +kernel), List.mem_of_getElem? (i := 356) (by decide +kernel)⟩
theorem lw_p12 : lw_okq (⟨"PagedKernel", "handOverChildren", "(LPagedKernel$Task;)V"⟩, 13) := ⟨⟨by decide +kernel, by decide +kernel⟩, List.mem_of_getElem? (i := 10) (by decide +kernel), List.mem_of_getElem? (i := 368) (by decide +kernel), List.mem_of_getElem? (i := 369) (by decide +kernel)⟩
theorem lw_p13 : lw_okq (⟨"PagedKernel", "fork", "(LPagedKernel$Task;)I"⟩, 13) := ⟨⟨by decide +kernel, by decide +kernel⟩, List.mem_of_getElem? (i := 10) (by decide +kernel), List.mem_of_getElem? (i := 372) (by decide +kernel), List.mem_of_getElem? (i := 373) (by decide +kernel)⟩
theorem lw_p14 : lw_okq (⟨"PagedKernel", "leastAbsent", "()LPagedKernel$Task;"⟩, 13) := ⟨⟨by decide +kernel, by decide +kernel⟩, List.mem_of_getElem? (i := 10) (by decide +kernel), List.mem_of_getElem? (i := 376) (by decide +kernel), List.mem_of_getElem? (i := 377) (by decide +kernel)⟩
theorem lw_p15 : lw_okq (⟨"PagedKernel", "collectChild", "(LPagedKernel$Task;)I"⟩, 13) := ⟨⟨by decide +kernel, by decide +kernel⟩, List.mem_of_getElem? (i := 10) (by decide +kernel), List.mem_of_getElem? (i := 392) (by decide +kernel), List.mem_of_getElem? (i := 393) (by decide +kernel)⟩
def lw_privs_1 : List (MethodName × Nat) := [(⟨"PagedKernel$Memory", "clear", "(I)V"⟩, 3), (⟨"PagedKernel", "makeReady", "(LPagedKernel$Task;)V"⟩, 13), (⟨"PagedKernel", "makeStep", "()I"⟩, 13), (⟨"PagedKernel", "find", "(I)LPagedKernel$Task;"⟩, 13), (⟨"PagedKernel", "beginCall", "(LPagedKernel$Task;)Z"⟩, 13), (⟨"PagedKernel", "obstacleOf", "(LPagedKernel$Task;)I"⟩, 13), (⟨"PagedKernel", "hasChild", "(LPagedKernel$Task;)Z"⟩, 13), (⟨"PagedKernel", "endedChildOf", "(LPagedKernel$Task;)LPagedKernel$Task;"⟩, 13), (⟨"PagedKernel", "pipeOf", "(I)LPagedKernel$Pipe;"⟩, 13), (⟨"PagedKernel", "isHeld", "(I)Z"⟩, 13), (⟨"PagedKernel", "answerOf", "(LPagedKernel$Task;I)I"⟩, 13), (⟨"PagedKernel", "end", "(LPagedKernel$Task;I)V"⟩, 13), (⟨"PagedKernel", "handOverChildren", "(LPagedKernel$Task;)V"⟩, 13), (⟨"PagedKernel", "fork", "(LPagedKernel$Task;)I"⟩, 13), (⟨"PagedKernel", "leastAbsent", "()LPagedKernel$Task;"⟩, 13), (⟨"PagedKernel", "collectChild", "(LPagedKernel$Task;)I"⟩, 13)]
theorem lw_r1 : ∀ q ∈ lw_privs_1, lw_okq q := List.forall_mem_cons.mpr ⟨lw_p0, List.forall_mem_cons.mpr ⟨lw_p1, List.forall_mem_cons.mpr ⟨lw_p2, List.forall_mem_cons.mpr ⟨lw_p3, List.forall_mem_cons.mpr ⟨lw_p4, List.forall_mem_cons.mpr ⟨lw_p5, List.forall_mem_cons.mpr ⟨lw_p6, List.forall_mem_cons.mpr ⟨lw_p7, List.forall_mem_cons.mpr ⟨lw_p8, List.forall_mem_cons.mpr ⟨lw_p9, List.forall_mem_cons.mpr ⟨lw_p10, List.forall_mem_cons.mpr ⟨lw_p11, List.forall_mem_cons.mpr ⟨lw_p12, List.forall_mem_cons.mpr ⟨lw_p13, List.forall_mem_cons.mpr ⟨lw_p14, List.forall_mem_cons.mpr ⟨lw_p15, fun _ h => absurd h List.not_mem_nil⟩⟩⟩⟩⟩⟩⟩⟩⟩⟩⟩⟩⟩⟩⟩⟩
theorem lw_p16 : lw_okq (⟨"PagedKernel", "grow", "(LPagedKernel$Task;I)I"⟩, 13) := ⟨⟨by decide +kernel, by decide +kernel⟩, List.mem_of_getElem? (i := 10) (by decide +kernel), List.mem_of_getElem? (i := 396) (by decide +kernel), List.mem_of_getElem? (i := 397) (by decide +kernel)⟩
theorem lw_p17 : lw_okq (⟨"PagedKernel", "write", "(II)I"⟩, 13) := ⟨⟨by decide +kernel, by decide +kernel⟩, List.mem_of_getElem? (i := 10) (by decide +kernel), List.mem_of_getElem? (i := 400) (by decide +kernel), List.mem_of_getElem? (i := 401) (by decide +kernel)⟩
theorem lw_p18 : lw_okq (⟨"PagedKernel", "print", "(I)I"⟩, 13) := ⟨⟨by decide +kernel, by decide +kernel⟩, List.mem_of_getElem? (i := 10) (by decide +kernel), List.mem_of_getElem? (i := 404) (by decide +kernel), List.mem_of_getElem? (i := 405) (by decide +kernel)⟩
theorem lw_p19 : lw_okq (⟨"PagedKernel", "read", "(I)I"⟩, 13) := ⟨⟨by decide +kernel, by decide +kernel⟩, List.mem_of_getElem? (i := 10) (by decide +kernel), List.mem_of_getElem? (i := 413) (by decide +kernel), List.mem_of_getElem? (i := 414) (by decide +kernel)⟩
theorem lw_p20 : lw_okq (⟨"PagedKernel", "openPipe", "(LPagedKernel$Task;)I"⟩, 13) := ⟨⟨by decide +kernel, by decide +kernel⟩, List.mem_of_getElem? (i := 10) (by decide +kernel), List.mem_of_getElem? (i := 422) (by decide +kernel), List.mem_of_getElem? (i := 423) (by decide +kernel)⟩
theorem lw_p21 : lw_okq (⟨"PagedKernel", "leastFreeReadingEnd", "()I"⟩, 13) := ⟨⟨by decide +kernel, by decide +kernel⟩, List.mem_of_getElem? (i := 10) (by decide +kernel), List.mem_of_getElem? (i := 426) (by decide +kernel), List.mem_of_getElem? (i := 427) (by decide +kernel)⟩
theorem lw_p22 : lw_okq (⟨"PagedKernel", "isFreePipe", "(I)Z"⟩, 13) := ⟨⟨by decide +kernel, by decide +kernel⟩, List.mem_of_getElem? (i := 10) (by decide +kernel), List.mem_of_getElem? (i := 430) (by decide +kernel), List.mem_of_getElem? (i := 431) (by decide +kernel)⟩
theorem lw_p23 : lw_okq (⟨"PagedKernel", "close", "(LPagedKernel$Task;I)I"⟩, 13) := ⟨⟨by decide +kernel, by decide +kernel⟩, List.mem_of_getElem? (i := 10) (by decide +kernel), List.mem_of_getElem? (i := 442) (by decide +kernel), List.mem_of_getElem? (i := 443) (by decide +kernel)⟩
theorem lw_p24 : lw_okq (⟨"PagedKernel", "duplicate", "(LPagedKernel$Task;I)I"⟩, 13) := ⟨⟨by decide +kernel, by decide +kernel⟩, List.mem_of_getElem? (i := 10) (by decide +kernel), List.mem_of_getElem? (i := 446) (by decide +kernel), List.mem_of_getElem? (i := 447) (by decide +kernel)⟩
theorem lw_p25 : lw_okq (⟨"PagedKernel", "kill", "(I)I"⟩, 13) := ⟨⟨by decide +kernel, by decide +kernel⟩, List.mem_of_getElem? (i := 10) (by decide +kernel), List.mem_of_getElem? (i := 450) (by decide +kernel), List.mem_of_getElem? (i := 451) (by decide +kernel)⟩
theorem lw_p26 : lw_okq (⟨"PagedKernel", "passTurn", "(LPagedKernel$Task;)V"⟩, 13) := ⟨⟨by decide +kernel, by decide +kernel⟩, List.mem_of_getElem? (i := 10) (by decide +kernel), List.mem_of_getElem? (i := 454) (by decide +kernel), List.mem_of_getElem? (i := 455) (by decide +kernel)⟩
theorem lw_p27 : lw_okq (⟨"PagedKernel", "wakeSleepers", "()V"⟩, 13) := ⟨⟨by decide +kernel, by decide +kernel⟩, List.mem_of_getElem? (i := 10) (by decide +kernel), List.mem_of_getElem? (i := 458) (by decide +kernel), List.mem_of_getElem? (i := 459) (by decide +kernel)⟩
theorem lw_p28 : lw_okq (⟨"PagedKernel", "allHaveEnded", "()Z"⟩, 13) := ⟨⟨by decide +kernel, by decide +kernel⟩, List.mem_of_getElem? (i := 10) (by decide +kernel), List.mem_of_getElem? (i := 466) (by decide +kernel), List.mem_of_getElem? (i := 467) (by decide +kernel)⟩
theorem lw_p29 : lw_okq (⟨"PagedKernelModel", "grow", "(I)I"⟩, 28) := ⟨⟨by decide +kernel, by decide +kernel⟩, List.mem_of_getElem? (i := 535) (by decide +kernel), List.mem_of_getElem? (i := 638) (by decide +kernel), List.mem_of_getElem? (i := 639) (by decide +kernel)⟩
theorem lw_p30 : lw_okq (⟨"PagedKernelModel", "wake", "(I)V"⟩, 28) := ⟨⟨by decide +kernel, by decide +kernel⟩, List.mem_of_getElem? (i := 535) (by decide +kernel), List.mem_of_getElem? (i := 642) (by decide +kernel), List.mem_of_getElem? (i := 643) (by decide +kernel)⟩
theorem lw_p31 : lw_okq (⟨"PagedKernelModel", "unrow", "(I)V"⟩, 28) := ⟨⟨by decide +kernel, by decide +kernel⟩, List.mem_of_getElem? (i := 535) (by decide +kernel), List.mem_of_getElem? (i := 650) (by decide +kernel), List.mem_of_getElem? (i := 651) (by decide +kernel)⟩
def lw_privs_2 : List (MethodName × Nat) := [(⟨"PagedKernel", "grow", "(LPagedKernel$Task;I)I"⟩, 13), (⟨"PagedKernel", "write", "(II)I"⟩, 13), (⟨"PagedKernel", "print", "(I)I"⟩, 13), (⟨"PagedKernel", "read", "(I)I"⟩, 13), (⟨"PagedKernel", "openPipe", "(LPagedKernel$Task;)I"⟩, 13), (⟨"PagedKernel", "leastFreeReadingEnd", "()I"⟩, 13), (⟨"PagedKernel", "isFreePipe", "(I)Z"⟩, 13), (⟨"PagedKernel", "close", "(LPagedKernel$Task;I)I"⟩, 13), (⟨"PagedKernel", "duplicate", "(LPagedKernel$Task;I)I"⟩, 13), (⟨"PagedKernel", "kill", "(I)I"⟩, 13), (⟨"PagedKernel", "passTurn", "(LPagedKernel$Task;)V"⟩, 13), (⟨"PagedKernel", "wakeSleepers", "()V"⟩, 13), (⟨"PagedKernel", "allHaveEnded", "()Z"⟩, 13), (⟨"PagedKernelModel", "grow", "(I)I"⟩, 28), (⟨"PagedKernelModel", "wake", "(I)V"⟩, 28), (⟨"PagedKernelModel", "unrow", "(I)V"⟩, 28)]
theorem lw_r2 : ∀ q ∈ lw_privs_2, lw_okq q := List.forall_mem_cons.mpr ⟨lw_p16, List.forall_mem_cons.mpr ⟨lw_p17, List.forall_mem_cons.mpr ⟨lw_p18, List.forall_mem_cons.mpr ⟨lw_p19, List.forall_mem_cons.mpr ⟨lw_p20, List.forall_mem_cons.mpr ⟨lw_p21, List.forall_mem_cons.mpr ⟨lw_p22, List.forall_mem_cons.mpr ⟨lw_p23, List.forall_mem_cons.mpr ⟨lw_p24, List.forall_mem_cons.mpr ⟨lw_p25, List.forall_mem_cons.mpr ⟨lw_p26, List.forall_mem_cons.mpr ⟨lw_p27, List.forall_mem_cons.mpr ⟨lw_p28, List.forall_mem_cons.mpr ⟨lw_p29, List.forall_mem_cons.mpr ⟨lw_p30, List.forall_mem_cons.mpr ⟨lw_p31, fun _ h => absurd h List.not_mem_nil⟩⟩⟩⟩⟩⟩⟩⟩⟩⟩⟩⟩⟩⟩⟩⟩
theorem lw_p32 : lw_okq (⟨"PagedKernelModel", "instruction", "()V"⟩, 28) := ⟨⟨by decide +kernel, by decide +kernel⟩, List.mem_of_getElem? (i := 535) (by decide +kernel), List.mem_of_getElem? (i := 654) (by decide +kernel), List.mem_of_getElem? (i := 655) (by decide +kernel)⟩
theorem lw_p33 : lw_okq (⟨"PagedKernelModel", "there", "(II)Z"⟩, 28) := ⟨⟨by decide +kernel, by decide +kernel⟩, List.mem_of_getElem? (i := 535) (by decide +kernel), List.mem_of_getElem? (i := 658) (by decide +kernel), List.mem_of_getElem? (i := 659) (by decide +kernel)⟩
theorem lw_p34 : lw_okq (⟨"PagedKernelModel", "fault", "(I)V"⟩, 28) := ⟨⟨by decide +kernel, by decide +kernel⟩, List.mem_of_getElem? (i := 535) (by decide +kernel), List.mem_of_getElem? (i := 662) (by decide +kernel), List.mem_of_getElem? (i := 663) (by decide +kernel)⟩
theorem lw_p35 : lw_okq (⟨"PagedKernelModel", "end", "(II)V"⟩, 28) := ⟨⟨by decide +kernel, by decide +kernel⟩, List.mem_of_getElem? (i := 535) (by decide +kernel), List.mem_of_getElem? (i := 666) (by decide +kernel), List.mem_of_getElem? (i := 667) (by decide +kernel)⟩
theorem lw_p36 : lw_okq (⟨"PagedKernelModel", "tidyPipes", "()V"⟩, 28) := ⟨⟨by decide +kernel, by decide +kernel⟩, List.mem_of_getElem? (i := 535) (by decide +kernel), List.mem_of_getElem? (i := 670) (by decide +kernel), List.mem_of_getElem? (i := 671) (by decide +kernel)⟩
theorem lw_p37 : lw_okq (⟨"PagedKernelModel", "isHeld", "(I)Z"⟩, 28) := ⟨⟨by decide +kernel, by decide +kernel⟩, List.mem_of_getElem? (i := 535) (by decide +kernel), List.mem_of_getElem? (i := 674) (by decide +kernel), List.mem_of_getElem? (i := 675) (by decide +kernel)⟩
theorem lw_p38 : lw_okq (⟨"PagedKernelModel", "remove", "(I)V"⟩, 28) := ⟨⟨by decide +kernel, by decide +kernel⟩, List.mem_of_getElem? (i := 535) (by decide +kernel), List.mem_of_getElem? (i := 678) (by decide +kernel), List.mem_of_getElem? (i := 679) (by decide +kernel)⟩
theorem lw_p39 : lw_okq (⟨"PagedKernelModel", "cellOf", "(II)I"⟩, 28) := ⟨⟨by decide +kernel, by decide +kernel⟩, List.mem_of_getElem? (i := 535) (by decide +kernel), List.mem_of_getElem? (i := 682) (by decide +kernel), List.mem_of_getElem? (i := 683) (by decide +kernel)⟩
theorem lw_p40 : lw_okq (⟨"PagedKernelModel", "bits", "(II)I"⟩, 28) := ⟨⟨by decide +kernel, by decide +kernel⟩, List.mem_of_getElem? (i := 535) (by decide +kernel), List.mem_of_getElem? (i := 686) (by decide +kernel), List.mem_of_getElem? (i := 687) (by decide +kernel)⟩
theorem lw_p41 : lw_okq (⟨"PagedKernelModel", "d", "()I"⟩, 28) := ⟨⟨by decide +kernel, by decide +kernel⟩, List.mem_of_getElem? (i := 535) (by decide +kernel), List.mem_of_getElem? (i := 690) (by decide +kernel), List.mem_of_getElem? (i := 691) (by decide +kernel)⟩
theorem lw_p42 : lw_okq (⟨"PagedKernelModel", "set", "(II)V"⟩, 28) := ⟨⟨by decide +kernel, by decide +kernel⟩, List.mem_of_getElem? (i := 535) (by decide +kernel), List.mem_of_getElem? (i := 694) (by decide +kernel), List.mem_of_getElem? (i := 695) (by decide +kernel)⟩
theorem lw_p43 : lw_okq (⟨"PagedKernelModel", "jump", "(I)V"⟩, 28) := ⟨⟨by decide +kernel, by decide +kernel⟩, List.mem_of_getElem? (i := 535) (by decide +kernel), List.mem_of_getElem? (i := 698) (by decide +kernel), List.mem_of_getElem? (i := 699) (by decide +kernel)⟩
theorem lw_p44 : lw_okq (⟨"PagedKernelModel", "s", "()I"⟩, 28) := ⟨⟨by decide +kernel, by decide +kernel⟩, List.mem_of_getElem? (i := 535) (by decide +kernel), List.mem_of_getElem? (i := 702) (by decide +kernel), List.mem_of_getElem? (i := 703) (by decide +kernel)⟩
theorem lw_p45 : lw_okq (⟨"PagedKernelModel", "get", "(I)I"⟩, 28) := ⟨⟨by decide +kernel, by decide +kernel⟩, List.mem_of_getElem? (i := 535) (by decide +kernel), List.mem_of_getElem? (i := 706) (by decide +kernel), List.mem_of_getElem? (i := 707) (by decide +kernel)⟩
theorem lw_p46 : lw_okq (⟨"PagedKernelModel", "branch", "(I)V"⟩, 28) := ⟨⟨by decide +kernel, by decide +kernel⟩, List.mem_of_getElem? (i := 535) (by decide +kernel), List.mem_of_getElem? (i := 710) (by decide +kernel), List.mem_of_getElem? (i := 711) (by decide +kernel)⟩
theorem lw_p47 : lw_okq (⟨"PagedKernelModel", "t", "()I"⟩, 28) := ⟨⟨by decide +kernel, by decide +kernel⟩, List.mem_of_getElem? (i := 535) (by decide +kernel), List.mem_of_getElem? (i := 714) (by decide +kernel), List.mem_of_getElem? (i := 715) (by decide +kernel)⟩
def lw_privs_3 : List (MethodName × Nat) := [(⟨"PagedKernelModel", "instruction", "()V"⟩, 28), (⟨"PagedKernelModel", "there", "(II)Z"⟩, 28), (⟨"PagedKernelModel", "fault", "(I)V"⟩, 28), (⟨"PagedKernelModel", "end", "(II)V"⟩, 28), (⟨"PagedKernelModel", "tidyPipes", "()V"⟩, 28), (⟨"PagedKernelModel", "isHeld", "(I)Z"⟩, 28), (⟨"PagedKernelModel", "remove", "(I)V"⟩, 28), (⟨"PagedKernelModel", "cellOf", "(II)I"⟩, 28), (⟨"PagedKernelModel", "bits", "(II)I"⟩, 28), (⟨"PagedKernelModel", "d", "()I"⟩, 28), (⟨"PagedKernelModel", "set", "(II)V"⟩, 28), (⟨"PagedKernelModel", "jump", "(I)V"⟩, 28), (⟨"PagedKernelModel", "s", "()I"⟩, 28), (⟨"PagedKernelModel", "get", "(I)I"⟩, 28), (⟨"PagedKernelModel", "branch", "(I)V"⟩, 28), (⟨"PagedKernelModel", "t", "()I"⟩, 28)]
theorem lw_r3 : ∀ q ∈ lw_privs_3, lw_okq q := List.forall_mem_cons.mpr ⟨lw_p32, List.forall_mem_cons.mpr ⟨lw_p33, List.forall_mem_cons.mpr ⟨lw_p34, List.forall_mem_cons.mpr ⟨lw_p35, List.forall_mem_cons.mpr ⟨lw_p36, List.forall_mem_cons.mpr ⟨lw_p37, List.forall_mem_cons.mpr ⟨lw_p38, List.forall_mem_cons.mpr ⟨lw_p39, List.forall_mem_cons.mpr ⟨lw_p40, List.forall_mem_cons.mpr ⟨lw_p41, List.forall_mem_cons.mpr ⟨lw_p42, List.forall_mem_cons.mpr ⟨lw_p43, List.forall_mem_cons.mpr ⟨lw_p44, List.forall_mem_cons.mpr ⟨lw_p45, List.forall_mem_cons.mpr ⟨lw_p46, List.forall_mem_cons.mpr ⟨lw_p47, fun _ h => absurd h List.not_mem_nil⟩⟩⟩⟩⟩⟩⟩⟩⟩⟩⟩⟩⟩⟩⟩⟩
theorem lw_p48 : lw_okq (⟨"PagedKernelModel", "read", "()V"⟩, 28) := ⟨⟨by decide +kernel, by decide +kernel⟩, List.mem_of_getElem? (i := 535) (by decide +kernel), List.mem_of_getElem? (i := 722) (by decide +kernel), List.mem_of_getElem? (i := 723) (by decide +kernel)⟩
theorem lw_p49 : lw_okq (⟨"PagedKernelModel", "reach", "(III)Z"⟩, 28) := ⟨⟨by decide +kernel, by decide +kernel⟩, List.mem_of_getElem? (i := 535) (by decide +kernel), List.mem_of_getElem? (i := 726) (by decide +kernel), List.mem_of_getElem? (i := 727) (by decide +kernel)⟩
theorem lw_p50 : lw_okq (⟨"PagedKernelModel", "byteAt", "(II)I"⟩, 28) := ⟨⟨by decide +kernel, by decide +kernel⟩, List.mem_of_getElem? (i := 535) (by decide +kernel), List.mem_of_getElem? (i := 730) (by decide +kernel), List.mem_of_getElem? (i := 731) (by decide +kernel)⟩
theorem lw_p51 : lw_okq (⟨"PagedKernelModel", "write", "()V"⟩, 28) := ⟨⟨by decide +kernel, by decide +kernel⟩, List.mem_of_getElem? (i := 535) (by decide +kernel), List.mem_of_getElem? (i := 734) (by decide +kernel), List.mem_of_getElem? (i := 735) (by decide +kernel)⟩
theorem lw_p52 : lw_okq (⟨"PagedKernelModel", "putByte", "(III)V"⟩, 28) := ⟨⟨by decide +kernel, by decide +kernel⟩, List.mem_of_getElem? (i := 535) (by decide +kernel), List.mem_of_getElem? (i := 738) (by decide +kernel), List.mem_of_getElem? (i := 739) (by decide +kernel)⟩
theorem lw_p53 : lw_okq (⟨"PagedKernelModel", "compute", "(Z)V"⟩, 28) := ⟨⟨by decide +kernel, by decide +kernel⟩, List.mem_of_getElem? (i := 535) (by decide +kernel), List.mem_of_getElem? (i := 742) (by decide +kernel), List.mem_of_getElem? (i := 743) (by decide +kernel)⟩
theorem lw_p54 : lw_okq (⟨"PagedKernelModel", "call", "()V"⟩, 28) := ⟨⟨by decide +kernel, by decide +kernel⟩, List.mem_of_getElem? (i := 535) (by decide +kernel), List.mem_of_getElem? (i := 746) (by decide +kernel), List.mem_of_getElem? (i := 747) (by decide +kernel)⟩
theorem lw_p55 : lw_okq (⟨"PagedKernelModel", "leave", "(I)V"⟩, 28) := ⟨⟨by decide +kernel, by decide +kernel⟩, List.mem_of_getElem? (i := 535) (by decide +kernel), List.mem_of_getElem? (i := 750) (by decide +kernel), List.mem_of_getElem? (i := 751) (by decide +kernel)⟩
theorem lw_p56 : lw_okq (⟨"PagedKernelModel", "fork", "()I"⟩, 28) := ⟨⟨by decide +kernel, by decide +kernel⟩, List.mem_of_getElem? (i := 535) (by decide +kernel), List.mem_of_getElem? (i := 754) (by decide +kernel), List.mem_of_getElem? (i := 755) (by decide +kernel)⟩
theorem lw_p57 : lw_okq (⟨"PagedKernelModel", "waits", "()V"⟩, 28) := ⟨⟨by decide +kernel, by decide +kernel⟩, List.mem_of_getElem? (i := 535) (by decide +kernel), List.mem_of_getElem? (i := 759) (by decide +kernel), List.mem_of_getElem? (i := 760) (by decide +kernel)⟩
theorem lw_p58 : lw_okq (⟨"PagedKernelModel", "lostChild", "(I)I"⟩, 28) := ⟨⟨by decide +kernel, by decide +kernel⟩, List.mem_of_getElem? (i := 535) (by decide +kernel), List.mem_of_getElem? (i := 763) (by decide +kernel), List.mem_of_getElem? (i := 764) (by decide +kernel)⟩
theorem lw_p59 : lw_okq (⟨"PagedKernelModel", "block", "(I)V"⟩, 28) := ⟨⟨by decide +kernel, by decide +kernel⟩, List.mem_of_getElem? (i := 535) (by decide +kernel), List.mem_of_getElem? (i := 767) (by decide +kernel), List.mem_of_getElem? (i := 768) (by decide +kernel)⟩
theorem lw_p60 : lw_okq (⟨"PagedKernelModel", "more", "(I)I"⟩, 28) := ⟨⟨by decide +kernel, by decide +kernel⟩, List.mem_of_getElem? (i := 535) (by decide +kernel), List.mem_of_getElem? (i := 771) (by decide +kernel), List.mem_of_getElem? (i := 772) (by decide +kernel)⟩
theorem lw_p61 : lw_okq (⟨"PagedKernelModel", "descriptorOf", "(II)I"⟩, 28) := ⟨⟨by decide +kernel, by decide +kernel⟩, List.mem_of_getElem? (i := 535) (by decide +kernel), List.mem_of_getElem? (i := 775) (by decide +kernel), List.mem_of_getElem? (i := 776) (by decide +kernel)⟩
theorem lw_p62 : lw_okq (⟨"PagedKernelModel", "send", "(I)V"⟩, 28) := ⟨⟨by decide +kernel, by decide +kernel⟩, List.mem_of_getElem? (i := 535) (by decide +kernel), List.mem_of_getElem? (i := 779) (by decide +kernel), List.mem_of_getElem? (i := 780) (by decide +kernel)⟩
theorem lw_p63 : lw_okq (⟨"PagedKernelModel", "take", "(I)V"⟩, 28) := ⟨⟨by decide +kernel, by decide +kernel⟩, List.mem_of_getElem? (i := 535) (by decide +kernel), List.mem_of_getElem? (i := 783) (by decide +kernel), List.mem_of_getElem? (i := 784) (by decide +kernel)⟩
def lw_privs_4 : List (MethodName × Nat) := [(⟨"PagedKernelModel", "read", "()V"⟩, 28), (⟨"PagedKernelModel", "reach", "(III)Z"⟩, 28), (⟨"PagedKernelModel", "byteAt", "(II)I"⟩, 28), (⟨"PagedKernelModel", "write", "()V"⟩, 28), (⟨"PagedKernelModel", "putByte", "(III)V"⟩, 28), (⟨"PagedKernelModel", "compute", "(Z)V"⟩, 28), (⟨"PagedKernelModel", "call", "()V"⟩, 28), (⟨"PagedKernelModel", "leave", "(I)V"⟩, 28), (⟨"PagedKernelModel", "fork", "()I"⟩, 28), (⟨"PagedKernelModel", "waits", "()V"⟩, 28), (⟨"PagedKernelModel", "lostChild", "(I)I"⟩, 28), (⟨"PagedKernelModel", "block", "(I)V"⟩, 28), (⟨"PagedKernelModel", "more", "(I)I"⟩, 28), (⟨"PagedKernelModel", "descriptorOf", "(II)I"⟩, 28), (⟨"PagedKernelModel", "send", "(I)V"⟩, 28), (⟨"PagedKernelModel", "take", "(I)V"⟩, 28)]
theorem lw_r4 : ∀ q ∈ lw_privs_4, lw_okq q := List.forall_mem_cons.mpr ⟨lw_p48, List.forall_mem_cons.mpr ⟨lw_p49, List.forall_mem_cons.mpr ⟨lw_p50, List.forall_mem_cons.mpr ⟨lw_p51, List.forall_mem_cons.mpr ⟨lw_p52, List.forall_mem_cons.mpr ⟨lw_p53, List.forall_mem_cons.mpr ⟨lw_p54, List.forall_mem_cons.mpr ⟨lw_p55, List.forall_mem_cons.mpr ⟨lw_p56, List.forall_mem_cons.mpr ⟨lw_p57, List.forall_mem_cons.mpr ⟨lw_p58, List.forall_mem_cons.mpr ⟨lw_p59, List.forall_mem_cons.mpr ⟨lw_p60, List.forall_mem_cons.mpr ⟨lw_p61, List.forall_mem_cons.mpr ⟨lw_p62, List.forall_mem_cons.mpr ⟨lw_p63, fun _ h => absurd h List.not_mem_nil⟩⟩⟩⟩⟩⟩⟩⟩⟩⟩⟩⟩⟩⟩⟩⟩
theorem lw_p64 : lw_okq (⟨"PagedKernelModel", "pipe", "()V"⟩, 28) := ⟨⟨by decide +kernel, by decide +kernel⟩, List.mem_of_getElem? (i := 535) (by decide +kernel), List.mem_of_getElem? (i := 787) (by decide +kernel), List.mem_of_getElem? (i := 788) (by decide +kernel)⟩
theorem lw_p65 : lw_okq (⟨"PagedKernelModel", "freeDescriptor", "(I)I"⟩, 28) := ⟨⟨by decide +kernel, by decide +kernel⟩, List.mem_of_getElem? (i := 535) (by decide +kernel), List.mem_of_getElem? (i := 791) (by decide +kernel), List.mem_of_getElem? (i := 792) (by decide +kernel)⟩
theorem lw_p66 : lw_okq (⟨"PagedKernelModel", "close", "(I)I"⟩, 28) := ⟨⟨by decide +kernel, by decide +kernel⟩, List.mem_of_getElem? (i := 535) (by decide +kernel), List.mem_of_getElem? (i := 795) (by decide +kernel), List.mem_of_getElem? (i := 796) (by decide +kernel)⟩
theorem lw_p67 : lw_okq (⟨"PagedKernelModel", "duplicate", "(I)I"⟩, 28) := ⟨⟨by decide +kernel, by decide +kernel⟩, List.mem_of_getElem? (i := 535) (by decide +kernel), List.mem_of_getElem? (i := 799) (by decide +kernel), List.mem_of_getElem? (i := 800) (by decide +kernel)⟩
theorem lw_p68 : lw_okq (⟨"PagedKernelModel", "kill", "(I)V"⟩, 28) := ⟨⟨by decide +kernel, by decide +kernel⟩, List.mem_of_getElem? (i := 535) (by decide +kernel), List.mem_of_getElem? (i := 803) (by decide +kernel), List.mem_of_getElem? (i := 804) (by decide +kernel)⟩
theorem lw_p69 : lw_okq (⟨"PagedKernelModel", "mayGo", "(I)Z"⟩, 28) := ⟨⟨by decide +kernel, by decide +kernel⟩, List.mem_of_getElem? (i := 535) (by decide +kernel), List.mem_of_getElem? (i := 808) (by decide +kernel), List.mem_of_getElem? (i := 809) (by decide +kernel)⟩
theorem lw_p70 : lw_okq (⟨"PagedKernelModel", "is", "(I)Z"⟩, 28) := ⟨⟨by decide +kernel, by decide +kernel⟩, List.mem_of_getElem? (i := 535) (by decide +kernel), List.mem_of_getElem? (i := 825) (by decide +kernel), List.mem_of_getElem? (i := 826) (by decide +kernel)⟩
def lw_privs_5 : List (MethodName × Nat) := [(⟨"PagedKernelModel", "pipe", "()V"⟩, 28), (⟨"PagedKernelModel", "freeDescriptor", "(I)I"⟩, 28), (⟨"PagedKernelModel", "close", "(I)I"⟩, 28), (⟨"PagedKernelModel", "duplicate", "(I)I"⟩, 28), (⟨"PagedKernelModel", "kill", "(I)V"⟩, 28), (⟨"PagedKernelModel", "mayGo", "(I)Z"⟩, 28), (⟨"PagedKernelModel", "is", "(I)Z"⟩, 28)]
theorem lw_r5 : ∀ q ∈ lw_privs_5, lw_okq q := List.forall_mem_cons.mpr ⟨lw_p64, List.forall_mem_cons.mpr ⟨lw_p65, List.forall_mem_cons.mpr ⟨lw_p66, List.forall_mem_cons.mpr ⟨lw_p67, List.forall_mem_cons.mpr ⟨lw_p68, List.forall_mem_cons.mpr ⟨lw_p69, List.forall_mem_cons.mpr ⟨lw_p70, fun _ h => absurd h List.not_mem_nil⟩⟩⟩⟩⟩⟩⟩
def lw_privs : List (MethodName × Nat) := lw_privs_1 ++ (lw_privs_2 ++ (lw_privs_3 ++ (lw_privs_4 ++ (lw_privs_5))))
def lw_tbl : List Cond := k2_sels lw_privs ++ tables_1
theorem lw_privs_ok : ∀ q ∈ lw_privs, lw_okq q := by
  show ∀ q ∈ lw_privs_1 ++ (lw_privs_2 ++ (lw_privs_3 ++ (lw_privs_4 ++ (lw_privs_5)))), lw_okq q
  exact List.forall_mem_append.mpr ⟨lw_r1, List.forall_mem_append.mpr ⟨lw_r2, List.forall_mem_append.mpr ⟨lw_r3, List.forall_mem_append.mpr ⟨lw_r4, lw_r5⟩⟩⟩⟩
end
section
/-! ===== names, fields, words: written by program ===== -/
abbrev R_K : String := "PagedKernel"
abbrev R_MEM : String := "PagedKernel$Memory"
abbrev R_T : String := "PagedKernel$Task"
abbrev R_P : String := "PagedKernel$Pipe"
abbrev R_ROW : String := "PagedKernel$Row"
abbrev R_X : String := "PagedKernel$Machine"
abbrev R_MOD : String := "PagedKernelModel"
abbrev R_LAW : String := "PagedKernelLaw"
abbrev R_Task : String := R_T
abbrev R_Pipe : String := R_P
def F_K : u_T := fun k => match k with
  | 0 => ("PagedKernel", "memory", "LPagedKernel$Memory;", true)
  | 1 => ("PagedKernel", "tasks", "[LPagedKernel$Task;", true)
  | 2 => ("PagedKernel", "pipes", "[LPagedKernel$Pipe;", true)
  | 3 => ("PagedKernel", "row", "LPagedKernel$Row;", true)
  | 4 => ("PagedKernel", "quantum", "I", true)
  | 5 => ("PagedKernel", "program", "[I", true)
  | 6 => ("PagedKernel", "printed", "[I", true)
  | 7 => ("PagedKernel", "programLength", "I", false)
  | 8 => ("PagedKernel", "printedLength", "I", false)
  | 9 => ("PagedKernel", "booted", "Z", false)
  | 10 => ("PagedKernel", "turn", "I", false)
  | 11 => ("PagedKernel", "stepsLeft", "I", false)
  | _ => ("PagedKernel", "yielded", "Z", false)
def ft_K : Nat → FieldType := fun k => match k with
  | 0 => .object "PagedKernel$Memory"
  | 1 => .array (.object "PagedKernel$Task")
  | 2 => .array (.object "PagedKernel$Pipe")
  | 3 => .object "PagedKernel$Row"
  | 4 => .int
  | 5 => .array .int
  | 6 => .array .int
  | 7 => .int
  | 8 => .int
  | 9 => .boolean
  | 10 => .int
  | 11 => .int
  | _ => .boolean
def F_MEM : u_T := fun k => match k with
  | 0 => ("PagedKernel$Memory", "words", "[I", true)
  | 1 => ("PagedKernel$Memory", "used", "[Z", true)
  | _ => ("PagedKernel$Memory", "unused", "I", false)
def ft_MEM : Nat → FieldType := fun k => match k with
  | 0 => .array .int
  | 1 => .array .boolean
  | _ => .int
def F_T : u_T := fun k => match k with
  | 0 => ("PagedKernel$Task", "number", "I", true)
  | 1 => ("PagedKernel$Task", "registers", "[I", true)
  | 2 => ("PagedKernel$Task", "frames", "[I", true)
  | 3 => ("PagedKernel$Task", "descriptors", "[I", true)
  | 4 => ("PagedKernel$Task", "pageCount", "I", false)
  | 5 => ("PagedKernel$Task", "state", "I", false)
  | 6 => ("PagedKernel$Task", "counter", "I", false)
  | 7 => ("PagedKernel$Task", "parent", "I", false)
  | _ => ("PagedKernel$Task", "exit", "I", false)
def ft_T : Nat → FieldType := fun k => match k with
  | 0 => .int
  | 1 => .array .int
  | 2 => .array .int
  | 3 => .array .int
  | 4 => .int
  | 5 => .int
  | 6 => .int
  | 7 => .int
  | _ => .int
def F_P : u_T := fun k => match k with
  | 0 => ("PagedKernel$Pipe", "bytes", "[I", true)
  | 1 => ("PagedKernel$Pipe", "first", "I", false)
  | _ => ("PagedKernel$Pipe", "count", "I", false)
def ft_P : Nat → FieldType := fun k => match k with
  | 0 => .array .int
  | 1 => .int
  | _ => .int
def F_ROW : u_T := fun k => match k with
  | 0 => ("PagedKernel$Row", "numbers", "[I", true)
  | _ => ("PagedKernel$Row", "size", "I", false)
def ft_ROW : Nat → FieldType := fun k => match k with
  | 0 => .array .int
  | _ => .int
def F_MOD : u_T := fun k => match k with
  | 0 => ("PagedKernelModel", "frames", "I", false)
  | 1 => ("PagedKernelModel", "quantum", "I", false)
  | 2 => ("PagedKernelModel", "memory", "[I", true)
  | 3 => ("PagedKernelModel", "holder", "[I", true)
  | 4 => ("PagedKernelModel", "loaded", "I", false)
  | 5 => ("PagedKernelModel", "program", "[I", true)
  | 6 => ("PagedKernelModel", "booted", "Z", false)
  | 7 => ("PagedKernelModel", "state", "[I", true)
  | 8 => ("PagedKernelModel", "exit", "[I", true)
  | 9 => ("PagedKernelModel", "parent", "[I", true)
  | 10 => ("PagedKernelModel", "at", "[I", true)
  | 11 => ("PagedKernelModel", "size", "[I", true)
  | 12 => ("PagedKernelModel", "x", "[I", true)
  | 13 => ("PagedKernelModel", "page", "[I", true)
  | 14 => ("PagedKernelModel", "ends", "[I", true)
  | 15 => ("PagedKernelModel", "many", "I", false)
  | 16 => ("PagedKernelModel", "row", "[I", true)
  | 17 => ("PagedKernelModel", "turn", "I", false)
  | 18 => ("PagedKernelModel", "used", "I", false)
  | 19 => ("PagedKernelModel", "yields", "Z", false)
  | 20 => ("PagedKernelModel", "bytes", "[I", true)
  | 21 => ("PagedKernelModel", "count", "[I", true)
  | 22 => ("PagedKernelModel", "shown", "I", false)
  | 23 => ("PagedKernelModel", "screen", "[I", true)
  | 24 => ("PagedKernelModel", "me", "I", false)
  | 25 => ("PagedKernelModel", "w", "I", false)
  | 26 => ("PagedKernelModel", "next", "I", false)
  | _ => ("PagedKernelModel", "goes", "Z", false)
def ft_MOD : Nat → FieldType := fun k => match k with
  | 0 => .int
  | 1 => .int
  | 2 => .array .int
  | 3 => .array .int
  | 4 => .int
  | 5 => .array .int
  | 6 => .boolean
  | 7 => .array .int
  | 8 => .array .int
  | 9 => .array .int
  | 10 => .array .int
  | 11 => .array .int
  | 12 => .array .int
  | 13 => .array .int
  | 14 => .array .int
  | 15 => .int
  | 16 => .array .int
  | 17 => .int
  | 18 => .int
  | 19 => .boolean
  | 20 => .array .int
  | 21 => .array .int
  | 22 => .int
  | 23 => .array .int
  | 24 => .int
  | 25 => .int
  | 26 => .int
  | _ => .boolean
def cls : List vw_C := [(R_K, F_K, 13), (R_MEM, F_MEM, 3), (R_T, F_T, 9), (R_P, F_P, 3), (R_ROW, F_ROW, 2), (R_MOD, F_MOD, 28)]
def tyT : Nat → Nat → FieldType := fun ci => match ci with
  | 0 => ft_K
  | 1 => ft_MEM
  | 2 => ft_T
  | 3 => ft_P
  | 4 => ft_ROW
  | _ => ft_MOD
/-- the words that go along into every callee -/
def gw : List Cond := lw_tbl.filter goodWord
theorem gw_at (i : Nat) {w : Cond} (h : lw_tbl[i]? = some w) (hg : goodWord w = true) : w ∈ gw := List.mem_filter.mpr ⟨List.mem_of_getElem? h, hg⟩
theorem ci_K : ∀ w ∈ u_ws R_K F_K 13, w ∈ gw := by decide +kernel
theorem ci_MEM : ∀ w ∈ u_ws R_MEM F_MEM 3, w ∈ gw := by decide +kernel
theorem ci_T : ∀ w ∈ u_ws R_T F_T 9, w ∈ gw := by decide +kernel
theorem ci_P : ∀ w ∈ u_ws R_P F_P 3, w ∈ gw := by decide +kernel
theorem ci_ROW : ∀ w ∈ u_ws R_ROW F_ROW 2, w ∈ gw := by decide +kernel
theorem ci_MOD : ∀ w ∈ u_ws R_MOD F_MOD 28, w ∈ gw := by decide +kernel
theorem cls_in : ∀ (ci : Nat) (q : vw_C), cls[ci]? = some q → ∀ w ∈ u_ws q.1 q.2.1 q.2.2, w ∈ gw := by
  intro ci q hq
  match ci, hq with
  | 0, hq => cases hq; exact ci_K
  | 1, hq => cases hq; exact ci_MEM
  | 2, hq => cases hq; exact ci_T
  | 3, hq => cases hq; exact ci_P
  | 4, hq => cases hq; exact ci_ROW
  | 5, hq => cases hq; exact ci_MOD
  | k + 6, hq => simp [cls] at hq
theorem cls_ty : ∀ (ci : Nat) (q : vw_C), cls[ci]? = some q → ∀ k, k < q.2.2 → parseFieldDescriptor (q.2.1 k).2.2.1 = some (tyT ci k) := by
  intro ci q hq
  match ci, hq with
  | 0, hq => cases hq; decide +kernel
  | 1, hq => cases hq; decide +kernel
  | 2, hq => cases hq; decide +kernel
  | 3, hq => cases hq; decide +kernel
  | 4, hq => cases hq; decide +kernel
  | 5, hq => cases hq; decide +kernel
  | k + 6, hq => simp [cls] at hq
theorem cls_nm : ∀ (ci : Nat) (q : vw_C), cls[ci]? = some q → ∀ a, a < q.2.2 → ∀ b, b < q.2.2 → a ≠ b → (q.2.1 a).2.1 ≠ (q.2.1 b).2.1 := by
  intro ci q hq
  match ci, hq with
  | 0, hq => cases hq; decide +kernel
  | 1, hq => cases hq; decide +kernel
  | 2, hq => cases hq; decide +kernel
  | 3, hq => cases hq; decide +kernel
  | 4, hq => cases hq; decide +kernel
  | 5, hq => cases hq; decide +kernel
  | k + 6, hq => simp [cls] at hq
theorem cls_df : ∀ (ci : Nat) (q : vw_C), cls[ci]? = some q → ∀ k, k < q.2.2 → defaultValue (tyT ci k) = if refKind (tyT ci k) = true then .null else .int 0 := by
  intro ci q hq
  match ci, hq with
  | 0, hq => cases hq; decide +kernel
  | 1, hq => cases hq; decide +kernel
  | 2, hq => cases hq; decide +kernel
  | 3, hq => cases hq; decide +kernel
  | 4, hq => cases hq; decide +kernel
  | 5, hq => cases hq; decide +kernel
  | k + 6, hq => simp [cls] at hq
end
section
/-! ===== the machine layer: worlds by number, Ev (from here the method comes to its end with Q), Mt (a method's contract) ===== -/
abbrev iV : Type := Int32 ⊕ (Option Nat ⊕ (Int64 ⊕ Unit))
abbrev vI (x : Int32) : iV := Sum.inl x
abbrev vQ (r : Option Nat) : iV := Sum.inr (Sum.inl r)
abbrev vR (k : Nat) : iV := Sum.inr (Sum.inl (some k))
abbrev vN : iV := Sum.inr (Sum.inl none)
abbrev vL (x : Int64) : iV := Sum.inr (Sum.inr (Sum.inl x))
abbrev vS : iV := Sum.inr (Sum.inr (Sum.inr ()))
abbrev iH : Type := List (Nat × Nat) × (Nat → Nat → Int32) × (Nat → Nat → Option Nat)
abbrev iM : Type := MethodName × ByteArray × Nat × Option FieldType
abbrev iG : Type := va_G × (Nat → ClassId) × Nat × Nat × Nat × (Nat → Int32)
def iw_b (G : iG) (r : Option Nat) : Option Nat := match r with
  | none => none
  | some k => some (G.2.2.1 + k)
def tv (G : iG) (v : iV) : Value := match v with
  | .inl x => .int x
  | .inr (.inl r) => va_rf (iw_b G r)
  | .inr (.inr (.inl x)) => .long x
  | .inr (.inr (.inr _)) => .ref G.2.2.2.1
def ct (v : iV) : Nat := match v with
  | .inr (.inr (.inl _)) => 2
  | _ => 1
def rv (v : iV) : Bool := match v with
  | .inl _ => false
  | .inr (.inl _) => true
  | .inr (.inr (.inl _)) => false
  | .inr (.inr (.inr _)) => true
theorem tv_ct (G : iG) (v : iV) : (tv G v).category = ct v := by
  rcases v with x | r | x | u
  · rfl
  · cases r <;> rfl
  · rfl
  · rfl
/-- is field j of class ci a reference -/
def rf (ci j : Nat) : Bool := refKind (tyT ci j)
def fv (G : iG) (h : iH) (k ci j : Nat) : Value := if rf ci j = true then va_rf (iw_b G (h.2.2 k j)) else .int (h.2.1 k j)
/-- the cell number k: 0 int[], 1 boolean[], 2 Task[], 3 Pipe[], from 4 on an object of class ci -/
def en (G : iG) (h : iH) (k : Nat) (kn : Nat × Nat) : va_E := match kn.1 with
  | 0 => .inl (G.2.1 0, kn.2, .inl (h.2.1 k))
  | 1 => .inl (G.2.1 1, kn.2, .inl (h.2.1 k))
  | 2 => .inl (G.2.1 2, kn.2, .inr (.inr (.inr (.inr fun j => iw_b G (h.2.2 k j)))))
  | 3 => .inl (G.2.1 3, kn.2, .inr (.inr (.inr (.inr fun j => iw_b G (h.2.2 k j)))))
  | ci + 4 => .inr (ci, (List.range kn.2).map (fun j => fv G h k ci j))
def wh (G : iG) (h : iH) : va_W := h.1.mapIdx (fun k kn => (G.2.2.1 + k, en G h k kn))
theorem wh_at {G : iG} {h : iH} {k : Nat} {kn : Nat × Nat} (hk : h.1[k]? = some kn) : (wh G h)[k]? = some (G.2.2.1 + k, en G h k kn) := by
  simp [wh, hk]
theorem wh_of {G : iG} {h : iH} {k : Nat} {q : Nat × va_E} (hq : (wh G h)[k]? = some q) : ∃ kn, h.1[k]? = some kn ∧ q = (G.2.2.1 + k, en G h k kn) := by
  rw [wh, List.getElem?_mapIdx] at hq
  cases hk : h.1[k]? with
  | none => rw [hk] at hq; cases hq
  | some kn => rw [hk] at hq; exact ⟨kn, rfl, (Option.some.inj hq).symm⟩
theorem wh_D (G : iG) (h : iH) : va_D (fun q => G.2.2.1 ≤ q) (wh G h) := by
  refine ⟨fun i j p q hp hq e => ?_, fun k q hq => ?_⟩
  · obtain ⟨a, -, rfl⟩ := wh_of hp
    obtain ⟨b, -, rfl⟩ := wh_of hq
    have e : G.2.2.1 + i = G.2.2.1 + j := e
    omega
  · obtain ⟨a, -, rfl⟩ := wh_of hq
    exact Nat.le_add_right _ _
theorem wh_set {G : iG} {h h' : iH} {k : Nat} {kn : Nat × Nat} {e : va_E} (h1 : h'.1 = h.1) (hk : h.1[k]? = some kn) (he : en G h' k kn = e) (ho : ∀ i kn', i ≠ k → h.1[i]? = some kn' → en G h' i kn' = en G h i kn') : (wh G h).set k (G.2.2.1 + k, e) = wh G h' := by
  apply List.ext_getElem?
  intro i
  by_cases hik : k = i
  · subst hik
    have hlt : k < (wh G h).length := by
      rw [wh, List.length_mapIdx]
      exact (List.getElem?_eq_some_iff.mp hk).1
    rw [List.getElem?_set_self hlt, wh_at (h1 ▸ hk), he]
  · rw [List.getElem?_set_ne hik, wh, wh, List.getElem?_mapIdx, List.getElem?_mapIdx, h1]
    cases hi : h.1[i]? with
    | none => rfl
    | some kn' =>
      show some (_, _) = some (_, _)
      rw [ho i kn' (fun q => hik q.symm) hi]
/-- σ with x at (k, j) -/
def up2 (σ : Nat → Nat → Int32) (k j : Nat) (x : Int32) : Nat → Nat → Int32 := fun k' j' => if k' = k ∧ j' = j then x else σ k' j'
def up3 (ρ : Nat → Nat → Option Nat) (k j : Nat) (x : Option Nat) : Nat → Nat → Option Nat := fun k' j' => if k' = k ∧ j' = j then x else ρ k' j'
theorem up2_self (σ : Nat → Nat → Int32) (k j : Nat) (x : Int32) : up2 σ k j x k = upd (σ k) j x := by
  funext j'
  simp [up2, upd]
theorem up2_ne (σ : Nat → Nat → Int32) {k i : Nat} (j : Nat) (x : Int32) (h : i ≠ k) : up2 σ k j x i = σ i := by
  funext j'
  simp [up2, h]
theorem up3_ne (ρ : Nat → Nat → Option Nat) {k i : Nat} (j : Nat) (x : Option Nat) (h : i ≠ k) : up3 ρ k j x i = ρ i := by
  funext j'
  simp [up3, h]
theorem en_ne {G : iG} {h h' : iH} {i : Nat} (e1 : h'.2.1 i = h.2.1 i) (e2 : h'.2.2 i = h.2.2 i) (kn : Nat × Nat) : en G h' i kn = en G h i kn := by
  obtain ⟨a, n⟩ := kn
  have e3 : ∀ ci j, fv G h' i ci j = fv G h i ci j := fun ci j => by unfold fv; rw [e1, e2]
  match a with
  | 0 => show Sum.inl (_, _, _) = Sum.inl (_, _, _); rw [e1]
  | 1 => show Sum.inl (_, _, _) = Sum.inl (_, _, _); rw [e1]
  | 2 => show Sum.inl (_, _, _) = Sum.inl (_, _, _); rw [e2]
  | 3 => show Sum.inl (_, _, _) = Sum.inl (_, _, _); rw [e2]
  | ci + 4 => show Sum.inr (_, _) = Sum.inr (_, _); simp only [e3]
theorem wh_set_i {G : iG} {h : iH} {k j n : Nat} {x : Int32} {a : Nat} (ha : a = 0 ∨ a = 1) (hk : h.1[k]? = some (a, n)) : (wh G h).set k (G.2.2.1 + k, .inl (G.2.1 a, n, .inl (upd (h.2.1 k) j x))) = wh G (h.1, up2 h.2.1 k j x, h.2.2) := by
  refine wh_set (h' := (h.1, up2 h.2.1 k j x, h.2.2)) (kn := (a, n)) rfl hk ?_ (fun i kn' hi _ => en_ne (h := h) (h' := (h.1, up2 h.2.1 k j x, h.2.2)) (up2_ne _ _ _ hi) rfl kn')
  rcases ha with rfl | rfl <;> (show Sum.inl (_, _, _) = Sum.inl (_, _, _); rw [show (h.1, up2 h.2.1 k j x, h.2.2).2.1 k = _ from up2_self _ _ _ _])
theorem wh_set_q {G : iG} {h : iH} {k j n : Nat} {x : Option Nat} {a : Nat} (ha : a = 2 ∨ a = 3) (hk : h.1[k]? = some (a, n)) : (wh G h).set k (G.2.2.1 + k, .inl (G.2.1 a, n, .inr (.inr (.inr (.inr (va_up (fun j => iw_b G (h.2.2 k j)) j (iw_b G x))))))) = wh G (h.1, h.2.1, up3 h.2.2 k j x) := by
  have e : (fun j' => iw_b G (up3 h.2.2 k j x k j')) = va_up (fun j => iw_b G (h.2.2 k j)) j (iw_b G x) := by
    funext j'
    by_cases hj : j' = j <;> simp [up3, va_up, hj]
  refine wh_set (h' := (h.1, h.2.1, up3 h.2.2 k j x)) (kn := (a, n)) rfl hk ?_ (fun i kn' hi _ => en_ne (h := h) (h' := (h.1, h.2.1, up3 h.2.2 k j x)) rfl (up3_ne _ _ _ hi) kn')
  rcases ha with rfl | rfl <;> (show Sum.inl (_, _, _) = Sum.inl (_, _, _); rw [← e])
theorem fv_map_set {G : iG} {h h' : iH} {k ci j n : Nat} {v : Value} (hv : fv G h' k ci j = v) (ho : ∀ j', j' ≠ j → fv G h' k ci j' = fv G h k ci j') : ((List.range n).map (fun j => fv G h k ci j)).set j v = (List.range n).map (fun j => fv G h' k ci j) := by
  apply List.ext_getElem?
  intro i
  by_cases hij : j = i
  · subst hij
    by_cases hn : j < n
    · rw [List.getElem?_set_self (by simpa using hn)]
      simp [hn, hv]
    · simp [hn]
  · rw [List.getElem?_set_ne hij]
    by_cases hn : i < n
    · simp [hn, ho i (fun q => hij q.symm)]
    · simp [hn]
theorem wh_set_fi {G : iG} {h : iH} {k ci j n : Nat} {x : Int32} (hr : rf ci j = false) (hk : h.1[k]? = some (ci + 4, n)) : (wh G h).set k (G.2.2.1 + k, .inr (ci, ((List.range n).map (fun j => fv G h k ci j)).set j (.int x))) = wh G (h.1, up2 h.2.1 k j x, h.2.2) := by
  refine wh_set (h' := (h.1, up2 h.2.1 k j x, h.2.2)) (kn := (ci + 4, n)) rfl hk ?_ (fun i kn' hi _ => en_ne (h := h) (h' := (h.1, up2 h.2.1 k j x, h.2.2)) (up2_ne _ _ _ hi) rfl kn')
  show Sum.inr (_, _) = Sum.inr (_, _)
  rw [fv_map_set (h' := (h.1, up2 h.2.1 k j x, h.2.2)) (by simp [fv, hr, up2]) (fun j' hj => by simp [fv, up2, hj])]
theorem wh_set_fq {G : iG} {h : iH} {k ci j n : Nat} {x : Option Nat} (hr : rf ci j = true) (hk : h.1[k]? = some (ci + 4, n)) : (wh G h).set k (G.2.2.1 + k, .inr (ci, ((List.range n).map (fun j => fv G h k ci j)).set j (va_rf (iw_b G x)))) = wh G (h.1, h.2.1, up3 h.2.2 k j x) := by
  refine wh_set (h' := (h.1, h.2.1, up3 h.2.2 k j x)) (kn := (ci + 4, n)) rfl hk ?_ (fun i kn' hi _ => en_ne (h := h) (h' := (h.1, h.2.1, up3 h.2.2 k j x)) rfl (up3_ne _ _ _ hi) kn')
  show Sum.inr (_, _) = Sum.inr (_, _)
  rw [fv_map_set (h' := (h.1, h.2.1, up3 h.2.2 k j x)) (by simp [fv, hr, up3]) (fun j' hj => by simp [fv, up3, hj])]
/-- what the tables say -/
def tl (G : iG) : List (ClassId × FieldType) := [(G.2.1 0, .int), (G.2.1 1, .boolean), (G.2.1 2, .object R_Task), (G.2.1 3, .object R_Pipe)]
abbrev yN_P : MethodName := ⟨"PagedKernel$Pipe", "<init>", "()V"⟩
abbrev yN_R : MethodName := ⟨"PagedKernel$Row", "<init>", "()V"⟩
def KK (G : iG) (U : State) : Prop := va_K G.1 cls (tl G) U ∧ va_AO R_Task U ∧ va_AO R_Pipe U ∧ va_Nw (.methodLinkNest "PagedKernel" 39 yN_P "PagedKernel") U ∧ va_Nw (.methodLinkNest "PagedKernel" 42 yN_R "PagedKernel") U
theorem KK.warm {G : iG} {u U : State} (hW : u.WarmedH U.vm) (h : KK G u) : KK G U := ⟨va_K.moved hW.alike h.1, va_AO.moved hW.alike h.2.1, va_AO.moved hW.alike h.2.2.1, h.2.2.2.1.warmM hW, h.2.2.2.2.warmM hW⟩
theorem KK.same {G : iG} {u U : State} (hvm : u.vm = U.vm) (h : KK G u) : KK G U := ⟨va_K.moved (by rw [hvm]; exact Vm.Alike.refl _) h.1, va_AO.moved (by rw [hvm]; exact Vm.Alike.refl _) h.2.1, va_AO.moved (by rw [hvm]; exact Vm.Alike.refl _) h.2.2.1, h.2.2.2.1.same rfl hvm, h.2.2.2.2.same rfl hvm⟩
def Wd (G : iG) (h : iH) (H : Heap) : Prop := va_P G.1 cls (wh G h) H
def Xs (G : iG) (U : State) (H : Heap) : Prop := va_X G.2.2.2.1 G.2.2.2.2.1 G.2.2.2.2.2 U H ∧ G.2.2.2.1 < G.2.2.1
theorem Xs.moved {G : iG} {u U : State} {H : Heap} (hvm : u.vm.Alike U.vm) (w : Xs G u H) : Xs G U H := ⟨w.1.moved hvm, w.2⟩
/-- the locals -/
def lz (G : iG) : Nat → List (Option iV) → List (Nat × Value)
  | _, [] => []
  | i, none :: r => lz G (i + 1) r
  | i, some v :: r => (i, tv G v) :: lz G (i + 1) r
theorem lz_mem {G : iG} : ∀ (Ls : List (Option iV)) (j i : Nat) (v : iV), Ls[i]? = some (some v) → (j + i, tv G v) ∈ lz G j Ls
  | [], j, i, v, h => by simp at h
  | none :: r, j, 0, v, h => by simp at h
  | none :: r, j, i + 1, v, h => by
    have := lz_mem (G := G) r (j + 1) i v (by simpa using h)
    rw [show j + (i + 1) = j + 1 + i by omega]
    exact this
  | some w :: r, j, 0, v, h => by
    have h : w = v := by simpa using h
    subst h
    exact List.mem_cons_self
  | some w :: r, j, i + 1, v, h => by
    have := lz_mem (G := G) r (j + 1) i v (by simpa using h)
    rw [show j + (i + 1) = j + 1 + i by omega]
    exact List.mem_cons_of_mem _ this
theorem lz_of {G : iG} : ∀ (Ls : List (Option iV)) (j : Nat) (q : Nat × Value), q ∈ lz G j Ls → ∃ i v, q = (j + i, tv G v) ∧ Ls[i]? = some (some v)
  | [], j, q, h => by cases h
  | none :: r, j, q, h => by
    obtain ⟨i, v, h1, h2⟩ := lz_of r (j + 1) q h
    exact ⟨i + 1, v, by rw [h1, show j + (i + 1) = j + 1 + i by omega], by simpa using h2⟩
  | some w :: r, j, q, h => by
    rcases List.mem_cons.mp h with h | h
    · exact ⟨0, w, h, rfl⟩
    · obtain ⟨i, v, h1, h2⟩ := lz_of r (j + 1) q h
      exact ⟨i + 1, v, by rw [h1, show j + (i + 1) = j + 1 + i by omega], by simpa using h2⟩
def lh (G : iG) (ls : Array Slot) (nL : Nat) (Ls : List (Option iV)) : Prop := lv_has ls nL (lz G 0 Ls) ∧ ∀ v, some v ∈ Ls → ct v = 1
theorem lh_at {G : iG} {ls : Array Slot} {nL : Nat} {Ls : List (Option iV)} {i : Nat} {v : iV} (hl : lh G ls nL Ls) (hi : Ls[i]? = some (some v)) : ls[i]? = some (.val (tv G v)) := by
  have := hl.1.2.2 _ (lz_mem Ls 0 i v hi)
  simpa using this
theorem lh_st {G : iG} {ls ls' : Array Slot} {nL : Nat} {Ls : List (Option iV)} {i : Nat} {v : iV} (hl : lh G ls nL Ls) (hv : ct v = 1)
    (h' : lv_has ls' nL ((i, tv G v) :: (lz G 0 Ls).filter (fun q => !(q.1 == i) && !(q.1 + 1 == i && q.2.category == 2)))) : lh G ls' nL (Ls.set i (some v)) := by
  refine ⟨⟨h'.1, h'.2.1, fun q hq => ?_⟩, fun w hw => ?_⟩
  · obtain ⟨j, w, e1, e2⟩ := lz_of _ 0 q hq
    by_cases hij : i = j
    · subst hij
      have hlt : i < Ls.length := by
        have := (List.getElem?_eq_some_iff.mp e2).1
        simpa using this
      rw [List.getElem?_set_self hlt] at e2
      have : v = w := by simpa using e2
      subst this
      rw [e1, show 0 + i = i by omega]
      exact h'.2.2 _ List.mem_cons_self
    · rw [List.getElem?_set_ne hij] at e2
      have hm := lz_mem (G := G) Ls 0 j w e2
      rw [← e1] at hm
      refine h'.2.2 q (List.mem_cons_of_mem _ (List.mem_filter.mpr ⟨hm, ?_⟩))
      have hc : q.2.category = 1 := by rw [e1]; exact (tv_ct G w).trans (hl.2 w (List.mem_of_getElem? e2))
      have hq1 : q.1 ≠ i := by rw [e1]; show 0 + j ≠ i; omega
      simp [hc, hq1]
  · rcases List.mem_or_eq_of_mem_set hw with h | h
    · exact hl.2 w h
    · cases h; exact hv
/-- what stands at a method's end -/
def Rt (m : iM) (pc : Nat) (r : Option iV) : Prop :=
  (∃ x, r = some (vI x) ∧ decode m.2.1 pc = .ok (.ireturn, 1) ∧ (m.2.2.2 = some .int ∨ (m.2.2.2 = some .boolean ∧ (x = 0 ∨ x = 1)))) ∨
  (∃ q, r = some (vQ q) ∧ decode m.2.1 pc = .ok (.areturn, 1) ∧ ∃ C, m.2.2.2 = some (.object C)) ∨
  (r = none ∧ decode m.2.1 pc = .ok (.return_, 1) ∧ m.2.2.2 = none)
def Cx (G : iG) (m : iM) (d : Nat) (p : Program) (R : Room) (s : State) (mid : MethodId) (args : Array Value) (meth : Method) (c : Code) : Prop :=
  p.tables.exec = Jvm.exec ∧ c.code = m.2.1 ∧ c.maxLocals = m.2.2.1 ∧ s.vm.findClass m.1.cls = some mid.cls ∧ (∀ w ∈ gw, w.before args s = true) ∧ KK G s ∧ Xs G s s.heap ∧ G.2.2.1 ≤ s.heap.size ∧ d ≤ R.frames ∧ 36 * d ≤ R.locals ∧ meth.name = m.1.name
abbrev gA (G : iG) : Nat → Prop := fun q => G.2.2.1 ≤ q
def Ev (G : iG) (m : iM) (d ac az pc : Nat) (Ls : List (Option iV)) (st : List iV) (h : iH) (Q : Option iV → iH → Prop) : Prop :=
  ∀ (p : Program) (l : Launch) (e : Env) (R : Room) (s : State) (mid : MethodId) (args : Array Value) (below : List Frame) (meth : Method) (c : Code) (H : Heap) (locs : List Loc) (cells slots : Nat) (Z : State → Prop) (ls : Array Slot),
    Cx G m d p R s mid args meth c → Wd G h H → s.heap.size + cells = G.2.2.1 + h.1.length → va_S (gA G) s.heap H locs → lh G ls m.2.2.1 Ls → cells + ac ≤ R.cells → slots + az ≤ R.slots →
    (∀ (H' : Heap) (locs' : List Loc) (slots' : Nat) (r : Option iV) (h' : iH) (pc' : Nat) (ls' : Array Slot), Q r h' → Wd G h' H' → s.heap.size + (cells + ac) = G.2.2.1 + h'.1.length → va_S (gA G) s.heap H' locs' → slots' ≤ slots + az → Rt m pc' r → W p l e R s mid args below meth c H' locs' (cells + ac) slots' Z (F0 mid pc' ls' (r.toList.map (tv G)))) →
    W p l e R s mid args below meth c H locs cells slots Z (F0 mid pc ls (st.map (tv G)))
def mw (m : iM) : List Cond := .code m.1 m.2.1 m.2.2.1 m.2.2.2 :: gw
def rm (d ac az : Nat) : Room := { frames := d, cells := ac, slots := az, locals := 36 * d }
def Pm (G : iG) (h : iH) (U : State) : Prop := Wd G h U.heap ∧ U.heap.size = G.2.2.1 + h.1.length ∧ Xs G U U.heap ∧ KK G U
def Qm (G : iG) (ac : Nat) (h : iH) (Q : Option iV → iH → Prop) (st : State) (oc : Outcome) (t : State) : Prop :=
  (∃ (r : Option iV) (h' : iH), oc = .returned (r.map (tv G)) ∧ Q r h' ∧ Wd G h' t.heap ∧ h'.1.length = h.1.length + ac) ∧ va_F (gA G) st t
def Mt (G : iG) (m : iM) (d ac az : Nat) (As : List iV) (h : iH) (Q : Option iV → iH → Prop) : Prop :=
  ∀ l : Launch, Met l m.1 (mw m) (rm d ac az) (va_Pc (As.map (tv G)) (Pm G h)) (fun _ st oc t => Qm G ac h Q st oc t) ac az (gA G)
theorem Ev.mono {G : iG} {m : iM} {d ac az pc : Nat} {Ls : List (Option iV)} {st : List iV} {h : iH} {Q Q' : Option iV → iH → Prop} (k : Ev G m d ac az pc Ls st h Q) (hq : ∀ r h', Q r h' → Q' r h') : Ev G m d ac az pc Ls st h Q' :=
  fun p l e R s mid args below meth c H locs cells slots Z ls a1 a2 a3 a4 a5 a6 a7 a8 => k p l e R s mid args below meth c H locs cells slots Z ls a1 a2 a3 a4 a5 a6 a7 (fun H' locs' slots' r h' pc' ls' b1 => a8 H' locs' slots' r h' pc' ls' (hq r h' b1))
theorem lg_len (G : iG) : ∀ As : List iV, (∀ v ∈ As, ct v = 1) → (lg_sl (As.map (tv G))).length = As.length
  | [], _ => rfl
  | v :: As, h => by
    have h1 : (tv G v).category = 1 := (tv_ct G v).trans (h v List.mem_cons_self)
    have ih := lg_len G As (fun w hw => h w (List.mem_cons_of_mem _ hw))
    simp only [lg_sl, List.map_cons, List.flatMap_cons, h1] at ih ⊢
    simp [ih]
theorem lv_args_of (G : iG) : ∀ (As : List iV) (j : Nat) (n : Nat), (∀ v ∈ As, ct v = 1) → ∀ q ∈ lz G j (As.map some ++ List.replicate n none), q ∈ lv_args j (As.map (tv G))
  | [], j, n, _, q, hq => by
    obtain ⟨i, v, -, h2⟩ := lz_of _ j q hq
    have h3 := List.mem_of_getElem? h2
    simp at h3
  | v :: As, j, n, h, q, hq => by
    have h1 : (tv G v).category = 1 := (tv_ct G v).trans (h v List.mem_cons_self)
    have e : lv_args j ((v :: As).map (tv G)) = (j, tv G v) :: lv_args (j + 1) (As.map (tv G)) := by
      simp [lv_args, h1]
    rw [e]
    rcases List.mem_cons.mp hq with hq | hq
    · rw [hq]; exact List.mem_cons_self
    · exact List.mem_cons_of_mem _ (lv_args_of G As (j + 1) n (fun w hw => h w (List.mem_cons_of_mem _ hw)) q hq)
theorem gw_good : ∀ w ∈ gw, goodWord w = true := fun w h => (List.mem_filter.mp h).2
theorem gw_in {m : iM} (h : Cond.code m.1 m.2.1 m.2.2.1 m.2.2.2 ∈ gw) : GoodIn gw (mw m) := fun w hw => by
  rcases List.mem_cons.mp hw with hw | hw
  · rw [hw]; exact ⟨h, good_of_word (gw_good _ h)⟩
  · exact ⟨hw, good_of_word (gw_good _ hw)⟩
/-- a method's contract out of its walk -/
theorem Mt.of {G : iG} {m : iM} {d ac az : Nat} {As : List iV} {h : iH} {Q : Option iV → iH → Prop} (hpl : plainName m.1.cls = true) (hct : ∀ v ∈ As, ct v = 1) (hlen : As.length ≤ m.2.2.1)
    (k : Ev G m d ac az 0 (As.map some ++ List.replicate (m.2.2.1 - As.length) none) [] h Q) : Mt G m d ac az As h Q := by
  intro l
  refine Met.ofW (cc := m.2.1) (maxL := m.2.2.1) (ret := m.2.2.2) hpl rfl ?_
  intro p e s mid args below meth c s₁ B hml hv
  obtain ⟨rfl, hW, hsz, hX, hK⟩ := hv
  have hts := atoms_spec (ws := mw m) B.pre
  have hr := B.returns
  have hb := B.bytes
  have hx := B.exec
  have hlocks := B.notSynchronized
  have hl := lv_entry (As.map (tv G)) (n := m.2.2.1) (by rw [lg_len G As hct]; exact hlen)
  rw [lg_entry_eq]
  generalize (lg_sl (As.map (tv G)) ++ List.replicate (m.2.2.1 - (lg_sl (As.map (tv G))).length) Slot.unset).toArray = ls at hl ⊢
  have hl2 : lh G ls m.2.2.1 (As.map some ++ List.replicate (m.2.2.1 - As.length) none) := by
    refine ⟨⟨hl.1, hl.2.1, fun q hq => hl.2.2 q (lv_args_of G As 0 _ hct q hq)⟩, fun v hv => ?_⟩
    have : v ∈ As := by simpa using hv
    exact hct v this
  have hg : G.2.2.1 ≤ s.heap.size := by rw [hsz]; exact Nat.le_add_right _ _
  refine k p l e _ s mid _ below meth c s.heap [] 0 0 _ ls ⟨hx, hb, hml, findClass_of_methodNamed B.named, fun w hw => hts w (List.mem_cons_of_mem _ hw), hK, hX, hg, Nat.le_refl _, Nat.le_refl _, (name_of_methodNamed B.named B.method).1⟩ hW (by omega) va_S.rf hl2 (by show 0 + ac ≤ ac; omega) (by show 0 + az ≤ az; omega) ?_
  intro H' locs' slots' r h' pc' ls' hq hW' hn hS' hs hRt
  refine W.widen (k := ac) (n := az) (by omega) (by omega) ?_
  have hn' : h'.1.length = h.1.length + ac := by omega
  have hpost : ∀ t : State, t.heap = H' → s.WarmedH t.vm → Qm G ac h Q s (.returned (r.map (tv G))) t := fun t ht hWm => ⟨⟨r, h', rfl, hq, by rw [ht]; exact hW', hn'⟩, hS'.F ht⟩
  rcases hRt with ⟨x, rfl, hd, hty⟩ | ⟨q, rfl, hd, C, hty⟩ | ⟨rfl, hd, hty⟩
  · rcases hty with hty | ⟨hty, hx01⟩
    · exact W.iret (v := x) hx hb (hr.trans hty) hpost hS'.2.2 hd
    · exact W.zret (v := x) (ty := .boolean) hx hb (hr.trans hty) (by rcases hx01 with rfl | rfl <;> rfl) hpost hS'.2.2 hd
  · exact W.aret (v := tv G (vQ q)) (rt := .object C) hx hb (hr.trans hty) (Or.inl ⟨C, rfl⟩) (by cases q <;> first | exact Or.inl rfl | exact Or.inr ⟨_, rfl⟩) hpost hS'.2.2 hd
  · exact W.vret hx hb (hr.trans hty) hpost hS'.2.2 hd
end
section
section EV
variable {G : iG} {m : iM} {d ac az pc : Nat} {Ls : List (Option iV)} {st : List iV} {h : iH} {Q : Option iV → iH → Prop}
theorem E_iconst {n : Int} {v : Int32} (hd : decode m.2.1 pc = .ok (.iconst n, 1)) (hv : Int32.ofInt n = v) (k : Ev G m d ac az (pc + 1) Ls (vI v :: st) h Q) : Ev G m d ac az pc Ls (st) h Q := by
  intro p l e R s mid args below meth c H locs cells slots Z ls a1 a2 a3 a4 a5 a6 a7 a8
  exact lv_iconst a1.1 a1.2.1 hd hv (k p l e R s mid args below meth c H locs cells slots Z ls a1 a2 a3 a4 a5 a6 a7 a8)
theorem E_bipush {n : Int} {v : Int32} (hd : decode m.2.1 pc = .ok (.bipush n, 2)) (hv : (Int8.ofInt n).toInt32 = v) (k : Ev G m d ac az (pc + 2) Ls (vI v :: st) h Q) : Ev G m d ac az pc Ls (st) h Q := by
  intro p l e R s mid args below meth c H locs cells slots Z ls a1 a2 a3 a4 a5 a6 a7 a8
  exact lv_bipush a1.1 a1.2.1 hd hv (k p l e R s mid args below meth c H locs cells slots Z ls a1 a2 a3 a4 a5 a6 a7 a8)
theorem E_sipush {n : Int} {v : Int32} (hd : decode m.2.1 pc = .ok (.sipush n, 3)) (hv : (Int16.ofInt n).toInt32 = v) (k : Ev G m d ac az (pc + 3) Ls (vI v :: st) h Q) : Ev G m d ac az pc Ls (st) h Q := by
  intro p l e R s mid args below meth c H locs cells slots Z ls a1 a2 a3 a4 a5 a6 a7 a8
  exact lv_sipush a1.1 a1.2.1 hd hv (k p l e R s mid args below meth c H locs cells slots Z ls a1 a2 a3 a4 a5 a6 a7 a8)
theorem E_iload_n {i : Fin 4} {x : Int32} (hd : decode m.2.1 pc = .ok (.iload_n i, 1)) (hl : Ls[(i : Nat)]? = some (some (vI x))) (k : Ev G m d ac az (pc + 1) Ls (vI x :: st) h Q) : Ev G m d ac az pc Ls (st) h Q := by
  intro p l e R s mid args below meth c H locs cells slots Z ls a1 a2 a3 a4 a5 a6 a7 a8
  exact lv_iload_n a1.1 a1.2.1 hd rfl (lh_at a5 hl) (k p l e R s mid args below meth c H locs cells slots Z ls a1 a2 a3 a4 a5 a6 a7 a8)
theorem E_iload {i : Nat} {x : Int32} (hd : decode m.2.1 pc = .ok (.iload i, 2)) (hl : Ls[i]? = some (some (vI x))) (k : Ev G m d ac az (pc + 2) Ls (vI x :: st) h Q) : Ev G m d ac az pc Ls (st) h Q := by
  intro p l e R s mid args below meth c H locs cells slots Z ls a1 a2 a3 a4 a5 a6 a7 a8
  exact lv_iload a1.1 a1.2.1 hd (lh_at a5 hl) (k p l e R s mid args below meth c H locs cells slots Z ls a1 a2 a3 a4 a5 a6 a7 a8)
theorem E_aload_n {i : Fin 4} {v : iV} (hd : decode m.2.1 pc = .ok (.aload_n i, 1)) (hl : Ls[(i : Nat)]? = some (some v)) (hv : rv v = true) (k : Ev G m d ac az (pc + 1) Ls (v :: st) h Q) : Ev G m d ac az pc Ls st h Q := by
  intro p l e R s mid args below meth c H locs cells slots Z ls a1 a2 a3 a4 a5 a6 a7 a8
  have hat := lh_at a5 hl
  have K := (k p l e R s mid args below meth c H locs cells slots Z ls a1 a2 a3 a4 a5 a6 a7 a8)
  rcases v with x | r | x | u
  · cases hv
  · cases r with
    | none => exact lv_aload_nN a1.1 a1.2.1 hd rfl hat K
    | some q => exact lv_aload_n a1.1 a1.2.1 hd rfl hat K
  · cases hv
  · exact lv_aload_n a1.1 a1.2.1 hd rfl hat K
theorem E_aload {i : Nat} {v : iV} (hd : decode m.2.1 pc = .ok (.aload i, 2)) (hl : Ls[i]? = some (some v)) (hv : rv v = true) (k : Ev G m d ac az (pc + 2) Ls (v :: st) h Q) : Ev G m d ac az pc Ls st h Q := by
  intro p l e R s mid args below meth c H locs cells slots Z ls a1 a2 a3 a4 a5 a6 a7 a8
  have hat := lh_at a5 hl
  have K := (k p l e R s mid args below meth c H locs cells slots Z ls a1 a2 a3 a4 a5 a6 a7 a8)
  rcases v with x | r | x | u
  · cases hv
  · cases r with
    | none => exact lv_aloadN a1.1 a1.2.1 hd hat K
    | some q => exact lv_aload a1.1 a1.2.1 hd hat K
  · cases hv
  · exact lv_aload a1.1 a1.2.1 hd hat K
theorem E_istore_n {i : Fin 4} {x : Int32} (hd : decode m.2.1 pc = .ok (.istore_n i, 1)) (hi : (i : Nat) < m.2.2.1) (k : Ev G m d ac az (pc + 1) (Ls.set (i : Nat) (some (vI x))) st h Q) : Ev G m d ac az pc Ls (vI x :: st) h Q := by
  intro p l e R s mid args below meth c H locs cells slots Z ls a1 a2 a3 a4 a5 a6 a7 a8
  exact lv_istore_n a1.1 a1.2.1 hd rfl a5.1 hi rfl (fun ls' hl' => k p l e R s mid args below meth c H locs cells slots Z ls' a1 a2 a3 a4 (lh_st (v := vI x) a5 rfl hl') a6 a7 a8)
theorem E_istore {i : Nat} {x : Int32} (hd : decode m.2.1 pc = .ok (.istore i, 2)) (hi : i < m.2.2.1) (k : Ev G m d ac az (pc + 2) (Ls.set i (some (vI x))) st h Q) : Ev G m d ac az pc Ls (vI x :: st) h Q := by
  intro p l e R s mid args below meth c H locs cells slots Z ls a1 a2 a3 a4 a5 a6 a7 a8
  exact lv_istore a1.1 a1.2.1 hd a5.1 hi rfl (fun ls' hl' => k p l e R s mid args below meth c H locs cells slots Z ls' a1 a2 a3 a4 (lh_st (v := vI x) a5 rfl hl') a6 a7 a8)
theorem E_astore_n {i : Fin 4} {v : iV} (hd : decode m.2.1 pc = .ok (.astore_n i, 1)) (hi : (i : Nat) < m.2.2.1) (hv : rv v = true) (k : Ev G m d ac az (pc + 1) (Ls.set (i : Nat) (some v)) st h Q) : Ev G m d ac az pc Ls (v :: st) h Q := by
  intro p l e R s mid args below meth c H locs cells slots Z ls a1 a2 a3 a4 a5 a6 a7 a8
  rcases v with x | r | x | u
  · cases hv
  · cases r with
    | none => exact lv_astore_nN a1.1 a1.2.1 hd rfl a5.1 hi rfl (fun ls' hl' => k p l e R s mid args below meth c H locs cells slots Z ls' a1 a2 a3 a4 (lh_st (v := vN) a5 rfl hl') a6 a7 a8)
    | some q => exact lv_astore_n a1.1 a1.2.1 hd rfl a5.1 hi rfl (fun ls' hl' => k p l e R s mid args below meth c H locs cells slots Z ls' a1 a2 a3 a4 (lh_st (v := vR q) a5 rfl hl') a6 a7 a8)
  · cases hv
  · exact lv_astore_n a1.1 a1.2.1 hd rfl a5.1 hi rfl (fun ls' hl' => k p l e R s mid args below meth c H locs cells slots Z ls' a1 a2 a3 a4 (lh_st (v := vS) a5 rfl hl') a6 a7 a8)
theorem E_astore {i : Nat} {v : iV} (hd : decode m.2.1 pc = .ok (.astore i, 2)) (hi : i < m.2.2.1) (hv : rv v = true) (k : Ev G m d ac az (pc + 2) (Ls.set i (some v)) st h Q) : Ev G m d ac az pc Ls (v :: st) h Q := by
  intro p l e R s mid args below meth c H locs cells slots Z ls a1 a2 a3 a4 a5 a6 a7 a8
  rcases v with x | r | x | u
  · cases hv
  · cases r with
    | none => exact lv_astoreN a1.1 a1.2.1 hd a5.1 hi rfl (fun ls' hl' => k p l e R s mid args below meth c H locs cells slots Z ls' a1 a2 a3 a4 (lh_st (v := vN) a5 rfl hl') a6 a7 a8)
    | some q => exact lv_astore a1.1 a1.2.1 hd a5.1 hi rfl (fun ls' hl' => k p l e R s mid args below meth c H locs cells slots Z ls' a1 a2 a3 a4 (lh_st (v := vR q) a5 rfl hl') a6 a7 a8)
  · cases hv
  · exact lv_astore a1.1 a1.2.1 hd a5.1 hi rfl (fun ls' hl' => k p l e R s mid args below meth c H locs cells slots Z ls' a1 a2 a3 a4 (lh_st (v := vS) a5 rfl hl') a6 a7 a8)
theorem E_iinc {i : Nat} {n : Int} {x v : Int32} (hd : decode m.2.1 pc = .ok (.iinc i n, 3)) (hl : Ls[i]? = some (some (vI x))) (hv : x + Int32.ofInt n = v) (hi : i < m.2.2.1) (k : Ev G m d ac az (pc + 3) (Ls.set i (some (vI v))) st h Q) : Ev G m d ac az pc Ls st h Q := by
  intro p l e R s mid args below meth c H locs cells slots Z ls a1 a2 a3 a4 a5 a6 a7 a8
  obtain ⟨j, hj⟩ := List.getElem?_of_mem (lz_mem (G := G) Ls 0 i (vI x) hl)
  rw [Nat.zero_add] at hj
  exact lv_iinc a1.1 a1.2.1 hd a5.1 hj hv hi rfl (fun ls' hl' => k p l e R s mid args below meth c H locs cells slots Z ls' a1 a2 a3 a4 (lh_st (v := vI v) a5 rfl hl') a6 a7 a8)
theorem E_iadd {x y : Int32} (hd : decode m.2.1 pc = .ok (.iadd, 1))  (k : Ev G m d ac az (pc + 1) Ls (vI (x + y) :: st) h Q) : Ev G m d ac az pc Ls (vI y :: vI x :: st) h Q := by
  intro p l e R s mid args below meth c H locs cells slots Z ls a1 a2 a3 a4 a5 a6 a7 a8
  exact lv_iadd a1.1 a1.2.1 hd  (k p l e R s mid args below meth c H locs cells slots Z ls a1 a2 a3 a4 a5 a6 a7 a8)
theorem E_isub {x y : Int32} (hd : decode m.2.1 pc = .ok (.isub, 1))  (k : Ev G m d ac az (pc + 1) Ls (vI (x - y) :: st) h Q) : Ev G m d ac az pc Ls (vI y :: vI x :: st) h Q := by
  intro p l e R s mid args below meth c H locs cells slots Z ls a1 a2 a3 a4 a5 a6 a7 a8
  exact lv_isub a1.1 a1.2.1 hd  (k p l e R s mid args below meth c H locs cells slots Z ls a1 a2 a3 a4 a5 a6 a7 a8)
theorem E_imul {x y : Int32} (hd : decode m.2.1 pc = .ok (.imul, 1))  (k : Ev G m d ac az (pc + 1) Ls (vI (x * y) :: st) h Q) : Ev G m d ac az pc Ls (vI y :: vI x :: st) h Q := by
  intro p l e R s mid args below meth c H locs cells slots Z ls a1 a2 a3 a4 a5 a6 a7 a8
  exact lv_imul a1.1 a1.2.1 hd  (k p l e R s mid args below meth c H locs cells slots Z ls a1 a2 a3 a4 a5 a6 a7 a8)
theorem E_iand {x y : Int32} (hd : decode m.2.1 pc = .ok (.iand, 1))  (k : Ev G m d ac az (pc + 1) Ls (vI (x &&& y) :: st) h Q) : Ev G m d ac az pc Ls (vI y :: vI x :: st) h Q := by
  intro p l e R s mid args below meth c H locs cells slots Z ls a1 a2 a3 a4 a5 a6 a7 a8
  exact lv_iand a1.1 a1.2.1 hd  (k p l e R s mid args below meth c H locs cells slots Z ls a1 a2 a3 a4 a5 a6 a7 a8)
theorem E_ior {x y : Int32} (hd : decode m.2.1 pc = .ok (.ior, 1))  (k : Ev G m d ac az (pc + 1) Ls (vI (x ||| y) :: st) h Q) : Ev G m d ac az pc Ls (vI y :: vI x :: st) h Q := by
  intro p l e R s mid args below meth c H locs cells slots Z ls a1 a2 a3 a4 a5 a6 a7 a8
  exact lv_ior a1.1 a1.2.1 hd  (k p l e R s mid args below meth c H locs cells slots Z ls a1 a2 a3 a4 a5 a6 a7 a8)
theorem E_ixor {x y : Int32} (hd : decode m.2.1 pc = .ok (.ixor, 1))  (k : Ev G m d ac az (pc + 1) Ls (vI (x ^^^ y) :: st) h Q) : Ev G m d ac az pc Ls (vI y :: vI x :: st) h Q := by
  intro p l e R s mid args below meth c H locs cells slots Z ls a1 a2 a3 a4 a5 a6 a7 a8
  exact lv_ixor a1.1 a1.2.1 hd  (k p l e R s mid args below meth c H locs cells slots Z ls a1 a2 a3 a4 a5 a6 a7 a8)
theorem E_ishl {x y : Int32} (hd : decode m.2.1 pc = .ok (.ishl, 1))  (k : Ev G m d ac az (pc + 1) Ls (vI (x <<< (y &&& 31)) :: st) h Q) : Ev G m d ac az pc Ls (vI y :: vI x :: st) h Q := by
  intro p l e R s mid args below meth c H locs cells slots Z ls a1 a2 a3 a4 a5 a6 a7 a8
  exact lv_ishl a1.1 a1.2.1 hd  (k p l e R s mid args below meth c H locs cells slots Z ls a1 a2 a3 a4 a5 a6 a7 a8)
theorem E_ishr {x y : Int32} (hd : decode m.2.1 pc = .ok (.ishr, 1))  (k : Ev G m d ac az (pc + 1) Ls (vI (x >>> (y &&& 31)) :: st) h Q) : Ev G m d ac az pc Ls (vI y :: vI x :: st) h Q := by
  intro p l e R s mid args below meth c H locs cells slots Z ls a1 a2 a3 a4 a5 a6 a7 a8
  exact lv_ishr a1.1 a1.2.1 hd  (k p l e R s mid args below meth c H locs cells slots Z ls a1 a2 a3 a4 a5 a6 a7 a8)
theorem E_iushr {x y : Int32} (hd : decode m.2.1 pc = .ok (.iushr, 1))  (k : Ev G m d ac az (pc + 1) Ls (vI ((x.toUInt32 >>> (y.toUInt32 &&& Int32.toUInt32 31)).toInt32) :: st) h Q) : Ev G m d ac az pc Ls (vI y :: vI x :: st) h Q := by
  intro p l e R s mid args below meth c H locs cells slots Z ls a1 a2 a3 a4 a5 a6 a7 a8
  exact lv_iushr a1.1 a1.2.1 hd rfl (k p l e R s mid args below meth c H locs cells slots Z ls a1 a2 a3 a4 a5 a6 a7 a8)
theorem E_idiv {x y : Int32} (hd : decode m.2.1 pc = .ok (.idiv, 1)) (hne : ¬ y = 0) (k : Ev G m d ac az (pc + 1) Ls (vI (x / y) :: st) h Q) : Ev G m d ac az pc Ls (vI y :: vI x :: st) h Q := by
  intro p l e R s mid args below meth c H locs cells slots Z ls a1 a2 a3 a4 a5 a6 a7 a8
  exact lv_idiv a1.1 a1.2.1 hd hne (k p l e R s mid args below meth c H locs cells slots Z ls a1 a2 a3 a4 a5 a6 a7 a8)
theorem E_irem {x y : Int32} (hd : decode m.2.1 pc = .ok (.irem, 1)) (hne : ¬ y = 0) (k : Ev G m d ac az (pc + 1) Ls (vI (x - x / y * y) :: st) h Q) : Ev G m d ac az pc Ls (vI y :: vI x :: st) h Q := by
  intro p l e R s mid args below meth c H locs cells slots Z ls a1 a2 a3 a4 a5 a6 a7 a8
  exact lv_irem a1.1 a1.2.1 hd hne (k p l e R s mid args below meth c H locs cells slots Z ls a1 a2 a3 a4 a5 a6 a7 a8)
theorem E_i2l {x : Int32} (hd : decode m.2.1 pc = .ok (.i2l, 1))  (k : Ev G m d ac az (pc + 1) Ls (vL x.toInt64 :: st) h Q) : Ev G m d ac az pc Ls (vI x :: st) h Q := by
  intro p l e R s mid args below meth c H locs cells slots Z ls a1 a2 a3 a4 a5 a6 a7 a8
  exact lv_i2l a1.1 a1.2.1 hd rfl (k p l e R s mid args below meth c H locs cells slots Z ls a1 a2 a3 a4 a5 a6 a7 a8)
theorem E_land {x y : Int64} (hd : decode m.2.1 pc = .ok (.land, 1))  (k : Ev G m d ac az (pc + 1) Ls (vL (x &&& y) :: st) h Q) : Ev G m d ac az pc Ls (vL y :: vL x :: st) h Q := by
  intro p l e R s mid args below meth c H locs cells slots Z ls a1 a2 a3 a4 a5 a6 a7 a8
  exact lv_land a1.1 a1.2.1 hd  (k p l e R s mid args below meth c H locs cells slots Z ls a1 a2 a3 a4 a5 a6 a7 a8)
theorem E_lcmp {x y : Int64} (hd : decode m.2.1 pc = .ok (.lcmp, 1))  (k : Ev G m d ac az (pc + 1) Ls (vI (lg_cmp x y) :: st) h Q) : Ev G m d ac az pc Ls (vL y :: vL x :: st) h Q := by
  intro p l e R s mid args below meth c H locs cells slots Z ls a1 a2 a3 a4 a5 a6 a7 a8
  exact W.lcmp a1.1 a1.2.1 hd  (k p l e R s mid args below meth c H locs cells slots Z ls a1 a2 a3 a4 a5 a6 a7 a8)
theorem E_null  (hd : decode m.2.1 pc = .ok (.aconst_null, 1))  (k : Ev G m d ac az (pc + 1) Ls (vN :: st) h Q) : Ev G m d ac az pc Ls (st) h Q := by
  intro p l e R s mid args below meth c H locs cells slots Z ls a1 a2 a3 a4 a5 a6 a7 a8
  exact lv_null a1.1 a1.2.1 hd  (k p l e R s mid args below meth c H locs cells slots Z ls a1 a2 a3 a4 a5 a6 a7 a8)
theorem E_dup {v : iV} (hd : decode m.2.1 pc = .ok (.dup, 1)) (hv : ct v = 1) (k : Ev G m d ac az (pc + 1) Ls (v :: v :: st) h Q) : Ev G m d ac az pc Ls (v :: st) h Q := by
  intro p l e R s mid args below meth c H locs cells slots Z ls a1 a2 a3 a4 a5 a6 a7 a8
  exact lv_dup a1.1 a1.2.1 hd ((tv_ct G v).trans hv) (k p l e R s mid args below meth c H locs cells slots Z ls a1 a2 a3 a4 a5 a6 a7 a8)
theorem E_pop {v : iV} (hd : decode m.2.1 pc = .ok (.pop, 1)) (hv : ct v = 1) (k : Ev G m d ac az (pc + 1) Ls st h Q) : Ev G m d ac az pc Ls (v :: st) h Q := by
  intro p l e R s mid args below meth c H locs cells slots Z ls a1 a2 a3 a4 a5 a6 a7 a8
  exact lv_pop a1.1 a1.2.1 hd ((tv_ct G v).trans hv) (k p l e R s mid args below meth c H locs cells slots Z ls a1 a2 a3 a4 a5 a6 a7 a8)
theorem E_dup2 {v w : iV} (hd : decode m.2.1 pc = .ok (.dup2, 1)) (hv : ct v = 1) (hw : ct w = 1) (k : Ev G m d ac az (pc + 1) Ls (v :: w :: v :: w :: st) h Q) : Ev G m d ac az pc Ls (v :: w :: st) h Q := by
  intro p l e R s mid args below meth c H locs cells slots Z ls a1 a2 a3 a4 a5 a6 a7 a8
  exact lv_dup2_11 a1.1 a1.2.1 hd ((tv_ct G v).trans hv) ((tv_ct G w).trans hw) (k p l e R s mid args below meth c H locs cells slots Z ls a1 a2 a3 a4 a5 a6 a7 a8)
theorem E_icmp_eq {x y : Int32} {off : Int} {tgt : Nat} (hd : decode m.2.1 pc = .ok (.if_icmp .eq off, 3)) (ht : (pc : Int) + off = (tgt : Int)) (kt : x = y → Ev G m d ac az tgt Ls st h Q) (kf : ¬ x = y → Ev G m d ac az (pc + 3) Ls st h Q) : Ev G m d ac az pc Ls (vI y :: vI x :: st) h Q := by
  intro p l e R s mid args below meth c H locs cells slots Z ls a1 a2 a3 a4 a5 a6 a7 a8
  exact lv_icmp_eq a1.1 a1.2.1 hd ht (fun z => kt z p l e R s mid args below meth c H locs cells slots Z ls a1 a2 a3 a4 a5 a6 a7 a8) (fun z => kf z p l e R s mid args below meth c H locs cells slots Z ls a1 a2 a3 a4 a5 a6 a7 a8)
theorem E_if_eq {x : Int32} {off : Int} {tgt : Nat} (hd : decode m.2.1 pc = .ok (.ifCond .eq off, 3)) (ht : (pc : Int) + off = (tgt : Int)) (kt : x = 0 → Ev G m d ac az tgt Ls st h Q) (kf : ¬ x = 0 → Ev G m d ac az (pc + 3) Ls st h Q) : Ev G m d ac az pc Ls (vI x :: st) h Q := by
  intro p l e R s mid args below meth c H locs cells slots Z ls a1 a2 a3 a4 a5 a6 a7 a8
  exact lv_if_eq a1.1 a1.2.1 hd ht (fun z => kt z p l e R s mid args below meth c H locs cells slots Z ls a1 a2 a3 a4 a5 a6 a7 a8) (fun z => kf z p l e R s mid args below meth c H locs cells slots Z ls a1 a2 a3 a4 a5 a6 a7 a8)
theorem E_icmp_ne {x y : Int32} {off : Int} {tgt : Nat} (hd : decode m.2.1 pc = .ok (.if_icmp .ne off, 3)) (ht : (pc : Int) + off = (tgt : Int)) (kt : ¬ x = y → Ev G m d ac az tgt Ls st h Q) (kf : x = y → Ev G m d ac az (pc + 3) Ls st h Q) : Ev G m d ac az pc Ls (vI y :: vI x :: st) h Q := by
  intro p l e R s mid args below meth c H locs cells slots Z ls a1 a2 a3 a4 a5 a6 a7 a8
  exact lv_icmp_ne a1.1 a1.2.1 hd ht (fun z => kt z p l e R s mid args below meth c H locs cells slots Z ls a1 a2 a3 a4 a5 a6 a7 a8) (fun z => kf z p l e R s mid args below meth c H locs cells slots Z ls a1 a2 a3 a4 a5 a6 a7 a8)
theorem E_if_ne {x : Int32} {off : Int} {tgt : Nat} (hd : decode m.2.1 pc = .ok (.ifCond .ne off, 3)) (ht : (pc : Int) + off = (tgt : Int)) (kt : ¬ x = 0 → Ev G m d ac az tgt Ls st h Q) (kf : x = 0 → Ev G m d ac az (pc + 3) Ls st h Q) : Ev G m d ac az pc Ls (vI x :: st) h Q := by
  intro p l e R s mid args below meth c H locs cells slots Z ls a1 a2 a3 a4 a5 a6 a7 a8
  exact lv_if_ne a1.1 a1.2.1 hd ht (fun z => kt z p l e R s mid args below meth c H locs cells slots Z ls a1 a2 a3 a4 a5 a6 a7 a8) (fun z => kf z p l e R s mid args below meth c H locs cells slots Z ls a1 a2 a3 a4 a5 a6 a7 a8)
theorem E_icmp_lt {x y : Int32} {off : Int} {tgt : Nat} (hd : decode m.2.1 pc = .ok (.if_icmp .lt off, 3)) (ht : (pc : Int) + off = (tgt : Int)) (kt : x < y → Ev G m d ac az tgt Ls st h Q) (kf : ¬ x < y → Ev G m d ac az (pc + 3) Ls st h Q) : Ev G m d ac az pc Ls (vI y :: vI x :: st) h Q := by
  intro p l e R s mid args below meth c H locs cells slots Z ls a1 a2 a3 a4 a5 a6 a7 a8
  exact lv_icmp_lt a1.1 a1.2.1 hd ht (fun z => kt z p l e R s mid args below meth c H locs cells slots Z ls a1 a2 a3 a4 a5 a6 a7 a8) (fun z => kf z p l e R s mid args below meth c H locs cells slots Z ls a1 a2 a3 a4 a5 a6 a7 a8)
theorem E_if_lt {x : Int32} {off : Int} {tgt : Nat} (hd : decode m.2.1 pc = .ok (.ifCond .lt off, 3)) (ht : (pc : Int) + off = (tgt : Int)) (kt : x < 0 → Ev G m d ac az tgt Ls st h Q) (kf : ¬ x < 0 → Ev G m d ac az (pc + 3) Ls st h Q) : Ev G m d ac az pc Ls (vI x :: st) h Q := by
  intro p l e R s mid args below meth c H locs cells slots Z ls a1 a2 a3 a4 a5 a6 a7 a8
  exact lv_if_lt a1.1 a1.2.1 hd ht (fun z => kt z p l e R s mid args below meth c H locs cells slots Z ls a1 a2 a3 a4 a5 a6 a7 a8) (fun z => kf z p l e R s mid args below meth c H locs cells slots Z ls a1 a2 a3 a4 a5 a6 a7 a8)
theorem E_icmp_ge {x y : Int32} {off : Int} {tgt : Nat} (hd : decode m.2.1 pc = .ok (.if_icmp .ge off, 3)) (ht : (pc : Int) + off = (tgt : Int)) (kt : y ≤ x → Ev G m d ac az tgt Ls st h Q) (kf : ¬ y ≤ x → Ev G m d ac az (pc + 3) Ls st h Q) : Ev G m d ac az pc Ls (vI y :: vI x :: st) h Q := by
  intro p l e R s mid args below meth c H locs cells slots Z ls a1 a2 a3 a4 a5 a6 a7 a8
  exact lv_icmp_ge a1.1 a1.2.1 hd ht (fun z => kt z p l e R s mid args below meth c H locs cells slots Z ls a1 a2 a3 a4 a5 a6 a7 a8) (fun z => kf z p l e R s mid args below meth c H locs cells slots Z ls a1 a2 a3 a4 a5 a6 a7 a8)
theorem E_if_ge {x : Int32} {off : Int} {tgt : Nat} (hd : decode m.2.1 pc = .ok (.ifCond .ge off, 3)) (ht : (pc : Int) + off = (tgt : Int)) (kt : 0 ≤ x → Ev G m d ac az tgt Ls st h Q) (kf : ¬ 0 ≤ x → Ev G m d ac az (pc + 3) Ls st h Q) : Ev G m d ac az pc Ls (vI x :: st) h Q := by
  intro p l e R s mid args below meth c H locs cells slots Z ls a1 a2 a3 a4 a5 a6 a7 a8
  exact lv_if_ge a1.1 a1.2.1 hd ht (fun z => kt z p l e R s mid args below meth c H locs cells slots Z ls a1 a2 a3 a4 a5 a6 a7 a8) (fun z => kf z p l e R s mid args below meth c H locs cells slots Z ls a1 a2 a3 a4 a5 a6 a7 a8)
theorem E_icmp_gt {x y : Int32} {off : Int} {tgt : Nat} (hd : decode m.2.1 pc = .ok (.if_icmp .gt off, 3)) (ht : (pc : Int) + off = (tgt : Int)) (kt : y < x → Ev G m d ac az tgt Ls st h Q) (kf : ¬ y < x → Ev G m d ac az (pc + 3) Ls st h Q) : Ev G m d ac az pc Ls (vI y :: vI x :: st) h Q := by
  intro p l e R s mid args below meth c H locs cells slots Z ls a1 a2 a3 a4 a5 a6 a7 a8
  exact lv_icmp_gt a1.1 a1.2.1 hd ht (fun z => kt z p l e R s mid args below meth c H locs cells slots Z ls a1 a2 a3 a4 a5 a6 a7 a8) (fun z => kf z p l e R s mid args below meth c H locs cells slots Z ls a1 a2 a3 a4 a5 a6 a7 a8)
theorem E_if_gt {x : Int32} {off : Int} {tgt : Nat} (hd : decode m.2.1 pc = .ok (.ifCond .gt off, 3)) (ht : (pc : Int) + off = (tgt : Int)) (kt : 0 < x → Ev G m d ac az tgt Ls st h Q) (kf : ¬ 0 < x → Ev G m d ac az (pc + 3) Ls st h Q) : Ev G m d ac az pc Ls (vI x :: st) h Q := by
  intro p l e R s mid args below meth c H locs cells slots Z ls a1 a2 a3 a4 a5 a6 a7 a8
  exact lv_if_gt a1.1 a1.2.1 hd ht (fun z => kt z p l e R s mid args below meth c H locs cells slots Z ls a1 a2 a3 a4 a5 a6 a7 a8) (fun z => kf z p l e R s mid args below meth c H locs cells slots Z ls a1 a2 a3 a4 a5 a6 a7 a8)
theorem E_icmp_le {x y : Int32} {off : Int} {tgt : Nat} (hd : decode m.2.1 pc = .ok (.if_icmp .le off, 3)) (ht : (pc : Int) + off = (tgt : Int)) (kt : x ≤ y → Ev G m d ac az tgt Ls st h Q) (kf : ¬ x ≤ y → Ev G m d ac az (pc + 3) Ls st h Q) : Ev G m d ac az pc Ls (vI y :: vI x :: st) h Q := by
  intro p l e R s mid args below meth c H locs cells slots Z ls a1 a2 a3 a4 a5 a6 a7 a8
  exact lv_icmp_le a1.1 a1.2.1 hd ht (fun z => kt z p l e R s mid args below meth c H locs cells slots Z ls a1 a2 a3 a4 a5 a6 a7 a8) (fun z => kf z p l e R s mid args below meth c H locs cells slots Z ls a1 a2 a3 a4 a5 a6 a7 a8)
theorem E_if_le {x : Int32} {off : Int} {tgt : Nat} (hd : decode m.2.1 pc = .ok (.ifCond .le off, 3)) (ht : (pc : Int) + off = (tgt : Int)) (kt : x ≤ 0 → Ev G m d ac az tgt Ls st h Q) (kf : ¬ x ≤ 0 → Ev G m d ac az (pc + 3) Ls st h Q) : Ev G m d ac az pc Ls (vI x :: st) h Q := by
  intro p l e R s mid args below meth c H locs cells slots Z ls a1 a2 a3 a4 a5 a6 a7 a8
  exact lv_if_le a1.1 a1.2.1 hd ht (fun z => kt z p l e R s mid args below meth c H locs cells slots Z ls a1 a2 a3 a4 a5 a6 a7 a8) (fun z => kf z p l e R s mid args below meth c H locs cells slots Z ls a1 a2 a3 a4 a5 a6 a7 a8)
theorem E_goto {off : Int} {tgt : Nat} (hd : decode m.2.1 pc = .ok (.goto off, 3)) (ht : (pc : Int) + off = (tgt : Int)) (k : Ev G m d ac az tgt Ls st h Q) : Ev G m d ac az pc Ls st h Q := by
  intro p l e R s mid args below meth c H locs cells slots Z ls a1 a2 a3 a4 a5 a6 a7 a8
  exact lv_goto a1.1 a1.2.1 hd ht (k p l e R s mid args below meth c H locs cells slots Z ls a1 a2 a3 a4 a5 a6 a7 a8)
theorem E_ifnull {r : Option Nat} {off : Int} {tgt : Nat} (hd : decode m.2.1 pc = .ok (.ifnull off, 3)) (ht : (pc : Int) + off = (tgt : Int)) (kt : r = none → Ev G m d ac az tgt Ls st h Q) (kf : ∀ q, r = some q → Ev G m d ac az (pc + 3) Ls st h Q) : Ev G m d ac az pc Ls (vQ r :: st) h Q := by
  intro p l e R s mid args below meth c H locs cells slots Z ls a1 a2 a3 a4 a5 a6 a7 a8
  cases r with
  | none => exact lv_ifnullN a1.1 a1.2.1 hd ht (kt rfl p l e R s mid args below meth c H locs cells slots Z ls a1 a2 a3 a4 a5 a6 a7 a8)
  | some q => exact lv_ifnull a1.1 a1.2.1 hd (kf q rfl p l e R s mid args below meth c H locs cells slots Z ls a1 a2 a3 a4 a5 a6 a7 a8)
theorem E_ifnonnull {r : Option Nat} {off : Int} {tgt : Nat} (hd : decode m.2.1 pc = .ok (.ifnonnull off, 3)) (ht : (pc : Int) + off = (tgt : Int)) (kt : ∀ q, r = some q → Ev G m d ac az tgt Ls st h Q) (kf : r = none → Ev G m d ac az (pc + 3) Ls st h Q) : Ev G m d ac az pc Ls (vQ r :: st) h Q := by
  intro p l e R s mid args below meth c H locs cells slots Z ls a1 a2 a3 a4 a5 a6 a7 a8
  cases r with
  | none => exact lv_ifnonnullN a1.1 a1.2.1 hd (kf rfl p l e R s mid args below meth c H locs cells slots Z ls a1 a2 a3 a4 a5 a6 a7 a8)
  | some q => exact lv_ifnonnull a1.1 a1.2.1 hd ht (kt q rfl p l e R s mid args below meth c H locs cells slots Z ls a1 a2 a3 a4 a5 a6 a7 a8)
theorem E_tsOut {dflt lo hi : Int} {offs : Array Int} {len : Nat} {x : Int32} {tgt : Nat} (hd : decode m.2.1 pc = .ok (.tableswitch dflt lo hi offs, len)) (hx : x.toInt < lo ∨ hi < x.toInt) (ht : (pc : Int) + dflt = (tgt : Int)) (k : Ev G m d ac az tgt Ls st h Q) : Ev G m d ac az pc Ls (vI x :: st) h Q := by
  intro p l e R s mid args below meth c H locs cells slots Z ls a1 a2 a3 a4 a5 a6 a7 a8
  exact lv_tableOut a1.1 a1.2.1 hd hx ht (k p l e R s mid args below meth c H locs cells slots Z ls a1 a2 a3 a4 a5 a6 a7 a8)
theorem E_tsIn {dflt lo hi : Int} {offs : Array Int} {len : Nat} {x : Int32} {off : Int} {tgt : Nat} (hd : decode m.2.1 pc = .ok (.tableswitch dflt lo hi offs, len)) (h1 : ¬ x.toInt < lo) (h2 : ¬ hi < x.toInt) (ho : offs[(x.toInt - lo).toNat]? = some off) (ht : (pc : Int) + off = (tgt : Int)) (k : Ev G m d ac az tgt Ls st h Q) : Ev G m d ac az pc Ls (vI x :: st) h Q := by
  intro p l e R s mid args below meth c H locs cells slots Z ls a1 a2 a3 a4 a5 a6 a7 a8
  exact lv_tableIn a1.1 a1.2.1 hd h1 h2 ho ht (k p l e R s mid args below meth c H locs cells slots Z ls a1 a2 a3 a4 a5 a6 a7 a8)
theorem E_lookup {dflt : Int} {ps : Array (Int × Int)} {len : Nat} {x : Int32} {off : Int} {tgt : Nat} (hd : decode m.2.1 pc = .ok (.lookupswitch dflt ps, len)) (hp : (ps.toList.zip (ps.toList.drop 1)).all (fun (a, next) => a.1 < next.1) = true) (ho : Op.lookupswitch.offset ps.toList dflt x.toInt = off) (ht : (pc : Int) + off = (tgt : Int)) (k : Ev G m d ac az tgt Ls st h Q) : Ev G m d ac az pc Ls (vI x :: st) h Q := by
  intro p l e R s mid args below meth c H locs cells slots Z ls a1 a2 a3 a4 a5 a6 a7 a8
  exact lv_lookup a1.1 a1.2.1 hd hp ho ht (k p l e R s mid args below meth c H locs cells slots Z ls a1 a2 a3 a4 a5 a6 a7 a8)
theorem E_ldc {idx : Nat} {v : Int32} (hd : decode m.2.1 pc = .ok (.ldc idx, 2)) (hc : Jvm.Cond.constant m.1.cls idx v ∈ gw) (k : Ev G m d ac az (pc + 2) Ls (vI v :: st) h Q) : Ev G m d ac az pc Ls st h Q := by
  intro p l e R s mid args below meth c H locs cells slots Z ls a1 a2 a3 a4 a5 a6 a7 a8
  exact lv_ldc a1.1 a1.2.1 a1.2.2.2.1 (a1.2.2.2.2.1 _ hc) hd (k p l e R s mid args below meth c H locs cells slots Z ls a1 a2 a3 a4 a5 a6 a7 a8)
theorem E_ldc2 {idx : Nat} {v : Int64} (hd : decode m.2.1 pc = .ok (.ldc2_w idx, 3)) (hc : Jvm.Cond.constantLong m.1.cls idx v ∈ gw) (k : Ev G m d ac az (pc + 3) Ls (vL v :: st) h Q) : Ev G m d ac az pc Ls st h Q := by
  intro p l e R s mid args below meth c H locs cells slots Z ls a1 a2 a3 a4 a5 a6 a7 a8
  exact lv_ldc2 a1.1 a1.2.1 a1.2.2.2.1 (a1.2.2.2.2.1 _ hc) hd (k p l e R s mid args below meth c H locs cells slots Z ls a1 a2 a3 a4 a5 a6 a7 a8)
theorem E_ireturn {x : Int32} (hd : decode m.2.1 pc = .ok (.ireturn, 1)) (hr : m.2.2.2 = some .int ∨ (m.2.2.2 = some .boolean ∧ (x = 0 ∨ x = 1))) (h0 : ac = 0) (hq : Q (some (vI x)) h) : Ev G m d ac az pc Ls [vI x] h Q := by
  intro p l e R s mid args below meth c H locs cells slots Z ls a1 a2 a3 a4 a5 a6 a7 a8
  subst h0
  exact a8 H locs slots (some (vI x)) h pc ls hq a2 a3 a4 (Nat.le_add_right _ _) (Or.inl ⟨x, rfl, hd, hr⟩)
theorem E_areturn {q : Option Nat} {C : String} (hd : decode m.2.1 pc = .ok (.areturn, 1)) (hr : m.2.2.2 = some (.object C)) (h0 : ac = 0) (hq : Q (some (vQ q)) h) : Ev G m d ac az pc Ls [vQ q] h Q := by
  intro p l e R s mid args below meth c H locs cells slots Z ls a1 a2 a3 a4 a5 a6 a7 a8
  subst h0
  exact a8 H locs slots (some (vQ q)) h pc ls hq a2 a3 a4 (Nat.le_add_right _ _) (Or.inr (Or.inl ⟨q, rfl, hd, C, hr⟩))
theorem E_return (hd : decode m.2.1 pc = .ok (.return_, 1)) (hr : m.2.2.2 = none) (h0 : ac = 0) (hq : Q none h) : Ev G m d ac az pc Ls [] h Q := by
  intro p l e R s mid args below meth c H locs cells slots Z ls a1 a2 a3 a4 a5 a6 a7 a8
  subst h0
  exact a8 H locs slots none h pc ls hq a2 a3 a4 (Nat.le_add_right _ _) (Or.inr (Or.inr ⟨rfl, hd, hr⟩))
/-- pool index idx of class own names field j of class ci -/
def FLk (own : String) (idx ci j : Nat) : Prop := ∃ q : vw_C, cls[ci]? = some q ∧ j < q.2.2 ∧ Cond.fieldLink own idx (q.2.1 j).1 (q.2.1 j).2.1 (q.2.1 j).2.2.1 ∈ gw
def fnl (ci j : Nat) : Bool := match cls[ci]? with
  | some q => (q.2.1 j).2.2.2
  | none => true
def own_ (ci j : Nat) : String := match cls[ci]? with
  | some q => (q.2.1 j).1
  | none => ""
theorem wh_obj {k ci n : Nat} (hk : h.1[k]? = some (ci + 4, n)) : (wh G h)[k]? = some (G.2.2.1 + k, .inr (ci, (List.range n).map (fun j => fv G h k ci j))) := wh_at hk
theorem wh_fld {k ci j n : Nat} (hj : j < n) : ((List.range n).map (fun j => fv G h k ci j))[j]? = some (fv G h k ci j) := by simp [hj]
theorem E_getI {idx ci j k n : Nat} (hd : decode m.2.1 pc = .ok (.getfield idx, 3)) (hf : FLk m.1.cls idx ci j) (hk : h.1[k]? = some (ci + 4, n)) (hj : j < n) (hr : rf ci j = false) (kk : Ev G m d ac az (pc + 3) Ls (vI (h.2.1 k j) :: st) h Q) : Ev G m d ac az pc Ls (vR k :: st) h Q := by
  intro p l e R s mid args below meth c H locs cells slots Z ls a1 a2 a3 a4 a5 a6 a7 a8
  obtain ⟨hx, hb, hml, hown, hts, hK, hX, hg, hfr, hlo, hnm⟩ := id a1
  obtain ⟨⟨C, T, N⟩, hc, hjN, hw⟩ := hf
  exact va_get (D := G.1) (ci := ci) (v := .int (h.2.1 k j)) (C := C) (T := T) (N := N) hx hb hts (cls_in ci _ hc) hown hK.1 a2 k (wh_obj hk) hc j hjN (hts _ hw) (fun _ h9 => h9) (by rw [wh_fld hj, fv, hr]; rfl) hd (kk p l e R s mid args below meth c H locs cells slots Z ls a1 a2 a3 a4 a5 a6 a7 a8)
theorem E_getQ {idx ci j k n : Nat} (hd : decode m.2.1 pc = .ok (.getfield idx, 3)) (hf : FLk m.1.cls idx ci j) (hk : h.1[k]? = some (ci + 4, n)) (hj : j < n) (hr : rf ci j = true) (kk : Ev G m d ac az (pc + 3) Ls (vQ (h.2.2 k j) :: st) h Q) : Ev G m d ac az pc Ls (vR k :: st) h Q := by
  intro p l e R s mid args below meth c H locs cells slots Z ls a1 a2 a3 a4 a5 a6 a7 a8
  obtain ⟨hx, hb, hml, hown, hts, hK, hX, hg, hfr, hlo, hnm⟩ := id a1
  obtain ⟨⟨C, T, N⟩, hc, hjN, hw⟩ := hf
  exact va_get (D := G.1) (ci := ci) (v := va_rf (iw_b G (h.2.2 k j))) (C := C) (T := T) (N := N) hx hb hts (cls_in ci _ hc) hown hK.1 a2 k (wh_obj hk) hc j hjN (hts _ hw) (fun _ h9 => h9) (by rw [wh_fld hj, fv, hr]; rfl) hd (kk p l e R s mid args below meth c H locs cells slots Z ls a1 a2 a3 a4 a5 a6 a7 a8)
theorem fits_i {ci j : Nat} {x : Int32} (ht : tyT ci j = .int ∨ (tyT ci j = .boolean ∧ (x = 0 ∨ x = 1))) : narrow (tyT ci j) (.int x) = .int x ∧ fits (tyT ci j) (.int x) = true ∧ rf ci j = false := by
  rcases ht with ht | ⟨ht, rfl | rfl⟩ <;> (unfold rf; rw [ht]; exact ⟨rfl, rfl, rfl⟩)
theorem fits_q {ci j : Nat} (x : Option Nat) (hr : rf ci j = true) : narrow (tyT ci j) (va_rf (iw_b G x)) = va_rf (iw_b G x) ∧ fits (tyT ci j) (va_rf (iw_b G x)) = true := by
  unfold rf at hr
  generalize tyT ci j = t at hr ⊢
  cases t <;> first | (cases hr; done) | (cases x <;> exact ⟨rfl, rfl⟩)
theorem E_putI {idx ci j k n : Nat} {x : Int32} (hd : decode m.2.1 pc = .ok (.putfield idx, 3)) (hf : FLk m.1.cls idx ci j) (hk : h.1[k]? = some (ci + 4, n)) (hj : j < n) (ht : tyT ci j = .int ∨ (tyT ci j = .boolean ∧ (x = 0 ∨ x = 1))) (hfin : fnl ci j = false) (kk : Ev G m d ac az (pc + 3) Ls st (h.1, up2 h.2.1 k j x, h.2.2) Q) : Ev G m d ac az pc Ls (vI x :: vR k :: st) h Q := by
  intro p l e R s mid args below meth c H locs cells slots Z ls a1 a2 a3 a4 a5 a6 a7 a8
  obtain ⟨hx, hb, hml, hown, hts, hK, hX, hg, hfr, hlo, hnm⟩ := id a1
  obtain ⟨⟨C, T, N⟩, hc, hjN, hw⟩ := hf
  obtain ⟨f1, f2, f3⟩ := fits_i ht
  refine va_put (D := G.1) (ci := ci) (v := .int x) (ty := tyT ci j) (C := C) (T := T) (N := N) hx hb hts (cls_in ci _ hc) (tyT ci) (cls_ty ci _ hc) (cls_nm ci _ hc) hown hK.1 a2 (wh_D G h) a4 k (wh_obj hk) hc j hjN (hts _ hw) (fun _ h9 => h9) (by have := hfin; simp only [fnl, hc] at this; exact this) (cls_ty ci _ hc j hjN) f1 f2 (by simpa using hj) hd (fun H1 locs1 hP1 _ hS1 => ?_)
  rw [wh_set_fi f3 hk] at hP1
  exact kk p l e R s mid args below meth c H1 locs1 cells slots Z ls a1 hP1 a3 hS1 a5 a6 a7 a8
theorem E_putFI {idx ci j k n : Nat} {x : Int32} (hd : decode m.2.1 pc = .ok (.putfield idx, 3)) (hf : FLk m.1.cls idx ci j) (hk : h.1[k]? = some (ci + 4, n)) (hj : j < n) (ht : tyT ci j = .int ∨ (tyT ci j = .boolean ∧ (x = 0 ∨ x = 1))) (hfin : fnl ci j = true) (hin : m.1.name = "<init>") (hown2 : own_ ci j = m.1.cls) (kk : Ev G m d ac az (pc + 3) Ls st (h.1, up2 h.2.1 k j x, h.2.2) Q) : Ev G m d ac az pc Ls (vI x :: vR k :: st) h Q := by
  intro p l e R s mid args below meth c H locs cells slots Z ls a1 a2 a3 a4 a5 a6 a7 a8
  obtain ⟨hx, hb, hml, hown, hts, hK, hX, hg, hfr, hlo, hnm⟩ := id a1
  obtain ⟨⟨C, T, N⟩, hc, hjN, hw⟩ := hf
  obtain ⟨f1, f2, f3⟩ := fits_i ht
  refine va_putF (D := G.1) (ci := ci) (v := .int x) (ty := tyT ci j) (C := C) (T := T) (N := N) hx hb hts (cls_in ci _ hc) (tyT ci) (cls_ty ci _ hc) (cls_nm ci _ hc) hown hK.1 a2 (wh_D G h) a4 k (wh_obj hk) hc j hjN (hts _ hw) (fun _ h9 => h9) (by have := hfin; simp only [fnl, hc] at this; exact this) (hnm.trans hin) (by have := hown2; simp only [own_, hc] at this; exact this) (cls_ty ci _ hc j hjN) f1 f2 (by simpa using hj) hd (fun H1 locs1 hP1 _ hS1 => ?_)
  rw [wh_set_fi f3 hk] at hP1
  exact kk p l e R s mid args below meth c H1 locs1 cells slots Z ls a1 hP1 a3 hS1 a5 a6 a7 a8
theorem E_putFQ {idx ci j k n : Nat} {x : Option Nat} (hd : decode m.2.1 pc = .ok (.putfield idx, 3)) (hf : FLk m.1.cls idx ci j) (hk : h.1[k]? = some (ci + 4, n)) (hj : j < n) (hr : rf ci j = true) (hfin : fnl ci j = true) (hin : m.1.name = "<init>") (hown2 : own_ ci j = m.1.cls) (kk : Ev G m d ac az (pc + 3) Ls st (h.1, h.2.1, up3 h.2.2 k j x) Q) : Ev G m d ac az pc Ls (vQ x :: vR k :: st) h Q := by
  intro p l e R s mid args below meth c H locs cells slots Z ls a1 a2 a3 a4 a5 a6 a7 a8
  obtain ⟨hx, hb, hml, hown, hts, hK, hX, hg, hfr, hlo, hnm⟩ := id a1
  obtain ⟨⟨C, T, N⟩, hc, hjN, hw⟩ := hf
  obtain ⟨f1, f2⟩ := fits_q (G := G) x hr
  refine va_putF (D := G.1) (ci := ci) (v := va_rf (iw_b G x)) (ty := tyT ci j) (C := C) (T := T) (N := N) hx hb hts (cls_in ci _ hc) (tyT ci) (cls_ty ci _ hc) (cls_nm ci _ hc) hown hK.1 a2 (wh_D G h) a4 k (wh_obj hk) hc j hjN (hts _ hw) (fun _ h9 => h9) (by have := hfin; simp only [fnl, hc] at this; exact this) (hnm.trans hin) (by have := hown2; simp only [own_, hc] at this; exact this) (cls_ty ci _ hc j hjN) f1 f2 (by simpa using hj) hd (fun H1 locs1 hP1 _ hS1 => ?_)
  rw [wh_set_fq hr hk] at hP1
  exact kk p l e R s mid args below meth c H1 locs1 cells slots Z ls a1 hP1 a3 hS1 a5 a6 a7 a8
theorem in_of {i : Int32} {j n : Nat} (hi : i = nI j) (hj : j < n) (hn : n < 2 ^ 31) : vp_in i n ∧ i.toNatClampNeg = j := by
  subst hi
  exact ⟨vp_in_nI hj hn, nI_clamp (by omega)⟩
theorem E_iald {i : Int32} {j k n : Nat} (hd : decode m.2.1 pc = .ok (.iaload, 1)) (hk : h.1[k]? = some (0, n)) (hi : i = nI j) (hj : j < n) (hn : n < 2 ^ 31) (kk : Ev G m d ac az (pc + 1) Ls (vI (h.2.1 k j) :: st) h Q) : Ev G m d ac az pc Ls (vI i :: vR k :: st) h Q := by
  intro p l e R s mid args below meth c H locs cells slots Z ls a1 a2 a3 a4 a5 a6 a7 a8
  obtain ⟨hx, hb, hml, hown, hts, hK, hX, hg, hfr, hlo, hnm⟩ := id a1
  obtain ⟨g1, g2⟩ := in_of hi hj hn
  refine va_iald (D := G.1) (cA := G.2.1 0) (n := n) (f := h.2.1 k) hx hb hK.1 a2 k 0 (wh_at hk) rfl g1 hd ?_
  rw [g2]
  exact kk p l e R s mid args below meth c H locs cells slots Z ls a1 a2 a3 a4 a5 a6 a7 a8
theorem E_zald {i : Int32} {j k n : Nat} (hd : decode m.2.1 pc = .ok (.baload, 1)) (hk : h.1[k]? = some (1, n)) (hi : i = nI j) (hj : j < n) (hn : n < 2 ^ 31) (kk : Ev G m d ac az (pc + 1) Ls (vI (h.2.1 k j) :: st) h Q) : Ev G m d ac az pc Ls (vI i :: vR k :: st) h Q := by
  intro p l e R s mid args below meth c H locs cells slots Z ls a1 a2 a3 a4 a5 a6 a7 a8
  obtain ⟨hx, hb, hml, hown, hts, hK, hX, hg, hfr, hlo, hnm⟩ := id a1
  obtain ⟨g1, g2⟩ := in_of hi hj hn
  refine va_zald (D := G.1) (cA := G.2.1 1) (n := n) (f := h.2.1 k) hx hb hK.1 a2 k 1 (wh_at hk) rfl g1 hd ?_
  rw [g2]
  exact kk p l e R s mid args below meth c H locs cells slots Z ls a1 a2 a3 a4 a5 a6 a7 a8
theorem E_iast {i x : Int32} {j k n : Nat} (hd : decode m.2.1 pc = .ok (.iastore, 1)) (hk : h.1[k]? = some (0, n)) (hi : i = nI j) (hj : j < n) (hn : n < 2 ^ 31) (kk : Ev G m d ac az (pc + 1) Ls st (h.1, up2 h.2.1 k j x, h.2.2) Q) : Ev G m d ac az pc Ls (vI x :: vI i :: vR k :: st) h Q := by
  intro p l e R s mid args below meth c H locs cells slots Z ls a1 a2 a3 a4 a5 a6 a7 a8
  obtain ⟨hx, hb, hml, hown, hts, hK, hX, hg, hfr, hlo, hnm⟩ := id a1
  obtain ⟨g1, g2⟩ := in_of hi hj hn
  refine va_iast (D := G.1) (cA := G.2.1 0) (n := n) (f := h.2.1 k) hx hb hK.1 a2 (wh_D G h) a4 k 0 (wh_at hk) rfl g1 hd (fun H1 locs1 hP1 _ hS1 => ?_)
  rw [g2, wh_set_i (Or.inl rfl) hk] at hP1
  exact kk p l e R s mid args below meth c H1 locs1 cells slots Z ls a1 hP1 a3 hS1 a5 a6 a7 a8
theorem E_zast {i x : Int32} {j k n : Nat} (hd : decode m.2.1 pc = .ok (.bastore, 1)) (hk : h.1[k]? = some (1, n)) (hi : i = nI j) (hj : j < n) (hn : n < 2 ^ 31) (hx01 : x = 0 ∨ x = 1) (kk : Ev G m d ac az (pc + 1) Ls st (h.1, up2 h.2.1 k j x, h.2.2) Q) : Ev G m d ac az pc Ls (vI x :: vI i :: vR k :: st) h Q := by
  intro p l e R s mid args below meth c H locs cells slots Z ls a1 a2 a3 a4 a5 a6 a7 a8
  obtain ⟨hx, hb, hml, hown, hts, hK, hX, hg, hfr, hlo, hnm⟩ := id a1
  obtain ⟨g1, g2⟩ := in_of hi hj hn
  have hna : vp_nar .boolean x = x := by rcases hx01 with rfl | rfl <;> rfl
  refine va_zast (D := G.1) (cA := G.2.1 1) (n := n) (f := h.2.1 k) hx hb hK.1 a2 (wh_D G h) a4 k 1 (wh_at hk) rfl g1 hd (fun H1 locs1 hP1 _ hS1 => ?_)
  rw [g2, hna, wh_set_i (Or.inr rfl) hk] at hP1
  exact kk p l e R s mid args below meth c H1 locs1 cells slots Z ls a1 hP1 a3 hS1 a5 a6 a7 a8
theorem E_aald2 {i : Int32} {j k n : Nat} (hd : decode m.2.1 pc = .ok (.aaload, 1)) (hk : h.1[k]? = some (2, n)) (hi : i = nI j) (hj : j < n) (hn : n < 2 ^ 31) (kk : Ev G m d ac az (pc + 1) Ls (vQ (h.2.2 k j) :: st) h Q) : Ev G m d ac az pc Ls (vI i :: vR k :: st) h Q := by
  intro p l e R s mid args below meth c H locs cells slots Z ls a1 a2 a3 a4 a5 a6 a7 a8
  obtain ⟨hx, hb, hml, hown, hts, hK, hX, hg, hfr, hlo, hnm⟩ := id a1
  obtain ⟨g1, g2⟩ := in_of hi hj hn
  refine va_aldq (D := G.1) (cA := G.2.1 2) (C := R_Task) (n := n) (f := fun j => iw_b G (h.2.2 k j)) hx hb hK.1 a2 k 2 (wh_at hk) rfl g1 hd ?_
  rw [g2]
  exact kk p l e R s mid args below meth c H locs cells slots Z ls a1 a2 a3 a4 a5 a6 a7 a8
theorem E_aast2 {i : Int32} {j k n v N ci : Nat} (hd : decode m.2.1 pc = .ok (.aastore, 1)) (hk : h.1[k]? = some (2, n)) (hv : h.1[v]? = some (ci + 4, N)) (hcv : ∃ q : vw_C, cls[ci]? = some q ∧ q.1 = R_Task) (hi : i = nI j) (hj : j < n) (hn : n < 2 ^ 31) (kk : Ev G m d ac az (pc + 1) Ls st (h.1, h.2.1, up3 h.2.2 k j (some v)) Q) : Ev G m d ac az pc Ls (vR v :: vI i :: vR k :: st) h Q := by
  intro p l e R s mid args below meth c H locs cells slots Z ls a1 a2 a3 a4 a5 a6 a7 a8
  obtain ⟨hx, hb, hml, hown, hts, hK, hX, hg, hfr, hlo, hnm⟩ := id a1
  obtain ⟨g1, g2⟩ := in_of hi hj hn
  obtain ⟨q, hc, hqn⟩ := hcv
  refine va_astq (D := G.1) (cA := G.2.1 2) (r := q) (n := n) (f := fun j => iw_b G (h.2.2 k j)) hx hb hK.1 a2 (wh_D G h) a4 k 2 v ci (wh_at hk) (by rw [hqn]; rfl) (wh_obj hv) hc g1 hd (fun H1 locs1 hP1 _ hS1 => ?_)
  have hP2 : va_P G.1 cls ((wh G h).set k (G.2.2.1 + k, .inl (G.2.1 2, n, .inr (.inr (.inr (.inr (va_up (fun j => iw_b G (h.2.2 k j)) j (iw_b G (some v)))))))) ) H1 := by rw [g2] at hP1; exact hP1
  rw [wh_set_q (Or.inl rfl) hk] at hP2
  exact kk p l e R s mid args below meth c H1 locs1 cells slots Z ls a1 hP2 a3 hS1 a5 a6 a7 a8
theorem E_aald3 {i : Int32} {j k n : Nat} (hd : decode m.2.1 pc = .ok (.aaload, 1)) (hk : h.1[k]? = some (3, n)) (hi : i = nI j) (hj : j < n) (hn : n < 2 ^ 31) (kk : Ev G m d ac az (pc + 1) Ls (vQ (h.2.2 k j) :: st) h Q) : Ev G m d ac az pc Ls (vI i :: vR k :: st) h Q := by
  intro p l e R s mid args below meth c H locs cells slots Z ls a1 a2 a3 a4 a5 a6 a7 a8
  obtain ⟨hx, hb, hml, hown, hts, hK, hX, hg, hfr, hlo, hnm⟩ := id a1
  obtain ⟨g1, g2⟩ := in_of hi hj hn
  refine va_aldq (D := G.1) (cA := G.2.1 3) (C := R_Pipe) (n := n) (f := fun j => iw_b G (h.2.2 k j)) hx hb hK.1 a2 k 3 (wh_at hk) rfl g1 hd ?_
  rw [g2]
  exact kk p l e R s mid args below meth c H locs cells slots Z ls a1 a2 a3 a4 a5 a6 a7 a8
theorem E_aast3 {i : Int32} {j k n v N ci : Nat} (hd : decode m.2.1 pc = .ok (.aastore, 1)) (hk : h.1[k]? = some (3, n)) (hv : h.1[v]? = some (ci + 4, N)) (hcv : ∃ q : vw_C, cls[ci]? = some q ∧ q.1 = R_Pipe) (hi : i = nI j) (hj : j < n) (hn : n < 2 ^ 31) (kk : Ev G m d ac az (pc + 1) Ls st (h.1, h.2.1, up3 h.2.2 k j (some v)) Q) : Ev G m d ac az pc Ls (vR v :: vI i :: vR k :: st) h Q := by
  intro p l e R s mid args below meth c H locs cells slots Z ls a1 a2 a3 a4 a5 a6 a7 a8
  obtain ⟨hx, hb, hml, hown, hts, hK, hX, hg, hfr, hlo, hnm⟩ := id a1
  obtain ⟨g1, g2⟩ := in_of hi hj hn
  obtain ⟨q, hc, hqn⟩ := hcv
  refine va_astq (D := G.1) (cA := G.2.1 3) (r := q) (n := n) (f := fun j => iw_b G (h.2.2 k j)) hx hb hK.1 a2 (wh_D G h) a4 k 3 v ci (wh_at hk) (by rw [hqn]; rfl) (wh_obj hv) hc g1 hd (fun H1 locs1 hP1 _ hS1 => ?_)
  have hP2 : va_P G.1 cls ((wh G h).set k (G.2.2.1 + k, .inl (G.2.1 3, n, .inr (.inr (.inr (.inr (va_up (fun j => iw_b G (h.2.2 k j)) j (iw_b G (some v)))))))) ) H1 := by rw [g2] at hP1; exact hP1
  rw [wh_set_q (Or.inr rfl) hk] at hP2
  exact kk p l e R s mid args below meth c H1 locs1 cells slots Z ls a1 hP2 a3 hS1 a5 a6 a7 a8
theorem E_alen0 {k n : Nat} (hd : decode m.2.1 pc = .ok (.arraylength, 1)) (hk : h.1[k]? = some (0, n)) (kk : Ev G m d ac az (pc + 1) Ls (vI (nI n) :: st) h Q) : Ev G m d ac az pc Ls (vR k :: st) h Q := by
  intro p l e R s mid args below meth c H locs cells slots Z ls a1 a2 a3 a4 a5 a6 a7 a8
  exact va_alen (D := G.1) (cA := G.2.1 0) a1.1 a1.2.1 a1.2.2.2.2.2.1.1 a2 k 0 (wh_at hk) rfl rfl hd (kk p l e R s mid args below meth c H locs cells slots Z ls a1 a2 a3 a4 a5 a6 a7 a8)
theorem E_alen1 {k n : Nat} (hd : decode m.2.1 pc = .ok (.arraylength, 1)) (hk : h.1[k]? = some (1, n)) (kk : Ev G m d ac az (pc + 1) Ls (vI (nI n) :: st) h Q) : Ev G m d ac az pc Ls (vR k :: st) h Q := by
  intro p l e R s mid args below meth c H locs cells slots Z ls a1 a2 a3 a4 a5 a6 a7 a8
  exact va_alen (D := G.1) (cA := G.2.1 1) a1.1 a1.2.1 a1.2.2.2.2.2.1.1 a2 k 1 (wh_at hk) rfl rfl hd (kk p l e R s mid args below meth c H locs cells slots Z ls a1 a2 a3 a4 a5 a6 a7 a8)
theorem E_sld {i : Int32} {j : Nat} (hd : decode m.2.1 pc = .ok (.iaload, 1)) (hi : i = nI j) (hj : j < G.2.2.2.2.1) (hn : G.2.2.2.2.1 < 2 ^ 31) (kk : Ev G m d ac az (pc + 1) Ls (vI (G.2.2.2.2.2 j) :: st) h Q) : Ev G m d ac az pc Ls (vI i :: vS :: st) h Q := by
  intro p l e R s mid args below meth c H locs cells slots Z ls a1 a2 a3 a4 a5 a6 a7 a8
  obtain ⟨hx, hb, hml, hown, hts, hK, hX, hg, hfr, hlo, hnm⟩ := id a1
  obtain ⟨g1, g2⟩ := in_of hi hj hn
  refine va_sld (A := gA G) hx hb hX.1 (Nat.lt_of_lt_of_le hX.2 hg) (Nat.not_le.mpr hX.2) a4 g1 hd ?_
  rw [g2]
  exact kk p l e R s mid args below meth c H locs cells slots Z ls a1 a2 a3 a4 a5 a6 a7 a8
theorem E_slen (hd : decode m.2.1 pc = .ok (.arraylength, 1)) (kk : Ev G m d ac az (pc + 1) Ls (vI (nI G.2.2.2.2.1) :: st) h Q) : Ev G m d ac az pc Ls (vS :: st) h Q := by
  intro p l e R s mid args below meth c H locs cells slots Z ls a1 a2 a3 a4 a5 a6 a7 a8
  obtain ⟨hx, hb, hml, hown, hts, hK, hX, hg, hfr, hlo, hnm⟩ := id a1
  exact va_slen (A := gA G) hx hb hX.1 (Nat.lt_of_lt_of_le hX.2 hg) (Nat.not_le.mpr hX.2) a4 hd (kk p l e R s mid args below meth c H locs cells slots Z ls a1 a2 a3 a4 a5 a6 a7 a8)
end EV
end
section
section EC
variable {G : iG} {m : iM} {d ac az pc : Nat} {Ls : List (Option iV)} {st : List iV} {h : iH} {Q : Option iV → iH → Prop}
theorem sz_of {s : State} {H : Heap} {locs : List Loc} (a2 : Wd G h H) (a4 : va_S (gA G) s.heap H locs) (hg : G.2.2.1 ≤ s.heap.size) (hle : H.size ≤ G.2.2.1 + h.1.length) : H.size = G.2.2.1 + h.1.length := by
  have h1 := a4.1
  by_cases h0 : h.1.length = 0
  · omega
  · have hk : h.1[h.1.length - 1]? = some (h.1[h.1.length - 1]'(by omega)) := List.getElem?_eq_getElem (by omega)
    have h2 : G.2.2.1 + (h.1.length - 1) < H.size := (a2 _ _ (wh_at hk)).lt
    omega
theorem W_size {p : Program} {l : Launch} {e : Env} {R : Room} {s : State} {mid : MethodId} {args : Array Value} {below : List Frame} {meth : Method} {c : Code} {H : Heap} {locs : List Loc} {cells slots : Nat} {Z : State → Prop} {g : JFrame} (k : H.size ≤ s.heap.size + cells → W p l e R s mid args below meth c H locs cells slots Z g) : W p l e R s mid args below meth c H locs cells slots Z g := fun T hT X => k (by rw [← hT]; exact X.heapSize) T hT X
theorem Pm_blind (As : List Value) : FrameBlind (va_Pc As (Pm G h)) := fun a U g mk q => by
  obtain ⟨q0, q1, q2, q3, q4⟩ := q
  exact ⟨q0, q1, q2, q3.moved (u := U) (U := U.calling g mk a) (Vm.Alike.refl U.vm), q4.same rfl⟩
theorem Pm_at {s U : State} {H : Heap} {locs : List Loc} (a2 : Wd G h H) (a4 : va_S (gA G) s.heap H locs) (hX : Xs G s s.heap) (hg : G.2.2.1 ≤ s.heap.size) (hK : KK G s) (hsz : H.size = G.2.2.1 + h.1.length) (hU : U.heap = H) (hW : s.WarmedH U.vm) : Pm G h U := by
  refine ⟨by rw [hU]; exact a2, by rw [hU]; exact hsz, ?_, hK.warm hW⟩
  rw [hU]
  exact Xs.moved hW.alike ⟨hX.1.kept (a4.2.1 _ (Nat.lt_of_lt_of_le hX.2 hg) (Nat.not_le.mpr hX.2)), hX.2⟩
/-- behind a call -/
theorem Ev_run {p : Program} {l : Launch} {e : Env} {R : Room} {s : State} {mid : MethodId} {args : Array Value} {below : List Frame} {meth : Method} {c : Code} {H : Heap} {locs : List Loc} {cells slots : Nat} {Z : State → Prop} {ls : Array Slot} {stv : List Value} {rest : List iV} {ac2 az2 : Nat} {Q2 : Option iV → iH → Prop}
    (a1 : Cx G m d p R s mid args meth c) (a3 : s.heap.size + cells = G.2.2.1 + h.1.length) (a4 : va_S (gA G) s.heap H locs) (a5 : lh G ls m.2.2.1 Ls) (a6 : cells + ac ≤ R.cells) (a7 : slots + az ≤ R.slots)
    (a8 : ∀ (H' : Heap) (locs' : List Loc) (slots' : Nat) (r : Option iV) (h' : iH) (pc' : Nat) (ls' : Array Slot), Q r h' → Wd G h' H' → s.heap.size + (cells + ac) = G.2.2.1 + h'.1.length → va_S (gA G) s.heap H' locs' → slots' ≤ slots + az → Rt m pc' r → W p l e R s mid args below meth c H' locs' (cells + ac) slots' Z (F0 mid pc' ls' (r.toList.map (tv G))))
    (hc : ac2 ≤ ac) (hz : az2 ≤ az) (hr : va_Run p l e R s mid args below meth c H locs cells slots ac2 az2 (F0 mid pc ls stv) (rest.map (tv G)) (fun st oc t => Qm G ac2 h Q2 st oc t) (gA G))
    (kk : ∀ r h', Q2 r h' → Ev G m d (ac - ac2) (az - az2) (pc + 3) Ls (r.toList ++ rest) h' Q) : W p l e R s mid args below meth c H locs cells slots Z (F0 mid pc ls stv) := by
  intro T hT X
  obtain ⟨v, st₀, t, T', L, h0, X', hL, e1, e2, ⟨⟨r, h', hv, hq, hW', hn'⟩, hzz, hk⟩, stp⟩ := hr T hT X
  have hv : v = r.map (tv G) := by injection hv
  rw [h0] at hzz hk
  have hcc : cells + ac2 + (ac - ac2) = cells + ac := by omega
  obtain ⟨t2, b1, b2⟩ := kk r h' hq p l e R s mid args below meth c T'.heap (locs ++ L) (cells + ac2) (slots + az2) Z ls a1 (by rw [e1]; exact hW') (by omega)
    ⟨Nat.le_trans a4.1 (by rw [e1]; exact hzz), fun q h1 h2 => by rw [e1, hk q (Nat.lt_of_lt_of_le h1 a4.1) h2]; exact a4.2.1 q h1 h2, fun q hq => by
      rcases List.mem_append.mp hq with h | h
      · exact a4.2.2 q h
      · exact hL q h⟩ a5 (by omega) (by omega)
    (fun H1 locs1 slots1 r1 h1 pc1 ls1 c1 c2 c3 c4 c5 c6 => by rw [hcc] at c3 ⊢; exact a8 H1 locs1 slots1 r1 h1 pc1 ls1 c1 c2 c3 c4 (by omega) c6) T' rfl X'
  refine ⟨t2, stp t2 ?_, b2⟩
  subst hv
  cases r with
  | none => exact b1
  | some w => exact b1
def CMk (m2 : iM) (n : Nat) : Prop := Cond.initialized m2.1.cls ∈ gw ∧ Cond.code m2.1 m2.2.1 m2.2.2.1 m2.2.2.2 ∈ gw ∧ m2.2.2.1 ≤ 17 ∧
  (m2.1.cls ≠ "java/lang/invoke/MethodHandle" ∧ m2.1.cls ≠ "java/lang/invoke/VarHandle" ∧ (parseMethodDescriptor m2.1.desc).map (fun d => d.parameters.length) = some n)
def CBk (own : String) (idx : Nat) (m2 : iM) (n : Nat) : Prop := Cond.methodLink own idx m2.1 ∈ gw ∧ CMk m2 n
def VMk (ci : Nat) (m2 : iM) (n : Nat) : Prop := CMk m2 n ∧ Cond.instanceMethod m2.1 ∈ gw ∧ Cond.selects m2.1.cls m2.1 m2.1 ∈ gw ∧ ∃ q : vw_C, cls[ci]? = some q ∧ q.1 = m2.1.cls
def CVk (own : String) (idx ci : Nat) (m2 : iM) (n : Nat) : Prop := Cond.methodLink own idx m2.1 ∈ gw ∧ VMk ci m2 n
def SMk (m2 : iM) (n : Nat) : Prop := CMk m2 n ∧ Cond.static m2.1 ∈ gw
def CSk (own : String) (idx : Nat) (m2 : iM) (n : Nat) : Prop := Cond.methodLink own idx m2.1 ∈ gw ∧ SMk m2 n
def IMk (m2 : iM) (n : Nat) : Prop := CMk m2 n ∧ m2.1.name = "<init>" ∧ Cond.instanceMethod m2.1 ∈ gw ∧ m2.2.2.2 = none
def CIk (own : String) (idx : Nat) (m2 : iM) (n : Nat) : Prop := Cond.methodLink own idx m2.1 ∈ gw ∧ IMk m2 n
theorem CB_of {R : Room} {s : State} {args : Array Value} {own : String} {idx : Nat} {m2 : iM} {n d2 ac2 az2 : Nat} (hB : CBk own idx m2 n) (hts : ∀ w ∈ gw, w.before args s = true) (hd2 : d2 + 1 ≤ d) (hfr : d ≤ R.frames) (hlo : 36 * d ≤ R.locals) : CallB R s args own idx m2.1 m2.2.1 m2.2.2.1 m2.2.2.2 (mw m2) (rm d2 ac2 az2) ac2 az2 n := by
  obtain ⟨h1, h2, h3, h4, h5⟩ := hB
  exact callB_of (Ts := gw) n hts (gw_in h3) rfl rfl rfl (hts _ h2) (hts _ h1) h5 ⟨by show d2 + 1 ≤ R.frames; omega, by show 8 + (m2.2.2.1 + 11) + 36 * d2 ≤ R.locals; omega⟩
theorem cat_sum (rest : List iV) : ((rest.map (tv G)).map fun v => v.category).sum = (rest.map ct).sum := by
  rw [List.map_map]
  congr 1
  apply List.map_congr_left
  intro v _
  exact tv_ct G v
/-- a call by invokevirtual; As: the arguments, the last one on top -/
theorem E_callV {idx ci n k N d2 ac2 az2 : Nat} {m2 : iM} {As rest : List iV} {Q2 : Option iV → iH → Prop} (hd : decode m.2.1 pc = .ok (.invokevirtual idx, 3)) (hw : CVk m.1.cls idx ci m2 n) (hk : h.1[k]? = some (ci + 4, N)) (hd2 : d2 + 1 ≤ d) (hc : ac2 ≤ ac) (hz : az2 ≤ az) (hn : As.length = n) (hst : st = As.reverse ++ vR k :: rest) (hrest : (rest.map ct).sum ≤ 8)
    (hM : Mt G m2 d2 ac2 az2 (vR k :: As) h Q2) (kk : ∀ r h', Q2 r h' → Ev G m d (ac - ac2) (az - az2) (pc + 3) Ls (r.toList ++ rest) h' Q) : Ev G m d ac az pc Ls st h Q := by
  intro p l e R s mid args below meth c H locs cells slots Z ls a1 a2 a3 a4 a5 a6 a7 a8
  obtain ⟨hx, hb, hml, hown, hts, hK, hX, hg, hfr, hlo, hnm⟩ := id a1
  refine W_size (fun hle => ?_)
  have hsz := sz_of a2 a4 hg (by omega)
  obtain ⟨hlk, hC, hin, hse, q, hcq, hqc⟩ := hw
  have hB : CBk m.1.cls idx m2 n := ⟨hlk, hC⟩
  have hrecv := va_recv hK.1 a2 hcq (wh_obj hk)
  rw [hqc] at hrecv
  refine Ev_run a1 a3 a4 a5 a6 a7 a8 hc hz (rest := rest) (Q2 := Q2) ?_ kk
  exact va_runV (As := As.map (tv G)) (rest := rest.map (tv G)) (b := G.2.2.1 + k) (Ts := gw) (C := m2.1.cls) ⟨hx, hb, hml, hown, hts⟩ (hM l) ⟨CB_of hB hts hd2 hfr hlo, hts _ hin, hts _ hse⟩ ⟨Pm_blind _, hrecv, fun U hU hW => ⟨rfl, Pm_at a2 a4 hX hg hK hsz hU hW⟩⟩ rfl (by rw [List.length_map]; exact hn) a5.1.1 (by rw [hst]; show List.map (tv G) _ = _; rw [List.map_append, List.map_reverse]; rfl) (lv_room (by rw [cat_sum]; exact hrest)) hd ⟨by omega, by omega⟩
theorem E_callS {idx n d2 ac2 az2 : Nat} {m2 : iM} {As rest : List iV} {Q2 : Option iV → iH → Prop} (hd : decode m.2.1 pc = .ok (.invokestatic idx, 3)) (hw : CSk m.1.cls idx m2 n) (hd2 : d2 + 1 ≤ d) (hc : ac2 ≤ ac) (hz : az2 ≤ az) (hn : As.length = n) (hst : st = As.reverse ++ rest) (hrest : (rest.map ct).sum ≤ 8)
    (hM : Mt G m2 d2 ac2 az2 As h Q2) (kk : ∀ r h', Q2 r h' → Ev G m d (ac - ac2) (az - az2) (pc + 3) Ls (r.toList ++ rest) h' Q) : Ev G m d ac az pc Ls st h Q := by
  intro p l e R s mid args below meth c H locs cells slots Z ls a1 a2 a3 a4 a5 a6 a7 a8
  obtain ⟨hx, hb, hml, hown, hts, hK, hX, hg, hfr, hlo, hnm⟩ := id a1
  refine W_size (fun hle => ?_)
  have hsz := sz_of a2 a4 hg (by omega)
  obtain ⟨hlk, hC, hsta⟩ := hw
  have hB : CBk m.1.cls idx m2 n := ⟨hlk, hC⟩
  refine Ev_run a1 a3 a4 a5 a6 a7 a8 hc hz (rest := rest) (Q2 := Q2) ?_ kk
  exact va_runS (As := As.map (tv G)) (rest := rest.map (tv G)) (Ts := gw) ⟨hx, hb, hml, hown, hts⟩ (hM l) ⟨CB_of hB hts hd2 hfr hlo, hts _ hsta⟩ ⟨Pm_blind _, fun U hU hW => ⟨rfl, Pm_at a2 a4 hX hg hK hsz hU hW⟩⟩ rfl (by rw [List.length_map]; exact hn) a5.1.1 (by rw [hst]; show List.map (tv G) _ = _; rw [List.map_append, List.map_reverse]) (lv_room (by rw [cat_sum]; exact hrest)) hd ⟨by omega, by omega⟩
theorem E_callI {idx n k d2 ac2 az2 : Nat} {m2 : iM} {As rest : List iV} {Q2 : Option iV → iH → Prop} (hd : decode m.2.1 pc = .ok (.invokespecial idx, 3)) (hw : CIk m.1.cls idx m2 n) (hd2 : d2 + 1 ≤ d) (hc : ac2 ≤ ac) (hz : az2 ≤ az) (hn : As.length = n) (hst : st = As.reverse ++ vR k :: rest) (hrest : (rest.map ct).sum ≤ 8)
    (hM : Mt G m2 d2 ac2 az2 (vR k :: As) h Q2) (kk : ∀ r h', Q2 r h' → Ev G m d (ac - ac2) (az - az2) (pc + 3) Ls (r.toList ++ rest) h' Q) : Ev G m d ac az pc Ls st h Q := by
  intro p l e R s mid args below meth c H locs cells slots Z ls a1 a2 a3 a4 a5 a6 a7 a8
  obtain ⟨hx, hb, hml, hown, hts, hK, hX, hg, hfr, hlo, hnm⟩ := id a1
  refine W_size (fun hle => ?_)
  have hsz := sz_of a2 a4 hg (by omega)
  obtain ⟨hlk, hC, hy, hin, hret⟩ := hw
  have hB : CBk m.1.cls idx m2 n := ⟨hlk, hC⟩
  have hCB := CB_of (R := R) (s := s) (args := args) (d2 := d2) (ac2 := ac2) (az2 := az2) hB hts hd2 hfr hlo
  rw [hret] at hCB
  refine Ev_run a1 a3 a4 a5 a6 a7 a8 hc hz (rest := rest) (Q2 := Q2) ?_ kk
  exact va_runI (As := As.map (tv G)) (rest := rest.map (tv G)) (b := G.2.2.1 + k) (Ts := gw) ⟨hx, hb, hml, hown, hts⟩ (hM l) ⟨hCB, hy, hts _ hin⟩ ⟨Pm_blind _, fun U hU hW => ⟨rfl, Pm_at a2 a4 hX hg hK hsz hU hW⟩⟩ rfl (by rw [List.length_map]; exact hn) a5.1.1 (by rw [hst]; show List.map (tv G) _ = _; rw [List.map_append, List.map_reverse]; rfl) (lv_room (by rw [cat_sum]; exact hrest)) hd ⟨by omega, by omega⟩
theorem E_callN {idx n k d2 ac2 az2 : Nat} {m2 : iM} {As rest : List iV} {Q2 : Option iV → iH → Prop} (hd : decode m.2.1 pc = .ok (.invokespecial idx, 3)) (hw : IMk m2 n) (hown0 : m.1.cls = "PagedKernel") (hnest : (idx = 39 ∧ m2.1 = yN_P) ∨ (idx = 42 ∧ m2.1 = yN_R)) (hd2 : d2 + 1 ≤ d) (hc : ac2 ≤ ac) (hz : az2 ≤ az) (hn : As.length = n) (hst : st = As.reverse ++ vR k :: rest) (hrest : (rest.map ct).sum ≤ 8)
    (hM : Mt G m2 d2 ac2 az2 (vR k :: As) h Q2) (kk : ∀ r h', Q2 r h' → Ev G m d (ac - ac2) (az - az2) (pc + 3) Ls (r.toList ++ rest) h' Q) : Ev G m d ac az pc Ls st h Q := by
  intro p l e R s mid args below meth c H locs cells slots Z ls a1 a2 a3 a4 a5 a6 a7 a8
  obtain ⟨hx, hb, hml, hown, hts, hK, hX, hg, hfr, hlo, hnm⟩ := id a1
  refine W_size (fun hle => ?_)
  have hsz := sz_of a2 a4 hg (by omega)
  obtain ⟨⟨h2, h3, h4, h5⟩, hy, hin, hret⟩ := hw
  have hl : va_Nw (.methodLinkNest m.1.cls idx m2.1 "PagedKernel") s := by
    rw [hown0]
    rcases hnest with ⟨rfl, e⟩ | ⟨rfl, e⟩
    · rw [e]; exact hK.2.2.2.1
    · rw [e]; exact hK.2.2.2.2
  have hCN : va_CN R s args m.1.cls idx m2.1 "PagedKernel" m2.2.1 m2.2.2.1 m2.2.2.2 (mw m2) (rm d2 ac2 az2) ac2 az2 n := va_cnB (Ts := gw) n hts (gw_in h3) rfl rfl rfl hl (hts _ h2) h5 ⟨by show d2 + 1 ≤ R.frames; omega, by show 8 + (m2.2.2.1 + 11) + 36 * d2 ≤ R.locals; omega⟩
  rw [hret] at hCN
  refine Ev_run a1 a3 a4 a5 a6 a7 a8 hc hz (rest := rest) (Q2 := Q2) ?_ kk
  exact va_runIN (As := As.map (tv G)) (rest := rest.map (tv G)) (b := G.2.2.1 + k) (Ts := gw) ⟨hx, hb, hml, hown, hts⟩ (hM l) ⟨hCN, hy, hts _ hin⟩ ⟨Pm_blind _, fun U hU hW => ⟨rfl, Pm_at a2 a4 hX hg hK hsz hU hW⟩⟩ rfl (by rw [List.length_map]; exact hn) a5.1.1 (by rw [hst]; show List.map (tv G) _ = _; rw [List.map_append, List.map_reverse]; rfl) (lv_room (by rw [cat_sum]; exact hrest)) hd ⟨by omega, by omega⟩
theorem E_objInit {idx k : Nat} (hd : decode m.2.1 pc = .ok (.invokespecial idx, 3)) (hw : Cond.methodLink m.1.cls idx Lib.objectInit ∈ gw ∧ Cond.instanceMethod Lib.objectInit ∈ gw ∧ Cond.code Lib.objectInit ⟨#[0xb1]⟩ 1 none ∈ gw) (hd2 : 1 ≤ d) (hrest : (st.map ct).sum ≤ 8) (k0 : Ev G m d ac az (pc + 3) Ls st h Q) : Ev G m d ac az pc Ls (vR k :: st) h Q := by
  intro p l e R s mid args below meth c H locs cells slots Z ls a1 a2 a3 a4 a5 a6 a7 a8
  obtain ⟨hx, hb, hml, hown, hts, hK, hX, hg, hfr, hlo, hnm⟩ := id a1
  refine W.objInit (g := F0 mid pc ls (.ref (G.2.2.1 + k) :: st.map (tv G))) hx hb hown (hts _ hw.1) (hts _ hw.2.1) (hts _ hw.2.2) rfl (by rw [hml]; exact a5.1.1) rfl hd (by omega) ?_ (k0 p l e R s mid args below meth c H locs cells slots Z ls a1 a2 a3 a4 a5 a6 a7 a8)
  show 2 * 0 + _ + 12 ≤ _
  rw [cat_sum]
  omega
/-- σ with row k put to f -/
def upk (σ : Nat → Nat → Int32) (k : Nat) (f : Nat → Int32) : Nat → Nat → Int32 := fun k' j' => if k' = k then f j' else σ k' j'
theorem wh_set_k {k n : Nat} {f : Nat → Int32} (hk : h.1[k]? = some (0, n)) : (wh G h).set k (G.2.2.1 + k, .inl (G.2.1 0, n, .inl f)) = wh G (h.1, upk h.2.1 k f, h.2.2) := by
  refine wh_set (h' := (h.1, upk h.2.1 k f, h.2.2)) (kn := (0, n)) rfl hk ?_ (fun i kn' hi _ => en_ne (h := h) (h' := (h.1, upk h.2.1 k f, h.2.2)) (by funext j; simp [upk, hi]) rfl kn')
  show Sum.inl (_, _, _) = Sum.inl (_, _, _)
  rw [show (h.1, upk h.2.1 k f, h.2.2).2.1 k = f by funext j; simp [upk]]
theorem E_copy {idx k0 k1 n0 n1 a b n : Nat} {sp dp nn : Int32} (hd : decode m.2.1 pc = .ok (.invokestatic idx, 3)) (hw : Cond.methodLink m.1.cls idx arraycopyName ∈ gw ∧ Cond.native arraycopyName ∈ gw ∧ Cond.static arraycopyName ∈ gw ∧ Cond.initialized "java/lang/System" ∈ gw) (hd2 : 1 ≤ d) (hrest : (st.map ct).sum ≤ 8)
    (hk0 : h.1[k0]? = some (0, n0)) (hk1 : h.1[k1]? = some (0, n1)) (hsp : sp = nI a) (hdp : dp = nI b) (hnn : nn = nI n) (hn0 : a + n ≤ n0) (hn1 : b + n ≤ n1) (hb0 : n0 < 2 ^ 31) (hb1 : n1 < 2 ^ 31)
    (kk : Ev G m d ac az (pc + 3) Ls st (h.1, upk h.2.1 k1 (va_cpy (h.2.1 k0) (h.2.1 k1) a b n), h.2.2) Q) : Ev G m d ac az pc Ls (vI nn :: vI dp :: vR k1 :: vI sp :: vR k0 :: st) h Q := by
  intro p l e R s mid args below meth c H locs cells slots Z ls a1 a2 a3 a4 a5 a6 a7 a8
  obtain ⟨hx, hb, hml, hown, hts, hK, hX, hg, hfr, hlo, hnm⟩ := id a1
  have ea : sp.toNatClampNeg = a := by rw [hsp]; exact nI_clamp (by omega)
  have eb : dp.toNatClampNeg = b := by rw [hdp]; exact nI_clamp (by omega)
  have en' : nn.toNatClampNeg = n := by rw [hnn]; exact nI_clamp (by omega)
  have hnw : nativeFrameWords "java/lang/System" "arraycopy" 5 + 11 ≤ 28 := by decide
  refine va_copyi (D := G.1) (c0 := G.2.1 0) (c1 := G.2.1 0) (ty := .int) hx hb (by rw [hml]; exact a5.1.1.symm) hown (hts _ hw.1) (hts _ hw.2.1) (hts _ hw.2.2.1) (hts _ hw.2.2.2) hK.1 a2 (wh_D G h) a4 k0 k1 0 0 (wh_at hk0) (wh_at hk1) rfl rfl rfl (by rw [hsp]; exact nI_pos (by omega)) (by rw [hdp]; exact nI_pos (by omega)) (by rw [hnn]; exact nI_pos (by omega)) (by rw [ea, en']; exact hn0) (by rw [eb, en']; exact hn1) (fun _ _ => rfl) (by omega) (by rw [cat_sum]; omega) hd (fun H1 locs1 hP1 _ hS1 => ?_)
  rw [ea, eb, en', wh_set_k hk1] at hP1
  exact kk p l e R s mid args below meth c H1 locs1 cells slots Z ls a1 hP1 a3 hS1 a5 a6 a7 a8
def zr (σ : Nat → Nat → Int32) (n : Nat) : Nat → Nat → Int32 := fun k j => if k = n then 0 else σ k j
def zq (ρ : Nat → Nat → Option Nat) (n : Nat) : Nat → Nat → Option Nat := fun k j => if k = n then none else ρ k j
/-- the world with one more cell -/
def hpush (h : iH) (kn : Nat × Nat) : iH := (h.1 ++ [kn], zr h.2.1 h.1.length, zq h.2.2 h.1.length)
theorem wh_push (kn : Nat × Nat) : wh G h ++ [(G.2.2.1 + h.1.length, en G (hpush h kn) h.1.length kn)] = wh G (hpush h kn) := by
  apply List.ext_getElem?
  intro i
  have hl : (wh G h).length = h.1.length := by simp [wh]
  rcases Nat.lt_trichotomy i h.1.length with hi | hi | hi
  · rw [List.getElem?_append_left (by omega)]
    have e1 : h.1[i]? = some (h.1[i]) := List.getElem?_eq_getElem hi
    have e2 : (hpush h kn).1[i]? = some (h.1[i]) := by
      show (h.1 ++ [kn])[i]? = _
      rw [List.getElem?_append_left hi, e1]
    rw [wh_at e1, wh_at e2]
    have hne : i ≠ h.1.length := by omega
    rw [en_ne (h := h) (h' := hpush h kn) (by funext j; simp [hpush, zr, hne]) (by funext j; simp [hpush, zq, hne])]
  · subst hi
    have e2 : (hpush h kn).1[h.1.length]? = some kn := by
      show (h.1 ++ [kn])[_]? = _
      simp
    rw [wh_at e2, List.getElem?_append_right (by omega), hl]
    simp
  · have e2 : (hpush h kn).1[i]? = none := by
      show (h.1 ++ [kn])[i]? = _
      simp; omega
    rw [wh, List.getElem?_append_right (by simp; omega), wh, List.getElem?_mapIdx, e2]
    simp; omega
theorem q_of {q : Nat} {e : va_E} {H1 : Heap} (hP1 : va_P G.1 cls (wh G h ++ [(q, e)]) H1) (hD1 : va_D (gA G) (wh G h ++ [(q, e)])) (hsz : H1.size ≤ G.2.2.1 + h.1.length + 1) : q = G.2.2.1 + h.1.length := by
  have hl : (wh G h).length = h.1.length := by simp [wh]
  have hlast : (wh G h ++ [(q, e)])[h.1.length]? = some (q, e) := by
    rw [List.getElem?_append_right (by omega), hl]
    simp
  have h1 : q < H1.size := (hP1 _ _ hlast).lt
  have h2 : G.2.2.1 ≤ q := hD1.2 _ _ hlast
  by_cases h3 : q < G.2.2.1 + h.1.length
  · exfalso
    have hk : q - G.2.2.1 < h.1.length := by omega
    have h4 := wh_at (G := G) (h := h) (List.getElem?_eq_getElem hk)
    have h5 : (wh G h ++ [(q, e)])[q - G.2.2.1]? = some (G.2.2.1 + (q - G.2.2.1), en G h (q - G.2.2.1) (h.1[q - G.2.2.1])) := by
      rw [List.getElem?_append_left (by omega)]
      exact h4
    have h6 := hD1.1 _ _ _ _ h5 hlast (by show G.2.2.1 + (q - G.2.2.1) = q; omega)
    omega
  · omega
theorem E_newA0 {x : Int32} {N : Nat} (hd : decode m.2.1 pc = .ok (.newarray .int, 2)) (har : Cond.arrayClass .int ∈ gw) (hx : x = nI N) (hN : N ≤ 100000) (hac : 1 ≤ ac) (haz : N ≤ az) (kk : Ev G m d (ac - 1) (az - N) (pc + 2) Ls (vR h.1.length :: st) (hpush h (0, N)) Q) : Ev G m d ac az pc Ls (vI x :: st) h Q := by
  intro p l e R s mid args below meth c H locs cells slots Z ls a1 a2 a3 a4 a5 a6 a7 a8
  obtain ⟨hxx, hb, hml, hown, hts, hK, hX, hg, hfr, hlo, hnm⟩ := id a1
  refine va_newa (atype := .int) (D := G.1) (A := gA G) (ty := .int) (N' := N) (a0 := (N, .inl (fun _ => 0))) hxx hb (hts _ har) rfl hK.1 a2 (wh_D G h) a4 (fun q hq => Nat.le_trans hg hq) (fun _ => rfl) (by rw [hx]; exact nI_pos (by omega)) (by rw [hx]; exact nI_clamp (by omega)) (by show N * _ ≤ _; simp only [componentBytes]; omega) (by omega) (by omega) hd (fun q cA H1 hK1 hP1 hD1 hS1 => ?_)
  refine W_size (fun hle => ?_)
  have hq := q_of hP1 hD1 (by omega)
  have hcA : cA = G.2.1 0 := Option.some.inj ((hK1.2 4 (cA, .int) rfl).2.symm.trans (hK.1.2 0 (G.2.1 0, .int) rfl).2)
  subst hq hcA
  have hP2 : va_P G.1 cls (wh G (hpush h (0, N))) H1 := by
    rw [← wh_push]
    have e : en G (hpush h (0, N)) h.1.length (0, N) = .inl (G.2.1 0, N, .inl (fun _ => 0)) := by
      show Sum.inl (_, _, _) = _
      rw [show (hpush h (0, N)).2.1 h.1.length = fun _ => 0 by funext j; simp [hpush, zr]]
    rw [e]
    exact hP1
  have hcc : cells + 1 + (ac - 1) = cells + ac := by omega
  exact kk p l e R s mid args below meth c H1 locs (cells + 1) (slots + N) Z ls a1 hP2 (by simp only [hpush, List.length_append, List.length_singleton]; omega) hS1 a5 (by omega) (by omega) (fun H1 locs1 slots1 r1 h1 pc1 ls1 c1 c2 c3 c4 c5 c6 => by rw [hcc] at c3 ⊢; exact a8 H1 locs1 slots1 r1 h1 pc1 ls1 c1 c2 c3 c4 (by omega) c6)
theorem E_newA1 {x : Int32} {N : Nat} (hd : decode m.2.1 pc = .ok (.newarray .boolean, 2)) (har : Cond.arrayClass .boolean ∈ gw) (hx : x = nI N) (hN : N ≤ 100000) (hac : 1 ≤ ac) (haz : N ≤ az) (kk : Ev G m d (ac - 1) (az - N) (pc + 2) Ls (vR h.1.length :: st) (hpush h (1, N)) Q) : Ev G m d ac az pc Ls (vI x :: st) h Q := by
  intro p l e R s mid args below meth c H locs cells slots Z ls a1 a2 a3 a4 a5 a6 a7 a8
  obtain ⟨hxx, hb, hml, hown, hts, hK, hX, hg, hfr, hlo, hnm⟩ := id a1
  refine va_newa (atype := .boolean) (D := G.1) (A := gA G) (ty := .boolean) (N' := N) (a0 := (N, .inl (fun _ => 0))) hxx hb (hts _ har) rfl hK.1 a2 (wh_D G h) a4 (fun q hq => Nat.le_trans hg hq) (fun _ => rfl) (by rw [hx]; exact nI_pos (by omega)) (by rw [hx]; exact nI_clamp (by omega)) (by show N * _ ≤ _; simp only [componentBytes]; omega) (by omega) (by omega) hd (fun q cA H1 hK1 hP1 hD1 hS1 => ?_)
  refine W_size (fun hle => ?_)
  have hq := q_of hP1 hD1 (by omega)
  have hcA : cA = G.2.1 1 := Option.some.inj ((hK1.2 4 (cA, .boolean) rfl).2.symm.trans (hK.1.2 1 (G.2.1 1, .boolean) rfl).2)
  subst hq hcA
  have hP2 : va_P G.1 cls (wh G (hpush h (1, N))) H1 := by
    rw [← wh_push]
    have e : en G (hpush h (1, N)) h.1.length (1, N) = .inl (G.2.1 1, N, .inl (fun _ => 0)) := by
      show Sum.inl (_, _, _) = _
      rw [show (hpush h (1, N)).2.1 h.1.length = fun _ => 0 by funext j; simp [hpush, zr]]
    rw [e]
    exact hP1
  have hcc : cells + 1 + (ac - 1) = cells + ac := by omega
  exact kk p l e R s mid args below meth c H1 locs (cells + 1) (slots + N) Z ls a1 hP2 (by simp only [hpush, List.length_append, List.length_singleton]; omega) hS1 a5 (by omega) (by omega) (fun H1 locs1 slots1 r1 h1 pc1 ls1 c1 c2 c3 c4 c5 c6 => by rw [hcc] at c3 ⊢; exact a8 H1 locs1 slots1 r1 h1 pc1 ls1 c1 c2 c3 c4 (by omega) c6)
theorem E_newA2 {x : Int32} {N idx : Nat} (hd : decode m.2.1 pc = .ok (.anewarray idx, 3)) (hcl : Cond.classLink m.1.cls idx R_Task ∈ gw) (hx : x = nI N) (hN : N ≤ 100000) (hac : 1 ≤ ac) (haz : N ≤ az) (kk : Ev G m d (ac - 1) (az - N) (pc + 3) Ls (vR h.1.length :: st) (hpush h (2, N)) Q) : Ev G m d ac az pc Ls (vI x :: st) h Q := by
  intro p l e R s mid args below meth c H locs cells slots Z ls a1 a2 a3 a4 a5 a6 a7 a8
  obtain ⟨hxx, hb, hml, hown, hts, hK, hX, hg, hfr, hlo, hnm⟩ := id a1
  refine va_newq (D := G.1) (A := gA G) (C := R_Task) (N' := N) hxx hb hown (hts _ hcl) hK.2.1 hK.1 a2 (wh_D G h) a4 (fun q hq => Nat.le_trans hg hq) (by rw [hx]; exact nI_pos (by omega)) (by rw [hx]; exact nI_clamp (by omega)) (by omega) (by omega) (by omega) hd (fun q cA H1 hK1 hP1 hD1 hS1 => ?_)
  refine W_size (fun hle => ?_)
  have hq := q_of hP1 hD1 (by omega)
  obtain ⟨_, _, _, _, _, f1⟩ := (hK1.2 4 (cA, .object R_Task) rfl).2
  obtain ⟨_, _, _, _, _, f2⟩ := (hK.1.2 2 (G.2.1 2, .object R_Task) rfl).2
  have hcA : cA = G.2.1 2 := Option.some.inj (f1.symm.trans f2)
  subst hq hcA
  have hP2 : va_P G.1 cls (wh G (hpush h (2, N))) H1 := by
    rw [← wh_push]
    have e : en G (hpush h (2, N)) h.1.length (2, N) = .inl (G.2.1 2, N, .inr (.inr (.inr (.inr (fun _ => none))))) := by
      show Sum.inl (_, _, _) = _
      rw [show (hpush h (2, N)).2.2 h.1.length = fun _ => none by funext j; simp [hpush, zq]]
      rfl
    rw [e]
    exact hP1
  have hcc : cells + 1 + (ac - 1) = cells + ac := by omega
  exact kk p l e R s mid args below meth c H1 locs (cells + 1) (slots + N) Z ls a1 hP2 (by simp only [hpush, List.length_append, List.length_singleton]; omega) hS1 a5 (by omega) (by omega) (fun H1 locs1 slots1 r1 h1 pc1 ls1 c1 c2 c3 c4 c5 c6 => by rw [hcc] at c3 ⊢; exact a8 H1 locs1 slots1 r1 h1 pc1 ls1 c1 c2 c3 c4 (by omega) c6)
theorem E_newA3 {x : Int32} {N idx : Nat} (hd : decode m.2.1 pc = .ok (.anewarray idx, 3)) (hcl : Cond.classLink m.1.cls idx R_Pipe ∈ gw) (hx : x = nI N) (hN : N ≤ 100000) (hac : 1 ≤ ac) (haz : N ≤ az) (kk : Ev G m d (ac - 1) (az - N) (pc + 3) Ls (vR h.1.length :: st) (hpush h (3, N)) Q) : Ev G m d ac az pc Ls (vI x :: st) h Q := by
  intro p l e R s mid args below meth c H locs cells slots Z ls a1 a2 a3 a4 a5 a6 a7 a8
  obtain ⟨hxx, hb, hml, hown, hts, hK, hX, hg, hfr, hlo, hnm⟩ := id a1
  refine va_newq (D := G.1) (A := gA G) (C := R_Pipe) (N' := N) hxx hb hown (hts _ hcl) hK.2.2.1 hK.1 a2 (wh_D G h) a4 (fun q hq => Nat.le_trans hg hq) (by rw [hx]; exact nI_pos (by omega)) (by rw [hx]; exact nI_clamp (by omega)) (by omega) (by omega) (by omega) hd (fun q cA H1 hK1 hP1 hD1 hS1 => ?_)
  refine W_size (fun hle => ?_)
  have hq := q_of hP1 hD1 (by omega)
  obtain ⟨_, _, _, _, _, f1⟩ := (hK1.2 4 (cA, .object R_Pipe) rfl).2
  obtain ⟨_, _, _, _, _, f2⟩ := (hK.1.2 3 (G.2.1 3, .object R_Pipe) rfl).2
  have hcA : cA = G.2.1 3 := Option.some.inj (f1.symm.trans f2)
  subst hq hcA
  have hP2 : va_P G.1 cls (wh G (hpush h (3, N))) H1 := by
    rw [← wh_push]
    have e : en G (hpush h (3, N)) h.1.length (3, N) = .inl (G.2.1 3, N, .inr (.inr (.inr (.inr (fun _ => none))))) := by
      show Sum.inl (_, _, _) = _
      rw [show (hpush h (3, N)).2.2 h.1.length = fun _ => none by funext j; simp [hpush, zq]]
      rfl
    rw [e]
    exact hP1
  have hcc : cells + 1 + (ac - 1) = cells + ac := by omega
  exact kk p l e R s mid args below meth c H1 locs (cells + 1) (slots + N) Z ls a1 hP2 (by simp only [hpush, List.length_append, List.length_singleton]; omega) hS1 a5 (by omega) (by omega) (fun H1 locs1 slots1 r1 h1 pc1 ls1 c1 c2 c3 c4 c5 c6 => by rw [hcc] at c3 ⊢; exact a8 H1 locs1 slots1 r1 h1 pc1 ls1 c1 c2 c3 c4 (by omega) c6)
def NWk (own : String) (idx ci N : Nat) : Prop := ∃ q : vw_C, cls[ci]? = some q ∧ q.2.2 = N ∧ Cond.classLink own idx q.1 ∈ gw ∧ Cond.instantiable q.1 N ∈ gw ∧ Cond.initialized q.1 ∈ gw
theorem E_new {idx ci N : Nat} (hd : decode m.2.1 pc = .ok (.new idx, 3)) (hw : NWk m.1.cls idx ci N) (hac : 1 ≤ ac) (haz : N ≤ az) (kk : Ev G m d (ac - 1) (az - N) (pc + 3) Ls (vR h.1.length :: st) (hpush h (ci + 4, N)) Q) : Ev G m d ac az pc Ls st h Q := by
  intro p l e R s mid args below meth c H locs cells slots Z ls a1 a2 a3 a4 a5 a6 a7 a8
  obtain ⟨hxx, hb, hml, hown, hts, hK, hX, hg, hfr, hlo, hnm⟩ := id a1
  obtain ⟨⟨C, T, N'⟩, hc, hN, hcl, hins, hini⟩ := hw
  have hN : N' = N := hN
  subst hN
  have hfs : ∀ j, j < N' → defaultValue (tyT ci j) = vp_V ((List.range N').map (fun j => fv G (hpush h (ci + 4, N')) h.1.length ci j)) j := fun j hj => by
    have e := cls_df ci _ hc j hj
    change defaultValue (tyT ci j) = if rf ci j = true then Value.null else Value.int 0 at e
    rw [e]
    rw [vp_V, List.getD_eq_getElem?_getD, wh_fld hj, Option.getD_some]
    simp only [fv, hpush, zr, zq]
    cases rf ci j <;> simp [va_rf, iw_b]
  refine va_new (D := G.1) (A := gA G) (ci := ci) (fs := (List.range N').map (fun j => fv G (hpush h (ci + 4, N')) h.1.length ci j)) (C := C) (T := T) (N := N') hxx hb hts (cls_in ci _ hc) (tyT ci) (cls_ty ci _ hc) hown (hts _ hcl) (hts _ hins) (hts _ hini) hK.1 a2 (wh_D G h) a4 (fun q hq => Nat.le_trans hg hq) hc hfs (by omega) (by omega) hd (fun q H1 hP1 hD1 hS1 => ?_)
  refine W_size (fun hle => ?_)
  have hq := q_of hP1 hD1 (by omega)
  subst hq
  have hP2 : va_P G.1 cls (wh G (hpush h (ci + 4, N'))) H1 := by
    rw [← wh_push]
    exact hP1
  have hcc : cells + 1 + (ac - 1) = cells + ac := by omega
  exact kk p l e R s mid args below meth c H1 locs (cells + 1) (slots + N') Z ls a1 hP2 (by simp only [hpush, List.length_append, List.length_singleton]; omega) hS1 a5 (by omega) (by omega) (fun H1 locs1 slots1 r1 h1 pc1 ls1 c1 c2 c3 c4 c5 c6 => by rw [hcc] at c3 ⊢; exact a8 H1 locs1 slots1 r1 h1 pc1 ls1 c1 c2 c3 c4 (by omega) c6)
/-- contracts by what is answered -/
def MI (G : iG) (m : iM) (d : Nat) (As : List iV) (h : iH) (P : Int32 → iH → Prop) : Prop := Mt G m d 0 0 As h (fun r h' => ∃ x, r = some (vI x) ∧ P x h')
def MV (G : iG) (m : iM) (d : Nat) (As : List iV) (h : iH) (P : iH → Prop) : Prop := Mt G m d 0 0 As h (fun r h' => r = none ∧ P h')
def MQ_ (G : iG) (m : iM) (d : Nat) (As : List iV) (h : iH) (P : Option Nat → iH → Prop) : Prop := Mt G m d 0 0 As h (fun r h' => ∃ x, r = some (vQ x) ∧ P x h')
theorem E_V0i {idx d2 ci k N : Nat} {m2 : iM}  {P : Int32 → iH → Prop} (hd : decode m.2.1 pc = .ok (.invokevirtual idx, 3)) (hw : CVk m.1.cls idx ci m2 0) (hk : h.1[k]? = some (ci + 4, N)) (hd2 : d2 + 1 ≤ d) (hrest : (st.map ct).sum ≤ 8) (hM : MI G m2 d2 (vR k :: []) h P) (kk : ∀ (x : Int32) (h' : iH), P x h' → Ev G m d ac az (pc + 3) Ls (vI x :: st) h' Q) : Ev G m d ac az pc Ls (vR k :: st) h Q :=
  E_callV (As := []) (rest := st) hd hw hk hd2 (Nat.zero_le _) (Nat.zero_le _) rfl rfl hrest hM (fun r h' hq => by
    obtain ⟨x, rfl, hp⟩ := hq
    exact kk x h' hp)
theorem E_V0v {idx d2 ci k N : Nat} {m2 : iM}  {P : iH → Prop} (hd : decode m.2.1 pc = .ok (.invokevirtual idx, 3)) (hw : CVk m.1.cls idx ci m2 0) (hk : h.1[k]? = some (ci + 4, N)) (hd2 : d2 + 1 ≤ d) (hrest : (st.map ct).sum ≤ 8) (hM : MV G m2 d2 (vR k :: []) h P) (kk : ∀ (h' : iH), P h' → Ev G m d ac az (pc + 3) Ls (st) h' Q) : Ev G m d ac az pc Ls (vR k :: st) h Q :=
  E_callV (As := []) (rest := st) hd hw hk hd2 (Nat.zero_le _) (Nat.zero_le _) rfl rfl hrest hM (fun r h' hq => by
    obtain ⟨rfl, hp⟩ := hq
    exact kk h' hp)
theorem E_V0q {idx d2 ci k N : Nat} {m2 : iM}  {P : Option Nat → iH → Prop} (hd : decode m.2.1 pc = .ok (.invokevirtual idx, 3)) (hw : CVk m.1.cls idx ci m2 0) (hk : h.1[k]? = some (ci + 4, N)) (hd2 : d2 + 1 ≤ d) (hrest : (st.map ct).sum ≤ 8) (hM : MQ_ G m2 d2 (vR k :: []) h P) (kk : ∀ (x : Option Nat) (h' : iH), P x h' → Ev G m d ac az (pc + 3) Ls (vQ x :: st) h' Q) : Ev G m d ac az pc Ls (vR k :: st) h Q :=
  E_callV (As := []) (rest := st) hd hw hk hd2 (Nat.zero_le _) (Nat.zero_le _) rfl rfl hrest hM (fun r h' hq => by
    obtain ⟨x, rfl, hp⟩ := hq
    exact kk x h' hp)
theorem E_V1i {idx d2 ci k N : Nat} {m2 : iM} {v1 : iV} {P : Int32 → iH → Prop} (hd : decode m.2.1 pc = .ok (.invokevirtual idx, 3)) (hw : CVk m.1.cls idx ci m2 1) (hk : h.1[k]? = some (ci + 4, N)) (hd2 : d2 + 1 ≤ d) (hrest : (st.map ct).sum ≤ 8) (hM : MI G m2 d2 (vR k :: [v1]) h P) (kk : ∀ (x : Int32) (h' : iH), P x h' → Ev G m d ac az (pc + 3) Ls (vI x :: st) h' Q) : Ev G m d ac az pc Ls (v1 :: vR k :: st) h Q :=
  E_callV (As := [v1]) (rest := st) hd hw hk hd2 (Nat.zero_le _) (Nat.zero_le _) rfl rfl hrest hM (fun r h' hq => by
    obtain ⟨x, rfl, hp⟩ := hq
    exact kk x h' hp)
theorem E_V1v {idx d2 ci k N : Nat} {m2 : iM} {v1 : iV} {P : iH → Prop} (hd : decode m.2.1 pc = .ok (.invokevirtual idx, 3)) (hw : CVk m.1.cls idx ci m2 1) (hk : h.1[k]? = some (ci + 4, N)) (hd2 : d2 + 1 ≤ d) (hrest : (st.map ct).sum ≤ 8) (hM : MV G m2 d2 (vR k :: [v1]) h P) (kk : ∀ (h' : iH), P h' → Ev G m d ac az (pc + 3) Ls (st) h' Q) : Ev G m d ac az pc Ls (v1 :: vR k :: st) h Q :=
  E_callV (As := [v1]) (rest := st) hd hw hk hd2 (Nat.zero_le _) (Nat.zero_le _) rfl rfl hrest hM (fun r h' hq => by
    obtain ⟨rfl, hp⟩ := hq
    exact kk h' hp)
theorem E_V1q {idx d2 ci k N : Nat} {m2 : iM} {v1 : iV} {P : Option Nat → iH → Prop} (hd : decode m.2.1 pc = .ok (.invokevirtual idx, 3)) (hw : CVk m.1.cls idx ci m2 1) (hk : h.1[k]? = some (ci + 4, N)) (hd2 : d2 + 1 ≤ d) (hrest : (st.map ct).sum ≤ 8) (hM : MQ_ G m2 d2 (vR k :: [v1]) h P) (kk : ∀ (x : Option Nat) (h' : iH), P x h' → Ev G m d ac az (pc + 3) Ls (vQ x :: st) h' Q) : Ev G m d ac az pc Ls (v1 :: vR k :: st) h Q :=
  E_callV (As := [v1]) (rest := st) hd hw hk hd2 (Nat.zero_le _) (Nat.zero_le _) rfl rfl hrest hM (fun r h' hq => by
    obtain ⟨x, rfl, hp⟩ := hq
    exact kk x h' hp)
theorem E_V2i {idx d2 ci k N : Nat} {m2 : iM} {v1 v2 : iV} {P : Int32 → iH → Prop} (hd : decode m.2.1 pc = .ok (.invokevirtual idx, 3)) (hw : CVk m.1.cls idx ci m2 2) (hk : h.1[k]? = some (ci + 4, N)) (hd2 : d2 + 1 ≤ d) (hrest : (st.map ct).sum ≤ 8) (hM : MI G m2 d2 (vR k :: [v1, v2]) h P) (kk : ∀ (x : Int32) (h' : iH), P x h' → Ev G m d ac az (pc + 3) Ls (vI x :: st) h' Q) : Ev G m d ac az pc Ls (v2 :: v1 :: vR k :: st) h Q :=
  E_callV (As := [v1, v2]) (rest := st) hd hw hk hd2 (Nat.zero_le _) (Nat.zero_le _) rfl rfl hrest hM (fun r h' hq => by
    obtain ⟨x, rfl, hp⟩ := hq
    exact kk x h' hp)
theorem E_V2v {idx d2 ci k N : Nat} {m2 : iM} {v1 v2 : iV} {P : iH → Prop} (hd : decode m.2.1 pc = .ok (.invokevirtual idx, 3)) (hw : CVk m.1.cls idx ci m2 2) (hk : h.1[k]? = some (ci + 4, N)) (hd2 : d2 + 1 ≤ d) (hrest : (st.map ct).sum ≤ 8) (hM : MV G m2 d2 (vR k :: [v1, v2]) h P) (kk : ∀ (h' : iH), P h' → Ev G m d ac az (pc + 3) Ls (st) h' Q) : Ev G m d ac az pc Ls (v2 :: v1 :: vR k :: st) h Q :=
  E_callV (As := [v1, v2]) (rest := st) hd hw hk hd2 (Nat.zero_le _) (Nat.zero_le _) rfl rfl hrest hM (fun r h' hq => by
    obtain ⟨rfl, hp⟩ := hq
    exact kk h' hp)
theorem E_V2q {idx d2 ci k N : Nat} {m2 : iM} {v1 v2 : iV} {P : Option Nat → iH → Prop} (hd : decode m.2.1 pc = .ok (.invokevirtual idx, 3)) (hw : CVk m.1.cls idx ci m2 2) (hk : h.1[k]? = some (ci + 4, N)) (hd2 : d2 + 1 ≤ d) (hrest : (st.map ct).sum ≤ 8) (hM : MQ_ G m2 d2 (vR k :: [v1, v2]) h P) (kk : ∀ (x : Option Nat) (h' : iH), P x h' → Ev G m d ac az (pc + 3) Ls (vQ x :: st) h' Q) : Ev G m d ac az pc Ls (v2 :: v1 :: vR k :: st) h Q :=
  E_callV (As := [v1, v2]) (rest := st) hd hw hk hd2 (Nat.zero_le _) (Nat.zero_le _) rfl rfl hrest hM (fun r h' hq => by
    obtain ⟨x, rfl, hp⟩ := hq
    exact kk x h' hp)
theorem E_V3i {idx d2 ci k N : Nat} {m2 : iM} {v1 v2 v3 : iV} {P : Int32 → iH → Prop} (hd : decode m.2.1 pc = .ok (.invokevirtual idx, 3)) (hw : CVk m.1.cls idx ci m2 3) (hk : h.1[k]? = some (ci + 4, N)) (hd2 : d2 + 1 ≤ d) (hrest : (st.map ct).sum ≤ 8) (hM : MI G m2 d2 (vR k :: [v1, v2, v3]) h P) (kk : ∀ (x : Int32) (h' : iH), P x h' → Ev G m d ac az (pc + 3) Ls (vI x :: st) h' Q) : Ev G m d ac az pc Ls (v3 :: v2 :: v1 :: vR k :: st) h Q :=
  E_callV (As := [v1, v2, v3]) (rest := st) hd hw hk hd2 (Nat.zero_le _) (Nat.zero_le _) rfl rfl hrest hM (fun r h' hq => by
    obtain ⟨x, rfl, hp⟩ := hq
    exact kk x h' hp)
theorem E_V3v {idx d2 ci k N : Nat} {m2 : iM} {v1 v2 v3 : iV} {P : iH → Prop} (hd : decode m.2.1 pc = .ok (.invokevirtual idx, 3)) (hw : CVk m.1.cls idx ci m2 3) (hk : h.1[k]? = some (ci + 4, N)) (hd2 : d2 + 1 ≤ d) (hrest : (st.map ct).sum ≤ 8) (hM : MV G m2 d2 (vR k :: [v1, v2, v3]) h P) (kk : ∀ (h' : iH), P h' → Ev G m d ac az (pc + 3) Ls (st) h' Q) : Ev G m d ac az pc Ls (v3 :: v2 :: v1 :: vR k :: st) h Q :=
  E_callV (As := [v1, v2, v3]) (rest := st) hd hw hk hd2 (Nat.zero_le _) (Nat.zero_le _) rfl rfl hrest hM (fun r h' hq => by
    obtain ⟨rfl, hp⟩ := hq
    exact kk h' hp)
theorem E_V3q {idx d2 ci k N : Nat} {m2 : iM} {v1 v2 v3 : iV} {P : Option Nat → iH → Prop} (hd : decode m.2.1 pc = .ok (.invokevirtual idx, 3)) (hw : CVk m.1.cls idx ci m2 3) (hk : h.1[k]? = some (ci + 4, N)) (hd2 : d2 + 1 ≤ d) (hrest : (st.map ct).sum ≤ 8) (hM : MQ_ G m2 d2 (vR k :: [v1, v2, v3]) h P) (kk : ∀ (x : Option Nat) (h' : iH), P x h' → Ev G m d ac az (pc + 3) Ls (vQ x :: st) h' Q) : Ev G m d ac az pc Ls (v3 :: v2 :: v1 :: vR k :: st) h Q :=
  E_callV (As := [v1, v2, v3]) (rest := st) hd hw hk hd2 (Nat.zero_le _) (Nat.zero_le _) rfl rfl hrest hM (fun r h' hq => by
    obtain ⟨x, rfl, hp⟩ := hq
    exact kk x h' hp)
theorem E_S1i {idx d2 : Nat} {m2 : iM} {v1 : iV} {P : Int32 → iH → Prop} (hd : decode m.2.1 pc = .ok (.invokestatic idx, 3)) (hw : CSk m.1.cls idx m2 1)  (hd2 : d2 + 1 ≤ d) (hrest : (st.map ct).sum ≤ 8) (hM : MI G m2 d2 [v1] h P) (kk : ∀ (x : Int32) (h' : iH), P x h' → Ev G m d ac az (pc + 3) Ls (vI x :: st) h' Q) : Ev G m d ac az pc Ls (v1 :: st) h Q :=
  E_callS (As := [v1]) (rest := st) hd hw hd2 (Nat.zero_le _) (Nat.zero_le _) rfl rfl hrest hM (fun r h' hq => by
    obtain ⟨x, rfl, hp⟩ := hq
    exact kk x h' hp)
theorem E_S1v {idx d2 : Nat} {m2 : iM} {v1 : iV} {P : iH → Prop} (hd : decode m.2.1 pc = .ok (.invokestatic idx, 3)) (hw : CSk m.1.cls idx m2 1)  (hd2 : d2 + 1 ≤ d) (hrest : (st.map ct).sum ≤ 8) (hM : MV G m2 d2 [v1] h P) (kk : ∀ (h' : iH), P h' → Ev G m d ac az (pc + 3) Ls (st) h' Q) : Ev G m d ac az pc Ls (v1 :: st) h Q :=
  E_callS (As := [v1]) (rest := st) hd hw hd2 (Nat.zero_le _) (Nat.zero_le _) rfl rfl hrest hM (fun r h' hq => by
    obtain ⟨rfl, hp⟩ := hq
    exact kk h' hp)
theorem E_S1q {idx d2 : Nat} {m2 : iM} {v1 : iV} {P : Option Nat → iH → Prop} (hd : decode m.2.1 pc = .ok (.invokestatic idx, 3)) (hw : CSk m.1.cls idx m2 1)  (hd2 : d2 + 1 ≤ d) (hrest : (st.map ct).sum ≤ 8) (hM : MQ_ G m2 d2 [v1] h P) (kk : ∀ (x : Option Nat) (h' : iH), P x h' → Ev G m d ac az (pc + 3) Ls (vQ x :: st) h' Q) : Ev G m d ac az pc Ls (v1 :: st) h Q :=
  E_callS (As := [v1]) (rest := st) hd hw hd2 (Nat.zero_le _) (Nat.zero_le _) rfl rfl hrest hM (fun r h' hq => by
    obtain ⟨x, rfl, hp⟩ := hq
    exact kk x h' hp)
theorem E_S2i {idx d2 : Nat} {m2 : iM} {v1 v2 : iV} {P : Int32 → iH → Prop} (hd : decode m.2.1 pc = .ok (.invokestatic idx, 3)) (hw : CSk m.1.cls idx m2 2)  (hd2 : d2 + 1 ≤ d) (hrest : (st.map ct).sum ≤ 8) (hM : MI G m2 d2 [v1, v2] h P) (kk : ∀ (x : Int32) (h' : iH), P x h' → Ev G m d ac az (pc + 3) Ls (vI x :: st) h' Q) : Ev G m d ac az pc Ls (v2 :: v1 :: st) h Q :=
  E_callS (As := [v1, v2]) (rest := st) hd hw hd2 (Nat.zero_le _) (Nat.zero_le _) rfl rfl hrest hM (fun r h' hq => by
    obtain ⟨x, rfl, hp⟩ := hq
    exact kk x h' hp)
theorem E_S2v {idx d2 : Nat} {m2 : iM} {v1 v2 : iV} {P : iH → Prop} (hd : decode m.2.1 pc = .ok (.invokestatic idx, 3)) (hw : CSk m.1.cls idx m2 2)  (hd2 : d2 + 1 ≤ d) (hrest : (st.map ct).sum ≤ 8) (hM : MV G m2 d2 [v1, v2] h P) (kk : ∀ (h' : iH), P h' → Ev G m d ac az (pc + 3) Ls (st) h' Q) : Ev G m d ac az pc Ls (v2 :: v1 :: st) h Q :=
  E_callS (As := [v1, v2]) (rest := st) hd hw hd2 (Nat.zero_le _) (Nat.zero_le _) rfl rfl hrest hM (fun r h' hq => by
    obtain ⟨rfl, hp⟩ := hq
    exact kk h' hp)
theorem E_S2q {idx d2 : Nat} {m2 : iM} {v1 v2 : iV} {P : Option Nat → iH → Prop} (hd : decode m.2.1 pc = .ok (.invokestatic idx, 3)) (hw : CSk m.1.cls idx m2 2)  (hd2 : d2 + 1 ≤ d) (hrest : (st.map ct).sum ≤ 8) (hM : MQ_ G m2 d2 [v1, v2] h P) (kk : ∀ (x : Option Nat) (h' : iH), P x h' → Ev G m d ac az (pc + 3) Ls (vQ x :: st) h' Q) : Ev G m d ac az pc Ls (v2 :: v1 :: st) h Q :=
  E_callS (As := [v1, v2]) (rest := st) hd hw hd2 (Nat.zero_le _) (Nat.zero_le _) rfl rfl hrest hM (fun r h' hq => by
    obtain ⟨x, rfl, hp⟩ := hq
    exact kk x h' hp)
theorem E_S3i {idx d2 : Nat} {m2 : iM} {v1 v2 v3 : iV} {P : Int32 → iH → Prop} (hd : decode m.2.1 pc = .ok (.invokestatic idx, 3)) (hw : CSk m.1.cls idx m2 3)  (hd2 : d2 + 1 ≤ d) (hrest : (st.map ct).sum ≤ 8) (hM : MI G m2 d2 [v1, v2, v3] h P) (kk : ∀ (x : Int32) (h' : iH), P x h' → Ev G m d ac az (pc + 3) Ls (vI x :: st) h' Q) : Ev G m d ac az pc Ls (v3 :: v2 :: v1 :: st) h Q :=
  E_callS (As := [v1, v2, v3]) (rest := st) hd hw hd2 (Nat.zero_le _) (Nat.zero_le _) rfl rfl hrest hM (fun r h' hq => by
    obtain ⟨x, rfl, hp⟩ := hq
    exact kk x h' hp)
theorem E_S3v {idx d2 : Nat} {m2 : iM} {v1 v2 v3 : iV} {P : iH → Prop} (hd : decode m.2.1 pc = .ok (.invokestatic idx, 3)) (hw : CSk m.1.cls idx m2 3)  (hd2 : d2 + 1 ≤ d) (hrest : (st.map ct).sum ≤ 8) (hM : MV G m2 d2 [v1, v2, v3] h P) (kk : ∀ (h' : iH), P h' → Ev G m d ac az (pc + 3) Ls (st) h' Q) : Ev G m d ac az pc Ls (v3 :: v2 :: v1 :: st) h Q :=
  E_callS (As := [v1, v2, v3]) (rest := st) hd hw hd2 (Nat.zero_le _) (Nat.zero_le _) rfl rfl hrest hM (fun r h' hq => by
    obtain ⟨rfl, hp⟩ := hq
    exact kk h' hp)
theorem E_S3q {idx d2 : Nat} {m2 : iM} {v1 v2 v3 : iV} {P : Option Nat → iH → Prop} (hd : decode m.2.1 pc = .ok (.invokestatic idx, 3)) (hw : CSk m.1.cls idx m2 3)  (hd2 : d2 + 1 ≤ d) (hrest : (st.map ct).sum ≤ 8) (hM : MQ_ G m2 d2 [v1, v2, v3] h P) (kk : ∀ (x : Option Nat) (h' : iH), P x h' → Ev G m d ac az (pc + 3) Ls (vQ x :: st) h' Q) : Ev G m d ac az pc Ls (v3 :: v2 :: v1 :: st) h Q :=
  E_callS (As := [v1, v2, v3]) (rest := st) hd hw hd2 (Nat.zero_le _) (Nat.zero_le _) rfl rfl hrest hM (fun r h' hq => by
    obtain ⟨x, rfl, hp⟩ := hq
    exact kk x h' hp)
theorem E_S4i {idx d2 : Nat} {m2 : iM} {v1 v2 v3 v4 : iV} {P : Int32 → iH → Prop} (hd : decode m.2.1 pc = .ok (.invokestatic idx, 3)) (hw : CSk m.1.cls idx m2 4)  (hd2 : d2 + 1 ≤ d) (hrest : (st.map ct).sum ≤ 8) (hM : MI G m2 d2 [v1, v2, v3, v4] h P) (kk : ∀ (x : Int32) (h' : iH), P x h' → Ev G m d ac az (pc + 3) Ls (vI x :: st) h' Q) : Ev G m d ac az pc Ls (v4 :: v3 :: v2 :: v1 :: st) h Q :=
  E_callS (As := [v1, v2, v3, v4]) (rest := st) hd hw hd2 (Nat.zero_le _) (Nat.zero_le _) rfl rfl hrest hM (fun r h' hq => by
    obtain ⟨x, rfl, hp⟩ := hq
    exact kk x h' hp)
theorem E_S4v {idx d2 : Nat} {m2 : iM} {v1 v2 v3 v4 : iV} {P : iH → Prop} (hd : decode m.2.1 pc = .ok (.invokestatic idx, 3)) (hw : CSk m.1.cls idx m2 4)  (hd2 : d2 + 1 ≤ d) (hrest : (st.map ct).sum ≤ 8) (hM : MV G m2 d2 [v1, v2, v3, v4] h P) (kk : ∀ (h' : iH), P h' → Ev G m d ac az (pc + 3) Ls (st) h' Q) : Ev G m d ac az pc Ls (v4 :: v3 :: v2 :: v1 :: st) h Q :=
  E_callS (As := [v1, v2, v3, v4]) (rest := st) hd hw hd2 (Nat.zero_le _) (Nat.zero_le _) rfl rfl hrest hM (fun r h' hq => by
    obtain ⟨rfl, hp⟩ := hq
    exact kk h' hp)
theorem E_S4q {idx d2 : Nat} {m2 : iM} {v1 v2 v3 v4 : iV} {P : Option Nat → iH → Prop} (hd : decode m.2.1 pc = .ok (.invokestatic idx, 3)) (hw : CSk m.1.cls idx m2 4)  (hd2 : d2 + 1 ≤ d) (hrest : (st.map ct).sum ≤ 8) (hM : MQ_ G m2 d2 [v1, v2, v3, v4] h P) (kk : ∀ (x : Option Nat) (h' : iH), P x h' → Ev G m d ac az (pc + 3) Ls (vQ x :: st) h' Q) : Ev G m d ac az pc Ls (v4 :: v3 :: v2 :: v1 :: st) h Q :=
  E_callS (As := [v1, v2, v3, v4]) (rest := st) hd hw hd2 (Nat.zero_le _) (Nat.zero_le _) rfl rfl hrest hM (fun r h' hq => by
    obtain ⟨x, rfl, hp⟩ := hq
    exact kk x h' hp)
end EC
end
section
/-! ===== the layout: class cells 0..49 (C), reference cells 50..65 (M) ===== -/
def tk (i : Nat) : Nat := 5 + 4 * i
def pp (i : Nat) : Nat := 38 + 2 * i
def fl (C M : Nat → Nat → Int32) : Nat → Nat → Int32 := fun k j =>
  if k < 5 then C k j
  else if k < 37 then
    (if (k - 5) % 4 = 0 then (if j < 9 then C (10 + j) ((k - 5) / 4) else 0)
     else if (k - 5) % 4 = 1 then (if j < 32 then C 20 (32 * ((k - 5) / 4) + j) else 0)
     else if (k - 5) % 4 = 2 then (if j < 8 then C 21 (8 * ((k - 5) / 4) + j) else 0)
     else (if j < 6 then C 22 (6 * ((k - 5) / 4) + j) else 0))
  else if k < 38 then 0
  else if k < 46 then
    (if (k - 38) % 2 = 0 then (if j < 3 then C (24 + j) ((k - 38) / 2) else 0)
     else (if j < 8 then C 27 (8 * ((k - 38) / 2) + j) else 0))
  else if k < 50 then C k j
  else M (k - 50) j
def RH : Nat → Nat → Option Nat := fun k j =>
  if 5 ≤ k ∧ k < 37 then some (k + j)
  else if 38 ≤ k ∧ k < 46 then some (k + 1)
  else match k with
    | 0 => (match j with | 0 => some 1 | 1 => some 4 | 2 => some 37 | 3 => some 46 | 5 => some 48 | 6 => some 49 | _ => none)
    | 1 => (match j with | 0 => some 2 | 1 => some 3 | _ => none)
    | 4 => some (tk j)
    | 37 => some (pp j)
    | 46 => some 47
    | 50 => (match j with | 2 => some 51 | 3 => some 52 | 5 => some 53 | 7 => some 54 | 8 => some 55 | 9 => some 56 | 10 => some 57 | 11 => some 58 | 12 => some 59 | 13 => some 60 | 14 => some 61 | 16 => some 62 | 20 => some 63 | 21 => some 64 | 23 => some 65 | _ => none)
    | _ => none
def SH (F : Nat) : List (Nat × Nat) := [(0 + 4, 13), (1 + 4, 3), (0, 16 * F), (1, F), (2, 8), (2 + 4, 9), (0, 32), (0, 8), (0, 6), (2 + 4, 9), (0, 32), (0, 8), (0, 6), (2 + 4, 9), (0, 32), (0, 8), (0, 6), (2 + 4, 9), (0, 32), (0, 8), (0, 6), (2 + 4, 9), (0, 32), (0, 8), (0, 6), (2 + 4, 9), (0, 32), (0, 8), (0, 6), (2 + 4, 9), (0, 32), (0, 8), (0, 6), (2 + 4, 9), (0, 32), (0, 8), (0, 6), (3, 4), (3 + 4, 3), (0, 8), (3 + 4, 3), (0, 8), (3 + 4, 3), (0, 8), (3 + 4, 3), (0, 8), (4 + 4, 2), (0, 8), (0, 64), (0, 200), (5 + 4, 28), (0, 640), (0, 40), (0, 64), (0, 9), (0, 9), (0, 9), (0, 9), (0, 9), (0, 288), (0, 72), (0, 54), (0, 9), (0, 32), (0, 4), (0, 200)]
def HW (F : Nat) (C M : Nat → Nat → Int32) : iH := (SH F, fl C M, RH)
theorem lt8 {P : Nat → Prop} (h0 : P 0) (h1 : P 1) (h2 : P 2) (h3 : P 3) (h4 : P 4) (h5 : P 5) (h6 : P 6) (h7 : P 7) {i : Nat} (hi : i < 8) : P i := by
  match i, hi with
  | 0, _ => exact h0
  | 1, _ => exact h1
  | 2, _ => exact h2
  | 3, _ => exact h3
  | 4, _ => exact h4
  | 5, _ => exact h5
  | 6, _ => exact h6
  | 7, _ => exact h7
theorem lt4 {P : Nat → Prop} (h0 : P 0) (h1 : P 1) (h2 : P 2) (h3 : P 3) {i : Nat} (hi : i < 4) : P i := by
  match i, hi with
  | 0, _ => exact h0
  | 1, _ => exact h1
  | 2, _ => exact h2
  | 3, _ => exact h3
theorem SH_T0 {F i : Nat} (hi : i < 8) : (SH F)[tk i]? = some (2 + 4, 9) := lt8 (P := fun i => (SH F)[tk i]? = some (2 + 4, 9)) rfl rfl rfl rfl rfl rfl rfl rfl hi
theorem SH_T1 {F i : Nat} (hi : i < 8) : (SH F)[tk i + 1]? = some (0, 32) := lt8 (P := fun i => (SH F)[tk i + 1]? = some (0, 32)) rfl rfl rfl rfl rfl rfl rfl rfl hi
theorem SH_T2 {F i : Nat} (hi : i < 8) : (SH F)[tk i + 2]? = some (0, 8) := lt8 (P := fun i => (SH F)[tk i + 2]? = some (0, 8)) rfl rfl rfl rfl rfl rfl rfl rfl hi
theorem SH_T3 {F i : Nat} (hi : i < 8) : (SH F)[tk i + 3]? = some (0, 6) := lt8 (P := fun i => (SH F)[tk i + 3]? = some (0, 6)) rfl rfl rfl rfl rfl rfl rfl rfl hi
theorem SH_P0 {F i : Nat} (hi : i < 4) : (SH F)[pp i]? = some (3 + 4, 3) := lt4 (P := fun i => (SH F)[pp i]? = some (3 + 4, 3)) rfl rfl rfl rfl hi
theorem SH_P1 {F i : Nat} (hi : i < 4) : (SH F)[pp i + 1]? = some (0, 8) := lt4 (P := fun i => (SH F)[pp i + 1]? = some (0, 8)) rfl rfl rfl rfl hi
theorem RH_T {i : Nat} (j : Nat) (hi : i < 8) : RH (tk i) j = some (tk i + j) := by
  unfold RH tk
  rw [if_pos (by omega)]
theorem RH_P {i : Nat} (hi : i < 4) : RH (pp i) 0 = some (pp i + 1) := by
  unfold RH pp
  rw [if_neg (by omega), if_pos (by omega)]
section LAY
variable {C M : Nat → Nat → Int32}
theorem fr_K {k : Nat} (j : Nat) (hk : k < 5 ∨ (46 ≤ k ∧ k < 50)) : fl C M k j = C k j := by
  simp only [fl, tk, pp]
  repeat' split
  all_goals first | rfl | (exfalso; omega) | (congr 1 <;> omega) | (congr 2 <;> omega)
theorem fr_M (a j : Nat) : fl C M (50 + a) j = M a j := by
  unfold fl
  rw [if_neg (by omega), if_neg (by omega), if_neg (by omega), if_neg (by omega), if_neg (by omega), Nat.add_sub_cancel_left]
theorem fr_T {i j : Nat} (hi : i < 8) (hj : j < 9) : fl C M (tk i) j = C (10 + j) i := by
  unfold fl tk
  rw [if_neg (by omega), if_pos (by omega), if_pos (by omega), if_pos hj, show (5 + 4 * i - 5) / 4 = i by omega]
theorem fr_R {i j : Nat} (hi : i < 8) (hj : j < 32) : fl C M (tk i + 1) j = C 20 (32 * i + j) := by
  unfold fl tk
  rw [if_neg (by omega), if_pos (by omega), if_neg (by omega), if_pos (by omega), if_pos hj, show (5 + 4 * i + 1 - 5) / 4 = i by omega]
theorem fr_F {i j : Nat} (hi : i < 8) (hj : j < 8) : fl C M (tk i + 2) j = C 21 (8 * i + j) := by
  unfold fl tk
  rw [if_neg (by omega), if_pos (by omega), if_neg (by omega), if_neg (by omega), if_pos (by omega), if_pos hj, show (5 + 4 * i + 2 - 5) / 4 = i by omega]
theorem fr_D {i j : Nat} (hi : i < 8) (hj : j < 6) : fl C M (tk i + 3) j = C 22 (6 * i + j) := by
  unfold fl tk
  rw [if_neg (by omega), if_pos (by omega), if_neg (by omega), if_neg (by omega), if_neg (by omega), if_pos hj, show (5 + 4 * i + 3 - 5) / 4 = i by omega]
theorem fr_P {i j : Nat} (hi : i < 4) (hj : j < 3) : fl C M (pp i) j = C (24 + j) i := by
  unfold fl pp
  rw [if_neg (by omega), if_neg (by omega), if_neg (by omega), if_pos (by omega), if_pos (by omega), if_pos hj, show (38 + 2 * i - 38) / 2 = i by omega]
theorem fr_B {i j : Nat} (hi : i < 4) (hj : j < 8) : fl C M (pp i + 1) j = C 27 (8 * i + j) := by
  unfold fl pp
  rw [if_neg (by omega), if_neg (by omega), if_neg (by omega), if_pos (by omega), if_neg (by omega), if_pos hj, show (38 + 2 * i + 1 - 38) / 2 = i by omega]
theorem fu_K {k : Nat} (j : Nat) (x : Int32) (hk : k < 5 ∨ (46 ≤ k ∧ k < 50)) : up2 (fl C M) k j x = fl (up2 C k j x) M := by
  funext k' j'
  by_cases hc : k' = k ∧ j' = j
  · obtain ⟨rfl, rfl⟩ := hc
    rw [fr_K _ hk]
    simp [up2]
  · rw [show up2 (fl C M) (k) j x k' j' = fl C M k' j' from if_neg hc]
    try simp only [tk, pp] at hc
    simp only [fl, up2]
    repeat' split
    all_goals first | rfl | (exfalso; omega)
theorem fu_M (a j : Nat) (x : Int32) : up2 (fl C M) (50 + a) j x = fl C (up2 M a j x) := by
  funext k' j'
  by_cases hc : k' = 50 + a ∧ j' = j
  · obtain ⟨rfl, rfl⟩ := hc
    rw [fr_M]
    simp [up2]
  · rw [show up2 (fl C M) (50 + a) j x k' j' = fl C M k' j' from if_neg hc]
    try simp only [tk, pp] at hc
    simp only [fl, up2]
    repeat' split
    all_goals first | rfl | (exfalso; omega)
theorem fu_T {i j : Nat} (x : Int32) (hi : i < 8) (hj : j < 9) : up2 (fl C M) (tk i) j x = fl (up2 C (10 + j) i x) M := by
  funext k' j'
  by_cases hc : k' = tk i ∧ j' = j
  · obtain ⟨rfl, rfl⟩ := hc
    rw [fr_T hi hj]
    simp [up2]
  · rw [show up2 (fl C M) (tk i) j x k' j' = fl C M k' j' from if_neg hc]
    try simp only [tk, pp] at hc
    simp only [fl, up2]
    repeat' split
    all_goals first | rfl | (exfalso; omega)
theorem fu_R {i j : Nat} (x : Int32) (hi : i < 8) (hj : j < 32) : up2 (fl C M) (tk i + 1) j x = fl (up2 C 20 (32 * i + j) x) M := by
  funext k' j'
  by_cases hc : k' = tk i + 1 ∧ j' = j
  · obtain ⟨rfl, rfl⟩ := hc
    rw [fr_R hi hj]
    simp [up2]
  · rw [show up2 (fl C M) (tk i + 1) j x k' j' = fl C M k' j' from if_neg hc]
    try simp only [tk, pp] at hc
    simp only [fl, up2]
    repeat' split
    all_goals first | rfl | (exfalso; omega)
theorem fu_F {i j : Nat} (x : Int32) (hi : i < 8) (hj : j < 8) : up2 (fl C M) (tk i + 2) j x = fl (up2 C 21 (8 * i + j) x) M := by
  funext k' j'
  by_cases hc : k' = tk i + 2 ∧ j' = j
  · obtain ⟨rfl, rfl⟩ := hc
    rw [fr_F hi hj]
    simp [up2]
  · rw [show up2 (fl C M) (tk i + 2) j x k' j' = fl C M k' j' from if_neg hc]
    try simp only [tk, pp] at hc
    simp only [fl, up2]
    repeat' split
    all_goals first | rfl | (exfalso; omega)
theorem fu_D {i j : Nat} (x : Int32) (hi : i < 8) (hj : j < 6) : up2 (fl C M) (tk i + 3) j x = fl (up2 C 22 (6 * i + j) x) M := by
  funext k' j'
  by_cases hc : k' = tk i + 3 ∧ j' = j
  · obtain ⟨rfl, rfl⟩ := hc
    rw [fr_D hi hj]
    simp [up2]
  · rw [show up2 (fl C M) (tk i + 3) j x k' j' = fl C M k' j' from if_neg hc]
    try simp only [tk, pp] at hc
    simp only [fl, up2]
    repeat' split
    all_goals first | rfl | (exfalso; omega)
theorem fu_P {i j : Nat} (x : Int32) (hi : i < 4) (hj : j < 3) : up2 (fl C M) (pp i) j x = fl (up2 C (24 + j) i x) M := by
  funext k' j'
  by_cases hc : k' = pp i ∧ j' = j
  · obtain ⟨rfl, rfl⟩ := hc
    rw [fr_P hi hj]
    simp [up2]
  · rw [show up2 (fl C M) (pp i) j x k' j' = fl C M k' j' from if_neg hc]
    try simp only [tk, pp] at hc
    simp only [fl, up2]
    repeat' split
    all_goals first | rfl | (exfalso; omega)
theorem fu_B {i j : Nat} (x : Int32) (hi : i < 4) (hj : j < 8) : up2 (fl C M) (pp i + 1) j x = fl (up2 C 27 (8 * i + j) x) M := by
  funext k' j'
  by_cases hc : k' = pp i + 1 ∧ j' = j
  · obtain ⟨rfl, rfl⟩ := hc
    rw [fr_B hi hj]
    simp [up2]
  · rw [show up2 (fl C M) (pp i + 1) j x k' j' = fl C M k' j' from if_neg hc]
    try simp only [tk, pp] at hc
    simp only [fl, up2]
    repeat' split
    all_goals first | rfl | (exfalso; omega)
theorem fr_T0 {i : Nat} (hi : i < 8) : fl C M (tk i) 0 = C 10 i := fr_T hi (by decide)
theorem fu_T0 {i : Nat} (x : Int32) (hi : i < 8) : up2 (fl C M) (tk i) 0 x = fl (up2 C 10 i x) M := fu_T x hi (by decide)
theorem fr_T4 {i : Nat} (hi : i < 8) : fl C M (tk i) 4 = C 14 i := fr_T hi (by decide)
theorem fu_T4 {i : Nat} (x : Int32) (hi : i < 8) : up2 (fl C M) (tk i) 4 x = fl (up2 C 14 i x) M := fu_T x hi (by decide)
theorem fr_T5 {i : Nat} (hi : i < 8) : fl C M (tk i) 5 = C 15 i := fr_T hi (by decide)
theorem fu_T5 {i : Nat} (x : Int32) (hi : i < 8) : up2 (fl C M) (tk i) 5 x = fl (up2 C 15 i x) M := fu_T x hi (by decide)
theorem fr_T6 {i : Nat} (hi : i < 8) : fl C M (tk i) 6 = C 16 i := fr_T hi (by decide)
theorem fu_T6 {i : Nat} (x : Int32) (hi : i < 8) : up2 (fl C M) (tk i) 6 x = fl (up2 C 16 i x) M := fu_T x hi (by decide)
theorem fr_T7 {i : Nat} (hi : i < 8) : fl C M (tk i) 7 = C 17 i := fr_T hi (by decide)
theorem fu_T7 {i : Nat} (x : Int32) (hi : i < 8) : up2 (fl C M) (tk i) 7 x = fl (up2 C 17 i x) M := fu_T x hi (by decide)
theorem fr_T8 {i : Nat} (hi : i < 8) : fl C M (tk i) 8 = C 18 i := fr_T hi (by decide)
theorem fu_T8 {i : Nat} (x : Int32) (hi : i < 8) : up2 (fl C M) (tk i) 8 x = fl (up2 C 18 i x) M := fu_T x hi (by decide)
theorem fr_P1 {i : Nat} (hi : i < 4) : fl C M (pp i) 1 = C 25 i := fr_P hi (by decide)
theorem fu_P1 {i : Nat} (x : Int32) (hi : i < 4) : up2 (fl C M) (pp i) 1 x = fl (up2 C 25 i x) M := fu_P x hi (by decide)
theorem fr_P2 {i : Nat} (hi : i < 4) : fl C M (pp i) 2 = C 26 i := fr_P hi (by decide)
theorem fu_P2 {i : Nat} (x : Int32) (hi : i < 4) : up2 (fl C M) (pp i) 2 x = fl (up2 C 26 i x) M := fu_P x hi (by decide)
/-- C with the places lo .. lo + n of row a put to f -/
def upr (C : Nat → Nat → Int32) (a lo n : Nat) (f : Nat → Int32) : Nat → Nat → Int32 := fun a' j => if a' = a ∧ lo ≤ j ∧ j < lo + n then f (j - lo) else C a' j
end LAY
section LW
variable {G : iG} {m : iM} {d ac az pc : Nat} {Ls : List (Option iV)} {st : List iV} {F : Nat} {C M : Nat → Nat → Int32} {Q : Option iV → iH → Prop}
theorem L_ld {k n j : Nat} {i v : Int32} (hd : decode m.2.1 pc = .ok (.iaload, 1)) (hk : (SH F)[k]? = some (0, n)) (hi : i = nI j) (hj : j < n) (hn : n < 2 ^ 31) (hv : fl C M k j = v) (kk : Ev G m d ac az (pc + 1) Ls (vI v :: st) (HW F C M) Q) : Ev G m d ac az pc Ls (vI i :: vR k :: st) (HW F C M) Q :=
  E_iald hd hk hi hj hn (by rw [show (HW F C M).2.1 k j = v from hv]; exact kk)
theorem L_zld {k n j : Nat} {i v : Int32} (hd : decode m.2.1 pc = .ok (.baload, 1)) (hk : (SH F)[k]? = some (1, n)) (hi : i = nI j) (hj : j < n) (hn : n < 2 ^ 31) (hv : fl C M k j = v) (kk : Ev G m d ac az (pc + 1) Ls (vI v :: st) (HW F C M) Q) : Ev G m d ac az pc Ls (vI i :: vR k :: st) (HW F C M) Q :=
  E_zald hd hk hi hj hn (by rw [show (HW F C M).2.1 k j = v from hv]; exact kk)
theorem L_st {k n j : Nat} {i x : Int32} {C' M' : Nat → Nat → Int32} (hd : decode m.2.1 pc = .ok (.iastore, 1)) (hk : (SH F)[k]? = some (0, n)) (hi : i = nI j) (hj : j < n) (hn : n < 2 ^ 31) (hv : up2 (fl C M) k j x = fl C' M') (kk : Ev G m d ac az (pc + 1) Ls st (HW F C' M') Q) : Ev G m d ac az pc Ls (vI x :: vI i :: vR k :: st) (HW F C M) Q :=
  E_iast hd hk hi hj hn (by show Ev G m d ac az (pc + 1) Ls st (SH F, up2 (fl C M) k j x, RH) Q; rw [hv]; exact kk)
theorem L_zst {k n j : Nat} {i x : Int32} {C' M' : Nat → Nat → Int32} (hd : decode m.2.1 pc = .ok (.bastore, 1)) (hk : (SH F)[k]? = some (1, n)) (hi : i = nI j) (hj : j < n) (hn : n < 2 ^ 31) (hx : x = 0 ∨ x = 1) (hv : up2 (fl C M) k j x = fl C' M') (kk : Ev G m d ac az (pc + 1) Ls st (HW F C' M') Q) : Ev G m d ac az pc Ls (vI x :: vI i :: vR k :: st) (HW F C M) Q :=
  E_zast hd hk hi hj hn hx (by show Ev G m d ac az (pc + 1) Ls st (SH F, up2 (fl C M) k j x, RH) Q; rw [hv]; exact kk)
theorem L_gi {idx ci j k n : Nat} {v : Int32} (hd : decode m.2.1 pc = .ok (.getfield idx, 3)) (hf : FLk m.1.cls idx ci j) (hk : (SH F)[k]? = some (ci + 4, n)) (hj : j < n) (hr : rf ci j = false) (hv : fl C M k j = v) (kk : Ev G m d ac az (pc + 3) Ls (vI v :: st) (HW F C M) Q) : Ev G m d ac az pc Ls (vR k :: st) (HW F C M) Q :=
  E_getI hd hf hk hj hr (by rw [show (HW F C M).2.1 k j = v from hv]; exact kk)
theorem L_gr {idx ci j k n k' : Nat} (hd : decode m.2.1 pc = .ok (.getfield idx, 3)) (hf : FLk m.1.cls idx ci j) (hk : (SH F)[k]? = some (ci + 4, n)) (hj : j < n) (hr : rf ci j = true) (hq : RH k j = some k') (kk : Ev G m d ac az (pc + 3) Ls (vR k' :: st) (HW F C M) Q) : Ev G m d ac az pc Ls (vR k :: st) (HW F C M) Q :=
  E_getQ hd hf hk hj hr (by rw [show (HW F C M).2.2 k j = some k' from hq]; exact kk)
theorem L_pi {idx ci j k n : Nat} {x : Int32} {C' M' : Nat → Nat → Int32} (hd : decode m.2.1 pc = .ok (.putfield idx, 3)) (hf : FLk m.1.cls idx ci j) (hk : (SH F)[k]? = some (ci + 4, n)) (hj : j < n) (ht : tyT ci j = .int ∨ (tyT ci j = .boolean ∧ (x = 0 ∨ x = 1))) (hfin : fnl ci j = false) (hv : up2 (fl C M) k j x = fl C' M') (kk : Ev G m d ac az (pc + 3) Ls st (HW F C' M') Q) : Ev G m d ac az pc Ls (vI x :: vR k :: st) (HW F C M) Q :=
  E_putI hd hf hk hj ht hfin (by show Ev G m d ac az (pc + 3) Ls st (SH F, up2 (fl C M) k j x, RH) Q; rw [hv]; exact kk)
theorem L_ar2 {k n j k' : Nat} {i : Int32} (hd : decode m.2.1 pc = .ok (.aaload, 1)) (hk : (SH F)[k]? = some (2, n)) (hi : i = nI j) (hj : j < n) (hn : n < 2 ^ 31) (hq : RH k j = some k') (kk : Ev G m d ac az (pc + 1) Ls (vR k' :: st) (HW F C M) Q) : Ev G m d ac az pc Ls (vI i :: vR k :: st) (HW F C M) Q :=
  E_aald2 hd hk hi hj hn (by rw [show (HW F C M).2.2 k j = some k' from hq]; exact kk)
theorem L_ar3 {k n j k' : Nat} {i : Int32} (hd : decode m.2.1 pc = .ok (.aaload, 1)) (hk : (SH F)[k]? = some (3, n)) (hi : i = nI j) (hj : j < n) (hn : n < 2 ^ 31) (hq : RH k j = some k') (kk : Ev G m d ac az (pc + 1) Ls (vR k' :: st) (HW F C M) Q) : Ev G m d ac az pc Ls (vI i :: vR k :: st) (HW F C M) Q :=
  E_aald3 hd hk hi hj hn (by rw [show (HW F C M).2.2 k j = some k' from hq]; exact kk)
end LW
end
section
/-! ===== fields of a word ===== -/
def bf (w : Int32) (a k : Nat) : Nat := w.toBitVec.toNat / 2 ^ a % 2 ^ k
theorem bf_lt (w : Int32) (a k : Nat) : bf w a k < 2 ^ k := Nat.mod_lt _ (Nat.two_pow_pos k)
theorem bf_u (w : Int32) (a k : Nat) {s m : Int32} (hs : ((s.toUInt32 &&& Int32.toUInt32 31).toBitVec % 32).toNat = a) (hm : m.toBitVec.toNat = 2 ^ k - 1) : (w.toUInt32 >>> (s.toUInt32 &&& Int32.toUInt32 31)).toInt32 &&& m = nI (bf w a k) := by
  rw [pk_and _ k hm, pk_ushr w s a hs]
  rfl
theorem bf_s (w : Int32) (a k : Nat) {s m : Int32} (hs : ((s &&& 31).toBitVec.smod 32).toNat = a) (hm : m.toBitVec.toNat = 2 ^ k - 1) (hak : a + k ≤ 32) : (w >>> (s &&& 31)) &&& m = nI (bf w a k) := by
  rw [pk_and _ k hm]
  congr 1
  have e : (w >>> (s &&& 31)).toBitVec = w.toBitVec.sshiftRight a := by
    rw [← hs]
    rfl
  rw [e]
  apply Nat.eq_of_testBit_eq
  intro i
  unfold bf
  rw [Nat.testBit_mod_two_pow, Nat.testBit_mod_two_pow, Nat.testBit_div_two_pow]
  by_cases hi : i < k
  · have h1 : (w.toBitVec.sshiftRight a).toNat.testBit i = (w.toBitVec.sshiftRight a).getLsbD i := rfl
    have h2 : w.toBitVec.toNat.testBit (a + i) = w.toBitVec.getLsbD (a + i) := rfl
    rw [h1, BitVec.getLsbD_sshiftRight]
    have h3 : a + i < 32 := by omega
    have h4 : ¬ 32 ≤ i := by omega
    simp [hi, h3, h4]
    rw [Nat.add_comm i a, h2, BitVec.getLsbD_eq_getElem h3]
  · simp [hi]
theorem nadd {x y : Int32} {a b : Nat} (hx : x = nI a) (hy : y = nI b) : x + y = nI (a + b) := by rw [hx, hy, nI_add]
theorem nmul {x y : Int32} {a b : Nat} (hx : x = nI a) (hy : y = nI b) : x * y = nI (a * b) := by rw [hx, hy, pk_mul]
end
section
/-! ===== the methods ===== -/
abbrev m_K_init : iM := (⟨"PagedKernel", "<init>", "(II)V"⟩, prog_1_method_1_code, 4, none)
abbrev m_K_load : iM := (⟨"PagedKernel", "load", "(I)Z"⟩, prog_1_method_2_code, 2, (some .boolean))
abbrev m_K_boot : iM := (⟨"PagedKernel", "boot", "()I"⟩, prog_1_method_3_code, 3, (some .int))
abbrev m_K_step : iM := (⟨"PagedKernel", "step", "()I"⟩, prog_1_method_4_code, 2, (some .int))
abbrev m_K_run : iM := (⟨"PagedKernel", "run", "(I)I"⟩, prog_1_method_5_code, 3, (some .int))
abbrev m_K_current : iM := (⟨"PagedKernel", "current", "()I"⟩, prog_1_method_6_code, 1, (some .int))
abbrev m_K_stateOf : iM := (⟨"PagedKernel", "stateOf", "(I)I"⟩, prog_1_method_7_code, 3, (some .int))
abbrev m_K_exitOf : iM := (⟨"PagedKernel", "exitOf", "(I)I"⟩, prog_1_method_8_code, 3, (some .int))
abbrev m_K_parentOf : iM := (⟨"PagedKernel", "parentOf", "(I)I"⟩, prog_1_method_9_code, 3, (some .int))
abbrev m_K_freeFrames : iM := (⟨"PagedKernel", "freeFrames", "()I"⟩, prog_1_method_10_code, 1, (some .int))
abbrev m_K_pages : iM := (⟨"PagedKernel", "pages", "(I)I"⟩, prog_1_method_11_code, 3, (some .int))
abbrev m_K_register : iM := (⟨"PagedKernel", "register", "(II)I"⟩, prog_1_method_12_code, 4, (some .int))
abbrev m_K_pc : iM := (⟨"PagedKernel", "pc", "(I)I"⟩, prog_1_method_13_code, 3, (some .int))
abbrev m_K_word : iM := (⟨"PagedKernel", "word", "(II)I"⟩, prog_1_method_14_code, 5, (some .int))
abbrev m_K_descriptor : iM := (⟨"PagedKernel", "descriptor", "(II)I"⟩, prog_1_method_15_code, 4, (some .int))
abbrev m_K_held : iM := (⟨"PagedKernel", "held", "(I)I"⟩, prog_1_method_16_code, 2, (some .int))
abbrev m_K_consoleLength : iM := (⟨"PagedKernel", "consoleLength", "()I"⟩, prog_1_method_17_code, 1, (some .int))
abbrev m_K_console : iM := (⟨"PagedKernel", "console", "(I)I"⟩, prog_1_method_18_code, 2, (some .int))
abbrev m_K_waitingTurn : iM := (⟨"PagedKernel", "waitingTurn", "(I)I"⟩, prog_1_method_19_code, 2, (some .int))
abbrev m_K_within : iM := (⟨"PagedKernel", "within", "(III)I"⟩, prog_1_method_20_code, 3, (some .int))
abbrev m_K_find : iM := (⟨"PagedKernel", "find", "(I)LPagedKernel$Task;"⟩, prog_1_method_21_code, 3, (some (.object "PagedKernel$Task")))
abbrev m_K_allHaveEnded : iM := (⟨"PagedKernel", "allHaveEnded", "()Z"⟩, prog_1_method_22_code, 2, (some .boolean))
abbrev m_K_makeReady : iM := (⟨"PagedKernel", "makeReady", "(LPagedKernel$Task;)V"⟩, prog_1_method_23_code, 2, none)
abbrev m_K_makeStep : iM := (⟨"PagedKernel", "makeStep", "()I"⟩, prog_1_method_24_code, 4, (some .int))
abbrev m_K_passTurn : iM := (⟨"PagedKernel", "passTurn", "(LPagedKernel$Task;)V"⟩, prog_1_method_25_code, 2, none)
abbrev m_K_wakeSleepers : iM := (⟨"PagedKernel", "wakeSleepers", "()V"⟩, prog_1_method_26_code, 3, none)
abbrev m_K_beginCall : iM := (⟨"PagedKernel", "beginCall", "(LPagedKernel$Task;)Z"⟩, prog_1_method_27_code, 2, (some .boolean))
abbrev m_K_obstacleOf : iM := (⟨"PagedKernel", "obstacleOf", "(LPagedKernel$Task;)I"⟩, prog_1_method_28_code, 3, (some .int))
abbrev m_K_answerOf : iM := (⟨"PagedKernel", "answerOf", "(LPagedKernel$Task;I)I"⟩, prog_1_method_29_code, 3, (some .int))
abbrev m_K_fork : iM := (⟨"PagedKernel", "fork", "(LPagedKernel$Task;)I"⟩, prog_1_method_30_code, 3, (some .int))
abbrev m_K_leastAbsent : iM := (⟨"PagedKernel", "leastAbsent", "()LPagedKernel$Task;"⟩, prog_1_method_31_code, 2, (some (.object "PagedKernel$Task")))
abbrev m_K_collectChild : iM := (⟨"PagedKernel", "collectChild", "(LPagedKernel$Task;)I"⟩, prog_1_method_32_code, 3, (some .int))
abbrev m_K_endedChildOf : iM := (⟨"PagedKernel", "endedChildOf", "(LPagedKernel$Task;)LPagedKernel$Task;"⟩, prog_1_method_33_code, 3, (some (.object "PagedKernel$Task")))
abbrev m_K_hasChild : iM := (⟨"PagedKernel", "hasChild", "(LPagedKernel$Task;)Z"⟩, prog_1_method_34_code, 3, (some .boolean))
abbrev m_K_grow : iM := (⟨"PagedKernel", "grow", "(LPagedKernel$Task;I)I"⟩, prog_1_method_35_code, 3, (some .int))
abbrev m_K_write : iM := (⟨"PagedKernel", "write", "(II)I"⟩, prog_1_method_36_code, 3, (some .int))
abbrev m_K_print : iM := (⟨"PagedKernel", "print", "(I)I"⟩, prog_1_method_37_code, 2, (some .int))
abbrev m_K_read : iM := (⟨"PagedKernel", "read", "(I)I"⟩, prog_1_method_38_code, 2, (some .int))
abbrev m_K_openPipe : iM := (⟨"PagedKernel", "openPipe", "(LPagedKernel$Task;)I"⟩, prog_1_method_39_code, 5, (some .int))
abbrev m_K_close : iM := (⟨"PagedKernel", "close", "(LPagedKernel$Task;I)I"⟩, prog_1_method_40_code, 3, (some .int))
abbrev m_K_duplicate : iM := (⟨"PagedKernel", "duplicate", "(LPagedKernel$Task;I)I"⟩, prog_1_method_41_code, 4, (some .int))
abbrev m_K_kill : iM := (⟨"PagedKernel", "kill", "(I)I"⟩, prog_1_method_42_code, 3, (some .int))
abbrev m_K_end : iM := (⟨"PagedKernel", "end", "(LPagedKernel$Task;I)V"⟩, prog_1_method_43_code, 3, none)
abbrev m_K_handOverChildren : iM := (⟨"PagedKernel", "handOverChildren", "(LPagedKernel$Task;)V"⟩, prog_1_method_44_code, 5, none)
abbrev m_K_isReadingEnd : iM := (⟨"PagedKernel", "isReadingEnd", "(I)Z"⟩, prog_1_method_45_code, 1, (some .boolean))
abbrev m_K_isWritingEnd : iM := (⟨"PagedKernel", "isWritingEnd", "(I)Z"⟩, prog_1_method_46_code, 1, (some .boolean))
abbrev m_K_pipeOf : iM := (⟨"PagedKernel", "pipeOf", "(I)LPagedKernel$Pipe;"⟩, prog_1_method_47_code, 2, (some (.object "PagedKernel$Pipe")))
abbrev m_K_isHeld : iM := (⟨"PagedKernel", "isHeld", "(I)Z"⟩, prog_1_method_48_code, 4, (some .boolean))
abbrev m_K_leastFreeReadingEnd : iM := (⟨"PagedKernel", "leastFreeReadingEnd", "()I"⟩, prog_1_method_49_code, 2, (some .int))
abbrev m_K_isFreePipe : iM := (⟨"PagedKernel", "isFreePipe", "(I)Z"⟩, prog_1_method_50_code, 2, (some .boolean))
abbrev m_MOD_init : iM := (⟨"PagedKernelModel", "<init>", "(II)V"⟩, prog_8_method_1_code, 4, none)
abbrev m_MOD_load : iM := (⟨"PagedKernelModel", "load", "(I)Z"⟩, prog_8_method_2_code, 2, (some .boolean))
abbrev m_MOD_freeFrames : iM := (⟨"PagedKernelModel", "freeFrames", "()I"⟩, prog_8_method_3_code, 3, (some .int))
abbrev m_MOD_grow : iM := (⟨"PagedKernelModel", "grow", "(I)I"⟩, prog_8_method_4_code, 4, (some .int))
abbrev m_MOD_boot : iM := (⟨"PagedKernelModel", "boot", "()I"⟩, prog_8_method_5_code, 5, (some .int))
abbrev m_MOD_wake : iM := (⟨"PagedKernelModel", "wake", "(I)V"⟩, prog_8_method_6_code, 2, none)
abbrev m_MOD_there : iM := (⟨"PagedKernelModel", "there", "(II)Z"⟩, prog_8_method_7_code, 3, (some .boolean))
abbrev m_MOD_cellOf : iM := (⟨"PagedKernelModel", "cellOf", "(II)I"⟩, prog_8_method_8_code, 3, (some .int))
abbrev m_MOD_byteAt : iM := (⟨"PagedKernelModel", "byteAt", "(II)I"⟩, prog_8_method_9_code, 3, (some .int))
abbrev m_MOD_putByte : iM := (⟨"PagedKernelModel", "putByte", "(III)V"⟩, prog_8_method_10_code, 6, none)
abbrev m_MOD_isHeld : iM := (⟨"PagedKernelModel", "isHeld", "(I)Z"⟩, prog_8_method_11_code, 4, (some .boolean))
abbrev m_MOD_tidyPipes : iM := (⟨"PagedKernelModel", "tidyPipes", "()V"⟩, prog_8_method_12_code, 2, none)
abbrev m_MOD_descriptorOf : iM := (⟨"PagedKernelModel", "descriptorOf", "(II)I"⟩, prog_8_method_13_code, 3, (some .int))
abbrev m_MOD_freeDescriptor : iM := (⟨"PagedKernelModel", "freeDescriptor", "(I)I"⟩, prog_8_method_14_code, 3, (some .int))
abbrev m_MOD_end : iM := (⟨"PagedKernelModel", "end", "(II)V"⟩, prog_8_method_15_code, 5, none)
abbrev m_MOD_unrow : iM := (⟨"PagedKernelModel", "unrow", "(I)V"⟩, prog_8_method_16_code, 4, none)
abbrev m_MOD_remove : iM := (⟨"PagedKernelModel", "remove", "(I)V"⟩, prog_8_method_17_code, 3, none)
abbrev m_MOD_fault : iM := (⟨"PagedKernelModel", "fault", "(I)V"⟩, prog_8_method_18_code, 2, none)
abbrev m_MOD_get : iM := (⟨"PagedKernelModel", "get", "(I)I"⟩, prog_8_method_19_code, 2, (some .int))
abbrev m_MOD_set : iM := (⟨"PagedKernelModel", "set", "(II)V"⟩, prog_8_method_20_code, 3, none)
abbrev m_MOD_bits : iM := (⟨"PagedKernelModel", "bits", "(II)I"⟩, prog_8_method_21_code, 3, (some .int))
abbrev m_MOD_d : iM := (⟨"PagedKernelModel", "d", "()I"⟩, prog_8_method_22_code, 1, (some .int))
abbrev m_MOD_s : iM := (⟨"PagedKernelModel", "s", "()I"⟩, prog_8_method_23_code, 1, (some .int))
abbrev m_MOD_t : iM := (⟨"PagedKernelModel", "t", "()I"⟩, prog_8_method_24_code, 1, (some .int))
abbrev m_MOD_less : iM := (⟨"PagedKernelModel", "less", "(IIZ)Z"⟩, prog_8_method_25_code, 3, (some .boolean))
abbrev m_MOD_instruction : iM := (⟨"PagedKernelModel", "instruction", "()V"⟩, prog_8_method_26_code, 3, none)
abbrev m_MOD_jump : iM := (⟨"PagedKernelModel", "jump", "(I)V"⟩, prog_8_method_27_code, 2, none)
abbrev m_MOD_branch : iM := (⟨"PagedKernelModel", "branch", "(I)V"⟩, prog_8_method_28_code, 7, none)
abbrev m_MOD_reach : iM := (⟨"PagedKernelModel", "reach", "(III)Z"⟩, prog_8_method_29_code, 4, (some .boolean))
abbrev m_MOD_read : iM := (⟨"PagedKernelModel", "read", "()V"⟩, prog_8_method_30_code, 6, none)
abbrev m_MOD_write : iM := (⟨"PagedKernelModel", "write", "()V"⟩, prog_8_method_31_code, 6, none)
abbrev m_MOD_compute : iM := (⟨"PagedKernelModel", "compute", "(Z)V"⟩, prog_8_method_32_code, 10, none)
abbrev m_MOD_call : iM := (⟨"PagedKernelModel", "call", "()V"⟩, prog_8_method_33_code, 3, none)
abbrev m_MOD_leave : iM := (⟨"PagedKernelModel", "leave", "(I)V"⟩, prog_8_method_34_code, 2, none)
abbrev m_MOD_block : iM := (⟨"PagedKernelModel", "block", "(I)V"⟩, prog_8_method_35_code, 2, none)
abbrev m_MOD_fork : iM := (⟨"PagedKernelModel", "fork", "()I"⟩, prog_8_method_36_code, 5, (some .int))
abbrev m_MOD_lostChild : iM := (⟨"PagedKernelModel", "lostChild", "(I)I"⟩, prog_8_method_37_code, 6, (some .int))
abbrev m_MOD_waits : iM := (⟨"PagedKernelModel", "waits", "()V"⟩, prog_8_method_38_code, 2, none)
abbrev m_MOD_more : iM := (⟨"PagedKernelModel", "more", "(I)I"⟩, prog_8_method_39_code, 3, (some .int))
abbrev m_MOD_send : iM := (⟨"PagedKernelModel", "send", "(I)V"⟩, prog_8_method_40_code, 5, none)
abbrev m_MOD_take : iM := (⟨"PagedKernelModel", "take", "(I)V"⟩, prog_8_method_41_code, 4, none)
abbrev m_MOD_pipe : iM := (⟨"PagedKernelModel", "pipe", "()V"⟩, prog_8_method_42_code, 4, none)
abbrev m_MOD_close : iM := (⟨"PagedKernelModel", "close", "(I)I"⟩, prog_8_method_43_code, 2, (some .int))
abbrev m_MOD_duplicate : iM := (⟨"PagedKernelModel", "duplicate", "(I)I"⟩, prog_8_method_44_code, 3, (some .int))
abbrev m_MOD_kill : iM := (⟨"PagedKernelModel", "kill", "(I)V"⟩, prog_8_method_45_code, 3, none)
abbrev m_MOD_mayGo : iM := (⟨"PagedKernelModel", "mayGo", "(I)Z"⟩, prog_8_method_46_code, 3, (some .boolean))
abbrev m_MOD_step : iM := (⟨"PagedKernelModel", "step", "()I"⟩, prog_8_method_47_code, 4, (some .int))
abbrev m_MOD_run : iM := (⟨"PagedKernelModel", "run", "(I)I"⟩, prog_8_method_48_code, 3, (some .int))
abbrev m_MOD_is : iM := (⟨"PagedKernelModel", "is", "(I)Z"⟩, prog_8_method_49_code, 2, (some .boolean))
abbrev m_MOD_current : iM := (⟨"PagedKernelModel", "current", "()I"⟩, prog_8_method_50_code, 1, (some .int))
abbrev m_MOD_stateOf : iM := (⟨"PagedKernelModel", "stateOf", "(I)I"⟩, prog_8_method_51_code, 2, (some .int))
abbrev m_MOD_exitOf : iM := (⟨"PagedKernelModel", "exitOf", "(I)I"⟩, prog_8_method_52_code, 2, (some .int))
abbrev m_MOD_parentOf : iM := (⟨"PagedKernelModel", "parentOf", "(I)I"⟩, prog_8_method_53_code, 2, (some .int))
abbrev m_MOD_pages : iM := (⟨"PagedKernelModel", "pages", "(I)I"⟩, prog_8_method_54_code, 2, (some .int))
abbrev m_MOD_register : iM := (⟨"PagedKernelModel", "register", "(II)I"⟩, prog_8_method_55_code, 3, (some .int))
abbrev m_MOD_pc : iM := (⟨"PagedKernelModel", "pc", "(I)I"⟩, prog_8_method_56_code, 2, (some .int))
abbrev m_MOD_word : iM := (⟨"PagedKernelModel", "word", "(II)I"⟩, prog_8_method_57_code, 3, (some .int))
abbrev m_MOD_descriptor : iM := (⟨"PagedKernelModel", "descriptor", "(II)I"⟩, prog_8_method_58_code, 3, (some .int))
abbrev m_MOD_held : iM := (⟨"PagedKernelModel", "held", "(I)I"⟩, prog_8_method_59_code, 2, (some .int))
abbrev m_MOD_consoleLength : iM := (⟨"PagedKernelModel", "consoleLength", "()I"⟩, prog_8_method_60_code, 1, (some .int))
abbrev m_MOD_console : iM := (⟨"PagedKernelModel", "console", "(I)I"⟩, prog_8_method_61_code, 2, (some .int))
abbrev m_MOD_waitingTurn : iM := (⟨"PagedKernelModel", "waitingTurn", "(I)I"⟩, prog_8_method_62_code, 2, (some .int))
abbrev m_X_execute : iM := (⟨"PagedKernel$Machine", "execute", "(LPagedKernel$Memory;LPagedKernel$Task;)I"⟩, prog_2_method_2_code, 4, (some .int))
abbrev m_X_special : iM := (⟨"PagedKernel$Machine", "special", "(I)I"⟩, prog_2_method_3_code, 1, (some .int))
abbrev m_X_go : iM := (⟨"PagedKernel$Machine", "go", "(LPagedKernel$Task;)I"⟩, prog_2_method_4_code, 1, (some .int))
abbrev m_X_setAndGo : iM := (⟨"PagedKernel$Machine", "setAndGo", "(LPagedKernel$Task;II)I"⟩, prog_2_method_5_code, 3, (some .int))
abbrev m_X_jump : iM := (⟨"PagedKernel$Machine", "jump", "(LPagedKernel$Task;II)I"⟩, prog_2_method_6_code, 3, (some .int))
abbrev m_X_jumpByRegister : iM := (⟨"PagedKernel$Machine", "jumpByRegister", "(LPagedKernel$Task;I)I"⟩, prog_2_method_7_code, 2, (some .int))
abbrev m_X_branch : iM := (⟨"PagedKernel$Machine", "branch", "(LPagedKernel$Task;I)I"⟩, prog_2_method_8_code, 4, (some .int))
abbrev m_X_holdsTrue : iM := (⟨"PagedKernel$Machine", "holdsTrue", "(III)Z"⟩, prog_2_method_9_code, 3, (some .boolean))
abbrev m_X_fetch : iM := (⟨"PagedKernel$Machine", "fetch", "(LPagedKernel$Memory;LPagedKernel$Task;I)I"⟩, prog_2_method_10_code, 6, (some .int))
abbrev m_X_widen : iM := (⟨"PagedKernel$Machine", "widen", "(II)I"⟩, prog_2_method_11_code, 2, (some .int))
abbrev m_X_put : iM := (⟨"PagedKernel$Machine", "put", "(LPagedKernel$Memory;LPagedKernel$Task;I)I"⟩, prog_2_method_12_code, 8, (some .int))
abbrev m_X_maskOf : iM := (⟨"PagedKernel$Machine", "maskOf", "(I)I"⟩, prog_2_method_13_code, 1, (some .int))
abbrev m_X_isCrooked : iM := (⟨"PagedKernel$Machine", "isCrooked", "(II)Z"⟩, prog_2_method_14_code, 2, (some .boolean))
abbrev m_X_computeWithNumber : iM := (⟨"PagedKernel$Machine", "computeWithNumber", "(LPagedKernel$Task;I)I"⟩, prog_2_method_15_code, 5, (some .int))
abbrev m_X_computeWithRegister : iM := (⟨"PagedKernel$Machine", "computeWithRegister", "(LPagedKernel$Task;I)I"⟩, prog_2_method_16_code, 5, (some .int))
abbrev m_X_compute : iM := (⟨"PagedKernel$Machine", "compute", "(III)I"⟩, prog_2_method_17_code, 3, (some .int))
abbrev m_X_isBelow : iM := (⟨"PagedKernel$Machine", "isBelow", "(II)Z"⟩, prog_2_method_18_code, 2, (some .boolean))
abbrev m_X_first : iM := (⟨"PagedKernel$Machine", "first", "(LPagedKernel$Task;I)I"⟩, prog_2_method_19_code, 2, (some .int))
abbrev m_X_second : iM := (⟨"PagedKernel$Machine", "second", "(LPagedKernel$Task;I)I"⟩, prog_2_method_20_code, 2, (some .int))
abbrev m_X_selector : iM := (⟨"PagedKernel$Machine", "selector", "(I)I"⟩, prog_2_method_21_code, 1, (some .int))
abbrev m_X_variant : iM := (⟨"PagedKernel$Machine", "variant", "(I)I"⟩, prog_2_method_22_code, 1, (some .int))
abbrev m_X_shortNumber : iM := (⟨"PagedKernel$Machine", "shortNumber", "(I)I"⟩, prog_2_method_23_code, 1, (some .int))
abbrev m_X_putNumber : iM := (⟨"PagedKernel$Machine", "putNumber", "(I)I"⟩, prog_2_method_24_code, 1, (some .int))
abbrev m_X_branchNumber : iM := (⟨"PagedKernel$Machine", "branchNumber", "(I)I"⟩, prog_2_method_25_code, 2, (some .int))
abbrev m_X_jumpNumber : iM := (⟨"PagedKernel$Machine", "jumpNumber", "(I)I"⟩, prog_2_method_26_code, 2, (some .int))
abbrev m_X_upperNumber : iM := (⟨"PagedKernel$Machine", "upperNumber", "(I)I"⟩, prog_2_method_27_code, 1, (some .int))
abbrev m_MEM_init : iM := (⟨"PagedKernel$Memory", "<init>", "(I)V"⟩, prog_3_method_1_code, 2, none)
abbrev m_MEM_give : iM := (⟨"PagedKernel$Memory", "give", "(LPagedKernel$Task;I)V"⟩, prog_3_method_2_code, 5, none)
abbrev m_MEM_takeBack : iM := (⟨"PagedKernel$Memory", "takeBack", "(LPagedKernel$Task;)V"⟩, prog_3_method_3_code, 3, none)
abbrev m_MEM_copyPages : iM := (⟨"PagedKernel$Memory", "copyPages", "(LPagedKernel$Task;LPagedKernel$Task;)V"⟩, prog_3_method_4_code, 6, none)
abbrev m_MEM_copyProgram : iM := (⟨"PagedKernel$Memory", "copyProgram", "(LPagedKernel$Task;[II)V"⟩, prog_3_method_5_code, 6, none)
abbrev m_MEM_placeOf : iM := (⟨"PagedKernel$Memory", "placeOf", "(LPagedKernel$Task;I)I"⟩, prog_3_method_6_code, 4, (some .int))
abbrev m_MEM_clear : iM := (⟨"PagedKernel$Memory", "clear", "(I)V"⟩, prog_3_method_7_code, 4, none)
abbrev m_P_init : iM := (⟨"PagedKernel$Pipe", "<init>", "()V"⟩, prog_4_method_1_code, 1, none)
abbrev m_P_isEmpty : iM := (⟨"PagedKernel$Pipe", "isEmpty", "()Z"⟩, prog_4_method_2_code, 1, (some .boolean))
abbrev m_P_isFull : iM := (⟨"PagedKernel$Pipe", "isFull", "()Z"⟩, prog_4_method_3_code, 1, (some .boolean))
abbrev m_P_put : iM := (⟨"PagedKernel$Pipe", "put", "(I)V"⟩, prog_4_method_4_code, 2, none)
abbrev m_P_take : iM := (⟨"PagedKernel$Pipe", "take", "()I"⟩, prog_4_method_5_code, 2, (some .int))
abbrev m_P_empty : iM := (⟨"PagedKernel$Pipe", "empty", "()V"⟩, prog_4_method_6_code, 1, none)
abbrev m_ROW_init : iM := (⟨"PagedKernel$Row", "<init>", "()V"⟩, prog_5_method_1_code, 1, none)
abbrev m_ROW_append : iM := (⟨"PagedKernel$Row", "append", "(I)V"⟩, prog_5_method_2_code, 2, none)
abbrev m_ROW_at : iM := (⟨"PagedKernel$Row", "at", "(I)I"⟩, prog_5_method_3_code, 2, (some .int))
abbrev m_ROW_takeFirst : iM := (⟨"PagedKernel$Row", "takeFirst", "()I"⟩, prog_5_method_4_code, 2, (some .int))
abbrev m_ROW_drop : iM := (⟨"PagedKernel$Row", "drop", "(I)V"⟩, prog_5_method_5_code, 4, none)
abbrev m_T_init : iM := (⟨"PagedKernel$Task", "<init>", "(I)V"⟩, prog_6_method_1_code, 3, none)
abbrev m_T_getRegister : iM := (⟨"PagedKernel$Task", "getRegister", "(I)I"⟩, prog_6_method_2_code, 2, (some .int))
abbrev m_T_setRegister : iM := (⟨"PagedKernel$Task", "setRegister", "(II)V"⟩, prog_6_method_3_code, 3, none)
abbrev m_T_endAt : iM := (⟨"PagedKernel$Task", "endAt", "(I)I"⟩, prog_6_method_4_code, 2, (some .int))
abbrev m_T_leastNothing : iM := (⟨"PagedKernel$Task", "leastNothing", "(I)I"⟩, prog_6_method_5_code, 3, (some .int))
abbrev m_T_forgetDescriptors : iM := (⟨"PagedKernel$Task", "forgetDescriptors", "()V"⟩, prog_6_method_6_code, 2, none)
abbrev m_T_isChildOf : iM := (⟨"PagedKernel$Task", "isChildOf", "(LPagedKernel$Task;)Z"⟩, prog_6_method_7_code, 2, (some .boolean))
abbrev m_T_sleeps : iM := (⟨"PagedKernel$Task", "sleeps", "()Z"⟩, prog_6_method_8_code, 1, (some .boolean))
abbrev m_T_copyFrom : iM := (⟨"PagedKernel$Task", "copyFrom", "(LPagedKernel$Task;)V"⟩, prog_6_method_9_code, 2, none)
abbrev m_LAW_cell : iM := (⟨"PagedKernelLaw", "cell", "([II)I"⟩, method_2_code, 2, (some .int))
abbrev m_LAW_law : iM := (⟨"PagedKernelLaw", "law", "([I)Z"⟩, code, 4, (some .boolean))
end
section
theorem d_K_init_0 : decode prog_1_method_1_code 0 = .ok (.aload_n 0, 1) := by decide +kernel
theorem d_K_init_1 : decode prog_1_method_1_code 1 = .ok (.invokespecial 1, 3) := by decide +kernel
theorem d_K_init_4 : decode prog_1_method_1_code 4 = .ok (.aload_n 0, 1) := by decide +kernel
theorem d_K_init_5 : decode prog_1_method_1_code 5 = .ok (.new 7, 3) := by decide +kernel
theorem d_K_init_8 : decode prog_1_method_1_code 8 = .ok (.dup, 1) := by decide +kernel
theorem d_K_init_9 : decode prog_1_method_1_code 9 = .ok (.iload_n 1, 1) := by decide +kernel
theorem d_K_init_10 : decode prog_1_method_1_code 10 = .ok (.bipush 40, 2) := by decide +kernel
theorem d_K_init_12 : decode prog_1_method_1_code 12 = .ok (.bipush 12, 2) := by decide +kernel
theorem d_K_init_14 : decode prog_1_method_1_code 14 = .ok (.invokestatic 11, 3) := by decide +kernel
theorem d_K_init_17 : decode prog_1_method_1_code 17 = .ok (.invokespecial 15, 3) := by decide +kernel
theorem d_K_init_20 : decode prog_1_method_1_code 20 = .ok (.putfield 18, 3) := by decide +kernel
theorem d_K_init_23 : decode prog_1_method_1_code 23 = .ok (.aload_n 0, 1) := by decide +kernel
theorem d_K_init_24 : decode prog_1_method_1_code 24 = .ok (.iload_n 2, 1) := by decide +kernel
theorem d_K_init_25 : decode prog_1_method_1_code 25 = .ok (.bipush 9, 2) := by decide +kernel
theorem d_K_init_27 : decode prog_1_method_1_code 27 = .ok (.iconst 4, 1) := by decide +kernel
theorem d_K_init_28 : decode prog_1_method_1_code 28 = .ok (.invokestatic 11, 3) := by decide +kernel
theorem d_K_init_31 : decode prog_1_method_1_code 31 = .ok (.putfield 22, 3) := by decide +kernel
theorem d_K_init_34 : decode prog_1_method_1_code 34 = .ok (.aload_n 0, 1) := by decide +kernel
theorem d_K_init_35 : decode prog_1_method_1_code 35 = .ok (.bipush 8, 2) := by decide +kernel
theorem d_K_init_37 : decode prog_1_method_1_code 37 = .ok (.anewarray 26, 3) := by decide +kernel
theorem d_K_init_40 : decode prog_1_method_1_code 40 = .ok (.putfield 28, 3) := by decide +kernel
theorem d_K_init_43 : decode prog_1_method_1_code 43 = .ok (.iconst 0, 1) := by decide +kernel
theorem d_K_init_44 : decode prog_1_method_1_code 44 = .ok (.istore_n 3, 1) := by decide +kernel
theorem d_K_init_45 : decode prog_1_method_1_code 45 = .ok (.iload_n 3, 1) := by decide +kernel
theorem d_K_init_46 : decode prog_1_method_1_code 46 = .ok (.bipush 8, 2) := by decide +kernel
theorem d_K_init_48 : decode prog_1_method_1_code 48 = .ok (.if_icmp .ge 25, 3) := by decide +kernel
theorem d_K_init_51 : decode prog_1_method_1_code 51 = .ok (.aload_n 0, 1) := by decide +kernel
theorem d_K_init_52 : decode prog_1_method_1_code 52 = .ok (.getfield 28, 3) := by decide +kernel
theorem d_K_init_55 : decode prog_1_method_1_code 55 = .ok (.iload_n 3, 1) := by decide +kernel
theorem d_K_init_56 : decode prog_1_method_1_code 56 = .ok (.new 26, 3) := by decide +kernel
theorem d_K_init_59 : decode prog_1_method_1_code 59 = .ok (.dup, 1) := by decide +kernel
theorem d_K_init_60 : decode prog_1_method_1_code 60 = .ok (.iload_n 3, 1) := by decide +kernel
theorem d_K_init_61 : decode prog_1_method_1_code 61 = .ok (.iconst 1, 1) := by decide +kernel
theorem d_K_init_62 : decode prog_1_method_1_code 62 = .ok (.iadd, 1) := by decide +kernel
theorem d_K_init_63 : decode prog_1_method_1_code 63 = .ok (.invokespecial 32, 3) := by decide +kernel
theorem d_K_init_66 : decode prog_1_method_1_code 66 = .ok (.aastore, 1) := by decide +kernel
theorem d_K_init_67 : decode prog_1_method_1_code 67 = .ok (.iinc 3 1, 3) := by decide +kernel
theorem d_K_init_70 : decode prog_1_method_1_code 70 = .ok (.goto (-25), 3) := by decide +kernel
theorem d_K_init_73 : decode prog_1_method_1_code 73 = .ok (.aload_n 0, 1) := by decide +kernel
theorem d_K_init_74 : decode prog_1_method_1_code 74 = .ok (.iconst 4, 1) := by decide +kernel
theorem d_K_init_75 : decode prog_1_method_1_code 75 = .ok (.anewarray 33, 3) := by decide +kernel
theorem d_K_init_78 : decode prog_1_method_1_code 78 = .ok (.putfield 35, 3) := by decide +kernel
theorem d_K_init_81 : decode prog_1_method_1_code 81 = .ok (.iconst 0, 1) := by decide +kernel
theorem d_K_init_82 : decode prog_1_method_1_code 82 = .ok (.istore_n 3, 1) := by decide +kernel
theorem d_K_init_83 : decode prog_1_method_1_code 83 = .ok (.iload_n 3, 1) := by decide +kernel
theorem d_K_init_84 : decode prog_1_method_1_code 84 = .ok (.iconst 4, 1) := by decide +kernel
theorem d_K_init_85 : decode prog_1_method_1_code 85 = .ok (.if_icmp .ge 22, 3) := by decide +kernel
theorem d_K_init_88 : decode prog_1_method_1_code 88 = .ok (.aload_n 0, 1) := by decide +kernel
theorem d_K_init_89 : decode prog_1_method_1_code 89 = .ok (.getfield 35, 3) := by decide +kernel
theorem d_K_init_92 : decode prog_1_method_1_code 92 = .ok (.iload_n 3, 1) := by decide +kernel
theorem d_K_init_93 : decode prog_1_method_1_code 93 = .ok (.new 33, 3) := by decide +kernel
theorem d_K_init_96 : decode prog_1_method_1_code 96 = .ok (.dup, 1) := by decide +kernel
theorem d_K_init_97 : decode prog_1_method_1_code 97 = .ok (.invokespecial 39, 3) := by decide +kernel
theorem d_K_init_100 : decode prog_1_method_1_code 100 = .ok (.aastore, 1) := by decide +kernel
theorem d_K_init_101 : decode prog_1_method_1_code 101 = .ok (.iinc 3 1, 3) := by decide +kernel
theorem d_K_init_104 : decode prog_1_method_1_code 104 = .ok (.goto (-21), 3) := by decide +kernel
theorem d_K_init_107 : decode prog_1_method_1_code 107 = .ok (.aload_n 0, 1) := by decide +kernel
theorem d_K_init_108 : decode prog_1_method_1_code 108 = .ok (.new 40, 3) := by decide +kernel
theorem d_K_init_111 : decode prog_1_method_1_code 111 = .ok (.dup, 1) := by decide +kernel
theorem d_K_init_112 : decode prog_1_method_1_code 112 = .ok (.invokespecial 42, 3) := by decide +kernel
theorem d_K_init_115 : decode prog_1_method_1_code 115 = .ok (.putfield 43, 3) := by decide +kernel
theorem d_K_init_118 : decode prog_1_method_1_code 118 = .ok (.aload_n 0, 1) := by decide +kernel
theorem d_K_init_119 : decode prog_1_method_1_code 119 = .ok (.bipush 64, 2) := by decide +kernel
theorem d_K_init_121 : decode prog_1_method_1_code 121 = .ok (.newarray .int, 2) := by decide +kernel
theorem d_K_init_123 : decode prog_1_method_1_code 123 = .ok (.putfield 47, 3) := by decide +kernel
theorem d_K_init_126 : decode prog_1_method_1_code 126 = .ok (.aload_n 0, 1) := by decide +kernel
theorem d_K_init_127 : decode prog_1_method_1_code 127 = .ok (.sipush 200, 3) := by decide +kernel
theorem d_K_init_130 : decode prog_1_method_1_code 130 = .ok (.newarray .int, 2) := by decide +kernel
theorem d_K_init_132 : decode prog_1_method_1_code 132 = .ok (.putfield 51, 3) := by decide +kernel
theorem d_K_init_135 : decode prog_1_method_1_code 135 = .ok (.return_, 1) := by decide +kernel
theorem d_K_load_0 : decode prog_1_method_2_code 0 = .ok (.aload_n 0, 1) := by decide +kernel
theorem d_K_load_1 : decode prog_1_method_2_code 1 = .ok (.getfield 54, 3) := by decide +kernel
theorem d_K_load_4 : decode prog_1_method_2_code 4 = .ok (.ifCond .ne 12, 3) := by decide +kernel
theorem d_K_load_7 : decode prog_1_method_2_code 7 = .ok (.aload_n 0, 1) := by decide +kernel
theorem d_K_load_8 : decode prog_1_method_2_code 8 = .ok (.getfield 58, 3) := by decide +kernel
theorem d_K_load_11 : decode prog_1_method_2_code 11 = .ok (.bipush 64, 2) := by decide +kernel
theorem d_K_load_13 : decode prog_1_method_2_code 13 = .ok (.if_icmp .lt 5, 3) := by decide +kernel
theorem d_K_load_16 : decode prog_1_method_2_code 16 = .ok (.iconst 0, 1) := by decide +kernel
theorem d_K_load_17 : decode prog_1_method_2_code 17 = .ok (.ireturn, 1) := by decide +kernel
theorem d_K_load_18 : decode prog_1_method_2_code 18 = .ok (.aload_n 0, 1) := by decide +kernel
theorem d_K_load_19 : decode prog_1_method_2_code 19 = .ok (.getfield 47, 3) := by decide +kernel
theorem d_K_load_22 : decode prog_1_method_2_code 22 = .ok (.aload_n 0, 1) := by decide +kernel
theorem d_K_load_23 : decode prog_1_method_2_code 23 = .ok (.getfield 58, 3) := by decide +kernel
theorem d_K_load_26 : decode prog_1_method_2_code 26 = .ok (.iload_n 1, 1) := by decide +kernel
theorem d_K_load_27 : decode prog_1_method_2_code 27 = .ok (.iastore, 1) := by decide +kernel
theorem d_K_load_28 : decode prog_1_method_2_code 28 = .ok (.aload_n 0, 1) := by decide +kernel
theorem d_K_load_29 : decode prog_1_method_2_code 29 = .ok (.dup, 1) := by decide +kernel
theorem d_K_load_30 : decode prog_1_method_2_code 30 = .ok (.getfield 58, 3) := by decide +kernel
theorem d_K_load_33 : decode prog_1_method_2_code 33 = .ok (.iconst 1, 1) := by decide +kernel
theorem d_K_load_34 : decode prog_1_method_2_code 34 = .ok (.iadd, 1) := by decide +kernel
theorem d_K_load_35 : decode prog_1_method_2_code 35 = .ok (.putfield 58, 3) := by decide +kernel
theorem d_K_load_38 : decode prog_1_method_2_code 38 = .ok (.iconst 1, 1) := by decide +kernel
theorem d_K_load_39 : decode prog_1_method_2_code 39 = .ok (.ireturn, 1) := by decide +kernel
theorem d_K_boot_0 : decode prog_1_method_3_code 0 = .ok (.aload_n 0, 1) := by decide +kernel
theorem d_K_boot_1 : decode prog_1_method_3_code 1 = .ok (.getfield 54, 3) := by decide +kernel
theorem d_K_boot_4 : decode prog_1_method_3_code 4 = .ok (.ifCond .eq 5, 3) := by decide +kernel
theorem d_K_boot_7 : decode prog_1_method_3_code 7 = .ok (.iconst 1, 1) := by decide +kernel
theorem d_K_boot_8 : decode prog_1_method_3_code 8 = .ok (.ireturn, 1) := by decide +kernel
theorem d_K_boot_9 : decode prog_1_method_3_code 9 = .ok (.aload_n 0, 1) := by decide +kernel
theorem d_K_boot_10 : decode prog_1_method_3_code 10 = .ok (.getfield 58, 3) := by decide +kernel
theorem d_K_boot_13 : decode prog_1_method_3_code 13 = .ok (.bipush 16, 2) := by decide +kernel
theorem d_K_boot_15 : decode prog_1_method_3_code 15 = .ok (.iadd, 1) := by decide +kernel
theorem d_K_boot_16 : decode prog_1_method_3_code 16 = .ok (.iconst 1, 1) := by decide +kernel
theorem d_K_boot_17 : decode prog_1_method_3_code 17 = .ok (.isub, 1) := by decide +kernel
theorem d_K_boot_18 : decode prog_1_method_3_code 18 = .ok (.bipush 16, 2) := by decide +kernel
theorem d_K_boot_20 : decode prog_1_method_3_code 20 = .ok (.idiv, 1) := by decide +kernel
theorem d_K_boot_21 : decode prog_1_method_3_code 21 = .ok (.iconst 1, 1) := by decide +kernel
theorem d_K_boot_22 : decode prog_1_method_3_code 22 = .ok (.iadd, 1) := by decide +kernel
theorem d_K_boot_23 : decode prog_1_method_3_code 23 = .ok (.istore_n 1, 1) := by decide +kernel
theorem d_K_boot_24 : decode prog_1_method_3_code 24 = .ok (.aload_n 0, 1) := by decide +kernel
theorem d_K_boot_25 : decode prog_1_method_3_code 25 = .ok (.getfield 58, 3) := by decide +kernel
theorem d_K_boot_28 : decode prog_1_method_3_code 28 = .ok (.ifCond .eq 14, 3) := by decide +kernel
theorem d_K_boot_31 : decode prog_1_method_3_code 31 = .ok (.aload_n 0, 1) := by decide +kernel
theorem d_K_boot_32 : decode prog_1_method_3_code 32 = .ok (.getfield 18, 3) := by decide +kernel
theorem d_K_boot_35 : decode prog_1_method_3_code 35 = .ok (.getfield 61, 3) := by decide +kernel
theorem d_K_boot_38 : decode prog_1_method_3_code 38 = .ok (.iload_n 1, 1) := by decide +kernel
theorem d_K_boot_39 : decode prog_1_method_3_code 39 = .ok (.if_icmp .ge 5, 3) := by decide +kernel
theorem d_K_boot_42 : decode prog_1_method_3_code 42 = .ok (.iconst 2, 1) := by decide +kernel
theorem d_K_boot_43 : decode prog_1_method_3_code 43 = .ok (.ireturn, 1) := by decide +kernel
theorem d_K_boot_44 : decode prog_1_method_3_code 44 = .ok (.aload_n 0, 1) := by decide +kernel
theorem d_K_boot_45 : decode prog_1_method_3_code 45 = .ok (.iconst 1, 1) := by decide +kernel
theorem d_K_boot_46 : decode prog_1_method_3_code 46 = .ok (.putfield 54, 3) := by decide +kernel
theorem d_K_boot_49 : decode prog_1_method_3_code 49 = .ok (.aload_n 0, 1) := by decide +kernel
theorem d_K_boot_50 : decode prog_1_method_3_code 50 = .ok (.getfield 28, 3) := by decide +kernel
theorem d_K_boot_53 : decode prog_1_method_3_code 53 = .ok (.iconst 0, 1) := by decide +kernel
theorem d_K_boot_54 : decode prog_1_method_3_code 54 = .ok (.aaload, 1) := by decide +kernel
theorem d_K_boot_55 : decode prog_1_method_3_code 55 = .ok (.astore_n 2, 1) := by decide +kernel
theorem d_K_boot_56 : decode prog_1_method_3_code 56 = .ok (.aload_n 0, 1) := by decide +kernel
theorem d_K_boot_57 : decode prog_1_method_3_code 57 = .ok (.getfield 18, 3) := by decide +kernel
theorem d_K_boot_60 : decode prog_1_method_3_code 60 = .ok (.aload_n 2, 1) := by decide +kernel
theorem d_K_boot_61 : decode prog_1_method_3_code 61 = .ok (.iload_n 1, 1) := by decide +kernel
theorem d_K_boot_62 : decode prog_1_method_3_code 62 = .ok (.invokevirtual 64, 3) := by decide +kernel
theorem d_K_boot_65 : decode prog_1_method_3_code 65 = .ok (.aload_n 0, 1) := by decide +kernel
theorem d_K_boot_66 : decode prog_1_method_3_code 66 = .ok (.getfield 18, 3) := by decide +kernel
theorem d_K_boot_69 : decode prog_1_method_3_code 69 = .ok (.aload_n 2, 1) := by decide +kernel
theorem d_K_boot_70 : decode prog_1_method_3_code 70 = .ok (.aload_n 0, 1) := by decide +kernel
theorem d_K_boot_71 : decode prog_1_method_3_code 71 = .ok (.getfield 47, 3) := by decide +kernel
theorem d_K_boot_74 : decode prog_1_method_3_code 74 = .ok (.aload_n 0, 1) := by decide +kernel
theorem d_K_boot_75 : decode prog_1_method_3_code 75 = .ok (.getfield 58, 3) := by decide +kernel
theorem d_K_boot_78 : decode prog_1_method_3_code 78 = .ok (.invokevirtual 68, 3) := by decide +kernel
theorem d_K_boot_81 : decode prog_1_method_3_code 81 = .ok (.aload_n 2, 1) := by decide +kernel
theorem d_K_boot_82 : decode prog_1_method_3_code 82 = .ok (.iconst 2, 1) := by decide +kernel
theorem d_K_boot_83 : decode prog_1_method_3_code 83 = .ok (.bipush 64, 2) := by decide +kernel
theorem d_K_boot_85 : decode prog_1_method_3_code 85 = .ok (.iload_n 1, 1) := by decide +kernel
theorem d_K_boot_86 : decode prog_1_method_3_code 86 = .ok (.imul, 1) := by decide +kernel
theorem d_K_boot_87 : decode prog_1_method_3_code 87 = .ok (.invokevirtual 72, 3) := by decide +kernel
theorem d_K_boot_90 : decode prog_1_method_3_code 90 = .ok (.aload_n 2, 1) := by decide +kernel
theorem d_K_boot_91 : decode prog_1_method_3_code 91 = .ok (.getfield 76, 3) := by decide +kernel
theorem d_K_boot_94 : decode prog_1_method_3_code 94 = .ok (.iconst 1, 1) := by decide +kernel
theorem d_K_boot_95 : decode prog_1_method_3_code 95 = .ok (.iconst 0, 1) := by decide +kernel
theorem d_K_boot_96 : decode prog_1_method_3_code 96 = .ok (.iastore, 1) := by decide +kernel
theorem d_K_boot_97 : decode prog_1_method_3_code 97 = .ok (.aload_n 0, 1) := by decide +kernel
theorem d_K_boot_98 : decode prog_1_method_3_code 98 = .ok (.aload_n 2, 1) := by decide +kernel
theorem d_K_boot_99 : decode prog_1_method_3_code 99 = .ok (.invokevirtual 79, 3) := by decide +kernel
theorem d_K_boot_102 : decode prog_1_method_3_code 102 = .ok (.iconst 0, 1) := by decide +kernel
theorem d_K_boot_103 : decode prog_1_method_3_code 103 = .ok (.ireturn, 1) := by decide +kernel
theorem d_K_step_0 : decode prog_1_method_4_code 0 = .ok (.aload_n 0, 1) := by decide +kernel
theorem d_K_step_1 : decode prog_1_method_4_code 1 = .ok (.invokevirtual 83, 3) := by decide +kernel
theorem d_K_step_4 : decode prog_1_method_4_code 4 = .ok (.istore_n 1, 1) := by decide +kernel
theorem d_K_step_5 : decode prog_1_method_4_code 5 = .ok (.iload_n 1, 1) := by decide +kernel
theorem d_K_step_6 : decode prog_1_method_4_code 6 = .ok (.ifCond .eq 5, 3) := by decide +kernel
theorem d_K_step_9 : decode prog_1_method_4_code 9 = .ok (.iload_n 1, 1) := by decide +kernel
theorem d_K_step_10 : decode prog_1_method_4_code 10 = .ok (.ireturn, 1) := by decide +kernel
theorem d_K_step_11 : decode prog_1_method_4_code 11 = .ok (.aload_n 0, 1) := by decide +kernel
theorem d_K_step_12 : decode prog_1_method_4_code 12 = .ok (.invokevirtual 87, 3) := by decide +kernel
theorem d_K_step_15 : decode prog_1_method_4_code 15 = .ok (.ifCond .eq 7, 3) := by decide +kernel
theorem d_K_step_18 : decode prog_1_method_4_code 18 = .ok (.iconst (-1), 1) := by decide +kernel
theorem d_K_step_19 : decode prog_1_method_4_code 19 = .ok (.goto 4, 3) := by decide +kernel
theorem d_K_step_22 : decode prog_1_method_4_code 22 = .ok (.iconst 0, 1) := by decide +kernel
theorem d_K_step_23 : decode prog_1_method_4_code 23 = .ok (.ireturn, 1) := by decide +kernel
theorem d_K_run_0 : decode prog_1_method_5_code 0 = .ok (.iload_n 1, 1) := by decide +kernel
theorem d_K_run_1 : decode prog_1_method_5_code 1 = .ok (.iconst 1, 1) := by decide +kernel
theorem d_K_run_2 : decode prog_1_method_5_code 2 = .ok (.if_icmp .lt 9, 3) := by decide +kernel
theorem d_K_run_5 : decode prog_1_method_5_code 5 = .ok (.iload_n 1, 1) := by decide +kernel
theorem d_K_run_6 : decode prog_1_method_5_code 6 = .ok (.bipush 100, 2) := by decide +kernel
theorem d_K_run_8 : decode prog_1_method_5_code 8 = .ok (.if_icmp .le 5, 3) := by decide +kernel
theorem d_K_run_11 : decode prog_1_method_5_code 11 = .ok (.iconst (-1), 1) := by decide +kernel
theorem d_K_run_12 : decode prog_1_method_5_code 12 = .ok (.ireturn, 1) := by decide +kernel
theorem d_K_run_13 : decode prog_1_method_5_code 13 = .ok (.iconst 0, 1) := by decide +kernel
theorem d_K_run_14 : decode prog_1_method_5_code 14 = .ok (.istore_n 2, 1) := by decide +kernel
theorem d_K_run_15 : decode prog_1_method_5_code 15 = .ok (.iload_n 2, 1) := by decide +kernel
theorem d_K_run_16 : decode prog_1_method_5_code 16 = .ok (.iload_n 1, 1) := by decide +kernel
theorem d_K_run_17 : decode prog_1_method_5_code 17 = .ok (.if_icmp .ge 18, 3) := by decide +kernel
theorem d_K_run_20 : decode prog_1_method_5_code 20 = .ok (.aload_n 0, 1) := by decide +kernel
theorem d_K_run_21 : decode prog_1_method_5_code 21 = .ok (.invokevirtual 83, 3) := by decide +kernel
theorem d_K_run_24 : decode prog_1_method_5_code 24 = .ok (.ifCond .ne 5, 3) := by decide +kernel
theorem d_K_run_27 : decode prog_1_method_5_code 27 = .ok (.iload_n 2, 1) := by decide +kernel
theorem d_K_run_28 : decode prog_1_method_5_code 28 = .ok (.ireturn, 1) := by decide +kernel
theorem d_K_run_29 : decode prog_1_method_5_code 29 = .ok (.iinc 2 1, 3) := by decide +kernel
theorem d_K_run_32 : decode prog_1_method_5_code 32 = .ok (.goto (-17), 3) := by decide +kernel
theorem d_K_run_35 : decode prog_1_method_5_code 35 = .ok (.iload_n 1, 1) := by decide +kernel
theorem d_K_run_36 : decode prog_1_method_5_code 36 = .ok (.ireturn, 1) := by decide +kernel
theorem d_K_current_0 : decode prog_1_method_6_code 0 = .ok (.aload_n 0, 1) := by decide +kernel
theorem d_K_current_1 : decode prog_1_method_6_code 1 = .ok (.getfield 91, 3) := by decide +kernel
theorem d_K_current_4 : decode prog_1_method_6_code 4 = .ok (.ireturn, 1) := by decide +kernel
theorem d_K_stateOf_0 : decode prog_1_method_7_code 0 = .ok (.aload_n 0, 1) := by decide +kernel
theorem d_K_stateOf_1 : decode prog_1_method_7_code 1 = .ok (.iload_n 1, 1) := by decide +kernel
theorem d_K_stateOf_2 : decode prog_1_method_7_code 2 = .ok (.invokevirtual 94, 3) := by decide +kernel
theorem d_K_stateOf_5 : decode prog_1_method_7_code 5 = .ok (.astore_n 2, 1) := by decide +kernel
theorem d_K_stateOf_6 : decode prog_1_method_7_code 6 = .ok (.aload_n 2, 1) := by decide +kernel
theorem d_K_stateOf_7 : decode prog_1_method_7_code 7 = .ok (.ifnonnull 7, 3) := by decide +kernel
theorem d_K_stateOf_10 : decode prog_1_method_7_code 10 = .ok (.iconst 0, 1) := by decide +kernel
theorem d_K_stateOf_11 : decode prog_1_method_7_code 11 = .ok (.goto 7, 3) := by decide +kernel
theorem d_K_stateOf_14 : decode prog_1_method_7_code 14 = .ok (.aload_n 2, 1) := by decide +kernel
theorem d_K_stateOf_15 : decode prog_1_method_7_code 15 = .ok (.getfield 98, 3) := by decide +kernel
theorem d_K_stateOf_18 : decode prog_1_method_7_code 18 = .ok (.ireturn, 1) := by decide +kernel
theorem d_K_exitOf_0 : decode prog_1_method_8_code 0 = .ok (.aload_n 0, 1) := by decide +kernel
theorem d_K_exitOf_1 : decode prog_1_method_8_code 1 = .ok (.iload_n 1, 1) := by decide +kernel
theorem d_K_exitOf_2 : decode prog_1_method_8_code 2 = .ok (.invokevirtual 94, 3) := by decide +kernel
theorem d_K_exitOf_5 : decode prog_1_method_8_code 5 = .ok (.astore_n 2, 1) := by decide +kernel
theorem d_K_exitOf_6 : decode prog_1_method_8_code 6 = .ok (.aload_n 2, 1) := by decide +kernel
theorem d_K_exitOf_7 : decode prog_1_method_8_code 7 = .ok (.ifnull 11, 3) := by decide +kernel
theorem d_K_exitOf_10 : decode prog_1_method_8_code 10 = .ok (.aload_n 2, 1) := by decide +kernel
theorem d_K_exitOf_11 : decode prog_1_method_8_code 11 = .ok (.getfield 98, 3) := by decide +kernel
theorem d_K_exitOf_14 : decode prog_1_method_8_code 14 = .ok (.iconst 5, 1) := by decide +kernel
theorem d_K_exitOf_15 : decode prog_1_method_8_code 15 = .ok (.if_icmp .eq 7, 3) := by decide +kernel
theorem d_K_exitOf_18 : decode prog_1_method_8_code 18 = .ok (.iconst (-1), 1) := by decide +kernel
theorem d_K_exitOf_19 : decode prog_1_method_8_code 19 = .ok (.goto 7, 3) := by decide +kernel
theorem d_K_exitOf_22 : decode prog_1_method_8_code 22 = .ok (.aload_n 2, 1) := by decide +kernel
theorem d_K_exitOf_23 : decode prog_1_method_8_code 23 = .ok (.getfield 101, 3) := by decide +kernel
theorem d_K_exitOf_26 : decode prog_1_method_8_code 26 = .ok (.ireturn, 1) := by decide +kernel
theorem d_K_parentOf_0 : decode prog_1_method_9_code 0 = .ok (.aload_n 0, 1) := by decide +kernel
theorem d_K_parentOf_1 : decode prog_1_method_9_code 1 = .ok (.iload_n 1, 1) := by decide +kernel
theorem d_K_parentOf_2 : decode prog_1_method_9_code 2 = .ok (.invokevirtual 94, 3) := by decide +kernel
theorem d_K_parentOf_5 : decode prog_1_method_9_code 5 = .ok (.astore_n 2, 1) := by decide +kernel
theorem d_K_parentOf_6 : decode prog_1_method_9_code 6 = .ok (.aload_n 2, 1) := by decide +kernel
theorem d_K_parentOf_7 : decode prog_1_method_9_code 7 = .ok (.ifnonnull 7, 3) := by decide +kernel
theorem d_K_parentOf_10 : decode prog_1_method_9_code 10 = .ok (.iconst (-1), 1) := by decide +kernel
theorem d_K_parentOf_11 : decode prog_1_method_9_code 11 = .ok (.goto 7, 3) := by decide +kernel
theorem d_K_parentOf_14 : decode prog_1_method_9_code 14 = .ok (.aload_n 2, 1) := by decide +kernel
theorem d_K_parentOf_15 : decode prog_1_method_9_code 15 = .ok (.getfield 104, 3) := by decide +kernel
theorem d_K_parentOf_18 : decode prog_1_method_9_code 18 = .ok (.ireturn, 1) := by decide +kernel
theorem d_K_freeFrames_0 : decode prog_1_method_10_code 0 = .ok (.aload_n 0, 1) := by decide +kernel
theorem d_K_freeFrames_1 : decode prog_1_method_10_code 1 = .ok (.getfield 18, 3) := by decide +kernel
theorem d_K_freeFrames_4 : decode prog_1_method_10_code 4 = .ok (.getfield 61, 3) := by decide +kernel
theorem d_K_freeFrames_7 : decode prog_1_method_10_code 7 = .ok (.ireturn, 1) := by decide +kernel
theorem d_K_pages_0 : decode prog_1_method_11_code 0 = .ok (.aload_n 0, 1) := by decide +kernel
theorem d_K_pages_1 : decode prog_1_method_11_code 1 = .ok (.iload_n 1, 1) := by decide +kernel
theorem d_K_pages_2 : decode prog_1_method_11_code 2 = .ok (.invokevirtual 94, 3) := by decide +kernel
theorem d_K_pages_5 : decode prog_1_method_11_code 5 = .ok (.astore_n 2, 1) := by decide +kernel
theorem d_K_pages_6 : decode prog_1_method_11_code 6 = .ok (.aload_n 2, 1) := by decide +kernel
theorem d_K_pages_7 : decode prog_1_method_11_code 7 = .ok (.ifnonnull 7, 3) := by decide +kernel
theorem d_K_pages_10 : decode prog_1_method_11_code 10 = .ok (.iconst 0, 1) := by decide +kernel
theorem d_K_pages_11 : decode prog_1_method_11_code 11 = .ok (.goto 7, 3) := by decide +kernel
theorem d_K_pages_14 : decode prog_1_method_11_code 14 = .ok (.aload_n 2, 1) := by decide +kernel
theorem d_K_pages_15 : decode prog_1_method_11_code 15 = .ok (.getfield 107, 3) := by decide +kernel
theorem d_K_pages_18 : decode prog_1_method_11_code 18 = .ok (.ireturn, 1) := by decide +kernel
theorem d_K_register_0 : decode prog_1_method_12_code 0 = .ok (.aload_n 0, 1) := by decide +kernel
theorem d_K_register_1 : decode prog_1_method_12_code 1 = .ok (.iload_n 1, 1) := by decide +kernel
theorem d_K_register_2 : decode prog_1_method_12_code 2 = .ok (.invokevirtual 94, 3) := by decide +kernel
theorem d_K_register_5 : decode prog_1_method_12_code 5 = .ok (.astore_n 3, 1) := by decide +kernel
theorem d_K_register_6 : decode prog_1_method_12_code 6 = .ok (.aload_n 3, 1) := by decide +kernel
theorem d_K_register_7 : decode prog_1_method_12_code 7 = .ok (.ifnonnull 7, 3) := by decide +kernel
theorem d_K_register_10 : decode prog_1_method_12_code 10 = .ok (.iconst 0, 1) := by decide +kernel
theorem d_K_register_11 : decode prog_1_method_12_code 11 = .ok (.goto 8, 3) := by decide +kernel
theorem d_K_register_14 : decode prog_1_method_12_code 14 = .ok (.aload_n 3, 1) := by decide +kernel
theorem d_K_register_15 : decode prog_1_method_12_code 15 = .ok (.iload_n 2, 1) := by decide +kernel
theorem d_K_register_16 : decode prog_1_method_12_code 16 = .ok (.invokevirtual 110, 3) := by decide +kernel
theorem d_K_register_19 : decode prog_1_method_12_code 19 = .ok (.ireturn, 1) := by decide +kernel
theorem d_K_pc_0 : decode prog_1_method_13_code 0 = .ok (.aload_n 0, 1) := by decide +kernel
theorem d_K_pc_1 : decode prog_1_method_13_code 1 = .ok (.iload_n 1, 1) := by decide +kernel
theorem d_K_pc_2 : decode prog_1_method_13_code 2 = .ok (.invokevirtual 94, 3) := by decide +kernel
theorem d_K_pc_5 : decode prog_1_method_13_code 5 = .ok (.astore_n 2, 1) := by decide +kernel
theorem d_K_pc_6 : decode prog_1_method_13_code 6 = .ok (.aload_n 2, 1) := by decide +kernel
theorem d_K_pc_7 : decode prog_1_method_13_code 7 = .ok (.ifnonnull 7, 3) := by decide +kernel
theorem d_K_pc_10 : decode prog_1_method_13_code 10 = .ok (.iconst 0, 1) := by decide +kernel
theorem d_K_pc_11 : decode prog_1_method_13_code 11 = .ok (.goto 7, 3) := by decide +kernel
theorem d_K_pc_14 : decode prog_1_method_13_code 14 = .ok (.aload_n 2, 1) := by decide +kernel
theorem d_K_pc_15 : decode prog_1_method_13_code 15 = .ok (.getfield 114, 3) := by decide +kernel
theorem d_K_pc_18 : decode prog_1_method_13_code 18 = .ok (.ireturn, 1) := by decide +kernel
theorem d_K_word_0 : decode prog_1_method_14_code 0 = .ok (.aload_n 0, 1) := by decide +kernel
theorem d_K_word_1 : decode prog_1_method_14_code 1 = .ok (.iload_n 1, 1) := by decide +kernel
theorem d_K_word_2 : decode prog_1_method_14_code 2 = .ok (.invokevirtual 94, 3) := by decide +kernel
theorem d_K_word_5 : decode prog_1_method_14_code 5 = .ok (.astore_n 3, 1) := by decide +kernel
theorem d_K_word_6 : decode prog_1_method_14_code 6 = .ok (.aload_n 3, 1) := by decide +kernel
theorem d_K_word_7 : decode prog_1_method_14_code 7 = .ok (.ifnull 9, 3) := by decide +kernel
theorem d_K_word_10 : decode prog_1_method_14_code 10 = .ok (.iload_n 2, 1) := by decide +kernel
theorem d_K_word_11 : decode prog_1_method_14_code 11 = .ok (.iconst 3, 1) := by decide +kernel
theorem d_K_word_12 : decode prog_1_method_14_code 12 = .ok (.iand, 1) := by decide +kernel
theorem d_K_word_13 : decode prog_1_method_14_code 13 = .ok (.ifCond .eq 5, 3) := by decide +kernel
theorem d_K_word_16 : decode prog_1_method_14_code 16 = .ok (.iconst 0, 1) := by decide +kernel
theorem d_K_word_17 : decode prog_1_method_14_code 17 = .ok (.ireturn, 1) := by decide +kernel
theorem d_K_word_18 : decode prog_1_method_14_code 18 = .ok (.aload_n 0, 1) := by decide +kernel
theorem d_K_word_19 : decode prog_1_method_14_code 19 = .ok (.getfield 18, 3) := by decide +kernel
theorem d_K_word_22 : decode prog_1_method_14_code 22 = .ok (.aload_n 3, 1) := by decide +kernel
theorem d_K_word_23 : decode prog_1_method_14_code 23 = .ok (.iload_n 2, 1) := by decide +kernel
theorem d_K_word_24 : decode prog_1_method_14_code 24 = .ok (.invokevirtual 117, 3) := by decide +kernel
theorem d_K_word_27 : decode prog_1_method_14_code 27 = .ok (.istore 4, 2) := by decide +kernel
theorem d_K_word_29 : decode prog_1_method_14_code 29 = .ok (.iload 4, 2) := by decide +kernel
theorem d_K_word_31 : decode prog_1_method_14_code 31 = .ok (.iconst (-1), 1) := by decide +kernel
theorem d_K_word_32 : decode prog_1_method_14_code 32 = .ok (.if_icmp .ne 7, 3) := by decide +kernel
theorem d_K_word_35 : decode prog_1_method_14_code 35 = .ok (.iconst 0, 1) := by decide +kernel
theorem d_K_word_36 : decode prog_1_method_14_code 36 = .ok (.goto 13, 3) := by decide +kernel
theorem d_K_word_39 : decode prog_1_method_14_code 39 = .ok (.aload_n 0, 1) := by decide +kernel
theorem d_K_word_40 : decode prog_1_method_14_code 40 = .ok (.getfield 18, 3) := by decide +kernel
theorem d_K_word_43 : decode prog_1_method_14_code 43 = .ok (.getfield 121, 3) := by decide +kernel
theorem d_K_word_46 : decode prog_1_method_14_code 46 = .ok (.iload 4, 2) := by decide +kernel
theorem d_K_word_48 : decode prog_1_method_14_code 48 = .ok (.iaload, 1) := by decide +kernel
theorem d_K_word_49 : decode prog_1_method_14_code 49 = .ok (.ireturn, 1) := by decide +kernel
theorem d_K_descriptor_0 : decode prog_1_method_15_code 0 = .ok (.aload_n 0, 1) := by decide +kernel
theorem d_K_descriptor_1 : decode prog_1_method_15_code 1 = .ok (.iload_n 1, 1) := by decide +kernel
theorem d_K_descriptor_2 : decode prog_1_method_15_code 2 = .ok (.invokevirtual 94, 3) := by decide +kernel
theorem d_K_descriptor_5 : decode prog_1_method_15_code 5 = .ok (.astore_n 3, 1) := by decide +kernel
theorem d_K_descriptor_6 : decode prog_1_method_15_code 6 = .ok (.aload_n 3, 1) := by decide +kernel
theorem d_K_descriptor_7 : decode prog_1_method_15_code 7 = .ok (.ifnonnull 7, 3) := by decide +kernel
theorem d_K_descriptor_10 : decode prog_1_method_15_code 10 = .ok (.iconst (-1), 1) := by decide +kernel
theorem d_K_descriptor_11 : decode prog_1_method_15_code 11 = .ok (.goto 8, 3) := by decide +kernel
theorem d_K_descriptor_14 : decode prog_1_method_15_code 14 = .ok (.aload_n 3, 1) := by decide +kernel
theorem d_K_descriptor_15 : decode prog_1_method_15_code 15 = .ok (.iload_n 2, 1) := by decide +kernel
theorem d_K_descriptor_16 : decode prog_1_method_15_code 16 = .ok (.invokevirtual 124, 3) := by decide +kernel
theorem d_K_descriptor_19 : decode prog_1_method_15_code 19 = .ok (.ireturn, 1) := by decide +kernel
theorem d_K_held_0 : decode prog_1_method_16_code 0 = .ok (.iload_n 1, 1) := by decide +kernel
theorem d_K_held_1 : decode prog_1_method_16_code 1 = .ok (.ifCond .lt 16, 3) := by decide +kernel
theorem d_K_held_4 : decode prog_1_method_16_code 4 = .ok (.iload_n 1, 1) := by decide +kernel
theorem d_K_held_5 : decode prog_1_method_16_code 5 = .ok (.iconst 4, 1) := by decide +kernel
theorem d_K_held_6 : decode prog_1_method_16_code 6 = .ok (.if_icmp .ge 11, 3) := by decide +kernel
theorem d_K_held_9 : decode prog_1_method_16_code 9 = .ok (.aload_n 0, 1) := by decide +kernel
theorem d_K_held_10 : decode prog_1_method_16_code 10 = .ok (.iload_n 1, 1) := by decide +kernel
theorem d_K_held_11 : decode prog_1_method_16_code 11 = .ok (.invokevirtual 127, 3) := by decide +kernel
theorem d_K_held_14 : decode prog_1_method_16_code 14 = .ok (.ifCond .eq 7, 3) := by decide +kernel
theorem d_K_held_17 : decode prog_1_method_16_code 17 = .ok (.iconst 0, 1) := by decide +kernel
theorem d_K_held_18 : decode prog_1_method_16_code 18 = .ok (.goto 12, 3) := by decide +kernel
theorem d_K_held_21 : decode prog_1_method_16_code 21 = .ok (.aload_n 0, 1) := by decide +kernel
theorem d_K_held_22 : decode prog_1_method_16_code 22 = .ok (.getfield 35, 3) := by decide +kernel
theorem d_K_held_25 : decode prog_1_method_16_code 25 = .ok (.iload_n 1, 1) := by decide +kernel
theorem d_K_held_26 : decode prog_1_method_16_code 26 = .ok (.aaload, 1) := by decide +kernel
theorem d_K_held_27 : decode prog_1_method_16_code 27 = .ok (.getfield 131, 3) := by decide +kernel
theorem d_K_held_30 : decode prog_1_method_16_code 30 = .ok (.ireturn, 1) := by decide +kernel
theorem d_K_consoleLength_0 : decode prog_1_method_17_code 0 = .ok (.aload_n 0, 1) := by decide +kernel
theorem d_K_consoleLength_1 : decode prog_1_method_17_code 1 = .ok (.getfield 134, 3) := by decide +kernel
theorem d_K_consoleLength_4 : decode prog_1_method_17_code 4 = .ok (.ireturn, 1) := by decide +kernel
theorem d_K_console_0 : decode prog_1_method_18_code 0 = .ok (.iload_n 1, 1) := by decide +kernel
theorem d_K_console_1 : decode prog_1_method_18_code 1 = .ok (.ifCond .lt 11, 3) := by decide +kernel
theorem d_K_console_4 : decode prog_1_method_18_code 4 = .ok (.iload_n 1, 1) := by decide +kernel
theorem d_K_console_5 : decode prog_1_method_18_code 5 = .ok (.aload_n 0, 1) := by decide +kernel
theorem d_K_console_6 : decode prog_1_method_18_code 6 = .ok (.getfield 134, 3) := by decide +kernel
theorem d_K_console_9 : decode prog_1_method_18_code 9 = .ok (.if_icmp .lt 7, 3) := by decide +kernel
theorem d_K_console_12 : decode prog_1_method_18_code 12 = .ok (.iconst (-1), 1) := by decide +kernel
theorem d_K_console_13 : decode prog_1_method_18_code 13 = .ok (.goto 9, 3) := by decide +kernel
theorem d_K_console_16 : decode prog_1_method_18_code 16 = .ok (.aload_n 0, 1) := by decide +kernel
theorem d_K_console_17 : decode prog_1_method_18_code 17 = .ok (.getfield 51, 3) := by decide +kernel
theorem d_K_console_20 : decode prog_1_method_18_code 20 = .ok (.iload_n 1, 1) := by decide +kernel
theorem d_K_console_21 : decode prog_1_method_18_code 21 = .ok (.iaload, 1) := by decide +kernel
theorem d_K_console_22 : decode prog_1_method_18_code 22 = .ok (.ireturn, 1) := by decide +kernel
theorem d_K_waitingTurn_0 : decode prog_1_method_19_code 0 = .ok (.aload_n 0, 1) := by decide +kernel
theorem d_K_waitingTurn_1 : decode prog_1_method_19_code 1 = .ok (.getfield 43, 3) := by decide +kernel
theorem d_K_waitingTurn_4 : decode prog_1_method_19_code 4 = .ok (.iload_n 1, 1) := by decide +kernel
theorem d_K_waitingTurn_5 : decode prog_1_method_19_code 5 = .ok (.invokevirtual 137, 3) := by decide +kernel
theorem d_K_waitingTurn_8 : decode prog_1_method_19_code 8 = .ok (.ireturn, 1) := by decide +kernel
theorem d_K_within_0 : decode prog_1_method_20_code 0 = .ok (.iload_n 0, 1) := by decide +kernel
theorem d_K_within_1 : decode prog_1_method_20_code 1 = .ok (.iconst 1, 1) := by decide +kernel
theorem d_K_within_2 : decode prog_1_method_20_code 2 = .ok (.if_icmp .lt 12, 3) := by decide +kernel
theorem d_K_within_5 : decode prog_1_method_20_code 5 = .ok (.iload_n 0, 1) := by decide +kernel
theorem d_K_within_6 : decode prog_1_method_20_code 6 = .ok (.iload_n 1, 1) := by decide +kernel
theorem d_K_within_7 : decode prog_1_method_20_code 7 = .ok (.if_icmp .gt 7, 3) := by decide +kernel
theorem d_K_within_10 : decode prog_1_method_20_code 10 = .ok (.iload_n 0, 1) := by decide +kernel
theorem d_K_within_11 : decode prog_1_method_20_code 11 = .ok (.goto 4, 3) := by decide +kernel
theorem d_K_within_14 : decode prog_1_method_20_code 14 = .ok (.iload_n 2, 1) := by decide +kernel
theorem d_K_within_15 : decode prog_1_method_20_code 15 = .ok (.ireturn, 1) := by decide +kernel
theorem d_K_find_0 : decode prog_1_method_21_code 0 = .ok (.iload_n 1, 1) := by decide +kernel
theorem d_K_find_1 : decode prog_1_method_21_code 1 = .ok (.iconst 1, 1) := by decide +kernel
theorem d_K_find_2 : decode prog_1_method_21_code 2 = .ok (.if_icmp .lt 9, 3) := by decide +kernel
theorem d_K_find_5 : decode prog_1_method_21_code 5 = .ok (.iload_n 1, 1) := by decide +kernel
theorem d_K_find_6 : decode prog_1_method_21_code 6 = .ok (.bipush 8, 2) := by decide +kernel
theorem d_K_find_8 : decode prog_1_method_21_code 8 = .ok (.if_icmp .le 5, 3) := by decide +kernel
theorem d_K_find_11 : decode prog_1_method_21_code 11 = .ok (.aconst_null, 1) := by decide +kernel
theorem d_K_find_12 : decode prog_1_method_21_code 12 = .ok (.areturn, 1) := by decide +kernel
theorem d_K_find_13 : decode prog_1_method_21_code 13 = .ok (.aload_n 0, 1) := by decide +kernel
theorem d_K_find_14 : decode prog_1_method_21_code 14 = .ok (.getfield 28, 3) := by decide +kernel
theorem d_K_find_17 : decode prog_1_method_21_code 17 = .ok (.iload_n 1, 1) := by decide +kernel
theorem d_K_find_18 : decode prog_1_method_21_code 18 = .ok (.iconst 1, 1) := by decide +kernel
theorem d_K_find_19 : decode prog_1_method_21_code 19 = .ok (.isub, 1) := by decide +kernel
theorem d_K_find_20 : decode prog_1_method_21_code 20 = .ok (.aaload, 1) := by decide +kernel
theorem d_K_find_21 : decode prog_1_method_21_code 21 = .ok (.astore_n 2, 1) := by decide +kernel
theorem d_K_find_22 : decode prog_1_method_21_code 22 = .ok (.aload_n 2, 1) := by decide +kernel
theorem d_K_find_23 : decode prog_1_method_21_code 23 = .ok (.getfield 98, 3) := by decide +kernel
theorem d_K_find_26 : decode prog_1_method_21_code 26 = .ok (.ifCond .ne 7, 3) := by decide +kernel
theorem d_K_find_29 : decode prog_1_method_21_code 29 = .ok (.aconst_null, 1) := by decide +kernel
theorem d_K_find_30 : decode prog_1_method_21_code 30 = .ok (.goto 4, 3) := by decide +kernel
theorem d_K_find_33 : decode prog_1_method_21_code 33 = .ok (.aload_n 2, 1) := by decide +kernel
theorem d_K_find_34 : decode prog_1_method_21_code 34 = .ok (.areturn, 1) := by decide +kernel
theorem d_K_allHaveEnded_0 : decode prog_1_method_22_code 0 = .ok (.iconst 0, 1) := by decide +kernel
theorem d_K_allHaveEnded_1 : decode prog_1_method_22_code 1 = .ok (.istore_n 1, 1) := by decide +kernel
theorem d_K_allHaveEnded_2 : decode prog_1_method_22_code 2 = .ok (.iload_n 1, 1) := by decide +kernel
theorem d_K_allHaveEnded_3 : decode prog_1_method_22_code 3 = .ok (.bipush 8, 2) := by decide +kernel
theorem d_K_allHaveEnded_5 : decode prog_1_method_22_code 5 = .ok (.if_icmp .ge 36, 3) := by decide +kernel
theorem d_K_allHaveEnded_8 : decode prog_1_method_22_code 8 = .ok (.aload_n 0, 1) := by decide +kernel
theorem d_K_allHaveEnded_9 : decode prog_1_method_22_code 9 = .ok (.getfield 28, 3) := by decide +kernel
theorem d_K_allHaveEnded_12 : decode prog_1_method_22_code 12 = .ok (.iload_n 1, 1) := by decide +kernel
theorem d_K_allHaveEnded_13 : decode prog_1_method_22_code 13 = .ok (.aaload, 1) := by decide +kernel
theorem d_K_allHaveEnded_14 : decode prog_1_method_22_code 14 = .ok (.getfield 98, 3) := by decide +kernel
theorem d_K_allHaveEnded_17 : decode prog_1_method_22_code 17 = .ok (.ifCond .eq 18, 3) := by decide +kernel
theorem d_K_allHaveEnded_20 : decode prog_1_method_22_code 20 = .ok (.aload_n 0, 1) := by decide +kernel
theorem d_K_allHaveEnded_21 : decode prog_1_method_22_code 21 = .ok (.getfield 28, 3) := by decide +kernel
theorem d_K_allHaveEnded_24 : decode prog_1_method_22_code 24 = .ok (.iload_n 1, 1) := by decide +kernel
theorem d_K_allHaveEnded_25 : decode prog_1_method_22_code 25 = .ok (.aaload, 1) := by decide +kernel
theorem d_K_allHaveEnded_26 : decode prog_1_method_22_code 26 = .ok (.getfield 98, 3) := by decide +kernel
theorem d_K_allHaveEnded_29 : decode prog_1_method_22_code 29 = .ok (.iconst 5, 1) := by decide +kernel
theorem d_K_allHaveEnded_30 : decode prog_1_method_22_code 30 = .ok (.if_icmp .eq 5, 3) := by decide +kernel
theorem d_K_allHaveEnded_33 : decode prog_1_method_22_code 33 = .ok (.iconst 0, 1) := by decide +kernel
theorem d_K_allHaveEnded_34 : decode prog_1_method_22_code 34 = .ok (.ireturn, 1) := by decide +kernel
theorem d_K_allHaveEnded_35 : decode prog_1_method_22_code 35 = .ok (.iinc 1 1, 3) := by decide +kernel
theorem d_K_allHaveEnded_38 : decode prog_1_method_22_code 38 = .ok (.goto (-36), 3) := by decide +kernel
theorem d_K_allHaveEnded_41 : decode prog_1_method_22_code 41 = .ok (.iconst 1, 1) := by decide +kernel
theorem d_K_allHaveEnded_42 : decode prog_1_method_22_code 42 = .ok (.ireturn, 1) := by decide +kernel
theorem d_K_makeReady_0 : decode prog_1_method_23_code 0 = .ok (.aload_n 1, 1) := by decide +kernel
theorem d_K_makeReady_1 : decode prog_1_method_23_code 1 = .ok (.iconst 1, 1) := by decide +kernel
theorem d_K_makeReady_2 : decode prog_1_method_23_code 2 = .ok (.putfield 98, 3) := by decide +kernel
theorem d_K_makeReady_5 : decode prog_1_method_23_code 5 = .ok (.aload_n 0, 1) := by decide +kernel
theorem d_K_makeReady_6 : decode prog_1_method_23_code 6 = .ok (.getfield 43, 3) := by decide +kernel
theorem d_K_makeReady_9 : decode prog_1_method_23_code 9 = .ok (.aload_n 1, 1) := by decide +kernel
theorem d_K_makeReady_10 : decode prog_1_method_23_code 10 = .ok (.getfield 140, 3) := by decide +kernel
theorem d_K_makeReady_13 : decode prog_1_method_23_code 13 = .ok (.invokevirtual 143, 3) := by decide +kernel
theorem d_K_makeReady_16 : decode prog_1_method_23_code 16 = .ok (.return_, 1) := by decide +kernel
theorem d_K_makeStep_0 : decode prog_1_method_24_code 0 = .ok (.aload_n 0, 1) := by decide +kernel
theorem d_K_makeStep_1 : decode prog_1_method_24_code 1 = .ok (.getfield 91, 3) := by decide +kernel
theorem d_K_makeStep_4 : decode prog_1_method_24_code 4 = .ok (.ifCond .ne 22, 3) := by decide +kernel
theorem d_K_makeStep_7 : decode prog_1_method_24_code 7 = .ok (.aload_n 0, 1) := by decide +kernel
theorem d_K_makeStep_8 : decode prog_1_method_24_code 8 = .ok (.aload_n 0, 1) := by decide +kernel
theorem d_K_makeStep_9 : decode prog_1_method_24_code 9 = .ok (.getfield 43, 3) := by decide +kernel
theorem d_K_makeStep_12 : decode prog_1_method_24_code 12 = .ok (.invokevirtual 146, 3) := by decide +kernel
theorem d_K_makeStep_15 : decode prog_1_method_24_code 15 = .ok (.putfield 91, 3) := by decide +kernel
theorem d_K_makeStep_18 : decode prog_1_method_24_code 18 = .ok (.aload_n 0, 1) := by decide +kernel
theorem d_K_makeStep_19 : decode prog_1_method_24_code 19 = .ok (.aload_n 0, 1) := by decide +kernel
theorem d_K_makeStep_20 : decode prog_1_method_24_code 20 = .ok (.getfield 22, 3) := by decide +kernel
theorem d_K_makeStep_23 : decode prog_1_method_24_code 23 = .ok (.putfield 149, 3) := by decide +kernel
theorem d_K_makeStep_26 : decode prog_1_method_24_code 26 = .ok (.aload_n 0, 1) := by decide +kernel
theorem d_K_makeStep_27 : decode prog_1_method_24_code 27 = .ok (.getfield 91, 3) := by decide +kernel
theorem d_K_makeStep_30 : decode prog_1_method_24_code 30 = .ok (.istore_n 1, 1) := by decide +kernel
theorem d_K_makeStep_31 : decode prog_1_method_24_code 31 = .ok (.aload_n 0, 1) := by decide +kernel
theorem d_K_makeStep_32 : decode prog_1_method_24_code 32 = .ok (.iload_n 1, 1) := by decide +kernel
theorem d_K_makeStep_33 : decode prog_1_method_24_code 33 = .ok (.invokevirtual 94, 3) := by decide +kernel
theorem d_K_makeStep_36 : decode prog_1_method_24_code 36 = .ok (.astore_n 2, 1) := by decide +kernel
theorem d_K_makeStep_37 : decode prog_1_method_24_code 37 = .ok (.aload_n 2, 1) := by decide +kernel
theorem d_K_makeStep_38 : decode prog_1_method_24_code 38 = .ok (.ifnonnull 5, 3) := by decide +kernel
theorem d_K_makeStep_41 : decode prog_1_method_24_code 41 = .ok (.iconst 0, 1) := by decide +kernel
theorem d_K_makeStep_42 : decode prog_1_method_24_code 42 = .ok (.ireturn, 1) := by decide +kernel
theorem d_K_makeStep_43 : decode prog_1_method_24_code 43 = .ok (.aload_n 0, 1) := by decide +kernel
theorem d_K_makeStep_44 : decode prog_1_method_24_code 44 = .ok (.iconst 0, 1) := by decide +kernel
theorem d_K_makeStep_45 : decode prog_1_method_24_code 45 = .ok (.putfield 152, 3) := by decide +kernel
theorem d_K_makeStep_48 : decode prog_1_method_24_code 48 = .ok (.aload_n 0, 1) := by decide +kernel
theorem d_K_makeStep_49 : decode prog_1_method_24_code 49 = .ok (.dup, 1) := by decide +kernel
theorem d_K_makeStep_50 : decode prog_1_method_24_code 50 = .ok (.getfield 149, 3) := by decide +kernel
theorem d_K_makeStep_53 : decode prog_1_method_24_code 53 = .ok (.iconst 1, 1) := by decide +kernel
theorem d_K_makeStep_54 : decode prog_1_method_24_code 54 = .ok (.isub, 1) := by decide +kernel
theorem d_K_makeStep_55 : decode prog_1_method_24_code 55 = .ok (.putfield 149, 3) := by decide +kernel
theorem d_K_makeStep_58 : decode prog_1_method_24_code 58 = .ok (.aload_n 0, 1) := by decide +kernel
theorem d_K_makeStep_59 : decode prog_1_method_24_code 59 = .ok (.getfield 18, 3) := by decide +kernel
theorem d_K_makeStep_62 : decode prog_1_method_24_code 62 = .ok (.aload_n 2, 1) := by decide +kernel
theorem d_K_makeStep_63 : decode prog_1_method_24_code 63 = .ok (.invokestatic 155, 3) := by decide +kernel
theorem d_K_makeStep_66 : decode prog_1_method_24_code 66 = .ok (.istore_n 3, 1) := by decide +kernel
theorem d_K_makeStep_67 : decode prog_1_method_24_code 67 = .ok (.iload_n 3, 1) := by decide +kernel
theorem d_K_makeStep_68 : decode prog_1_method_24_code 68 = .ok (.bipush (-2), 2) := by decide +kernel
theorem d_K_makeStep_70 : decode prog_1_method_24_code 70 = .ok (.if_icmp .ne 31, 3) := by decide +kernel
theorem d_K_makeStep_73 : decode prog_1_method_24_code 73 = .ok (.aload_n 0, 1) := by decide +kernel
theorem d_K_makeStep_74 : decode prog_1_method_24_code 74 = .ok (.aload_n 2, 1) := by decide +kernel
theorem d_K_makeStep_75 : decode prog_1_method_24_code 75 = .ok (.invokevirtual 161, 3) := by decide +kernel
theorem d_K_makeStep_78 : decode prog_1_method_24_code 78 = .ok (.ifCond .eq 23, 3) := by decide +kernel
theorem d_K_makeStep_81 : decode prog_1_method_24_code 81 = .ok (.aload_n 2, 1) := by decide +kernel
theorem d_K_makeStep_82 : decode prog_1_method_24_code 82 = .ok (.bipush 10, 2) := by decide +kernel
theorem d_K_makeStep_84 : decode prog_1_method_24_code 84 = .ok (.aload_n 0, 1) := by decide +kernel
theorem d_K_makeStep_85 : decode prog_1_method_24_code 85 = .ok (.aload_n 2, 1) := by decide +kernel
theorem d_K_makeStep_86 : decode prog_1_method_24_code 86 = .ok (.aload_n 2, 1) := by decide +kernel
theorem d_K_makeStep_87 : decode prog_1_method_24_code 87 = .ok (.bipush 10, 2) := by decide +kernel
theorem d_K_makeStep_89 : decode prog_1_method_24_code 89 = .ok (.invokevirtual 110, 3) := by decide +kernel
theorem d_K_makeStep_92 : decode prog_1_method_24_code 92 = .ok (.invokevirtual 165, 3) := by decide +kernel
theorem d_K_makeStep_95 : decode prog_1_method_24_code 95 = .ok (.invokevirtual 72, 3) := by decide +kernel
theorem d_K_makeStep_98 : decode prog_1_method_24_code 98 = .ok (.goto 17, 3) := by decide +kernel
theorem d_K_makeStep_101 : decode prog_1_method_24_code 101 = .ok (.iload_n 3, 1) := by decide +kernel
theorem d_K_makeStep_102 : decode prog_1_method_24_code 102 = .ok (.ifCond .lt 13, 3) := by decide +kernel
theorem d_K_makeStep_105 : decode prog_1_method_24_code 105 = .ok (.aload_n 0, 1) := by decide +kernel
theorem d_K_makeStep_106 : decode prog_1_method_24_code 106 = .ok (.aload_n 2, 1) := by decide +kernel
theorem d_K_makeStep_107 : decode prog_1_method_24_code 107 = .ok (.sipush 128, 3) := by decide +kernel
theorem d_K_makeStep_110 : decode prog_1_method_24_code 110 = .ok (.iload_n 3, 1) := by decide +kernel
theorem d_K_makeStep_111 : decode prog_1_method_24_code 111 = .ok (.iadd, 1) := by decide +kernel
theorem d_K_makeStep_112 : decode prog_1_method_24_code 112 = .ok (.invokevirtual 168, 3) := by decide +kernel
theorem d_K_makeStep_115 : decode prog_1_method_24_code 115 = .ok (.aload_n 0, 1) := by decide +kernel
theorem d_K_makeStep_116 : decode prog_1_method_24_code 116 = .ok (.aload_n 2, 1) := by decide +kernel
theorem d_K_makeStep_117 : decode prog_1_method_24_code 117 = .ok (.invokevirtual 171, 3) := by decide +kernel
theorem d_K_makeStep_120 : decode prog_1_method_24_code 120 = .ok (.aload_n 0, 1) := by decide +kernel
theorem d_K_makeStep_121 : decode prog_1_method_24_code 121 = .ok (.invokevirtual 174, 3) := by decide +kernel
theorem d_K_makeStep_124 : decode prog_1_method_24_code 124 = .ok (.iload_n 1, 1) := by decide +kernel
theorem d_K_makeStep_125 : decode prog_1_method_24_code 125 = .ok (.ireturn, 1) := by decide +kernel
end
section
theorem d_K_passTurn_0 : decode prog_1_method_25_code 0 = .ok (.aload_n 1, 1) := by decide +kernel
theorem d_K_passTurn_1 : decode prog_1_method_25_code 1 = .ok (.getfield 98, 3) := by decide +kernel
theorem d_K_passTurn_4 : decode prog_1_method_25_code 4 = .ok (.iconst 1, 1) := by decide +kernel
theorem d_K_passTurn_5 : decode prog_1_method_25_code 5 = .ok (.if_icmp .eq 11, 3) := by decide +kernel
theorem d_K_passTurn_8 : decode prog_1_method_25_code 8 = .ok (.aload_n 0, 1) := by decide +kernel
theorem d_K_passTurn_9 : decode prog_1_method_25_code 9 = .ok (.iconst 0, 1) := by decide +kernel
theorem d_K_passTurn_10 : decode prog_1_method_25_code 10 = .ok (.putfield 91, 3) := by decide +kernel
theorem d_K_passTurn_13 : decode prog_1_method_25_code 13 = .ok (.goto 33, 3) := by decide +kernel
theorem d_K_passTurn_16 : decode prog_1_method_25_code 16 = .ok (.aload_n 0, 1) := by decide +kernel
theorem d_K_passTurn_17 : decode prog_1_method_25_code 17 = .ok (.getfield 152, 3) := by decide +kernel
theorem d_K_passTurn_20 : decode prog_1_method_25_code 20 = .ok (.ifCond .ne 10, 3) := by decide +kernel
theorem d_K_passTurn_23 : decode prog_1_method_25_code 23 = .ok (.aload_n 0, 1) := by decide +kernel
theorem d_K_passTurn_24 : decode prog_1_method_25_code 24 = .ok (.getfield 149, 3) := by decide +kernel
theorem d_K_passTurn_27 : decode prog_1_method_25_code 27 = .ok (.ifCond .gt 19, 3) := by decide +kernel
theorem d_K_passTurn_30 : decode prog_1_method_25_code 30 = .ok (.aload_n 0, 1) := by decide +kernel
theorem d_K_passTurn_31 : decode prog_1_method_25_code 31 = .ok (.getfield 43, 3) := by decide +kernel
theorem d_K_passTurn_34 : decode prog_1_method_25_code 34 = .ok (.aload_n 1, 1) := by decide +kernel
theorem d_K_passTurn_35 : decode prog_1_method_25_code 35 = .ok (.getfield 140, 3) := by decide +kernel
theorem d_K_passTurn_38 : decode prog_1_method_25_code 38 = .ok (.invokevirtual 143, 3) := by decide +kernel
theorem d_K_passTurn_41 : decode prog_1_method_25_code 41 = .ok (.aload_n 0, 1) := by decide +kernel
theorem d_K_passTurn_42 : decode prog_1_method_25_code 42 = .ok (.iconst 0, 1) := by decide +kernel
theorem d_K_passTurn_43 : decode prog_1_method_25_code 43 = .ok (.putfield 91, 3) := by decide +kernel
theorem d_K_passTurn_46 : decode prog_1_method_25_code 46 = .ok (.return_, 1) := by decide +kernel
theorem d_K_wakeSleepers_0 : decode prog_1_method_26_code 0 = .ok (.iconst 0, 1) := by decide +kernel
theorem d_K_wakeSleepers_1 : decode prog_1_method_26_code 1 = .ok (.istore_n 1, 1) := by decide +kernel
theorem d_K_wakeSleepers_2 : decode prog_1_method_26_code 2 = .ok (.iload_n 1, 1) := by decide +kernel
theorem d_K_wakeSleepers_3 : decode prog_1_method_26_code 3 = .ok (.bipush 8, 2) := by decide +kernel
theorem d_K_wakeSleepers_5 : decode prog_1_method_26_code 5 = .ok (.if_icmp .ge 37, 3) := by decide +kernel
theorem d_K_wakeSleepers_8 : decode prog_1_method_26_code 8 = .ok (.aload_n 0, 1) := by decide +kernel
theorem d_K_wakeSleepers_9 : decode prog_1_method_26_code 9 = .ok (.getfield 28, 3) := by decide +kernel
theorem d_K_wakeSleepers_12 : decode prog_1_method_26_code 12 = .ok (.iload_n 1, 1) := by decide +kernel
theorem d_K_wakeSleepers_13 : decode prog_1_method_26_code 13 = .ok (.aaload, 1) := by decide +kernel
theorem d_K_wakeSleepers_14 : decode prog_1_method_26_code 14 = .ok (.astore_n 2, 1) := by decide +kernel
theorem d_K_wakeSleepers_15 : decode prog_1_method_26_code 15 = .ok (.aload_n 2, 1) := by decide +kernel
theorem d_K_wakeSleepers_16 : decode prog_1_method_26_code 16 = .ok (.invokevirtual 177, 3) := by decide +kernel
theorem d_K_wakeSleepers_19 : decode prog_1_method_26_code 19 = .ok (.ifCond .eq 17, 3) := by decide +kernel
theorem d_K_wakeSleepers_22 : decode prog_1_method_26_code 22 = .ok (.aload_n 0, 1) := by decide +kernel
theorem d_K_wakeSleepers_23 : decode prog_1_method_26_code 23 = .ok (.aload_n 2, 1) := by decide +kernel
theorem d_K_wakeSleepers_24 : decode prog_1_method_26_code 24 = .ok (.invokevirtual 180, 3) := by decide +kernel
theorem d_K_wakeSleepers_27 : decode prog_1_method_26_code 27 = .ok (.iconst 1, 1) := by decide +kernel
theorem d_K_wakeSleepers_28 : decode prog_1_method_26_code 28 = .ok (.if_icmp .ne 8, 3) := by decide +kernel
theorem d_K_wakeSleepers_31 : decode prog_1_method_26_code 31 = .ok (.aload_n 0, 1) := by decide +kernel
theorem d_K_wakeSleepers_32 : decode prog_1_method_26_code 32 = .ok (.aload_n 2, 1) := by decide +kernel
theorem d_K_wakeSleepers_33 : decode prog_1_method_26_code 33 = .ok (.invokevirtual 79, 3) := by decide +kernel
theorem d_K_wakeSleepers_36 : decode prog_1_method_26_code 36 = .ok (.iinc 1 1, 3) := by decide +kernel
theorem d_K_wakeSleepers_39 : decode prog_1_method_26_code 39 = .ok (.goto (-37), 3) := by decide +kernel
theorem d_K_wakeSleepers_42 : decode prog_1_method_26_code 42 = .ok (.return_, 1) := by decide +kernel
theorem d_K_beginCall_0 : decode prog_1_method_27_code 0 = .ok (.aload_n 1, 1) := by decide +kernel
theorem d_K_beginCall_1 : decode prog_1_method_27_code 1 = .ok (.aload_n 0, 1) := by decide +kernel
theorem d_K_beginCall_2 : decode prog_1_method_27_code 2 = .ok (.aload_n 1, 1) := by decide +kernel
theorem d_K_beginCall_3 : decode prog_1_method_27_code 3 = .ok (.invokevirtual 180, 3) := by decide +kernel
theorem d_K_beginCall_6 : decode prog_1_method_27_code 6 = .ok (.putfield 98, 3) := by decide +kernel
theorem d_K_beginCall_9 : decode prog_1_method_27_code 9 = .ok (.aload_n 1, 1) := by decide +kernel
theorem d_K_beginCall_10 : decode prog_1_method_27_code 10 = .ok (.getfield 98, 3) := by decide +kernel
theorem d_K_beginCall_13 : decode prog_1_method_27_code 13 = .ok (.iconst 1, 1) := by decide +kernel
theorem d_K_beginCall_14 : decode prog_1_method_27_code 14 = .ok (.if_icmp .eq 5, 3) := by decide +kernel
theorem d_K_beginCall_17 : decode prog_1_method_27_code 17 = .ok (.iconst 0, 1) := by decide +kernel
theorem d_K_beginCall_18 : decode prog_1_method_27_code 18 = .ok (.ireturn, 1) := by decide +kernel
theorem d_K_beginCall_19 : decode prog_1_method_27_code 19 = .ok (.aload_n 1, 1) := by decide +kernel
theorem d_K_beginCall_20 : decode prog_1_method_27_code 20 = .ok (.dup, 1) := by decide +kernel
theorem d_K_beginCall_21 : decode prog_1_method_27_code 21 = .ok (.getfield 114, 3) := by decide +kernel
theorem d_K_beginCall_24 : decode prog_1_method_27_code 24 = .ok (.iconst 4, 1) := by decide +kernel
theorem d_K_beginCall_25 : decode prog_1_method_27_code 25 = .ok (.iadd, 1) := by decide +kernel
theorem d_K_beginCall_26 : decode prog_1_method_27_code 26 = .ok (.putfield 114, 3) := by decide +kernel
theorem d_K_beginCall_29 : decode prog_1_method_27_code 29 = .ok (.iconst 1, 1) := by decide +kernel
theorem d_K_beginCall_30 : decode prog_1_method_27_code 30 = .ok (.ireturn, 1) := by decide +kernel
theorem d_K_obstacleOf_0 : decode prog_1_method_28_code 0 = .ok (.aload_n 1, 1) := by decide +kernel
theorem d_K_obstacleOf_1 : decode prog_1_method_28_code 1 = .ok (.aload_n 1, 1) := by decide +kernel
theorem d_K_obstacleOf_2 : decode prog_1_method_28_code 2 = .ok (.bipush 10, 2) := by decide +kernel
theorem d_K_obstacleOf_4 : decode prog_1_method_28_code 4 = .ok (.invokevirtual 110, 3) := by decide +kernel
theorem d_K_obstacleOf_7 : decode prog_1_method_28_code 7 = .ok (.invokevirtual 124, 3) := by decide +kernel
theorem d_K_obstacleOf_10 : decode prog_1_method_28_code 10 = .ok (.istore_n 2, 1) := by decide +kernel
theorem d_K_obstacleOf_11 : decode prog_1_method_28_code 11 = .ok (.aload_n 1, 1) := by decide +kernel
theorem d_K_obstacleOf_12 : decode prog_1_method_28_code 12 = .ok (.bipush 17, 2) := by decide +kernel
theorem d_K_obstacleOf_14 : decode prog_1_method_28_code 14 = .ok (.invokevirtual 110, 3) := by decide +kernel
theorem d_K_obstacleOf_17 : decode prog_1_method_28_code 17 = .ok (.tableswitch 121 4 7 #[31, 121, 53, 87], 31) := by decide +kernel
theorem d_K_obstacleOf_48 : decode prog_1_method_28_code 48 = .ok (.aload_n 0, 1) := by decide +kernel
theorem d_K_obstacleOf_49 : decode prog_1_method_28_code 49 = .ok (.aload_n 1, 1) := by decide +kernel
theorem d_K_obstacleOf_50 : decode prog_1_method_28_code 50 = .ok (.invokevirtual 184, 3) := by decide +kernel
theorem d_K_obstacleOf_53 : decode prog_1_method_28_code 53 = .ok (.ifCond .eq 15, 3) := by decide +kernel
theorem d_K_obstacleOf_56 : decode prog_1_method_28_code 56 = .ok (.aload_n 0, 1) := by decide +kernel
theorem d_K_obstacleOf_57 : decode prog_1_method_28_code 57 = .ok (.aload_n 1, 1) := by decide +kernel
theorem d_K_obstacleOf_58 : decode prog_1_method_28_code 58 = .ok (.invokevirtual 187, 3) := by decide +kernel
theorem d_K_obstacleOf_61 : decode prog_1_method_28_code 61 = .ok (.ifnonnull 7, 3) := by decide +kernel
theorem d_K_obstacleOf_64 : decode prog_1_method_28_code 64 = .ok (.iconst 4, 1) := by decide +kernel
theorem d_K_obstacleOf_65 : decode prog_1_method_28_code 65 = .ok (.goto 4, 3) := by decide +kernel
theorem d_K_obstacleOf_68 : decode prog_1_method_28_code 68 = .ok (.iconst 1, 1) := by decide +kernel
theorem d_K_obstacleOf_69 : decode prog_1_method_28_code 69 = .ok (.ireturn, 1) := by decide +kernel
theorem d_K_obstacleOf_70 : decode prog_1_method_28_code 70 = .ok (.iload_n 2, 1) := by decide +kernel
theorem d_K_obstacleOf_71 : decode prog_1_method_28_code 71 = .ok (.invokestatic 191, 3) := by decide +kernel
theorem d_K_obstacleOf_74 : decode prog_1_method_28_code 74 = .ok (.ifCond .eq 28, 3) := by decide +kernel
theorem d_K_obstacleOf_77 : decode prog_1_method_28_code 77 = .ok (.aload_n 0, 1) := by decide +kernel
theorem d_K_obstacleOf_78 : decode prog_1_method_28_code 78 = .ok (.iload_n 2, 1) := by decide +kernel
theorem d_K_obstacleOf_79 : decode prog_1_method_28_code 79 = .ok (.invokevirtual 194, 3) := by decide +kernel
theorem d_K_obstacleOf_82 : decode prog_1_method_28_code 82 = .ok (.invokevirtual 198, 3) := by decide +kernel
theorem d_K_obstacleOf_85 : decode prog_1_method_28_code 85 = .ok (.ifCond .eq 17, 3) := by decide +kernel
theorem d_K_obstacleOf_88 : decode prog_1_method_28_code 88 = .ok (.aload_n 0, 1) := by decide +kernel
theorem d_K_obstacleOf_89 : decode prog_1_method_28_code 89 = .ok (.iload_n 2, 1) := by decide +kernel
theorem d_K_obstacleOf_90 : decode prog_1_method_28_code 90 = .ok (.iconst 1, 1) := by decide +kernel
theorem d_K_obstacleOf_91 : decode prog_1_method_28_code 91 = .ok (.isub, 1) := by decide +kernel
theorem d_K_obstacleOf_92 : decode prog_1_method_28_code 92 = .ok (.invokevirtual 201, 3) := by decide +kernel
theorem d_K_obstacleOf_95 : decode prog_1_method_28_code 95 = .ok (.ifCond .eq 7, 3) := by decide +kernel
theorem d_K_obstacleOf_98 : decode prog_1_method_28_code 98 = .ok (.iconst 3, 1) := by decide +kernel
theorem d_K_obstacleOf_99 : decode prog_1_method_28_code 99 = .ok (.goto 4, 3) := by decide +kernel
theorem d_K_obstacleOf_102 : decode prog_1_method_28_code 102 = .ok (.iconst 1, 1) := by decide +kernel
theorem d_K_obstacleOf_103 : decode prog_1_method_28_code 103 = .ok (.ireturn, 1) := by decide +kernel
theorem d_K_obstacleOf_104 : decode prog_1_method_28_code 104 = .ok (.iload_n 2, 1) := by decide +kernel
theorem d_K_obstacleOf_105 : decode prog_1_method_28_code 105 = .ok (.invokestatic 204, 3) := by decide +kernel
theorem d_K_obstacleOf_108 : decode prog_1_method_28_code 108 = .ok (.ifCond .eq 28, 3) := by decide +kernel
theorem d_K_obstacleOf_111 : decode prog_1_method_28_code 111 = .ok (.aload_n 0, 1) := by decide +kernel
theorem d_K_obstacleOf_112 : decode prog_1_method_28_code 112 = .ok (.iload_n 2, 1) := by decide +kernel
theorem d_K_obstacleOf_113 : decode prog_1_method_28_code 113 = .ok (.invokevirtual 194, 3) := by decide +kernel
theorem d_K_obstacleOf_116 : decode prog_1_method_28_code 116 = .ok (.invokevirtual 207, 3) := by decide +kernel
theorem d_K_obstacleOf_119 : decode prog_1_method_28_code 119 = .ok (.ifCond .eq 17, 3) := by decide +kernel
theorem d_K_obstacleOf_122 : decode prog_1_method_28_code 122 = .ok (.aload_n 0, 1) := by decide +kernel
theorem d_K_obstacleOf_123 : decode prog_1_method_28_code 123 = .ok (.iload_n 2, 1) := by decide +kernel
theorem d_K_obstacleOf_124 : decode prog_1_method_28_code 124 = .ok (.iconst 1, 1) := by decide +kernel
theorem d_K_obstacleOf_125 : decode prog_1_method_28_code 125 = .ok (.iadd, 1) := by decide +kernel
theorem d_K_obstacleOf_126 : decode prog_1_method_28_code 126 = .ok (.invokevirtual 201, 3) := by decide +kernel
theorem d_K_obstacleOf_129 : decode prog_1_method_28_code 129 = .ok (.ifCond .eq 7, 3) := by decide +kernel
theorem d_K_obstacleOf_132 : decode prog_1_method_28_code 132 = .ok (.iconst 2, 1) := by decide +kernel
theorem d_K_obstacleOf_133 : decode prog_1_method_28_code 133 = .ok (.goto 4, 3) := by decide +kernel
theorem d_K_obstacleOf_136 : decode prog_1_method_28_code 136 = .ok (.iconst 1, 1) := by decide +kernel
theorem d_K_obstacleOf_137 : decode prog_1_method_28_code 137 = .ok (.ireturn, 1) := by decide +kernel
theorem d_K_obstacleOf_138 : decode prog_1_method_28_code 138 = .ok (.iconst 1, 1) := by decide +kernel
theorem d_K_obstacleOf_139 : decode prog_1_method_28_code 139 = .ok (.ireturn, 1) := by decide +kernel
theorem d_K_answerOf_0 : decode prog_1_method_29_code 0 = .ok (.aload_n 1, 1) := by decide +kernel
theorem d_K_answerOf_1 : decode prog_1_method_29_code 1 = .ok (.bipush 17, 2) := by decide +kernel
theorem d_K_answerOf_3 : decode prog_1_method_29_code 3 = .ok (.invokevirtual 110, 3) := by decide +kernel
theorem d_K_answerOf_6 : decode prog_1_method_29_code 6 = .ok (.tableswitch 157 0 11 #[62, 69, 77, 82, 88, 94, 101, 121, 131, 137, 144, 151], 62) := by decide +kernel
theorem d_K_answerOf_68 : decode prog_1_method_29_code 68 = .ok (.aload_n 0, 1) := by decide +kernel
theorem d_K_answerOf_69 : decode prog_1_method_29_code 69 = .ok (.iconst 1, 1) := by decide +kernel
theorem d_K_answerOf_70 : decode prog_1_method_29_code 70 = .ok (.putfield 152, 3) := by decide +kernel
theorem d_K_answerOf_73 : decode prog_1_method_29_code 73 = .ok (.iload_n 2, 1) := by decide +kernel
theorem d_K_answerOf_74 : decode prog_1_method_29_code 74 = .ok (.ireturn, 1) := by decide +kernel
theorem d_K_answerOf_75 : decode prog_1_method_29_code 75 = .ok (.aload_n 0, 1) := by decide +kernel
theorem d_K_answerOf_76 : decode prog_1_method_29_code 76 = .ok (.aload_n 1, 1) := by decide +kernel
theorem d_K_answerOf_77 : decode prog_1_method_29_code 77 = .ok (.iload_n 2, 1) := by decide +kernel
theorem d_K_answerOf_78 : decode prog_1_method_29_code 78 = .ok (.invokevirtual 168, 3) := by decide +kernel
theorem d_K_answerOf_81 : decode prog_1_method_29_code 81 = .ok (.iload_n 2, 1) := by decide +kernel
theorem d_K_answerOf_82 : decode prog_1_method_29_code 82 = .ok (.ireturn, 1) := by decide +kernel
theorem d_K_answerOf_83 : decode prog_1_method_29_code 83 = .ok (.aload_n 1, 1) := by decide +kernel
theorem d_K_answerOf_84 : decode prog_1_method_29_code 84 = .ok (.getfield 140, 3) := by decide +kernel
theorem d_K_answerOf_87 : decode prog_1_method_29_code 87 = .ok (.ireturn, 1) := by decide +kernel
theorem d_K_answerOf_88 : decode prog_1_method_29_code 88 = .ok (.aload_n 0, 1) := by decide +kernel
theorem d_K_answerOf_89 : decode prog_1_method_29_code 89 = .ok (.aload_n 1, 1) := by decide +kernel
theorem d_K_answerOf_90 : decode prog_1_method_29_code 90 = .ok (.invokevirtual 210, 3) := by decide +kernel
theorem d_K_answerOf_93 : decode prog_1_method_29_code 93 = .ok (.ireturn, 1) := by decide +kernel
theorem d_K_answerOf_94 : decode prog_1_method_29_code 94 = .ok (.aload_n 0, 1) := by decide +kernel
theorem d_K_answerOf_95 : decode prog_1_method_29_code 95 = .ok (.aload_n 1, 1) := by decide +kernel
theorem d_K_answerOf_96 : decode prog_1_method_29_code 96 = .ok (.invokevirtual 213, 3) := by decide +kernel
theorem d_K_answerOf_99 : decode prog_1_method_29_code 99 = .ok (.ireturn, 1) := by decide +kernel
theorem d_K_answerOf_100 : decode prog_1_method_29_code 100 = .ok (.aload_n 0, 1) := by decide +kernel
theorem d_K_answerOf_101 : decode prog_1_method_29_code 101 = .ok (.aload_n 1, 1) := by decide +kernel
theorem d_K_answerOf_102 : decode prog_1_method_29_code 102 = .ok (.iload_n 2, 1) := by decide +kernel
theorem d_K_answerOf_103 : decode prog_1_method_29_code 103 = .ok (.invokevirtual 216, 3) := by decide +kernel
theorem d_K_answerOf_106 : decode prog_1_method_29_code 106 = .ok (.ireturn, 1) := by decide +kernel
theorem d_K_answerOf_107 : decode prog_1_method_29_code 107 = .ok (.aload_n 0, 1) := by decide +kernel
theorem d_K_answerOf_108 : decode prog_1_method_29_code 108 = .ok (.aload_n 1, 1) := by decide +kernel
theorem d_K_answerOf_109 : decode prog_1_method_29_code 109 = .ok (.iload_n 2, 1) := by decide +kernel
theorem d_K_answerOf_110 : decode prog_1_method_29_code 110 = .ok (.invokevirtual 124, 3) := by decide +kernel
theorem d_K_answerOf_113 : decode prog_1_method_29_code 113 = .ok (.aload_n 1, 1) := by decide +kernel
theorem d_K_answerOf_114 : decode prog_1_method_29_code 114 = .ok (.bipush 11, 2) := by decide +kernel
theorem d_K_answerOf_116 : decode prog_1_method_29_code 116 = .ok (.invokevirtual 110, 3) := by decide +kernel
theorem d_K_answerOf_119 : decode prog_1_method_29_code 119 = .ok (.sipush 255, 3) := by decide +kernel
theorem d_K_answerOf_122 : decode prog_1_method_29_code 122 = .ok (.iand, 1) := by decide +kernel
theorem d_K_answerOf_123 : decode prog_1_method_29_code 123 = .ok (.invokevirtual 219, 3) := by decide +kernel
theorem d_K_answerOf_126 : decode prog_1_method_29_code 126 = .ok (.ireturn, 1) := by decide +kernel
theorem d_K_answerOf_127 : decode prog_1_method_29_code 127 = .ok (.aload_n 0, 1) := by decide +kernel
theorem d_K_answerOf_128 : decode prog_1_method_29_code 128 = .ok (.aload_n 1, 1) := by decide +kernel
theorem d_K_answerOf_129 : decode prog_1_method_29_code 129 = .ok (.iload_n 2, 1) := by decide +kernel
theorem d_K_answerOf_130 : decode prog_1_method_29_code 130 = .ok (.invokevirtual 124, 3) := by decide +kernel
theorem d_K_answerOf_133 : decode prog_1_method_29_code 133 = .ok (.invokevirtual 223, 3) := by decide +kernel
theorem d_K_answerOf_136 : decode prog_1_method_29_code 136 = .ok (.ireturn, 1) := by decide +kernel
theorem d_K_answerOf_137 : decode prog_1_method_29_code 137 = .ok (.aload_n 0, 1) := by decide +kernel
theorem d_K_answerOf_138 : decode prog_1_method_29_code 138 = .ok (.aload_n 1, 1) := by decide +kernel
theorem d_K_answerOf_139 : decode prog_1_method_29_code 139 = .ok (.invokevirtual 226, 3) := by decide +kernel
theorem d_K_answerOf_142 : decode prog_1_method_29_code 142 = .ok (.ireturn, 1) := by decide +kernel
theorem d_K_answerOf_143 : decode prog_1_method_29_code 143 = .ok (.aload_n 0, 1) := by decide +kernel
theorem d_K_answerOf_144 : decode prog_1_method_29_code 144 = .ok (.aload_n 1, 1) := by decide +kernel
theorem d_K_answerOf_145 : decode prog_1_method_29_code 145 = .ok (.iload_n 2, 1) := by decide +kernel
theorem d_K_answerOf_146 : decode prog_1_method_29_code 146 = .ok (.invokevirtual 229, 3) := by decide +kernel
theorem d_K_answerOf_149 : decode prog_1_method_29_code 149 = .ok (.ireturn, 1) := by decide +kernel
theorem d_K_answerOf_150 : decode prog_1_method_29_code 150 = .ok (.aload_n 0, 1) := by decide +kernel
theorem d_K_answerOf_151 : decode prog_1_method_29_code 151 = .ok (.aload_n 1, 1) := by decide +kernel
theorem d_K_answerOf_152 : decode prog_1_method_29_code 152 = .ok (.iload_n 2, 1) := by decide +kernel
theorem d_K_answerOf_153 : decode prog_1_method_29_code 153 = .ok (.invokevirtual 232, 3) := by decide +kernel
theorem d_K_answerOf_156 : decode prog_1_method_29_code 156 = .ok (.ireturn, 1) := by decide +kernel
theorem d_K_answerOf_157 : decode prog_1_method_29_code 157 = .ok (.aload_n 0, 1) := by decide +kernel
theorem d_K_answerOf_158 : decode prog_1_method_29_code 158 = .ok (.iload_n 2, 1) := by decide +kernel
theorem d_K_answerOf_159 : decode prog_1_method_29_code 159 = .ok (.invokevirtual 235, 3) := by decide +kernel
theorem d_K_answerOf_162 : decode prog_1_method_29_code 162 = .ok (.ireturn, 1) := by decide +kernel
theorem d_K_answerOf_163 : decode prog_1_method_29_code 163 = .ok (.iconst (-1), 1) := by decide +kernel
theorem d_K_answerOf_164 : decode prog_1_method_29_code 164 = .ok (.ireturn, 1) := by decide +kernel
theorem d_K_fork_0 : decode prog_1_method_30_code 0 = .ok (.aload_n 0, 1) := by decide +kernel
theorem d_K_fork_1 : decode prog_1_method_30_code 1 = .ok (.invokevirtual 238, 3) := by decide +kernel
theorem d_K_fork_4 : decode prog_1_method_30_code 4 = .ok (.astore_n 2, 1) := by decide +kernel
theorem d_K_fork_5 : decode prog_1_method_30_code 5 = .ok (.aload_n 2, 1) := by decide +kernel
theorem d_K_fork_6 : decode prog_1_method_30_code 6 = .ok (.ifnull 17, 3) := by decide +kernel
theorem d_K_fork_9 : decode prog_1_method_30_code 9 = .ok (.aload_n 0, 1) := by decide +kernel
theorem d_K_fork_10 : decode prog_1_method_30_code 10 = .ok (.getfield 18, 3) := by decide +kernel
theorem d_K_fork_13 : decode prog_1_method_30_code 13 = .ok (.getfield 61, 3) := by decide +kernel
theorem d_K_fork_16 : decode prog_1_method_30_code 16 = .ok (.aload_n 1, 1) := by decide +kernel
theorem d_K_fork_17 : decode prog_1_method_30_code 17 = .ok (.getfield 107, 3) := by decide +kernel
theorem d_K_fork_20 : decode prog_1_method_30_code 20 = .ok (.if_icmp .ge 5, 3) := by decide +kernel
theorem d_K_fork_23 : decode prog_1_method_30_code 23 = .ok (.iconst (-1), 1) := by decide +kernel
theorem d_K_fork_24 : decode prog_1_method_30_code 24 = .ok (.ireturn, 1) := by decide +kernel
theorem d_K_fork_25 : decode prog_1_method_30_code 25 = .ok (.aload_n 2, 1) := by decide +kernel
theorem d_K_fork_26 : decode prog_1_method_30_code 26 = .ok (.aload_n 1, 1) := by decide +kernel
theorem d_K_fork_27 : decode prog_1_method_30_code 27 = .ok (.invokevirtual 242, 3) := by decide +kernel
theorem d_K_fork_30 : decode prog_1_method_30_code 30 = .ok (.aload_n 2, 1) := by decide +kernel
theorem d_K_fork_31 : decode prog_1_method_30_code 31 = .ok (.aload_n 1, 1) := by decide +kernel
theorem d_K_fork_32 : decode prog_1_method_30_code 32 = .ok (.getfield 140, 3) := by decide +kernel
theorem d_K_fork_35 : decode prog_1_method_30_code 35 = .ok (.putfield 104, 3) := by decide +kernel
theorem d_K_fork_38 : decode prog_1_method_30_code 38 = .ok (.aload_n 2, 1) := by decide +kernel
theorem d_K_fork_39 : decode prog_1_method_30_code 39 = .ok (.bipush 10, 2) := by decide +kernel
theorem d_K_fork_41 : decode prog_1_method_30_code 41 = .ok (.iconst 0, 1) := by decide +kernel
theorem d_K_fork_42 : decode prog_1_method_30_code 42 = .ok (.invokevirtual 72, 3) := by decide +kernel
theorem d_K_fork_45 : decode prog_1_method_30_code 45 = .ok (.aload_n 0, 1) := by decide +kernel
theorem d_K_fork_46 : decode prog_1_method_30_code 46 = .ok (.getfield 18, 3) := by decide +kernel
theorem d_K_fork_49 : decode prog_1_method_30_code 49 = .ok (.aload_n 2, 1) := by decide +kernel
theorem d_K_fork_50 : decode prog_1_method_30_code 50 = .ok (.aload_n 1, 1) := by decide +kernel
theorem d_K_fork_51 : decode prog_1_method_30_code 51 = .ok (.getfield 107, 3) := by decide +kernel
theorem d_K_fork_54 : decode prog_1_method_30_code 54 = .ok (.invokevirtual 64, 3) := by decide +kernel
theorem d_K_fork_57 : decode prog_1_method_30_code 57 = .ok (.aload_n 0, 1) := by decide +kernel
theorem d_K_fork_58 : decode prog_1_method_30_code 58 = .ok (.getfield 18, 3) := by decide +kernel
theorem d_K_fork_61 : decode prog_1_method_30_code 61 = .ok (.aload_n 1, 1) := by decide +kernel
theorem d_K_fork_62 : decode prog_1_method_30_code 62 = .ok (.aload_n 2, 1) := by decide +kernel
theorem d_K_fork_63 : decode prog_1_method_30_code 63 = .ok (.invokevirtual 245, 3) := by decide +kernel
theorem d_K_fork_66 : decode prog_1_method_30_code 66 = .ok (.aload_n 0, 1) := by decide +kernel
theorem d_K_fork_67 : decode prog_1_method_30_code 67 = .ok (.aload_n 2, 1) := by decide +kernel
theorem d_K_fork_68 : decode prog_1_method_30_code 68 = .ok (.invokevirtual 79, 3) := by decide +kernel
theorem d_K_fork_71 : decode prog_1_method_30_code 71 = .ok (.aload_n 2, 1) := by decide +kernel
theorem d_K_fork_72 : decode prog_1_method_30_code 72 = .ok (.getfield 140, 3) := by decide +kernel
theorem d_K_fork_75 : decode prog_1_method_30_code 75 = .ok (.ireturn, 1) := by decide +kernel
theorem d_K_leastAbsent_0 : decode prog_1_method_31_code 0 = .ok (.iconst 0, 1) := by decide +kernel
theorem d_K_leastAbsent_1 : decode prog_1_method_31_code 1 = .ok (.istore_n 1, 1) := by decide +kernel
theorem d_K_leastAbsent_2 : decode prog_1_method_31_code 2 = .ok (.iload_n 1, 1) := by decide +kernel
theorem d_K_leastAbsent_3 : decode prog_1_method_31_code 3 = .ok (.bipush 8, 2) := by decide +kernel
theorem d_K_leastAbsent_5 : decode prog_1_method_31_code 5 = .ok (.if_icmp .ge 28, 3) := by decide +kernel
theorem d_K_leastAbsent_8 : decode prog_1_method_31_code 8 = .ok (.aload_n 0, 1) := by decide +kernel
theorem d_K_leastAbsent_9 : decode prog_1_method_31_code 9 = .ok (.getfield 28, 3) := by decide +kernel
theorem d_K_leastAbsent_12 : decode prog_1_method_31_code 12 = .ok (.iload_n 1, 1) := by decide +kernel
theorem d_K_leastAbsent_13 : decode prog_1_method_31_code 13 = .ok (.aaload, 1) := by decide +kernel
theorem d_K_leastAbsent_14 : decode prog_1_method_31_code 14 = .ok (.getfield 98, 3) := by decide +kernel
theorem d_K_leastAbsent_17 : decode prog_1_method_31_code 17 = .ok (.ifCond .ne 10, 3) := by decide +kernel
theorem d_K_leastAbsent_20 : decode prog_1_method_31_code 20 = .ok (.aload_n 0, 1) := by decide +kernel
theorem d_K_leastAbsent_21 : decode prog_1_method_31_code 21 = .ok (.getfield 28, 3) := by decide +kernel
theorem d_K_leastAbsent_24 : decode prog_1_method_31_code 24 = .ok (.iload_n 1, 1) := by decide +kernel
theorem d_K_leastAbsent_25 : decode prog_1_method_31_code 25 = .ok (.aaload, 1) := by decide +kernel
theorem d_K_leastAbsent_26 : decode prog_1_method_31_code 26 = .ok (.areturn, 1) := by decide +kernel
theorem d_K_leastAbsent_27 : decode prog_1_method_31_code 27 = .ok (.iinc 1 1, 3) := by decide +kernel
theorem d_K_leastAbsent_30 : decode prog_1_method_31_code 30 = .ok (.goto (-28), 3) := by decide +kernel
theorem d_K_leastAbsent_33 : decode prog_1_method_31_code 33 = .ok (.aconst_null, 1) := by decide +kernel
theorem d_K_leastAbsent_34 : decode prog_1_method_31_code 34 = .ok (.areturn, 1) := by decide +kernel
theorem d_K_collectChild_0 : decode prog_1_method_32_code 0 = .ok (.aload_n 0, 1) := by decide +kernel
theorem d_K_collectChild_1 : decode prog_1_method_32_code 1 = .ok (.aload_n 1, 1) := by decide +kernel
theorem d_K_collectChild_2 : decode prog_1_method_32_code 2 = .ok (.invokevirtual 187, 3) := by decide +kernel
theorem d_K_collectChild_5 : decode prog_1_method_32_code 5 = .ok (.astore_n 2, 1) := by decide +kernel
theorem d_K_collectChild_6 : decode prog_1_method_32_code 6 = .ok (.aload_n 2, 1) := by decide +kernel
theorem d_K_collectChild_7 : decode prog_1_method_32_code 7 = .ok (.ifnonnull 5, 3) := by decide +kernel
theorem d_K_collectChild_10 : decode prog_1_method_32_code 10 = .ok (.iconst (-1), 1) := by decide +kernel
theorem d_K_collectChild_11 : decode prog_1_method_32_code 11 = .ok (.ireturn, 1) := by decide +kernel
theorem d_K_collectChild_12 : decode prog_1_method_32_code 12 = .ok (.aload_n 2, 1) := by decide +kernel
theorem d_K_collectChild_13 : decode prog_1_method_32_code 13 = .ok (.iconst 0, 1) := by decide +kernel
theorem d_K_collectChild_14 : decode prog_1_method_32_code 14 = .ok (.putfield 98, 3) := by decide +kernel
theorem d_K_collectChild_17 : decode prog_1_method_32_code 17 = .ok (.aload_n 1, 1) := by decide +kernel
theorem d_K_collectChild_18 : decode prog_1_method_32_code 18 = .ok (.bipush 11, 2) := by decide +kernel
theorem d_K_collectChild_20 : decode prog_1_method_32_code 20 = .ok (.aload_n 2, 1) := by decide +kernel
theorem d_K_collectChild_21 : decode prog_1_method_32_code 21 = .ok (.getfield 101, 3) := by decide +kernel
theorem d_K_collectChild_24 : decode prog_1_method_32_code 24 = .ok (.invokevirtual 72, 3) := by decide +kernel
theorem d_K_collectChild_27 : decode prog_1_method_32_code 27 = .ok (.aload_n 2, 1) := by decide +kernel
theorem d_K_collectChild_28 : decode prog_1_method_32_code 28 = .ok (.getfield 140, 3) := by decide +kernel
theorem d_K_collectChild_31 : decode prog_1_method_32_code 31 = .ok (.ireturn, 1) := by decide +kernel
theorem d_K_endedChildOf_0 : decode prog_1_method_33_code 0 = .ok (.iconst 0, 1) := by decide +kernel
theorem d_K_endedChildOf_1 : decode prog_1_method_33_code 1 = .ok (.istore_n 2, 1) := by decide +kernel
theorem d_K_endedChildOf_2 : decode prog_1_method_33_code 2 = .ok (.iload_n 2, 1) := by decide +kernel
theorem d_K_endedChildOf_3 : decode prog_1_method_33_code 3 = .ok (.bipush 8, 2) := by decide +kernel
theorem d_K_endedChildOf_5 : decode prog_1_method_33_code 5 = .ok (.if_icmp .ge 42, 3) := by decide +kernel
theorem d_K_endedChildOf_8 : decode prog_1_method_33_code 8 = .ok (.aload_n 0, 1) := by decide +kernel
theorem d_K_endedChildOf_9 : decode prog_1_method_33_code 9 = .ok (.getfield 28, 3) := by decide +kernel
theorem d_K_endedChildOf_12 : decode prog_1_method_33_code 12 = .ok (.iload_n 2, 1) := by decide +kernel
theorem d_K_endedChildOf_13 : decode prog_1_method_33_code 13 = .ok (.aaload, 1) := by decide +kernel
theorem d_K_endedChildOf_14 : decode prog_1_method_33_code 14 = .ok (.aload_n 1, 1) := by decide +kernel
theorem d_K_endedChildOf_15 : decode prog_1_method_33_code 15 = .ok (.invokevirtual 249, 3) := by decide +kernel
theorem d_K_endedChildOf_18 : decode prog_1_method_33_code 18 = .ok (.ifCond .eq 23, 3) := by decide +kernel
theorem d_K_endedChildOf_21 : decode prog_1_method_33_code 21 = .ok (.aload_n 0, 1) := by decide +kernel
theorem d_K_endedChildOf_22 : decode prog_1_method_33_code 22 = .ok (.getfield 28, 3) := by decide +kernel
theorem d_K_endedChildOf_25 : decode prog_1_method_33_code 25 = .ok (.iload_n 2, 1) := by decide +kernel
theorem d_K_endedChildOf_26 : decode prog_1_method_33_code 26 = .ok (.aaload, 1) := by decide +kernel
theorem d_K_endedChildOf_27 : decode prog_1_method_33_code 27 = .ok (.getfield 98, 3) := by decide +kernel
theorem d_K_endedChildOf_30 : decode prog_1_method_33_code 30 = .ok (.iconst 5, 1) := by decide +kernel
theorem d_K_endedChildOf_31 : decode prog_1_method_33_code 31 = .ok (.if_icmp .ne 10, 3) := by decide +kernel
theorem d_K_endedChildOf_34 : decode prog_1_method_33_code 34 = .ok (.aload_n 0, 1) := by decide +kernel
theorem d_K_endedChildOf_35 : decode prog_1_method_33_code 35 = .ok (.getfield 28, 3) := by decide +kernel
theorem d_K_endedChildOf_38 : decode prog_1_method_33_code 38 = .ok (.iload_n 2, 1) := by decide +kernel
theorem d_K_endedChildOf_39 : decode prog_1_method_33_code 39 = .ok (.aaload, 1) := by decide +kernel
theorem d_K_endedChildOf_40 : decode prog_1_method_33_code 40 = .ok (.areturn, 1) := by decide +kernel
theorem d_K_endedChildOf_41 : decode prog_1_method_33_code 41 = .ok (.iinc 2 1, 3) := by decide +kernel
theorem d_K_endedChildOf_44 : decode prog_1_method_33_code 44 = .ok (.goto (-42), 3) := by decide +kernel
theorem d_K_endedChildOf_47 : decode prog_1_method_33_code 47 = .ok (.aconst_null, 1) := by decide +kernel
theorem d_K_endedChildOf_48 : decode prog_1_method_33_code 48 = .ok (.areturn, 1) := by decide +kernel
theorem d_K_hasChild_0 : decode prog_1_method_34_code 0 = .ok (.iconst 0, 1) := by decide +kernel
theorem d_K_hasChild_1 : decode prog_1_method_34_code 1 = .ok (.istore_n 2, 1) := by decide +kernel
theorem d_K_hasChild_2 : decode prog_1_method_34_code 2 = .ok (.iload_n 2, 1) := by decide +kernel
theorem d_K_hasChild_3 : decode prog_1_method_34_code 3 = .ok (.bipush 8, 2) := by decide +kernel
theorem d_K_hasChild_5 : decode prog_1_method_34_code 5 = .ok (.if_icmp .ge 24, 3) := by decide +kernel
theorem d_K_hasChild_8 : decode prog_1_method_34_code 8 = .ok (.aload_n 0, 1) := by decide +kernel
theorem d_K_hasChild_9 : decode prog_1_method_34_code 9 = .ok (.getfield 28, 3) := by decide +kernel
theorem d_K_hasChild_12 : decode prog_1_method_34_code 12 = .ok (.iload_n 2, 1) := by decide +kernel
theorem d_K_hasChild_13 : decode prog_1_method_34_code 13 = .ok (.aaload, 1) := by decide +kernel
theorem d_K_hasChild_14 : decode prog_1_method_34_code 14 = .ok (.aload_n 1, 1) := by decide +kernel
theorem d_K_hasChild_15 : decode prog_1_method_34_code 15 = .ok (.invokevirtual 249, 3) := by decide +kernel
theorem d_K_hasChild_18 : decode prog_1_method_34_code 18 = .ok (.ifCond .eq 5, 3) := by decide +kernel
theorem d_K_hasChild_21 : decode prog_1_method_34_code 21 = .ok (.iconst 1, 1) := by decide +kernel
theorem d_K_hasChild_22 : decode prog_1_method_34_code 22 = .ok (.ireturn, 1) := by decide +kernel
theorem d_K_hasChild_23 : decode prog_1_method_34_code 23 = .ok (.iinc 2 1, 3) := by decide +kernel
theorem d_K_hasChild_26 : decode prog_1_method_34_code 26 = .ok (.goto (-24), 3) := by decide +kernel
theorem d_K_hasChild_29 : decode prog_1_method_34_code 29 = .ok (.iconst 0, 1) := by decide +kernel
theorem d_K_hasChild_30 : decode prog_1_method_34_code 30 = .ok (.ireturn, 1) := by decide +kernel
theorem d_K_grow_0 : decode prog_1_method_35_code 0 = .ok (.iload_n 2, 1) := by decide +kernel
theorem d_K_grow_1 : decode prog_1_method_35_code 1 = .ok (.iconst 1, 1) := by decide +kernel
theorem d_K_grow_2 : decode prog_1_method_35_code 2 = .ok (.if_icmp .lt 25, 3) := by decide +kernel
theorem d_K_grow_5 : decode prog_1_method_35_code 5 = .ok (.iload_n 2, 1) := by decide +kernel
theorem d_K_grow_6 : decode prog_1_method_35_code 6 = .ok (.bipush 8, 2) := by decide +kernel
theorem d_K_grow_8 : decode prog_1_method_35_code 8 = .ok (.aload_n 1, 1) := by decide +kernel
theorem d_K_grow_9 : decode prog_1_method_35_code 9 = .ok (.getfield 107, 3) := by decide +kernel
theorem d_K_grow_12 : decode prog_1_method_35_code 12 = .ok (.isub, 1) := by decide +kernel
theorem d_K_grow_13 : decode prog_1_method_35_code 13 = .ok (.if_icmp .gt 14, 3) := by decide +kernel
theorem d_K_grow_16 : decode prog_1_method_35_code 16 = .ok (.iload_n 2, 1) := by decide +kernel
theorem d_K_grow_17 : decode prog_1_method_35_code 17 = .ok (.aload_n 0, 1) := by decide +kernel
theorem d_K_grow_18 : decode prog_1_method_35_code 18 = .ok (.getfield 18, 3) := by decide +kernel
theorem d_K_grow_21 : decode prog_1_method_35_code 21 = .ok (.getfield 61, 3) := by decide +kernel
theorem d_K_grow_24 : decode prog_1_method_35_code 24 = .ok (.if_icmp .le 5, 3) := by decide +kernel
theorem d_K_grow_27 : decode prog_1_method_35_code 27 = .ok (.iconst (-1), 1) := by decide +kernel
theorem d_K_grow_28 : decode prog_1_method_35_code 28 = .ok (.ireturn, 1) := by decide +kernel
theorem d_K_grow_29 : decode prog_1_method_35_code 29 = .ok (.aload_n 0, 1) := by decide +kernel
theorem d_K_grow_30 : decode prog_1_method_35_code 30 = .ok (.getfield 18, 3) := by decide +kernel
theorem d_K_grow_33 : decode prog_1_method_35_code 33 = .ok (.aload_n 1, 1) := by decide +kernel
theorem d_K_grow_34 : decode prog_1_method_35_code 34 = .ok (.iload_n 2, 1) := by decide +kernel
theorem d_K_grow_35 : decode prog_1_method_35_code 35 = .ok (.invokevirtual 64, 3) := by decide +kernel
theorem d_K_grow_38 : decode prog_1_method_35_code 38 = .ok (.aload_n 1, 1) := by decide +kernel
theorem d_K_grow_39 : decode prog_1_method_35_code 39 = .ok (.getfield 107, 3) := by decide +kernel
theorem d_K_grow_42 : decode prog_1_method_35_code 42 = .ok (.ireturn, 1) := by decide +kernel
theorem d_K_write_0 : decode prog_1_method_36_code 0 = .ok (.iload_n 1, 1) := by decide +kernel
theorem d_K_write_1 : decode prog_1_method_36_code 1 = .ok (.ifCond .ne 9, 3) := by decide +kernel
theorem d_K_write_4 : decode prog_1_method_36_code 4 = .ok (.aload_n 0, 1) := by decide +kernel
theorem d_K_write_5 : decode prog_1_method_36_code 5 = .ok (.iload_n 2, 1) := by decide +kernel
theorem d_K_write_6 : decode prog_1_method_36_code 6 = .ok (.invokevirtual 252, 3) := by decide +kernel
theorem d_K_write_9 : decode prog_1_method_36_code 9 = .ok (.ireturn, 1) := by decide +kernel
theorem d_K_write_10 : decode prog_1_method_36_code 10 = .ok (.iload_n 1, 1) := by decide +kernel
theorem d_K_write_11 : decode prog_1_method_36_code 11 = .ok (.invokestatic 191, 3) := by decide +kernel
theorem d_K_write_14 : decode prog_1_method_36_code 14 = .ok (.ifCond .eq 13, 3) := by decide +kernel
theorem d_K_write_17 : decode prog_1_method_36_code 17 = .ok (.aload_n 0, 1) := by decide +kernel
theorem d_K_write_18 : decode prog_1_method_36_code 18 = .ok (.iload_n 1, 1) := by decide +kernel
theorem d_K_write_19 : decode prog_1_method_36_code 19 = .ok (.iconst 1, 1) := by decide +kernel
theorem d_K_write_20 : decode prog_1_method_36_code 20 = .ok (.isub, 1) := by decide +kernel
theorem d_K_write_21 : decode prog_1_method_36_code 21 = .ok (.invokevirtual 201, 3) := by decide +kernel
theorem d_K_write_24 : decode prog_1_method_36_code 24 = .ok (.ifCond .ne 5, 3) := by decide +kernel
theorem d_K_write_27 : decode prog_1_method_36_code 27 = .ok (.iconst (-1), 1) := by decide +kernel
theorem d_K_write_28 : decode prog_1_method_36_code 28 = .ok (.ireturn, 1) := by decide +kernel
theorem d_K_write_29 : decode prog_1_method_36_code 29 = .ok (.aload_n 0, 1) := by decide +kernel
theorem d_K_write_30 : decode prog_1_method_36_code 30 = .ok (.iload_n 1, 1) := by decide +kernel
theorem d_K_write_31 : decode prog_1_method_36_code 31 = .ok (.invokevirtual 194, 3) := by decide +kernel
theorem d_K_write_34 : decode prog_1_method_36_code 34 = .ok (.iload_n 2, 1) := by decide +kernel
theorem d_K_write_35 : decode prog_1_method_36_code 35 = .ok (.invokevirtual 255, 3) := by decide +kernel
theorem d_K_write_38 : decode prog_1_method_36_code 38 = .ok (.iload_n 2, 1) := by decide +kernel
theorem d_K_write_39 : decode prog_1_method_36_code 39 = .ok (.ireturn, 1) := by decide +kernel
theorem d_K_print_0 : decode prog_1_method_37_code 0 = .ok (.aload_n 0, 1) := by decide +kernel
theorem d_K_print_1 : decode prog_1_method_37_code 1 = .ok (.getfield 134, 3) := by decide +kernel
theorem d_K_print_4 : decode prog_1_method_37_code 4 = .ok (.sipush 200, 3) := by decide +kernel
theorem d_K_print_7 : decode prog_1_method_37_code 7 = .ok (.if_icmp .lt 5, 3) := by decide +kernel
theorem d_K_print_10 : decode prog_1_method_37_code 10 = .ok (.iconst (-1), 1) := by decide +kernel
theorem d_K_print_11 : decode prog_1_method_37_code 11 = .ok (.ireturn, 1) := by decide +kernel
theorem d_K_print_12 : decode prog_1_method_37_code 12 = .ok (.aload_n 0, 1) := by decide +kernel
theorem d_K_print_13 : decode prog_1_method_37_code 13 = .ok (.getfield 51, 3) := by decide +kernel
theorem d_K_print_16 : decode prog_1_method_37_code 16 = .ok (.aload_n 0, 1) := by decide +kernel
theorem d_K_print_17 : decode prog_1_method_37_code 17 = .ok (.getfield 134, 3) := by decide +kernel
theorem d_K_print_20 : decode prog_1_method_37_code 20 = .ok (.iload_n 1, 1) := by decide +kernel
theorem d_K_print_21 : decode prog_1_method_37_code 21 = .ok (.iastore, 1) := by decide +kernel
theorem d_K_print_22 : decode prog_1_method_37_code 22 = .ok (.aload_n 0, 1) := by decide +kernel
theorem d_K_print_23 : decode prog_1_method_37_code 23 = .ok (.dup, 1) := by decide +kernel
theorem d_K_print_24 : decode prog_1_method_37_code 24 = .ok (.getfield 134, 3) := by decide +kernel
theorem d_K_print_27 : decode prog_1_method_37_code 27 = .ok (.iconst 1, 1) := by decide +kernel
theorem d_K_print_28 : decode prog_1_method_37_code 28 = .ok (.iadd, 1) := by decide +kernel
theorem d_K_print_29 : decode prog_1_method_37_code 29 = .ok (.putfield 134, 3) := by decide +kernel
theorem d_K_print_32 : decode prog_1_method_37_code 32 = .ok (.iload_n 1, 1) := by decide +kernel
theorem d_K_print_33 : decode prog_1_method_37_code 33 = .ok (.ireturn, 1) := by decide +kernel
theorem d_K_read_0 : decode prog_1_method_38_code 0 = .ok (.iload_n 1, 1) := by decide +kernel
theorem d_K_read_1 : decode prog_1_method_38_code 1 = .ok (.invokestatic 204, 3) := by decide +kernel
theorem d_K_read_4 : decode prog_1_method_38_code 4 = .ok (.ifCond .eq 14, 3) := by decide +kernel
theorem d_K_read_7 : decode prog_1_method_38_code 7 = .ok (.aload_n 0, 1) := by decide +kernel
theorem d_K_read_8 : decode prog_1_method_38_code 8 = .ok (.iload_n 1, 1) := by decide +kernel
theorem d_K_read_9 : decode prog_1_method_38_code 9 = .ok (.invokevirtual 194, 3) := by decide +kernel
theorem d_K_read_12 : decode prog_1_method_38_code 12 = .ok (.invokevirtual 258, 3) := by decide +kernel
theorem d_K_read_15 : decode prog_1_method_38_code 15 = .ok (.goto 4, 3) := by decide +kernel
theorem d_K_read_18 : decode prog_1_method_38_code 18 = .ok (.iconst (-1), 1) := by decide +kernel
theorem d_K_read_19 : decode prog_1_method_38_code 19 = .ok (.ireturn, 1) := by decide +kernel
theorem d_K_openPipe_0 : decode prog_1_method_39_code 0 = .ok (.aload_n 0, 1) := by decide +kernel
theorem d_K_openPipe_1 : decode prog_1_method_39_code 1 = .ok (.invokevirtual 261, 3) := by decide +kernel
theorem d_K_openPipe_4 : decode prog_1_method_39_code 4 = .ok (.istore_n 2, 1) := by decide +kernel
theorem d_K_openPipe_5 : decode prog_1_method_39_code 5 = .ok (.aload_n 1, 1) := by decide +kernel
theorem d_K_openPipe_6 : decode prog_1_method_39_code 6 = .ok (.iconst 0, 1) := by decide +kernel
theorem d_K_openPipe_7 : decode prog_1_method_39_code 7 = .ok (.invokevirtual 264, 3) := by decide +kernel
theorem d_K_openPipe_10 : decode prog_1_method_39_code 10 = .ok (.istore_n 3, 1) := by decide +kernel
theorem d_K_openPipe_11 : decode prog_1_method_39_code 11 = .ok (.aload_n 1, 1) := by decide +kernel
theorem d_K_openPipe_12 : decode prog_1_method_39_code 12 = .ok (.iload_n 3, 1) := by decide +kernel
theorem d_K_openPipe_13 : decode prog_1_method_39_code 13 = .ok (.iconst 1, 1) := by decide +kernel
theorem d_K_openPipe_14 : decode prog_1_method_39_code 14 = .ok (.iadd, 1) := by decide +kernel
theorem d_K_openPipe_15 : decode prog_1_method_39_code 15 = .ok (.invokevirtual 264, 3) := by decide +kernel
theorem d_K_openPipe_18 : decode prog_1_method_39_code 18 = .ok (.istore 4, 2) := by decide +kernel
theorem d_K_openPipe_20 : decode prog_1_method_39_code 20 = .ok (.iload_n 2, 1) := by decide +kernel
theorem d_K_openPipe_21 : decode prog_1_method_39_code 21 = .ok (.iconst (-1), 1) := by decide +kernel
theorem d_K_openPipe_22 : decode prog_1_method_39_code 22 = .ok (.if_icmp .eq 14, 3) := by decide +kernel
theorem d_K_openPipe_25 : decode prog_1_method_39_code 25 = .ok (.iload_n 3, 1) := by decide +kernel
theorem d_K_openPipe_26 : decode prog_1_method_39_code 26 = .ok (.iconst (-1), 1) := by decide +kernel
theorem d_K_openPipe_27 : decode prog_1_method_39_code 27 = .ok (.if_icmp .eq 9, 3) := by decide +kernel
theorem d_K_openPipe_30 : decode prog_1_method_39_code 30 = .ok (.iload 4, 2) := by decide +kernel
theorem d_K_openPipe_32 : decode prog_1_method_39_code 32 = .ok (.iconst (-1), 1) := by decide +kernel
theorem d_K_openPipe_33 : decode prog_1_method_39_code 33 = .ok (.if_icmp .ne 5, 3) := by decide +kernel
theorem d_K_openPipe_36 : decode prog_1_method_39_code 36 = .ok (.iconst (-1), 1) := by decide +kernel
theorem d_K_openPipe_37 : decode prog_1_method_39_code 37 = .ok (.ireturn, 1) := by decide +kernel
theorem d_K_openPipe_38 : decode prog_1_method_39_code 38 = .ok (.aload_n 0, 1) := by decide +kernel
theorem d_K_openPipe_39 : decode prog_1_method_39_code 39 = .ok (.iload_n 2, 1) := by decide +kernel
theorem d_K_openPipe_40 : decode prog_1_method_39_code 40 = .ok (.invokevirtual 194, 3) := by decide +kernel
theorem d_K_openPipe_43 : decode prog_1_method_39_code 43 = .ok (.invokevirtual 267, 3) := by decide +kernel
theorem d_K_openPipe_46 : decode prog_1_method_39_code 46 = .ok (.aload_n 1, 1) := by decide +kernel
theorem d_K_openPipe_47 : decode prog_1_method_39_code 47 = .ok (.getfield 76, 3) := by decide +kernel
theorem d_K_openPipe_50 : decode prog_1_method_39_code 50 = .ok (.iload_n 3, 1) := by decide +kernel
theorem d_K_openPipe_51 : decode prog_1_method_39_code 51 = .ok (.iload_n 2, 1) := by decide +kernel
theorem d_K_openPipe_52 : decode prog_1_method_39_code 52 = .ok (.iastore, 1) := by decide +kernel
theorem d_K_openPipe_53 : decode prog_1_method_39_code 53 = .ok (.aload_n 1, 1) := by decide +kernel
theorem d_K_openPipe_54 : decode prog_1_method_39_code 54 = .ok (.getfield 76, 3) := by decide +kernel
theorem d_K_openPipe_57 : decode prog_1_method_39_code 57 = .ok (.iload 4, 2) := by decide +kernel
theorem d_K_openPipe_59 : decode prog_1_method_39_code 59 = .ok (.iload_n 2, 1) := by decide +kernel
theorem d_K_openPipe_60 : decode prog_1_method_39_code 60 = .ok (.iconst 1, 1) := by decide +kernel
theorem d_K_openPipe_61 : decode prog_1_method_39_code 61 = .ok (.iadd, 1) := by decide +kernel
theorem d_K_openPipe_62 : decode prog_1_method_39_code 62 = .ok (.iastore, 1) := by decide +kernel
theorem d_K_openPipe_63 : decode prog_1_method_39_code 63 = .ok (.aload_n 1, 1) := by decide +kernel
theorem d_K_openPipe_64 : decode prog_1_method_39_code 64 = .ok (.bipush 11, 2) := by decide +kernel
theorem d_K_openPipe_66 : decode prog_1_method_39_code 66 = .ok (.iload 4, 2) := by decide +kernel
theorem d_K_openPipe_68 : decode prog_1_method_39_code 68 = .ok (.invokevirtual 72, 3) := by decide +kernel
theorem d_K_openPipe_71 : decode prog_1_method_39_code 71 = .ok (.iload_n 3, 1) := by decide +kernel
theorem d_K_openPipe_72 : decode prog_1_method_39_code 72 = .ok (.ireturn, 1) := by decide +kernel
end
section
theorem d_K_close_0 : decode prog_1_method_40_code 0 = .ok (.aload_n 1, 1) := by decide +kernel
theorem d_K_close_1 : decode prog_1_method_40_code 1 = .ok (.iload_n 2, 1) := by decide +kernel
theorem d_K_close_2 : decode prog_1_method_40_code 2 = .ok (.invokevirtual 124, 3) := by decide +kernel
theorem d_K_close_5 : decode prog_1_method_40_code 5 = .ok (.iconst (-1), 1) := by decide +kernel
theorem d_K_close_6 : decode prog_1_method_40_code 6 = .ok (.if_icmp .ne 5, 3) := by decide +kernel
theorem d_K_close_9 : decode prog_1_method_40_code 9 = .ok (.iconst (-1), 1) := by decide +kernel
theorem d_K_close_10 : decode prog_1_method_40_code 10 = .ok (.ireturn, 1) := by decide +kernel
theorem d_K_close_11 : decode prog_1_method_40_code 11 = .ok (.aload_n 1, 1) := by decide +kernel
theorem d_K_close_12 : decode prog_1_method_40_code 12 = .ok (.getfield 76, 3) := by decide +kernel
theorem d_K_close_15 : decode prog_1_method_40_code 15 = .ok (.iload_n 2, 1) := by decide +kernel
theorem d_K_close_16 : decode prog_1_method_40_code 16 = .ok (.iconst (-1), 1) := by decide +kernel
theorem d_K_close_17 : decode prog_1_method_40_code 17 = .ok (.iastore, 1) := by decide +kernel
theorem d_K_close_18 : decode prog_1_method_40_code 18 = .ok (.iconst 0, 1) := by decide +kernel
theorem d_K_close_19 : decode prog_1_method_40_code 19 = .ok (.ireturn, 1) := by decide +kernel
theorem d_K_duplicate_0 : decode prog_1_method_41_code 0 = .ok (.aload_n 1, 1) := by decide +kernel
theorem d_K_duplicate_1 : decode prog_1_method_41_code 1 = .ok (.iconst 0, 1) := by decide +kernel
theorem d_K_duplicate_2 : decode prog_1_method_41_code 2 = .ok (.invokevirtual 264, 3) := by decide +kernel
theorem d_K_duplicate_5 : decode prog_1_method_41_code 5 = .ok (.istore_n 3, 1) := by decide +kernel
theorem d_K_duplicate_6 : decode prog_1_method_41_code 6 = .ok (.aload_n 1, 1) := by decide +kernel
theorem d_K_duplicate_7 : decode prog_1_method_41_code 7 = .ok (.iload_n 2, 1) := by decide +kernel
theorem d_K_duplicate_8 : decode prog_1_method_41_code 8 = .ok (.invokevirtual 124, 3) := by decide +kernel
theorem d_K_duplicate_11 : decode prog_1_method_41_code 11 = .ok (.iconst (-1), 1) := by decide +kernel
theorem d_K_duplicate_12 : decode prog_1_method_41_code 12 = .ok (.if_icmp .eq 8, 3) := by decide +kernel
theorem d_K_duplicate_15 : decode prog_1_method_41_code 15 = .ok (.iload_n 3, 1) := by decide +kernel
theorem d_K_duplicate_16 : decode prog_1_method_41_code 16 = .ok (.iconst (-1), 1) := by decide +kernel
theorem d_K_duplicate_17 : decode prog_1_method_41_code 17 = .ok (.if_icmp .ne 5, 3) := by decide +kernel
theorem d_K_duplicate_20 : decode prog_1_method_41_code 20 = .ok (.iconst (-1), 1) := by decide +kernel
theorem d_K_duplicate_21 : decode prog_1_method_41_code 21 = .ok (.ireturn, 1) := by decide +kernel
theorem d_K_duplicate_22 : decode prog_1_method_41_code 22 = .ok (.aload_n 1, 1) := by decide +kernel
theorem d_K_duplicate_23 : decode prog_1_method_41_code 23 = .ok (.getfield 76, 3) := by decide +kernel
theorem d_K_duplicate_26 : decode prog_1_method_41_code 26 = .ok (.iload_n 3, 1) := by decide +kernel
theorem d_K_duplicate_27 : decode prog_1_method_41_code 27 = .ok (.aload_n 1, 1) := by decide +kernel
theorem d_K_duplicate_28 : decode prog_1_method_41_code 28 = .ok (.getfield 76, 3) := by decide +kernel
theorem d_K_duplicate_31 : decode prog_1_method_41_code 31 = .ok (.iload_n 2, 1) := by decide +kernel
theorem d_K_duplicate_32 : decode prog_1_method_41_code 32 = .ok (.iaload, 1) := by decide +kernel
theorem d_K_duplicate_33 : decode prog_1_method_41_code 33 = .ok (.iastore, 1) := by decide +kernel
theorem d_K_duplicate_34 : decode prog_1_method_41_code 34 = .ok (.iload_n 3, 1) := by decide +kernel
theorem d_K_duplicate_35 : decode prog_1_method_41_code 35 = .ok (.ireturn, 1) := by decide +kernel
theorem d_K_kill_0 : decode prog_1_method_42_code 0 = .ok (.aload_n 0, 1) := by decide +kernel
theorem d_K_kill_1 : decode prog_1_method_42_code 1 = .ok (.iload_n 1, 1) := by decide +kernel
theorem d_K_kill_2 : decode prog_1_method_42_code 2 = .ok (.invokevirtual 94, 3) := by decide +kernel
theorem d_K_kill_5 : decode prog_1_method_42_code 5 = .ok (.astore_n 2, 1) := by decide +kernel
theorem d_K_kill_6 : decode prog_1_method_42_code 6 = .ok (.aload_n 2, 1) := by decide +kernel
theorem d_K_kill_7 : decode prog_1_method_42_code 7 = .ok (.ifnull 11, 3) := by decide +kernel
theorem d_K_kill_10 : decode prog_1_method_42_code 10 = .ok (.aload_n 2, 1) := by decide +kernel
theorem d_K_kill_11 : decode prog_1_method_42_code 11 = .ok (.getfield 98, 3) := by decide +kernel
theorem d_K_kill_14 : decode prog_1_method_42_code 14 = .ok (.iconst 5, 1) := by decide +kernel
theorem d_K_kill_15 : decode prog_1_method_42_code 15 = .ok (.if_icmp .ne 5, 3) := by decide +kernel
theorem d_K_kill_18 : decode prog_1_method_42_code 18 = .ok (.iconst (-1), 1) := by decide +kernel
theorem d_K_kill_19 : decode prog_1_method_42_code 19 = .ok (.ireturn, 1) := by decide +kernel
theorem d_K_kill_20 : decode prog_1_method_42_code 20 = .ok (.aload_n 0, 1) := by decide +kernel
theorem d_K_kill_21 : decode prog_1_method_42_code 21 = .ok (.aload_n 2, 1) := by decide +kernel
theorem d_K_kill_22 : decode prog_1_method_42_code 22 = .ok (.sipush 137, 3) := by decide +kernel
theorem d_K_kill_25 : decode prog_1_method_42_code 25 = .ok (.invokevirtual 168, 3) := by decide +kernel
theorem d_K_kill_28 : decode prog_1_method_42_code 28 = .ok (.iconst 0, 1) := by decide +kernel
theorem d_K_kill_29 : decode prog_1_method_42_code 29 = .ok (.ireturn, 1) := by decide +kernel
theorem d_K_end_0 : decode prog_1_method_43_code 0 = .ok (.aload_n 0, 1) := by decide +kernel
theorem d_K_end_1 : decode prog_1_method_43_code 1 = .ok (.getfield 18, 3) := by decide +kernel
theorem d_K_end_4 : decode prog_1_method_43_code 4 = .ok (.aload_n 1, 1) := by decide +kernel
theorem d_K_end_5 : decode prog_1_method_43_code 5 = .ok (.invokevirtual 270, 3) := by decide +kernel
theorem d_K_end_8 : decode prog_1_method_43_code 8 = .ok (.aload_n 1, 1) := by decide +kernel
theorem d_K_end_9 : decode prog_1_method_43_code 9 = .ok (.invokevirtual 273, 3) := by decide +kernel
theorem d_K_end_12 : decode prog_1_method_43_code 12 = .ok (.aload_n 0, 1) := by decide +kernel
theorem d_K_end_13 : decode prog_1_method_43_code 13 = .ok (.getfield 43, 3) := by decide +kernel
theorem d_K_end_16 : decode prog_1_method_43_code 16 = .ok (.aload_n 1, 1) := by decide +kernel
theorem d_K_end_17 : decode prog_1_method_43_code 17 = .ok (.getfield 140, 3) := by decide +kernel
theorem d_K_end_20 : decode prog_1_method_43_code 20 = .ok (.invokevirtual 276, 3) := by decide +kernel
theorem d_K_end_23 : decode prog_1_method_43_code 23 = .ok (.aload_n 1, 1) := by decide +kernel
theorem d_K_end_24 : decode prog_1_method_43_code 24 = .ok (.iconst 5, 1) := by decide +kernel
theorem d_K_end_25 : decode prog_1_method_43_code 25 = .ok (.putfield 98, 3) := by decide +kernel
theorem d_K_end_28 : decode prog_1_method_43_code 28 = .ok (.aload_n 1, 1) := by decide +kernel
theorem d_K_end_29 : decode prog_1_method_43_code 29 = .ok (.iload_n 2, 1) := by decide +kernel
theorem d_K_end_30 : decode prog_1_method_43_code 30 = .ok (.putfield 101, 3) := by decide +kernel
theorem d_K_end_33 : decode prog_1_method_43_code 33 = .ok (.aload_n 0, 1) := by decide +kernel
theorem d_K_end_34 : decode prog_1_method_43_code 34 = .ok (.aload_n 1, 1) := by decide +kernel
theorem d_K_end_35 : decode prog_1_method_43_code 35 = .ok (.invokevirtual 279, 3) := by decide +kernel
theorem d_K_end_38 : decode prog_1_method_43_code 38 = .ok (.aload_n 1, 1) := by decide +kernel
theorem d_K_end_39 : decode prog_1_method_43_code 39 = .ok (.getfield 104, 3) := by decide +kernel
theorem d_K_end_42 : decode prog_1_method_43_code 42 = .ok (.ifCond .ne 16, 3) := by decide +kernel
theorem d_K_end_45 : decode prog_1_method_43_code 45 = .ok (.aload_n 1, 1) := by decide +kernel
theorem d_K_end_46 : decode prog_1_method_43_code 46 = .ok (.getfield 140, 3) := by decide +kernel
theorem d_K_end_49 : decode prog_1_method_43_code 49 = .ok (.iconst 1, 1) := by decide +kernel
theorem d_K_end_50 : decode prog_1_method_43_code 50 = .ok (.if_icmp .eq 8, 3) := by decide +kernel
theorem d_K_end_53 : decode prog_1_method_43_code 53 = .ok (.aload_n 1, 1) := by decide +kernel
theorem d_K_end_54 : decode prog_1_method_43_code 54 = .ok (.iconst 0, 1) := by decide +kernel
theorem d_K_end_55 : decode prog_1_method_43_code 55 = .ok (.putfield 98, 3) := by decide +kernel
theorem d_K_end_58 : decode prog_1_method_43_code 58 = .ok (.return_, 1) := by decide +kernel
theorem d_K_handOverChildren_0 : decode prog_1_method_44_code 0 = .ok (.aload_n 0, 1) := by decide +kernel
theorem d_K_handOverChildren_1 : decode prog_1_method_44_code 1 = .ok (.getfield 28, 3) := by decide +kernel
theorem d_K_handOverChildren_4 : decode prog_1_method_44_code 4 = .ok (.iconst 0, 1) := by decide +kernel
theorem d_K_handOverChildren_5 : decode prog_1_method_44_code 5 = .ok (.aaload, 1) := by decide +kernel
theorem d_K_handOverChildren_6 : decode prog_1_method_44_code 6 = .ok (.getfield 98, 3) := by decide +kernel
theorem d_K_handOverChildren_9 : decode prog_1_method_44_code 9 = .ok (.iconst 5, 1) := by decide +kernel
theorem d_K_handOverChildren_10 : decode prog_1_method_44_code 10 = .ok (.if_icmp .ne 7, 3) := by decide +kernel
theorem d_K_handOverChildren_13 : decode prog_1_method_44_code 13 = .ok (.iconst 0, 1) := by decide +kernel
theorem d_K_handOverChildren_14 : decode prog_1_method_44_code 14 = .ok (.goto 4, 3) := by decide +kernel
theorem d_K_handOverChildren_17 : decode prog_1_method_44_code 17 = .ok (.iconst 1, 1) := by decide +kernel
theorem d_K_handOverChildren_18 : decode prog_1_method_44_code 18 = .ok (.istore_n 2, 1) := by decide +kernel
theorem d_K_handOverChildren_19 : decode prog_1_method_44_code 19 = .ok (.iconst 0, 1) := by decide +kernel
theorem d_K_handOverChildren_20 : decode prog_1_method_44_code 20 = .ok (.istore_n 3, 1) := by decide +kernel
theorem d_K_handOverChildren_21 : decode prog_1_method_44_code 21 = .ok (.iload_n 3, 1) := by decide +kernel
theorem d_K_handOverChildren_22 : decode prog_1_method_44_code 22 = .ok (.bipush 8, 2) := by decide +kernel
theorem d_K_handOverChildren_24 : decode prog_1_method_44_code 24 = .ok (.if_icmp .ge 51, 3) := by decide +kernel
theorem d_K_handOverChildren_27 : decode prog_1_method_44_code 27 = .ok (.aload_n 0, 1) := by decide +kernel
theorem d_K_handOverChildren_28 : decode prog_1_method_44_code 28 = .ok (.getfield 28, 3) := by decide +kernel
theorem d_K_handOverChildren_31 : decode prog_1_method_44_code 31 = .ok (.iload_n 3, 1) := by decide +kernel
theorem d_K_handOverChildren_32 : decode prog_1_method_44_code 32 = .ok (.aaload, 1) := by decide +kernel
theorem d_K_handOverChildren_33 : decode prog_1_method_44_code 33 = .ok (.astore 4, 2) := by decide +kernel
theorem d_K_handOverChildren_35 : decode prog_1_method_44_code 35 = .ok (.aload 4, 2) := by decide +kernel
theorem d_K_handOverChildren_37 : decode prog_1_method_44_code 37 = .ok (.aload_n 1, 1) := by decide +kernel
theorem d_K_handOverChildren_38 : decode prog_1_method_44_code 38 = .ok (.invokevirtual 249, 3) := by decide +kernel
theorem d_K_handOverChildren_41 : decode prog_1_method_44_code 41 = .ok (.ifCond .eq 28, 3) := by decide +kernel
theorem d_K_handOverChildren_44 : decode prog_1_method_44_code 44 = .ok (.aload 4, 2) := by decide +kernel
theorem d_K_handOverChildren_46 : decode prog_1_method_44_code 46 = .ok (.iload_n 2, 1) := by decide +kernel
theorem d_K_handOverChildren_47 : decode prog_1_method_44_code 47 = .ok (.putfield 104, 3) := by decide +kernel
theorem d_K_handOverChildren_50 : decode prog_1_method_44_code 50 = .ok (.iload_n 2, 1) := by decide +kernel
theorem d_K_handOverChildren_51 : decode prog_1_method_44_code 51 = .ok (.ifCond .ne 18, 3) := by decide +kernel
theorem d_K_handOverChildren_54 : decode prog_1_method_44_code 54 = .ok (.aload 4, 2) := by decide +kernel
theorem d_K_handOverChildren_56 : decode prog_1_method_44_code 56 = .ok (.getfield 98, 3) := by decide +kernel
theorem d_K_handOverChildren_59 : decode prog_1_method_44_code 59 = .ok (.iconst 5, 1) := by decide +kernel
theorem d_K_handOverChildren_60 : decode prog_1_method_44_code 60 = .ok (.if_icmp .ne 9, 3) := by decide +kernel
theorem d_K_handOverChildren_63 : decode prog_1_method_44_code 63 = .ok (.aload 4, 2) := by decide +kernel
theorem d_K_handOverChildren_65 : decode prog_1_method_44_code 65 = .ok (.iconst 0, 1) := by decide +kernel
theorem d_K_handOverChildren_66 : decode prog_1_method_44_code 66 = .ok (.putfield 98, 3) := by decide +kernel
theorem d_K_handOverChildren_69 : decode prog_1_method_44_code 69 = .ok (.iinc 3 1, 3) := by decide +kernel
theorem d_K_handOverChildren_72 : decode prog_1_method_44_code 72 = .ok (.goto (-51), 3) := by decide +kernel
theorem d_K_handOverChildren_75 : decode prog_1_method_44_code 75 = .ok (.return_, 1) := by decide +kernel
theorem d_K_isReadingEnd_0 : decode prog_1_method_45_code 0 = .ok (.iload_n 0, 1) := by decide +kernel
theorem d_K_isReadingEnd_1 : decode prog_1_method_45_code 1 = .ok (.ifCond .le 14, 3) := by decide +kernel
theorem d_K_isReadingEnd_4 : decode prog_1_method_45_code 4 = .ok (.iload_n 0, 1) := by decide +kernel
theorem d_K_isReadingEnd_5 : decode prog_1_method_45_code 5 = .ok (.iconst 1, 1) := by decide +kernel
theorem d_K_isReadingEnd_6 : decode prog_1_method_45_code 6 = .ok (.iand, 1) := by decide +kernel
theorem d_K_isReadingEnd_7 : decode prog_1_method_45_code 7 = .ok (.iconst 1, 1) := by decide +kernel
theorem d_K_isReadingEnd_8 : decode prog_1_method_45_code 8 = .ok (.if_icmp .ne 7, 3) := by decide +kernel
theorem d_K_isReadingEnd_11 : decode prog_1_method_45_code 11 = .ok (.iconst 1, 1) := by decide +kernel
theorem d_K_isReadingEnd_12 : decode prog_1_method_45_code 12 = .ok (.goto 4, 3) := by decide +kernel
theorem d_K_isReadingEnd_15 : decode prog_1_method_45_code 15 = .ok (.iconst 0, 1) := by decide +kernel
theorem d_K_isReadingEnd_16 : decode prog_1_method_45_code 16 = .ok (.ireturn, 1) := by decide +kernel
theorem d_K_isWritingEnd_0 : decode prog_1_method_46_code 0 = .ok (.iload_n 0, 1) := by decide +kernel
theorem d_K_isWritingEnd_1 : decode prog_1_method_46_code 1 = .ok (.ifCond .le 13, 3) := by decide +kernel
theorem d_K_isWritingEnd_4 : decode prog_1_method_46_code 4 = .ok (.iload_n 0, 1) := by decide +kernel
theorem d_K_isWritingEnd_5 : decode prog_1_method_46_code 5 = .ok (.iconst 1, 1) := by decide +kernel
theorem d_K_isWritingEnd_6 : decode prog_1_method_46_code 6 = .ok (.iand, 1) := by decide +kernel
theorem d_K_isWritingEnd_7 : decode prog_1_method_46_code 7 = .ok (.ifCond .ne 7, 3) := by decide +kernel
theorem d_K_isWritingEnd_10 : decode prog_1_method_46_code 10 = .ok (.iconst 1, 1) := by decide +kernel
theorem d_K_isWritingEnd_11 : decode prog_1_method_46_code 11 = .ok (.goto 4, 3) := by decide +kernel
theorem d_K_isWritingEnd_14 : decode prog_1_method_46_code 14 = .ok (.iconst 0, 1) := by decide +kernel
theorem d_K_isWritingEnd_15 : decode prog_1_method_46_code 15 = .ok (.ireturn, 1) := by decide +kernel
theorem d_K_pipeOf_0 : decode prog_1_method_47_code 0 = .ok (.aload_n 0, 1) := by decide +kernel
theorem d_K_pipeOf_1 : decode prog_1_method_47_code 1 = .ok (.getfield 35, 3) := by decide +kernel
theorem d_K_pipeOf_4 : decode prog_1_method_47_code 4 = .ok (.iload_n 1, 1) := by decide +kernel
theorem d_K_pipeOf_5 : decode prog_1_method_47_code 5 = .ok (.iconst 1, 1) := by decide +kernel
theorem d_K_pipeOf_6 : decode prog_1_method_47_code 6 = .ok (.isub, 1) := by decide +kernel
theorem d_K_pipeOf_7 : decode prog_1_method_47_code 7 = .ok (.iconst 1, 1) := by decide +kernel
theorem d_K_pipeOf_8 : decode prog_1_method_47_code 8 = .ok (.iushr, 1) := by decide +kernel
theorem d_K_pipeOf_9 : decode prog_1_method_47_code 9 = .ok (.iconst 3, 1) := by decide +kernel
theorem d_K_pipeOf_10 : decode prog_1_method_47_code 10 = .ok (.iand, 1) := by decide +kernel
theorem d_K_pipeOf_11 : decode prog_1_method_47_code 11 = .ok (.aaload, 1) := by decide +kernel
theorem d_K_pipeOf_12 : decode prog_1_method_47_code 12 = .ok (.areturn, 1) := by decide +kernel
theorem d_K_isHeld_0 : decode prog_1_method_48_code 0 = .ok (.iconst 0, 1) := by decide +kernel
theorem d_K_isHeld_1 : decode prog_1_method_48_code 1 = .ok (.istore_n 2, 1) := by decide +kernel
theorem d_K_isHeld_2 : decode prog_1_method_48_code 2 = .ok (.iload_n 2, 1) := by decide +kernel
theorem d_K_isHeld_3 : decode prog_1_method_48_code 3 = .ok (.bipush 8, 2) := by decide +kernel
theorem d_K_isHeld_5 : decode prog_1_method_48_code 5 = .ok (.if_icmp .ge 40, 3) := by decide +kernel
theorem d_K_isHeld_8 : decode prog_1_method_48_code 8 = .ok (.iconst 0, 1) := by decide +kernel
theorem d_K_isHeld_9 : decode prog_1_method_48_code 9 = .ok (.istore_n 3, 1) := by decide +kernel
theorem d_K_isHeld_10 : decode prog_1_method_48_code 10 = .ok (.iload_n 3, 1) := by decide +kernel
theorem d_K_isHeld_11 : decode prog_1_method_48_code 11 = .ok (.bipush 6, 2) := by decide +kernel
theorem d_K_isHeld_13 : decode prog_1_method_48_code 13 = .ok (.if_icmp .ge 26, 3) := by decide +kernel
theorem d_K_isHeld_16 : decode prog_1_method_48_code 16 = .ok (.aload_n 0, 1) := by decide +kernel
theorem d_K_isHeld_17 : decode prog_1_method_48_code 17 = .ok (.getfield 28, 3) := by decide +kernel
theorem d_K_isHeld_20 : decode prog_1_method_48_code 20 = .ok (.iload_n 2, 1) := by decide +kernel
theorem d_K_isHeld_21 : decode prog_1_method_48_code 21 = .ok (.aaload, 1) := by decide +kernel
theorem d_K_isHeld_22 : decode prog_1_method_48_code 22 = .ok (.getfield 76, 3) := by decide +kernel
theorem d_K_isHeld_25 : decode prog_1_method_48_code 25 = .ok (.iload_n 3, 1) := by decide +kernel
theorem d_K_isHeld_26 : decode prog_1_method_48_code 26 = .ok (.iaload, 1) := by decide +kernel
theorem d_K_isHeld_27 : decode prog_1_method_48_code 27 = .ok (.iload_n 1, 1) := by decide +kernel
theorem d_K_isHeld_28 : decode prog_1_method_48_code 28 = .ok (.if_icmp .ne 5, 3) := by decide +kernel
theorem d_K_isHeld_31 : decode prog_1_method_48_code 31 = .ok (.iconst 1, 1) := by decide +kernel
theorem d_K_isHeld_32 : decode prog_1_method_48_code 32 = .ok (.ireturn, 1) := by decide +kernel
theorem d_K_isHeld_33 : decode prog_1_method_48_code 33 = .ok (.iinc 3 1, 3) := by decide +kernel
theorem d_K_isHeld_36 : decode prog_1_method_48_code 36 = .ok (.goto (-26), 3) := by decide +kernel
theorem d_K_isHeld_39 : decode prog_1_method_48_code 39 = .ok (.iinc 2 1, 3) := by decide +kernel
theorem d_K_isHeld_42 : decode prog_1_method_48_code 42 = .ok (.goto (-40), 3) := by decide +kernel
theorem d_K_isHeld_45 : decode prog_1_method_48_code 45 = .ok (.iconst 0, 1) := by decide +kernel
theorem d_K_isHeld_46 : decode prog_1_method_48_code 46 = .ok (.ireturn, 1) := by decide +kernel
theorem d_K_leastFreeReadingEnd_0 : decode prog_1_method_49_code 0 = .ok (.iconst 0, 1) := by decide +kernel
theorem d_K_leastFreeReadingEnd_1 : decode prog_1_method_49_code 1 = .ok (.istore_n 1, 1) := by decide +kernel
theorem d_K_leastFreeReadingEnd_2 : decode prog_1_method_49_code 2 = .ok (.iload_n 1, 1) := by decide +kernel
theorem d_K_leastFreeReadingEnd_3 : decode prog_1_method_49_code 3 = .ok (.iconst 4, 1) := by decide +kernel
theorem d_K_leastFreeReadingEnd_4 : decode prog_1_method_49_code 4 = .ok (.if_icmp .ge 23, 3) := by decide +kernel
theorem d_K_leastFreeReadingEnd_7 : decode prog_1_method_49_code 7 = .ok (.aload_n 0, 1) := by decide +kernel
theorem d_K_leastFreeReadingEnd_8 : decode prog_1_method_49_code 8 = .ok (.iload_n 1, 1) := by decide +kernel
theorem d_K_leastFreeReadingEnd_9 : decode prog_1_method_49_code 9 = .ok (.invokevirtual 127, 3) := by decide +kernel
theorem d_K_leastFreeReadingEnd_12 : decode prog_1_method_49_code 12 = .ok (.ifCond .eq 9, 3) := by decide +kernel
theorem d_K_leastFreeReadingEnd_15 : decode prog_1_method_49_code 15 = .ok (.iconst 1, 1) := by decide +kernel
theorem d_K_leastFreeReadingEnd_16 : decode prog_1_method_49_code 16 = .ok (.iconst 2, 1) := by decide +kernel
theorem d_K_leastFreeReadingEnd_17 : decode prog_1_method_49_code 17 = .ok (.iload_n 1, 1) := by decide +kernel
theorem d_K_leastFreeReadingEnd_18 : decode prog_1_method_49_code 18 = .ok (.imul, 1) := by decide +kernel
theorem d_K_leastFreeReadingEnd_19 : decode prog_1_method_49_code 19 = .ok (.iadd, 1) := by decide +kernel
theorem d_K_leastFreeReadingEnd_20 : decode prog_1_method_49_code 20 = .ok (.ireturn, 1) := by decide +kernel
theorem d_K_leastFreeReadingEnd_21 : decode prog_1_method_49_code 21 = .ok (.iinc 1 1, 3) := by decide +kernel
theorem d_K_leastFreeReadingEnd_24 : decode prog_1_method_49_code 24 = .ok (.goto (-22), 3) := by decide +kernel
theorem d_K_leastFreeReadingEnd_27 : decode prog_1_method_49_code 27 = .ok (.iconst (-1), 1) := by decide +kernel
theorem d_K_leastFreeReadingEnd_28 : decode prog_1_method_49_code 28 = .ok (.ireturn, 1) := by decide +kernel
theorem d_K_isFreePipe_0 : decode prog_1_method_50_code 0 = .ok (.aload_n 0, 1) := by decide +kernel
theorem d_K_isFreePipe_1 : decode prog_1_method_50_code 1 = .ok (.iconst 1, 1) := by decide +kernel
theorem d_K_isFreePipe_2 : decode prog_1_method_50_code 2 = .ok (.iconst 2, 1) := by decide +kernel
theorem d_K_isFreePipe_3 : decode prog_1_method_50_code 3 = .ok (.iload_n 1, 1) := by decide +kernel
theorem d_K_isFreePipe_4 : decode prog_1_method_50_code 4 = .ok (.imul, 1) := by decide +kernel
theorem d_K_isFreePipe_5 : decode prog_1_method_50_code 5 = .ok (.iadd, 1) := by decide +kernel
theorem d_K_isFreePipe_6 : decode prog_1_method_50_code 6 = .ok (.invokevirtual 201, 3) := by decide +kernel
theorem d_K_isFreePipe_9 : decode prog_1_method_50_code 9 = .ok (.ifCond .ne 19, 3) := by decide +kernel
theorem d_K_isFreePipe_12 : decode prog_1_method_50_code 12 = .ok (.aload_n 0, 1) := by decide +kernel
theorem d_K_isFreePipe_13 : decode prog_1_method_50_code 13 = .ok (.iconst 2, 1) := by decide +kernel
theorem d_K_isFreePipe_14 : decode prog_1_method_50_code 14 = .ok (.iconst 2, 1) := by decide +kernel
theorem d_K_isFreePipe_15 : decode prog_1_method_50_code 15 = .ok (.iload_n 1, 1) := by decide +kernel
theorem d_K_isFreePipe_16 : decode prog_1_method_50_code 16 = .ok (.imul, 1) := by decide +kernel
theorem d_K_isFreePipe_17 : decode prog_1_method_50_code 17 = .ok (.iadd, 1) := by decide +kernel
theorem d_K_isFreePipe_18 : decode prog_1_method_50_code 18 = .ok (.invokevirtual 201, 3) := by decide +kernel
theorem d_K_isFreePipe_21 : decode prog_1_method_50_code 21 = .ok (.ifCond .ne 7, 3) := by decide +kernel
theorem d_K_isFreePipe_24 : decode prog_1_method_50_code 24 = .ok (.iconst 1, 1) := by decide +kernel
theorem d_K_isFreePipe_25 : decode prog_1_method_50_code 25 = .ok (.goto 4, 3) := by decide +kernel
theorem d_K_isFreePipe_28 : decode prog_1_method_50_code 28 = .ok (.iconst 0, 1) := by decide +kernel
theorem d_K_isFreePipe_29 : decode prog_1_method_50_code 29 = .ok (.ireturn, 1) := by decide +kernel
theorem d_MOD_init_0 : decode prog_8_method_1_code 0 = .ok (.aload_n 0, 1) := by decide +kernel
theorem d_MOD_init_1 : decode prog_8_method_1_code 1 = .ok (.invokespecial 1, 3) := by decide +kernel
theorem d_MOD_init_4 : decode prog_8_method_1_code 4 = .ok (.aload_n 0, 1) := by decide +kernel
theorem d_MOD_init_5 : decode prog_8_method_1_code 5 = .ok (.sipush 640, 3) := by decide +kernel
theorem d_MOD_init_8 : decode prog_8_method_1_code 8 = .ok (.newarray .int, 2) := by decide +kernel
theorem d_MOD_init_10 : decode prog_8_method_1_code 10 = .ok (.putfield 7, 3) := by decide +kernel
theorem d_MOD_init_13 : decode prog_8_method_1_code 13 = .ok (.aload_n 0, 1) := by decide +kernel
theorem d_MOD_init_14 : decode prog_8_method_1_code 14 = .ok (.bipush 40, 2) := by decide +kernel
theorem d_MOD_init_16 : decode prog_8_method_1_code 16 = .ok (.newarray .int, 2) := by decide +kernel
theorem d_MOD_init_18 : decode prog_8_method_1_code 18 = .ok (.putfield 13, 3) := by decide +kernel
theorem d_MOD_init_21 : decode prog_8_method_1_code 21 = .ok (.aload_n 0, 1) := by decide +kernel
theorem d_MOD_init_22 : decode prog_8_method_1_code 22 = .ok (.bipush 64, 2) := by decide +kernel
theorem d_MOD_init_24 : decode prog_8_method_1_code 24 = .ok (.newarray .int, 2) := by decide +kernel
theorem d_MOD_init_26 : decode prog_8_method_1_code 26 = .ok (.putfield 16, 3) := by decide +kernel
theorem d_MOD_init_29 : decode prog_8_method_1_code 29 = .ok (.aload_n 0, 1) := by decide +kernel
theorem d_MOD_init_30 : decode prog_8_method_1_code 30 = .ok (.bipush 9, 2) := by decide +kernel
theorem d_MOD_init_32 : decode prog_8_method_1_code 32 = .ok (.newarray .int, 2) := by decide +kernel
theorem d_MOD_init_34 : decode prog_8_method_1_code 34 = .ok (.putfield 19, 3) := by decide +kernel
theorem d_MOD_init_37 : decode prog_8_method_1_code 37 = .ok (.aload_n 0, 1) := by decide +kernel
theorem d_MOD_init_38 : decode prog_8_method_1_code 38 = .ok (.bipush 9, 2) := by decide +kernel
theorem d_MOD_init_40 : decode prog_8_method_1_code 40 = .ok (.newarray .int, 2) := by decide +kernel
theorem d_MOD_init_42 : decode prog_8_method_1_code 42 = .ok (.putfield 22, 3) := by decide +kernel
theorem d_MOD_init_45 : decode prog_8_method_1_code 45 = .ok (.aload_n 0, 1) := by decide +kernel
theorem d_MOD_init_46 : decode prog_8_method_1_code 46 = .ok (.bipush 9, 2) := by decide +kernel
theorem d_MOD_init_48 : decode prog_8_method_1_code 48 = .ok (.newarray .int, 2) := by decide +kernel
theorem d_MOD_init_50 : decode prog_8_method_1_code 50 = .ok (.putfield 25, 3) := by decide +kernel
theorem d_MOD_init_53 : decode prog_8_method_1_code 53 = .ok (.aload_n 0, 1) := by decide +kernel
theorem d_MOD_init_54 : decode prog_8_method_1_code 54 = .ok (.bipush 9, 2) := by decide +kernel
theorem d_MOD_init_56 : decode prog_8_method_1_code 56 = .ok (.newarray .int, 2) := by decide +kernel
theorem d_MOD_init_58 : decode prog_8_method_1_code 58 = .ok (.putfield 28, 3) := by decide +kernel
theorem d_MOD_init_61 : decode prog_8_method_1_code 61 = .ok (.aload_n 0, 1) := by decide +kernel
theorem d_MOD_init_62 : decode prog_8_method_1_code 62 = .ok (.bipush 9, 2) := by decide +kernel
theorem d_MOD_init_64 : decode prog_8_method_1_code 64 = .ok (.newarray .int, 2) := by decide +kernel
theorem d_MOD_init_66 : decode prog_8_method_1_code 66 = .ok (.putfield 31, 3) := by decide +kernel
theorem d_MOD_init_69 : decode prog_8_method_1_code 69 = .ok (.aload_n 0, 1) := by decide +kernel
theorem d_MOD_init_70 : decode prog_8_method_1_code 70 = .ok (.sipush 288, 3) := by decide +kernel
theorem d_MOD_init_73 : decode prog_8_method_1_code 73 = .ok (.newarray .int, 2) := by decide +kernel
theorem d_MOD_init_75 : decode prog_8_method_1_code 75 = .ok (.putfield 34, 3) := by decide +kernel
theorem d_MOD_init_78 : decode prog_8_method_1_code 78 = .ok (.aload_n 0, 1) := by decide +kernel
theorem d_MOD_init_79 : decode prog_8_method_1_code 79 = .ok (.bipush 72, 2) := by decide +kernel
theorem d_MOD_init_81 : decode prog_8_method_1_code 81 = .ok (.newarray .int, 2) := by decide +kernel
theorem d_MOD_init_83 : decode prog_8_method_1_code 83 = .ok (.putfield 37, 3) := by decide +kernel
theorem d_MOD_init_86 : decode prog_8_method_1_code 86 = .ok (.aload_n 0, 1) := by decide +kernel
theorem d_MOD_init_87 : decode prog_8_method_1_code 87 = .ok (.bipush 54, 2) := by decide +kernel
theorem d_MOD_init_89 : decode prog_8_method_1_code 89 = .ok (.newarray .int, 2) := by decide +kernel
theorem d_MOD_init_91 : decode prog_8_method_1_code 91 = .ok (.putfield 40, 3) := by decide +kernel
theorem d_MOD_init_94 : decode prog_8_method_1_code 94 = .ok (.aload_n 0, 1) := by decide +kernel
theorem d_MOD_init_95 : decode prog_8_method_1_code 95 = .ok (.bipush 9, 2) := by decide +kernel
theorem d_MOD_init_97 : decode prog_8_method_1_code 97 = .ok (.newarray .int, 2) := by decide +kernel
theorem d_MOD_init_99 : decode prog_8_method_1_code 99 = .ok (.putfield 43, 3) := by decide +kernel
theorem d_MOD_init_102 : decode prog_8_method_1_code 102 = .ok (.aload_n 0, 1) := by decide +kernel
theorem d_MOD_init_103 : decode prog_8_method_1_code 103 = .ok (.bipush 32, 2) := by decide +kernel
theorem d_MOD_init_105 : decode prog_8_method_1_code 105 = .ok (.newarray .int, 2) := by decide +kernel
theorem d_MOD_init_107 : decode prog_8_method_1_code 107 = .ok (.putfield 46, 3) := by decide +kernel
theorem d_MOD_init_110 : decode prog_8_method_1_code 110 = .ok (.aload_n 0, 1) := by decide +kernel
theorem d_MOD_init_111 : decode prog_8_method_1_code 111 = .ok (.iconst 4, 1) := by decide +kernel
theorem d_MOD_init_112 : decode prog_8_method_1_code 112 = .ok (.newarray .int, 2) := by decide +kernel
theorem d_MOD_init_114 : decode prog_8_method_1_code 114 = .ok (.putfield 49, 3) := by decide +kernel
theorem d_MOD_init_117 : decode prog_8_method_1_code 117 = .ok (.aload_n 0, 1) := by decide +kernel
theorem d_MOD_init_118 : decode prog_8_method_1_code 118 = .ok (.sipush 200, 3) := by decide +kernel
theorem d_MOD_init_121 : decode prog_8_method_1_code 121 = .ok (.newarray .int, 2) := by decide +kernel
theorem d_MOD_init_123 : decode prog_8_method_1_code 123 = .ok (.putfield 52, 3) := by decide +kernel
theorem d_MOD_init_126 : decode prog_8_method_1_code 126 = .ok (.aload_n 0, 1) := by decide +kernel
theorem d_MOD_init_127 : decode prog_8_method_1_code 127 = .ok (.iload_n 1, 1) := by decide +kernel
theorem d_MOD_init_128 : decode prog_8_method_1_code 128 = .ok (.iconst 1, 1) := by decide +kernel
theorem d_MOD_init_129 : decode prog_8_method_1_code 129 = .ok (.if_icmp .lt 13, 3) := by decide +kernel
theorem d_MOD_init_132 : decode prog_8_method_1_code 132 = .ok (.iload_n 1, 1) := by decide +kernel
theorem d_MOD_init_133 : decode prog_8_method_1_code 133 = .ok (.bipush 40, 2) := by decide +kernel
theorem d_MOD_init_135 : decode prog_8_method_1_code 135 = .ok (.if_icmp .gt 7, 3) := by decide +kernel
theorem d_MOD_init_138 : decode prog_8_method_1_code 138 = .ok (.iload_n 1, 1) := by decide +kernel
theorem d_MOD_init_139 : decode prog_8_method_1_code 139 = .ok (.goto 5, 3) := by decide +kernel
theorem d_MOD_init_142 : decode prog_8_method_1_code 142 = .ok (.bipush 12, 2) := by decide +kernel
theorem d_MOD_init_144 : decode prog_8_method_1_code 144 = .ok (.putfield 55, 3) := by decide +kernel
theorem d_MOD_init_147 : decode prog_8_method_1_code 147 = .ok (.aload_n 0, 1) := by decide +kernel
theorem d_MOD_init_148 : decode prog_8_method_1_code 148 = .ok (.iload_n 2, 1) := by decide +kernel
theorem d_MOD_init_149 : decode prog_8_method_1_code 149 = .ok (.iconst 1, 1) := by decide +kernel
theorem d_MOD_init_150 : decode prog_8_method_1_code 150 = .ok (.if_icmp .lt 13, 3) := by decide +kernel
theorem d_MOD_init_153 : decode prog_8_method_1_code 153 = .ok (.iload_n 2, 1) := by decide +kernel
theorem d_MOD_init_154 : decode prog_8_method_1_code 154 = .ok (.bipush 9, 2) := by decide +kernel
theorem d_MOD_init_156 : decode prog_8_method_1_code 156 = .ok (.if_icmp .gt 7, 3) := by decide +kernel
theorem d_MOD_init_159 : decode prog_8_method_1_code 159 = .ok (.iload_n 2, 1) := by decide +kernel
theorem d_MOD_init_160 : decode prog_8_method_1_code 160 = .ok (.goto 4, 3) := by decide +kernel
theorem d_MOD_init_163 : decode prog_8_method_1_code 163 = .ok (.iconst 4, 1) := by decide +kernel
theorem d_MOD_init_164 : decode prog_8_method_1_code 164 = .ok (.putfield 59, 3) := by decide +kernel
theorem d_MOD_init_167 : decode prog_8_method_1_code 167 = .ok (.iconst 0, 1) := by decide +kernel
theorem d_MOD_init_168 : decode prog_8_method_1_code 168 = .ok (.istore_n 3, 1) := by decide +kernel
theorem d_MOD_init_169 : decode prog_8_method_1_code 169 = .ok (.iload_n 3, 1) := by decide +kernel
theorem d_MOD_init_170 : decode prog_8_method_1_code 170 = .ok (.bipush 54, 2) := by decide +kernel
theorem d_MOD_init_172 : decode prog_8_method_1_code 172 = .ok (.if_icmp .ge 16, 3) := by decide +kernel
theorem d_MOD_init_175 : decode prog_8_method_1_code 175 = .ok (.aload_n 0, 1) := by decide +kernel
theorem d_MOD_init_176 : decode prog_8_method_1_code 176 = .ok (.getfield 40, 3) := by decide +kernel
theorem d_MOD_init_179 : decode prog_8_method_1_code 179 = .ok (.iload_n 3, 1) := by decide +kernel
theorem d_MOD_init_180 : decode prog_8_method_1_code 180 = .ok (.iconst (-1), 1) := by decide +kernel
theorem d_MOD_init_181 : decode prog_8_method_1_code 181 = .ok (.iastore, 1) := by decide +kernel
theorem d_MOD_init_182 : decode prog_8_method_1_code 182 = .ok (.iinc 3 1, 3) := by decide +kernel
theorem d_MOD_init_185 : decode prog_8_method_1_code 185 = .ok (.goto (-16), 3) := by decide +kernel
theorem d_MOD_init_188 : decode prog_8_method_1_code 188 = .ok (.return_, 1) := by decide +kernel
theorem d_MOD_load_0 : decode prog_8_method_2_code 0 = .ok (.aload_n 0, 1) := by decide +kernel
theorem d_MOD_load_1 : decode prog_8_method_2_code 1 = .ok (.getfield 62, 3) := by decide +kernel
theorem d_MOD_load_4 : decode prog_8_method_2_code 4 = .ok (.ifCond .ne 12, 3) := by decide +kernel
theorem d_MOD_load_7 : decode prog_8_method_2_code 7 = .ok (.aload_n 0, 1) := by decide +kernel
theorem d_MOD_load_8 : decode prog_8_method_2_code 8 = .ok (.getfield 66, 3) := by decide +kernel
theorem d_MOD_load_11 : decode prog_8_method_2_code 11 = .ok (.bipush 64, 2) := by decide +kernel
theorem d_MOD_load_13 : decode prog_8_method_2_code 13 = .ok (.if_icmp .ne 5, 3) := by decide +kernel
theorem d_MOD_load_16 : decode prog_8_method_2_code 16 = .ok (.iconst 0, 1) := by decide +kernel
theorem d_MOD_load_17 : decode prog_8_method_2_code 17 = .ok (.ireturn, 1) := by decide +kernel
theorem d_MOD_load_18 : decode prog_8_method_2_code 18 = .ok (.aload_n 0, 1) := by decide +kernel
theorem d_MOD_load_19 : decode prog_8_method_2_code 19 = .ok (.getfield 16, 3) := by decide +kernel
theorem d_MOD_load_22 : decode prog_8_method_2_code 22 = .ok (.aload_n 0, 1) := by decide +kernel
theorem d_MOD_load_23 : decode prog_8_method_2_code 23 = .ok (.getfield 66, 3) := by decide +kernel
theorem d_MOD_load_26 : decode prog_8_method_2_code 26 = .ok (.iload_n 1, 1) := by decide +kernel
theorem d_MOD_load_27 : decode prog_8_method_2_code 27 = .ok (.iastore, 1) := by decide +kernel
theorem d_MOD_load_28 : decode prog_8_method_2_code 28 = .ok (.aload_n 0, 1) := by decide +kernel
theorem d_MOD_load_29 : decode prog_8_method_2_code 29 = .ok (.dup, 1) := by decide +kernel
theorem d_MOD_load_30 : decode prog_8_method_2_code 30 = .ok (.getfield 66, 3) := by decide +kernel
theorem d_MOD_load_33 : decode prog_8_method_2_code 33 = .ok (.iconst 1, 1) := by decide +kernel
theorem d_MOD_load_34 : decode prog_8_method_2_code 34 = .ok (.iadd, 1) := by decide +kernel
theorem d_MOD_load_35 : decode prog_8_method_2_code 35 = .ok (.putfield 66, 3) := by decide +kernel
theorem d_MOD_load_38 : decode prog_8_method_2_code 38 = .ok (.iconst 1, 1) := by decide +kernel
theorem d_MOD_load_39 : decode prog_8_method_2_code 39 = .ok (.ireturn, 1) := by decide +kernel
theorem d_MOD_freeFrames_0 : decode prog_8_method_3_code 0 = .ok (.iconst 0, 1) := by decide +kernel
theorem d_MOD_freeFrames_1 : decode prog_8_method_3_code 1 = .ok (.istore_n 1, 1) := by decide +kernel
theorem d_MOD_freeFrames_2 : decode prog_8_method_3_code 2 = .ok (.iconst 0, 1) := by decide +kernel
theorem d_MOD_freeFrames_3 : decode prog_8_method_3_code 3 = .ok (.istore_n 2, 1) := by decide +kernel
theorem d_MOD_freeFrames_4 : decode prog_8_method_3_code 4 = .ok (.iload_n 2, 1) := by decide +kernel
theorem d_MOD_freeFrames_5 : decode prog_8_method_3_code 5 = .ok (.aload_n 0, 1) := by decide +kernel
theorem d_MOD_freeFrames_6 : decode prog_8_method_3_code 6 = .ok (.getfield 55, 3) := by decide +kernel
theorem d_MOD_freeFrames_9 : decode prog_8_method_3_code 9 = .ok (.if_icmp .ge 26, 3) := by decide +kernel
theorem d_MOD_freeFrames_12 : decode prog_8_method_3_code 12 = .ok (.aload_n 0, 1) := by decide +kernel
theorem d_MOD_freeFrames_13 : decode prog_8_method_3_code 13 = .ok (.getfield 13, 3) := by decide +kernel
theorem d_MOD_freeFrames_16 : decode prog_8_method_3_code 16 = .ok (.iload_n 2, 1) := by decide +kernel
theorem d_MOD_freeFrames_17 : decode prog_8_method_3_code 17 = .ok (.iaload, 1) := by decide +kernel
theorem d_MOD_freeFrames_18 : decode prog_8_method_3_code 18 = .ok (.ifCond .ne 9, 3) := by decide +kernel
theorem d_MOD_freeFrames_21 : decode prog_8_method_3_code 21 = .ok (.iload_n 1, 1) := by decide +kernel
theorem d_MOD_freeFrames_22 : decode prog_8_method_3_code 22 = .ok (.iconst 1, 1) := by decide +kernel
theorem d_MOD_freeFrames_23 : decode prog_8_method_3_code 23 = .ok (.iadd, 1) := by decide +kernel
theorem d_MOD_freeFrames_24 : decode prog_8_method_3_code 24 = .ok (.goto 4, 3) := by decide +kernel
theorem d_MOD_freeFrames_27 : decode prog_8_method_3_code 27 = .ok (.iload_n 1, 1) := by decide +kernel
theorem d_MOD_freeFrames_28 : decode prog_8_method_3_code 28 = .ok (.istore_n 1, 1) := by decide +kernel
theorem d_MOD_freeFrames_29 : decode prog_8_method_3_code 29 = .ok (.iinc 2 1, 3) := by decide +kernel
theorem d_MOD_freeFrames_32 : decode prog_8_method_3_code 32 = .ok (.goto (-28), 3) := by decide +kernel
theorem d_MOD_freeFrames_35 : decode prog_8_method_3_code 35 = .ok (.iload_n 1, 1) := by decide +kernel
theorem d_MOD_freeFrames_36 : decode prog_8_method_3_code 36 = .ok (.ireturn, 1) := by decide +kernel
theorem d_MOD_grow_0 : decode prog_8_method_4_code 0 = .ok (.iconst 0, 1) := by decide +kernel
theorem d_MOD_grow_1 : decode prog_8_method_4_code 1 = .ok (.istore_n 2, 1) := by decide +kernel
theorem d_MOD_grow_2 : decode prog_8_method_4_code 2 = .ok (.aload_n 0, 1) := by decide +kernel
theorem d_MOD_grow_3 : decode prog_8_method_4_code 3 = .ok (.getfield 13, 3) := by decide +kernel
theorem d_MOD_grow_6 : decode prog_8_method_4_code 6 = .ok (.iload_n 2, 1) := by decide +kernel
theorem d_MOD_grow_7 : decode prog_8_method_4_code 7 = .ok (.iaload, 1) := by decide +kernel
theorem d_MOD_grow_8 : decode prog_8_method_4_code 8 = .ok (.ifCond .eq 9, 3) := by decide +kernel
theorem d_MOD_grow_11 : decode prog_8_method_4_code 11 = .ok (.iinc 2 1, 3) := by decide +kernel
theorem d_MOD_grow_14 : decode prog_8_method_4_code 14 = .ok (.goto (-12), 3) := by decide +kernel
theorem d_MOD_grow_17 : decode prog_8_method_4_code 17 = .ok (.aload_n 0, 1) := by decide +kernel
theorem d_MOD_grow_18 : decode prog_8_method_4_code 18 = .ok (.getfield 13, 3) := by decide +kernel
theorem d_MOD_grow_21 : decode prog_8_method_4_code 21 = .ok (.iload_n 2, 1) := by decide +kernel
theorem d_MOD_grow_22 : decode prog_8_method_4_code 22 = .ok (.iload_n 1, 1) := by decide +kernel
theorem d_MOD_grow_23 : decode prog_8_method_4_code 23 = .ok (.iastore, 1) := by decide +kernel
theorem d_MOD_grow_24 : decode prog_8_method_4_code 24 = .ok (.iconst 0, 1) := by decide +kernel
theorem d_MOD_grow_25 : decode prog_8_method_4_code 25 = .ok (.istore_n 3, 1) := by decide +kernel
theorem d_MOD_grow_26 : decode prog_8_method_4_code 26 = .ok (.iload_n 3, 1) := by decide +kernel
theorem d_MOD_grow_27 : decode prog_8_method_4_code 27 = .ok (.bipush 16, 2) := by decide +kernel
theorem d_MOD_grow_29 : decode prog_8_method_4_code 29 = .ok (.if_icmp .ge 21, 3) := by decide +kernel
theorem d_MOD_grow_32 : decode prog_8_method_4_code 32 = .ok (.aload_n 0, 1) := by decide +kernel
theorem d_MOD_grow_33 : decode prog_8_method_4_code 33 = .ok (.getfield 7, 3) := by decide +kernel
theorem d_MOD_grow_36 : decode prog_8_method_4_code 36 = .ok (.bipush 16, 2) := by decide +kernel
theorem d_MOD_grow_38 : decode prog_8_method_4_code 38 = .ok (.iload_n 2, 1) := by decide +kernel
theorem d_MOD_grow_39 : decode prog_8_method_4_code 39 = .ok (.imul, 1) := by decide +kernel
theorem d_MOD_grow_40 : decode prog_8_method_4_code 40 = .ok (.iload_n 3, 1) := by decide +kernel
theorem d_MOD_grow_41 : decode prog_8_method_4_code 41 = .ok (.iadd, 1) := by decide +kernel
theorem d_MOD_grow_42 : decode prog_8_method_4_code 42 = .ok (.iconst 0, 1) := by decide +kernel
theorem d_MOD_grow_43 : decode prog_8_method_4_code 43 = .ok (.iastore, 1) := by decide +kernel
theorem d_MOD_grow_44 : decode prog_8_method_4_code 44 = .ok (.iinc 3 1, 3) := by decide +kernel
theorem d_MOD_grow_47 : decode prog_8_method_4_code 47 = .ok (.goto (-21), 3) := by decide +kernel
theorem d_MOD_grow_50 : decode prog_8_method_4_code 50 = .ok (.aload_n 0, 1) := by decide +kernel
theorem d_MOD_grow_51 : decode prog_8_method_4_code 51 = .ok (.getfield 37, 3) := by decide +kernel
theorem d_MOD_grow_54 : decode prog_8_method_4_code 54 = .ok (.bipush 8, 2) := by decide +kernel
theorem d_MOD_grow_56 : decode prog_8_method_4_code 56 = .ok (.iload_n 1, 1) := by decide +kernel
theorem d_MOD_grow_57 : decode prog_8_method_4_code 57 = .ok (.imul, 1) := by decide +kernel
theorem d_MOD_grow_58 : decode prog_8_method_4_code 58 = .ok (.aload_n 0, 1) := by decide +kernel
theorem d_MOD_grow_59 : decode prog_8_method_4_code 59 = .ok (.getfield 31, 3) := by decide +kernel
theorem d_MOD_grow_62 : decode prog_8_method_4_code 62 = .ok (.iload_n 1, 1) := by decide +kernel
theorem d_MOD_grow_63 : decode prog_8_method_4_code 63 = .ok (.iaload, 1) := by decide +kernel
theorem d_MOD_grow_64 : decode prog_8_method_4_code 64 = .ok (.iadd, 1) := by decide +kernel
theorem d_MOD_grow_65 : decode prog_8_method_4_code 65 = .ok (.iload_n 2, 1) := by decide +kernel
theorem d_MOD_grow_66 : decode prog_8_method_4_code 66 = .ok (.iastore, 1) := by decide +kernel
theorem d_MOD_grow_67 : decode prog_8_method_4_code 67 = .ok (.aload_n 0, 1) := by decide +kernel
theorem d_MOD_grow_68 : decode prog_8_method_4_code 68 = .ok (.getfield 31, 3) := by decide +kernel
theorem d_MOD_grow_71 : decode prog_8_method_4_code 71 = .ok (.iload_n 1, 1) := by decide +kernel
theorem d_MOD_grow_72 : decode prog_8_method_4_code 72 = .ok (.dup2, 1) := by decide +kernel
theorem d_MOD_grow_73 : decode prog_8_method_4_code 73 = .ok (.iaload, 1) := by decide +kernel
theorem d_MOD_grow_74 : decode prog_8_method_4_code 74 = .ok (.iconst 1, 1) := by decide +kernel
theorem d_MOD_grow_75 : decode prog_8_method_4_code 75 = .ok (.iadd, 1) := by decide +kernel
theorem d_MOD_grow_76 : decode prog_8_method_4_code 76 = .ok (.iastore, 1) := by decide +kernel
theorem d_MOD_grow_77 : decode prog_8_method_4_code 77 = .ok (.iload_n 2, 1) := by decide +kernel
theorem d_MOD_grow_78 : decode prog_8_method_4_code 78 = .ok (.ireturn, 1) := by decide +kernel
theorem d_MOD_boot_0 : decode prog_8_method_5_code 0 = .ok (.aload_n 0, 1) := by decide +kernel
theorem d_MOD_boot_1 : decode prog_8_method_5_code 1 = .ok (.getfield 66, 3) := by decide +kernel
theorem d_MOD_boot_4 : decode prog_8_method_5_code 4 = .ok (.bipush 15, 2) := by decide +kernel
theorem d_MOD_boot_6 : decode prog_8_method_5_code 6 = .ok (.iadd, 1) := by decide +kernel
theorem d_MOD_boot_7 : decode prog_8_method_5_code 7 = .ok (.bipush 16, 2) := by decide +kernel
theorem d_MOD_boot_9 : decode prog_8_method_5_code 9 = .ok (.idiv, 1) := by decide +kernel
theorem d_MOD_boot_10 : decode prog_8_method_5_code 10 = .ok (.iconst 1, 1) := by decide +kernel
theorem d_MOD_boot_11 : decode prog_8_method_5_code 11 = .ok (.iadd, 1) := by decide +kernel
theorem d_MOD_boot_12 : decode prog_8_method_5_code 12 = .ok (.istore_n 1, 1) := by decide +kernel
theorem d_MOD_boot_13 : decode prog_8_method_5_code 13 = .ok (.aload_n 0, 1) := by decide +kernel
theorem d_MOD_boot_14 : decode prog_8_method_5_code 14 = .ok (.getfield 62, 3) := by decide +kernel
theorem d_MOD_boot_17 : decode prog_8_method_5_code 17 = .ok (.ifCond .eq 5, 3) := by decide +kernel
theorem d_MOD_boot_20 : decode prog_8_method_5_code 20 = .ok (.iconst 1, 1) := by decide +kernel
theorem d_MOD_boot_21 : decode prog_8_method_5_code 21 = .ok (.ireturn, 1) := by decide +kernel
theorem d_MOD_boot_22 : decode prog_8_method_5_code 22 = .ok (.aload_n 0, 1) := by decide +kernel
theorem d_MOD_boot_23 : decode prog_8_method_5_code 23 = .ok (.getfield 66, 3) := by decide +kernel
theorem d_MOD_boot_26 : decode prog_8_method_5_code 26 = .ok (.ifCond .eq 11, 3) := by decide +kernel
theorem d_MOD_boot_29 : decode prog_8_method_5_code 29 = .ok (.iload_n 1, 1) := by decide +kernel
theorem d_MOD_boot_30 : decode prog_8_method_5_code 30 = .ok (.aload_n 0, 1) := by decide +kernel
theorem d_MOD_boot_31 : decode prog_8_method_5_code 31 = .ok (.getfield 55, 3) := by decide +kernel
theorem d_MOD_boot_34 : decode prog_8_method_5_code 34 = .ok (.if_icmp .le 5, 3) := by decide +kernel
theorem d_MOD_boot_37 : decode prog_8_method_5_code 37 = .ok (.iconst 2, 1) := by decide +kernel
theorem d_MOD_boot_38 : decode prog_8_method_5_code 38 = .ok (.ireturn, 1) := by decide +kernel
theorem d_MOD_boot_39 : decode prog_8_method_5_code 39 = .ok (.aload_n 0, 1) := by decide +kernel
theorem d_MOD_boot_40 : decode prog_8_method_5_code 40 = .ok (.iconst 1, 1) := by decide +kernel
theorem d_MOD_boot_41 : decode prog_8_method_5_code 41 = .ok (.putfield 62, 3) := by decide +kernel
theorem d_MOD_boot_44 : decode prog_8_method_5_code 44 = .ok (.iconst 0, 1) := by decide +kernel
theorem d_MOD_boot_45 : decode prog_8_method_5_code 45 = .ok (.istore_n 2, 1) := by decide +kernel
theorem d_MOD_boot_46 : decode prog_8_method_5_code 46 = .ok (.iload_n 2, 1) := by decide +kernel
theorem d_MOD_boot_47 : decode prog_8_method_5_code 47 = .ok (.iload_n 1, 1) := by decide +kernel
theorem d_MOD_boot_48 : decode prog_8_method_5_code 48 = .ok (.if_icmp .ge 69, 3) := by decide +kernel
theorem d_MOD_boot_51 : decode prog_8_method_5_code 51 = .ok (.aload_n 0, 1) := by decide +kernel
theorem d_MOD_boot_52 : decode prog_8_method_5_code 52 = .ok (.iconst 1, 1) := by decide +kernel
theorem d_MOD_boot_53 : decode prog_8_method_5_code 53 = .ok (.invokevirtual 69, 3) := by decide +kernel
theorem d_MOD_boot_56 : decode prog_8_method_5_code 56 = .ok (.istore_n 3, 1) := by decide +kernel
theorem d_MOD_boot_57 : decode prog_8_method_5_code 57 = .ok (.iconst 0, 1) := by decide +kernel
theorem d_MOD_boot_58 : decode prog_8_method_5_code 58 = .ok (.istore 4, 2) := by decide +kernel
theorem d_MOD_boot_60 : decode prog_8_method_5_code 60 = .ok (.iload 4, 2) := by decide +kernel
theorem d_MOD_boot_62 : decode prog_8_method_5_code 62 = .ok (.bipush 16, 2) := by decide +kernel
theorem d_MOD_boot_64 : decode prog_8_method_5_code 64 = .ok (.if_icmp .ge 47, 3) := by decide +kernel
theorem d_MOD_boot_67 : decode prog_8_method_5_code 67 = .ok (.bipush 16, 2) := by decide +kernel
theorem d_MOD_boot_69 : decode prog_8_method_5_code 69 = .ok (.iload_n 2, 1) := by decide +kernel
theorem d_MOD_boot_70 : decode prog_8_method_5_code 70 = .ok (.imul, 1) := by decide +kernel
theorem d_MOD_boot_71 : decode prog_8_method_5_code 71 = .ok (.iload 4, 2) := by decide +kernel
theorem d_MOD_boot_73 : decode prog_8_method_5_code 73 = .ok (.iadd, 1) := by decide +kernel
theorem d_MOD_boot_74 : decode prog_8_method_5_code 74 = .ok (.aload_n 0, 1) := by decide +kernel
theorem d_MOD_boot_75 : decode prog_8_method_5_code 75 = .ok (.getfield 66, 3) := by decide +kernel
theorem d_MOD_boot_78 : decode prog_8_method_5_code 78 = .ok (.if_icmp .ge 33, 3) := by decide +kernel
theorem d_MOD_boot_81 : decode prog_8_method_5_code 81 = .ok (.aload_n 0, 1) := by decide +kernel
theorem d_MOD_boot_82 : decode prog_8_method_5_code 82 = .ok (.getfield 7, 3) := by decide +kernel
theorem d_MOD_boot_85 : decode prog_8_method_5_code 85 = .ok (.bipush 16, 2) := by decide +kernel
theorem d_MOD_boot_87 : decode prog_8_method_5_code 87 = .ok (.iload_n 3, 1) := by decide +kernel
theorem d_MOD_boot_88 : decode prog_8_method_5_code 88 = .ok (.imul, 1) := by decide +kernel
theorem d_MOD_boot_89 : decode prog_8_method_5_code 89 = .ok (.iload 4, 2) := by decide +kernel
theorem d_MOD_boot_91 : decode prog_8_method_5_code 91 = .ok (.iadd, 1) := by decide +kernel
theorem d_MOD_boot_92 : decode prog_8_method_5_code 92 = .ok (.aload_n 0, 1) := by decide +kernel
theorem d_MOD_boot_93 : decode prog_8_method_5_code 93 = .ok (.getfield 16, 3) := by decide +kernel
theorem d_MOD_boot_96 : decode prog_8_method_5_code 96 = .ok (.bipush 16, 2) := by decide +kernel
theorem d_MOD_boot_98 : decode prog_8_method_5_code 98 = .ok (.iload_n 2, 1) := by decide +kernel
theorem d_MOD_boot_99 : decode prog_8_method_5_code 99 = .ok (.imul, 1) := by decide +kernel
theorem d_MOD_boot_100 : decode prog_8_method_5_code 100 = .ok (.iload 4, 2) := by decide +kernel
theorem d_MOD_boot_102 : decode prog_8_method_5_code 102 = .ok (.iadd, 1) := by decide +kernel
theorem d_MOD_boot_103 : decode prog_8_method_5_code 103 = .ok (.iaload, 1) := by decide +kernel
theorem d_MOD_boot_104 : decode prog_8_method_5_code 104 = .ok (.iastore, 1) := by decide +kernel
theorem d_MOD_boot_105 : decode prog_8_method_5_code 105 = .ok (.iinc 4 1, 3) := by decide +kernel
theorem d_MOD_boot_108 : decode prog_8_method_5_code 108 = .ok (.goto (-48), 3) := by decide +kernel
theorem d_MOD_boot_111 : decode prog_8_method_5_code 111 = .ok (.iinc 2 1, 3) := by decide +kernel
theorem d_MOD_boot_114 : decode prog_8_method_5_code 114 = .ok (.goto (-68), 3) := by decide +kernel
theorem d_MOD_boot_117 : decode prog_8_method_5_code 117 = .ok (.aload_n 0, 1) := by decide +kernel
theorem d_MOD_boot_118 : decode prog_8_method_5_code 118 = .ok (.getfield 34, 3) := by decide +kernel
theorem d_MOD_boot_121 : decode prog_8_method_5_code 121 = .ok (.bipush 34, 2) := by decide +kernel
theorem d_MOD_boot_123 : decode prog_8_method_5_code 123 = .ok (.bipush 64, 2) := by decide +kernel
theorem d_MOD_boot_125 : decode prog_8_method_5_code 125 = .ok (.iload_n 1, 1) := by decide +kernel
theorem d_MOD_boot_126 : decode prog_8_method_5_code 126 = .ok (.imul, 1) := by decide +kernel
theorem d_MOD_boot_127 : decode prog_8_method_5_code 127 = .ok (.iastore, 1) := by decide +kernel
theorem d_MOD_boot_128 : decode prog_8_method_5_code 128 = .ok (.aload_n 0, 1) := by decide +kernel
theorem d_MOD_boot_129 : decode prog_8_method_5_code 129 = .ok (.getfield 40, 3) := by decide +kernel
theorem d_MOD_boot_132 : decode prog_8_method_5_code 132 = .ok (.bipush 7, 2) := by decide +kernel
theorem d_MOD_boot_134 : decode prog_8_method_5_code 134 = .ok (.iconst 0, 1) := by decide +kernel
theorem d_MOD_boot_135 : decode prog_8_method_5_code 135 = .ok (.iastore, 1) := by decide +kernel
theorem d_MOD_boot_136 : decode prog_8_method_5_code 136 = .ok (.aload_n 0, 1) := by decide +kernel
theorem d_MOD_boot_137 : decode prog_8_method_5_code 137 = .ok (.iconst 1, 1) := by decide +kernel
theorem d_MOD_boot_138 : decode prog_8_method_5_code 138 = .ok (.invokevirtual 73, 3) := by decide +kernel
theorem d_MOD_boot_141 : decode prog_8_method_5_code 141 = .ok (.iconst 0, 1) := by decide +kernel
theorem d_MOD_boot_142 : decode prog_8_method_5_code 142 = .ok (.ireturn, 1) := by decide +kernel
end
section
theorem d_MOD_wake_0 : decode prog_8_method_6_code 0 = .ok (.aload_n 0, 1) := by decide +kernel
theorem d_MOD_wake_1 : decode prog_8_method_6_code 1 = .ok (.getfield 19, 3) := by decide +kernel
theorem d_MOD_wake_4 : decode prog_8_method_6_code 4 = .ok (.iload_n 1, 1) := by decide +kernel
theorem d_MOD_wake_5 : decode prog_8_method_6_code 5 = .ok (.iconst 1, 1) := by decide +kernel
theorem d_MOD_wake_6 : decode prog_8_method_6_code 6 = .ok (.iastore, 1) := by decide +kernel
theorem d_MOD_wake_7 : decode prog_8_method_6_code 7 = .ok (.aload_n 0, 1) := by decide +kernel
theorem d_MOD_wake_8 : decode prog_8_method_6_code 8 = .ok (.getfield 43, 3) := by decide +kernel
theorem d_MOD_wake_11 : decode prog_8_method_6_code 11 = .ok (.aload_n 0, 1) := by decide +kernel
theorem d_MOD_wake_12 : decode prog_8_method_6_code 12 = .ok (.getfield 77, 3) := by decide +kernel
theorem d_MOD_wake_15 : decode prog_8_method_6_code 15 = .ok (.iload_n 1, 1) := by decide +kernel
theorem d_MOD_wake_16 : decode prog_8_method_6_code 16 = .ok (.iastore, 1) := by decide +kernel
theorem d_MOD_wake_17 : decode prog_8_method_6_code 17 = .ok (.aload_n 0, 1) := by decide +kernel
theorem d_MOD_wake_18 : decode prog_8_method_6_code 18 = .ok (.dup, 1) := by decide +kernel
theorem d_MOD_wake_19 : decode prog_8_method_6_code 19 = .ok (.getfield 77, 3) := by decide +kernel
theorem d_MOD_wake_22 : decode prog_8_method_6_code 22 = .ok (.iconst 1, 1) := by decide +kernel
theorem d_MOD_wake_23 : decode prog_8_method_6_code 23 = .ok (.iadd, 1) := by decide +kernel
theorem d_MOD_wake_24 : decode prog_8_method_6_code 24 = .ok (.putfield 77, 3) := by decide +kernel
theorem d_MOD_wake_27 : decode prog_8_method_6_code 27 = .ok (.return_, 1) := by decide +kernel
theorem d_MOD_there_0 : decode prog_8_method_7_code 0 = .ok (.iload_n 2, 1) := by decide +kernel
theorem d_MOD_there_1 : decode prog_8_method_7_code 1 = .ok (.ifCond .lt 20, 3) := by decide +kernel
theorem d_MOD_there_4 : decode prog_8_method_7_code 4 = .ok (.iload_n 2, 1) := by decide +kernel
theorem d_MOD_there_5 : decode prog_8_method_7_code 5 = .ok (.bipush 64, 2) := by decide +kernel
theorem d_MOD_there_7 : decode prog_8_method_7_code 7 = .ok (.aload_n 0, 1) := by decide +kernel
theorem d_MOD_there_8 : decode prog_8_method_7_code 8 = .ok (.getfield 31, 3) := by decide +kernel
theorem d_MOD_there_11 : decode prog_8_method_7_code 11 = .ok (.iload_n 1, 1) := by decide +kernel
theorem d_MOD_there_12 : decode prog_8_method_7_code 12 = .ok (.iaload, 1) := by decide +kernel
theorem d_MOD_there_13 : decode prog_8_method_7_code 13 = .ok (.imul, 1) := by decide +kernel
theorem d_MOD_there_14 : decode prog_8_method_7_code 14 = .ok (.if_icmp .ge 7, 3) := by decide +kernel
theorem d_MOD_there_17 : decode prog_8_method_7_code 17 = .ok (.iconst 1, 1) := by decide +kernel
theorem d_MOD_there_18 : decode prog_8_method_7_code 18 = .ok (.goto 4, 3) := by decide +kernel
theorem d_MOD_there_21 : decode prog_8_method_7_code 21 = .ok (.iconst 0, 1) := by decide +kernel
theorem d_MOD_there_22 : decode prog_8_method_7_code 22 = .ok (.ireturn, 1) := by decide +kernel
theorem d_MOD_cellOf_0 : decode prog_8_method_8_code 0 = .ok (.bipush 16, 2) := by decide +kernel
theorem d_MOD_cellOf_2 : decode prog_8_method_8_code 2 = .ok (.aload_n 0, 1) := by decide +kernel
theorem d_MOD_cellOf_3 : decode prog_8_method_8_code 3 = .ok (.getfield 37, 3) := by decide +kernel
theorem d_MOD_cellOf_6 : decode prog_8_method_8_code 6 = .ok (.bipush 8, 2) := by decide +kernel
theorem d_MOD_cellOf_8 : decode prog_8_method_8_code 8 = .ok (.iload_n 1, 1) := by decide +kernel
theorem d_MOD_cellOf_9 : decode prog_8_method_8_code 9 = .ok (.imul, 1) := by decide +kernel
theorem d_MOD_cellOf_10 : decode prog_8_method_8_code 10 = .ok (.iload_n 2, 1) := by decide +kernel
theorem d_MOD_cellOf_11 : decode prog_8_method_8_code 11 = .ok (.bipush 64, 2) := by decide +kernel
theorem d_MOD_cellOf_13 : decode prog_8_method_8_code 13 = .ok (.idiv, 1) := by decide +kernel
theorem d_MOD_cellOf_14 : decode prog_8_method_8_code 14 = .ok (.iadd, 1) := by decide +kernel
theorem d_MOD_cellOf_15 : decode prog_8_method_8_code 15 = .ok (.iaload, 1) := by decide +kernel
theorem d_MOD_cellOf_16 : decode prog_8_method_8_code 16 = .ok (.imul, 1) := by decide +kernel
theorem d_MOD_cellOf_17 : decode prog_8_method_8_code 17 = .ok (.iload_n 2, 1) := by decide +kernel
theorem d_MOD_cellOf_18 : decode prog_8_method_8_code 18 = .ok (.bipush 64, 2) := by decide +kernel
theorem d_MOD_cellOf_20 : decode prog_8_method_8_code 20 = .ok (.irem, 1) := by decide +kernel
theorem d_MOD_cellOf_21 : decode prog_8_method_8_code 21 = .ok (.iconst 4, 1) := by decide +kernel
theorem d_MOD_cellOf_22 : decode prog_8_method_8_code 22 = .ok (.idiv, 1) := by decide +kernel
theorem d_MOD_cellOf_23 : decode prog_8_method_8_code 23 = .ok (.iadd, 1) := by decide +kernel
theorem d_MOD_cellOf_24 : decode prog_8_method_8_code 24 = .ok (.ireturn, 1) := by decide +kernel
theorem d_MOD_byteAt_0 : decode prog_8_method_9_code 0 = .ok (.aload_n 0, 1) := by decide +kernel
theorem d_MOD_byteAt_1 : decode prog_8_method_9_code 1 = .ok (.getfield 7, 3) := by decide +kernel
theorem d_MOD_byteAt_4 : decode prog_8_method_9_code 4 = .ok (.aload_n 0, 1) := by decide +kernel
theorem d_MOD_byteAt_5 : decode prog_8_method_9_code 5 = .ok (.iload_n 1, 1) := by decide +kernel
theorem d_MOD_byteAt_6 : decode prog_8_method_9_code 6 = .ok (.iload_n 2, 1) := by decide +kernel
theorem d_MOD_byteAt_7 : decode prog_8_method_9_code 7 = .ok (.invokevirtual 80, 3) := by decide +kernel
theorem d_MOD_byteAt_10 : decode prog_8_method_9_code 10 = .ok (.iaload, 1) := by decide +kernel
theorem d_MOD_byteAt_11 : decode prog_8_method_9_code 11 = .ok (.bipush 8, 2) := by decide +kernel
theorem d_MOD_byteAt_13 : decode prog_8_method_9_code 13 = .ok (.iload_n 2, 1) := by decide +kernel
theorem d_MOD_byteAt_14 : decode prog_8_method_9_code 14 = .ok (.iconst 4, 1) := by decide +kernel
theorem d_MOD_byteAt_15 : decode prog_8_method_9_code 15 = .ok (.irem, 1) := by decide +kernel
theorem d_MOD_byteAt_16 : decode prog_8_method_9_code 16 = .ok (.imul, 1) := by decide +kernel
theorem d_MOD_byteAt_17 : decode prog_8_method_9_code 17 = .ok (.ishr, 1) := by decide +kernel
theorem d_MOD_byteAt_18 : decode prog_8_method_9_code 18 = .ok (.sipush 255, 3) := by decide +kernel
theorem d_MOD_byteAt_21 : decode prog_8_method_9_code 21 = .ok (.iand, 1) := by decide +kernel
theorem d_MOD_byteAt_22 : decode prog_8_method_9_code 22 = .ok (.ireturn, 1) := by decide +kernel
theorem d_MOD_putByte_0 : decode prog_8_method_10_code 0 = .ok (.aload_n 0, 1) := by decide +kernel
theorem d_MOD_putByte_1 : decode prog_8_method_10_code 1 = .ok (.iload_n 1, 1) := by decide +kernel
theorem d_MOD_putByte_2 : decode prog_8_method_10_code 2 = .ok (.iload_n 2, 1) := by decide +kernel
theorem d_MOD_putByte_3 : decode prog_8_method_10_code 3 = .ok (.invokevirtual 80, 3) := by decide +kernel
theorem d_MOD_putByte_6 : decode prog_8_method_10_code 6 = .ok (.istore 4, 2) := by decide +kernel
theorem d_MOD_putByte_8 : decode prog_8_method_10_code 8 = .ok (.bipush 8, 2) := by decide +kernel
theorem d_MOD_putByte_10 : decode prog_8_method_10_code 10 = .ok (.iload_n 2, 1) := by decide +kernel
theorem d_MOD_putByte_11 : decode prog_8_method_10_code 11 = .ok (.iconst 4, 1) := by decide +kernel
theorem d_MOD_putByte_12 : decode prog_8_method_10_code 12 = .ok (.irem, 1) := by decide +kernel
theorem d_MOD_putByte_13 : decode prog_8_method_10_code 13 = .ok (.imul, 1) := by decide +kernel
theorem d_MOD_putByte_14 : decode prog_8_method_10_code 14 = .ok (.istore 5, 2) := by decide +kernel
theorem d_MOD_putByte_16 : decode prog_8_method_10_code 16 = .ok (.aload_n 0, 1) := by decide +kernel
theorem d_MOD_putByte_17 : decode prog_8_method_10_code 17 = .ok (.getfield 7, 3) := by decide +kernel
theorem d_MOD_putByte_20 : decode prog_8_method_10_code 20 = .ok (.iload 4, 2) := by decide +kernel
theorem d_MOD_putByte_22 : decode prog_8_method_10_code 22 = .ok (.aload_n 0, 1) := by decide +kernel
theorem d_MOD_putByte_23 : decode prog_8_method_10_code 23 = .ok (.getfield 7, 3) := by decide +kernel
theorem d_MOD_putByte_26 : decode prog_8_method_10_code 26 = .ok (.iload 4, 2) := by decide +kernel
theorem d_MOD_putByte_28 : decode prog_8_method_10_code 28 = .ok (.iaload, 1) := by decide +kernel
theorem d_MOD_putByte_29 : decode prog_8_method_10_code 29 = .ok (.sipush 255, 3) := by decide +kernel
theorem d_MOD_putByte_32 : decode prog_8_method_10_code 32 = .ok (.iload 5, 2) := by decide +kernel
theorem d_MOD_putByte_34 : decode prog_8_method_10_code 34 = .ok (.ishl, 1) := by decide +kernel
theorem d_MOD_putByte_35 : decode prog_8_method_10_code 35 = .ok (.iconst (-1), 1) := by decide +kernel
theorem d_MOD_putByte_36 : decode prog_8_method_10_code 36 = .ok (.ixor, 1) := by decide +kernel
theorem d_MOD_putByte_37 : decode prog_8_method_10_code 37 = .ok (.iand, 1) := by decide +kernel
theorem d_MOD_putByte_38 : decode prog_8_method_10_code 38 = .ok (.iload_n 3, 1) := by decide +kernel
theorem d_MOD_putByte_39 : decode prog_8_method_10_code 39 = .ok (.sipush 255, 3) := by decide +kernel
theorem d_MOD_putByte_42 : decode prog_8_method_10_code 42 = .ok (.iand, 1) := by decide +kernel
theorem d_MOD_putByte_43 : decode prog_8_method_10_code 43 = .ok (.iload 5, 2) := by decide +kernel
theorem d_MOD_putByte_45 : decode prog_8_method_10_code 45 = .ok (.ishl, 1) := by decide +kernel
theorem d_MOD_putByte_46 : decode prog_8_method_10_code 46 = .ok (.ior, 1) := by decide +kernel
theorem d_MOD_putByte_47 : decode prog_8_method_10_code 47 = .ok (.iastore, 1) := by decide +kernel
theorem d_MOD_putByte_48 : decode prog_8_method_10_code 48 = .ok (.return_, 1) := by decide +kernel
theorem d_MOD_isHeld_0 : decode prog_8_method_11_code 0 = .ok (.iconst 0, 1) := by decide +kernel
theorem d_MOD_isHeld_1 : decode prog_8_method_11_code 1 = .ok (.istore_n 2, 1) := by decide +kernel
theorem d_MOD_isHeld_2 : decode prog_8_method_11_code 2 = .ok (.bipush 6, 2) := by decide +kernel
theorem d_MOD_isHeld_4 : decode prog_8_method_11_code 4 = .ok (.istore_n 3, 1) := by decide +kernel
theorem d_MOD_isHeld_5 : decode prog_8_method_11_code 5 = .ok (.iload_n 3, 1) := by decide +kernel
theorem d_MOD_isHeld_6 : decode prog_8_method_11_code 6 = .ok (.bipush 54, 2) := by decide +kernel
theorem d_MOD_isHeld_8 : decode prog_8_method_11_code 8 = .ok (.if_icmp .ge 29, 3) := by decide +kernel
theorem d_MOD_isHeld_11 : decode prog_8_method_11_code 11 = .ok (.iload_n 2, 1) := by decide +kernel
theorem d_MOD_isHeld_12 : decode prog_8_method_11_code 12 = .ok (.ifCond .ne 13, 3) := by decide +kernel
theorem d_MOD_isHeld_15 : decode prog_8_method_11_code 15 = .ok (.aload_n 0, 1) := by decide +kernel
theorem d_MOD_isHeld_16 : decode prog_8_method_11_code 16 = .ok (.getfield 40, 3) := by decide +kernel
theorem d_MOD_isHeld_19 : decode prog_8_method_11_code 19 = .ok (.iload_n 3, 1) := by decide +kernel
theorem d_MOD_isHeld_20 : decode prog_8_method_11_code 20 = .ok (.iaload, 1) := by decide +kernel
theorem d_MOD_isHeld_21 : decode prog_8_method_11_code 21 = .ok (.iload_n 1, 1) := by decide +kernel
theorem d_MOD_isHeld_22 : decode prog_8_method_11_code 22 = .ok (.if_icmp .ne 7, 3) := by decide +kernel
theorem d_MOD_isHeld_25 : decode prog_8_method_11_code 25 = .ok (.iconst 1, 1) := by decide +kernel
theorem d_MOD_isHeld_26 : decode prog_8_method_11_code 26 = .ok (.goto 4, 3) := by decide +kernel
theorem d_MOD_isHeld_29 : decode prog_8_method_11_code 29 = .ok (.iconst 0, 1) := by decide +kernel
theorem d_MOD_isHeld_30 : decode prog_8_method_11_code 30 = .ok (.istore_n 2, 1) := by decide +kernel
theorem d_MOD_isHeld_31 : decode prog_8_method_11_code 31 = .ok (.iinc 3 1, 3) := by decide +kernel
theorem d_MOD_isHeld_34 : decode prog_8_method_11_code 34 = .ok (.goto (-29), 3) := by decide +kernel
theorem d_MOD_isHeld_37 : decode prog_8_method_11_code 37 = .ok (.iload_n 2, 1) := by decide +kernel
theorem d_MOD_isHeld_38 : decode prog_8_method_11_code 38 = .ok (.ireturn, 1) := by decide +kernel
theorem d_MOD_tidyPipes_0 : decode prog_8_method_12_code 0 = .ok (.iconst 0, 1) := by decide +kernel
theorem d_MOD_tidyPipes_1 : decode prog_8_method_12_code 1 = .ok (.istore_n 1, 1) := by decide +kernel
theorem d_MOD_tidyPipes_2 : decode prog_8_method_12_code 2 = .ok (.iload_n 1, 1) := by decide +kernel
theorem d_MOD_tidyPipes_3 : decode prog_8_method_12_code 3 = .ok (.iconst 4, 1) := by decide +kernel
theorem d_MOD_tidyPipes_4 : decode prog_8_method_12_code 4 = .ok (.if_icmp .ge 40, 3) := by decide +kernel
theorem d_MOD_tidyPipes_7 : decode prog_8_method_12_code 7 = .ok (.aload_n 0, 1) := by decide +kernel
theorem d_MOD_tidyPipes_8 : decode prog_8_method_12_code 8 = .ok (.iconst 1, 1) := by decide +kernel
theorem d_MOD_tidyPipes_9 : decode prog_8_method_12_code 9 = .ok (.iconst 2, 1) := by decide +kernel
theorem d_MOD_tidyPipes_10 : decode prog_8_method_12_code 10 = .ok (.iload_n 1, 1) := by decide +kernel
theorem d_MOD_tidyPipes_11 : decode prog_8_method_12_code 11 = .ok (.imul, 1) := by decide +kernel
theorem d_MOD_tidyPipes_12 : decode prog_8_method_12_code 12 = .ok (.iadd, 1) := by decide +kernel
theorem d_MOD_tidyPipes_13 : decode prog_8_method_12_code 13 = .ok (.invokevirtual 84, 3) := by decide +kernel
theorem d_MOD_tidyPipes_16 : decode prog_8_method_12_code 16 = .ok (.ifCond .ne 22, 3) := by decide +kernel
theorem d_MOD_tidyPipes_19 : decode prog_8_method_12_code 19 = .ok (.aload_n 0, 1) := by decide +kernel
theorem d_MOD_tidyPipes_20 : decode prog_8_method_12_code 20 = .ok (.iconst 2, 1) := by decide +kernel
theorem d_MOD_tidyPipes_21 : decode prog_8_method_12_code 21 = .ok (.iconst 2, 1) := by decide +kernel
theorem d_MOD_tidyPipes_22 : decode prog_8_method_12_code 22 = .ok (.iload_n 1, 1) := by decide +kernel
theorem d_MOD_tidyPipes_23 : decode prog_8_method_12_code 23 = .ok (.imul, 1) := by decide +kernel
theorem d_MOD_tidyPipes_24 : decode prog_8_method_12_code 24 = .ok (.iadd, 1) := by decide +kernel
theorem d_MOD_tidyPipes_25 : decode prog_8_method_12_code 25 = .ok (.invokevirtual 84, 3) := by decide +kernel
theorem d_MOD_tidyPipes_28 : decode prog_8_method_12_code 28 = .ok (.ifCond .ne 10, 3) := by decide +kernel
theorem d_MOD_tidyPipes_31 : decode prog_8_method_12_code 31 = .ok (.aload_n 0, 1) := by decide +kernel
theorem d_MOD_tidyPipes_32 : decode prog_8_method_12_code 32 = .ok (.getfield 49, 3) := by decide +kernel
theorem d_MOD_tidyPipes_35 : decode prog_8_method_12_code 35 = .ok (.iload_n 1, 1) := by decide +kernel
theorem d_MOD_tidyPipes_36 : decode prog_8_method_12_code 36 = .ok (.iconst 0, 1) := by decide +kernel
theorem d_MOD_tidyPipes_37 : decode prog_8_method_12_code 37 = .ok (.iastore, 1) := by decide +kernel
theorem d_MOD_tidyPipes_38 : decode prog_8_method_12_code 38 = .ok (.iinc 1 1, 3) := by decide +kernel
theorem d_MOD_tidyPipes_41 : decode prog_8_method_12_code 41 = .ok (.goto (-39), 3) := by decide +kernel
theorem d_MOD_tidyPipes_44 : decode prog_8_method_12_code 44 = .ok (.return_, 1) := by decide +kernel
theorem d_MOD_descriptorOf_0 : decode prog_8_method_13_code 0 = .ok (.iload_n 2, 1) := by decide +kernel
theorem d_MOD_descriptorOf_1 : decode prog_8_method_13_code 1 = .ok (.ifCond .lt 23, 3) := by decide +kernel
theorem d_MOD_descriptorOf_4 : decode prog_8_method_13_code 4 = .ok (.iload_n 2, 1) := by decide +kernel
theorem d_MOD_descriptorOf_5 : decode prog_8_method_13_code 5 = .ok (.bipush 6, 2) := by decide +kernel
theorem d_MOD_descriptorOf_7 : decode prog_8_method_13_code 7 = .ok (.if_icmp .ge 17, 3) := by decide +kernel
theorem d_MOD_descriptorOf_10 : decode prog_8_method_13_code 10 = .ok (.aload_n 0, 1) := by decide +kernel
theorem d_MOD_descriptorOf_11 : decode prog_8_method_13_code 11 = .ok (.getfield 40, 3) := by decide +kernel
theorem d_MOD_descriptorOf_14 : decode prog_8_method_13_code 14 = .ok (.bipush 6, 2) := by decide +kernel
theorem d_MOD_descriptorOf_16 : decode prog_8_method_13_code 16 = .ok (.iload_n 1, 1) := by decide +kernel
theorem d_MOD_descriptorOf_17 : decode prog_8_method_13_code 17 = .ok (.imul, 1) := by decide +kernel
theorem d_MOD_descriptorOf_18 : decode prog_8_method_13_code 18 = .ok (.iload_n 2, 1) := by decide +kernel
theorem d_MOD_descriptorOf_19 : decode prog_8_method_13_code 19 = .ok (.iadd, 1) := by decide +kernel
theorem d_MOD_descriptorOf_20 : decode prog_8_method_13_code 20 = .ok (.iaload, 1) := by decide +kernel
theorem d_MOD_descriptorOf_21 : decode prog_8_method_13_code 21 = .ok (.goto 4, 3) := by decide +kernel
theorem d_MOD_descriptorOf_24 : decode prog_8_method_13_code 24 = .ok (.iconst (-1), 1) := by decide +kernel
theorem d_MOD_descriptorOf_25 : decode prog_8_method_13_code 25 = .ok (.ireturn, 1) := by decide +kernel
theorem d_MOD_freeDescriptor_0 : decode prog_8_method_14_code 0 = .ok (.iconst 0, 1) := by decide +kernel
theorem d_MOD_freeDescriptor_1 : decode prog_8_method_14_code 1 = .ok (.istore_n 2, 1) := by decide +kernel
theorem d_MOD_freeDescriptor_2 : decode prog_8_method_14_code 2 = .ok (.iload_n 2, 1) := by decide +kernel
theorem d_MOD_freeDescriptor_3 : decode prog_8_method_14_code 3 = .ok (.bipush 6, 2) := by decide +kernel
theorem d_MOD_freeDescriptor_5 : decode prog_8_method_14_code 5 = .ok (.if_icmp .ge 23, 3) := by decide +kernel
theorem d_MOD_freeDescriptor_8 : decode prog_8_method_14_code 8 = .ok (.aload_n 0, 1) := by decide +kernel
theorem d_MOD_freeDescriptor_9 : decode prog_8_method_14_code 9 = .ok (.getfield 40, 3) := by decide +kernel
theorem d_MOD_freeDescriptor_12 : decode prog_8_method_14_code 12 = .ok (.bipush 6, 2) := by decide +kernel
theorem d_MOD_freeDescriptor_14 : decode prog_8_method_14_code 14 = .ok (.iload_n 1, 1) := by decide +kernel
theorem d_MOD_freeDescriptor_15 : decode prog_8_method_14_code 15 = .ok (.imul, 1) := by decide +kernel
theorem d_MOD_freeDescriptor_16 : decode prog_8_method_14_code 16 = .ok (.iload_n 2, 1) := by decide +kernel
theorem d_MOD_freeDescriptor_17 : decode prog_8_method_14_code 17 = .ok (.iadd, 1) := by decide +kernel
theorem d_MOD_freeDescriptor_18 : decode prog_8_method_14_code 18 = .ok (.iaload, 1) := by decide +kernel
theorem d_MOD_freeDescriptor_19 : decode prog_8_method_14_code 19 = .ok (.ifCond .lt 9, 3) := by decide +kernel
theorem d_MOD_freeDescriptor_22 : decode prog_8_method_14_code 22 = .ok (.iinc 2 1, 3) := by decide +kernel
theorem d_MOD_freeDescriptor_25 : decode prog_8_method_14_code 25 = .ok (.goto (-23), 3) := by decide +kernel
theorem d_MOD_freeDescriptor_28 : decode prog_8_method_14_code 28 = .ok (.iload_n 2, 1) := by decide +kernel
theorem d_MOD_freeDescriptor_29 : decode prog_8_method_14_code 29 = .ok (.bipush 6, 2) := by decide +kernel
theorem d_MOD_freeDescriptor_31 : decode prog_8_method_14_code 31 = .ok (.if_icmp .ge 7, 3) := by decide +kernel
theorem d_MOD_freeDescriptor_34 : decode prog_8_method_14_code 34 = .ok (.iload_n 2, 1) := by decide +kernel
theorem d_MOD_freeDescriptor_35 : decode prog_8_method_14_code 35 = .ok (.goto 4, 3) := by decide +kernel
theorem d_MOD_freeDescriptor_38 : decode prog_8_method_14_code 38 = .ok (.iconst (-1), 1) := by decide +kernel
theorem d_MOD_freeDescriptor_39 : decode prog_8_method_14_code 39 = .ok (.ireturn, 1) := by decide +kernel
theorem d_MOD_end_0 : decode prog_8_method_15_code 0 = .ok (.aload_n 0, 1) := by decide +kernel
theorem d_MOD_end_1 : decode prog_8_method_15_code 1 = .ok (.getfield 19, 3) := by decide +kernel
theorem d_MOD_end_4 : decode prog_8_method_15_code 4 = .ok (.iload_n 1, 1) := by decide +kernel
theorem d_MOD_end_5 : decode prog_8_method_15_code 5 = .ok (.iconst 5, 1) := by decide +kernel
theorem d_MOD_end_6 : decode prog_8_method_15_code 6 = .ok (.iastore, 1) := by decide +kernel
theorem d_MOD_end_7 : decode prog_8_method_15_code 7 = .ok (.aload_n 0, 1) := by decide +kernel
theorem d_MOD_end_8 : decode prog_8_method_15_code 8 = .ok (.getfield 22, 3) := by decide +kernel
theorem d_MOD_end_11 : decode prog_8_method_15_code 11 = .ok (.iload_n 1, 1) := by decide +kernel
theorem d_MOD_end_12 : decode prog_8_method_15_code 12 = .ok (.iload_n 2, 1) := by decide +kernel
theorem d_MOD_end_13 : decode prog_8_method_15_code 13 = .ok (.iastore, 1) := by decide +kernel
theorem d_MOD_end_14 : decode prog_8_method_15_code 14 = .ok (.aload_n 0, 1) := by decide +kernel
theorem d_MOD_end_15 : decode prog_8_method_15_code 15 = .ok (.getfield 31, 3) := by decide +kernel
theorem d_MOD_end_18 : decode prog_8_method_15_code 18 = .ok (.iload_n 1, 1) := by decide +kernel
theorem d_MOD_end_19 : decode prog_8_method_15_code 19 = .ok (.iconst 0, 1) := by decide +kernel
theorem d_MOD_end_20 : decode prog_8_method_15_code 20 = .ok (.iastore, 1) := by decide +kernel
theorem d_MOD_end_21 : decode prog_8_method_15_code 21 = .ok (.iconst 0, 1) := by decide +kernel
theorem d_MOD_end_22 : decode prog_8_method_15_code 22 = .ok (.istore_n 3, 1) := by decide +kernel
theorem d_MOD_end_23 : decode prog_8_method_15_code 23 = .ok (.iload_n 3, 1) := by decide +kernel
theorem d_MOD_end_24 : decode prog_8_method_15_code 24 = .ok (.bipush 40, 2) := by decide +kernel
theorem d_MOD_end_26 : decode prog_8_method_15_code 26 = .ok (.if_icmp .ge 35, 3) := by decide +kernel
theorem d_MOD_end_29 : decode prog_8_method_15_code 29 = .ok (.aload_n 0, 1) := by decide +kernel
theorem d_MOD_end_30 : decode prog_8_method_15_code 30 = .ok (.getfield 13, 3) := by decide +kernel
theorem d_MOD_end_33 : decode prog_8_method_15_code 33 = .ok (.iload_n 3, 1) := by decide +kernel
theorem d_MOD_end_34 : decode prog_8_method_15_code 34 = .ok (.aload_n 0, 1) := by decide +kernel
theorem d_MOD_end_35 : decode prog_8_method_15_code 35 = .ok (.getfield 13, 3) := by decide +kernel
theorem d_MOD_end_38 : decode prog_8_method_15_code 38 = .ok (.iload_n 3, 1) := by decide +kernel
theorem d_MOD_end_39 : decode prog_8_method_15_code 39 = .ok (.iaload, 1) := by decide +kernel
theorem d_MOD_end_40 : decode prog_8_method_15_code 40 = .ok (.iload_n 1, 1) := by decide +kernel
theorem d_MOD_end_41 : decode prog_8_method_15_code 41 = .ok (.if_icmp .ne 7, 3) := by decide +kernel
theorem d_MOD_end_44 : decode prog_8_method_15_code 44 = .ok (.iconst 0, 1) := by decide +kernel
theorem d_MOD_end_45 : decode prog_8_method_15_code 45 = .ok (.goto 9, 3) := by decide +kernel
theorem d_MOD_end_48 : decode prog_8_method_15_code 48 = .ok (.aload_n 0, 1) := by decide +kernel
theorem d_MOD_end_49 : decode prog_8_method_15_code 49 = .ok (.getfield 13, 3) := by decide +kernel
theorem d_MOD_end_52 : decode prog_8_method_15_code 52 = .ok (.iload_n 3, 1) := by decide +kernel
theorem d_MOD_end_53 : decode prog_8_method_15_code 53 = .ok (.iaload, 1) := by decide +kernel
theorem d_MOD_end_54 : decode prog_8_method_15_code 54 = .ok (.iastore, 1) := by decide +kernel
theorem d_MOD_end_55 : decode prog_8_method_15_code 55 = .ok (.iinc 3 1, 3) := by decide +kernel
theorem d_MOD_end_58 : decode prog_8_method_15_code 58 = .ok (.goto (-35), 3) := by decide +kernel
theorem d_MOD_end_61 : decode prog_8_method_15_code 61 = .ok (.iconst 0, 1) := by decide +kernel
theorem d_MOD_end_62 : decode prog_8_method_15_code 62 = .ok (.istore_n 3, 1) := by decide +kernel
theorem d_MOD_end_63 : decode prog_8_method_15_code 63 = .ok (.iload_n 3, 1) := by decide +kernel
theorem d_MOD_end_64 : decode prog_8_method_15_code 64 = .ok (.bipush 6, 2) := by decide +kernel
theorem d_MOD_end_66 : decode prog_8_method_15_code 66 = .ok (.if_icmp .ge 21, 3) := by decide +kernel
theorem d_MOD_end_69 : decode prog_8_method_15_code 69 = .ok (.aload_n 0, 1) := by decide +kernel
theorem d_MOD_end_70 : decode prog_8_method_15_code 70 = .ok (.getfield 40, 3) := by decide +kernel
theorem d_MOD_end_73 : decode prog_8_method_15_code 73 = .ok (.bipush 6, 2) := by decide +kernel
theorem d_MOD_end_75 : decode prog_8_method_15_code 75 = .ok (.iload_n 1, 1) := by decide +kernel
theorem d_MOD_end_76 : decode prog_8_method_15_code 76 = .ok (.imul, 1) := by decide +kernel
theorem d_MOD_end_77 : decode prog_8_method_15_code 77 = .ok (.iload_n 3, 1) := by decide +kernel
theorem d_MOD_end_78 : decode prog_8_method_15_code 78 = .ok (.iadd, 1) := by decide +kernel
theorem d_MOD_end_79 : decode prog_8_method_15_code 79 = .ok (.iconst (-1), 1) := by decide +kernel
theorem d_MOD_end_80 : decode prog_8_method_15_code 80 = .ok (.iastore, 1) := by decide +kernel
theorem d_MOD_end_81 : decode prog_8_method_15_code 81 = .ok (.iinc 3 1, 3) := by decide +kernel
theorem d_MOD_end_84 : decode prog_8_method_15_code 84 = .ok (.goto (-21), 3) := by decide +kernel
theorem d_MOD_end_87 : decode prog_8_method_15_code 87 = .ok (.aload_n 0, 1) := by decide +kernel
theorem d_MOD_end_88 : decode prog_8_method_15_code 88 = .ok (.invokevirtual 88, 3) := by decide +kernel
theorem d_MOD_end_91 : decode prog_8_method_15_code 91 = .ok (.aload_n 0, 1) := by decide +kernel
theorem d_MOD_end_92 : decode prog_8_method_15_code 92 = .ok (.iload_n 1, 1) := by decide +kernel
theorem d_MOD_end_93 : decode prog_8_method_15_code 93 = .ok (.invokevirtual 91, 3) := by decide +kernel
theorem d_MOD_end_96 : decode prog_8_method_15_code 96 = .ok (.aload_n 0, 1) := by decide +kernel
theorem d_MOD_end_97 : decode prog_8_method_15_code 97 = .ok (.getfield 19, 3) := by decide +kernel
theorem d_MOD_end_100 : decode prog_8_method_15_code 100 = .ok (.iconst 1, 1) := by decide +kernel
theorem d_MOD_end_101 : decode prog_8_method_15_code 101 = .ok (.iaload, 1) := by decide +kernel
theorem d_MOD_end_102 : decode prog_8_method_15_code 102 = .ok (.iconst 5, 1) := by decide +kernel
theorem d_MOD_end_103 : decode prog_8_method_15_code 103 = .ok (.if_icmp .ne 7, 3) := by decide +kernel
theorem d_MOD_end_106 : decode prog_8_method_15_code 106 = .ok (.iconst 0, 1) := by decide +kernel
theorem d_MOD_end_107 : decode prog_8_method_15_code 107 = .ok (.goto 4, 3) := by decide +kernel
theorem d_MOD_end_110 : decode prog_8_method_15_code 110 = .ok (.iconst 1, 1) := by decide +kernel
theorem d_MOD_end_111 : decode prog_8_method_15_code 111 = .ok (.istore_n 3, 1) := by decide +kernel
theorem d_MOD_end_112 : decode prog_8_method_15_code 112 = .ok (.iconst 1, 1) := by decide +kernel
theorem d_MOD_end_113 : decode prog_8_method_15_code 113 = .ok (.istore 4, 2) := by decide +kernel
theorem d_MOD_end_115 : decode prog_8_method_15_code 115 = .ok (.iload 4, 2) := by decide +kernel
theorem d_MOD_end_117 : decode prog_8_method_15_code 117 = .ok (.bipush 8, 2) := by decide +kernel
theorem d_MOD_end_119 : decode prog_8_method_15_code 119 = .ok (.if_icmp .gt 59, 3) := by decide +kernel
theorem d_MOD_end_122 : decode prog_8_method_15_code 122 = .ok (.aload_n 0, 1) := by decide +kernel
theorem d_MOD_end_123 : decode prog_8_method_15_code 123 = .ok (.getfield 19, 3) := by decide +kernel
theorem d_MOD_end_126 : decode prog_8_method_15_code 126 = .ok (.iload 4, 2) := by decide +kernel
theorem d_MOD_end_128 : decode prog_8_method_15_code 128 = .ok (.iaload, 1) := by decide +kernel
theorem d_MOD_end_129 : decode prog_8_method_15_code 129 = .ok (.ifCond .le 43, 3) := by decide +kernel
theorem d_MOD_end_132 : decode prog_8_method_15_code 132 = .ok (.aload_n 0, 1) := by decide +kernel
theorem d_MOD_end_133 : decode prog_8_method_15_code 133 = .ok (.getfield 25, 3) := by decide +kernel
theorem d_MOD_end_136 : decode prog_8_method_15_code 136 = .ok (.iload 4, 2) := by decide +kernel
theorem d_MOD_end_138 : decode prog_8_method_15_code 138 = .ok (.iaload, 1) := by decide +kernel
theorem d_MOD_end_139 : decode prog_8_method_15_code 139 = .ok (.iload_n 1, 1) := by decide +kernel
theorem d_MOD_end_140 : decode prog_8_method_15_code 140 = .ok (.if_icmp .ne 32, 3) := by decide +kernel
theorem d_MOD_end_143 : decode prog_8_method_15_code 143 = .ok (.aload_n 0, 1) := by decide +kernel
theorem d_MOD_end_144 : decode prog_8_method_15_code 144 = .ok (.getfield 25, 3) := by decide +kernel
theorem d_MOD_end_147 : decode prog_8_method_15_code 147 = .ok (.iload 4, 2) := by decide +kernel
theorem d_MOD_end_149 : decode prog_8_method_15_code 149 = .ok (.iload_n 3, 1) := by decide +kernel
theorem d_MOD_end_150 : decode prog_8_method_15_code 150 = .ok (.iastore, 1) := by decide +kernel
theorem d_MOD_end_151 : decode prog_8_method_15_code 151 = .ok (.iload_n 3, 1) := by decide +kernel
theorem d_MOD_end_152 : decode prog_8_method_15_code 152 = .ok (.ifCond .ne 20, 3) := by decide +kernel
theorem d_MOD_end_155 : decode prog_8_method_15_code 155 = .ok (.aload_n 0, 1) := by decide +kernel
theorem d_MOD_end_156 : decode prog_8_method_15_code 156 = .ok (.getfield 19, 3) := by decide +kernel
theorem d_MOD_end_159 : decode prog_8_method_15_code 159 = .ok (.iload 4, 2) := by decide +kernel
theorem d_MOD_end_161 : decode prog_8_method_15_code 161 = .ok (.iaload, 1) := by decide +kernel
theorem d_MOD_end_162 : decode prog_8_method_15_code 162 = .ok (.iconst 5, 1) := by decide +kernel
theorem d_MOD_end_163 : decode prog_8_method_15_code 163 = .ok (.if_icmp .ne 9, 3) := by decide +kernel
theorem d_MOD_end_166 : decode prog_8_method_15_code 166 = .ok (.aload_n 0, 1) := by decide +kernel
theorem d_MOD_end_167 : decode prog_8_method_15_code 167 = .ok (.iload 4, 2) := by decide +kernel
theorem d_MOD_end_169 : decode prog_8_method_15_code 169 = .ok (.invokevirtual 94, 3) := by decide +kernel
theorem d_MOD_end_172 : decode prog_8_method_15_code 172 = .ok (.iinc 4 1, 3) := by decide +kernel
theorem d_MOD_end_175 : decode prog_8_method_15_code 175 = .ok (.goto (-60), 3) := by decide +kernel
theorem d_MOD_end_178 : decode prog_8_method_15_code 178 = .ok (.aload_n 0, 1) := by decide +kernel
theorem d_MOD_end_179 : decode prog_8_method_15_code 179 = .ok (.getfield 25, 3) := by decide +kernel
theorem d_MOD_end_182 : decode prog_8_method_15_code 182 = .ok (.iload_n 1, 1) := by decide +kernel
theorem d_MOD_end_183 : decode prog_8_method_15_code 183 = .ok (.iaload, 1) := by decide +kernel
theorem d_MOD_end_184 : decode prog_8_method_15_code 184 = .ok (.ifCond .ne 13, 3) := by decide +kernel
theorem d_MOD_end_187 : decode prog_8_method_15_code 187 = .ok (.iload_n 1, 1) := by decide +kernel
theorem d_MOD_end_188 : decode prog_8_method_15_code 188 = .ok (.iconst 1, 1) := by decide +kernel
theorem d_MOD_end_189 : decode prog_8_method_15_code 189 = .ok (.if_icmp .eq 8, 3) := by decide +kernel
theorem d_MOD_end_192 : decode prog_8_method_15_code 192 = .ok (.aload_n 0, 1) := by decide +kernel
theorem d_MOD_end_193 : decode prog_8_method_15_code 193 = .ok (.iload_n 1, 1) := by decide +kernel
theorem d_MOD_end_194 : decode prog_8_method_15_code 194 = .ok (.invokevirtual 94, 3) := by decide +kernel
theorem d_MOD_end_197 : decode prog_8_method_15_code 197 = .ok (.iload_n 1, 1) := by decide +kernel
theorem d_MOD_end_198 : decode prog_8_method_15_code 198 = .ok (.aload_n 0, 1) := by decide +kernel
theorem d_MOD_end_199 : decode prog_8_method_15_code 199 = .ok (.getfield 97, 3) := by decide +kernel
theorem d_MOD_end_202 : decode prog_8_method_15_code 202 = .ok (.if_icmp .ne 8, 3) := by decide +kernel
theorem d_MOD_end_205 : decode prog_8_method_15_code 205 = .ok (.aload_n 0, 1) := by decide +kernel
theorem d_MOD_end_206 : decode prog_8_method_15_code 206 = .ok (.iconst 0, 1) := by decide +kernel
theorem d_MOD_end_207 : decode prog_8_method_15_code 207 = .ok (.putfield 100, 3) := by decide +kernel
theorem d_MOD_end_210 : decode prog_8_method_15_code 210 = .ok (.return_, 1) := by decide +kernel
theorem d_MOD_unrow_0 : decode prog_8_method_16_code 0 = .ok (.iconst 0, 1) := by decide +kernel
theorem d_MOD_unrow_1 : decode prog_8_method_16_code 1 = .ok (.istore_n 2, 1) := by decide +kernel
theorem d_MOD_unrow_2 : decode prog_8_method_16_code 2 = .ok (.iconst 0, 1) := by decide +kernel
theorem d_MOD_unrow_3 : decode prog_8_method_16_code 3 = .ok (.istore_n 3, 1) := by decide +kernel
theorem d_MOD_unrow_4 : decode prog_8_method_16_code 4 = .ok (.iload_n 3, 1) := by decide +kernel
theorem d_MOD_unrow_5 : decode prog_8_method_16_code 5 = .ok (.aload_n 0, 1) := by decide +kernel
theorem d_MOD_unrow_6 : decode prog_8_method_16_code 6 = .ok (.getfield 77, 3) := by decide +kernel
theorem d_MOD_unrow_9 : decode prog_8_method_16_code 9 = .ok (.if_icmp .ge 34, 3) := by decide +kernel
theorem d_MOD_unrow_12 : decode prog_8_method_16_code 12 = .ok (.aload_n 0, 1) := by decide +kernel
theorem d_MOD_unrow_13 : decode prog_8_method_16_code 13 = .ok (.getfield 43, 3) := by decide +kernel
theorem d_MOD_unrow_16 : decode prog_8_method_16_code 16 = .ok (.iload_n 3, 1) := by decide +kernel
theorem d_MOD_unrow_17 : decode prog_8_method_16_code 17 = .ok (.iaload, 1) := by decide +kernel
theorem d_MOD_unrow_18 : decode prog_8_method_16_code 18 = .ok (.iload_n 1, 1) := by decide +kernel
theorem d_MOD_unrow_19 : decode prog_8_method_16_code 19 = .ok (.if_icmp .eq 18, 3) := by decide +kernel
theorem d_MOD_unrow_22 : decode prog_8_method_16_code 22 = .ok (.aload_n 0, 1) := by decide +kernel
theorem d_MOD_unrow_23 : decode prog_8_method_16_code 23 = .ok (.getfield 43, 3) := by decide +kernel
theorem d_MOD_unrow_26 : decode prog_8_method_16_code 26 = .ok (.iload_n 2, 1) := by decide +kernel
theorem d_MOD_unrow_27 : decode prog_8_method_16_code 27 = .ok (.aload_n 0, 1) := by decide +kernel
theorem d_MOD_unrow_28 : decode prog_8_method_16_code 28 = .ok (.getfield 43, 3) := by decide +kernel
theorem d_MOD_unrow_31 : decode prog_8_method_16_code 31 = .ok (.iload_n 3, 1) := by decide +kernel
theorem d_MOD_unrow_32 : decode prog_8_method_16_code 32 = .ok (.iaload, 1) := by decide +kernel
theorem d_MOD_unrow_33 : decode prog_8_method_16_code 33 = .ok (.iastore, 1) := by decide +kernel
theorem d_MOD_unrow_34 : decode prog_8_method_16_code 34 = .ok (.iinc 2 1, 3) := by decide +kernel
theorem d_MOD_unrow_37 : decode prog_8_method_16_code 37 = .ok (.iinc 3 1, 3) := by decide +kernel
theorem d_MOD_unrow_40 : decode prog_8_method_16_code 40 = .ok (.goto (-36), 3) := by decide +kernel
theorem d_MOD_unrow_43 : decode prog_8_method_16_code 43 = .ok (.aload_n 0, 1) := by decide +kernel
theorem d_MOD_unrow_44 : decode prog_8_method_16_code 44 = .ok (.iload_n 2, 1) := by decide +kernel
theorem d_MOD_unrow_45 : decode prog_8_method_16_code 45 = .ok (.putfield 77, 3) := by decide +kernel
theorem d_MOD_unrow_48 : decode prog_8_method_16_code 48 = .ok (.return_, 1) := by decide +kernel
theorem d_MOD_remove_0 : decode prog_8_method_17_code 0 = .ok (.aload_n 0, 1) := by decide +kernel
theorem d_MOD_remove_1 : decode prog_8_method_17_code 1 = .ok (.getfield 19, 3) := by decide +kernel
theorem d_MOD_remove_4 : decode prog_8_method_17_code 4 = .ok (.iload_n 1, 1) := by decide +kernel
theorem d_MOD_remove_5 : decode prog_8_method_17_code 5 = .ok (.iconst 0, 1) := by decide +kernel
theorem d_MOD_remove_6 : decode prog_8_method_17_code 6 = .ok (.iastore, 1) := by decide +kernel
theorem d_MOD_remove_7 : decode prog_8_method_17_code 7 = .ok (.aload_n 0, 1) := by decide +kernel
theorem d_MOD_remove_8 : decode prog_8_method_17_code 8 = .ok (.getfield 22, 3) := by decide +kernel
theorem d_MOD_remove_11 : decode prog_8_method_17_code 11 = .ok (.iload_n 1, 1) := by decide +kernel
theorem d_MOD_remove_12 : decode prog_8_method_17_code 12 = .ok (.iconst 0, 1) := by decide +kernel
theorem d_MOD_remove_13 : decode prog_8_method_17_code 13 = .ok (.iastore, 1) := by decide +kernel
theorem d_MOD_remove_14 : decode prog_8_method_17_code 14 = .ok (.aload_n 0, 1) := by decide +kernel
theorem d_MOD_remove_15 : decode prog_8_method_17_code 15 = .ok (.getfield 25, 3) := by decide +kernel
theorem d_MOD_remove_18 : decode prog_8_method_17_code 18 = .ok (.iload_n 1, 1) := by decide +kernel
theorem d_MOD_remove_19 : decode prog_8_method_17_code 19 = .ok (.iconst 0, 1) := by decide +kernel
theorem d_MOD_remove_20 : decode prog_8_method_17_code 20 = .ok (.iastore, 1) := by decide +kernel
theorem d_MOD_remove_21 : decode prog_8_method_17_code 21 = .ok (.aload_n 0, 1) := by decide +kernel
theorem d_MOD_remove_22 : decode prog_8_method_17_code 22 = .ok (.getfield 28, 3) := by decide +kernel
theorem d_MOD_remove_25 : decode prog_8_method_17_code 25 = .ok (.iload_n 1, 1) := by decide +kernel
theorem d_MOD_remove_26 : decode prog_8_method_17_code 26 = .ok (.iconst 0, 1) := by decide +kernel
theorem d_MOD_remove_27 : decode prog_8_method_17_code 27 = .ok (.iastore, 1) := by decide +kernel
theorem d_MOD_remove_28 : decode prog_8_method_17_code 28 = .ok (.iconst 0, 1) := by decide +kernel
theorem d_MOD_remove_29 : decode prog_8_method_17_code 29 = .ok (.istore_n 2, 1) := by decide +kernel
theorem d_MOD_remove_30 : decode prog_8_method_17_code 30 = .ok (.iload_n 2, 1) := by decide +kernel
theorem d_MOD_remove_31 : decode prog_8_method_17_code 31 = .ok (.bipush 32, 2) := by decide +kernel
theorem d_MOD_remove_33 : decode prog_8_method_17_code 33 = .ok (.if_icmp .ge 21, 3) := by decide +kernel
theorem d_MOD_remove_36 : decode prog_8_method_17_code 36 = .ok (.aload_n 0, 1) := by decide +kernel
theorem d_MOD_remove_37 : decode prog_8_method_17_code 37 = .ok (.getfield 34, 3) := by decide +kernel
theorem d_MOD_remove_40 : decode prog_8_method_17_code 40 = .ok (.bipush 32, 2) := by decide +kernel
theorem d_MOD_remove_42 : decode prog_8_method_17_code 42 = .ok (.iload_n 1, 1) := by decide +kernel
theorem d_MOD_remove_43 : decode prog_8_method_17_code 43 = .ok (.imul, 1) := by decide +kernel
theorem d_MOD_remove_44 : decode prog_8_method_17_code 44 = .ok (.iload_n 2, 1) := by decide +kernel
theorem d_MOD_remove_45 : decode prog_8_method_17_code 45 = .ok (.iadd, 1) := by decide +kernel
theorem d_MOD_remove_46 : decode prog_8_method_17_code 46 = .ok (.iconst 0, 1) := by decide +kernel
theorem d_MOD_remove_47 : decode prog_8_method_17_code 47 = .ok (.iastore, 1) := by decide +kernel
theorem d_MOD_remove_48 : decode prog_8_method_17_code 48 = .ok (.iinc 2 1, 3) := by decide +kernel
theorem d_MOD_remove_51 : decode prog_8_method_17_code 51 = .ok (.goto (-21), 3) := by decide +kernel
theorem d_MOD_remove_54 : decode prog_8_method_17_code 54 = .ok (.return_, 1) := by decide +kernel
theorem d_MOD_fault_0 : decode prog_8_method_18_code 0 = .ok (.aload_n 0, 1) := by decide +kernel
theorem d_MOD_fault_1 : decode prog_8_method_18_code 1 = .ok (.aload_n 0, 1) := by decide +kernel
theorem d_MOD_fault_2 : decode prog_8_method_18_code 2 = .ok (.getfield 97, 3) := by decide +kernel
theorem d_MOD_fault_5 : decode prog_8_method_18_code 5 = .ok (.sipush 128, 3) := by decide +kernel
theorem d_MOD_fault_8 : decode prog_8_method_18_code 8 = .ok (.iload_n 1, 1) := by decide +kernel
theorem d_MOD_fault_9 : decode prog_8_method_18_code 9 = .ok (.iadd, 1) := by decide +kernel
theorem d_MOD_fault_10 : decode prog_8_method_18_code 10 = .ok (.invokevirtual 103, 3) := by decide +kernel
theorem d_MOD_fault_13 : decode prog_8_method_18_code 13 = .ok (.return_, 1) := by decide +kernel
theorem d_MOD_get_0 : decode prog_8_method_19_code 0 = .ok (.aload_n 0, 1) := by decide +kernel
theorem d_MOD_get_1 : decode prog_8_method_19_code 1 = .ok (.getfield 34, 3) := by decide +kernel
theorem d_MOD_get_4 : decode prog_8_method_19_code 4 = .ok (.bipush 32, 2) := by decide +kernel
theorem d_MOD_get_6 : decode prog_8_method_19_code 6 = .ok (.aload_n 0, 1) := by decide +kernel
theorem d_MOD_get_7 : decode prog_8_method_19_code 7 = .ok (.getfield 97, 3) := by decide +kernel
theorem d_MOD_get_10 : decode prog_8_method_19_code 10 = .ok (.imul, 1) := by decide +kernel
theorem d_MOD_get_11 : decode prog_8_method_19_code 11 = .ok (.iload_n 1, 1) := by decide +kernel
theorem d_MOD_get_12 : decode prog_8_method_19_code 12 = .ok (.iadd, 1) := by decide +kernel
theorem d_MOD_get_13 : decode prog_8_method_19_code 13 = .ok (.iaload, 1) := by decide +kernel
theorem d_MOD_get_14 : decode prog_8_method_19_code 14 = .ok (.ireturn, 1) := by decide +kernel
theorem d_MOD_set_0 : decode prog_8_method_20_code 0 = .ok (.aload_n 0, 1) := by decide +kernel
theorem d_MOD_set_1 : decode prog_8_method_20_code 1 = .ok (.getfield 34, 3) := by decide +kernel
theorem d_MOD_set_4 : decode prog_8_method_20_code 4 = .ok (.bipush 32, 2) := by decide +kernel
theorem d_MOD_set_6 : decode prog_8_method_20_code 6 = .ok (.aload_n 0, 1) := by decide +kernel
theorem d_MOD_set_7 : decode prog_8_method_20_code 7 = .ok (.getfield 97, 3) := by decide +kernel
theorem d_MOD_set_10 : decode prog_8_method_20_code 10 = .ok (.imul, 1) := by decide +kernel
theorem d_MOD_set_11 : decode prog_8_method_20_code 11 = .ok (.iload_n 1, 1) := by decide +kernel
theorem d_MOD_set_12 : decode prog_8_method_20_code 12 = .ok (.iadd, 1) := by decide +kernel
theorem d_MOD_set_13 : decode prog_8_method_20_code 13 = .ok (.iload_n 1, 1) := by decide +kernel
theorem d_MOD_set_14 : decode prog_8_method_20_code 14 = .ok (.ifCond .ne 7, 3) := by decide +kernel
theorem d_MOD_set_17 : decode prog_8_method_20_code 17 = .ok (.iconst 0, 1) := by decide +kernel
theorem d_MOD_set_18 : decode prog_8_method_20_code 18 = .ok (.goto 4, 3) := by decide +kernel
theorem d_MOD_set_21 : decode prog_8_method_20_code 21 = .ok (.iload_n 2, 1) := by decide +kernel
theorem d_MOD_set_22 : decode prog_8_method_20_code 22 = .ok (.iastore, 1) := by decide +kernel
theorem d_MOD_set_23 : decode prog_8_method_20_code 23 = .ok (.return_, 1) := by decide +kernel
theorem d_MOD_bits_0 : decode prog_8_method_21_code 0 = .ok (.aload_n 0, 1) := by decide +kernel
theorem d_MOD_bits_1 : decode prog_8_method_21_code 1 = .ok (.getfield 107, 3) := by decide +kernel
theorem d_MOD_bits_4 : decode prog_8_method_21_code 4 = .ok (.iload_n 1, 1) := by decide +kernel
theorem d_MOD_bits_5 : decode prog_8_method_21_code 5 = .ok (.ishr, 1) := by decide +kernel
theorem d_MOD_bits_6 : decode prog_8_method_21_code 6 = .ok (.iconst 1, 1) := by decide +kernel
theorem d_MOD_bits_7 : decode prog_8_method_21_code 7 = .ok (.iload_n 2, 1) := by decide +kernel
theorem d_MOD_bits_8 : decode prog_8_method_21_code 8 = .ok (.ishl, 1) := by decide +kernel
theorem d_MOD_bits_9 : decode prog_8_method_21_code 9 = .ok (.iconst 1, 1) := by decide +kernel
theorem d_MOD_bits_10 : decode prog_8_method_21_code 10 = .ok (.isub, 1) := by decide +kernel
theorem d_MOD_bits_11 : decode prog_8_method_21_code 11 = .ok (.iand, 1) := by decide +kernel
theorem d_MOD_bits_12 : decode prog_8_method_21_code 12 = .ok (.ireturn, 1) := by decide +kernel
end
section
theorem d_MOD_d_0 : decode prog_8_method_22_code 0 = .ok (.aload_n 0, 1) := by decide +kernel
theorem d_MOD_d_1 : decode prog_8_method_22_code 1 = .ok (.bipush 7, 2) := by decide +kernel
theorem d_MOD_d_3 : decode prog_8_method_22_code 3 = .ok (.iconst 5, 1) := by decide +kernel
theorem d_MOD_d_4 : decode prog_8_method_22_code 4 = .ok (.invokevirtual 110, 3) := by decide +kernel
theorem d_MOD_d_7 : decode prog_8_method_22_code 7 = .ok (.ireturn, 1) := by decide +kernel
theorem d_MOD_s_0 : decode prog_8_method_23_code 0 = .ok (.aload_n 0, 1) := by decide +kernel
theorem d_MOD_s_1 : decode prog_8_method_23_code 1 = .ok (.aload_n 0, 1) := by decide +kernel
theorem d_MOD_s_2 : decode prog_8_method_23_code 2 = .ok (.bipush 15, 2) := by decide +kernel
theorem d_MOD_s_4 : decode prog_8_method_23_code 4 = .ok (.iconst 5, 1) := by decide +kernel
theorem d_MOD_s_5 : decode prog_8_method_23_code 5 = .ok (.invokevirtual 110, 3) := by decide +kernel
theorem d_MOD_s_8 : decode prog_8_method_23_code 8 = .ok (.invokevirtual 113, 3) := by decide +kernel
theorem d_MOD_s_11 : decode prog_8_method_23_code 11 = .ok (.ireturn, 1) := by decide +kernel
theorem d_MOD_t_0 : decode prog_8_method_24_code 0 = .ok (.aload_n 0, 1) := by decide +kernel
theorem d_MOD_t_1 : decode prog_8_method_24_code 1 = .ok (.aload_n 0, 1) := by decide +kernel
theorem d_MOD_t_2 : decode prog_8_method_24_code 2 = .ok (.bipush 20, 2) := by decide +kernel
theorem d_MOD_t_4 : decode prog_8_method_24_code 4 = .ok (.iconst 5, 1) := by decide +kernel
theorem d_MOD_t_5 : decode prog_8_method_24_code 5 = .ok (.invokevirtual 110, 3) := by decide +kernel
theorem d_MOD_t_8 : decode prog_8_method_24_code 8 = .ok (.invokevirtual 113, 3) := by decide +kernel
theorem d_MOD_t_11 : decode prog_8_method_24_code 11 = .ok (.ireturn, 1) := by decide +kernel
theorem d_MOD_less_0 : decode prog_8_method_25_code 0 = .ok (.iload_n 2, 1) := by decide +kernel
theorem d_MOD_less_1 : decode prog_8_method_25_code 1 = .ok (.ifCond .eq 16, 3) := by decide +kernel
theorem d_MOD_less_4 : decode prog_8_method_25_code 4 = .ok (.iload_n 0, 1) := by decide +kernel
theorem d_MOD_less_5 : decode prog_8_method_25_code 5 = .ok (.iload_n 1, 1) := by decide +kernel
theorem d_MOD_less_6 : decode prog_8_method_25_code 6 = .ok (.if_icmp .ge 7, 3) := by decide +kernel
theorem d_MOD_less_9 : decode prog_8_method_25_code 9 = .ok (.iconst 1, 1) := by decide +kernel
theorem d_MOD_less_10 : decode prog_8_method_25_code 10 = .ok (.goto 28, 3) := by decide +kernel
theorem d_MOD_less_13 : decode prog_8_method_25_code 13 = .ok (.iconst 0, 1) := by decide +kernel
theorem d_MOD_less_14 : decode prog_8_method_25_code 14 = .ok (.goto 24, 3) := by decide +kernel
theorem d_MOD_less_17 : decode prog_8_method_25_code 17 = .ok (.iload_n 0, 1) := by decide +kernel
theorem d_MOD_less_18 : decode prog_8_method_25_code 18 = .ok (.i2l, 1) := by decide +kernel
theorem d_MOD_less_19 : decode prog_8_method_25_code 19 = .ok (.ldc2_w 116, 3) := by decide +kernel
theorem d_MOD_less_22 : decode prog_8_method_25_code 22 = .ok (.land, 1) := by decide +kernel
theorem d_MOD_less_23 : decode prog_8_method_25_code 23 = .ok (.iload_n 1, 1) := by decide +kernel
theorem d_MOD_less_24 : decode prog_8_method_25_code 24 = .ok (.i2l, 1) := by decide +kernel
theorem d_MOD_less_25 : decode prog_8_method_25_code 25 = .ok (.ldc2_w 116, 3) := by decide +kernel
theorem d_MOD_less_28 : decode prog_8_method_25_code 28 = .ok (.land, 1) := by decide +kernel
theorem d_MOD_less_29 : decode prog_8_method_25_code 29 = .ok (.lcmp, 1) := by decide +kernel
theorem d_MOD_less_30 : decode prog_8_method_25_code 30 = .ok (.ifCond .ge 7, 3) := by decide +kernel
theorem d_MOD_less_33 : decode prog_8_method_25_code 33 = .ok (.iconst 1, 1) := by decide +kernel
theorem d_MOD_less_34 : decode prog_8_method_25_code 34 = .ok (.goto 4, 3) := by decide +kernel
theorem d_MOD_less_37 : decode prog_8_method_25_code 37 = .ok (.iconst 0, 1) := by decide +kernel
theorem d_MOD_less_38 : decode prog_8_method_25_code 38 = .ok (.ireturn, 1) := by decide +kernel
theorem d_MOD_instruction_0 : decode prog_8_method_26_code 0 = .ok (.aload_n 0, 1) := by decide +kernel
theorem d_MOD_instruction_1 : decode prog_8_method_26_code 1 = .ok (.getfield 28, 3) := by decide +kernel
theorem d_MOD_instruction_4 : decode prog_8_method_26_code 4 = .ok (.aload_n 0, 1) := by decide +kernel
theorem d_MOD_instruction_5 : decode prog_8_method_26_code 5 = .ok (.getfield 97, 3) := by decide +kernel
theorem d_MOD_instruction_8 : decode prog_8_method_26_code 8 = .ok (.iaload, 1) := by decide +kernel
theorem d_MOD_instruction_9 : decode prog_8_method_26_code 9 = .ok (.istore_n 1, 1) := by decide +kernel
theorem d_MOD_instruction_10 : decode prog_8_method_26_code 10 = .ok (.aload_n 0, 1) := by decide +kernel
theorem d_MOD_instruction_11 : decode prog_8_method_26_code 11 = .ok (.iconst 1, 1) := by decide +kernel
theorem d_MOD_instruction_12 : decode prog_8_method_26_code 12 = .ok (.putfield 100, 3) := by decide +kernel
theorem d_MOD_instruction_15 : decode prog_8_method_26_code 15 = .ok (.aload_n 0, 1) := by decide +kernel
theorem d_MOD_instruction_16 : decode prog_8_method_26_code 16 = .ok (.iconst 0, 1) := by decide +kernel
theorem d_MOD_instruction_17 : decode prog_8_method_26_code 17 = .ok (.putfield 118, 3) := by decide +kernel
theorem d_MOD_instruction_20 : decode prog_8_method_26_code 20 = .ok (.aload_n 0, 1) := by decide +kernel
theorem d_MOD_instruction_21 : decode prog_8_method_26_code 21 = .ok (.iload_n 1, 1) := by decide +kernel
theorem d_MOD_instruction_22 : decode prog_8_method_26_code 22 = .ok (.iconst 4, 1) := by decide +kernel
theorem d_MOD_instruction_23 : decode prog_8_method_26_code 23 = .ok (.iadd, 1) := by decide +kernel
theorem d_MOD_instruction_24 : decode prog_8_method_26_code 24 = .ok (.putfield 121, 3) := by decide +kernel
theorem d_MOD_instruction_27 : decode prog_8_method_26_code 27 = .ok (.aload_n 0, 1) := by decide +kernel
theorem d_MOD_instruction_28 : decode prog_8_method_26_code 28 = .ok (.aload_n 0, 1) := by decide +kernel
theorem d_MOD_instruction_29 : decode prog_8_method_26_code 29 = .ok (.getfield 97, 3) := by decide +kernel
theorem d_MOD_instruction_32 : decode prog_8_method_26_code 32 = .ok (.iload_n 1, 1) := by decide +kernel
theorem d_MOD_instruction_33 : decode prog_8_method_26_code 33 = .ok (.invokevirtual 124, 3) := by decide +kernel
theorem d_MOD_instruction_36 : decode prog_8_method_26_code 36 = .ok (.ifCond .ne 9, 3) := by decide +kernel
theorem d_MOD_instruction_39 : decode prog_8_method_26_code 39 = .ok (.aload_n 0, 1) := by decide +kernel
theorem d_MOD_instruction_40 : decode prog_8_method_26_code 40 = .ok (.iconst 1, 1) := by decide +kernel
theorem d_MOD_instruction_41 : decode prog_8_method_26_code 41 = .ok (.invokevirtual 128, 3) := by decide +kernel
theorem d_MOD_instruction_44 : decode prog_8_method_26_code 44 = .ok (.return_, 1) := by decide +kernel
theorem d_MOD_instruction_45 : decode prog_8_method_26_code 45 = .ok (.aload_n 0, 1) := by decide +kernel
theorem d_MOD_instruction_46 : decode prog_8_method_26_code 46 = .ok (.aload_n 0, 1) := by decide +kernel
theorem d_MOD_instruction_47 : decode prog_8_method_26_code 47 = .ok (.getfield 7, 3) := by decide +kernel
theorem d_MOD_instruction_50 : decode prog_8_method_26_code 50 = .ok (.aload_n 0, 1) := by decide +kernel
theorem d_MOD_instruction_51 : decode prog_8_method_26_code 51 = .ok (.aload_n 0, 1) := by decide +kernel
theorem d_MOD_instruction_52 : decode prog_8_method_26_code 52 = .ok (.getfield 97, 3) := by decide +kernel
theorem d_MOD_instruction_55 : decode prog_8_method_26_code 55 = .ok (.iload_n 1, 1) := by decide +kernel
theorem d_MOD_instruction_56 : decode prog_8_method_26_code 56 = .ok (.invokevirtual 80, 3) := by decide +kernel
theorem d_MOD_instruction_59 : decode prog_8_method_26_code 59 = .ok (.iaload, 1) := by decide +kernel
theorem d_MOD_instruction_60 : decode prog_8_method_26_code 60 = .ok (.putfield 107, 3) := by decide +kernel
theorem d_MOD_instruction_63 : decode prog_8_method_26_code 63 = .ok (.aload_n 0, 1) := by decide +kernel
theorem d_MOD_instruction_64 : decode prog_8_method_26_code 64 = .ok (.iconst 0, 1) := by decide +kernel
theorem d_MOD_instruction_65 : decode prog_8_method_26_code 65 = .ok (.bipush 7, 2) := by decide +kernel
theorem d_MOD_instruction_67 : decode prog_8_method_26_code 67 = .ok (.invokevirtual 110, 3) := by decide +kernel
theorem d_MOD_instruction_70 : decode prog_8_method_26_code 70 = .ok (.istore_n 2, 1) := by decide +kernel
theorem d_MOD_instruction_71 : decode prog_8_method_26_code 71 = .ok (.iload_n 2, 1) := by decide +kernel
theorem d_MOD_instruction_72 : decode prog_8_method_26_code 72 = .ok (.bipush 55, 2) := by decide +kernel
theorem d_MOD_instruction_74 : decode prog_8_method_26_code 74 = .ok (.if_icmp .ne 22, 3) := by decide +kernel
theorem d_MOD_instruction_77 : decode prog_8_method_26_code 77 = .ok (.aload_n 0, 1) := by decide +kernel
theorem d_MOD_instruction_78 : decode prog_8_method_26_code 78 = .ok (.aload_n 0, 1) := by decide +kernel
theorem d_MOD_instruction_79 : decode prog_8_method_26_code 79 = .ok (.invokevirtual 131, 3) := by decide +kernel
theorem d_MOD_instruction_82 : decode prog_8_method_26_code 82 = .ok (.aload_n 0, 1) := by decide +kernel
theorem d_MOD_instruction_83 : decode prog_8_method_26_code 83 = .ok (.getfield 107, 3) := by decide +kernel
theorem d_MOD_instruction_86 : decode prog_8_method_26_code 86 = .ok (.sipush (-4096), 3) := by decide +kernel
theorem d_MOD_instruction_89 : decode prog_8_method_26_code 89 = .ok (.iand, 1) := by decide +kernel
theorem d_MOD_instruction_90 : decode prog_8_method_26_code 90 = .ok (.invokevirtual 135, 3) := by decide +kernel
theorem d_MOD_instruction_93 : decode prog_8_method_26_code 93 = .ok (.goto 256, 3) := by decide +kernel
theorem d_MOD_instruction_96 : decode prog_8_method_26_code 96 = .ok (.iload_n 2, 1) := by decide +kernel
theorem d_MOD_instruction_97 : decode prog_8_method_26_code 97 = .ok (.bipush 23, 2) := by decide +kernel
theorem d_MOD_instruction_99 : decode prog_8_method_26_code 99 = .ok (.if_icmp .ne 24, 3) := by decide +kernel
theorem d_MOD_instruction_102 : decode prog_8_method_26_code 102 = .ok (.aload_n 0, 1) := by decide +kernel
theorem d_MOD_instruction_103 : decode prog_8_method_26_code 103 = .ok (.aload_n 0, 1) := by decide +kernel
theorem d_MOD_instruction_104 : decode prog_8_method_26_code 104 = .ok (.invokevirtual 131, 3) := by decide +kernel
theorem d_MOD_instruction_107 : decode prog_8_method_26_code 107 = .ok (.iload_n 1, 1) := by decide +kernel
theorem d_MOD_instruction_108 : decode prog_8_method_26_code 108 = .ok (.aload_n 0, 1) := by decide +kernel
theorem d_MOD_instruction_109 : decode prog_8_method_26_code 109 = .ok (.getfield 107, 3) := by decide +kernel
theorem d_MOD_instruction_112 : decode prog_8_method_26_code 112 = .ok (.sipush (-4096), 3) := by decide +kernel
theorem d_MOD_instruction_115 : decode prog_8_method_26_code 115 = .ok (.iand, 1) := by decide +kernel
theorem d_MOD_instruction_116 : decode prog_8_method_26_code 116 = .ok (.iadd, 1) := by decide +kernel
theorem d_MOD_instruction_117 : decode prog_8_method_26_code 117 = .ok (.invokevirtual 135, 3) := by decide +kernel
theorem d_MOD_instruction_120 : decode prog_8_method_26_code 120 = .ok (.goto 229, 3) := by decide +kernel
theorem d_MOD_instruction_123 : decode prog_8_method_26_code 123 = .ok (.iload_n 2, 1) := by decide +kernel
theorem d_MOD_instruction_124 : decode prog_8_method_26_code 124 = .ok (.bipush 111, 2) := by decide +kernel
theorem d_MOD_instruction_126 : decode prog_8_method_26_code 126 = .ok (.if_icmp .ne 56, 3) := by decide +kernel
theorem d_MOD_instruction_129 : decode prog_8_method_26_code 129 = .ok (.aload_n 0, 1) := by decide +kernel
theorem d_MOD_instruction_130 : decode prog_8_method_26_code 130 = .ok (.iload_n 1, 1) := by decide +kernel
theorem d_MOD_instruction_131 : decode prog_8_method_26_code 131 = .ok (.aload_n 0, 1) := by decide +kernel
theorem d_MOD_instruction_132 : decode prog_8_method_26_code 132 = .ok (.getfield 107, 3) := by decide +kernel
theorem d_MOD_instruction_135 : decode prog_8_method_26_code 135 = .ok (.bipush 31, 2) := by decide +kernel
theorem d_MOD_instruction_137 : decode prog_8_method_26_code 137 = .ok (.ishr, 1) := by decide +kernel
theorem d_MOD_instruction_138 : decode prog_8_method_26_code 138 = .ok (.bipush 20, 2) := by decide +kernel
theorem d_MOD_instruction_140 : decode prog_8_method_26_code 140 = .ok (.ishl, 1) := by decide +kernel
theorem d_MOD_instruction_141 : decode prog_8_method_26_code 141 = .ok (.aload_n 0, 1) := by decide +kernel
theorem d_MOD_instruction_142 : decode prog_8_method_26_code 142 = .ok (.bipush 12, 2) := by decide +kernel
theorem d_MOD_instruction_144 : decode prog_8_method_26_code 144 = .ok (.bipush 8, 2) := by decide +kernel
theorem d_MOD_instruction_146 : decode prog_8_method_26_code 146 = .ok (.invokevirtual 110, 3) := by decide +kernel
theorem d_MOD_instruction_149 : decode prog_8_method_26_code 149 = .ok (.bipush 12, 2) := by decide +kernel
theorem d_MOD_instruction_151 : decode prog_8_method_26_code 151 = .ok (.ishl, 1) := by decide +kernel
theorem d_MOD_instruction_152 : decode prog_8_method_26_code 152 = .ok (.ior, 1) := by decide +kernel
theorem d_MOD_instruction_153 : decode prog_8_method_26_code 153 = .ok (.aload_n 0, 1) := by decide +kernel
theorem d_MOD_instruction_154 : decode prog_8_method_26_code 154 = .ok (.bipush 20, 2) := by decide +kernel
theorem d_MOD_instruction_156 : decode prog_8_method_26_code 156 = .ok (.iconst 1, 1) := by decide +kernel
theorem d_MOD_instruction_157 : decode prog_8_method_26_code 157 = .ok (.invokevirtual 110, 3) := by decide +kernel
theorem d_MOD_instruction_160 : decode prog_8_method_26_code 160 = .ok (.bipush 11, 2) := by decide +kernel
theorem d_MOD_instruction_162 : decode prog_8_method_26_code 162 = .ok (.ishl, 1) := by decide +kernel
theorem d_MOD_instruction_163 : decode prog_8_method_26_code 163 = .ok (.ior, 1) := by decide +kernel
theorem d_MOD_instruction_164 : decode prog_8_method_26_code 164 = .ok (.aload_n 0, 1) := by decide +kernel
theorem d_MOD_instruction_165 : decode prog_8_method_26_code 165 = .ok (.bipush 21, 2) := by decide +kernel
theorem d_MOD_instruction_167 : decode prog_8_method_26_code 167 = .ok (.bipush 10, 2) := by decide +kernel
theorem d_MOD_instruction_169 : decode prog_8_method_26_code 169 = .ok (.invokevirtual 110, 3) := by decide +kernel
theorem d_MOD_instruction_172 : decode prog_8_method_26_code 172 = .ok (.iconst 1, 1) := by decide +kernel
theorem d_MOD_instruction_173 : decode prog_8_method_26_code 173 = .ok (.ishl, 1) := by decide +kernel
theorem d_MOD_instruction_174 : decode prog_8_method_26_code 174 = .ok (.ior, 1) := by decide +kernel
theorem d_MOD_instruction_175 : decode prog_8_method_26_code 175 = .ok (.iadd, 1) := by decide +kernel
theorem d_MOD_instruction_176 : decode prog_8_method_26_code 176 = .ok (.invokevirtual 138, 3) := by decide +kernel
theorem d_MOD_instruction_179 : decode prog_8_method_26_code 179 = .ok (.goto 170, 3) := by decide +kernel
theorem d_MOD_instruction_182 : decode prog_8_method_26_code 182 = .ok (.iload_n 2, 1) := by decide +kernel
theorem d_MOD_instruction_183 : decode prog_8_method_26_code 183 = .ok (.bipush 103, 2) := by decide +kernel
theorem d_MOD_instruction_185 : decode prog_8_method_26_code 185 = .ok (.if_icmp .ne 35, 3) := by decide +kernel
theorem d_MOD_instruction_188 : decode prog_8_method_26_code 188 = .ok (.aload_n 0, 1) := by decide +kernel
theorem d_MOD_instruction_189 : decode prog_8_method_26_code 189 = .ok (.bipush 12, 2) := by decide +kernel
theorem d_MOD_instruction_191 : decode prog_8_method_26_code 191 = .ok (.iconst 3, 1) := by decide +kernel
theorem d_MOD_instruction_192 : decode prog_8_method_26_code 192 = .ok (.invokevirtual 110, 3) := by decide +kernel
theorem d_MOD_instruction_195 : decode prog_8_method_26_code 195 = .ok (.ifCond .ne 25, 3) := by decide +kernel
theorem d_MOD_instruction_198 : decode prog_8_method_26_code 198 = .ok (.aload_n 0, 1) := by decide +kernel
theorem d_MOD_instruction_199 : decode prog_8_method_26_code 199 = .ok (.aload_n 0, 1) := by decide +kernel
theorem d_MOD_instruction_200 : decode prog_8_method_26_code 200 = .ok (.invokevirtual 141, 3) := by decide +kernel
theorem d_MOD_instruction_203 : decode prog_8_method_26_code 203 = .ok (.aload_n 0, 1) := by decide +kernel
theorem d_MOD_instruction_204 : decode prog_8_method_26_code 204 = .ok (.getfield 107, 3) := by decide +kernel
theorem d_MOD_instruction_207 : decode prog_8_method_26_code 207 = .ok (.bipush 20, 2) := by decide +kernel
theorem d_MOD_instruction_209 : decode prog_8_method_26_code 209 = .ok (.ishr, 1) := by decide +kernel
theorem d_MOD_instruction_210 : decode prog_8_method_26_code 210 = .ok (.iadd, 1) := by decide +kernel
theorem d_MOD_instruction_211 : decode prog_8_method_26_code 211 = .ok (.bipush (-2), 2) := by decide +kernel
theorem d_MOD_instruction_213 : decode prog_8_method_26_code 213 = .ok (.iand, 1) := by decide +kernel
theorem d_MOD_instruction_214 : decode prog_8_method_26_code 214 = .ok (.invokevirtual 138, 3) := by decide +kernel
theorem d_MOD_instruction_217 : decode prog_8_method_26_code 217 = .ok (.goto 132, 3) := by decide +kernel
theorem d_MOD_instruction_220 : decode prog_8_method_26_code 220 = .ok (.iload_n 2, 1) := by decide +kernel
theorem d_MOD_instruction_221 : decode prog_8_method_26_code 221 = .ok (.bipush 99, 2) := by decide +kernel
theorem d_MOD_instruction_223 : decode prog_8_method_26_code 223 = .ok (.if_icmp .ne 11, 3) := by decide +kernel
theorem d_MOD_instruction_226 : decode prog_8_method_26_code 226 = .ok (.aload_n 0, 1) := by decide +kernel
theorem d_MOD_instruction_227 : decode prog_8_method_26_code 227 = .ok (.iload_n 1, 1) := by decide +kernel
theorem d_MOD_instruction_228 : decode prog_8_method_26_code 228 = .ok (.invokevirtual 144, 3) := by decide +kernel
theorem d_MOD_instruction_231 : decode prog_8_method_26_code 231 = .ok (.goto 118, 3) := by decide +kernel
theorem d_MOD_instruction_234 : decode prog_8_method_26_code 234 = .ok (.iload_n 2, 1) := by decide +kernel
theorem d_MOD_instruction_235 : decode prog_8_method_26_code 235 = .ok (.iconst 3, 1) := by decide +kernel
theorem d_MOD_instruction_236 : decode prog_8_method_26_code 236 = .ok (.if_icmp .ne 10, 3) := by decide +kernel
theorem d_MOD_instruction_239 : decode prog_8_method_26_code 239 = .ok (.aload_n 0, 1) := by decide +kernel
theorem d_MOD_instruction_240 : decode prog_8_method_26_code 240 = .ok (.invokevirtual 147, 3) := by decide +kernel
theorem d_MOD_instruction_243 : decode prog_8_method_26_code 243 = .ok (.goto 106, 3) := by decide +kernel
theorem d_MOD_instruction_246 : decode prog_8_method_26_code 246 = .ok (.iload_n 2, 1) := by decide +kernel
theorem d_MOD_instruction_247 : decode prog_8_method_26_code 247 = .ok (.bipush 35, 2) := by decide +kernel
theorem d_MOD_instruction_249 : decode prog_8_method_26_code 249 = .ok (.if_icmp .ne 10, 3) := by decide +kernel
theorem d_MOD_instruction_252 : decode prog_8_method_26_code 252 = .ok (.aload_n 0, 1) := by decide +kernel
theorem d_MOD_instruction_253 : decode prog_8_method_26_code 253 = .ok (.invokevirtual 150, 3) := by decide +kernel
theorem d_MOD_instruction_256 : decode prog_8_method_26_code 256 = .ok (.goto 93, 3) := by decide +kernel
theorem d_MOD_instruction_259 : decode prog_8_method_26_code 259 = .ok (.iload_n 2, 1) := by decide +kernel
theorem d_MOD_instruction_260 : decode prog_8_method_26_code 260 = .ok (.bipush 19, 2) := by decide +kernel
theorem d_MOD_instruction_262 : decode prog_8_method_26_code 262 = .ok (.if_icmp .eq 9, 3) := by decide +kernel
theorem d_MOD_instruction_265 : decode prog_8_method_26_code 265 = .ok (.iload_n 2, 1) := by decide +kernel
theorem d_MOD_instruction_266 : decode prog_8_method_26_code 266 = .ok (.bipush 51, 2) := by decide +kernel
theorem d_MOD_instruction_268 : decode prog_8_method_26_code 268 = .ok (.if_icmp .ne 21, 3) := by decide +kernel
theorem d_MOD_instruction_271 : decode prog_8_method_26_code 271 = .ok (.aload_n 0, 1) := by decide +kernel
theorem d_MOD_instruction_272 : decode prog_8_method_26_code 272 = .ok (.iload_n 2, 1) := by decide +kernel
theorem d_MOD_instruction_273 : decode prog_8_method_26_code 273 = .ok (.bipush 51, 2) := by decide +kernel
theorem d_MOD_instruction_275 : decode prog_8_method_26_code 275 = .ok (.if_icmp .ne 7, 3) := by decide +kernel
theorem d_MOD_instruction_278 : decode prog_8_method_26_code 278 = .ok (.iconst 1, 1) := by decide +kernel
theorem d_MOD_instruction_279 : decode prog_8_method_26_code 279 = .ok (.goto 4, 3) := by decide +kernel
theorem d_MOD_instruction_282 : decode prog_8_method_26_code 282 = .ok (.iconst 0, 1) := by decide +kernel
theorem d_MOD_instruction_283 : decode prog_8_method_26_code 283 = .ok (.invokevirtual 153, 3) := by decide +kernel
theorem d_MOD_instruction_286 : decode prog_8_method_26_code 286 = .ok (.goto 63, 3) := by decide +kernel
theorem d_MOD_instruction_289 : decode prog_8_method_26_code 289 = .ok (.iload_n 2, 1) := by decide +kernel
theorem d_MOD_instruction_290 : decode prog_8_method_26_code 290 = .ok (.bipush 115, 2) := by decide +kernel
theorem d_MOD_instruction_292 : decode prog_8_method_26_code 292 = .ok (.if_icmp .ne 19, 3) := by decide +kernel
theorem d_MOD_instruction_295 : decode prog_8_method_26_code 295 = .ok (.aload_n 0, 1) := by decide +kernel
theorem d_MOD_instruction_296 : decode prog_8_method_26_code 296 = .ok (.getfield 107, 3) := by decide +kernel
theorem d_MOD_instruction_299 : decode prog_8_method_26_code 299 = .ok (.bipush 115, 2) := by decide +kernel
theorem d_MOD_instruction_301 : decode prog_8_method_26_code 301 = .ok (.if_icmp .ne 10, 3) := by decide +kernel
theorem d_MOD_instruction_304 : decode prog_8_method_26_code 304 = .ok (.aload_n 0, 1) := by decide +kernel
theorem d_MOD_instruction_305 : decode prog_8_method_26_code 305 = .ok (.invokevirtual 157, 3) := by decide +kernel
theorem d_MOD_instruction_308 : decode prog_8_method_26_code 308 = .ok (.goto 41, 3) := by decide +kernel
theorem d_MOD_instruction_311 : decode prog_8_method_26_code 311 = .ok (.aload_n 0, 1) := by decide +kernel
theorem d_MOD_instruction_312 : decode prog_8_method_26_code 312 = .ok (.getfield 107, 3) := by decide +kernel
theorem d_MOD_instruction_315 : decode prog_8_method_26_code 315 = .ok (.ldc 160, 2) := by decide +kernel
theorem d_MOD_instruction_317 : decode prog_8_method_26_code 317 = .ok (.if_icmp .ne 11, 3) := by decide +kernel
theorem d_MOD_instruction_320 : decode prog_8_method_26_code 320 = .ok (.aload_n 0, 1) := by decide +kernel
theorem d_MOD_instruction_321 : decode prog_8_method_26_code 321 = .ok (.iconst 3, 1) := by decide +kernel
theorem d_MOD_instruction_322 : decode prog_8_method_26_code 322 = .ok (.invokevirtual 128, 3) := by decide +kernel
theorem d_MOD_instruction_325 : decode prog_8_method_26_code 325 = .ok (.goto 24, 3) := by decide +kernel
theorem d_MOD_instruction_328 : decode prog_8_method_26_code 328 = .ok (.iload_n 2, 1) := by decide +kernel
theorem d_MOD_instruction_329 : decode prog_8_method_26_code 329 = .ok (.bipush 15, 2) := by decide +kernel
theorem d_MOD_instruction_331 : decode prog_8_method_26_code 331 = .ok (.if_icmp .ne 13, 3) := by decide +kernel
theorem d_MOD_instruction_334 : decode prog_8_method_26_code 334 = .ok (.aload_n 0, 1) := by decide +kernel
theorem d_MOD_instruction_335 : decode prog_8_method_26_code 335 = .ok (.bipush 12, 2) := by decide +kernel
theorem d_MOD_instruction_337 : decode prog_8_method_26_code 337 = .ok (.iconst 3, 1) := by decide +kernel
theorem d_MOD_instruction_338 : decode prog_8_method_26_code 338 = .ok (.invokevirtual 110, 3) := by decide +kernel
theorem d_MOD_instruction_341 : decode prog_8_method_26_code 341 = .ok (.ifCond .eq 8, 3) := by decide +kernel
theorem d_MOD_instruction_344 : decode prog_8_method_26_code 344 = .ok (.aload_n 0, 1) := by decide +kernel
theorem d_MOD_instruction_345 : decode prog_8_method_26_code 345 = .ok (.iconst 2, 1) := by decide +kernel
theorem d_MOD_instruction_346 : decode prog_8_method_26_code 346 = .ok (.invokevirtual 128, 3) := by decide +kernel
theorem d_MOD_instruction_349 : decode prog_8_method_26_code 349 = .ok (.aload_n 0, 1) := by decide +kernel
theorem d_MOD_instruction_350 : decode prog_8_method_26_code 350 = .ok (.getfield 100, 3) := by decide +kernel
theorem d_MOD_instruction_353 : decode prog_8_method_26_code 353 = .ok (.ifCond .eq 16, 3) := by decide +kernel
theorem d_MOD_instruction_356 : decode prog_8_method_26_code 356 = .ok (.aload_n 0, 1) := by decide +kernel
theorem d_MOD_instruction_357 : decode prog_8_method_26_code 357 = .ok (.getfield 28, 3) := by decide +kernel
theorem d_MOD_instruction_360 : decode prog_8_method_26_code 360 = .ok (.aload_n 0, 1) := by decide +kernel
theorem d_MOD_instruction_361 : decode prog_8_method_26_code 361 = .ok (.getfield 97, 3) := by decide +kernel
theorem d_MOD_instruction_364 : decode prog_8_method_26_code 364 = .ok (.aload_n 0, 1) := by decide +kernel
theorem d_MOD_instruction_365 : decode prog_8_method_26_code 365 = .ok (.getfield 121, 3) := by decide +kernel
theorem d_MOD_instruction_368 : decode prog_8_method_26_code 368 = .ok (.iastore, 1) := by decide +kernel
theorem d_MOD_instruction_369 : decode prog_8_method_26_code 369 = .ok (.return_, 1) := by decide +kernel
theorem d_MOD_jump_0 : decode prog_8_method_27_code 0 = .ok (.iload_n 1, 1) := by decide +kernel
theorem d_MOD_jump_1 : decode prog_8_method_27_code 1 = .ok (.iconst 4, 1) := by decide +kernel
theorem d_MOD_jump_2 : decode prog_8_method_27_code 2 = .ok (.irem, 1) := by decide +kernel
theorem d_MOD_jump_3 : decode prog_8_method_27_code 3 = .ok (.ifCond .eq 9, 3) := by decide +kernel
theorem d_MOD_jump_6 : decode prog_8_method_27_code 6 = .ok (.aload_n 0, 1) := by decide +kernel
theorem d_MOD_jump_7 : decode prog_8_method_27_code 7 = .ok (.iconst 0, 1) := by decide +kernel
theorem d_MOD_jump_8 : decode prog_8_method_27_code 8 = .ok (.invokevirtual 128, 3) := by decide +kernel
theorem d_MOD_jump_11 : decode prog_8_method_27_code 11 = .ok (.return_, 1) := by decide +kernel
theorem d_MOD_jump_12 : decode prog_8_method_27_code 12 = .ok (.aload_n 0, 1) := by decide +kernel
theorem d_MOD_jump_13 : decode prog_8_method_27_code 13 = .ok (.aload_n 0, 1) := by decide +kernel
theorem d_MOD_jump_14 : decode prog_8_method_27_code 14 = .ok (.invokevirtual 131, 3) := by decide +kernel
theorem d_MOD_jump_17 : decode prog_8_method_27_code 17 = .ok (.aload_n 0, 1) := by decide +kernel
theorem d_MOD_jump_18 : decode prog_8_method_27_code 18 = .ok (.getfield 28, 3) := by decide +kernel
theorem d_MOD_jump_21 : decode prog_8_method_27_code 21 = .ok (.aload_n 0, 1) := by decide +kernel
theorem d_MOD_jump_22 : decode prog_8_method_27_code 22 = .ok (.getfield 97, 3) := by decide +kernel
theorem d_MOD_jump_25 : decode prog_8_method_27_code 25 = .ok (.iaload, 1) := by decide +kernel
theorem d_MOD_jump_26 : decode prog_8_method_27_code 26 = .ok (.iconst 4, 1) := by decide +kernel
theorem d_MOD_jump_27 : decode prog_8_method_27_code 27 = .ok (.iadd, 1) := by decide +kernel
theorem d_MOD_jump_28 : decode prog_8_method_27_code 28 = .ok (.invokevirtual 135, 3) := by decide +kernel
theorem d_MOD_jump_31 : decode prog_8_method_27_code 31 = .ok (.aload_n 0, 1) := by decide +kernel
theorem d_MOD_jump_32 : decode prog_8_method_27_code 32 = .ok (.iload_n 1, 1) := by decide +kernel
theorem d_MOD_jump_33 : decode prog_8_method_27_code 33 = .ok (.putfield 121, 3) := by decide +kernel
theorem d_MOD_jump_36 : decode prog_8_method_27_code 36 = .ok (.return_, 1) := by decide +kernel
theorem d_MOD_branch_0 : decode prog_8_method_28_code 0 = .ok (.aload_n 0, 1) := by decide +kernel
theorem d_MOD_branch_1 : decode prog_8_method_28_code 1 = .ok (.bipush 12, 2) := by decide +kernel
theorem d_MOD_branch_3 : decode prog_8_method_28_code 3 = .ok (.iconst 3, 1) := by decide +kernel
theorem d_MOD_branch_4 : decode prog_8_method_28_code 4 = .ok (.invokevirtual 110, 3) := by decide +kernel
theorem d_MOD_branch_7 : decode prog_8_method_28_code 7 = .ok (.istore_n 2, 1) := by decide +kernel
theorem d_MOD_branch_8 : decode prog_8_method_28_code 8 = .ok (.aload_n 0, 1) := by decide +kernel
theorem d_MOD_branch_9 : decode prog_8_method_28_code 9 = .ok (.invokevirtual 141, 3) := by decide +kernel
theorem d_MOD_branch_12 : decode prog_8_method_28_code 12 = .ok (.istore_n 3, 1) := by decide +kernel
theorem d_MOD_branch_13 : decode prog_8_method_28_code 13 = .ok (.aload_n 0, 1) := by decide +kernel
theorem d_MOD_branch_14 : decode prog_8_method_28_code 14 = .ok (.invokevirtual 161, 3) := by decide +kernel
theorem d_MOD_branch_17 : decode prog_8_method_28_code 17 = .ok (.istore 4, 2) := by decide +kernel
theorem d_MOD_branch_19 : decode prog_8_method_28_code 19 = .ok (.iload_n 2, 1) := by decide +kernel
theorem d_MOD_branch_20 : decode prog_8_method_28_code 20 = .ok (.iconst 2, 1) := by decide +kernel
theorem d_MOD_branch_21 : decode prog_8_method_28_code 21 = .ok (.if_icmp .eq 8, 3) := by decide +kernel
theorem d_MOD_branch_24 : decode prog_8_method_28_code 24 = .ok (.iload_n 2, 1) := by decide +kernel
theorem d_MOD_branch_25 : decode prog_8_method_28_code 25 = .ok (.iconst 3, 1) := by decide +kernel
theorem d_MOD_branch_26 : decode prog_8_method_28_code 26 = .ok (.if_icmp .ne 9, 3) := by decide +kernel
theorem d_MOD_branch_29 : decode prog_8_method_28_code 29 = .ok (.aload_n 0, 1) := by decide +kernel
theorem d_MOD_branch_30 : decode prog_8_method_28_code 30 = .ok (.iconst 2, 1) := by decide +kernel
theorem d_MOD_branch_31 : decode prog_8_method_28_code 31 = .ok (.invokevirtual 128, 3) := by decide +kernel
theorem d_MOD_branch_34 : decode prog_8_method_28_code 34 = .ok (.return_, 1) := by decide +kernel
theorem d_MOD_branch_35 : decode prog_8_method_28_code 35 = .ok (.iload_n 2, 1) := by decide +kernel
theorem d_MOD_branch_36 : decode prog_8_method_28_code 36 = .ok (.iconst 2, 1) := by decide +kernel
theorem d_MOD_branch_37 : decode prog_8_method_28_code 37 = .ok (.if_icmp .ge 17, 3) := by decide +kernel
theorem d_MOD_branch_40 : decode prog_8_method_28_code 40 = .ok (.iload_n 3, 1) := by decide +kernel
theorem d_MOD_branch_41 : decode prog_8_method_28_code 41 = .ok (.iload 4, 2) := by decide +kernel
theorem d_MOD_branch_43 : decode prog_8_method_28_code 43 = .ok (.if_icmp .ne 7, 3) := by decide +kernel
theorem d_MOD_branch_46 : decode prog_8_method_28_code 46 = .ok (.iconst 1, 1) := by decide +kernel
theorem d_MOD_branch_47 : decode prog_8_method_28_code 47 = .ok (.goto 24, 3) := by decide +kernel
theorem d_MOD_branch_50 : decode prog_8_method_28_code 50 = .ok (.iconst 0, 1) := by decide +kernel
theorem d_MOD_branch_51 : decode prog_8_method_28_code 51 = .ok (.goto 20, 3) := by decide +kernel
theorem d_MOD_branch_54 : decode prog_8_method_28_code 54 = .ok (.iload_n 3, 1) := by decide +kernel
theorem d_MOD_branch_55 : decode prog_8_method_28_code 55 = .ok (.iload 4, 2) := by decide +kernel
theorem d_MOD_branch_57 : decode prog_8_method_28_code 57 = .ok (.iload_n 2, 1) := by decide +kernel
theorem d_MOD_branch_58 : decode prog_8_method_28_code 58 = .ok (.bipush 6, 2) := by decide +kernel
theorem d_MOD_branch_60 : decode prog_8_method_28_code 60 = .ok (.if_icmp .ge 7, 3) := by decide +kernel
theorem d_MOD_branch_63 : decode prog_8_method_28_code 63 = .ok (.iconst 1, 1) := by decide +kernel
theorem d_MOD_branch_64 : decode prog_8_method_28_code 64 = .ok (.goto 4, 3) := by decide +kernel
theorem d_MOD_branch_67 : decode prog_8_method_28_code 67 = .ok (.iconst 0, 1) := by decide +kernel
theorem d_MOD_branch_68 : decode prog_8_method_28_code 68 = .ok (.invokestatic 164, 3) := by decide +kernel
theorem d_MOD_branch_71 : decode prog_8_method_28_code 71 = .ok (.istore 5, 2) := by decide +kernel
theorem d_MOD_branch_73 : decode prog_8_method_28_code 73 = .ok (.iload 5, 2) := by decide +kernel
theorem d_MOD_branch_75 : decode prog_8_method_28_code 75 = .ok (.iload_n 2, 1) := by decide +kernel
theorem d_MOD_branch_76 : decode prog_8_method_28_code 76 = .ok (.iconst 2, 1) := by decide +kernel
theorem d_MOD_branch_77 : decode prog_8_method_28_code 77 = .ok (.irem, 1) := by decide +kernel
theorem d_MOD_branch_78 : decode prog_8_method_28_code 78 = .ok (.iconst 1, 1) := by decide +kernel
theorem d_MOD_branch_79 : decode prog_8_method_28_code 79 = .ok (.if_icmp .ne 7, 3) := by decide +kernel
theorem d_MOD_branch_82 : decode prog_8_method_28_code 82 = .ok (.iconst 1, 1) := by decide +kernel
theorem d_MOD_branch_83 : decode prog_8_method_28_code 83 = .ok (.goto 4, 3) := by decide +kernel
theorem d_MOD_branch_86 : decode prog_8_method_28_code 86 = .ok (.iconst 0, 1) := by decide +kernel
theorem d_MOD_branch_87 : decode prog_8_method_28_code 87 = .ok (.if_icmp .ne 4, 3) := by decide +kernel
theorem d_MOD_branch_90 : decode prog_8_method_28_code 90 = .ok (.return_, 1) := by decide +kernel
theorem d_MOD_branch_91 : decode prog_8_method_28_code 91 = .ok (.iload_n 1, 1) := by decide +kernel
theorem d_MOD_branch_92 : decode prog_8_method_28_code 92 = .ok (.aload_n 0, 1) := by decide +kernel
theorem d_MOD_branch_93 : decode prog_8_method_28_code 93 = .ok (.getfield 107, 3) := by decide +kernel
theorem d_MOD_branch_96 : decode prog_8_method_28_code 96 = .ok (.bipush 31, 2) := by decide +kernel
theorem d_MOD_branch_98 : decode prog_8_method_28_code 98 = .ok (.ishr, 1) := by decide +kernel
theorem d_MOD_branch_99 : decode prog_8_method_28_code 99 = .ok (.bipush 12, 2) := by decide +kernel
theorem d_MOD_branch_101 : decode prog_8_method_28_code 101 = .ok (.ishl, 1) := by decide +kernel
theorem d_MOD_branch_102 : decode prog_8_method_28_code 102 = .ok (.aload_n 0, 1) := by decide +kernel
theorem d_MOD_branch_103 : decode prog_8_method_28_code 103 = .ok (.bipush 7, 2) := by decide +kernel
theorem d_MOD_branch_105 : decode prog_8_method_28_code 105 = .ok (.iconst 1, 1) := by decide +kernel
theorem d_MOD_branch_106 : decode prog_8_method_28_code 106 = .ok (.invokevirtual 110, 3) := by decide +kernel
theorem d_MOD_branch_109 : decode prog_8_method_28_code 109 = .ok (.bipush 11, 2) := by decide +kernel
theorem d_MOD_branch_111 : decode prog_8_method_28_code 111 = .ok (.ishl, 1) := by decide +kernel
theorem d_MOD_branch_112 : decode prog_8_method_28_code 112 = .ok (.ior, 1) := by decide +kernel
theorem d_MOD_branch_113 : decode prog_8_method_28_code 113 = .ok (.aload_n 0, 1) := by decide +kernel
theorem d_MOD_branch_114 : decode prog_8_method_28_code 114 = .ok (.bipush 25, 2) := by decide +kernel
theorem d_MOD_branch_116 : decode prog_8_method_28_code 116 = .ok (.bipush 6, 2) := by decide +kernel
theorem d_MOD_branch_118 : decode prog_8_method_28_code 118 = .ok (.invokevirtual 110, 3) := by decide +kernel
theorem d_MOD_branch_121 : decode prog_8_method_28_code 121 = .ok (.iconst 5, 1) := by decide +kernel
theorem d_MOD_branch_122 : decode prog_8_method_28_code 122 = .ok (.ishl, 1) := by decide +kernel
theorem d_MOD_branch_123 : decode prog_8_method_28_code 123 = .ok (.ior, 1) := by decide +kernel
theorem d_MOD_branch_124 : decode prog_8_method_28_code 124 = .ok (.aload_n 0, 1) := by decide +kernel
theorem d_MOD_branch_125 : decode prog_8_method_28_code 125 = .ok (.bipush 8, 2) := by decide +kernel
theorem d_MOD_branch_127 : decode prog_8_method_28_code 127 = .ok (.iconst 4, 1) := by decide +kernel
theorem d_MOD_branch_128 : decode prog_8_method_28_code 128 = .ok (.invokevirtual 110, 3) := by decide +kernel
theorem d_MOD_branch_131 : decode prog_8_method_28_code 131 = .ok (.iconst 1, 1) := by decide +kernel
theorem d_MOD_branch_132 : decode prog_8_method_28_code 132 = .ok (.ishl, 1) := by decide +kernel
theorem d_MOD_branch_133 : decode prog_8_method_28_code 133 = .ok (.ior, 1) := by decide +kernel
theorem d_MOD_branch_134 : decode prog_8_method_28_code 134 = .ok (.iadd, 1) := by decide +kernel
theorem d_MOD_branch_135 : decode prog_8_method_28_code 135 = .ok (.istore 6, 2) := by decide +kernel
theorem d_MOD_branch_137 : decode prog_8_method_28_code 137 = .ok (.iload 6, 2) := by decide +kernel
theorem d_MOD_branch_139 : decode prog_8_method_28_code 139 = .ok (.iconst 4, 1) := by decide +kernel
theorem d_MOD_branch_140 : decode prog_8_method_28_code 140 = .ok (.irem, 1) := by decide +kernel
theorem d_MOD_branch_141 : decode prog_8_method_28_code 141 = .ok (.ifCond .eq 11, 3) := by decide +kernel
theorem d_MOD_branch_144 : decode prog_8_method_28_code 144 = .ok (.aload_n 0, 1) := by decide +kernel
theorem d_MOD_branch_145 : decode prog_8_method_28_code 145 = .ok (.iconst 0, 1) := by decide +kernel
theorem d_MOD_branch_146 : decode prog_8_method_28_code 146 = .ok (.invokevirtual 128, 3) := by decide +kernel
theorem d_MOD_branch_149 : decode prog_8_method_28_code 149 = .ok (.goto 9, 3) := by decide +kernel
theorem d_MOD_branch_152 : decode prog_8_method_28_code 152 = .ok (.aload_n 0, 1) := by decide +kernel
theorem d_MOD_branch_153 : decode prog_8_method_28_code 153 = .ok (.iload 6, 2) := by decide +kernel
theorem d_MOD_branch_155 : decode prog_8_method_28_code 155 = .ok (.putfield 121, 3) := by decide +kernel
theorem d_MOD_branch_158 : decode prog_8_method_28_code 158 = .ok (.return_, 1) := by decide +kernel
theorem d_MOD_reach_0 : decode prog_8_method_29_code 0 = .ok (.iload_n 1, 1) := by decide +kernel
theorem d_MOD_reach_1 : decode prog_8_method_29_code 1 = .ok (.iload_n 2, 1) := by decide +kernel
theorem d_MOD_reach_2 : decode prog_8_method_29_code 2 = .ok (.irem, 1) := by decide +kernel
theorem d_MOD_reach_3 : decode prog_8_method_29_code 3 = .ok (.ifCond .eq 11, 3) := by decide +kernel
theorem d_MOD_reach_6 : decode prog_8_method_29_code 6 = .ok (.aload_n 0, 1) := by decide +kernel
theorem d_MOD_reach_7 : decode prog_8_method_29_code 7 = .ok (.iload_n 3, 1) := by decide +kernel
theorem d_MOD_reach_8 : decode prog_8_method_29_code 8 = .ok (.invokevirtual 128, 3) := by decide +kernel
theorem d_MOD_reach_11 : decode prog_8_method_29_code 11 = .ok (.goto 22, 3) := by decide +kernel
theorem d_MOD_reach_14 : decode prog_8_method_29_code 14 = .ok (.aload_n 0, 1) := by decide +kernel
theorem d_MOD_reach_15 : decode prog_8_method_29_code 15 = .ok (.aload_n 0, 1) := by decide +kernel
theorem d_MOD_reach_16 : decode prog_8_method_29_code 16 = .ok (.getfield 97, 3) := by decide +kernel
theorem d_MOD_reach_19 : decode prog_8_method_29_code 19 = .ok (.iload_n 1, 1) := by decide +kernel
theorem d_MOD_reach_20 : decode prog_8_method_29_code 20 = .ok (.invokevirtual 124, 3) := by decide +kernel
theorem d_MOD_reach_23 : decode prog_8_method_29_code 23 = .ok (.ifCond .ne 10, 3) := by decide +kernel
theorem d_MOD_reach_26 : decode prog_8_method_29_code 26 = .ok (.aload_n 0, 1) := by decide +kernel
theorem d_MOD_reach_27 : decode prog_8_method_29_code 27 = .ok (.iload_n 3, 1) := by decide +kernel
theorem d_MOD_reach_28 : decode prog_8_method_29_code 28 = .ok (.iconst 1, 1) := by decide +kernel
theorem d_MOD_reach_29 : decode prog_8_method_29_code 29 = .ok (.iadd, 1) := by decide +kernel
theorem d_MOD_reach_30 : decode prog_8_method_29_code 30 = .ok (.invokevirtual 128, 3) := by decide +kernel
theorem d_MOD_reach_33 : decode prog_8_method_29_code 33 = .ok (.aload_n 0, 1) := by decide +kernel
theorem d_MOD_reach_34 : decode prog_8_method_29_code 34 = .ok (.getfield 100, 3) := by decide +kernel
theorem d_MOD_reach_37 : decode prog_8_method_29_code 37 = .ok (.ireturn, 1) := by decide +kernel
theorem d_MOD_read_0 : decode prog_8_method_30_code 0 = .ok (.aload_n 0, 1) := by decide +kernel
theorem d_MOD_read_1 : decode prog_8_method_30_code 1 = .ok (.bipush 12, 2) := by decide +kernel
theorem d_MOD_read_3 : decode prog_8_method_30_code 3 = .ok (.iconst 3, 1) := by decide +kernel
theorem d_MOD_read_4 : decode prog_8_method_30_code 4 = .ok (.invokevirtual 110, 3) := by decide +kernel
theorem d_MOD_read_7 : decode prog_8_method_30_code 7 = .ok (.istore_n 1, 1) := by decide +kernel
theorem d_MOD_read_8 : decode prog_8_method_30_code 8 = .ok (.aload_n 0, 1) := by decide +kernel
theorem d_MOD_read_9 : decode prog_8_method_30_code 9 = .ok (.invokevirtual 141, 3) := by decide +kernel
theorem d_MOD_read_12 : decode prog_8_method_30_code 12 = .ok (.aload_n 0, 1) := by decide +kernel
theorem d_MOD_read_13 : decode prog_8_method_30_code 13 = .ok (.getfield 107, 3) := by decide +kernel
theorem d_MOD_read_16 : decode prog_8_method_30_code 16 = .ok (.bipush 20, 2) := by decide +kernel
theorem d_MOD_read_18 : decode prog_8_method_30_code 18 = .ok (.ishr, 1) := by decide +kernel
theorem d_MOD_read_19 : decode prog_8_method_30_code 19 = .ok (.iadd, 1) := by decide +kernel
theorem d_MOD_read_20 : decode prog_8_method_30_code 20 = .ok (.istore_n 2, 1) := by decide +kernel
theorem d_MOD_read_21 : decode prog_8_method_30_code 21 = .ok (.iload_n 1, 1) := by decide +kernel
theorem d_MOD_read_22 : decode prog_8_method_30_code 22 = .ok (.iconst 4, 1) := by decide +kernel
theorem d_MOD_read_23 : decode prog_8_method_30_code 23 = .ok (.irem, 1) := by decide +kernel
theorem d_MOD_read_24 : decode prog_8_method_30_code 24 = .ok (.ifCond .ne 7, 3) := by decide +kernel
theorem d_MOD_read_27 : decode prog_8_method_30_code 27 = .ok (.iconst 1, 1) := by decide +kernel
theorem d_MOD_read_28 : decode prog_8_method_30_code 28 = .ok (.goto 15, 3) := by decide +kernel
theorem d_MOD_read_31 : decode prog_8_method_30_code 31 = .ok (.iload_n 1, 1) := by decide +kernel
theorem d_MOD_read_32 : decode prog_8_method_30_code 32 = .ok (.iconst 4, 1) := by decide +kernel
theorem d_MOD_read_33 : decode prog_8_method_30_code 33 = .ok (.irem, 1) := by decide +kernel
theorem d_MOD_read_34 : decode prog_8_method_30_code 34 = .ok (.iconst 1, 1) := by decide +kernel
theorem d_MOD_read_35 : decode prog_8_method_30_code 35 = .ok (.if_icmp .ne 7, 3) := by decide +kernel
theorem d_MOD_read_38 : decode prog_8_method_30_code 38 = .ok (.iconst 2, 1) := by decide +kernel
theorem d_MOD_read_39 : decode prog_8_method_30_code 39 = .ok (.goto 4, 3) := by decide +kernel
theorem d_MOD_read_42 : decode prog_8_method_30_code 42 = .ok (.iconst 4, 1) := by decide +kernel
theorem d_MOD_read_43 : decode prog_8_method_30_code 43 = .ok (.istore_n 3, 1) := by decide +kernel
theorem d_MOD_read_44 : decode prog_8_method_30_code 44 = .ok (.iload_n 1, 1) := by decide +kernel
theorem d_MOD_read_45 : decode prog_8_method_30_code 45 = .ok (.iconst 3, 1) := by decide +kernel
theorem d_MOD_read_46 : decode prog_8_method_30_code 46 = .ok (.if_icmp .eq 8, 3) := by decide +kernel
theorem d_MOD_read_49 : decode prog_8_method_30_code 49 = .ok (.iload_n 1, 1) := by decide +kernel
theorem d_MOD_read_50 : decode prog_8_method_30_code 50 = .ok (.iconst 5, 1) := by decide +kernel
theorem d_MOD_read_51 : decode prog_8_method_30_code 51 = .ok (.if_icmp .le 9, 3) := by decide +kernel
theorem d_MOD_read_54 : decode prog_8_method_30_code 54 = .ok (.aload_n 0, 1) := by decide +kernel
theorem d_MOD_read_55 : decode prog_8_method_30_code 55 = .ok (.iconst 2, 1) := by decide +kernel
theorem d_MOD_read_56 : decode prog_8_method_30_code 56 = .ok (.invokevirtual 128, 3) := by decide +kernel
theorem d_MOD_read_59 : decode prog_8_method_30_code 59 = .ok (.return_, 1) := by decide +kernel
theorem d_MOD_read_60 : decode prog_8_method_30_code 60 = .ok (.aload_n 0, 1) := by decide +kernel
theorem d_MOD_read_61 : decode prog_8_method_30_code 61 = .ok (.iload_n 2, 1) := by decide +kernel
theorem d_MOD_read_62 : decode prog_8_method_30_code 62 = .ok (.iload_n 3, 1) := by decide +kernel
theorem d_MOD_read_63 : decode prog_8_method_30_code 63 = .ok (.iconst 4, 1) := by decide +kernel
theorem d_MOD_read_64 : decode prog_8_method_30_code 64 = .ok (.invokevirtual 168, 3) := by decide +kernel
theorem d_MOD_read_67 : decode prog_8_method_30_code 67 = .ok (.ifCond .ne 4, 3) := by decide +kernel
theorem d_MOD_read_70 : decode prog_8_method_30_code 70 = .ok (.return_, 1) := by decide +kernel
theorem d_MOD_read_71 : decode prog_8_method_30_code 71 = .ok (.iconst 0, 1) := by decide +kernel
theorem d_MOD_read_72 : decode prog_8_method_30_code 72 = .ok (.istore 4, 2) := by decide +kernel
theorem d_MOD_read_74 : decode prog_8_method_30_code 74 = .ok (.iload_n 3, 1) := by decide +kernel
theorem d_MOD_read_75 : decode prog_8_method_30_code 75 = .ok (.iconst 1, 1) := by decide +kernel
theorem d_MOD_read_76 : decode prog_8_method_30_code 76 = .ok (.isub, 1) := by decide +kernel
theorem d_MOD_read_77 : decode prog_8_method_30_code 77 = .ok (.istore 5, 2) := by decide +kernel
theorem d_MOD_read_79 : decode prog_8_method_30_code 79 = .ok (.iload 5, 2) := by decide +kernel
theorem d_MOD_read_81 : decode prog_8_method_30_code 81 = .ok (.ifCond .lt 29, 3) := by decide +kernel
theorem d_MOD_read_84 : decode prog_8_method_30_code 84 = .ok (.iload 4, 2) := by decide +kernel
theorem d_MOD_read_86 : decode prog_8_method_30_code 86 = .ok (.bipush 8, 2) := by decide +kernel
theorem d_MOD_read_88 : decode prog_8_method_30_code 88 = .ok (.ishl, 1) := by decide +kernel
theorem d_MOD_read_89 : decode prog_8_method_30_code 89 = .ok (.aload_n 0, 1) := by decide +kernel
theorem d_MOD_read_90 : decode prog_8_method_30_code 90 = .ok (.aload_n 0, 1) := by decide +kernel
theorem d_MOD_read_91 : decode prog_8_method_30_code 91 = .ok (.getfield 97, 3) := by decide +kernel
theorem d_MOD_read_94 : decode prog_8_method_30_code 94 = .ok (.iload_n 2, 1) := by decide +kernel
theorem d_MOD_read_95 : decode prog_8_method_30_code 95 = .ok (.iload 5, 2) := by decide +kernel
theorem d_MOD_read_97 : decode prog_8_method_30_code 97 = .ok (.iadd, 1) := by decide +kernel
theorem d_MOD_read_98 : decode prog_8_method_30_code 98 = .ok (.invokevirtual 172, 3) := by decide +kernel
theorem d_MOD_read_101 : decode prog_8_method_30_code 101 = .ok (.ior, 1) := by decide +kernel
theorem d_MOD_read_102 : decode prog_8_method_30_code 102 = .ok (.istore 4, 2) := by decide +kernel
theorem d_MOD_read_104 : decode prog_8_method_30_code 104 = .ok (.iinc 5 (-1), 3) := by decide +kernel
theorem d_MOD_read_107 : decode prog_8_method_30_code 107 = .ok (.goto (-28), 3) := by decide +kernel
theorem d_MOD_read_110 : decode prog_8_method_30_code 110 = .ok (.bipush 32, 2) := by decide +kernel
theorem d_MOD_read_112 : decode prog_8_method_30_code 112 = .ok (.bipush 8, 2) := by decide +kernel
theorem d_MOD_read_114 : decode prog_8_method_30_code 114 = .ok (.iload_n 3, 1) := by decide +kernel
theorem d_MOD_read_115 : decode prog_8_method_30_code 115 = .ok (.imul, 1) := by decide +kernel
theorem d_MOD_read_116 : decode prog_8_method_30_code 116 = .ok (.isub, 1) := by decide +kernel
theorem d_MOD_read_117 : decode prog_8_method_30_code 117 = .ok (.istore 5, 2) := by decide +kernel
theorem d_MOD_read_119 : decode prog_8_method_30_code 119 = .ok (.aload_n 0, 1) := by decide +kernel
theorem d_MOD_read_120 : decode prog_8_method_30_code 120 = .ok (.aload_n 0, 1) := by decide +kernel
theorem d_MOD_read_121 : decode prog_8_method_30_code 121 = .ok (.invokevirtual 131, 3) := by decide +kernel
theorem d_MOD_read_124 : decode prog_8_method_30_code 124 = .ok (.iload_n 1, 1) := by decide +kernel
theorem d_MOD_read_125 : decode prog_8_method_30_code 125 = .ok (.iconst 3, 1) := by decide +kernel
theorem d_MOD_read_126 : decode prog_8_method_30_code 126 = .ok (.if_icmp .ge 14, 3) := by decide +kernel
theorem d_MOD_read_129 : decode prog_8_method_30_code 129 = .ok (.iload 4, 2) := by decide +kernel
theorem d_MOD_read_131 : decode prog_8_method_30_code 131 = .ok (.iload 5, 2) := by decide +kernel
theorem d_MOD_read_133 : decode prog_8_method_30_code 133 = .ok (.ishl, 1) := by decide +kernel
theorem d_MOD_read_134 : decode prog_8_method_30_code 134 = .ok (.iload 5, 2) := by decide +kernel
theorem d_MOD_read_136 : decode prog_8_method_30_code 136 = .ok (.ishr, 1) := by decide +kernel
theorem d_MOD_read_137 : decode prog_8_method_30_code 137 = .ok (.goto 5, 3) := by decide +kernel
theorem d_MOD_read_140 : decode prog_8_method_30_code 140 = .ok (.iload 4, 2) := by decide +kernel
theorem d_MOD_read_142 : decode prog_8_method_30_code 142 = .ok (.invokevirtual 135, 3) := by decide +kernel
theorem d_MOD_read_145 : decode prog_8_method_30_code 145 = .ok (.return_, 1) := by decide +kernel
end
section
theorem d_MOD_write_0 : decode prog_8_method_31_code 0 = .ok (.aload_n 0, 1) := by decide +kernel
theorem d_MOD_write_1 : decode prog_8_method_31_code 1 = .ok (.bipush 12, 2) := by decide +kernel
theorem d_MOD_write_3 : decode prog_8_method_31_code 3 = .ok (.iconst 3, 1) := by decide +kernel
theorem d_MOD_write_4 : decode prog_8_method_31_code 4 = .ok (.invokevirtual 110, 3) := by decide +kernel
theorem d_MOD_write_7 : decode prog_8_method_31_code 7 = .ok (.istore_n 1, 1) := by decide +kernel
theorem d_MOD_write_8 : decode prog_8_method_31_code 8 = .ok (.aload_n 0, 1) := by decide +kernel
theorem d_MOD_write_9 : decode prog_8_method_31_code 9 = .ok (.invokevirtual 141, 3) := by decide +kernel
theorem d_MOD_write_12 : decode prog_8_method_31_code 12 = .ok (.aload_n 0, 1) := by decide +kernel
theorem d_MOD_write_13 : decode prog_8_method_31_code 13 = .ok (.getfield 107, 3) := by decide +kernel
theorem d_MOD_write_16 : decode prog_8_method_31_code 16 = .ok (.bipush 25, 2) := by decide +kernel
theorem d_MOD_write_18 : decode prog_8_method_31_code 18 = .ok (.ishr, 1) := by decide +kernel
theorem d_MOD_write_19 : decode prog_8_method_31_code 19 = .ok (.iconst 5, 1) := by decide +kernel
theorem d_MOD_write_20 : decode prog_8_method_31_code 20 = .ok (.ishl, 1) := by decide +kernel
theorem d_MOD_write_21 : decode prog_8_method_31_code 21 = .ok (.aload_n 0, 1) := by decide +kernel
theorem d_MOD_write_22 : decode prog_8_method_31_code 22 = .ok (.bipush 7, 2) := by decide +kernel
theorem d_MOD_write_24 : decode prog_8_method_31_code 24 = .ok (.iconst 5, 1) := by decide +kernel
theorem d_MOD_write_25 : decode prog_8_method_31_code 25 = .ok (.invokevirtual 110, 3) := by decide +kernel
theorem d_MOD_write_28 : decode prog_8_method_31_code 28 = .ok (.ior, 1) := by decide +kernel
theorem d_MOD_write_29 : decode prog_8_method_31_code 29 = .ok (.iadd, 1) := by decide +kernel
theorem d_MOD_write_30 : decode prog_8_method_31_code 30 = .ok (.istore_n 2, 1) := by decide +kernel
theorem d_MOD_write_31 : decode prog_8_method_31_code 31 = .ok (.aload_n 0, 1) := by decide +kernel
theorem d_MOD_write_32 : decode prog_8_method_31_code 32 = .ok (.invokevirtual 161, 3) := by decide +kernel
theorem d_MOD_write_35 : decode prog_8_method_31_code 35 = .ok (.istore_n 3, 1) := by decide +kernel
theorem d_MOD_write_36 : decode prog_8_method_31_code 36 = .ok (.iload_n 1, 1) := by decide +kernel
theorem d_MOD_write_37 : decode prog_8_method_31_code 37 = .ok (.iconst 2, 1) := by decide +kernel
theorem d_MOD_write_38 : decode prog_8_method_31_code 38 = .ok (.if_icmp .le 9, 3) := by decide +kernel
theorem d_MOD_write_41 : decode prog_8_method_31_code 41 = .ok (.aload_n 0, 1) := by decide +kernel
theorem d_MOD_write_42 : decode prog_8_method_31_code 42 = .ok (.iconst 2, 1) := by decide +kernel
theorem d_MOD_write_43 : decode prog_8_method_31_code 43 = .ok (.invokevirtual 128, 3) := by decide +kernel
theorem d_MOD_write_46 : decode prog_8_method_31_code 46 = .ok (.return_, 1) := by decide +kernel
theorem d_MOD_write_47 : decode prog_8_method_31_code 47 = .ok (.iload_n 1, 1) := by decide +kernel
theorem d_MOD_write_48 : decode prog_8_method_31_code 48 = .ok (.ifCond .ne 7, 3) := by decide +kernel
theorem d_MOD_write_51 : decode prog_8_method_31_code 51 = .ok (.iconst 1, 1) := by decide +kernel
theorem d_MOD_write_52 : decode prog_8_method_31_code 52 = .ok (.goto 13, 3) := by decide +kernel
theorem d_MOD_write_55 : decode prog_8_method_31_code 55 = .ok (.iload_n 1, 1) := by decide +kernel
theorem d_MOD_write_56 : decode prog_8_method_31_code 56 = .ok (.iconst 1, 1) := by decide +kernel
theorem d_MOD_write_57 : decode prog_8_method_31_code 57 = .ok (.if_icmp .ne 7, 3) := by decide +kernel
theorem d_MOD_write_60 : decode prog_8_method_31_code 60 = .ok (.iconst 2, 1) := by decide +kernel
theorem d_MOD_write_61 : decode prog_8_method_31_code 61 = .ok (.goto 4, 3) := by decide +kernel
theorem d_MOD_write_64 : decode prog_8_method_31_code 64 = .ok (.iconst 4, 1) := by decide +kernel
theorem d_MOD_write_65 : decode prog_8_method_31_code 65 = .ok (.istore 4, 2) := by decide +kernel
theorem d_MOD_write_67 : decode prog_8_method_31_code 67 = .ok (.aload_n 0, 1) := by decide +kernel
theorem d_MOD_write_68 : decode prog_8_method_31_code 68 = .ok (.iload_n 2, 1) := by decide +kernel
theorem d_MOD_write_69 : decode prog_8_method_31_code 69 = .ok (.iload 4, 2) := by decide +kernel
theorem d_MOD_write_71 : decode prog_8_method_31_code 71 = .ok (.bipush 6, 2) := by decide +kernel
theorem d_MOD_write_73 : decode prog_8_method_31_code 73 = .ok (.invokevirtual 168, 3) := by decide +kernel
theorem d_MOD_write_76 : decode prog_8_method_31_code 76 = .ok (.ifCond .ne 4, 3) := by decide +kernel
theorem d_MOD_write_79 : decode prog_8_method_31_code 79 = .ok (.return_, 1) := by decide +kernel
theorem d_MOD_write_80 : decode prog_8_method_31_code 80 = .ok (.iconst 0, 1) := by decide +kernel
theorem d_MOD_write_81 : decode prog_8_method_31_code 81 = .ok (.istore 5, 2) := by decide +kernel
theorem d_MOD_write_83 : decode prog_8_method_31_code 83 = .ok (.iload 5, 2) := by decide +kernel
theorem d_MOD_write_85 : decode prog_8_method_31_code 85 = .ok (.iload 4, 2) := by decide +kernel
theorem d_MOD_write_87 : decode prog_8_method_31_code 87 = .ok (.if_icmp .ge 28, 3) := by decide +kernel
theorem d_MOD_write_90 : decode prog_8_method_31_code 90 = .ok (.aload_n 0, 1) := by decide +kernel
theorem d_MOD_write_91 : decode prog_8_method_31_code 91 = .ok (.aload_n 0, 1) := by decide +kernel
theorem d_MOD_write_92 : decode prog_8_method_31_code 92 = .ok (.getfield 97, 3) := by decide +kernel
theorem d_MOD_write_95 : decode prog_8_method_31_code 95 = .ok (.iload_n 2, 1) := by decide +kernel
theorem d_MOD_write_96 : decode prog_8_method_31_code 96 = .ok (.iload 5, 2) := by decide +kernel
theorem d_MOD_write_98 : decode prog_8_method_31_code 98 = .ok (.iadd, 1) := by decide +kernel
theorem d_MOD_write_99 : decode prog_8_method_31_code 99 = .ok (.iload_n 3, 1) := by decide +kernel
theorem d_MOD_write_100 : decode prog_8_method_31_code 100 = .ok (.bipush 8, 2) := by decide +kernel
theorem d_MOD_write_102 : decode prog_8_method_31_code 102 = .ok (.iload 5, 2) := by decide +kernel
theorem d_MOD_write_104 : decode prog_8_method_31_code 104 = .ok (.imul, 1) := by decide +kernel
theorem d_MOD_write_105 : decode prog_8_method_31_code 105 = .ok (.ishr, 1) := by decide +kernel
theorem d_MOD_write_106 : decode prog_8_method_31_code 106 = .ok (.invokevirtual 175, 3) := by decide +kernel
theorem d_MOD_write_109 : decode prog_8_method_31_code 109 = .ok (.iinc 5 1, 3) := by decide +kernel
theorem d_MOD_write_112 : decode prog_8_method_31_code 112 = .ok (.goto (-29), 3) := by decide +kernel
theorem d_MOD_write_115 : decode prog_8_method_31_code 115 = .ok (.return_, 1) := by decide +kernel
theorem d_MOD_compute_0 : decode prog_8_method_32_code 0 = .ok (.aload_n 0, 1) := by decide +kernel
theorem d_MOD_compute_1 : decode prog_8_method_32_code 1 = .ok (.bipush 12, 2) := by decide +kernel
theorem d_MOD_compute_3 : decode prog_8_method_32_code 3 = .ok (.iconst 3, 1) := by decide +kernel
theorem d_MOD_compute_4 : decode prog_8_method_32_code 4 = .ok (.invokevirtual 110, 3) := by decide +kernel
theorem d_MOD_compute_7 : decode prog_8_method_32_code 7 = .ok (.istore_n 2, 1) := by decide +kernel
theorem d_MOD_compute_8 : decode prog_8_method_32_code 8 = .ok (.aload_n 0, 1) := by decide +kernel
theorem d_MOD_compute_9 : decode prog_8_method_32_code 9 = .ok (.bipush 25, 2) := by decide +kernel
theorem d_MOD_compute_11 : decode prog_8_method_32_code 11 = .ok (.bipush 7, 2) := by decide +kernel
theorem d_MOD_compute_13 : decode prog_8_method_32_code 13 = .ok (.invokevirtual 110, 3) := by decide +kernel
theorem d_MOD_compute_16 : decode prog_8_method_32_code 16 = .ok (.istore_n 3, 1) := by decide +kernel
theorem d_MOD_compute_17 : decode prog_8_method_32_code 17 = .ok (.aload_n 0, 1) := by decide +kernel
theorem d_MOD_compute_18 : decode prog_8_method_32_code 18 = .ok (.invokevirtual 141, 3) := by decide +kernel
theorem d_MOD_compute_21 : decode prog_8_method_32_code 21 = .ok (.istore 4, 2) := by decide +kernel
theorem d_MOD_compute_23 : decode prog_8_method_32_code 23 = .ok (.iload_n 1, 1) := by decide +kernel
theorem d_MOD_compute_24 : decode prog_8_method_32_code 24 = .ok (.ifCond .eq 10, 3) := by decide +kernel
theorem d_MOD_compute_27 : decode prog_8_method_32_code 27 = .ok (.aload_n 0, 1) := by decide +kernel
theorem d_MOD_compute_28 : decode prog_8_method_32_code 28 = .ok (.invokevirtual 161, 3) := by decide +kernel
theorem d_MOD_compute_31 : decode prog_8_method_32_code 31 = .ok (.goto 10, 3) := by decide +kernel
theorem d_MOD_compute_34 : decode prog_8_method_32_code 34 = .ok (.aload_n 0, 1) := by decide +kernel
theorem d_MOD_compute_35 : decode prog_8_method_32_code 35 = .ok (.getfield 107, 3) := by decide +kernel
theorem d_MOD_compute_38 : decode prog_8_method_32_code 38 = .ok (.bipush 20, 2) := by decide +kernel
theorem d_MOD_compute_40 : decode prog_8_method_32_code 40 = .ok (.ishr, 1) := by decide +kernel
theorem d_MOD_compute_41 : decode prog_8_method_32_code 41 = .ok (.istore 5, 2) := by decide +kernel
theorem d_MOD_compute_43 : decode prog_8_method_32_code 43 = .ok (.iload_n 1, 1) := by decide +kernel
theorem d_MOD_compute_44 : decode prog_8_method_32_code 44 = .ok (.ifCond .eq 11, 3) := by decide +kernel
theorem d_MOD_compute_47 : decode prog_8_method_32_code 47 = .ok (.iload 5, 2) := by decide +kernel
theorem d_MOD_compute_49 : decode prog_8_method_32_code 49 = .ok (.bipush 31, 2) := by decide +kernel
theorem d_MOD_compute_51 : decode prog_8_method_32_code 51 = .ok (.iand, 1) := by decide +kernel
theorem d_MOD_compute_52 : decode prog_8_method_32_code 52 = .ok (.goto 10, 3) := by decide +kernel
theorem d_MOD_compute_55 : decode prog_8_method_32_code 55 = .ok (.aload_n 0, 1) := by decide +kernel
theorem d_MOD_compute_56 : decode prog_8_method_32_code 56 = .ok (.bipush 20, 2) := by decide +kernel
theorem d_MOD_compute_58 : decode prog_8_method_32_code 58 = .ok (.iconst 5, 1) := by decide +kernel
theorem d_MOD_compute_59 : decode prog_8_method_32_code 59 = .ok (.invokevirtual 110, 3) := by decide +kernel
theorem d_MOD_compute_62 : decode prog_8_method_32_code 62 = .ok (.istore 6, 2) := by decide +kernel
theorem d_MOD_compute_64 : decode prog_8_method_32_code 64 = .ok (.iload_n 2, 1) := by decide +kernel
theorem d_MOD_compute_65 : decode prog_8_method_32_code 65 = .ok (.iconst 1, 1) := by decide +kernel
theorem d_MOD_compute_66 : decode prog_8_method_32_code 66 = .ok (.if_icmp .eq 8, 3) := by decide +kernel
theorem d_MOD_compute_69 : decode prog_8_method_32_code 69 = .ok (.iload_n 2, 1) := by decide +kernel
theorem d_MOD_compute_70 : decode prog_8_method_32_code 70 = .ok (.iconst 5, 1) := by decide +kernel
theorem d_MOD_compute_71 : decode prog_8_method_32_code 71 = .ok (.if_icmp .ne 7, 3) := by decide +kernel
theorem d_MOD_compute_74 : decode prog_8_method_32_code 74 = .ok (.iconst 1, 1) := by decide +kernel
theorem d_MOD_compute_75 : decode prog_8_method_32_code 75 = .ok (.goto 4, 3) := by decide +kernel
theorem d_MOD_compute_78 : decode prog_8_method_32_code 78 = .ok (.iconst 0, 1) := by decide +kernel
theorem d_MOD_compute_79 : decode prog_8_method_32_code 79 = .ok (.istore 7, 2) := by decide +kernel
theorem d_MOD_compute_81 : decode prog_8_method_32_code 81 = .ok (.iload_n 3, 1) := by decide +kernel
theorem d_MOD_compute_82 : decode prog_8_method_32_code 82 = .ok (.bipush 32, 2) := by decide +kernel
theorem d_MOD_compute_84 : decode prog_8_method_32_code 84 = .ok (.if_icmp .ne 20, 3) := by decide +kernel
theorem d_MOD_compute_87 : decode prog_8_method_32_code 87 = .ok (.iload_n 2, 1) := by decide +kernel
theorem d_MOD_compute_88 : decode prog_8_method_32_code 88 = .ok (.iconst 5, 1) := by decide +kernel
theorem d_MOD_compute_89 : decode prog_8_method_32_code 89 = .ok (.if_icmp .eq 11, 3) := by decide +kernel
theorem d_MOD_compute_92 : decode prog_8_method_32_code 92 = .ok (.iload_n 1, 1) := by decide +kernel
theorem d_MOD_compute_93 : decode prog_8_method_32_code 93 = .ok (.ifCond .eq 11, 3) := by decide +kernel
theorem d_MOD_compute_96 : decode prog_8_method_32_code 96 = .ok (.iload_n 2, 1) := by decide +kernel
theorem d_MOD_compute_97 : decode prog_8_method_32_code 97 = .ok (.ifCond .ne 7, 3) := by decide +kernel
theorem d_MOD_compute_100 : decode prog_8_method_32_code 100 = .ok (.iconst 1, 1) := by decide +kernel
theorem d_MOD_compute_101 : decode prog_8_method_32_code 101 = .ok (.goto 4, 3) := by decide +kernel
theorem d_MOD_compute_104 : decode prog_8_method_32_code 104 = .ok (.iconst 0, 1) := by decide +kernel
theorem d_MOD_compute_105 : decode prog_8_method_32_code 105 = .ok (.istore 8, 2) := by decide +kernel
theorem d_MOD_compute_107 : decode prog_8_method_32_code 107 = .ok (.iload_n 3, 1) := by decide +kernel
theorem d_MOD_compute_108 : decode prog_8_method_32_code 108 = .ok (.ifCond .eq 23, 3) := by decide +kernel
theorem d_MOD_compute_111 : decode prog_8_method_32_code 111 = .ok (.iload 8, 2) := by decide +kernel
theorem d_MOD_compute_113 : decode prog_8_method_32_code 113 = .ok (.ifCond .ne 18, 3) := by decide +kernel
theorem d_MOD_compute_116 : decode prog_8_method_32_code 116 = .ok (.iload_n 1, 1) := by decide +kernel
theorem d_MOD_compute_117 : decode prog_8_method_32_code 117 = .ok (.ifCond .ne 8, 3) := by decide +kernel
theorem d_MOD_compute_120 : decode prog_8_method_32_code 120 = .ok (.iload 7, 2) := by decide +kernel
theorem d_MOD_compute_122 : decode prog_8_method_32_code 122 = .ok (.ifCond .eq 9, 3) := by decide +kernel
theorem d_MOD_compute_125 : decode prog_8_method_32_code 125 = .ok (.aload_n 0, 1) := by decide +kernel
theorem d_MOD_compute_126 : decode prog_8_method_32_code 126 = .ok (.iconst 2, 1) := by decide +kernel
theorem d_MOD_compute_127 : decode prog_8_method_32_code 127 = .ok (.invokevirtual 128, 3) := by decide +kernel
theorem d_MOD_compute_130 : decode prog_8_method_32_code 130 = .ok (.return_, 1) := by decide +kernel
theorem d_MOD_compute_131 : decode prog_8_method_32_code 131 = .ok (.iconst 0, 1) := by decide +kernel
theorem d_MOD_compute_132 : decode prog_8_method_32_code 132 = .ok (.istore 9, 2) := by decide +kernel
theorem d_MOD_compute_134 : decode prog_8_method_32_code 134 = .ok (.iload_n 2, 1) := by decide +kernel
theorem d_MOD_compute_135 : decode prog_8_method_32_code 135 = .ok (.ifCond .ne 30, 3) := by decide +kernel
theorem d_MOD_compute_138 : decode prog_8_method_32_code 138 = .ok (.iload_n 1, 1) := by decide +kernel
theorem d_MOD_compute_139 : decode prog_8_method_32_code 139 = .ok (.ifCond .eq 16, 3) := by decide +kernel
theorem d_MOD_compute_142 : decode prog_8_method_32_code 142 = .ok (.iload 8, 2) := by decide +kernel
theorem d_MOD_compute_144 : decode prog_8_method_32_code 144 = .ok (.ifCond .eq 11, 3) := by decide +kernel
theorem d_MOD_compute_147 : decode prog_8_method_32_code 147 = .ok (.iload 4, 2) := by decide +kernel
theorem d_MOD_compute_149 : decode prog_8_method_32_code 149 = .ok (.iload 5, 2) := by decide +kernel
theorem d_MOD_compute_151 : decode prog_8_method_32_code 151 = .ok (.isub, 1) := by decide +kernel
theorem d_MOD_compute_152 : decode prog_8_method_32_code 152 = .ok (.goto 8, 3) := by decide +kernel
theorem d_MOD_compute_155 : decode prog_8_method_32_code 155 = .ok (.iload 4, 2) := by decide +kernel
theorem d_MOD_compute_157 : decode prog_8_method_32_code 157 = .ok (.iload 5, 2) := by decide +kernel
theorem d_MOD_compute_159 : decode prog_8_method_32_code 159 = .ok (.iadd, 1) := by decide +kernel
theorem d_MOD_compute_160 : decode prog_8_method_32_code 160 = .ok (.istore 9, 2) := by decide +kernel
theorem d_MOD_compute_162 : decode prog_8_method_32_code 162 = .ok (.goto 122, 3) := by decide +kernel
theorem d_MOD_compute_165 : decode prog_8_method_32_code 165 = .ok (.iload_n 2, 1) := by decide +kernel
theorem d_MOD_compute_166 : decode prog_8_method_32_code 166 = .ok (.iconst 1, 1) := by decide +kernel
theorem d_MOD_compute_167 : decode prog_8_method_32_code 167 = .ok (.if_icmp .ne 13, 3) := by decide +kernel
theorem d_MOD_compute_170 : decode prog_8_method_32_code 170 = .ok (.iload 4, 2) := by decide +kernel
theorem d_MOD_compute_172 : decode prog_8_method_32_code 172 = .ok (.iload 6, 2) := by decide +kernel
theorem d_MOD_compute_174 : decode prog_8_method_32_code 174 = .ok (.ishl, 1) := by decide +kernel
theorem d_MOD_compute_175 : decode prog_8_method_32_code 175 = .ok (.istore 9, 2) := by decide +kernel
theorem d_MOD_compute_177 : decode prog_8_method_32_code 177 = .ok (.goto 107, 3) := by decide +kernel
theorem d_MOD_compute_180 : decode prog_8_method_32_code 180 = .ok (.iload_n 2, 1) := by decide +kernel
theorem d_MOD_compute_181 : decode prog_8_method_32_code 181 = .ok (.iconst 2, 1) := by decide +kernel
theorem d_MOD_compute_182 : decode prog_8_method_32_code 182 = .ok (.if_icmp .eq 8, 3) := by decide +kernel
theorem d_MOD_compute_185 : decode prog_8_method_32_code 185 = .ok (.iload_n 2, 1) := by decide +kernel
theorem d_MOD_compute_186 : decode prog_8_method_32_code 186 = .ok (.iconst 3, 1) := by decide +kernel
theorem d_MOD_compute_187 : decode prog_8_method_32_code 187 = .ok (.if_icmp .ne 33, 3) := by decide +kernel
theorem d_MOD_compute_190 : decode prog_8_method_32_code 190 = .ok (.iload 4, 2) := by decide +kernel
theorem d_MOD_compute_192 : decode prog_8_method_32_code 192 = .ok (.iload 5, 2) := by decide +kernel
theorem d_MOD_compute_194 : decode prog_8_method_32_code 194 = .ok (.iload_n 2, 1) := by decide +kernel
theorem d_MOD_compute_195 : decode prog_8_method_32_code 195 = .ok (.iconst 2, 1) := by decide +kernel
theorem d_MOD_compute_196 : decode prog_8_method_32_code 196 = .ok (.if_icmp .ne 7, 3) := by decide +kernel
theorem d_MOD_compute_199 : decode prog_8_method_32_code 199 = .ok (.iconst 1, 1) := by decide +kernel
theorem d_MOD_compute_200 : decode prog_8_method_32_code 200 = .ok (.goto 4, 3) := by decide +kernel
theorem d_MOD_compute_203 : decode prog_8_method_32_code 203 = .ok (.iconst 0, 1) := by decide +kernel
theorem d_MOD_compute_204 : decode prog_8_method_32_code 204 = .ok (.invokestatic 164, 3) := by decide +kernel
theorem d_MOD_compute_207 : decode prog_8_method_32_code 207 = .ok (.ifCond .eq 7, 3) := by decide +kernel
theorem d_MOD_compute_210 : decode prog_8_method_32_code 210 = .ok (.iconst 1, 1) := by decide +kernel
theorem d_MOD_compute_211 : decode prog_8_method_32_code 211 = .ok (.goto 4, 3) := by decide +kernel
theorem d_MOD_compute_214 : decode prog_8_method_32_code 214 = .ok (.iconst 0, 1) := by decide +kernel
theorem d_MOD_compute_215 : decode prog_8_method_32_code 215 = .ok (.istore 9, 2) := by decide +kernel
theorem d_MOD_compute_217 : decode prog_8_method_32_code 217 = .ok (.goto 67, 3) := by decide +kernel
theorem d_MOD_compute_220 : decode prog_8_method_32_code 220 = .ok (.iload_n 2, 1) := by decide +kernel
theorem d_MOD_compute_221 : decode prog_8_method_32_code 221 = .ok (.iconst 4, 1) := by decide +kernel
theorem d_MOD_compute_222 : decode prog_8_method_32_code 222 = .ok (.if_icmp .ne 13, 3) := by decide +kernel
theorem d_MOD_compute_225 : decode prog_8_method_32_code 225 = .ok (.iload 4, 2) := by decide +kernel
theorem d_MOD_compute_227 : decode prog_8_method_32_code 227 = .ok (.iload 5, 2) := by decide +kernel
theorem d_MOD_compute_229 : decode prog_8_method_32_code 229 = .ok (.ixor, 1) := by decide +kernel
theorem d_MOD_compute_230 : decode prog_8_method_32_code 230 = .ok (.istore 9, 2) := by decide +kernel
theorem d_MOD_compute_232 : decode prog_8_method_32_code 232 = .ok (.goto 52, 3) := by decide +kernel
theorem d_MOD_compute_235 : decode prog_8_method_32_code 235 = .ok (.iload_n 2, 1) := by decide +kernel
theorem d_MOD_compute_236 : decode prog_8_method_32_code 236 = .ok (.iconst 5, 1) := by decide +kernel
theorem d_MOD_compute_237 : decode prog_8_method_32_code 237 = .ok (.if_icmp .ne 26, 3) := by decide +kernel
theorem d_MOD_compute_240 : decode prog_8_method_32_code 240 = .ok (.iload 8, 2) := by decide +kernel
theorem d_MOD_compute_242 : decode prog_8_method_32_code 242 = .ok (.ifCond .eq 11, 3) := by decide +kernel
theorem d_MOD_compute_245 : decode prog_8_method_32_code 245 = .ok (.iload 4, 2) := by decide +kernel
theorem d_MOD_compute_247 : decode prog_8_method_32_code 247 = .ok (.iload 6, 2) := by decide +kernel
theorem d_MOD_compute_249 : decode prog_8_method_32_code 249 = .ok (.ishr, 1) := by decide +kernel
theorem d_MOD_compute_250 : decode prog_8_method_32_code 250 = .ok (.goto 8, 3) := by decide +kernel
theorem d_MOD_compute_253 : decode prog_8_method_32_code 253 = .ok (.iload 4, 2) := by decide +kernel
theorem d_MOD_compute_255 : decode prog_8_method_32_code 255 = .ok (.iload 6, 2) := by decide +kernel
theorem d_MOD_compute_257 : decode prog_8_method_32_code 257 = .ok (.iushr, 1) := by decide +kernel
theorem d_MOD_compute_258 : decode prog_8_method_32_code 258 = .ok (.istore 9, 2) := by decide +kernel
theorem d_MOD_compute_260 : decode prog_8_method_32_code 260 = .ok (.goto 24, 3) := by decide +kernel
theorem d_MOD_compute_263 : decode prog_8_method_32_code 263 = .ok (.iload_n 2, 1) := by decide +kernel
theorem d_MOD_compute_264 : decode prog_8_method_32_code 264 = .ok (.bipush 6, 2) := by decide +kernel
theorem d_MOD_compute_266 : decode prog_8_method_32_code 266 = .ok (.if_icmp .ne 11, 3) := by decide +kernel
theorem d_MOD_compute_269 : decode prog_8_method_32_code 269 = .ok (.iload 4, 2) := by decide +kernel
theorem d_MOD_compute_271 : decode prog_8_method_32_code 271 = .ok (.iload 5, 2) := by decide +kernel
theorem d_MOD_compute_273 : decode prog_8_method_32_code 273 = .ok (.ior, 1) := by decide +kernel
theorem d_MOD_compute_274 : decode prog_8_method_32_code 274 = .ok (.goto 8, 3) := by decide +kernel
theorem d_MOD_compute_277 : decode prog_8_method_32_code 277 = .ok (.iload 4, 2) := by decide +kernel
theorem d_MOD_compute_279 : decode prog_8_method_32_code 279 = .ok (.iload 5, 2) := by decide +kernel
theorem d_MOD_compute_281 : decode prog_8_method_32_code 281 = .ok (.iand, 1) := by decide +kernel
theorem d_MOD_compute_282 : decode prog_8_method_32_code 282 = .ok (.istore 9, 2) := by decide +kernel
theorem d_MOD_compute_284 : decode prog_8_method_32_code 284 = .ok (.aload_n 0, 1) := by decide +kernel
theorem d_MOD_compute_285 : decode prog_8_method_32_code 285 = .ok (.aload_n 0, 1) := by decide +kernel
theorem d_MOD_compute_286 : decode prog_8_method_32_code 286 = .ok (.invokevirtual 131, 3) := by decide +kernel
theorem d_MOD_compute_289 : decode prog_8_method_32_code 289 = .ok (.iload 9, 2) := by decide +kernel
theorem d_MOD_compute_291 : decode prog_8_method_32_code 291 = .ok (.invokevirtual 135, 3) := by decide +kernel
theorem d_MOD_compute_294 : decode prog_8_method_32_code 294 = .ok (.return_, 1) := by decide +kernel
theorem d_MOD_call_0 : decode prog_8_method_33_code 0 = .ok (.aload_n 0, 1) := by decide +kernel
theorem d_MOD_call_1 : decode prog_8_method_33_code 1 = .ok (.bipush 10, 2) := by decide +kernel
theorem d_MOD_call_3 : decode prog_8_method_33_code 3 = .ok (.invokevirtual 113, 3) := by decide +kernel
theorem d_MOD_call_6 : decode prog_8_method_33_code 6 = .ok (.istore_n 1, 1) := by decide +kernel
theorem d_MOD_call_7 : decode prog_8_method_33_code 7 = .ok (.aload_n 0, 1) := by decide +kernel
theorem d_MOD_call_8 : decode prog_8_method_33_code 8 = .ok (.bipush 17, 2) := by decide +kernel
theorem d_MOD_call_10 : decode prog_8_method_33_code 10 = .ok (.invokevirtual 113, 3) := by decide +kernel
theorem d_MOD_call_13 : decode prog_8_method_33_code 13 = .ok (.istore_n 2, 1) := by decide +kernel
theorem d_MOD_call_14 : decode prog_8_method_33_code 14 = .ok (.iload_n 2, 1) := by decide +kernel
theorem d_MOD_call_15 : decode prog_8_method_33_code 15 = .ok (.ifCond .ne 11, 3) := by decide +kernel
theorem d_MOD_call_18 : decode prog_8_method_33_code 18 = .ok (.aload_n 0, 1) := by decide +kernel
theorem d_MOD_call_19 : decode prog_8_method_33_code 19 = .ok (.iconst 1, 1) := by decide +kernel
theorem d_MOD_call_20 : decode prog_8_method_33_code 20 = .ok (.putfield 118, 3) := by decide +kernel
theorem d_MOD_call_23 : decode prog_8_method_33_code 23 = .ok (.goto 209, 3) := by decide +kernel
theorem d_MOD_call_26 : decode prog_8_method_33_code 26 = .ok (.iload_n 2, 1) := by decide +kernel
theorem d_MOD_call_27 : decode prog_8_method_33_code 27 = .ok (.iconst 1, 1) := by decide +kernel
theorem d_MOD_call_28 : decode prog_8_method_33_code 28 = .ok (.if_icmp .ne 11, 3) := by decide +kernel
theorem d_MOD_call_31 : decode prog_8_method_33_code 31 = .ok (.aload_n 0, 1) := by decide +kernel
theorem d_MOD_call_32 : decode prog_8_method_33_code 32 = .ok (.iload_n 1, 1) := by decide +kernel
theorem d_MOD_call_33 : decode prog_8_method_33_code 33 = .ok (.invokevirtual 179, 3) := by decide +kernel
theorem d_MOD_call_36 : decode prog_8_method_33_code 36 = .ok (.goto 196, 3) := by decide +kernel
theorem d_MOD_call_39 : decode prog_8_method_33_code 39 = .ok (.iload_n 2, 1) := by decide +kernel
theorem d_MOD_call_40 : decode prog_8_method_33_code 40 = .ok (.iconst 2, 1) := by decide +kernel
theorem d_MOD_call_41 : decode prog_8_method_33_code 41 = .ok (.if_icmp .ne 16, 3) := by decide +kernel
theorem d_MOD_call_44 : decode prog_8_method_33_code 44 = .ok (.aload_n 0, 1) := by decide +kernel
theorem d_MOD_call_45 : decode prog_8_method_33_code 45 = .ok (.bipush 10, 2) := by decide +kernel
theorem d_MOD_call_47 : decode prog_8_method_33_code 47 = .ok (.aload_n 0, 1) := by decide +kernel
theorem d_MOD_call_48 : decode prog_8_method_33_code 48 = .ok (.getfield 97, 3) := by decide +kernel
theorem d_MOD_call_51 : decode prog_8_method_33_code 51 = .ok (.invokevirtual 135, 3) := by decide +kernel
theorem d_MOD_call_54 : decode prog_8_method_33_code 54 = .ok (.goto 178, 3) := by decide +kernel
theorem d_MOD_call_57 : decode prog_8_method_33_code 57 = .ok (.iload_n 2, 1) := by decide +kernel
theorem d_MOD_call_58 : decode prog_8_method_33_code 58 = .ok (.iconst 3, 1) := by decide +kernel
theorem d_MOD_call_59 : decode prog_8_method_33_code 59 = .ok (.if_icmp .ne 16, 3) := by decide +kernel
theorem d_MOD_call_62 : decode prog_8_method_33_code 62 = .ok (.aload_n 0, 1) := by decide +kernel
theorem d_MOD_call_63 : decode prog_8_method_33_code 63 = .ok (.bipush 10, 2) := by decide +kernel
theorem d_MOD_call_65 : decode prog_8_method_33_code 65 = .ok (.aload_n 0, 1) := by decide +kernel
theorem d_MOD_call_66 : decode prog_8_method_33_code 66 = .ok (.invokevirtual 182, 3) := by decide +kernel
theorem d_MOD_call_69 : decode prog_8_method_33_code 69 = .ok (.invokevirtual 135, 3) := by decide +kernel
theorem d_MOD_call_72 : decode prog_8_method_33_code 72 = .ok (.goto 160, 3) := by decide +kernel
theorem d_MOD_call_75 : decode prog_8_method_33_code 75 = .ok (.iload_n 2, 1) := by decide +kernel
theorem d_MOD_call_76 : decode prog_8_method_33_code 76 = .ok (.iconst 4, 1) := by decide +kernel
theorem d_MOD_call_77 : decode prog_8_method_33_code 77 = .ok (.if_icmp .ne 10, 3) := by decide +kernel
theorem d_MOD_call_80 : decode prog_8_method_33_code 80 = .ok (.aload_n 0, 1) := by decide +kernel
theorem d_MOD_call_81 : decode prog_8_method_33_code 81 = .ok (.invokevirtual 185, 3) := by decide +kernel
theorem d_MOD_call_84 : decode prog_8_method_33_code 84 = .ok (.goto 148, 3) := by decide +kernel
theorem d_MOD_call_87 : decode prog_8_method_33_code 87 = .ok (.iload_n 2, 1) := by decide +kernel
theorem d_MOD_call_88 : decode prog_8_method_33_code 88 = .ok (.iconst 5, 1) := by decide +kernel
theorem d_MOD_call_89 : decode prog_8_method_33_code 89 = .ok (.if_icmp .ne 17, 3) := by decide +kernel
theorem d_MOD_call_92 : decode prog_8_method_33_code 92 = .ok (.aload_n 0, 1) := by decide +kernel
theorem d_MOD_call_93 : decode prog_8_method_33_code 93 = .ok (.bipush 10, 2) := by decide +kernel
theorem d_MOD_call_95 : decode prog_8_method_33_code 95 = .ok (.aload_n 0, 1) := by decide +kernel
theorem d_MOD_call_96 : decode prog_8_method_33_code 96 = .ok (.iload_n 1, 1) := by decide +kernel
theorem d_MOD_call_97 : decode prog_8_method_33_code 97 = .ok (.invokevirtual 188, 3) := by decide +kernel
theorem d_MOD_call_100 : decode prog_8_method_33_code 100 = .ok (.invokevirtual 135, 3) := by decide +kernel
theorem d_MOD_call_103 : decode prog_8_method_33_code 103 = .ok (.goto 129, 3) := by decide +kernel
theorem d_MOD_call_106 : decode prog_8_method_33_code 106 = .ok (.iload_n 2, 1) := by decide +kernel
theorem d_MOD_call_107 : decode prog_8_method_33_code 107 = .ok (.bipush 6, 2) := by decide +kernel
theorem d_MOD_call_109 : decode prog_8_method_33_code 109 = .ok (.if_icmp .ne 19, 3) := by decide +kernel
theorem d_MOD_call_112 : decode prog_8_method_33_code 112 = .ok (.aload_n 0, 1) := by decide +kernel
theorem d_MOD_call_113 : decode prog_8_method_33_code 113 = .ok (.aload_n 0, 1) := by decide +kernel
theorem d_MOD_call_114 : decode prog_8_method_33_code 114 = .ok (.aload_n 0, 1) := by decide +kernel
theorem d_MOD_call_115 : decode prog_8_method_33_code 115 = .ok (.getfield 97, 3) := by decide +kernel
theorem d_MOD_call_118 : decode prog_8_method_33_code 118 = .ok (.iload_n 1, 1) := by decide +kernel
theorem d_MOD_call_119 : decode prog_8_method_33_code 119 = .ok (.invokevirtual 191, 3) := by decide +kernel
theorem d_MOD_call_122 : decode prog_8_method_33_code 122 = .ok (.invokevirtual 194, 3) := by decide +kernel
theorem d_MOD_call_125 : decode prog_8_method_33_code 125 = .ok (.goto 107, 3) := by decide +kernel
theorem d_MOD_call_128 : decode prog_8_method_33_code 128 = .ok (.iload_n 2, 1) := by decide +kernel
theorem d_MOD_call_129 : decode prog_8_method_33_code 129 = .ok (.bipush 7, 2) := by decide +kernel
theorem d_MOD_call_131 : decode prog_8_method_33_code 131 = .ok (.if_icmp .ne 19, 3) := by decide +kernel
theorem d_MOD_call_134 : decode prog_8_method_33_code 134 = .ok (.aload_n 0, 1) := by decide +kernel
theorem d_MOD_call_135 : decode prog_8_method_33_code 135 = .ok (.aload_n 0, 1) := by decide +kernel
theorem d_MOD_call_136 : decode prog_8_method_33_code 136 = .ok (.aload_n 0, 1) := by decide +kernel
theorem d_MOD_call_137 : decode prog_8_method_33_code 137 = .ok (.getfield 97, 3) := by decide +kernel
theorem d_MOD_call_140 : decode prog_8_method_33_code 140 = .ok (.iload_n 1, 1) := by decide +kernel
theorem d_MOD_call_141 : decode prog_8_method_33_code 141 = .ok (.invokevirtual 191, 3) := by decide +kernel
theorem d_MOD_call_144 : decode prog_8_method_33_code 144 = .ok (.invokevirtual 197, 3) := by decide +kernel
theorem d_MOD_call_147 : decode prog_8_method_33_code 147 = .ok (.goto 85, 3) := by decide +kernel
theorem d_MOD_call_150 : decode prog_8_method_33_code 150 = .ok (.iload_n 2, 1) := by decide +kernel
theorem d_MOD_call_151 : decode prog_8_method_33_code 151 = .ok (.bipush 8, 2) := by decide +kernel
theorem d_MOD_call_153 : decode prog_8_method_33_code 153 = .ok (.if_icmp .ne 10, 3) := by decide +kernel
theorem d_MOD_call_156 : decode prog_8_method_33_code 156 = .ok (.aload_n 0, 1) := by decide +kernel
theorem d_MOD_call_157 : decode prog_8_method_33_code 157 = .ok (.invokevirtual 200, 3) := by decide +kernel
theorem d_MOD_call_160 : decode prog_8_method_33_code 160 = .ok (.goto 72, 3) := by decide +kernel
theorem d_MOD_call_163 : decode prog_8_method_33_code 163 = .ok (.iload_n 2, 1) := by decide +kernel
theorem d_MOD_call_164 : decode prog_8_method_33_code 164 = .ok (.bipush 9, 2) := by decide +kernel
theorem d_MOD_call_166 : decode prog_8_method_33_code 166 = .ok (.if_icmp .ne 17, 3) := by decide +kernel
theorem d_MOD_call_169 : decode prog_8_method_33_code 169 = .ok (.aload_n 0, 1) := by decide +kernel
theorem d_MOD_call_170 : decode prog_8_method_33_code 170 = .ok (.bipush 10, 2) := by decide +kernel
theorem d_MOD_call_172 : decode prog_8_method_33_code 172 = .ok (.aload_n 0, 1) := by decide +kernel
theorem d_MOD_call_173 : decode prog_8_method_33_code 173 = .ok (.iload_n 1, 1) := by decide +kernel
theorem d_MOD_call_174 : decode prog_8_method_33_code 174 = .ok (.invokevirtual 203, 3) := by decide +kernel
theorem d_MOD_call_177 : decode prog_8_method_33_code 177 = .ok (.invokevirtual 135, 3) := by decide +kernel
theorem d_MOD_call_180 : decode prog_8_method_33_code 180 = .ok (.goto 52, 3) := by decide +kernel
theorem d_MOD_call_183 : decode prog_8_method_33_code 183 = .ok (.iload_n 2, 1) := by decide +kernel
theorem d_MOD_call_184 : decode prog_8_method_33_code 184 = .ok (.bipush 10, 2) := by decide +kernel
theorem d_MOD_call_186 : decode prog_8_method_33_code 186 = .ok (.if_icmp .ne 25, 3) := by decide +kernel
theorem d_MOD_call_189 : decode prog_8_method_33_code 189 = .ok (.aload_n 0, 1) := by decide +kernel
theorem d_MOD_call_190 : decode prog_8_method_33_code 190 = .ok (.bipush 10, 2) := by decide +kernel
theorem d_MOD_call_192 : decode prog_8_method_33_code 192 = .ok (.aload_n 0, 1) := by decide +kernel
theorem d_MOD_call_193 : decode prog_8_method_33_code 193 = .ok (.aload_n 0, 1) := by decide +kernel
theorem d_MOD_call_194 : decode prog_8_method_33_code 194 = .ok (.aload_n 0, 1) := by decide +kernel
theorem d_MOD_call_195 : decode prog_8_method_33_code 195 = .ok (.getfield 97, 3) := by decide +kernel
theorem d_MOD_call_198 : decode prog_8_method_33_code 198 = .ok (.iload_n 1, 1) := by decide +kernel
theorem d_MOD_call_199 : decode prog_8_method_33_code 199 = .ok (.invokevirtual 191, 3) := by decide +kernel
theorem d_MOD_call_202 : decode prog_8_method_33_code 202 = .ok (.invokevirtual 206, 3) := by decide +kernel
theorem d_MOD_call_205 : decode prog_8_method_33_code 205 = .ok (.invokevirtual 135, 3) := by decide +kernel
theorem d_MOD_call_208 : decode prog_8_method_33_code 208 = .ok (.goto 24, 3) := by decide +kernel
theorem d_MOD_call_211 : decode prog_8_method_33_code 211 = .ok (.iload_n 2, 1) := by decide +kernel
theorem d_MOD_call_212 : decode prog_8_method_33_code 212 = .ok (.bipush 11, 2) := by decide +kernel
theorem d_MOD_call_214 : decode prog_8_method_33_code 214 = .ok (.if_icmp .ne 11, 3) := by decide +kernel
theorem d_MOD_call_217 : decode prog_8_method_33_code 217 = .ok (.aload_n 0, 1) := by decide +kernel
theorem d_MOD_call_218 : decode prog_8_method_33_code 218 = .ok (.iload_n 1, 1) := by decide +kernel
theorem d_MOD_call_219 : decode prog_8_method_33_code 219 = .ok (.invokevirtual 209, 3) := by decide +kernel
theorem d_MOD_call_222 : decode prog_8_method_33_code 222 = .ok (.goto 10, 3) := by decide +kernel
theorem d_MOD_call_225 : decode prog_8_method_33_code 225 = .ok (.aload_n 0, 1) := by decide +kernel
theorem d_MOD_call_226 : decode prog_8_method_33_code 226 = .ok (.bipush 10, 2) := by decide +kernel
theorem d_MOD_call_228 : decode prog_8_method_33_code 228 = .ok (.iconst (-1), 1) := by decide +kernel
theorem d_MOD_call_229 : decode prog_8_method_33_code 229 = .ok (.invokevirtual 135, 3) := by decide +kernel
theorem d_MOD_call_232 : decode prog_8_method_33_code 232 = .ok (.return_, 1) := by decide +kernel
theorem d_MOD_leave_0 : decode prog_8_method_34_code 0 = .ok (.aload_n 0, 1) := by decide +kernel
theorem d_MOD_leave_1 : decode prog_8_method_34_code 1 = .ok (.getfield 28, 3) := by decide +kernel
theorem d_MOD_leave_4 : decode prog_8_method_34_code 4 = .ok (.aload_n 0, 1) := by decide +kernel
theorem d_MOD_leave_5 : decode prog_8_method_34_code 5 = .ok (.getfield 97, 3) := by decide +kernel
theorem d_MOD_leave_8 : decode prog_8_method_34_code 8 = .ok (.aload_n 0, 1) := by decide +kernel
theorem d_MOD_leave_9 : decode prog_8_method_34_code 9 = .ok (.getfield 121, 3) := by decide +kernel
theorem d_MOD_leave_12 : decode prog_8_method_34_code 12 = .ok (.iastore, 1) := by decide +kernel
theorem d_MOD_leave_13 : decode prog_8_method_34_code 13 = .ok (.aload_n 0, 1) := by decide +kernel
theorem d_MOD_leave_14 : decode prog_8_method_34_code 14 = .ok (.aload_n 0, 1) := by decide +kernel
theorem d_MOD_leave_15 : decode prog_8_method_34_code 15 = .ok (.getfield 97, 3) := by decide +kernel
theorem d_MOD_leave_18 : decode prog_8_method_34_code 18 = .ok (.iload_n 1, 1) := by decide +kernel
theorem d_MOD_leave_19 : decode prog_8_method_34_code 19 = .ok (.invokevirtual 103, 3) := by decide +kernel
theorem d_MOD_leave_22 : decode prog_8_method_34_code 22 = .ok (.return_, 1) := by decide +kernel
theorem d_MOD_block_0 : decode prog_8_method_35_code 0 = .ok (.aload_n 0, 1) := by decide +kernel
theorem d_MOD_block_1 : decode prog_8_method_35_code 1 = .ok (.getfield 19, 3) := by decide +kernel
theorem d_MOD_block_4 : decode prog_8_method_35_code 4 = .ok (.aload_n 0, 1) := by decide +kernel
theorem d_MOD_block_5 : decode prog_8_method_35_code 5 = .ok (.getfield 97, 3) := by decide +kernel
theorem d_MOD_block_8 : decode prog_8_method_35_code 8 = .ok (.iload_n 1, 1) := by decide +kernel
theorem d_MOD_block_9 : decode prog_8_method_35_code 9 = .ok (.iastore, 1) := by decide +kernel
theorem d_MOD_block_10 : decode prog_8_method_35_code 10 = .ok (.aload_n 0, 1) := by decide +kernel
theorem d_MOD_block_11 : decode prog_8_method_35_code 11 = .ok (.iconst 0, 1) := by decide +kernel
theorem d_MOD_block_12 : decode prog_8_method_35_code 12 = .ok (.putfield 100, 3) := by decide +kernel
theorem d_MOD_block_15 : decode prog_8_method_35_code 15 = .ok (.return_, 1) := by decide +kernel
theorem d_MOD_fork_0 : decode prog_8_method_36_code 0 = .ok (.iconst 1, 1) := by decide +kernel
theorem d_MOD_fork_1 : decode prog_8_method_36_code 1 = .ok (.istore_n 1, 1) := by decide +kernel
theorem d_MOD_fork_2 : decode prog_8_method_36_code 2 = .ok (.iload_n 1, 1) := by decide +kernel
theorem d_MOD_fork_3 : decode prog_8_method_36_code 3 = .ok (.bipush 8, 2) := by decide +kernel
theorem d_MOD_fork_5 : decode prog_8_method_36_code 5 = .ok (.if_icmp .gt 18, 3) := by decide +kernel
theorem d_MOD_fork_8 : decode prog_8_method_36_code 8 = .ok (.aload_n 0, 1) := by decide +kernel
theorem d_MOD_fork_9 : decode prog_8_method_36_code 9 = .ok (.getfield 19, 3) := by decide +kernel
theorem d_MOD_fork_12 : decode prog_8_method_36_code 12 = .ok (.iload_n 1, 1) := by decide +kernel
theorem d_MOD_fork_13 : decode prog_8_method_36_code 13 = .ok (.iaload, 1) := by decide +kernel
theorem d_MOD_fork_14 : decode prog_8_method_36_code 14 = .ok (.ifCond .le 9, 3) := by decide +kernel
theorem d_MOD_fork_17 : decode prog_8_method_36_code 17 = .ok (.iinc 1 1, 3) := by decide +kernel
theorem d_MOD_fork_20 : decode prog_8_method_36_code 20 = .ok (.goto (-18), 3) := by decide +kernel
theorem d_MOD_fork_23 : decode prog_8_method_36_code 23 = .ok (.iload_n 1, 1) := by decide +kernel
theorem d_MOD_fork_24 : decode prog_8_method_36_code 24 = .ok (.bipush 8, 2) := by decide +kernel
theorem d_MOD_fork_26 : decode prog_8_method_36_code 26 = .ok (.if_icmp .gt 19, 3) := by decide +kernel
theorem d_MOD_fork_29 : decode prog_8_method_36_code 29 = .ok (.aload_n 0, 1) := by decide +kernel
theorem d_MOD_fork_30 : decode prog_8_method_36_code 30 = .ok (.invokevirtual 212, 3) := by decide +kernel
theorem d_MOD_fork_33 : decode prog_8_method_36_code 33 = .ok (.aload_n 0, 1) := by decide +kernel
theorem d_MOD_fork_34 : decode prog_8_method_36_code 34 = .ok (.getfield 31, 3) := by decide +kernel
theorem d_MOD_fork_37 : decode prog_8_method_36_code 37 = .ok (.aload_n 0, 1) := by decide +kernel
theorem d_MOD_fork_38 : decode prog_8_method_36_code 38 = .ok (.getfield 97, 3) := by decide +kernel
theorem d_MOD_fork_41 : decode prog_8_method_36_code 41 = .ok (.iaload, 1) := by decide +kernel
theorem d_MOD_fork_42 : decode prog_8_method_36_code 42 = .ok (.if_icmp .ge 5, 3) := by decide +kernel
theorem d_MOD_fork_45 : decode prog_8_method_36_code 45 = .ok (.iconst (-1), 1) := by decide +kernel
theorem d_MOD_fork_46 : decode prog_8_method_36_code 46 = .ok (.ireturn, 1) := by decide +kernel
theorem d_MOD_fork_47 : decode prog_8_method_36_code 47 = .ok (.aload_n 0, 1) := by decide +kernel
theorem d_MOD_fork_48 : decode prog_8_method_36_code 48 = .ok (.getfield 31, 3) := by decide +kernel
theorem d_MOD_fork_51 : decode prog_8_method_36_code 51 = .ok (.iload_n 1, 1) := by decide +kernel
theorem d_MOD_fork_52 : decode prog_8_method_36_code 52 = .ok (.iconst 0, 1) := by decide +kernel
theorem d_MOD_fork_53 : decode prog_8_method_36_code 53 = .ok (.iastore, 1) := by decide +kernel
theorem d_MOD_fork_54 : decode prog_8_method_36_code 54 = .ok (.iconst 0, 1) := by decide +kernel
theorem d_MOD_fork_55 : decode prog_8_method_36_code 55 = .ok (.istore_n 2, 1) := by decide +kernel
theorem d_MOD_fork_56 : decode prog_8_method_36_code 56 = .ok (.iload_n 2, 1) := by decide +kernel
theorem d_MOD_fork_57 : decode prog_8_method_36_code 57 = .ok (.aload_n 0, 1) := by decide +kernel
theorem d_MOD_fork_58 : decode prog_8_method_36_code 58 = .ok (.getfield 31, 3) := by decide +kernel
theorem d_MOD_fork_61 : decode prog_8_method_36_code 61 = .ok (.aload_n 0, 1) := by decide +kernel
theorem d_MOD_fork_62 : decode prog_8_method_36_code 62 = .ok (.getfield 97, 3) := by decide +kernel
theorem d_MOD_fork_65 : decode prog_8_method_36_code 65 = .ok (.iaload, 1) := by decide +kernel
theorem d_MOD_fork_66 : decode prog_8_method_36_code 66 = .ok (.if_icmp .ge 68, 3) := by decide +kernel
theorem d_MOD_fork_69 : decode prog_8_method_36_code 69 = .ok (.aload_n 0, 1) := by decide +kernel
theorem d_MOD_fork_70 : decode prog_8_method_36_code 70 = .ok (.iload_n 1, 1) := by decide +kernel
theorem d_MOD_fork_71 : decode prog_8_method_36_code 71 = .ok (.invokevirtual 69, 3) := by decide +kernel
theorem d_MOD_fork_74 : decode prog_8_method_36_code 74 = .ok (.istore_n 3, 1) := by decide +kernel
theorem d_MOD_fork_75 : decode prog_8_method_36_code 75 = .ok (.iconst 0, 1) := by decide +kernel
theorem d_MOD_fork_76 : decode prog_8_method_36_code 76 = .ok (.istore 4, 2) := by decide +kernel
theorem d_MOD_fork_78 : decode prog_8_method_36_code 78 = .ok (.iload 4, 2) := by decide +kernel
theorem d_MOD_fork_80 : decode prog_8_method_36_code 80 = .ok (.bipush 16, 2) := by decide +kernel
theorem d_MOD_fork_82 : decode prog_8_method_36_code 82 = .ok (.if_icmp .ge 46, 3) := by decide +kernel
theorem d_MOD_fork_85 : decode prog_8_method_36_code 85 = .ok (.aload_n 0, 1) := by decide +kernel
theorem d_MOD_fork_86 : decode prog_8_method_36_code 86 = .ok (.getfield 7, 3) := by decide +kernel
theorem d_MOD_fork_89 : decode prog_8_method_36_code 89 = .ok (.bipush 16, 2) := by decide +kernel
theorem d_MOD_fork_91 : decode prog_8_method_36_code 91 = .ok (.iload_n 3, 1) := by decide +kernel
theorem d_MOD_fork_92 : decode prog_8_method_36_code 92 = .ok (.imul, 1) := by decide +kernel
theorem d_MOD_fork_93 : decode prog_8_method_36_code 93 = .ok (.iload 4, 2) := by decide +kernel
theorem d_MOD_fork_95 : decode prog_8_method_36_code 95 = .ok (.iadd, 1) := by decide +kernel
theorem d_MOD_fork_96 : decode prog_8_method_36_code 96 = .ok (.aload_n 0, 1) := by decide +kernel
theorem d_MOD_fork_97 : decode prog_8_method_36_code 97 = .ok (.getfield 7, 3) := by decide +kernel
theorem d_MOD_fork_100 : decode prog_8_method_36_code 100 = .ok (.bipush 16, 2) := by decide +kernel
theorem d_MOD_fork_102 : decode prog_8_method_36_code 102 = .ok (.aload_n 0, 1) := by decide +kernel
theorem d_MOD_fork_103 : decode prog_8_method_36_code 103 = .ok (.getfield 37, 3) := by decide +kernel
theorem d_MOD_fork_106 : decode prog_8_method_36_code 106 = .ok (.bipush 8, 2) := by decide +kernel
theorem d_MOD_fork_108 : decode prog_8_method_36_code 108 = .ok (.aload_n 0, 1) := by decide +kernel
theorem d_MOD_fork_109 : decode prog_8_method_36_code 109 = .ok (.getfield 97, 3) := by decide +kernel
theorem d_MOD_fork_112 : decode prog_8_method_36_code 112 = .ok (.imul, 1) := by decide +kernel
theorem d_MOD_fork_113 : decode prog_8_method_36_code 113 = .ok (.iload_n 2, 1) := by decide +kernel
theorem d_MOD_fork_114 : decode prog_8_method_36_code 114 = .ok (.iadd, 1) := by decide +kernel
theorem d_MOD_fork_115 : decode prog_8_method_36_code 115 = .ok (.iaload, 1) := by decide +kernel
theorem d_MOD_fork_116 : decode prog_8_method_36_code 116 = .ok (.imul, 1) := by decide +kernel
theorem d_MOD_fork_117 : decode prog_8_method_36_code 117 = .ok (.iload 4, 2) := by decide +kernel
theorem d_MOD_fork_119 : decode prog_8_method_36_code 119 = .ok (.iadd, 1) := by decide +kernel
theorem d_MOD_fork_120 : decode prog_8_method_36_code 120 = .ok (.iaload, 1) := by decide +kernel
theorem d_MOD_fork_121 : decode prog_8_method_36_code 121 = .ok (.iastore, 1) := by decide +kernel
theorem d_MOD_fork_122 : decode prog_8_method_36_code 122 = .ok (.iinc 4 1, 3) := by decide +kernel
theorem d_MOD_fork_125 : decode prog_8_method_36_code 125 = .ok (.goto (-47), 3) := by decide +kernel
theorem d_MOD_fork_128 : decode prog_8_method_36_code 128 = .ok (.iinc 2 1, 3) := by decide +kernel
theorem d_MOD_fork_131 : decode prog_8_method_36_code 131 = .ok (.goto (-75), 3) := by decide +kernel
theorem d_MOD_fork_134 : decode prog_8_method_36_code 134 = .ok (.iconst 0, 1) := by decide +kernel
theorem d_MOD_fork_135 : decode prog_8_method_36_code 135 = .ok (.istore_n 2, 1) := by decide +kernel
theorem d_MOD_fork_136 : decode prog_8_method_36_code 136 = .ok (.iload_n 2, 1) := by decide +kernel
theorem d_MOD_fork_137 : decode prog_8_method_36_code 137 = .ok (.bipush 32, 2) := by decide +kernel
theorem d_MOD_fork_139 : decode prog_8_method_36_code 139 = .ok (.if_icmp .ge 25, 3) := by decide +kernel
theorem d_MOD_fork_142 : decode prog_8_method_36_code 142 = .ok (.aload_n 0, 1) := by decide +kernel
theorem d_MOD_fork_143 : decode prog_8_method_36_code 143 = .ok (.getfield 34, 3) := by decide +kernel
theorem d_MOD_fork_146 : decode prog_8_method_36_code 146 = .ok (.bipush 32, 2) := by decide +kernel
theorem d_MOD_fork_148 : decode prog_8_method_36_code 148 = .ok (.iload_n 1, 1) := by decide +kernel
theorem d_MOD_fork_149 : decode prog_8_method_36_code 149 = .ok (.imul, 1) := by decide +kernel
theorem d_MOD_fork_150 : decode prog_8_method_36_code 150 = .ok (.iload_n 2, 1) := by decide +kernel
theorem d_MOD_fork_151 : decode prog_8_method_36_code 151 = .ok (.iadd, 1) := by decide +kernel
theorem d_MOD_fork_152 : decode prog_8_method_36_code 152 = .ok (.aload_n 0, 1) := by decide +kernel
theorem d_MOD_fork_153 : decode prog_8_method_36_code 153 = .ok (.iload_n 2, 1) := by decide +kernel
theorem d_MOD_fork_154 : decode prog_8_method_36_code 154 = .ok (.invokevirtual 113, 3) := by decide +kernel
theorem d_MOD_fork_157 : decode prog_8_method_36_code 157 = .ok (.iastore, 1) := by decide +kernel
theorem d_MOD_fork_158 : decode prog_8_method_36_code 158 = .ok (.iinc 2 1, 3) := by decide +kernel
theorem d_MOD_fork_161 : decode prog_8_method_36_code 161 = .ok (.goto (-25), 3) := by decide +kernel
theorem d_MOD_fork_164 : decode prog_8_method_36_code 164 = .ok (.iconst 0, 1) := by decide +kernel
theorem d_MOD_fork_165 : decode prog_8_method_36_code 165 = .ok (.istore_n 2, 1) := by decide +kernel
theorem d_MOD_fork_166 : decode prog_8_method_36_code 166 = .ok (.iload_n 2, 1) := by decide +kernel
theorem d_MOD_fork_167 : decode prog_8_method_36_code 167 = .ok (.bipush 6, 2) := by decide +kernel
theorem d_MOD_fork_169 : decode prog_8_method_36_code 169 = .ok (.if_icmp .ge 34, 3) := by decide +kernel
theorem d_MOD_fork_172 : decode prog_8_method_36_code 172 = .ok (.aload_n 0, 1) := by decide +kernel
theorem d_MOD_fork_173 : decode prog_8_method_36_code 173 = .ok (.getfield 40, 3) := by decide +kernel
theorem d_MOD_fork_176 : decode prog_8_method_36_code 176 = .ok (.bipush 6, 2) := by decide +kernel
theorem d_MOD_fork_178 : decode prog_8_method_36_code 178 = .ok (.iload_n 1, 1) := by decide +kernel
theorem d_MOD_fork_179 : decode prog_8_method_36_code 179 = .ok (.imul, 1) := by decide +kernel
theorem d_MOD_fork_180 : decode prog_8_method_36_code 180 = .ok (.iload_n 2, 1) := by decide +kernel
theorem d_MOD_fork_181 : decode prog_8_method_36_code 181 = .ok (.iadd, 1) := by decide +kernel
theorem d_MOD_fork_182 : decode prog_8_method_36_code 182 = .ok (.aload_n 0, 1) := by decide +kernel
theorem d_MOD_fork_183 : decode prog_8_method_36_code 183 = .ok (.getfield 40, 3) := by decide +kernel
theorem d_MOD_fork_186 : decode prog_8_method_36_code 186 = .ok (.bipush 6, 2) := by decide +kernel
theorem d_MOD_fork_188 : decode prog_8_method_36_code 188 = .ok (.aload_n 0, 1) := by decide +kernel
theorem d_MOD_fork_189 : decode prog_8_method_36_code 189 = .ok (.getfield 97, 3) := by decide +kernel
theorem d_MOD_fork_192 : decode prog_8_method_36_code 192 = .ok (.imul, 1) := by decide +kernel
theorem d_MOD_fork_193 : decode prog_8_method_36_code 193 = .ok (.iload_n 2, 1) := by decide +kernel
theorem d_MOD_fork_194 : decode prog_8_method_36_code 194 = .ok (.iadd, 1) := by decide +kernel
theorem d_MOD_fork_195 : decode prog_8_method_36_code 195 = .ok (.iaload, 1) := by decide +kernel
theorem d_MOD_fork_196 : decode prog_8_method_36_code 196 = .ok (.iastore, 1) := by decide +kernel
theorem d_MOD_fork_197 : decode prog_8_method_36_code 197 = .ok (.iinc 2 1, 3) := by decide +kernel
theorem d_MOD_fork_200 : decode prog_8_method_36_code 200 = .ok (.goto (-34), 3) := by decide +kernel
theorem d_MOD_fork_203 : decode prog_8_method_36_code 203 = .ok (.aload_n 0, 1) := by decide +kernel
theorem d_MOD_fork_204 : decode prog_8_method_36_code 204 = .ok (.getfield 34, 3) := by decide +kernel
theorem d_MOD_fork_207 : decode prog_8_method_36_code 207 = .ok (.bipush 32, 2) := by decide +kernel
theorem d_MOD_fork_209 : decode prog_8_method_36_code 209 = .ok (.iload_n 1, 1) := by decide +kernel
theorem d_MOD_fork_210 : decode prog_8_method_36_code 210 = .ok (.imul, 1) := by decide +kernel
theorem d_MOD_fork_211 : decode prog_8_method_36_code 211 = .ok (.bipush 10, 2) := by decide +kernel
theorem d_MOD_fork_213 : decode prog_8_method_36_code 213 = .ok (.iadd, 1) := by decide +kernel
theorem d_MOD_fork_214 : decode prog_8_method_36_code 214 = .ok (.iconst 0, 1) := by decide +kernel
theorem d_MOD_fork_215 : decode prog_8_method_36_code 215 = .ok (.iastore, 1) := by decide +kernel
theorem d_MOD_fork_216 : decode prog_8_method_36_code 216 = .ok (.aload_n 0, 1) := by decide +kernel
theorem d_MOD_fork_217 : decode prog_8_method_36_code 217 = .ok (.getfield 28, 3) := by decide +kernel
theorem d_MOD_fork_220 : decode prog_8_method_36_code 220 = .ok (.iload_n 1, 1) := by decide +kernel
theorem d_MOD_fork_221 : decode prog_8_method_36_code 221 = .ok (.aload_n 0, 1) := by decide +kernel
theorem d_MOD_fork_222 : decode prog_8_method_36_code 222 = .ok (.getfield 28, 3) := by decide +kernel
theorem d_MOD_fork_225 : decode prog_8_method_36_code 225 = .ok (.aload_n 0, 1) := by decide +kernel
theorem d_MOD_fork_226 : decode prog_8_method_36_code 226 = .ok (.getfield 97, 3) := by decide +kernel
theorem d_MOD_fork_229 : decode prog_8_method_36_code 229 = .ok (.iaload, 1) := by decide +kernel
theorem d_MOD_fork_230 : decode prog_8_method_36_code 230 = .ok (.iconst 4, 1) := by decide +kernel
theorem d_MOD_fork_231 : decode prog_8_method_36_code 231 = .ok (.iadd, 1) := by decide +kernel
theorem d_MOD_fork_232 : decode prog_8_method_36_code 232 = .ok (.iastore, 1) := by decide +kernel
theorem d_MOD_fork_233 : decode prog_8_method_36_code 233 = .ok (.aload_n 0, 1) := by decide +kernel
theorem d_MOD_fork_234 : decode prog_8_method_36_code 234 = .ok (.getfield 25, 3) := by decide +kernel
theorem d_MOD_fork_237 : decode prog_8_method_36_code 237 = .ok (.iload_n 1, 1) := by decide +kernel
theorem d_MOD_fork_238 : decode prog_8_method_36_code 238 = .ok (.aload_n 0, 1) := by decide +kernel
theorem d_MOD_fork_239 : decode prog_8_method_36_code 239 = .ok (.getfield 97, 3) := by decide +kernel
theorem d_MOD_fork_242 : decode prog_8_method_36_code 242 = .ok (.iastore, 1) := by decide +kernel
theorem d_MOD_fork_243 : decode prog_8_method_36_code 243 = .ok (.aload_n 0, 1) := by decide +kernel
theorem d_MOD_fork_244 : decode prog_8_method_36_code 244 = .ok (.getfield 22, 3) := by decide +kernel
theorem d_MOD_fork_247 : decode prog_8_method_36_code 247 = .ok (.iload_n 1, 1) := by decide +kernel
theorem d_MOD_fork_248 : decode prog_8_method_36_code 248 = .ok (.iconst 0, 1) := by decide +kernel
theorem d_MOD_fork_249 : decode prog_8_method_36_code 249 = .ok (.iastore, 1) := by decide +kernel
theorem d_MOD_fork_250 : decode prog_8_method_36_code 250 = .ok (.aload_n 0, 1) := by decide +kernel
theorem d_MOD_fork_251 : decode prog_8_method_36_code 251 = .ok (.iload_n 1, 1) := by decide +kernel
theorem d_MOD_fork_252 : decode prog_8_method_36_code 252 = .ok (.invokevirtual 73, 3) := by decide +kernel
theorem d_MOD_fork_255 : decode prog_8_method_36_code 255 = .ok (.iload_n 1, 1) := by decide +kernel
theorem d_MOD_fork_256 : decode prog_8_method_36_code 256 = .ok (.ireturn, 1) := by decide +kernel
end
section
theorem d_MOD_lostChild_0 : decode prog_8_method_37_code 0 = .ok (.iconst (-1), 1) := by decide +kernel
theorem d_MOD_lostChild_1 : decode prog_8_method_37_code 1 = .ok (.istore_n 2, 1) := by decide +kernel
theorem d_MOD_lostChild_2 : decode prog_8_method_37_code 2 = .ok (.bipush 8, 2) := by decide +kernel
theorem d_MOD_lostChild_4 : decode prog_8_method_37_code 4 = .ok (.istore_n 3, 1) := by decide +kernel
theorem d_MOD_lostChild_5 : decode prog_8_method_37_code 5 = .ok (.iload_n 3, 1) := by decide +kernel
theorem d_MOD_lostChild_6 : decode prog_8_method_37_code 6 = .ok (.iconst 1, 1) := by decide +kernel
theorem d_MOD_lostChild_7 : decode prog_8_method_37_code 7 = .ok (.if_icmp .lt 81, 3) := by decide +kernel
theorem d_MOD_lostChild_10 : decode prog_8_method_37_code 10 = .ok (.aload_n 0, 1) := by decide +kernel
theorem d_MOD_lostChild_11 : decode prog_8_method_37_code 11 = .ok (.getfield 19, 3) := by decide +kernel
theorem d_MOD_lostChild_14 : decode prog_8_method_37_code 14 = .ok (.iload_n 3, 1) := by decide +kernel
theorem d_MOD_lostChild_15 : decode prog_8_method_37_code 15 = .ok (.iaload, 1) := by decide +kernel
theorem d_MOD_lostChild_16 : decode prog_8_method_37_code 16 = .ok (.ifCond .le 17, 3) := by decide +kernel
theorem d_MOD_lostChild_19 : decode prog_8_method_37_code 19 = .ok (.aload_n 0, 1) := by decide +kernel
theorem d_MOD_lostChild_20 : decode prog_8_method_37_code 20 = .ok (.getfield 25, 3) := by decide +kernel
theorem d_MOD_lostChild_23 : decode prog_8_method_37_code 23 = .ok (.iload_n 3, 1) := by decide +kernel
theorem d_MOD_lostChild_24 : decode prog_8_method_37_code 24 = .ok (.iaload, 1) := by decide +kernel
theorem d_MOD_lostChild_25 : decode prog_8_method_37_code 25 = .ok (.iload_n 1, 1) := by decide +kernel
theorem d_MOD_lostChild_26 : decode prog_8_method_37_code 26 = .ok (.if_icmp .ne 7, 3) := by decide +kernel
theorem d_MOD_lostChild_29 : decode prog_8_method_37_code 29 = .ok (.iconst 1, 1) := by decide +kernel
theorem d_MOD_lostChild_30 : decode prog_8_method_37_code 30 = .ok (.goto 4, 3) := by decide +kernel
theorem d_MOD_lostChild_33 : decode prog_8_method_37_code 33 = .ok (.iconst 0, 1) := by decide +kernel
theorem d_MOD_lostChild_34 : decode prog_8_method_37_code 34 = .ok (.istore 4, 2) := by decide +kernel
theorem d_MOD_lostChild_36 : decode prog_8_method_37_code 36 = .ok (.iload 4, 2) := by decide +kernel
theorem d_MOD_lostChild_38 : decode prog_8_method_37_code 38 = .ok (.ifCond .eq 17, 3) := by decide +kernel
theorem d_MOD_lostChild_41 : decode prog_8_method_37_code 41 = .ok (.aload_n 0, 1) := by decide +kernel
theorem d_MOD_lostChild_42 : decode prog_8_method_37_code 42 = .ok (.getfield 19, 3) := by decide +kernel
theorem d_MOD_lostChild_45 : decode prog_8_method_37_code 45 = .ok (.iload_n 3, 1) := by decide +kernel
theorem d_MOD_lostChild_46 : decode prog_8_method_37_code 46 = .ok (.iaload, 1) := by decide +kernel
theorem d_MOD_lostChild_47 : decode prog_8_method_37_code 47 = .ok (.iconst 5, 1) := by decide +kernel
theorem d_MOD_lostChild_48 : decode prog_8_method_37_code 48 = .ok (.if_icmp .ne 7, 3) := by decide +kernel
theorem d_MOD_lostChild_51 : decode prog_8_method_37_code 51 = .ok (.iconst 1, 1) := by decide +kernel
theorem d_MOD_lostChild_52 : decode prog_8_method_37_code 52 = .ok (.goto 4, 3) := by decide +kernel
theorem d_MOD_lostChild_55 : decode prog_8_method_37_code 55 = .ok (.iconst 0, 1) := by decide +kernel
theorem d_MOD_lostChild_56 : decode prog_8_method_37_code 56 = .ok (.istore 5, 2) := by decide +kernel
theorem d_MOD_lostChild_58 : decode prog_8_method_37_code 58 = .ok (.iload 5, 2) := by decide +kernel
theorem d_MOD_lostChild_60 : decode prog_8_method_37_code 60 = .ok (.ifCond .eq 7, 3) := by decide +kernel
theorem d_MOD_lostChild_63 : decode prog_8_method_37_code 63 = .ok (.iload_n 3, 1) := by decide +kernel
theorem d_MOD_lostChild_64 : decode prog_8_method_37_code 64 = .ok (.goto 17, 3) := by decide +kernel
theorem d_MOD_lostChild_67 : decode prog_8_method_37_code 67 = .ok (.iload 4, 2) := by decide +kernel
theorem d_MOD_lostChild_69 : decode prog_8_method_37_code 69 = .ok (.ifCond .eq 11, 3) := by decide +kernel
theorem d_MOD_lostChild_72 : decode prog_8_method_37_code 72 = .ok (.iload_n 2, 1) := by decide +kernel
theorem d_MOD_lostChild_73 : decode prog_8_method_37_code 73 = .ok (.ifCond .ge 7, 3) := by decide +kernel
theorem d_MOD_lostChild_76 : decode prog_8_method_37_code 76 = .ok (.iconst 0, 1) := by decide +kernel
theorem d_MOD_lostChild_77 : decode prog_8_method_37_code 77 = .ok (.goto 4, 3) := by decide +kernel
theorem d_MOD_lostChild_80 : decode prog_8_method_37_code 80 = .ok (.iload_n 2, 1) := by decide +kernel
theorem d_MOD_lostChild_81 : decode prog_8_method_37_code 81 = .ok (.istore_n 2, 1) := by decide +kernel
theorem d_MOD_lostChild_82 : decode prog_8_method_37_code 82 = .ok (.iinc 3 (-1), 3) := by decide +kernel
theorem d_MOD_lostChild_85 : decode prog_8_method_37_code 85 = .ok (.goto (-80), 3) := by decide +kernel
theorem d_MOD_lostChild_88 : decode prog_8_method_37_code 88 = .ok (.iload_n 2, 1) := by decide +kernel
theorem d_MOD_lostChild_89 : decode prog_8_method_37_code 89 = .ok (.ireturn, 1) := by decide +kernel
theorem d_MOD_waits_0 : decode prog_8_method_38_code 0 = .ok (.aload_n 0, 1) := by decide +kernel
theorem d_MOD_waits_1 : decode prog_8_method_38_code 1 = .ok (.aload_n 0, 1) := by decide +kernel
theorem d_MOD_waits_2 : decode prog_8_method_38_code 2 = .ok (.getfield 97, 3) := by decide +kernel
theorem d_MOD_waits_5 : decode prog_8_method_38_code 5 = .ok (.invokevirtual 215, 3) := by decide +kernel
theorem d_MOD_waits_8 : decode prog_8_method_38_code 8 = .ok (.istore_n 1, 1) := by decide +kernel
theorem d_MOD_waits_9 : decode prog_8_method_38_code 9 = .ok (.iload_n 1, 1) := by decide +kernel
theorem d_MOD_waits_10 : decode prog_8_method_38_code 10 = .ok (.ifCond .ne 9, 3) := by decide +kernel
theorem d_MOD_waits_13 : decode prog_8_method_38_code 13 = .ok (.aload_n 0, 1) := by decide +kernel
theorem d_MOD_waits_14 : decode prog_8_method_38_code 14 = .ok (.iconst 4, 1) := by decide +kernel
theorem d_MOD_waits_15 : decode prog_8_method_38_code 15 = .ok (.invokevirtual 218, 3) := by decide +kernel
theorem d_MOD_waits_18 : decode prog_8_method_38_code 18 = .ok (.return_, 1) := by decide +kernel
theorem d_MOD_waits_19 : decode prog_8_method_38_code 19 = .ok (.aload_n 0, 1) := by decide +kernel
theorem d_MOD_waits_20 : decode prog_8_method_38_code 20 = .ok (.bipush 10, 2) := by decide +kernel
theorem d_MOD_waits_22 : decode prog_8_method_38_code 22 = .ok (.iload_n 1, 1) := by decide +kernel
theorem d_MOD_waits_23 : decode prog_8_method_38_code 23 = .ok (.invokevirtual 135, 3) := by decide +kernel
theorem d_MOD_waits_26 : decode prog_8_method_38_code 26 = .ok (.iload_n 1, 1) := by decide +kernel
theorem d_MOD_waits_27 : decode prog_8_method_38_code 27 = .ok (.ifCond .le 20, 3) := by decide +kernel
theorem d_MOD_waits_30 : decode prog_8_method_38_code 30 = .ok (.aload_n 0, 1) := by decide +kernel
theorem d_MOD_waits_31 : decode prog_8_method_38_code 31 = .ok (.bipush 11, 2) := by decide +kernel
theorem d_MOD_waits_33 : decode prog_8_method_38_code 33 = .ok (.aload_n 0, 1) := by decide +kernel
theorem d_MOD_waits_34 : decode prog_8_method_38_code 34 = .ok (.getfield 22, 3) := by decide +kernel
theorem d_MOD_waits_37 : decode prog_8_method_38_code 37 = .ok (.iload_n 1, 1) := by decide +kernel
theorem d_MOD_waits_38 : decode prog_8_method_38_code 38 = .ok (.iaload, 1) := by decide +kernel
theorem d_MOD_waits_39 : decode prog_8_method_38_code 39 = .ok (.invokevirtual 135, 3) := by decide +kernel
theorem d_MOD_waits_42 : decode prog_8_method_38_code 42 = .ok (.aload_n 0, 1) := by decide +kernel
theorem d_MOD_waits_43 : decode prog_8_method_38_code 43 = .ok (.iload_n 1, 1) := by decide +kernel
theorem d_MOD_waits_44 : decode prog_8_method_38_code 44 = .ok (.invokevirtual 94, 3) := by decide +kernel
theorem d_MOD_waits_47 : decode prog_8_method_38_code 47 = .ok (.return_, 1) := by decide +kernel
theorem d_MOD_more_0 : decode prog_8_method_39_code 0 = .ok (.iload_n 1, 1) := by decide +kernel
theorem d_MOD_more_1 : decode prog_8_method_39_code 1 = .ok (.iconst 1, 1) := by decide +kernel
theorem d_MOD_more_2 : decode prog_8_method_39_code 2 = .ok (.if_icmp .lt 33, 3) := by decide +kernel
theorem d_MOD_more_5 : decode prog_8_method_39_code 5 = .ok (.iload_n 1, 1) := by decide +kernel
theorem d_MOD_more_6 : decode prog_8_method_39_code 6 = .ok (.bipush 8, 2) := by decide +kernel
theorem d_MOD_more_8 : decode prog_8_method_39_code 8 = .ok (.if_icmp .gt 27, 3) := by decide +kernel
theorem d_MOD_more_11 : decode prog_8_method_39_code 11 = .ok (.aload_n 0, 1) := by decide +kernel
theorem d_MOD_more_12 : decode prog_8_method_39_code 12 = .ok (.getfield 31, 3) := by decide +kernel
theorem d_MOD_more_15 : decode prog_8_method_39_code 15 = .ok (.aload_n 0, 1) := by decide +kernel
theorem d_MOD_more_16 : decode prog_8_method_39_code 16 = .ok (.getfield 97, 3) := by decide +kernel
theorem d_MOD_more_19 : decode prog_8_method_39_code 19 = .ok (.iaload, 1) := by decide +kernel
theorem d_MOD_more_20 : decode prog_8_method_39_code 20 = .ok (.iload_n 1, 1) := by decide +kernel
theorem d_MOD_more_21 : decode prog_8_method_39_code 21 = .ok (.iadd, 1) := by decide +kernel
theorem d_MOD_more_22 : decode prog_8_method_39_code 22 = .ok (.bipush 8, 2) := by decide +kernel
theorem d_MOD_more_24 : decode prog_8_method_39_code 24 = .ok (.if_icmp .gt 11, 3) := by decide +kernel
theorem d_MOD_more_27 : decode prog_8_method_39_code 27 = .ok (.aload_n 0, 1) := by decide +kernel
theorem d_MOD_more_28 : decode prog_8_method_39_code 28 = .ok (.invokevirtual 212, 3) := by decide +kernel
theorem d_MOD_more_31 : decode prog_8_method_39_code 31 = .ok (.iload_n 1, 1) := by decide +kernel
theorem d_MOD_more_32 : decode prog_8_method_39_code 32 = .ok (.if_icmp .ge 5, 3) := by decide +kernel
theorem d_MOD_more_35 : decode prog_8_method_39_code 35 = .ok (.iconst (-1), 1) := by decide +kernel
theorem d_MOD_more_36 : decode prog_8_method_39_code 36 = .ok (.ireturn, 1) := by decide +kernel
theorem d_MOD_more_37 : decode prog_8_method_39_code 37 = .ok (.iconst 0, 1) := by decide +kernel
theorem d_MOD_more_38 : decode prog_8_method_39_code 38 = .ok (.istore_n 2, 1) := by decide +kernel
theorem d_MOD_more_39 : decode prog_8_method_39_code 39 = .ok (.iload_n 2, 1) := by decide +kernel
theorem d_MOD_more_40 : decode prog_8_method_39_code 40 = .ok (.iload_n 1, 1) := by decide +kernel
theorem d_MOD_more_41 : decode prog_8_method_39_code 41 = .ok (.if_icmp .ge 18, 3) := by decide +kernel
theorem d_MOD_more_44 : decode prog_8_method_39_code 44 = .ok (.aload_n 0, 1) := by decide +kernel
theorem d_MOD_more_45 : decode prog_8_method_39_code 45 = .ok (.aload_n 0, 1) := by decide +kernel
theorem d_MOD_more_46 : decode prog_8_method_39_code 46 = .ok (.getfield 97, 3) := by decide +kernel
theorem d_MOD_more_49 : decode prog_8_method_39_code 49 = .ok (.invokevirtual 69, 3) := by decide +kernel
theorem d_MOD_more_52 : decode prog_8_method_39_code 52 = .ok (.pop, 1) := by decide +kernel
theorem d_MOD_more_53 : decode prog_8_method_39_code 53 = .ok (.iinc 2 1, 3) := by decide +kernel
theorem d_MOD_more_56 : decode prog_8_method_39_code 56 = .ok (.goto (-17), 3) := by decide +kernel
theorem d_MOD_more_59 : decode prog_8_method_39_code 59 = .ok (.aload_n 0, 1) := by decide +kernel
theorem d_MOD_more_60 : decode prog_8_method_39_code 60 = .ok (.getfield 31, 3) := by decide +kernel
theorem d_MOD_more_63 : decode prog_8_method_39_code 63 = .ok (.aload_n 0, 1) := by decide +kernel
theorem d_MOD_more_64 : decode prog_8_method_39_code 64 = .ok (.getfield 97, 3) := by decide +kernel
theorem d_MOD_more_67 : decode prog_8_method_39_code 67 = .ok (.iaload, 1) := by decide +kernel
theorem d_MOD_more_68 : decode prog_8_method_39_code 68 = .ok (.ireturn, 1) := by decide +kernel
theorem d_MOD_send_0 : decode prog_8_method_40_code 0 = .ok (.aload_n 0, 1) := by decide +kernel
theorem d_MOD_send_1 : decode prog_8_method_40_code 1 = .ok (.bipush 11, 2) := by decide +kernel
theorem d_MOD_send_3 : decode prog_8_method_40_code 3 = .ok (.invokevirtual 113, 3) := by decide +kernel
theorem d_MOD_send_6 : decode prog_8_method_40_code 6 = .ok (.sipush 255, 3) := by decide +kernel
theorem d_MOD_send_9 : decode prog_8_method_40_code 9 = .ok (.iand, 1) := by decide +kernel
theorem d_MOD_send_10 : decode prog_8_method_40_code 10 = .ok (.istore_n 2, 1) := by decide +kernel
theorem d_MOD_send_11 : decode prog_8_method_40_code 11 = .ok (.iload_n 1, 1) := by decide +kernel
theorem d_MOD_send_12 : decode prog_8_method_40_code 12 = .ok (.ifCond .ne 21, 3) := by decide +kernel
theorem d_MOD_send_15 : decode prog_8_method_40_code 15 = .ok (.aload_n 0, 1) := by decide +kernel
theorem d_MOD_send_16 : decode prog_8_method_40_code 16 = .ok (.getfield 221, 3) := by decide +kernel
theorem d_MOD_send_19 : decode prog_8_method_40_code 19 = .ok (.sipush 200, 3) := by decide +kernel
theorem d_MOD_send_22 : decode prog_8_method_40_code 22 = .ok (.if_icmp .ge 7, 3) := by decide +kernel
theorem d_MOD_send_25 : decode prog_8_method_40_code 25 = .ok (.iconst 1, 1) := by decide +kernel
theorem d_MOD_send_26 : decode prog_8_method_40_code 26 = .ok (.goto 32, 3) := by decide +kernel
theorem d_MOD_send_29 : decode prog_8_method_40_code 29 = .ok (.iconst 0, 1) := by decide +kernel
theorem d_MOD_send_30 : decode prog_8_method_40_code 30 = .ok (.goto 28, 3) := by decide +kernel
theorem d_MOD_send_33 : decode prog_8_method_40_code 33 = .ok (.iload_n 1, 1) := by decide +kernel
theorem d_MOD_send_34 : decode prog_8_method_40_code 34 = .ok (.ifCond .le 23, 3) := by decide +kernel
theorem d_MOD_send_37 : decode prog_8_method_40_code 37 = .ok (.iload_n 1, 1) := by decide +kernel
theorem d_MOD_send_38 : decode prog_8_method_40_code 38 = .ok (.iconst 2, 1) := by decide +kernel
theorem d_MOD_send_39 : decode prog_8_method_40_code 39 = .ok (.irem, 1) := by decide +kernel
theorem d_MOD_send_40 : decode prog_8_method_40_code 40 = .ok (.ifCond .ne 17, 3) := by decide +kernel
theorem d_MOD_send_43 : decode prog_8_method_40_code 43 = .ok (.aload_n 0, 1) := by decide +kernel
theorem d_MOD_send_44 : decode prog_8_method_40_code 44 = .ok (.iload_n 1, 1) := by decide +kernel
theorem d_MOD_send_45 : decode prog_8_method_40_code 45 = .ok (.iconst 1, 1) := by decide +kernel
theorem d_MOD_send_46 : decode prog_8_method_40_code 46 = .ok (.isub, 1) := by decide +kernel
theorem d_MOD_send_47 : decode prog_8_method_40_code 47 = .ok (.invokevirtual 84, 3) := by decide +kernel
theorem d_MOD_send_50 : decode prog_8_method_40_code 50 = .ok (.ifCond .eq 7, 3) := by decide +kernel
theorem d_MOD_send_53 : decode prog_8_method_40_code 53 = .ok (.iconst 1, 1) := by decide +kernel
theorem d_MOD_send_54 : decode prog_8_method_40_code 54 = .ok (.goto 4, 3) := by decide +kernel
theorem d_MOD_send_57 : decode prog_8_method_40_code 57 = .ok (.iconst 0, 1) := by decide +kernel
theorem d_MOD_send_58 : decode prog_8_method_40_code 58 = .ok (.istore_n 3, 1) := by decide +kernel
theorem d_MOD_send_59 : decode prog_8_method_40_code 59 = .ok (.iload_n 1, 1) := by decide +kernel
theorem d_MOD_send_60 : decode prog_8_method_40_code 60 = .ok (.ifCond .le 11, 3) := by decide +kernel
theorem d_MOD_send_63 : decode prog_8_method_40_code 63 = .ok (.iload_n 1, 1) := by decide +kernel
theorem d_MOD_send_64 : decode prog_8_method_40_code 64 = .ok (.iconst 1, 1) := by decide +kernel
theorem d_MOD_send_65 : decode prog_8_method_40_code 65 = .ok (.isub, 1) := by decide +kernel
theorem d_MOD_send_66 : decode prog_8_method_40_code 66 = .ok (.iconst 2, 1) := by decide +kernel
theorem d_MOD_send_67 : decode prog_8_method_40_code 67 = .ok (.idiv, 1) := by decide +kernel
theorem d_MOD_send_68 : decode prog_8_method_40_code 68 = .ok (.goto 4, 3) := by decide +kernel
theorem d_MOD_send_71 : decode prog_8_method_40_code 71 = .ok (.iconst 0, 1) := by decide +kernel
theorem d_MOD_send_72 : decode prog_8_method_40_code 72 = .ok (.istore 4, 2) := by decide +kernel
theorem d_MOD_send_74 : decode prog_8_method_40_code 74 = .ok (.iload_n 3, 1) := by decide +kernel
theorem d_MOD_send_75 : decode prog_8_method_40_code 75 = .ok (.ifCond .eq 25, 3) := by decide +kernel
theorem d_MOD_send_78 : decode prog_8_method_40_code 78 = .ok (.iload_n 1, 1) := by decide +kernel
theorem d_MOD_send_79 : decode prog_8_method_40_code 79 = .ok (.ifCond .le 21, 3) := by decide +kernel
theorem d_MOD_send_82 : decode prog_8_method_40_code 82 = .ok (.aload_n 0, 1) := by decide +kernel
theorem d_MOD_send_83 : decode prog_8_method_40_code 83 = .ok (.getfield 49, 3) := by decide +kernel
theorem d_MOD_send_86 : decode prog_8_method_40_code 86 = .ok (.iload 4, 2) := by decide +kernel
theorem d_MOD_send_88 : decode prog_8_method_40_code 88 = .ok (.iaload, 1) := by decide +kernel
theorem d_MOD_send_89 : decode prog_8_method_40_code 89 = .ok (.bipush 8, 2) := by decide +kernel
theorem d_MOD_send_91 : decode prog_8_method_40_code 91 = .ok (.if_icmp .ne 9, 3) := by decide +kernel
theorem d_MOD_send_94 : decode prog_8_method_40_code 94 = .ok (.aload_n 0, 1) := by decide +kernel
theorem d_MOD_send_95 : decode prog_8_method_40_code 95 = .ok (.iconst 3, 1) := by decide +kernel
theorem d_MOD_send_96 : decode prog_8_method_40_code 96 = .ok (.invokevirtual 218, 3) := by decide +kernel
theorem d_MOD_send_99 : decode prog_8_method_40_code 99 = .ok (.return_, 1) := by decide +kernel
theorem d_MOD_send_100 : decode prog_8_method_40_code 100 = .ok (.aload_n 0, 1) := by decide +kernel
theorem d_MOD_send_101 : decode prog_8_method_40_code 101 = .ok (.bipush 10, 2) := by decide +kernel
theorem d_MOD_send_103 : decode prog_8_method_40_code 103 = .ok (.iload_n 3, 1) := by decide +kernel
theorem d_MOD_send_104 : decode prog_8_method_40_code 104 = .ok (.ifCond .eq 7, 3) := by decide +kernel
theorem d_MOD_send_107 : decode prog_8_method_40_code 107 = .ok (.iload_n 2, 1) := by decide +kernel
theorem d_MOD_send_108 : decode prog_8_method_40_code 108 = .ok (.goto 4, 3) := by decide +kernel
theorem d_MOD_send_111 : decode prog_8_method_40_code 111 = .ok (.iconst (-1), 1) := by decide +kernel
theorem d_MOD_send_112 : decode prog_8_method_40_code 112 = .ok (.invokevirtual 135, 3) := by decide +kernel
theorem d_MOD_send_115 : decode prog_8_method_40_code 115 = .ok (.iload_n 3, 1) := by decide +kernel
theorem d_MOD_send_116 : decode prog_8_method_40_code 116 = .ok (.ifCond .eq 30, 3) := by decide +kernel
theorem d_MOD_send_119 : decode prog_8_method_40_code 119 = .ok (.iload_n 1, 1) := by decide +kernel
theorem d_MOD_send_120 : decode prog_8_method_40_code 120 = .ok (.ifCond .ne 26, 3) := by decide +kernel
theorem d_MOD_send_123 : decode prog_8_method_40_code 123 = .ok (.aload_n 0, 1) := by decide +kernel
theorem d_MOD_send_124 : decode prog_8_method_40_code 124 = .ok (.getfield 52, 3) := by decide +kernel
theorem d_MOD_send_127 : decode prog_8_method_40_code 127 = .ok (.aload_n 0, 1) := by decide +kernel
theorem d_MOD_send_128 : decode prog_8_method_40_code 128 = .ok (.getfield 221, 3) := by decide +kernel
theorem d_MOD_send_131 : decode prog_8_method_40_code 131 = .ok (.iload_n 2, 1) := by decide +kernel
theorem d_MOD_send_132 : decode prog_8_method_40_code 132 = .ok (.iastore, 1) := by decide +kernel
theorem d_MOD_send_133 : decode prog_8_method_40_code 133 = .ok (.aload_n 0, 1) := by decide +kernel
theorem d_MOD_send_134 : decode prog_8_method_40_code 134 = .ok (.dup, 1) := by decide +kernel
theorem d_MOD_send_135 : decode prog_8_method_40_code 135 = .ok (.getfield 221, 3) := by decide +kernel
theorem d_MOD_send_138 : decode prog_8_method_40_code 138 = .ok (.iconst 1, 1) := by decide +kernel
theorem d_MOD_send_139 : decode prog_8_method_40_code 139 = .ok (.iadd, 1) := by decide +kernel
theorem d_MOD_send_140 : decode prog_8_method_40_code 140 = .ok (.putfield 221, 3) := by decide +kernel
theorem d_MOD_send_143 : decode prog_8_method_40_code 143 = .ok (.goto 37, 3) := by decide +kernel
theorem d_MOD_send_146 : decode prog_8_method_40_code 146 = .ok (.iload_n 3, 1) := by decide +kernel
theorem d_MOD_send_147 : decode prog_8_method_40_code 147 = .ok (.ifCond .eq 33, 3) := by decide +kernel
theorem d_MOD_send_150 : decode prog_8_method_40_code 150 = .ok (.aload_n 0, 1) := by decide +kernel
theorem d_MOD_send_151 : decode prog_8_method_40_code 151 = .ok (.getfield 46, 3) := by decide +kernel
theorem d_MOD_send_154 : decode prog_8_method_40_code 154 = .ok (.bipush 8, 2) := by decide +kernel
theorem d_MOD_send_156 : decode prog_8_method_40_code 156 = .ok (.iload 4, 2) := by decide +kernel
theorem d_MOD_send_158 : decode prog_8_method_40_code 158 = .ok (.imul, 1) := by decide +kernel
theorem d_MOD_send_159 : decode prog_8_method_40_code 159 = .ok (.aload_n 0, 1) := by decide +kernel
theorem d_MOD_send_160 : decode prog_8_method_40_code 160 = .ok (.getfield 49, 3) := by decide +kernel
theorem d_MOD_send_163 : decode prog_8_method_40_code 163 = .ok (.iload 4, 2) := by decide +kernel
theorem d_MOD_send_165 : decode prog_8_method_40_code 165 = .ok (.iaload, 1) := by decide +kernel
theorem d_MOD_send_166 : decode prog_8_method_40_code 166 = .ok (.iadd, 1) := by decide +kernel
theorem d_MOD_send_167 : decode prog_8_method_40_code 167 = .ok (.iload_n 2, 1) := by decide +kernel
theorem d_MOD_send_168 : decode prog_8_method_40_code 168 = .ok (.iastore, 1) := by decide +kernel
theorem d_MOD_send_169 : decode prog_8_method_40_code 169 = .ok (.aload_n 0, 1) := by decide +kernel
theorem d_MOD_send_170 : decode prog_8_method_40_code 170 = .ok (.getfield 49, 3) := by decide +kernel
theorem d_MOD_send_173 : decode prog_8_method_40_code 173 = .ok (.iload 4, 2) := by decide +kernel
theorem d_MOD_send_175 : decode prog_8_method_40_code 175 = .ok (.dup2, 1) := by decide +kernel
theorem d_MOD_send_176 : decode prog_8_method_40_code 176 = .ok (.iaload, 1) := by decide +kernel
theorem d_MOD_send_177 : decode prog_8_method_40_code 177 = .ok (.iconst 1, 1) := by decide +kernel
theorem d_MOD_send_178 : decode prog_8_method_40_code 178 = .ok (.iadd, 1) := by decide +kernel
theorem d_MOD_send_179 : decode prog_8_method_40_code 179 = .ok (.iastore, 1) := by decide +kernel
theorem d_MOD_send_180 : decode prog_8_method_40_code 180 = .ok (.return_, 1) := by decide +kernel
theorem d_MOD_take_0 : decode prog_8_method_41_code 0 = .ok (.iload_n 1, 1) := by decide +kernel
theorem d_MOD_take_1 : decode prog_8_method_41_code 1 = .ok (.iconst 1, 1) := by decide +kernel
theorem d_MOD_take_2 : decode prog_8_method_41_code 2 = .ok (.if_icmp .lt 9, 3) := by decide +kernel
theorem d_MOD_take_5 : decode prog_8_method_41_code 5 = .ok (.iload_n 1, 1) := by decide +kernel
theorem d_MOD_take_6 : decode prog_8_method_41_code 6 = .ok (.iconst 2, 1) := by decide +kernel
theorem d_MOD_take_7 : decode prog_8_method_41_code 7 = .ok (.irem, 1) := by decide +kernel
theorem d_MOD_take_8 : decode prog_8_method_41_code 8 = .ok (.ifCond .ne 11, 3) := by decide +kernel
theorem d_MOD_take_11 : decode prog_8_method_41_code 11 = .ok (.aload_n 0, 1) := by decide +kernel
theorem d_MOD_take_12 : decode prog_8_method_41_code 12 = .ok (.bipush 10, 2) := by decide +kernel
theorem d_MOD_take_14 : decode prog_8_method_41_code 14 = .ok (.iconst (-1), 1) := by decide +kernel
theorem d_MOD_take_15 : decode prog_8_method_41_code 15 = .ok (.invokevirtual 135, 3) := by decide +kernel
theorem d_MOD_take_18 : decode prog_8_method_41_code 18 = .ok (.return_, 1) := by decide +kernel
theorem d_MOD_take_19 : decode prog_8_method_41_code 19 = .ok (.iload_n 1, 1) := by decide +kernel
theorem d_MOD_take_20 : decode prog_8_method_41_code 20 = .ok (.iconst 2, 1) := by decide +kernel
theorem d_MOD_take_21 : decode prog_8_method_41_code 21 = .ok (.idiv, 1) := by decide +kernel
theorem d_MOD_take_22 : decode prog_8_method_41_code 22 = .ok (.istore_n 2, 1) := by decide +kernel
theorem d_MOD_take_23 : decode prog_8_method_41_code 23 = .ok (.aload_n 0, 1) := by decide +kernel
theorem d_MOD_take_24 : decode prog_8_method_41_code 24 = .ok (.getfield 49, 3) := by decide +kernel
theorem d_MOD_take_27 : decode prog_8_method_41_code 27 = .ok (.iload_n 2, 1) := by decide +kernel
theorem d_MOD_take_28 : decode prog_8_method_41_code 28 = .ok (.iaload, 1) := by decide +kernel
theorem d_MOD_take_29 : decode prog_8_method_41_code 29 = .ok (.ifCond .ne 29, 3) := by decide +kernel
theorem d_MOD_take_32 : decode prog_8_method_41_code 32 = .ok (.aload_n 0, 1) := by decide +kernel
theorem d_MOD_take_33 : decode prog_8_method_41_code 33 = .ok (.iload_n 1, 1) := by decide +kernel
theorem d_MOD_take_34 : decode prog_8_method_41_code 34 = .ok (.iconst 1, 1) := by decide +kernel
theorem d_MOD_take_35 : decode prog_8_method_41_code 35 = .ok (.iadd, 1) := by decide +kernel
theorem d_MOD_take_36 : decode prog_8_method_41_code 36 = .ok (.invokevirtual 84, 3) := by decide +kernel
theorem d_MOD_take_39 : decode prog_8_method_41_code 39 = .ok (.ifCond .eq 11, 3) := by decide +kernel
theorem d_MOD_take_42 : decode prog_8_method_41_code 42 = .ok (.aload_n 0, 1) := by decide +kernel
theorem d_MOD_take_43 : decode prog_8_method_41_code 43 = .ok (.iconst 2, 1) := by decide +kernel
theorem d_MOD_take_44 : decode prog_8_method_41_code 44 = .ok (.invokevirtual 218, 3) := by decide +kernel
theorem d_MOD_take_47 : decode prog_8_method_41_code 47 = .ok (.goto 10, 3) := by decide +kernel
theorem d_MOD_take_50 : decode prog_8_method_41_code 50 = .ok (.aload_n 0, 1) := by decide +kernel
theorem d_MOD_take_51 : decode prog_8_method_41_code 51 = .ok (.bipush 10, 2) := by decide +kernel
theorem d_MOD_take_53 : decode prog_8_method_41_code 53 = .ok (.iconst (-1), 1) := by decide +kernel
theorem d_MOD_take_54 : decode prog_8_method_41_code 54 = .ok (.invokevirtual 135, 3) := by decide +kernel
theorem d_MOD_take_57 : decode prog_8_method_41_code 57 = .ok (.return_, 1) := by decide +kernel
theorem d_MOD_take_58 : decode prog_8_method_41_code 58 = .ok (.aload_n 0, 1) := by decide +kernel
theorem d_MOD_take_59 : decode prog_8_method_41_code 59 = .ok (.bipush 10, 2) := by decide +kernel
theorem d_MOD_take_61 : decode prog_8_method_41_code 61 = .ok (.aload_n 0, 1) := by decide +kernel
theorem d_MOD_take_62 : decode prog_8_method_41_code 62 = .ok (.getfield 46, 3) := by decide +kernel
theorem d_MOD_take_65 : decode prog_8_method_41_code 65 = .ok (.bipush 8, 2) := by decide +kernel
theorem d_MOD_take_67 : decode prog_8_method_41_code 67 = .ok (.iload_n 2, 1) := by decide +kernel
theorem d_MOD_take_68 : decode prog_8_method_41_code 68 = .ok (.imul, 1) := by decide +kernel
theorem d_MOD_take_69 : decode prog_8_method_41_code 69 = .ok (.iaload, 1) := by decide +kernel
theorem d_MOD_take_70 : decode prog_8_method_41_code 70 = .ok (.invokevirtual 135, 3) := by decide +kernel
theorem d_MOD_take_73 : decode prog_8_method_41_code 73 = .ok (.iconst 0, 1) := by decide +kernel
theorem d_MOD_take_74 : decode prog_8_method_41_code 74 = .ok (.istore_n 3, 1) := by decide +kernel
theorem d_MOD_take_75 : decode prog_8_method_41_code 75 = .ok (.iload_n 3, 1) := by decide +kernel
theorem d_MOD_take_76 : decode prog_8_method_41_code 76 = .ok (.bipush 7, 2) := by decide +kernel
theorem d_MOD_take_78 : decode prog_8_method_41_code 78 = .ok (.if_icmp .ge 33, 3) := by decide +kernel
theorem d_MOD_take_81 : decode prog_8_method_41_code 81 = .ok (.aload_n 0, 1) := by decide +kernel
theorem d_MOD_take_82 : decode prog_8_method_41_code 82 = .ok (.getfield 46, 3) := by decide +kernel
theorem d_MOD_take_85 : decode prog_8_method_41_code 85 = .ok (.bipush 8, 2) := by decide +kernel
theorem d_MOD_take_87 : decode prog_8_method_41_code 87 = .ok (.iload_n 2, 1) := by decide +kernel
theorem d_MOD_take_88 : decode prog_8_method_41_code 88 = .ok (.imul, 1) := by decide +kernel
theorem d_MOD_take_89 : decode prog_8_method_41_code 89 = .ok (.iload_n 3, 1) := by decide +kernel
theorem d_MOD_take_90 : decode prog_8_method_41_code 90 = .ok (.iadd, 1) := by decide +kernel
theorem d_MOD_take_91 : decode prog_8_method_41_code 91 = .ok (.aload_n 0, 1) := by decide +kernel
theorem d_MOD_take_92 : decode prog_8_method_41_code 92 = .ok (.getfield 46, 3) := by decide +kernel
theorem d_MOD_take_95 : decode prog_8_method_41_code 95 = .ok (.bipush 8, 2) := by decide +kernel
theorem d_MOD_take_97 : decode prog_8_method_41_code 97 = .ok (.iload_n 2, 1) := by decide +kernel
theorem d_MOD_take_98 : decode prog_8_method_41_code 98 = .ok (.imul, 1) := by decide +kernel
theorem d_MOD_take_99 : decode prog_8_method_41_code 99 = .ok (.iload_n 3, 1) := by decide +kernel
theorem d_MOD_take_100 : decode prog_8_method_41_code 100 = .ok (.iadd, 1) := by decide +kernel
theorem d_MOD_take_101 : decode prog_8_method_41_code 101 = .ok (.iconst 1, 1) := by decide +kernel
theorem d_MOD_take_102 : decode prog_8_method_41_code 102 = .ok (.iadd, 1) := by decide +kernel
theorem d_MOD_take_103 : decode prog_8_method_41_code 103 = .ok (.iaload, 1) := by decide +kernel
theorem d_MOD_take_104 : decode prog_8_method_41_code 104 = .ok (.iastore, 1) := by decide +kernel
theorem d_MOD_take_105 : decode prog_8_method_41_code 105 = .ok (.iinc 3 1, 3) := by decide +kernel
theorem d_MOD_take_108 : decode prog_8_method_41_code 108 = .ok (.goto (-33), 3) := by decide +kernel
theorem d_MOD_take_111 : decode prog_8_method_41_code 111 = .ok (.aload_n 0, 1) := by decide +kernel
theorem d_MOD_take_112 : decode prog_8_method_41_code 112 = .ok (.getfield 49, 3) := by decide +kernel
theorem d_MOD_take_115 : decode prog_8_method_41_code 115 = .ok (.iload_n 2, 1) := by decide +kernel
theorem d_MOD_take_116 : decode prog_8_method_41_code 116 = .ok (.dup2, 1) := by decide +kernel
theorem d_MOD_take_117 : decode prog_8_method_41_code 117 = .ok (.iaload, 1) := by decide +kernel
theorem d_MOD_take_118 : decode prog_8_method_41_code 118 = .ok (.iconst 1, 1) := by decide +kernel
theorem d_MOD_take_119 : decode prog_8_method_41_code 119 = .ok (.isub, 1) := by decide +kernel
theorem d_MOD_take_120 : decode prog_8_method_41_code 120 = .ok (.iastore, 1) := by decide +kernel
theorem d_MOD_take_121 : decode prog_8_method_41_code 121 = .ok (.return_, 1) := by decide +kernel
theorem d_MOD_pipe_0 : decode prog_8_method_42_code 0 = .ok (.iconst 0, 1) := by decide +kernel
theorem d_MOD_pipe_1 : decode prog_8_method_42_code 1 = .ok (.istore_n 1, 1) := by decide +kernel
theorem d_MOD_pipe_2 : decode prog_8_method_42_code 2 = .ok (.iload_n 1, 1) := by decide +kernel
theorem d_MOD_pipe_3 : decode prog_8_method_42_code 3 = .ok (.iconst 4, 1) := by decide +kernel
theorem d_MOD_pipe_4 : decode prog_8_method_42_code 4 = .ok (.if_icmp .ge 33, 3) := by decide +kernel
theorem d_MOD_pipe_7 : decode prog_8_method_42_code 7 = .ok (.aload_n 0, 1) := by decide +kernel
theorem d_MOD_pipe_8 : decode prog_8_method_42_code 8 = .ok (.iconst 1, 1) := by decide +kernel
theorem d_MOD_pipe_9 : decode prog_8_method_42_code 9 = .ok (.iconst 2, 1) := by decide +kernel
theorem d_MOD_pipe_10 : decode prog_8_method_42_code 10 = .ok (.iload_n 1, 1) := by decide +kernel
theorem d_MOD_pipe_11 : decode prog_8_method_42_code 11 = .ok (.imul, 1) := by decide +kernel
theorem d_MOD_pipe_12 : decode prog_8_method_42_code 12 = .ok (.iadd, 1) := by decide +kernel
theorem d_MOD_pipe_13 : decode prog_8_method_42_code 13 = .ok (.invokevirtual 84, 3) := by decide +kernel
theorem d_MOD_pipe_16 : decode prog_8_method_42_code 16 = .ok (.ifCond .ne 15, 3) := by decide +kernel
theorem d_MOD_pipe_19 : decode prog_8_method_42_code 19 = .ok (.aload_n 0, 1) := by decide +kernel
theorem d_MOD_pipe_20 : decode prog_8_method_42_code 20 = .ok (.iconst 2, 1) := by decide +kernel
theorem d_MOD_pipe_21 : decode prog_8_method_42_code 21 = .ok (.iconst 2, 1) := by decide +kernel
theorem d_MOD_pipe_22 : decode prog_8_method_42_code 22 = .ok (.iload_n 1, 1) := by decide +kernel
theorem d_MOD_pipe_23 : decode prog_8_method_42_code 23 = .ok (.imul, 1) := by decide +kernel
theorem d_MOD_pipe_24 : decode prog_8_method_42_code 24 = .ok (.iadd, 1) := by decide +kernel
theorem d_MOD_pipe_25 : decode prog_8_method_42_code 25 = .ok (.invokevirtual 84, 3) := by decide +kernel
theorem d_MOD_pipe_28 : decode prog_8_method_42_code 28 = .ok (.ifCond .eq 9, 3) := by decide +kernel
theorem d_MOD_pipe_31 : decode prog_8_method_42_code 31 = .ok (.iinc 1 1, 3) := by decide +kernel
theorem d_MOD_pipe_34 : decode prog_8_method_42_code 34 = .ok (.goto (-32), 3) := by decide +kernel
theorem d_MOD_pipe_37 : decode prog_8_method_42_code 37 = .ok (.aload_n 0, 1) := by decide +kernel
theorem d_MOD_pipe_38 : decode prog_8_method_42_code 38 = .ok (.aload_n 0, 1) := by decide +kernel
theorem d_MOD_pipe_39 : decode prog_8_method_42_code 39 = .ok (.getfield 97, 3) := by decide +kernel
theorem d_MOD_pipe_42 : decode prog_8_method_42_code 42 = .ok (.invokevirtual 224, 3) := by decide +kernel
theorem d_MOD_pipe_45 : decode prog_8_method_42_code 45 = .ok (.istore_n 2, 1) := by decide +kernel
theorem d_MOD_pipe_46 : decode prog_8_method_42_code 46 = .ok (.iload_n 2, 1) := by decide +kernel
theorem d_MOD_pipe_47 : decode prog_8_method_42_code 47 = .ok (.istore_n 3, 1) := by decide +kernel
theorem d_MOD_pipe_48 : decode prog_8_method_42_code 48 = .ok (.iload_n 2, 1) := by decide +kernel
theorem d_MOD_pipe_49 : decode prog_8_method_42_code 49 = .ok (.ifCond .lt 43, 3) := by decide +kernel
theorem d_MOD_pipe_52 : decode prog_8_method_42_code 52 = .ok (.aload_n 0, 1) := by decide +kernel
theorem d_MOD_pipe_53 : decode prog_8_method_42_code 53 = .ok (.getfield 40, 3) := by decide +kernel
theorem d_MOD_pipe_56 : decode prog_8_method_42_code 56 = .ok (.bipush 6, 2) := by decide +kernel
theorem d_MOD_pipe_58 : decode prog_8_method_42_code 58 = .ok (.aload_n 0, 1) := by decide +kernel
theorem d_MOD_pipe_59 : decode prog_8_method_42_code 59 = .ok (.getfield 97, 3) := by decide +kernel
theorem d_MOD_pipe_62 : decode prog_8_method_42_code 62 = .ok (.imul, 1) := by decide +kernel
theorem d_MOD_pipe_63 : decode prog_8_method_42_code 63 = .ok (.iload_n 2, 1) := by decide +kernel
theorem d_MOD_pipe_64 : decode prog_8_method_42_code 64 = .ok (.iadd, 1) := by decide +kernel
theorem d_MOD_pipe_65 : decode prog_8_method_42_code 65 = .ok (.bipush 99, 2) := by decide +kernel
theorem d_MOD_pipe_67 : decode prog_8_method_42_code 67 = .ok (.iastore, 1) := by decide +kernel
theorem d_MOD_pipe_68 : decode prog_8_method_42_code 68 = .ok (.aload_n 0, 1) := by decide +kernel
theorem d_MOD_pipe_69 : decode prog_8_method_42_code 69 = .ok (.aload_n 0, 1) := by decide +kernel
theorem d_MOD_pipe_70 : decode prog_8_method_42_code 70 = .ok (.getfield 97, 3) := by decide +kernel
theorem d_MOD_pipe_73 : decode prog_8_method_42_code 73 = .ok (.invokevirtual 224, 3) := by decide +kernel
theorem d_MOD_pipe_76 : decode prog_8_method_42_code 76 = .ok (.istore_n 3, 1) := by decide +kernel
theorem d_MOD_pipe_77 : decode prog_8_method_42_code 77 = .ok (.aload_n 0, 1) := by decide +kernel
theorem d_MOD_pipe_78 : decode prog_8_method_42_code 78 = .ok (.getfield 40, 3) := by decide +kernel
theorem d_MOD_pipe_81 : decode prog_8_method_42_code 81 = .ok (.bipush 6, 2) := by decide +kernel
theorem d_MOD_pipe_83 : decode prog_8_method_42_code 83 = .ok (.aload_n 0, 1) := by decide +kernel
theorem d_MOD_pipe_84 : decode prog_8_method_42_code 84 = .ok (.getfield 97, 3) := by decide +kernel
theorem d_MOD_pipe_87 : decode prog_8_method_42_code 87 = .ok (.imul, 1) := by decide +kernel
theorem d_MOD_pipe_88 : decode prog_8_method_42_code 88 = .ok (.iload_n 2, 1) := by decide +kernel
theorem d_MOD_pipe_89 : decode prog_8_method_42_code 89 = .ok (.iadd, 1) := by decide +kernel
theorem d_MOD_pipe_90 : decode prog_8_method_42_code 90 = .ok (.iconst (-1), 1) := by decide +kernel
theorem d_MOD_pipe_91 : decode prog_8_method_42_code 91 = .ok (.iastore, 1) := by decide +kernel
theorem d_MOD_pipe_92 : decode prog_8_method_42_code 92 = .ok (.iload_n 1, 1) := by decide +kernel
theorem d_MOD_pipe_93 : decode prog_8_method_42_code 93 = .ok (.iconst 4, 1) := by decide +kernel
theorem d_MOD_pipe_94 : decode prog_8_method_42_code 94 = .ok (.if_icmp .eq 7, 3) := by decide +kernel
theorem d_MOD_pipe_97 : decode prog_8_method_42_code 97 = .ok (.iload_n 3, 1) := by decide +kernel
theorem d_MOD_pipe_98 : decode prog_8_method_42_code 98 = .ok (.ifCond .ge 11, 3) := by decide +kernel
theorem d_MOD_pipe_101 : decode prog_8_method_42_code 101 = .ok (.aload_n 0, 1) := by decide +kernel
theorem d_MOD_pipe_102 : decode prog_8_method_42_code 102 = .ok (.bipush 10, 2) := by decide +kernel
theorem d_MOD_pipe_104 : decode prog_8_method_42_code 104 = .ok (.iconst (-1), 1) := by decide +kernel
theorem d_MOD_pipe_105 : decode prog_8_method_42_code 105 = .ok (.invokevirtual 135, 3) := by decide +kernel
theorem d_MOD_pipe_108 : decode prog_8_method_42_code 108 = .ok (.return_, 1) := by decide +kernel
theorem d_MOD_pipe_109 : decode prog_8_method_42_code 109 = .ok (.aload_n 0, 1) := by decide +kernel
theorem d_MOD_pipe_110 : decode prog_8_method_42_code 110 = .ok (.getfield 40, 3) := by decide +kernel
theorem d_MOD_pipe_113 : decode prog_8_method_42_code 113 = .ok (.bipush 6, 2) := by decide +kernel
theorem d_MOD_pipe_115 : decode prog_8_method_42_code 115 = .ok (.aload_n 0, 1) := by decide +kernel
theorem d_MOD_pipe_116 : decode prog_8_method_42_code 116 = .ok (.getfield 97, 3) := by decide +kernel
theorem d_MOD_pipe_119 : decode prog_8_method_42_code 119 = .ok (.imul, 1) := by decide +kernel
theorem d_MOD_pipe_120 : decode prog_8_method_42_code 120 = .ok (.iload_n 2, 1) := by decide +kernel
theorem d_MOD_pipe_121 : decode prog_8_method_42_code 121 = .ok (.iadd, 1) := by decide +kernel
theorem d_MOD_pipe_122 : decode prog_8_method_42_code 122 = .ok (.iconst 1, 1) := by decide +kernel
theorem d_MOD_pipe_123 : decode prog_8_method_42_code 123 = .ok (.iconst 2, 1) := by decide +kernel
theorem d_MOD_pipe_124 : decode prog_8_method_42_code 124 = .ok (.iload_n 1, 1) := by decide +kernel
theorem d_MOD_pipe_125 : decode prog_8_method_42_code 125 = .ok (.imul, 1) := by decide +kernel
theorem d_MOD_pipe_126 : decode prog_8_method_42_code 126 = .ok (.iadd, 1) := by decide +kernel
theorem d_MOD_pipe_127 : decode prog_8_method_42_code 127 = .ok (.iastore, 1) := by decide +kernel
theorem d_MOD_pipe_128 : decode prog_8_method_42_code 128 = .ok (.aload_n 0, 1) := by decide +kernel
theorem d_MOD_pipe_129 : decode prog_8_method_42_code 129 = .ok (.getfield 40, 3) := by decide +kernel
theorem d_MOD_pipe_132 : decode prog_8_method_42_code 132 = .ok (.bipush 6, 2) := by decide +kernel
theorem d_MOD_pipe_134 : decode prog_8_method_42_code 134 = .ok (.aload_n 0, 1) := by decide +kernel
theorem d_MOD_pipe_135 : decode prog_8_method_42_code 135 = .ok (.getfield 97, 3) := by decide +kernel
theorem d_MOD_pipe_138 : decode prog_8_method_42_code 138 = .ok (.imul, 1) := by decide +kernel
theorem d_MOD_pipe_139 : decode prog_8_method_42_code 139 = .ok (.iload_n 3, 1) := by decide +kernel
theorem d_MOD_pipe_140 : decode prog_8_method_42_code 140 = .ok (.iadd, 1) := by decide +kernel
theorem d_MOD_pipe_141 : decode prog_8_method_42_code 141 = .ok (.iconst 2, 1) := by decide +kernel
theorem d_MOD_pipe_142 : decode prog_8_method_42_code 142 = .ok (.iconst 2, 1) := by decide +kernel
theorem d_MOD_pipe_143 : decode prog_8_method_42_code 143 = .ok (.iload_n 1, 1) := by decide +kernel
theorem d_MOD_pipe_144 : decode prog_8_method_42_code 144 = .ok (.imul, 1) := by decide +kernel
theorem d_MOD_pipe_145 : decode prog_8_method_42_code 145 = .ok (.iadd, 1) := by decide +kernel
theorem d_MOD_pipe_146 : decode prog_8_method_42_code 146 = .ok (.iastore, 1) := by decide +kernel
theorem d_MOD_pipe_147 : decode prog_8_method_42_code 147 = .ok (.aload_n 0, 1) := by decide +kernel
theorem d_MOD_pipe_148 : decode prog_8_method_42_code 148 = .ok (.bipush 10, 2) := by decide +kernel
theorem d_MOD_pipe_150 : decode prog_8_method_42_code 150 = .ok (.iload_n 2, 1) := by decide +kernel
theorem d_MOD_pipe_151 : decode prog_8_method_42_code 151 = .ok (.invokevirtual 135, 3) := by decide +kernel
theorem d_MOD_pipe_154 : decode prog_8_method_42_code 154 = .ok (.aload_n 0, 1) := by decide +kernel
theorem d_MOD_pipe_155 : decode prog_8_method_42_code 155 = .ok (.bipush 11, 2) := by decide +kernel
theorem d_MOD_pipe_157 : decode prog_8_method_42_code 157 = .ok (.iload_n 3, 1) := by decide +kernel
theorem d_MOD_pipe_158 : decode prog_8_method_42_code 158 = .ok (.invokevirtual 135, 3) := by decide +kernel
theorem d_MOD_pipe_161 : decode prog_8_method_42_code 161 = .ok (.return_, 1) := by decide +kernel
theorem d_MOD_close_0 : decode prog_8_method_43_code 0 = .ok (.aload_n 0, 1) := by decide +kernel
theorem d_MOD_close_1 : decode prog_8_method_43_code 1 = .ok (.aload_n 0, 1) := by decide +kernel
theorem d_MOD_close_2 : decode prog_8_method_43_code 2 = .ok (.getfield 97, 3) := by decide +kernel
theorem d_MOD_close_5 : decode prog_8_method_43_code 5 = .ok (.iload_n 1, 1) := by decide +kernel
theorem d_MOD_close_6 : decode prog_8_method_43_code 6 = .ok (.invokevirtual 191, 3) := by decide +kernel
theorem d_MOD_close_9 : decode prog_8_method_43_code 9 = .ok (.ifCond .ge 5, 3) := by decide +kernel
theorem d_MOD_close_12 : decode prog_8_method_43_code 12 = .ok (.iconst (-1), 1) := by decide +kernel
theorem d_MOD_close_13 : decode prog_8_method_43_code 13 = .ok (.ireturn, 1) := by decide +kernel
theorem d_MOD_close_14 : decode prog_8_method_43_code 14 = .ok (.aload_n 0, 1) := by decide +kernel
theorem d_MOD_close_15 : decode prog_8_method_43_code 15 = .ok (.getfield 40, 3) := by decide +kernel
theorem d_MOD_close_18 : decode prog_8_method_43_code 18 = .ok (.bipush 6, 2) := by decide +kernel
theorem d_MOD_close_20 : decode prog_8_method_43_code 20 = .ok (.aload_n 0, 1) := by decide +kernel
theorem d_MOD_close_21 : decode prog_8_method_43_code 21 = .ok (.getfield 97, 3) := by decide +kernel
theorem d_MOD_close_24 : decode prog_8_method_43_code 24 = .ok (.imul, 1) := by decide +kernel
theorem d_MOD_close_25 : decode prog_8_method_43_code 25 = .ok (.iload_n 1, 1) := by decide +kernel
theorem d_MOD_close_26 : decode prog_8_method_43_code 26 = .ok (.iadd, 1) := by decide +kernel
theorem d_MOD_close_27 : decode prog_8_method_43_code 27 = .ok (.iconst (-1), 1) := by decide +kernel
theorem d_MOD_close_28 : decode prog_8_method_43_code 28 = .ok (.iastore, 1) := by decide +kernel
theorem d_MOD_close_29 : decode prog_8_method_43_code 29 = .ok (.aload_n 0, 1) := by decide +kernel
theorem d_MOD_close_30 : decode prog_8_method_43_code 30 = .ok (.invokevirtual 88, 3) := by decide +kernel
theorem d_MOD_close_33 : decode prog_8_method_43_code 33 = .ok (.iconst 0, 1) := by decide +kernel
theorem d_MOD_close_34 : decode prog_8_method_43_code 34 = .ok (.ireturn, 1) := by decide +kernel
end
section
theorem d_MOD_duplicate_0 : decode prog_8_method_44_code 0 = .ok (.aload_n 0, 1) := by decide +kernel
theorem d_MOD_duplicate_1 : decode prog_8_method_44_code 1 = .ok (.aload_n 0, 1) := by decide +kernel
theorem d_MOD_duplicate_2 : decode prog_8_method_44_code 2 = .ok (.getfield 97, 3) := by decide +kernel
theorem d_MOD_duplicate_5 : decode prog_8_method_44_code 5 = .ok (.invokevirtual 224, 3) := by decide +kernel
theorem d_MOD_duplicate_8 : decode prog_8_method_44_code 8 = .ok (.istore_n 2, 1) := by decide +kernel
theorem d_MOD_duplicate_9 : decode prog_8_method_44_code 9 = .ok (.iload_n 1, 1) := by decide +kernel
theorem d_MOD_duplicate_10 : decode prog_8_method_44_code 10 = .ok (.ifCond .lt 7, 3) := by decide +kernel
theorem d_MOD_duplicate_13 : decode prog_8_method_44_code 13 = .ok (.iload_n 2, 1) := by decide +kernel
theorem d_MOD_duplicate_14 : decode prog_8_method_44_code 14 = .ok (.ifCond .ge 5, 3) := by decide +kernel
theorem d_MOD_duplicate_17 : decode prog_8_method_44_code 17 = .ok (.iconst (-1), 1) := by decide +kernel
theorem d_MOD_duplicate_18 : decode prog_8_method_44_code 18 = .ok (.ireturn, 1) := by decide +kernel
theorem d_MOD_duplicate_19 : decode prog_8_method_44_code 19 = .ok (.aload_n 0, 1) := by decide +kernel
theorem d_MOD_duplicate_20 : decode prog_8_method_44_code 20 = .ok (.getfield 40, 3) := by decide +kernel
theorem d_MOD_duplicate_23 : decode prog_8_method_44_code 23 = .ok (.bipush 6, 2) := by decide +kernel
theorem d_MOD_duplicate_25 : decode prog_8_method_44_code 25 = .ok (.aload_n 0, 1) := by decide +kernel
theorem d_MOD_duplicate_26 : decode prog_8_method_44_code 26 = .ok (.getfield 97, 3) := by decide +kernel
theorem d_MOD_duplicate_29 : decode prog_8_method_44_code 29 = .ok (.imul, 1) := by decide +kernel
theorem d_MOD_duplicate_30 : decode prog_8_method_44_code 30 = .ok (.iload_n 2, 1) := by decide +kernel
theorem d_MOD_duplicate_31 : decode prog_8_method_44_code 31 = .ok (.iadd, 1) := by decide +kernel
theorem d_MOD_duplicate_32 : decode prog_8_method_44_code 32 = .ok (.iload_n 1, 1) := by decide +kernel
theorem d_MOD_duplicate_33 : decode prog_8_method_44_code 33 = .ok (.iastore, 1) := by decide +kernel
theorem d_MOD_duplicate_34 : decode prog_8_method_44_code 34 = .ok (.iload_n 2, 1) := by decide +kernel
theorem d_MOD_duplicate_35 : decode prog_8_method_44_code 35 = .ok (.ireturn, 1) := by decide +kernel
theorem d_MOD_kill_0 : decode prog_8_method_45_code 0 = .ok (.iload_n 1, 1) := by decide +kernel
theorem d_MOD_kill_1 : decode prog_8_method_45_code 1 = .ok (.iconst 1, 1) := by decide +kernel
theorem d_MOD_kill_2 : decode prog_8_method_45_code 2 = .ok (.if_icmp .lt 32, 3) := by decide +kernel
theorem d_MOD_kill_5 : decode prog_8_method_45_code 5 = .ok (.iload_n 1, 1) := by decide +kernel
theorem d_MOD_kill_6 : decode prog_8_method_45_code 6 = .ok (.bipush 8, 2) := by decide +kernel
theorem d_MOD_kill_8 : decode prog_8_method_45_code 8 = .ok (.if_icmp .gt 26, 3) := by decide +kernel
theorem d_MOD_kill_11 : decode prog_8_method_45_code 11 = .ok (.aload_n 0, 1) := by decide +kernel
theorem d_MOD_kill_12 : decode prog_8_method_45_code 12 = .ok (.getfield 19, 3) := by decide +kernel
theorem d_MOD_kill_15 : decode prog_8_method_45_code 15 = .ok (.iload_n 1, 1) := by decide +kernel
theorem d_MOD_kill_16 : decode prog_8_method_45_code 16 = .ok (.iaload, 1) := by decide +kernel
theorem d_MOD_kill_17 : decode prog_8_method_45_code 17 = .ok (.ifCond .le 17, 3) := by decide +kernel
theorem d_MOD_kill_20 : decode prog_8_method_45_code 20 = .ok (.aload_n 0, 1) := by decide +kernel
theorem d_MOD_kill_21 : decode prog_8_method_45_code 21 = .ok (.getfield 19, 3) := by decide +kernel
theorem d_MOD_kill_24 : decode prog_8_method_45_code 24 = .ok (.iload_n 1, 1) := by decide +kernel
theorem d_MOD_kill_25 : decode prog_8_method_45_code 25 = .ok (.iaload, 1) := by decide +kernel
theorem d_MOD_kill_26 : decode prog_8_method_45_code 26 = .ok (.iconst 5, 1) := by decide +kernel
theorem d_MOD_kill_27 : decode prog_8_method_45_code 27 = .ok (.if_icmp .eq 7, 3) := by decide +kernel
theorem d_MOD_kill_30 : decode prog_8_method_45_code 30 = .ok (.iconst 1, 1) := by decide +kernel
theorem d_MOD_kill_31 : decode prog_8_method_45_code 31 = .ok (.goto 4, 3) := by decide +kernel
theorem d_MOD_kill_34 : decode prog_8_method_45_code 34 = .ok (.iconst 0, 1) := by decide +kernel
theorem d_MOD_kill_35 : decode prog_8_method_45_code 35 = .ok (.istore_n 2, 1) := by decide +kernel
theorem d_MOD_kill_36 : decode prog_8_method_45_code 36 = .ok (.aload_n 0, 1) := by decide +kernel
theorem d_MOD_kill_37 : decode prog_8_method_45_code 37 = .ok (.bipush 10, 2) := by decide +kernel
theorem d_MOD_kill_39 : decode prog_8_method_45_code 39 = .ok (.iload_n 2, 1) := by decide +kernel
theorem d_MOD_kill_40 : decode prog_8_method_45_code 40 = .ok (.ifCond .eq 7, 3) := by decide +kernel
theorem d_MOD_kill_43 : decode prog_8_method_45_code 43 = .ok (.iconst 0, 1) := by decide +kernel
theorem d_MOD_kill_44 : decode prog_8_method_45_code 44 = .ok (.goto 4, 3) := by decide +kernel
theorem d_MOD_kill_47 : decode prog_8_method_45_code 47 = .ok (.iconst (-1), 1) := by decide +kernel
theorem d_MOD_kill_48 : decode prog_8_method_45_code 48 = .ok (.invokevirtual 135, 3) := by decide +kernel
theorem d_MOD_kill_51 : decode prog_8_method_45_code 51 = .ok (.iload_n 2, 1) := by decide +kernel
theorem d_MOD_kill_52 : decode prog_8_method_45_code 52 = .ok (.ifCond .ne 4, 3) := by decide +kernel
theorem d_MOD_kill_55 : decode prog_8_method_45_code 55 = .ok (.return_, 1) := by decide +kernel
theorem d_MOD_kill_56 : decode prog_8_method_45_code 56 = .ok (.iload_n 1, 1) := by decide +kernel
theorem d_MOD_kill_57 : decode prog_8_method_45_code 57 = .ok (.aload_n 0, 1) := by decide +kernel
theorem d_MOD_kill_58 : decode prog_8_method_45_code 58 = .ok (.getfield 97, 3) := by decide +kernel
theorem d_MOD_kill_61 : decode prog_8_method_45_code 61 = .ok (.if_icmp .ne 16, 3) := by decide +kernel
theorem d_MOD_kill_64 : decode prog_8_method_45_code 64 = .ok (.aload_n 0, 1) := by decide +kernel
theorem d_MOD_kill_65 : decode prog_8_method_45_code 65 = .ok (.getfield 28, 3) := by decide +kernel
theorem d_MOD_kill_68 : decode prog_8_method_45_code 68 = .ok (.aload_n 0, 1) := by decide +kernel
theorem d_MOD_kill_69 : decode prog_8_method_45_code 69 = .ok (.getfield 97, 3) := by decide +kernel
theorem d_MOD_kill_72 : decode prog_8_method_45_code 72 = .ok (.aload_n 0, 1) := by decide +kernel
theorem d_MOD_kill_73 : decode prog_8_method_45_code 73 = .ok (.getfield 121, 3) := by decide +kernel
theorem d_MOD_kill_76 : decode prog_8_method_45_code 76 = .ok (.iastore, 1) := by decide +kernel
theorem d_MOD_kill_77 : decode prog_8_method_45_code 77 = .ok (.aload_n 0, 1) := by decide +kernel
theorem d_MOD_kill_78 : decode prog_8_method_45_code 78 = .ok (.iload_n 1, 1) := by decide +kernel
theorem d_MOD_kill_79 : decode prog_8_method_45_code 79 = .ok (.sipush 137, 3) := by decide +kernel
theorem d_MOD_kill_82 : decode prog_8_method_45_code 82 = .ok (.invokevirtual 103, 3) := by decide +kernel
theorem d_MOD_kill_85 : decode prog_8_method_45_code 85 = .ok (.return_, 1) := by decide +kernel
theorem d_MOD_mayGo_0 : decode prog_8_method_46_code 0 = .ok (.aload_n 0, 1) := by decide +kernel
theorem d_MOD_mayGo_1 : decode prog_8_method_46_code 1 = .ok (.iload_n 1, 1) := by decide +kernel
theorem d_MOD_mayGo_2 : decode prog_8_method_46_code 2 = .ok (.aload_n 0, 1) := by decide +kernel
theorem d_MOD_mayGo_3 : decode prog_8_method_46_code 3 = .ok (.getfield 34, 3) := by decide +kernel
theorem d_MOD_mayGo_6 : decode prog_8_method_46_code 6 = .ok (.bipush 32, 2) := by decide +kernel
theorem d_MOD_mayGo_8 : decode prog_8_method_46_code 8 = .ok (.iload_n 1, 1) := by decide +kernel
theorem d_MOD_mayGo_9 : decode prog_8_method_46_code 9 = .ok (.imul, 1) := by decide +kernel
theorem d_MOD_mayGo_10 : decode prog_8_method_46_code 10 = .ok (.bipush 10, 2) := by decide +kernel
theorem d_MOD_mayGo_12 : decode prog_8_method_46_code 12 = .ok (.iadd, 1) := by decide +kernel
theorem d_MOD_mayGo_13 : decode prog_8_method_46_code 13 = .ok (.iaload, 1) := by decide +kernel
theorem d_MOD_mayGo_14 : decode prog_8_method_46_code 14 = .ok (.invokevirtual 191, 3) := by decide +kernel
theorem d_MOD_mayGo_17 : decode prog_8_method_46_code 17 = .ok (.istore_n 2, 1) := by decide +kernel
theorem d_MOD_mayGo_18 : decode prog_8_method_46_code 18 = .ok (.aload_n 0, 1) := by decide +kernel
theorem d_MOD_mayGo_19 : decode prog_8_method_46_code 19 = .ok (.getfield 19, 3) := by decide +kernel
theorem d_MOD_mayGo_22 : decode prog_8_method_46_code 22 = .ok (.iload_n 1, 1) := by decide +kernel
theorem d_MOD_mayGo_23 : decode prog_8_method_46_code 23 = .ok (.iaload, 1) := by decide +kernel
theorem d_MOD_mayGo_24 : decode prog_8_method_46_code 24 = .ok (.iconst 2, 1) := by decide +kernel
theorem d_MOD_mayGo_25 : decode prog_8_method_46_code 25 = .ok (.if_icmp .ne 30, 3) := by decide +kernel
theorem d_MOD_mayGo_28 : decode prog_8_method_46_code 28 = .ok (.aload_n 0, 1) := by decide +kernel
theorem d_MOD_mayGo_29 : decode prog_8_method_46_code 29 = .ok (.getfield 49, 3) := by decide +kernel
theorem d_MOD_mayGo_32 : decode prog_8_method_46_code 32 = .ok (.iload_n 2, 1) := by decide +kernel
theorem d_MOD_mayGo_33 : decode prog_8_method_46_code 33 = .ok (.iconst 2, 1) := by decide +kernel
theorem d_MOD_mayGo_34 : decode prog_8_method_46_code 34 = .ok (.idiv, 1) := by decide +kernel
theorem d_MOD_mayGo_35 : decode prog_8_method_46_code 35 = .ok (.iaload, 1) := by decide +kernel
theorem d_MOD_mayGo_36 : decode prog_8_method_46_code 36 = .ok (.ifCond .gt 13, 3) := by decide +kernel
theorem d_MOD_mayGo_39 : decode prog_8_method_46_code 39 = .ok (.aload_n 0, 1) := by decide +kernel
theorem d_MOD_mayGo_40 : decode prog_8_method_46_code 40 = .ok (.iload_n 2, 1) := by decide +kernel
theorem d_MOD_mayGo_41 : decode prog_8_method_46_code 41 = .ok (.iconst 1, 1) := by decide +kernel
theorem d_MOD_mayGo_42 : decode prog_8_method_46_code 42 = .ok (.iadd, 1) := by decide +kernel
theorem d_MOD_mayGo_43 : decode prog_8_method_46_code 43 = .ok (.invokevirtual 84, 3) := by decide +kernel
theorem d_MOD_mayGo_46 : decode prog_8_method_46_code 46 = .ok (.ifCond .ne 7, 3) := by decide +kernel
theorem d_MOD_mayGo_49 : decode prog_8_method_46_code 49 = .ok (.iconst 1, 1) := by decide +kernel
theorem d_MOD_mayGo_50 : decode prog_8_method_46_code 50 = .ok (.goto 4, 3) := by decide +kernel
theorem d_MOD_mayGo_53 : decode prog_8_method_46_code 53 = .ok (.iconst 0, 1) := by decide +kernel
theorem d_MOD_mayGo_54 : decode prog_8_method_46_code 54 = .ok (.ireturn, 1) := by decide +kernel
theorem d_MOD_mayGo_55 : decode prog_8_method_46_code 55 = .ok (.aload_n 0, 1) := by decide +kernel
theorem d_MOD_mayGo_56 : decode prog_8_method_46_code 56 = .ok (.getfield 19, 3) := by decide +kernel
theorem d_MOD_mayGo_59 : decode prog_8_method_46_code 59 = .ok (.iload_n 1, 1) := by decide +kernel
theorem d_MOD_mayGo_60 : decode prog_8_method_46_code 60 = .ok (.iaload, 1) := by decide +kernel
theorem d_MOD_mayGo_61 : decode prog_8_method_46_code 61 = .ok (.iconst 3, 1) := by decide +kernel
theorem d_MOD_mayGo_62 : decode prog_8_method_46_code 62 = .ok (.if_icmp .ne 34, 3) := by decide +kernel
theorem d_MOD_mayGo_65 : decode prog_8_method_46_code 65 = .ok (.aload_n 0, 1) := by decide +kernel
theorem d_MOD_mayGo_66 : decode prog_8_method_46_code 66 = .ok (.getfield 49, 3) := by decide +kernel
theorem d_MOD_mayGo_69 : decode prog_8_method_46_code 69 = .ok (.iload_n 2, 1) := by decide +kernel
theorem d_MOD_mayGo_70 : decode prog_8_method_46_code 70 = .ok (.iconst 1, 1) := by decide +kernel
theorem d_MOD_mayGo_71 : decode prog_8_method_46_code 71 = .ok (.isub, 1) := by decide +kernel
theorem d_MOD_mayGo_72 : decode prog_8_method_46_code 72 = .ok (.iconst 2, 1) := by decide +kernel
theorem d_MOD_mayGo_73 : decode prog_8_method_46_code 73 = .ok (.idiv, 1) := by decide +kernel
theorem d_MOD_mayGo_74 : decode prog_8_method_46_code 74 = .ok (.iaload, 1) := by decide +kernel
theorem d_MOD_mayGo_75 : decode prog_8_method_46_code 75 = .ok (.bipush 8, 2) := by decide +kernel
theorem d_MOD_mayGo_77 : decode prog_8_method_46_code 77 = .ok (.if_icmp .lt 13, 3) := by decide +kernel
theorem d_MOD_mayGo_80 : decode prog_8_method_46_code 80 = .ok (.aload_n 0, 1) := by decide +kernel
theorem d_MOD_mayGo_81 : decode prog_8_method_46_code 81 = .ok (.iload_n 2, 1) := by decide +kernel
theorem d_MOD_mayGo_82 : decode prog_8_method_46_code 82 = .ok (.iconst 1, 1) := by decide +kernel
theorem d_MOD_mayGo_83 : decode prog_8_method_46_code 83 = .ok (.isub, 1) := by decide +kernel
theorem d_MOD_mayGo_84 : decode prog_8_method_46_code 84 = .ok (.invokevirtual 84, 3) := by decide +kernel
theorem d_MOD_mayGo_87 : decode prog_8_method_46_code 87 = .ok (.ifCond .ne 7, 3) := by decide +kernel
theorem d_MOD_mayGo_90 : decode prog_8_method_46_code 90 = .ok (.iconst 1, 1) := by decide +kernel
theorem d_MOD_mayGo_91 : decode prog_8_method_46_code 91 = .ok (.goto 4, 3) := by decide +kernel
theorem d_MOD_mayGo_94 : decode prog_8_method_46_code 94 = .ok (.iconst 0, 1) := by decide +kernel
theorem d_MOD_mayGo_95 : decode prog_8_method_46_code 95 = .ok (.ireturn, 1) := by decide +kernel
theorem d_MOD_mayGo_96 : decode prog_8_method_46_code 96 = .ok (.aload_n 0, 1) := by decide +kernel
theorem d_MOD_mayGo_97 : decode prog_8_method_46_code 97 = .ok (.getfield 19, 3) := by decide +kernel
theorem d_MOD_mayGo_100 : decode prog_8_method_46_code 100 = .ok (.iload_n 1, 1) := by decide +kernel
theorem d_MOD_mayGo_101 : decode prog_8_method_46_code 101 = .ok (.iaload, 1) := by decide +kernel
theorem d_MOD_mayGo_102 : decode prog_8_method_46_code 102 = .ok (.iconst 4, 1) := by decide +kernel
theorem d_MOD_mayGo_103 : decode prog_8_method_46_code 103 = .ok (.if_icmp .ne 15, 3) := by decide +kernel
theorem d_MOD_mayGo_106 : decode prog_8_method_46_code 106 = .ok (.aload_n 0, 1) := by decide +kernel
theorem d_MOD_mayGo_107 : decode prog_8_method_46_code 107 = .ok (.iload_n 1, 1) := by decide +kernel
theorem d_MOD_mayGo_108 : decode prog_8_method_46_code 108 = .ok (.invokevirtual 215, 3) := by decide +kernel
theorem d_MOD_mayGo_111 : decode prog_8_method_46_code 111 = .ok (.ifCond .eq 7, 3) := by decide +kernel
theorem d_MOD_mayGo_114 : decode prog_8_method_46_code 114 = .ok (.iconst 1, 1) := by decide +kernel
theorem d_MOD_mayGo_115 : decode prog_8_method_46_code 115 = .ok (.goto 4, 3) := by decide +kernel
theorem d_MOD_mayGo_118 : decode prog_8_method_46_code 118 = .ok (.iconst 0, 1) := by decide +kernel
theorem d_MOD_mayGo_119 : decode prog_8_method_46_code 119 = .ok (.ireturn, 1) := by decide +kernel
theorem d_MOD_step_0 : decode prog_8_method_47_code 0 = .ok (.iconst 0, 1) := by decide +kernel
theorem d_MOD_step_1 : decode prog_8_method_47_code 1 = .ok (.istore_n 1, 1) := by decide +kernel
theorem d_MOD_step_2 : decode prog_8_method_47_code 2 = .ok (.iconst 1, 1) := by decide +kernel
theorem d_MOD_step_3 : decode prog_8_method_47_code 3 = .ok (.istore_n 2, 1) := by decide +kernel
theorem d_MOD_step_4 : decode prog_8_method_47_code 4 = .ok (.iload_n 2, 1) := by decide +kernel
theorem d_MOD_step_5 : decode prog_8_method_47_code 5 = .ok (.bipush 8, 2) := by decide +kernel
theorem d_MOD_step_7 : decode prog_8_method_47_code 7 = .ok (.if_icmp .gt 38, 3) := by decide +kernel
theorem d_MOD_step_10 : decode prog_8_method_47_code 10 = .ok (.iload_n 1, 1) := by decide +kernel
theorem d_MOD_step_11 : decode prog_8_method_47_code 11 = .ok (.ifCond .ne 22, 3) := by decide +kernel
theorem d_MOD_step_14 : decode prog_8_method_47_code 14 = .ok (.aload_n 0, 1) := by decide +kernel
theorem d_MOD_step_15 : decode prog_8_method_47_code 15 = .ok (.getfield 19, 3) := by decide +kernel
theorem d_MOD_step_18 : decode prog_8_method_47_code 18 = .ok (.iload_n 2, 1) := by decide +kernel
theorem d_MOD_step_19 : decode prog_8_method_47_code 19 = .ok (.iaload, 1) := by decide +kernel
theorem d_MOD_step_20 : decode prog_8_method_47_code 20 = .ok (.ifCond .le 17, 3) := by decide +kernel
theorem d_MOD_step_23 : decode prog_8_method_47_code 23 = .ok (.aload_n 0, 1) := by decide +kernel
theorem d_MOD_step_24 : decode prog_8_method_47_code 24 = .ok (.getfield 19, 3) := by decide +kernel
theorem d_MOD_step_27 : decode prog_8_method_47_code 27 = .ok (.iload_n 2, 1) := by decide +kernel
theorem d_MOD_step_28 : decode prog_8_method_47_code 28 = .ok (.iaload, 1) := by decide +kernel
theorem d_MOD_step_29 : decode prog_8_method_47_code 29 = .ok (.iconst 5, 1) := by decide +kernel
theorem d_MOD_step_30 : decode prog_8_method_47_code 30 = .ok (.if_icmp .eq 7, 3) := by decide +kernel
theorem d_MOD_step_33 : decode prog_8_method_47_code 33 = .ok (.iconst 1, 1) := by decide +kernel
theorem d_MOD_step_34 : decode prog_8_method_47_code 34 = .ok (.goto 4, 3) := by decide +kernel
theorem d_MOD_step_37 : decode prog_8_method_47_code 37 = .ok (.iconst 0, 1) := by decide +kernel
theorem d_MOD_step_38 : decode prog_8_method_47_code 38 = .ok (.istore_n 1, 1) := by decide +kernel
theorem d_MOD_step_39 : decode prog_8_method_47_code 39 = .ok (.iinc 2 1, 3) := by decide +kernel
theorem d_MOD_step_42 : decode prog_8_method_47_code 42 = .ok (.goto (-38), 3) := by decide +kernel
theorem d_MOD_step_45 : decode prog_8_method_47_code 45 = .ok (.iload_n 1, 1) := by decide +kernel
theorem d_MOD_step_46 : decode prog_8_method_47_code 46 = .ok (.ifCond .ne 5, 3) := by decide +kernel
theorem d_MOD_step_49 : decode prog_8_method_47_code 49 = .ok (.iconst (-1), 1) := by decide +kernel
theorem d_MOD_step_50 : decode prog_8_method_47_code 50 = .ok (.ireturn, 1) := by decide +kernel
theorem d_MOD_step_51 : decode prog_8_method_47_code 51 = .ok (.aload_n 0, 1) := by decide +kernel
theorem d_MOD_step_52 : decode prog_8_method_47_code 52 = .ok (.getfield 227, 3) := by decide +kernel
theorem d_MOD_step_55 : decode prog_8_method_47_code 55 = .ok (.ifCond .ne 35, 3) := by decide +kernel
theorem d_MOD_step_58 : decode prog_8_method_47_code 58 = .ok (.aload_n 0, 1) := by decide +kernel
theorem d_MOD_step_59 : decode prog_8_method_47_code 59 = .ok (.getfield 77, 3) := by decide +kernel
theorem d_MOD_step_62 : decode prog_8_method_47_code 62 = .ok (.ifCond .ne 5, 3) := by decide +kernel
theorem d_MOD_step_65 : decode prog_8_method_47_code 65 = .ok (.iconst 0, 1) := by decide +kernel
theorem d_MOD_step_66 : decode prog_8_method_47_code 66 = .ok (.ireturn, 1) := by decide +kernel
theorem d_MOD_step_67 : decode prog_8_method_47_code 67 = .ok (.aload_n 0, 1) := by decide +kernel
theorem d_MOD_step_68 : decode prog_8_method_47_code 68 = .ok (.aload_n 0, 1) := by decide +kernel
theorem d_MOD_step_69 : decode prog_8_method_47_code 69 = .ok (.getfield 43, 3) := by decide +kernel
theorem d_MOD_step_72 : decode prog_8_method_47_code 72 = .ok (.iconst 0, 1) := by decide +kernel
theorem d_MOD_step_73 : decode prog_8_method_47_code 73 = .ok (.iaload, 1) := by decide +kernel
theorem d_MOD_step_74 : decode prog_8_method_47_code 74 = .ok (.putfield 227, 3) := by decide +kernel
theorem d_MOD_step_77 : decode prog_8_method_47_code 77 = .ok (.aload_n 0, 1) := by decide +kernel
theorem d_MOD_step_78 : decode prog_8_method_47_code 78 = .ok (.aload_n 0, 1) := by decide +kernel
theorem d_MOD_step_79 : decode prog_8_method_47_code 79 = .ok (.getfield 227, 3) := by decide +kernel
theorem d_MOD_step_82 : decode prog_8_method_47_code 82 = .ok (.invokevirtual 91, 3) := by decide +kernel
theorem d_MOD_step_85 : decode prog_8_method_47_code 85 = .ok (.aload_n 0, 1) := by decide +kernel
theorem d_MOD_step_86 : decode prog_8_method_47_code 86 = .ok (.iconst 0, 1) := by decide +kernel
theorem d_MOD_step_87 : decode prog_8_method_47_code 87 = .ok (.putfield 230, 3) := by decide +kernel
theorem d_MOD_step_90 : decode prog_8_method_47_code 90 = .ok (.aload_n 0, 1) := by decide +kernel
theorem d_MOD_step_91 : decode prog_8_method_47_code 91 = .ok (.aload_n 0, 1) := by decide +kernel
theorem d_MOD_step_92 : decode prog_8_method_47_code 92 = .ok (.getfield 227, 3) := by decide +kernel
theorem d_MOD_step_95 : decode prog_8_method_47_code 95 = .ok (.putfield 97, 3) := by decide +kernel
theorem d_MOD_step_98 : decode prog_8_method_47_code 98 = .ok (.aload_n 0, 1) := by decide +kernel
theorem d_MOD_step_99 : decode prog_8_method_47_code 99 = .ok (.invokevirtual 233, 3) := by decide +kernel
theorem d_MOD_step_102 : decode prog_8_method_47_code 102 = .ok (.aload_n 0, 1) := by decide +kernel
theorem d_MOD_step_103 : decode prog_8_method_47_code 103 = .ok (.dup, 1) := by decide +kernel
theorem d_MOD_step_104 : decode prog_8_method_47_code 104 = .ok (.getfield 230, 3) := by decide +kernel
theorem d_MOD_step_107 : decode prog_8_method_47_code 107 = .ok (.iconst 1, 1) := by decide +kernel
theorem d_MOD_step_108 : decode prog_8_method_47_code 108 = .ok (.iadd, 1) := by decide +kernel
theorem d_MOD_step_109 : decode prog_8_method_47_code 109 = .ok (.putfield 230, 3) := by decide +kernel
theorem d_MOD_step_112 : decode prog_8_method_47_code 112 = .ok (.aload_n 0, 1) := by decide +kernel
theorem d_MOD_step_113 : decode prog_8_method_47_code 113 = .ok (.getfield 97, 3) := by decide +kernel
theorem d_MOD_step_116 : decode prog_8_method_47_code 116 = .ok (.istore_n 2, 1) := by decide +kernel
theorem d_MOD_step_117 : decode prog_8_method_47_code 117 = .ok (.aload_n 0, 1) := by decide +kernel
theorem d_MOD_step_118 : decode prog_8_method_47_code 118 = .ok (.getfield 19, 3) := by decide +kernel
theorem d_MOD_step_121 : decode prog_8_method_47_code 121 = .ok (.iload_n 2, 1) := by decide +kernel
theorem d_MOD_step_122 : decode prog_8_method_47_code 122 = .ok (.iaload, 1) := by decide +kernel
theorem d_MOD_step_123 : decode prog_8_method_47_code 123 = .ok (.iconst 1, 1) := by decide +kernel
theorem d_MOD_step_124 : decode prog_8_method_47_code 124 = .ok (.if_icmp .eq 11, 3) := by decide +kernel
theorem d_MOD_step_127 : decode prog_8_method_47_code 127 = .ok (.aload_n 0, 1) := by decide +kernel
theorem d_MOD_step_128 : decode prog_8_method_47_code 128 = .ok (.iconst 0, 1) := by decide +kernel
theorem d_MOD_step_129 : decode prog_8_method_47_code 129 = .ok (.putfield 227, 3) := by decide +kernel
theorem d_MOD_step_132 : decode prog_8_method_47_code 132 = .ok (.goto 31, 3) := by decide +kernel
theorem d_MOD_step_135 : decode prog_8_method_47_code 135 = .ok (.aload_n 0, 1) := by decide +kernel
theorem d_MOD_step_136 : decode prog_8_method_47_code 136 = .ok (.getfield 118, 3) := by decide +kernel
theorem d_MOD_step_139 : decode prog_8_method_47_code 139 = .ok (.ifCond .ne 14, 3) := by decide +kernel
theorem d_MOD_step_142 : decode prog_8_method_47_code 142 = .ok (.aload_n 0, 1) := by decide +kernel
theorem d_MOD_step_143 : decode prog_8_method_47_code 143 = .ok (.getfield 230, 3) := by decide +kernel
theorem d_MOD_step_146 : decode prog_8_method_47_code 146 = .ok (.aload_n 0, 1) := by decide +kernel
theorem d_MOD_step_147 : decode prog_8_method_47_code 147 = .ok (.getfield 59, 3) := by decide +kernel
theorem d_MOD_step_150 : decode prog_8_method_47_code 150 = .ok (.if_icmp .ne 13, 3) := by decide +kernel
theorem d_MOD_step_153 : decode prog_8_method_47_code 153 = .ok (.aload_n 0, 1) := by decide +kernel
theorem d_MOD_step_154 : decode prog_8_method_47_code 154 = .ok (.iload_n 2, 1) := by decide +kernel
theorem d_MOD_step_155 : decode prog_8_method_47_code 155 = .ok (.invokevirtual 73, 3) := by decide +kernel
theorem d_MOD_step_158 : decode prog_8_method_47_code 158 = .ok (.aload_n 0, 1) := by decide +kernel
theorem d_MOD_step_159 : decode prog_8_method_47_code 159 = .ok (.iconst 0, 1) := by decide +kernel
theorem d_MOD_step_160 : decode prog_8_method_47_code 160 = .ok (.putfield 227, 3) := by decide +kernel
theorem d_MOD_step_163 : decode prog_8_method_47_code 163 = .ok (.iconst 1, 1) := by decide +kernel
theorem d_MOD_step_164 : decode prog_8_method_47_code 164 = .ok (.istore_n 3, 1) := by decide +kernel
theorem d_MOD_step_165 : decode prog_8_method_47_code 165 = .ok (.iload_n 3, 1) := by decide +kernel
theorem d_MOD_step_166 : decode prog_8_method_47_code 166 = .ok (.bipush 8, 2) := by decide +kernel
theorem d_MOD_step_168 : decode prog_8_method_47_code 168 = .ok (.if_icmp .gt 42, 3) := by decide +kernel
theorem d_MOD_step_171 : decode prog_8_method_47_code 171 = .ok (.aload_n 0, 1) := by decide +kernel
theorem d_MOD_step_172 : decode prog_8_method_47_code 172 = .ok (.getfield 19, 3) := by decide +kernel
theorem d_MOD_step_175 : decode prog_8_method_47_code 175 = .ok (.iload_n 3, 1) := by decide +kernel
theorem d_MOD_step_176 : decode prog_8_method_47_code 176 = .ok (.iaload, 1) := by decide +kernel
theorem d_MOD_step_177 : decode prog_8_method_47_code 177 = .ok (.iconst 1, 1) := by decide +kernel
theorem d_MOD_step_178 : decode prog_8_method_47_code 178 = .ok (.if_icmp .le 26, 3) := by decide +kernel
theorem d_MOD_step_181 : decode prog_8_method_47_code 181 = .ok (.aload_n 0, 1) := by decide +kernel
theorem d_MOD_step_182 : decode prog_8_method_47_code 182 = .ok (.getfield 19, 3) := by decide +kernel
theorem d_MOD_step_185 : decode prog_8_method_47_code 185 = .ok (.iload_n 3, 1) := by decide +kernel
theorem d_MOD_step_186 : decode prog_8_method_47_code 186 = .ok (.iaload, 1) := by decide +kernel
theorem d_MOD_step_187 : decode prog_8_method_47_code 187 = .ok (.iconst 5, 1) := by decide +kernel
theorem d_MOD_step_188 : decode prog_8_method_47_code 188 = .ok (.if_icmp .ge 16, 3) := by decide +kernel
theorem d_MOD_step_191 : decode prog_8_method_47_code 191 = .ok (.aload_n 0, 1) := by decide +kernel
theorem d_MOD_step_192 : decode prog_8_method_47_code 192 = .ok (.iload_n 3, 1) := by decide +kernel
theorem d_MOD_step_193 : decode prog_8_method_47_code 193 = .ok (.invokevirtual 236, 3) := by decide +kernel
theorem d_MOD_step_196 : decode prog_8_method_47_code 196 = .ok (.ifCond .eq 8, 3) := by decide +kernel
theorem d_MOD_step_199 : decode prog_8_method_47_code 199 = .ok (.aload_n 0, 1) := by decide +kernel
theorem d_MOD_step_200 : decode prog_8_method_47_code 200 = .ok (.iload_n 3, 1) := by decide +kernel
theorem d_MOD_step_201 : decode prog_8_method_47_code 201 = .ok (.invokevirtual 73, 3) := by decide +kernel
theorem d_MOD_step_204 : decode prog_8_method_47_code 204 = .ok (.iinc 3 1, 3) := by decide +kernel
theorem d_MOD_step_207 : decode prog_8_method_47_code 207 = .ok (.goto (-42), 3) := by decide +kernel
theorem d_MOD_step_210 : decode prog_8_method_47_code 210 = .ok (.iload_n 2, 1) := by decide +kernel
theorem d_MOD_step_211 : decode prog_8_method_47_code 211 = .ok (.ireturn, 1) := by decide +kernel
theorem d_MOD_run_0 : decode prog_8_method_48_code 0 = .ok (.iload_n 1, 1) := by decide +kernel
theorem d_MOD_run_1 : decode prog_8_method_48_code 1 = .ok (.iconst 1, 1) := by decide +kernel
theorem d_MOD_run_2 : decode prog_8_method_48_code 2 = .ok (.if_icmp .lt 9, 3) := by decide +kernel
theorem d_MOD_run_5 : decode prog_8_method_48_code 5 = .ok (.iload_n 1, 1) := by decide +kernel
theorem d_MOD_run_6 : decode prog_8_method_48_code 6 = .ok (.bipush 100, 2) := by decide +kernel
theorem d_MOD_run_8 : decode prog_8_method_48_code 8 = .ok (.if_icmp .le 5, 3) := by decide +kernel
theorem d_MOD_run_11 : decode prog_8_method_48_code 11 = .ok (.iconst (-1), 1) := by decide +kernel
theorem d_MOD_run_12 : decode prog_8_method_48_code 12 = .ok (.ireturn, 1) := by decide +kernel
theorem d_MOD_run_13 : decode prog_8_method_48_code 13 = .ok (.iconst 0, 1) := by decide +kernel
theorem d_MOD_run_14 : decode prog_8_method_48_code 14 = .ok (.istore_n 2, 1) := by decide +kernel
theorem d_MOD_run_15 : decode prog_8_method_48_code 15 = .ok (.iload_n 2, 1) := by decide +kernel
theorem d_MOD_run_16 : decode prog_8_method_48_code 16 = .ok (.iload_n 1, 1) := by decide +kernel
theorem d_MOD_run_17 : decode prog_8_method_48_code 17 = .ok (.if_icmp .ge 16, 3) := by decide +kernel
theorem d_MOD_run_20 : decode prog_8_method_48_code 20 = .ok (.aload_n 0, 1) := by decide +kernel
theorem d_MOD_run_21 : decode prog_8_method_48_code 21 = .ok (.invokevirtual 239, 3) := by decide +kernel
theorem d_MOD_run_24 : decode prog_8_method_48_code 24 = .ok (.ifCond .le 9, 3) := by decide +kernel
theorem d_MOD_run_27 : decode prog_8_method_48_code 27 = .ok (.iinc 2 1, 3) := by decide +kernel
theorem d_MOD_run_30 : decode prog_8_method_48_code 30 = .ok (.goto (-15), 3) := by decide +kernel
theorem d_MOD_run_33 : decode prog_8_method_48_code 33 = .ok (.iload_n 2, 1) := by decide +kernel
theorem d_MOD_run_34 : decode prog_8_method_48_code 34 = .ok (.ireturn, 1) := by decide +kernel
theorem d_MOD_is_0 : decode prog_8_method_49_code 0 = .ok (.iload_n 1, 1) := by decide +kernel
theorem d_MOD_is_1 : decode prog_8_method_49_code 1 = .ok (.iconst 1, 1) := by decide +kernel
theorem d_MOD_is_2 : decode prog_8_method_49_code 2 = .ok (.if_icmp .lt 22, 3) := by decide +kernel
theorem d_MOD_is_5 : decode prog_8_method_49_code 5 = .ok (.iload_n 1, 1) := by decide +kernel
theorem d_MOD_is_6 : decode prog_8_method_49_code 6 = .ok (.bipush 8, 2) := by decide +kernel
theorem d_MOD_is_8 : decode prog_8_method_49_code 8 = .ok (.if_icmp .gt 16, 3) := by decide +kernel
theorem d_MOD_is_11 : decode prog_8_method_49_code 11 = .ok (.aload_n 0, 1) := by decide +kernel
theorem d_MOD_is_12 : decode prog_8_method_49_code 12 = .ok (.getfield 19, 3) := by decide +kernel
theorem d_MOD_is_15 : decode prog_8_method_49_code 15 = .ok (.iload_n 1, 1) := by decide +kernel
theorem d_MOD_is_16 : decode prog_8_method_49_code 16 = .ok (.iaload, 1) := by decide +kernel
theorem d_MOD_is_17 : decode prog_8_method_49_code 17 = .ok (.ifCond .le 7, 3) := by decide +kernel
theorem d_MOD_is_20 : decode prog_8_method_49_code 20 = .ok (.iconst 1, 1) := by decide +kernel
theorem d_MOD_is_21 : decode prog_8_method_49_code 21 = .ok (.goto 4, 3) := by decide +kernel
theorem d_MOD_is_24 : decode prog_8_method_49_code 24 = .ok (.iconst 0, 1) := by decide +kernel
theorem d_MOD_is_25 : decode prog_8_method_49_code 25 = .ok (.ireturn, 1) := by decide +kernel
theorem d_MOD_current_0 : decode prog_8_method_50_code 0 = .ok (.aload_n 0, 1) := by decide +kernel
theorem d_MOD_current_1 : decode prog_8_method_50_code 1 = .ok (.getfield 227, 3) := by decide +kernel
theorem d_MOD_current_4 : decode prog_8_method_50_code 4 = .ok (.ireturn, 1) := by decide +kernel
theorem d_MOD_stateOf_0 : decode prog_8_method_51_code 0 = .ok (.aload_n 0, 1) := by decide +kernel
theorem d_MOD_stateOf_1 : decode prog_8_method_51_code 1 = .ok (.iload_n 1, 1) := by decide +kernel
theorem d_MOD_stateOf_2 : decode prog_8_method_51_code 2 = .ok (.invokevirtual 242, 3) := by decide +kernel
theorem d_MOD_stateOf_5 : decode prog_8_method_51_code 5 = .ok (.ifCond .eq 12, 3) := by decide +kernel
theorem d_MOD_stateOf_8 : decode prog_8_method_51_code 8 = .ok (.aload_n 0, 1) := by decide +kernel
theorem d_MOD_stateOf_9 : decode prog_8_method_51_code 9 = .ok (.getfield 19, 3) := by decide +kernel
theorem d_MOD_stateOf_12 : decode prog_8_method_51_code 12 = .ok (.iload_n 1, 1) := by decide +kernel
theorem d_MOD_stateOf_13 : decode prog_8_method_51_code 13 = .ok (.iaload, 1) := by decide +kernel
theorem d_MOD_stateOf_14 : decode prog_8_method_51_code 14 = .ok (.goto 4, 3) := by decide +kernel
theorem d_MOD_stateOf_17 : decode prog_8_method_51_code 17 = .ok (.iconst 0, 1) := by decide +kernel
theorem d_MOD_stateOf_18 : decode prog_8_method_51_code 18 = .ok (.ireturn, 1) := by decide +kernel
theorem d_MOD_exitOf_0 : decode prog_8_method_52_code 0 = .ok (.aload_n 0, 1) := by decide +kernel
theorem d_MOD_exitOf_1 : decode prog_8_method_52_code 1 = .ok (.iload_n 1, 1) := by decide +kernel
theorem d_MOD_exitOf_2 : decode prog_8_method_52_code 2 = .ok (.invokevirtual 242, 3) := by decide +kernel
theorem d_MOD_exitOf_5 : decode prog_8_method_52_code 5 = .ok (.ifCond .eq 22, 3) := by decide +kernel
theorem d_MOD_exitOf_8 : decode prog_8_method_52_code 8 = .ok (.aload_n 0, 1) := by decide +kernel
theorem d_MOD_exitOf_9 : decode prog_8_method_52_code 9 = .ok (.getfield 19, 3) := by decide +kernel
theorem d_MOD_exitOf_12 : decode prog_8_method_52_code 12 = .ok (.iload_n 1, 1) := by decide +kernel
theorem d_MOD_exitOf_13 : decode prog_8_method_52_code 13 = .ok (.iaload, 1) := by decide +kernel
theorem d_MOD_exitOf_14 : decode prog_8_method_52_code 14 = .ok (.iconst 5, 1) := by decide +kernel
theorem d_MOD_exitOf_15 : decode prog_8_method_52_code 15 = .ok (.if_icmp .ne 12, 3) := by decide +kernel
theorem d_MOD_exitOf_18 : decode prog_8_method_52_code 18 = .ok (.aload_n 0, 1) := by decide +kernel
theorem d_MOD_exitOf_19 : decode prog_8_method_52_code 19 = .ok (.getfield 22, 3) := by decide +kernel
theorem d_MOD_exitOf_22 : decode prog_8_method_52_code 22 = .ok (.iload_n 1, 1) := by decide +kernel
theorem d_MOD_exitOf_23 : decode prog_8_method_52_code 23 = .ok (.iaload, 1) := by decide +kernel
theorem d_MOD_exitOf_24 : decode prog_8_method_52_code 24 = .ok (.goto 4, 3) := by decide +kernel
theorem d_MOD_exitOf_27 : decode prog_8_method_52_code 27 = .ok (.iconst (-1), 1) := by decide +kernel
theorem d_MOD_exitOf_28 : decode prog_8_method_52_code 28 = .ok (.ireturn, 1) := by decide +kernel
theorem d_MOD_parentOf_0 : decode prog_8_method_53_code 0 = .ok (.aload_n 0, 1) := by decide +kernel
theorem d_MOD_parentOf_1 : decode prog_8_method_53_code 1 = .ok (.iload_n 1, 1) := by decide +kernel
theorem d_MOD_parentOf_2 : decode prog_8_method_53_code 2 = .ok (.invokevirtual 242, 3) := by decide +kernel
theorem d_MOD_parentOf_5 : decode prog_8_method_53_code 5 = .ok (.ifCond .eq 12, 3) := by decide +kernel
theorem d_MOD_parentOf_8 : decode prog_8_method_53_code 8 = .ok (.aload_n 0, 1) := by decide +kernel
theorem d_MOD_parentOf_9 : decode prog_8_method_53_code 9 = .ok (.getfield 25, 3) := by decide +kernel
theorem d_MOD_parentOf_12 : decode prog_8_method_53_code 12 = .ok (.iload_n 1, 1) := by decide +kernel
theorem d_MOD_parentOf_13 : decode prog_8_method_53_code 13 = .ok (.iaload, 1) := by decide +kernel
theorem d_MOD_parentOf_14 : decode prog_8_method_53_code 14 = .ok (.goto 4, 3) := by decide +kernel
theorem d_MOD_parentOf_17 : decode prog_8_method_53_code 17 = .ok (.iconst (-1), 1) := by decide +kernel
theorem d_MOD_parentOf_18 : decode prog_8_method_53_code 18 = .ok (.ireturn, 1) := by decide +kernel
theorem d_MOD_pages_0 : decode prog_8_method_54_code 0 = .ok (.aload_n 0, 1) := by decide +kernel
theorem d_MOD_pages_1 : decode prog_8_method_54_code 1 = .ok (.iload_n 1, 1) := by decide +kernel
theorem d_MOD_pages_2 : decode prog_8_method_54_code 2 = .ok (.invokevirtual 242, 3) := by decide +kernel
theorem d_MOD_pages_5 : decode prog_8_method_54_code 5 = .ok (.ifCond .eq 12, 3) := by decide +kernel
theorem d_MOD_pages_8 : decode prog_8_method_54_code 8 = .ok (.aload_n 0, 1) := by decide +kernel
theorem d_MOD_pages_9 : decode prog_8_method_54_code 9 = .ok (.getfield 31, 3) := by decide +kernel
theorem d_MOD_pages_12 : decode prog_8_method_54_code 12 = .ok (.iload_n 1, 1) := by decide +kernel
theorem d_MOD_pages_13 : decode prog_8_method_54_code 13 = .ok (.iaload, 1) := by decide +kernel
theorem d_MOD_pages_14 : decode prog_8_method_54_code 14 = .ok (.goto 4, 3) := by decide +kernel
theorem d_MOD_pages_17 : decode prog_8_method_54_code 17 = .ok (.iconst 0, 1) := by decide +kernel
theorem d_MOD_pages_18 : decode prog_8_method_54_code 18 = .ok (.ireturn, 1) := by decide +kernel
theorem d_MOD_register_0 : decode prog_8_method_55_code 0 = .ok (.aload_n 0, 1) := by decide +kernel
theorem d_MOD_register_1 : decode prog_8_method_55_code 1 = .ok (.iload_n 1, 1) := by decide +kernel
theorem d_MOD_register_2 : decode prog_8_method_55_code 2 = .ok (.invokevirtual 242, 3) := by decide +kernel
theorem d_MOD_register_5 : decode prog_8_method_55_code 5 = .ok (.ifCond .eq 27, 3) := by decide +kernel
theorem d_MOD_register_8 : decode prog_8_method_55_code 8 = .ok (.iload_n 2, 1) := by decide +kernel
theorem d_MOD_register_9 : decode prog_8_method_55_code 9 = .ok (.ifCond .lt 23, 3) := by decide +kernel
theorem d_MOD_register_12 : decode prog_8_method_55_code 12 = .ok (.iload_n 2, 1) := by decide +kernel
theorem d_MOD_register_13 : decode prog_8_method_55_code 13 = .ok (.bipush 32, 2) := by decide +kernel
theorem d_MOD_register_15 : decode prog_8_method_55_code 15 = .ok (.if_icmp .ge 17, 3) := by decide +kernel
theorem d_MOD_register_18 : decode prog_8_method_55_code 18 = .ok (.aload_n 0, 1) := by decide +kernel
theorem d_MOD_register_19 : decode prog_8_method_55_code 19 = .ok (.getfield 34, 3) := by decide +kernel
theorem d_MOD_register_22 : decode prog_8_method_55_code 22 = .ok (.bipush 32, 2) := by decide +kernel
theorem d_MOD_register_24 : decode prog_8_method_55_code 24 = .ok (.iload_n 1, 1) := by decide +kernel
theorem d_MOD_register_25 : decode prog_8_method_55_code 25 = .ok (.imul, 1) := by decide +kernel
theorem d_MOD_register_26 : decode prog_8_method_55_code 26 = .ok (.iload_n 2, 1) := by decide +kernel
theorem d_MOD_register_27 : decode prog_8_method_55_code 27 = .ok (.iadd, 1) := by decide +kernel
theorem d_MOD_register_28 : decode prog_8_method_55_code 28 = .ok (.iaload, 1) := by decide +kernel
theorem d_MOD_register_29 : decode prog_8_method_55_code 29 = .ok (.goto 4, 3) := by decide +kernel
theorem d_MOD_register_32 : decode prog_8_method_55_code 32 = .ok (.iconst 0, 1) := by decide +kernel
theorem d_MOD_register_33 : decode prog_8_method_55_code 33 = .ok (.ireturn, 1) := by decide +kernel
theorem d_MOD_pc_0 : decode prog_8_method_56_code 0 = .ok (.aload_n 0, 1) := by decide +kernel
theorem d_MOD_pc_1 : decode prog_8_method_56_code 1 = .ok (.iload_n 1, 1) := by decide +kernel
theorem d_MOD_pc_2 : decode prog_8_method_56_code 2 = .ok (.invokevirtual 242, 3) := by decide +kernel
theorem d_MOD_pc_5 : decode prog_8_method_56_code 5 = .ok (.ifCond .eq 12, 3) := by decide +kernel
theorem d_MOD_pc_8 : decode prog_8_method_56_code 8 = .ok (.aload_n 0, 1) := by decide +kernel
theorem d_MOD_pc_9 : decode prog_8_method_56_code 9 = .ok (.getfield 28, 3) := by decide +kernel
theorem d_MOD_pc_12 : decode prog_8_method_56_code 12 = .ok (.iload_n 1, 1) := by decide +kernel
theorem d_MOD_pc_13 : decode prog_8_method_56_code 13 = .ok (.iaload, 1) := by decide +kernel
theorem d_MOD_pc_14 : decode prog_8_method_56_code 14 = .ok (.goto 4, 3) := by decide +kernel
theorem d_MOD_pc_17 : decode prog_8_method_56_code 17 = .ok (.iconst 0, 1) := by decide +kernel
theorem d_MOD_pc_18 : decode prog_8_method_56_code 18 = .ok (.ireturn, 1) := by decide +kernel
theorem d_MOD_word_0 : decode prog_8_method_57_code 0 = .ok (.aload_n 0, 1) := by decide +kernel
theorem d_MOD_word_1 : decode prog_8_method_57_code 1 = .ok (.iload_n 1, 1) := by decide +kernel
theorem d_MOD_word_2 : decode prog_8_method_57_code 2 = .ok (.invokevirtual 242, 3) := by decide +kernel
theorem d_MOD_word_5 : decode prog_8_method_57_code 5 = .ok (.ifCond .eq 32, 3) := by decide +kernel
theorem d_MOD_word_8 : decode prog_8_method_57_code 8 = .ok (.aload_n 0, 1) := by decide +kernel
theorem d_MOD_word_9 : decode prog_8_method_57_code 9 = .ok (.iload_n 1, 1) := by decide +kernel
theorem d_MOD_word_10 : decode prog_8_method_57_code 10 = .ok (.iload_n 2, 1) := by decide +kernel
theorem d_MOD_word_11 : decode prog_8_method_57_code 11 = .ok (.invokevirtual 124, 3) := by decide +kernel
theorem d_MOD_word_14 : decode prog_8_method_57_code 14 = .ok (.ifCond .eq 23, 3) := by decide +kernel
theorem d_MOD_word_17 : decode prog_8_method_57_code 17 = .ok (.iload_n 2, 1) := by decide +kernel
theorem d_MOD_word_18 : decode prog_8_method_57_code 18 = .ok (.iconst 4, 1) := by decide +kernel
theorem d_MOD_word_19 : decode prog_8_method_57_code 19 = .ok (.irem, 1) := by decide +kernel
theorem d_MOD_word_20 : decode prog_8_method_57_code 20 = .ok (.ifCond .ne 17, 3) := by decide +kernel
theorem d_MOD_word_23 : decode prog_8_method_57_code 23 = .ok (.aload_n 0, 1) := by decide +kernel
theorem d_MOD_word_24 : decode prog_8_method_57_code 24 = .ok (.getfield 7, 3) := by decide +kernel
theorem d_MOD_word_27 : decode prog_8_method_57_code 27 = .ok (.aload_n 0, 1) := by decide +kernel
theorem d_MOD_word_28 : decode prog_8_method_57_code 28 = .ok (.iload_n 1, 1) := by decide +kernel
theorem d_MOD_word_29 : decode prog_8_method_57_code 29 = .ok (.iload_n 2, 1) := by decide +kernel
theorem d_MOD_word_30 : decode prog_8_method_57_code 30 = .ok (.invokevirtual 80, 3) := by decide +kernel
theorem d_MOD_word_33 : decode prog_8_method_57_code 33 = .ok (.iaload, 1) := by decide +kernel
theorem d_MOD_word_34 : decode prog_8_method_57_code 34 = .ok (.goto 4, 3) := by decide +kernel
theorem d_MOD_word_37 : decode prog_8_method_57_code 37 = .ok (.iconst 0, 1) := by decide +kernel
theorem d_MOD_word_38 : decode prog_8_method_57_code 38 = .ok (.ireturn, 1) := by decide +kernel
theorem d_MOD_descriptor_0 : decode prog_8_method_58_code 0 = .ok (.aload_n 0, 1) := by decide +kernel
theorem d_MOD_descriptor_1 : decode prog_8_method_58_code 1 = .ok (.iload_n 1, 1) := by decide +kernel
theorem d_MOD_descriptor_2 : decode prog_8_method_58_code 2 = .ok (.invokevirtual 242, 3) := by decide +kernel
theorem d_MOD_descriptor_5 : decode prog_8_method_58_code 5 = .ok (.ifCond .eq 12, 3) := by decide +kernel
theorem d_MOD_descriptor_8 : decode prog_8_method_58_code 8 = .ok (.aload_n 0, 1) := by decide +kernel
theorem d_MOD_descriptor_9 : decode prog_8_method_58_code 9 = .ok (.iload_n 1, 1) := by decide +kernel
theorem d_MOD_descriptor_10 : decode prog_8_method_58_code 10 = .ok (.iload_n 2, 1) := by decide +kernel
theorem d_MOD_descriptor_11 : decode prog_8_method_58_code 11 = .ok (.invokevirtual 191, 3) := by decide +kernel
theorem d_MOD_descriptor_14 : decode prog_8_method_58_code 14 = .ok (.goto 4, 3) := by decide +kernel
theorem d_MOD_descriptor_17 : decode prog_8_method_58_code 17 = .ok (.iconst (-1), 1) := by decide +kernel
theorem d_MOD_descriptor_18 : decode prog_8_method_58_code 18 = .ok (.ireturn, 1) := by decide +kernel
theorem d_MOD_held_0 : decode prog_8_method_59_code 0 = .ok (.iload_n 1, 1) := by decide +kernel
theorem d_MOD_held_1 : decode prog_8_method_59_code 1 = .ok (.ifCond .lt 17, 3) := by decide +kernel
theorem d_MOD_held_4 : decode prog_8_method_59_code 4 = .ok (.iload_n 1, 1) := by decide +kernel
theorem d_MOD_held_5 : decode prog_8_method_59_code 5 = .ok (.iconst 4, 1) := by decide +kernel
theorem d_MOD_held_6 : decode prog_8_method_59_code 6 = .ok (.if_icmp .ge 12, 3) := by decide +kernel
theorem d_MOD_held_9 : decode prog_8_method_59_code 9 = .ok (.aload_n 0, 1) := by decide +kernel
theorem d_MOD_held_10 : decode prog_8_method_59_code 10 = .ok (.getfield 49, 3) := by decide +kernel
theorem d_MOD_held_13 : decode prog_8_method_59_code 13 = .ok (.iload_n 1, 1) := by decide +kernel
theorem d_MOD_held_14 : decode prog_8_method_59_code 14 = .ok (.iaload, 1) := by decide +kernel
theorem d_MOD_held_15 : decode prog_8_method_59_code 15 = .ok (.goto 4, 3) := by decide +kernel
theorem d_MOD_held_18 : decode prog_8_method_59_code 18 = .ok (.iconst 0, 1) := by decide +kernel
theorem d_MOD_held_19 : decode prog_8_method_59_code 19 = .ok (.ireturn, 1) := by decide +kernel
end
section
theorem d_MOD_consoleLength_0 : decode prog_8_method_60_code 0 = .ok (.aload_n 0, 1) := by decide +kernel
theorem d_MOD_consoleLength_1 : decode prog_8_method_60_code 1 = .ok (.getfield 221, 3) := by decide +kernel
theorem d_MOD_consoleLength_4 : decode prog_8_method_60_code 4 = .ok (.ireturn, 1) := by decide +kernel
theorem d_MOD_console_0 : decode prog_8_method_61_code 0 = .ok (.iload_n 1, 1) := by decide +kernel
theorem d_MOD_console_1 : decode prog_8_method_61_code 1 = .ok (.ifCond .lt 20, 3) := by decide +kernel
theorem d_MOD_console_4 : decode prog_8_method_61_code 4 = .ok (.iload_n 1, 1) := by decide +kernel
theorem d_MOD_console_5 : decode prog_8_method_61_code 5 = .ok (.aload_n 0, 1) := by decide +kernel
theorem d_MOD_console_6 : decode prog_8_method_61_code 6 = .ok (.getfield 221, 3) := by decide +kernel
theorem d_MOD_console_9 : decode prog_8_method_61_code 9 = .ok (.if_icmp .ge 12, 3) := by decide +kernel
theorem d_MOD_console_12 : decode prog_8_method_61_code 12 = .ok (.aload_n 0, 1) := by decide +kernel
theorem d_MOD_console_13 : decode prog_8_method_61_code 13 = .ok (.getfield 52, 3) := by decide +kernel
theorem d_MOD_console_16 : decode prog_8_method_61_code 16 = .ok (.iload_n 1, 1) := by decide +kernel
theorem d_MOD_console_17 : decode prog_8_method_61_code 17 = .ok (.iaload, 1) := by decide +kernel
theorem d_MOD_console_18 : decode prog_8_method_61_code 18 = .ok (.goto 4, 3) := by decide +kernel
theorem d_MOD_console_21 : decode prog_8_method_61_code 21 = .ok (.iconst (-1), 1) := by decide +kernel
theorem d_MOD_console_22 : decode prog_8_method_61_code 22 = .ok (.ireturn, 1) := by decide +kernel
theorem d_MOD_waitingTurn_0 : decode prog_8_method_62_code 0 = .ok (.iload_n 1, 1) := by decide +kernel
theorem d_MOD_waitingTurn_1 : decode prog_8_method_62_code 1 = .ok (.ifCond .lt 20, 3) := by decide +kernel
theorem d_MOD_waitingTurn_4 : decode prog_8_method_62_code 4 = .ok (.iload_n 1, 1) := by decide +kernel
theorem d_MOD_waitingTurn_5 : decode prog_8_method_62_code 5 = .ok (.aload_n 0, 1) := by decide +kernel
theorem d_MOD_waitingTurn_6 : decode prog_8_method_62_code 6 = .ok (.getfield 77, 3) := by decide +kernel
theorem d_MOD_waitingTurn_9 : decode prog_8_method_62_code 9 = .ok (.if_icmp .ge 12, 3) := by decide +kernel
theorem d_MOD_waitingTurn_12 : decode prog_8_method_62_code 12 = .ok (.aload_n 0, 1) := by decide +kernel
theorem d_MOD_waitingTurn_13 : decode prog_8_method_62_code 13 = .ok (.getfield 43, 3) := by decide +kernel
theorem d_MOD_waitingTurn_16 : decode prog_8_method_62_code 16 = .ok (.iload_n 1, 1) := by decide +kernel
theorem d_MOD_waitingTurn_17 : decode prog_8_method_62_code 17 = .ok (.iaload, 1) := by decide +kernel
theorem d_MOD_waitingTurn_18 : decode prog_8_method_62_code 18 = .ok (.goto 4, 3) := by decide +kernel
theorem d_MOD_waitingTurn_21 : decode prog_8_method_62_code 21 = .ok (.iconst 0, 1) := by decide +kernel
theorem d_MOD_waitingTurn_22 : decode prog_8_method_62_code 22 = .ok (.ireturn, 1) := by decide +kernel
theorem d_X_execute_0 : decode prog_2_method_2_code 0 = .ok (.aload_n 0, 1) := by decide +kernel
theorem d_X_execute_1 : decode prog_2_method_2_code 1 = .ok (.aload_n 1, 1) := by decide +kernel
theorem d_X_execute_2 : decode prog_2_method_2_code 2 = .ok (.aload_n 1, 1) := by decide +kernel
theorem d_X_execute_3 : decode prog_2_method_2_code 3 = .ok (.getfield 9, 3) := by decide +kernel
theorem d_X_execute_6 : decode prog_2_method_2_code 6 = .ok (.invokevirtual 15, 3) := by decide +kernel
theorem d_X_execute_9 : decode prog_2_method_2_code 9 = .ok (.istore_n 2, 1) := by decide +kernel
theorem d_X_execute_10 : decode prog_2_method_2_code 10 = .ok (.iload_n 2, 1) := by decide +kernel
theorem d_X_execute_11 : decode prog_2_method_2_code 11 = .ok (.iconst (-1), 1) := by decide +kernel
theorem d_X_execute_12 : decode prog_2_method_2_code 12 = .ok (.if_icmp .ne 5, 3) := by decide +kernel
theorem d_X_execute_15 : decode prog_2_method_2_code 15 = .ok (.iconst 1, 1) := by decide +kernel
theorem d_X_execute_16 : decode prog_2_method_2_code 16 = .ok (.ireturn, 1) := by decide +kernel
theorem d_X_execute_17 : decode prog_2_method_2_code 17 = .ok (.aload_n 0, 1) := by decide +kernel
theorem d_X_execute_18 : decode prog_2_method_2_code 18 = .ok (.getfield 21, 3) := by decide +kernel
theorem d_X_execute_21 : decode prog_2_method_2_code 21 = .ok (.iload_n 2, 1) := by decide +kernel
theorem d_X_execute_22 : decode prog_2_method_2_code 22 = .ok (.iaload, 1) := by decide +kernel
theorem d_X_execute_23 : decode prog_2_method_2_code 23 = .ok (.istore_n 3, 1) := by decide +kernel
theorem d_X_execute_24 : decode prog_2_method_2_code 24 = .ok (.iload_n 3, 1) := by decide +kernel
theorem d_X_execute_25 : decode prog_2_method_2_code 25 = .ok (.bipush 127, 2) := by decide +kernel
theorem d_X_execute_27 : decode prog_2_method_2_code 27 = .ok (.iand, 1) := by decide +kernel
theorem d_X_execute_28 : decode prog_2_method_2_code 28 = .ok (.lookupswitch 199 #[(3, 152), (15, 178), (19, 166), (23, 110), (35, 159), (51, 172), (55, 100), (99, 146), (103, 140), (111, 125), (115, 194)], 100) := by decide +kernel
theorem d_X_execute_128 : decode prog_2_method_2_code 128 = .ok (.aload_n 1, 1) := by decide +kernel
theorem d_X_execute_129 : decode prog_2_method_2_code 129 = .ok (.iload_n 3, 1) := by decide +kernel
theorem d_X_execute_130 : decode prog_2_method_2_code 130 = .ok (.iload_n 3, 1) := by decide +kernel
theorem d_X_execute_131 : decode prog_2_method_2_code 131 = .ok (.invokestatic 25, 3) := by decide +kernel
theorem d_X_execute_134 : decode prog_2_method_2_code 134 = .ok (.invokestatic 31, 3) := by decide +kernel
theorem d_X_execute_137 : decode prog_2_method_2_code 137 = .ok (.ireturn, 1) := by decide +kernel
theorem d_X_execute_138 : decode prog_2_method_2_code 138 = .ok (.aload_n 1, 1) := by decide +kernel
theorem d_X_execute_139 : decode prog_2_method_2_code 139 = .ok (.iload_n 3, 1) := by decide +kernel
theorem d_X_execute_140 : decode prog_2_method_2_code 140 = .ok (.aload_n 1, 1) := by decide +kernel
theorem d_X_execute_141 : decode prog_2_method_2_code 141 = .ok (.getfield 9, 3) := by decide +kernel
theorem d_X_execute_144 : decode prog_2_method_2_code 144 = .ok (.iload_n 3, 1) := by decide +kernel
theorem d_X_execute_145 : decode prog_2_method_2_code 145 = .ok (.invokestatic 25, 3) := by decide +kernel
theorem d_X_execute_148 : decode prog_2_method_2_code 148 = .ok (.iadd, 1) := by decide +kernel
theorem d_X_execute_149 : decode prog_2_method_2_code 149 = .ok (.invokestatic 31, 3) := by decide +kernel
theorem d_X_execute_152 : decode prog_2_method_2_code 152 = .ok (.ireturn, 1) := by decide +kernel
theorem d_X_execute_153 : decode prog_2_method_2_code 153 = .ok (.aload_n 1, 1) := by decide +kernel
theorem d_X_execute_154 : decode prog_2_method_2_code 154 = .ok (.iload_n 3, 1) := by decide +kernel
theorem d_X_execute_155 : decode prog_2_method_2_code 155 = .ok (.aload_n 1, 1) := by decide +kernel
theorem d_X_execute_156 : decode prog_2_method_2_code 156 = .ok (.getfield 9, 3) := by decide +kernel
theorem d_X_execute_159 : decode prog_2_method_2_code 159 = .ok (.iload_n 3, 1) := by decide +kernel
theorem d_X_execute_160 : decode prog_2_method_2_code 160 = .ok (.invokestatic 35, 3) := by decide +kernel
theorem d_X_execute_163 : decode prog_2_method_2_code 163 = .ok (.iadd, 1) := by decide +kernel
theorem d_X_execute_164 : decode prog_2_method_2_code 164 = .ok (.invokestatic 38, 3) := by decide +kernel
theorem d_X_execute_167 : decode prog_2_method_2_code 167 = .ok (.ireturn, 1) := by decide +kernel
theorem d_X_execute_168 : decode prog_2_method_2_code 168 = .ok (.aload_n 1, 1) := by decide +kernel
theorem d_X_execute_169 : decode prog_2_method_2_code 169 = .ok (.iload_n 3, 1) := by decide +kernel
theorem d_X_execute_170 : decode prog_2_method_2_code 170 = .ok (.invokestatic 41, 3) := by decide +kernel
theorem d_X_execute_173 : decode prog_2_method_2_code 173 = .ok (.ireturn, 1) := by decide +kernel
theorem d_X_execute_174 : decode prog_2_method_2_code 174 = .ok (.aload_n 1, 1) := by decide +kernel
theorem d_X_execute_175 : decode prog_2_method_2_code 175 = .ok (.iload_n 3, 1) := by decide +kernel
theorem d_X_execute_176 : decode prog_2_method_2_code 176 = .ok (.invokestatic 44, 3) := by decide +kernel
theorem d_X_execute_179 : decode prog_2_method_2_code 179 = .ok (.ireturn, 1) := by decide +kernel
theorem d_X_execute_180 : decode prog_2_method_2_code 180 = .ok (.aload_n 0, 1) := by decide +kernel
theorem d_X_execute_181 : decode prog_2_method_2_code 181 = .ok (.aload_n 1, 1) := by decide +kernel
theorem d_X_execute_182 : decode prog_2_method_2_code 182 = .ok (.iload_n 3, 1) := by decide +kernel
theorem d_X_execute_183 : decode prog_2_method_2_code 183 = .ok (.invokestatic 47, 3) := by decide +kernel
theorem d_X_execute_186 : decode prog_2_method_2_code 186 = .ok (.ireturn, 1) := by decide +kernel
theorem d_X_execute_187 : decode prog_2_method_2_code 187 = .ok (.aload_n 0, 1) := by decide +kernel
theorem d_X_execute_188 : decode prog_2_method_2_code 188 = .ok (.aload_n 1, 1) := by decide +kernel
theorem d_X_execute_189 : decode prog_2_method_2_code 189 = .ok (.iload_n 3, 1) := by decide +kernel
theorem d_X_execute_190 : decode prog_2_method_2_code 190 = .ok (.invokestatic 51, 3) := by decide +kernel
theorem d_X_execute_193 : decode prog_2_method_2_code 193 = .ok (.ireturn, 1) := by decide +kernel
theorem d_X_execute_194 : decode prog_2_method_2_code 194 = .ok (.aload_n 1, 1) := by decide +kernel
theorem d_X_execute_195 : decode prog_2_method_2_code 195 = .ok (.iload_n 3, 1) := by decide +kernel
theorem d_X_execute_196 : decode prog_2_method_2_code 196 = .ok (.invokestatic 54, 3) := by decide +kernel
theorem d_X_execute_199 : decode prog_2_method_2_code 199 = .ok (.ireturn, 1) := by decide +kernel
theorem d_X_execute_200 : decode prog_2_method_2_code 200 = .ok (.aload_n 1, 1) := by decide +kernel
theorem d_X_execute_201 : decode prog_2_method_2_code 201 = .ok (.iload_n 3, 1) := by decide +kernel
theorem d_X_execute_202 : decode prog_2_method_2_code 202 = .ok (.invokestatic 57, 3) := by decide +kernel
theorem d_X_execute_205 : decode prog_2_method_2_code 205 = .ok (.ireturn, 1) := by decide +kernel
theorem d_X_execute_206 : decode prog_2_method_2_code 206 = .ok (.iload_n 3, 1) := by decide +kernel
theorem d_X_execute_207 : decode prog_2_method_2_code 207 = .ok (.invokestatic 60, 3) := by decide +kernel
theorem d_X_execute_210 : decode prog_2_method_2_code 210 = .ok (.ifCond .ne 10, 3) := by decide +kernel
theorem d_X_execute_213 : decode prog_2_method_2_code 213 = .ok (.aload_n 1, 1) := by decide +kernel
theorem d_X_execute_214 : decode prog_2_method_2_code 214 = .ok (.invokestatic 63, 3) := by decide +kernel
theorem d_X_execute_217 : decode prog_2_method_2_code 217 = .ok (.goto 4, 3) := by decide +kernel
theorem d_X_execute_220 : decode prog_2_method_2_code 220 = .ok (.iconst 2, 1) := by decide +kernel
theorem d_X_execute_221 : decode prog_2_method_2_code 221 = .ok (.ireturn, 1) := by decide +kernel
theorem d_X_execute_222 : decode prog_2_method_2_code 222 = .ok (.iload_n 3, 1) := by decide +kernel
theorem d_X_execute_223 : decode prog_2_method_2_code 223 = .ok (.invokestatic 67, 3) := by decide +kernel
theorem d_X_execute_226 : decode prog_2_method_2_code 226 = .ok (.ireturn, 1) := by decide +kernel
theorem d_X_execute_227 : decode prog_2_method_2_code 227 = .ok (.iconst 2, 1) := by decide +kernel
theorem d_X_execute_228 : decode prog_2_method_2_code 228 = .ok (.ireturn, 1) := by decide +kernel
theorem d_X_special_0 : decode prog_2_method_3_code 0 = .ok (.iload_n 0, 1) := by decide +kernel
theorem d_X_special_1 : decode prog_2_method_3_code 1 = .ok (.bipush 115, 2) := by decide +kernel
theorem d_X_special_3 : decode prog_2_method_3_code 3 = .ok (.if_icmp .ne 6, 3) := by decide +kernel
theorem d_X_special_6 : decode prog_2_method_3_code 6 = .ok (.bipush (-2), 2) := by decide +kernel
theorem d_X_special_8 : decode prog_2_method_3_code 8 = .ok (.ireturn, 1) := by decide +kernel
theorem d_X_special_9 : decode prog_2_method_3_code 9 = .ok (.iload_n 0, 1) := by decide +kernel
theorem d_X_special_10 : decode prog_2_method_3_code 10 = .ok (.ldc 70, 2) := by decide +kernel
theorem d_X_special_12 : decode prog_2_method_3_code 12 = .ok (.if_icmp .ne 7, 3) := by decide +kernel
theorem d_X_special_15 : decode prog_2_method_3_code 15 = .ok (.iconst 3, 1) := by decide +kernel
theorem d_X_special_16 : decode prog_2_method_3_code 16 = .ok (.goto 4, 3) := by decide +kernel
theorem d_X_special_19 : decode prog_2_method_3_code 19 = .ok (.iconst 2, 1) := by decide +kernel
theorem d_X_special_20 : decode prog_2_method_3_code 20 = .ok (.ireturn, 1) := by decide +kernel
theorem d_X_go_0 : decode prog_2_method_4_code 0 = .ok (.aload_n 0, 1) := by decide +kernel
theorem d_X_go_1 : decode prog_2_method_4_code 1 = .ok (.dup, 1) := by decide +kernel
theorem d_X_go_2 : decode prog_2_method_4_code 2 = .ok (.getfield 9, 3) := by decide +kernel
theorem d_X_go_5 : decode prog_2_method_4_code 5 = .ok (.iconst 4, 1) := by decide +kernel
theorem d_X_go_6 : decode prog_2_method_4_code 6 = .ok (.iadd, 1) := by decide +kernel
theorem d_X_go_7 : decode prog_2_method_4_code 7 = .ok (.putfield 9, 3) := by decide +kernel
theorem d_X_go_10 : decode prog_2_method_4_code 10 = .ok (.iconst (-1), 1) := by decide +kernel
theorem d_X_go_11 : decode prog_2_method_4_code 11 = .ok (.ireturn, 1) := by decide +kernel
theorem d_X_setAndGo_0 : decode prog_2_method_5_code 0 = .ok (.aload_n 0, 1) := by decide +kernel
theorem d_X_setAndGo_1 : decode prog_2_method_5_code 1 = .ok (.iload_n 1, 1) := by decide +kernel
theorem d_X_setAndGo_2 : decode prog_2_method_5_code 2 = .ok (.bipush 7, 2) := by decide +kernel
theorem d_X_setAndGo_4 : decode prog_2_method_5_code 4 = .ok (.iushr, 1) := by decide +kernel
theorem d_X_setAndGo_5 : decode prog_2_method_5_code 5 = .ok (.bipush 31, 2) := by decide +kernel
theorem d_X_setAndGo_7 : decode prog_2_method_5_code 7 = .ok (.iand, 1) := by decide +kernel
theorem d_X_setAndGo_8 : decode prog_2_method_5_code 8 = .ok (.iload_n 2, 1) := by decide +kernel
theorem d_X_setAndGo_9 : decode prog_2_method_5_code 9 = .ok (.invokevirtual 71, 3) := by decide +kernel
theorem d_X_setAndGo_12 : decode prog_2_method_5_code 12 = .ok (.aload_n 0, 1) := by decide +kernel
theorem d_X_setAndGo_13 : decode prog_2_method_5_code 13 = .ok (.invokestatic 63, 3) := by decide +kernel
theorem d_X_setAndGo_16 : decode prog_2_method_5_code 16 = .ok (.ireturn, 1) := by decide +kernel
theorem d_X_jump_0 : decode prog_2_method_6_code 0 = .ok (.iload_n 2, 1) := by decide +kernel
theorem d_X_jump_1 : decode prog_2_method_6_code 1 = .ok (.iconst 3, 1) := by decide +kernel
theorem d_X_jump_2 : decode prog_2_method_6_code 2 = .ok (.iand, 1) := by decide +kernel
theorem d_X_jump_3 : decode prog_2_method_6_code 3 = .ok (.ifCond .eq 5, 3) := by decide +kernel
theorem d_X_jump_6 : decode prog_2_method_6_code 6 = .ok (.iconst 0, 1) := by decide +kernel
theorem d_X_jump_7 : decode prog_2_method_6_code 7 = .ok (.ireturn, 1) := by decide +kernel
theorem d_X_jump_8 : decode prog_2_method_6_code 8 = .ok (.aload_n 0, 1) := by decide +kernel
theorem d_X_jump_9 : decode prog_2_method_6_code 9 = .ok (.iload_n 1, 1) := by decide +kernel
theorem d_X_jump_10 : decode prog_2_method_6_code 10 = .ok (.bipush 7, 2) := by decide +kernel
theorem d_X_jump_12 : decode prog_2_method_6_code 12 = .ok (.iushr, 1) := by decide +kernel
theorem d_X_jump_13 : decode prog_2_method_6_code 13 = .ok (.bipush 31, 2) := by decide +kernel
theorem d_X_jump_15 : decode prog_2_method_6_code 15 = .ok (.iand, 1) := by decide +kernel
theorem d_X_jump_16 : decode prog_2_method_6_code 16 = .ok (.aload_n 0, 1) := by decide +kernel
theorem d_X_jump_17 : decode prog_2_method_6_code 17 = .ok (.getfield 9, 3) := by decide +kernel
theorem d_X_jump_20 : decode prog_2_method_6_code 20 = .ok (.iconst 4, 1) := by decide +kernel
theorem d_X_jump_21 : decode prog_2_method_6_code 21 = .ok (.iadd, 1) := by decide +kernel
theorem d_X_jump_22 : decode prog_2_method_6_code 22 = .ok (.invokevirtual 71, 3) := by decide +kernel
theorem d_X_jump_25 : decode prog_2_method_6_code 25 = .ok (.aload_n 0, 1) := by decide +kernel
theorem d_X_jump_26 : decode prog_2_method_6_code 26 = .ok (.iload_n 2, 1) := by decide +kernel
theorem d_X_jump_27 : decode prog_2_method_6_code 27 = .ok (.putfield 9, 3) := by decide +kernel
theorem d_X_jump_30 : decode prog_2_method_6_code 30 = .ok (.iconst (-1), 1) := by decide +kernel
theorem d_X_jump_31 : decode prog_2_method_6_code 31 = .ok (.ireturn, 1) := by decide +kernel
theorem d_X_jumpByRegister_0 : decode prog_2_method_7_code 0 = .ok (.iload_n 1, 1) := by decide +kernel
theorem d_X_jumpByRegister_1 : decode prog_2_method_7_code 1 = .ok (.invokestatic 60, 3) := by decide +kernel
theorem d_X_jumpByRegister_4 : decode prog_2_method_7_code 4 = .ok (.ifCond .eq 5, 3) := by decide +kernel
theorem d_X_jumpByRegister_7 : decode prog_2_method_7_code 7 = .ok (.iconst 2, 1) := by decide +kernel
theorem d_X_jumpByRegister_8 : decode prog_2_method_7_code 8 = .ok (.ireturn, 1) := by decide +kernel
theorem d_X_jumpByRegister_9 : decode prog_2_method_7_code 9 = .ok (.aload_n 0, 1) := by decide +kernel
theorem d_X_jumpByRegister_10 : decode prog_2_method_7_code 10 = .ok (.iload_n 1, 1) := by decide +kernel
theorem d_X_jumpByRegister_11 : decode prog_2_method_7_code 11 = .ok (.aload_n 0, 1) := by decide +kernel
theorem d_X_jumpByRegister_12 : decode prog_2_method_7_code 12 = .ok (.iload_n 1, 1) := by decide +kernel
theorem d_X_jumpByRegister_13 : decode prog_2_method_7_code 13 = .ok (.invokestatic 75, 3) := by decide +kernel
theorem d_X_jumpByRegister_16 : decode prog_2_method_7_code 16 = .ok (.iload_n 1, 1) := by decide +kernel
theorem d_X_jumpByRegister_17 : decode prog_2_method_7_code 17 = .ok (.invokestatic 78, 3) := by decide +kernel
theorem d_X_jumpByRegister_20 : decode prog_2_method_7_code 20 = .ok (.iadd, 1) := by decide +kernel
theorem d_X_jumpByRegister_21 : decode prog_2_method_7_code 21 = .ok (.bipush (-2), 2) := by decide +kernel
theorem d_X_jumpByRegister_23 : decode prog_2_method_7_code 23 = .ok (.iand, 1) := by decide +kernel
theorem d_X_jumpByRegister_24 : decode prog_2_method_7_code 24 = .ok (.invokestatic 38, 3) := by decide +kernel
theorem d_X_jumpByRegister_27 : decode prog_2_method_7_code 27 = .ok (.ireturn, 1) := by decide +kernel
theorem d_X_branch_0 : decode prog_2_method_8_code 0 = .ok (.iload_n 1, 1) := by decide +kernel
theorem d_X_branch_1 : decode prog_2_method_8_code 1 = .ok (.invokestatic 60, 3) := by decide +kernel
theorem d_X_branch_4 : decode prog_2_method_8_code 4 = .ok (.istore_n 2, 1) := by decide +kernel
theorem d_X_branch_5 : decode prog_2_method_8_code 5 = .ok (.iload_n 2, 1) := by decide +kernel
theorem d_X_branch_6 : decode prog_2_method_8_code 6 = .ok (.iconst 2, 1) := by decide +kernel
theorem d_X_branch_7 : decode prog_2_method_8_code 7 = .ok (.if_icmp .eq 8, 3) := by decide +kernel
theorem d_X_branch_10 : decode prog_2_method_8_code 10 = .ok (.iload_n 2, 1) := by decide +kernel
theorem d_X_branch_11 : decode prog_2_method_8_code 11 = .ok (.iconst 3, 1) := by decide +kernel
theorem d_X_branch_12 : decode prog_2_method_8_code 12 = .ok (.if_icmp .ne 5, 3) := by decide +kernel
theorem d_X_branch_15 : decode prog_2_method_8_code 15 = .ok (.iconst 2, 1) := by decide +kernel
theorem d_X_branch_16 : decode prog_2_method_8_code 16 = .ok (.ireturn, 1) := by decide +kernel
theorem d_X_branch_17 : decode prog_2_method_8_code 17 = .ok (.iload_n 2, 1) := by decide +kernel
theorem d_X_branch_18 : decode prog_2_method_8_code 18 = .ok (.aload_n 0, 1) := by decide +kernel
theorem d_X_branch_19 : decode prog_2_method_8_code 19 = .ok (.iload_n 1, 1) := by decide +kernel
theorem d_X_branch_20 : decode prog_2_method_8_code 20 = .ok (.invokestatic 75, 3) := by decide +kernel
theorem d_X_branch_23 : decode prog_2_method_8_code 23 = .ok (.aload_n 0, 1) := by decide +kernel
theorem d_X_branch_24 : decode prog_2_method_8_code 24 = .ok (.iload_n 1, 1) := by decide +kernel
theorem d_X_branch_25 : decode prog_2_method_8_code 25 = .ok (.invokestatic 81, 3) := by decide +kernel
theorem d_X_branch_28 : decode prog_2_method_8_code 28 = .ok (.invokestatic 84, 3) := by decide +kernel
theorem d_X_branch_31 : decode prog_2_method_8_code 31 = .ok (.ifCond .ne 8, 3) := by decide +kernel
theorem d_X_branch_34 : decode prog_2_method_8_code 34 = .ok (.aload_n 0, 1) := by decide +kernel
theorem d_X_branch_35 : decode prog_2_method_8_code 35 = .ok (.invokestatic 63, 3) := by decide +kernel
theorem d_X_branch_38 : decode prog_2_method_8_code 38 = .ok (.ireturn, 1) := by decide +kernel
theorem d_X_branch_39 : decode prog_2_method_8_code 39 = .ok (.aload_n 0, 1) := by decide +kernel
theorem d_X_branch_40 : decode prog_2_method_8_code 40 = .ok (.getfield 9, 3) := by decide +kernel
theorem d_X_branch_43 : decode prog_2_method_8_code 43 = .ok (.iload_n 1, 1) := by decide +kernel
theorem d_X_branch_44 : decode prog_2_method_8_code 44 = .ok (.invokestatic 88, 3) := by decide +kernel
theorem d_X_branch_47 : decode prog_2_method_8_code 47 = .ok (.iadd, 1) := by decide +kernel
theorem d_X_branch_48 : decode prog_2_method_8_code 48 = .ok (.istore_n 3, 1) := by decide +kernel
theorem d_X_branch_49 : decode prog_2_method_8_code 49 = .ok (.iload_n 3, 1) := by decide +kernel
theorem d_X_branch_50 : decode prog_2_method_8_code 50 = .ok (.iconst 3, 1) := by decide +kernel
theorem d_X_branch_51 : decode prog_2_method_8_code 51 = .ok (.iand, 1) := by decide +kernel
theorem d_X_branch_52 : decode prog_2_method_8_code 52 = .ok (.ifCond .eq 5, 3) := by decide +kernel
theorem d_X_branch_55 : decode prog_2_method_8_code 55 = .ok (.iconst 0, 1) := by decide +kernel
theorem d_X_branch_56 : decode prog_2_method_8_code 56 = .ok (.ireturn, 1) := by decide +kernel
theorem d_X_branch_57 : decode prog_2_method_8_code 57 = .ok (.aload_n 0, 1) := by decide +kernel
theorem d_X_branch_58 : decode prog_2_method_8_code 58 = .ok (.iload_n 3, 1) := by decide +kernel
theorem d_X_branch_59 : decode prog_2_method_8_code 59 = .ok (.putfield 9, 3) := by decide +kernel
theorem d_X_branch_62 : decode prog_2_method_8_code 62 = .ok (.iconst (-1), 1) := by decide +kernel
theorem d_X_branch_63 : decode prog_2_method_8_code 63 = .ok (.ireturn, 1) := by decide +kernel
theorem d_X_holdsTrue_0 : decode prog_2_method_9_code 0 = .ok (.iload_n 0, 1) := by decide +kernel
theorem d_X_holdsTrue_1 : decode prog_2_method_9_code 1 = .ok (.tableswitch 93 0 6 #[43, 54, 93, 93, 65, 76, 87], 43) := by decide +kernel
theorem d_X_holdsTrue_44 : decode prog_2_method_9_code 44 = .ok (.iload_n 1, 1) := by decide +kernel
theorem d_X_holdsTrue_45 : decode prog_2_method_9_code 45 = .ok (.iload_n 2, 1) := by decide +kernel
theorem d_X_holdsTrue_46 : decode prog_2_method_9_code 46 = .ok (.if_icmp .ne 7, 3) := by decide +kernel
theorem d_X_holdsTrue_49 : decode prog_2_method_9_code 49 = .ok (.iconst 1, 1) := by decide +kernel
theorem d_X_holdsTrue_50 : decode prog_2_method_9_code 50 = .ok (.goto 4, 3) := by decide +kernel
theorem d_X_holdsTrue_53 : decode prog_2_method_9_code 53 = .ok (.iconst 0, 1) := by decide +kernel
theorem d_X_holdsTrue_54 : decode prog_2_method_9_code 54 = .ok (.ireturn, 1) := by decide +kernel
theorem d_X_holdsTrue_55 : decode prog_2_method_9_code 55 = .ok (.iload_n 1, 1) := by decide +kernel
theorem d_X_holdsTrue_56 : decode prog_2_method_9_code 56 = .ok (.iload_n 2, 1) := by decide +kernel
theorem d_X_holdsTrue_57 : decode prog_2_method_9_code 57 = .ok (.if_icmp .eq 7, 3) := by decide +kernel
theorem d_X_holdsTrue_60 : decode prog_2_method_9_code 60 = .ok (.iconst 1, 1) := by decide +kernel
theorem d_X_holdsTrue_61 : decode prog_2_method_9_code 61 = .ok (.goto 4, 3) := by decide +kernel
theorem d_X_holdsTrue_64 : decode prog_2_method_9_code 64 = .ok (.iconst 0, 1) := by decide +kernel
theorem d_X_holdsTrue_65 : decode prog_2_method_9_code 65 = .ok (.ireturn, 1) := by decide +kernel
theorem d_X_holdsTrue_66 : decode prog_2_method_9_code 66 = .ok (.iload_n 1, 1) := by decide +kernel
theorem d_X_holdsTrue_67 : decode prog_2_method_9_code 67 = .ok (.iload_n 2, 1) := by decide +kernel
theorem d_X_holdsTrue_68 : decode prog_2_method_9_code 68 = .ok (.if_icmp .ge 7, 3) := by decide +kernel
theorem d_X_holdsTrue_71 : decode prog_2_method_9_code 71 = .ok (.iconst 1, 1) := by decide +kernel
theorem d_X_holdsTrue_72 : decode prog_2_method_9_code 72 = .ok (.goto 4, 3) := by decide +kernel
theorem d_X_holdsTrue_75 : decode prog_2_method_9_code 75 = .ok (.iconst 0, 1) := by decide +kernel
theorem d_X_holdsTrue_76 : decode prog_2_method_9_code 76 = .ok (.ireturn, 1) := by decide +kernel
theorem d_X_holdsTrue_77 : decode prog_2_method_9_code 77 = .ok (.iload_n 1, 1) := by decide +kernel
theorem d_X_holdsTrue_78 : decode prog_2_method_9_code 78 = .ok (.iload_n 2, 1) := by decide +kernel
theorem d_X_holdsTrue_79 : decode prog_2_method_9_code 79 = .ok (.if_icmp .lt 7, 3) := by decide +kernel
theorem d_X_holdsTrue_82 : decode prog_2_method_9_code 82 = .ok (.iconst 1, 1) := by decide +kernel
theorem d_X_holdsTrue_83 : decode prog_2_method_9_code 83 = .ok (.goto 4, 3) := by decide +kernel
theorem d_X_holdsTrue_86 : decode prog_2_method_9_code 86 = .ok (.iconst 0, 1) := by decide +kernel
theorem d_X_holdsTrue_87 : decode prog_2_method_9_code 87 = .ok (.ireturn, 1) := by decide +kernel
theorem d_X_holdsTrue_88 : decode prog_2_method_9_code 88 = .ok (.iload_n 1, 1) := by decide +kernel
theorem d_X_holdsTrue_89 : decode prog_2_method_9_code 89 = .ok (.iload_n 2, 1) := by decide +kernel
theorem d_X_holdsTrue_90 : decode prog_2_method_9_code 90 = .ok (.invokestatic 91, 3) := by decide +kernel
theorem d_X_holdsTrue_93 : decode prog_2_method_9_code 93 = .ok (.ireturn, 1) := by decide +kernel
theorem d_X_holdsTrue_94 : decode prog_2_method_9_code 94 = .ok (.iload_n 1, 1) := by decide +kernel
theorem d_X_holdsTrue_95 : decode prog_2_method_9_code 95 = .ok (.iload_n 2, 1) := by decide +kernel
theorem d_X_holdsTrue_96 : decode prog_2_method_9_code 96 = .ok (.invokestatic 91, 3) := by decide +kernel
theorem d_X_holdsTrue_99 : decode prog_2_method_9_code 99 = .ok (.ifCond .ne 7, 3) := by decide +kernel
theorem d_X_holdsTrue_102 : decode prog_2_method_9_code 102 = .ok (.iconst 1, 1) := by decide +kernel
theorem d_X_holdsTrue_103 : decode prog_2_method_9_code 103 = .ok (.goto 4, 3) := by decide +kernel
theorem d_X_holdsTrue_106 : decode prog_2_method_9_code 106 = .ok (.iconst 0, 1) := by decide +kernel
theorem d_X_holdsTrue_107 : decode prog_2_method_9_code 107 = .ok (.ireturn, 1) := by decide +kernel
theorem d_X_fetch_0 : decode prog_2_method_10_code 0 = .ok (.iload_n 2, 1) := by decide +kernel
theorem d_X_fetch_1 : decode prog_2_method_10_code 1 = .ok (.invokestatic 60, 3) := by decide +kernel
theorem d_X_fetch_4 : decode prog_2_method_10_code 4 = .ok (.istore_n 3, 1) := by decide +kernel
theorem d_X_fetch_5 : decode prog_2_method_10_code 5 = .ok (.iload_n 3, 1) := by decide +kernel
theorem d_X_fetch_6 : decode prog_2_method_10_code 6 = .ok (.iconst 3, 1) := by decide +kernel
theorem d_X_fetch_7 : decode prog_2_method_10_code 7 = .ok (.if_icmp .eq 8, 3) := by decide +kernel
theorem d_X_fetch_10 : decode prog_2_method_10_code 10 = .ok (.iload_n 3, 1) := by decide +kernel
theorem d_X_fetch_11 : decode prog_2_method_10_code 11 = .ok (.iconst 5, 1) := by decide +kernel
theorem d_X_fetch_12 : decode prog_2_method_10_code 12 = .ok (.if_icmp .le 5, 3) := by decide +kernel
theorem d_X_fetch_15 : decode prog_2_method_10_code 15 = .ok (.iconst 2, 1) := by decide +kernel
theorem d_X_fetch_16 : decode prog_2_method_10_code 16 = .ok (.ireturn, 1) := by decide +kernel
theorem d_X_fetch_17 : decode prog_2_method_10_code 17 = .ok (.aload_n 1, 1) := by decide +kernel
theorem d_X_fetch_18 : decode prog_2_method_10_code 18 = .ok (.iload_n 2, 1) := by decide +kernel
theorem d_X_fetch_19 : decode prog_2_method_10_code 19 = .ok (.invokestatic 75, 3) := by decide +kernel
theorem d_X_fetch_22 : decode prog_2_method_10_code 22 = .ok (.iload_n 2, 1) := by decide +kernel
theorem d_X_fetch_23 : decode prog_2_method_10_code 23 = .ok (.invokestatic 78, 3) := by decide +kernel
theorem d_X_fetch_26 : decode prog_2_method_10_code 26 = .ok (.iadd, 1) := by decide +kernel
theorem d_X_fetch_27 : decode prog_2_method_10_code 27 = .ok (.istore 4, 2) := by decide +kernel
theorem d_X_fetch_29 : decode prog_2_method_10_code 29 = .ok (.iload 4, 2) := by decide +kernel
theorem d_X_fetch_31 : decode prog_2_method_10_code 31 = .ok (.iload_n 3, 1) := by decide +kernel
theorem d_X_fetch_32 : decode prog_2_method_10_code 32 = .ok (.iconst 3, 1) := by decide +kernel
theorem d_X_fetch_33 : decode prog_2_method_10_code 33 = .ok (.iand, 1) := by decide +kernel
theorem d_X_fetch_34 : decode prog_2_method_10_code 34 = .ok (.invokestatic 95, 3) := by decide +kernel
theorem d_X_fetch_37 : decode prog_2_method_10_code 37 = .ok (.ifCond .eq 5, 3) := by decide +kernel
theorem d_X_fetch_40 : decode prog_2_method_10_code 40 = .ok (.iconst 4, 1) := by decide +kernel
theorem d_X_fetch_41 : decode prog_2_method_10_code 41 = .ok (.ireturn, 1) := by decide +kernel
theorem d_X_fetch_42 : decode prog_2_method_10_code 42 = .ok (.aload_n 0, 1) := by decide +kernel
theorem d_X_fetch_43 : decode prog_2_method_10_code 43 = .ok (.aload_n 1, 1) := by decide +kernel
theorem d_X_fetch_44 : decode prog_2_method_10_code 44 = .ok (.iload 4, 2) := by decide +kernel
theorem d_X_fetch_46 : decode prog_2_method_10_code 46 = .ok (.invokevirtual 15, 3) := by decide +kernel
theorem d_X_fetch_49 : decode prog_2_method_10_code 49 = .ok (.istore 5, 2) := by decide +kernel
theorem d_X_fetch_51 : decode prog_2_method_10_code 51 = .ok (.iload 5, 2) := by decide +kernel
theorem d_X_fetch_53 : decode prog_2_method_10_code 53 = .ok (.iconst (-1), 1) := by decide +kernel
theorem d_X_fetch_54 : decode prog_2_method_10_code 54 = .ok (.if_icmp .ne 5, 3) := by decide +kernel
theorem d_X_fetch_57 : decode prog_2_method_10_code 57 = .ok (.iconst 5, 1) := by decide +kernel
theorem d_X_fetch_58 : decode prog_2_method_10_code 58 = .ok (.ireturn, 1) := by decide +kernel
theorem d_X_fetch_59 : decode prog_2_method_10_code 59 = .ok (.aload_n 1, 1) := by decide +kernel
theorem d_X_fetch_60 : decode prog_2_method_10_code 60 = .ok (.iload_n 2, 1) := by decide +kernel
theorem d_X_fetch_61 : decode prog_2_method_10_code 61 = .ok (.iload_n 3, 1) := by decide +kernel
theorem d_X_fetch_62 : decode prog_2_method_10_code 62 = .ok (.aload_n 0, 1) := by decide +kernel
theorem d_X_fetch_63 : decode prog_2_method_10_code 63 = .ok (.getfield 21, 3) := by decide +kernel
theorem d_X_fetch_66 : decode prog_2_method_10_code 66 = .ok (.iload 5, 2) := by decide +kernel
theorem d_X_fetch_68 : decode prog_2_method_10_code 68 = .ok (.iaload, 1) := by decide +kernel
theorem d_X_fetch_69 : decode prog_2_method_10_code 69 = .ok (.bipush 8, 2) := by decide +kernel
theorem d_X_fetch_71 : decode prog_2_method_10_code 71 = .ok (.iload 4, 2) := by decide +kernel
theorem d_X_fetch_73 : decode prog_2_method_10_code 73 = .ok (.iconst 3, 1) := by decide +kernel
theorem d_X_fetch_74 : decode prog_2_method_10_code 74 = .ok (.iand, 1) := by decide +kernel
theorem d_X_fetch_75 : decode prog_2_method_10_code 75 = .ok (.imul, 1) := by decide +kernel
theorem d_X_fetch_76 : decode prog_2_method_10_code 76 = .ok (.iushr, 1) := by decide +kernel
theorem d_X_fetch_77 : decode prog_2_method_10_code 77 = .ok (.invokestatic 98, 3) := by decide +kernel
theorem d_X_fetch_80 : decode prog_2_method_10_code 80 = .ok (.invokestatic 31, 3) := by decide +kernel
theorem d_X_fetch_83 : decode prog_2_method_10_code 83 = .ok (.ireturn, 1) := by decide +kernel
theorem d_X_widen_0 : decode prog_2_method_11_code 0 = .ok (.iload_n 0, 1) := by decide +kernel
theorem d_X_widen_1 : decode prog_2_method_11_code 1 = .ok (.tableswitch 66 0 5 #[39, 47, 66, 66, 55, 61], 39) := by decide +kernel
theorem d_X_widen_40 : decode prog_2_method_11_code 40 = .ok (.iload_n 1, 1) := by decide +kernel
theorem d_X_widen_41 : decode prog_2_method_11_code 41 = .ok (.bipush 24, 2) := by decide +kernel
theorem d_X_widen_43 : decode prog_2_method_11_code 43 = .ok (.ishl, 1) := by decide +kernel
theorem d_X_widen_44 : decode prog_2_method_11_code 44 = .ok (.bipush 24, 2) := by decide +kernel
theorem d_X_widen_46 : decode prog_2_method_11_code 46 = .ok (.ishr, 1) := by decide +kernel
theorem d_X_widen_47 : decode prog_2_method_11_code 47 = .ok (.ireturn, 1) := by decide +kernel
theorem d_X_widen_48 : decode prog_2_method_11_code 48 = .ok (.iload_n 1, 1) := by decide +kernel
theorem d_X_widen_49 : decode prog_2_method_11_code 49 = .ok (.bipush 16, 2) := by decide +kernel
theorem d_X_widen_51 : decode prog_2_method_11_code 51 = .ok (.ishl, 1) := by decide +kernel
theorem d_X_widen_52 : decode prog_2_method_11_code 52 = .ok (.bipush 16, 2) := by decide +kernel
theorem d_X_widen_54 : decode prog_2_method_11_code 54 = .ok (.ishr, 1) := by decide +kernel
theorem d_X_widen_55 : decode prog_2_method_11_code 55 = .ok (.ireturn, 1) := by decide +kernel
theorem d_X_widen_56 : decode prog_2_method_11_code 56 = .ok (.iload_n 1, 1) := by decide +kernel
theorem d_X_widen_57 : decode prog_2_method_11_code 57 = .ok (.sipush 255, 3) := by decide +kernel
theorem d_X_widen_60 : decode prog_2_method_11_code 60 = .ok (.iand, 1) := by decide +kernel
theorem d_X_widen_61 : decode prog_2_method_11_code 61 = .ok (.ireturn, 1) := by decide +kernel
theorem d_X_widen_62 : decode prog_2_method_11_code 62 = .ok (.iload_n 1, 1) := by decide +kernel
theorem d_X_widen_63 : decode prog_2_method_11_code 63 = .ok (.ldc 102, 2) := by decide +kernel
theorem d_X_widen_65 : decode prog_2_method_11_code 65 = .ok (.iand, 1) := by decide +kernel
theorem d_X_widen_66 : decode prog_2_method_11_code 66 = .ok (.ireturn, 1) := by decide +kernel
theorem d_X_widen_67 : decode prog_2_method_11_code 67 = .ok (.iload_n 1, 1) := by decide +kernel
theorem d_X_widen_68 : decode prog_2_method_11_code 68 = .ok (.ireturn, 1) := by decide +kernel
theorem d_X_put_0 : decode prog_2_method_12_code 0 = .ok (.iload_n 2, 1) := by decide +kernel
theorem d_X_put_1 : decode prog_2_method_12_code 1 = .ok (.invokestatic 60, 3) := by decide +kernel
theorem d_X_put_4 : decode prog_2_method_12_code 4 = .ok (.istore_n 3, 1) := by decide +kernel
theorem d_X_put_5 : decode prog_2_method_12_code 5 = .ok (.iload_n 3, 1) := by decide +kernel
theorem d_X_put_6 : decode prog_2_method_12_code 6 = .ok (.iconst 2, 1) := by decide +kernel
theorem d_X_put_7 : decode prog_2_method_12_code 7 = .ok (.if_icmp .le 5, 3) := by decide +kernel
theorem d_X_put_10 : decode prog_2_method_12_code 10 = .ok (.iconst 2, 1) := by decide +kernel
theorem d_X_put_11 : decode prog_2_method_12_code 11 = .ok (.ireturn, 1) := by decide +kernel
theorem d_X_put_12 : decode prog_2_method_12_code 12 = .ok (.aload_n 1, 1) := by decide +kernel
theorem d_X_put_13 : decode prog_2_method_12_code 13 = .ok (.iload_n 2, 1) := by decide +kernel
theorem d_X_put_14 : decode prog_2_method_12_code 14 = .ok (.invokestatic 75, 3) := by decide +kernel
theorem d_X_put_17 : decode prog_2_method_12_code 17 = .ok (.iload_n 2, 1) := by decide +kernel
theorem d_X_put_18 : decode prog_2_method_12_code 18 = .ok (.invokestatic 103, 3) := by decide +kernel
theorem d_X_put_21 : decode prog_2_method_12_code 21 = .ok (.iadd, 1) := by decide +kernel
theorem d_X_put_22 : decode prog_2_method_12_code 22 = .ok (.istore 4, 2) := by decide +kernel
theorem d_X_put_24 : decode prog_2_method_12_code 24 = .ok (.iload 4, 2) := by decide +kernel
theorem d_X_put_26 : decode prog_2_method_12_code 26 = .ok (.iload_n 3, 1) := by decide +kernel
theorem d_X_put_27 : decode prog_2_method_12_code 27 = .ok (.invokestatic 95, 3) := by decide +kernel
theorem d_X_put_30 : decode prog_2_method_12_code 30 = .ok (.ifCond .eq 6, 3) := by decide +kernel
theorem d_X_put_33 : decode prog_2_method_12_code 33 = .ok (.bipush 6, 2) := by decide +kernel
theorem d_X_put_35 : decode prog_2_method_12_code 35 = .ok (.ireturn, 1) := by decide +kernel
theorem d_X_put_36 : decode prog_2_method_12_code 36 = .ok (.aload_n 0, 1) := by decide +kernel
theorem d_X_put_37 : decode prog_2_method_12_code 37 = .ok (.aload_n 1, 1) := by decide +kernel
theorem d_X_put_38 : decode prog_2_method_12_code 38 = .ok (.iload 4, 2) := by decide +kernel
theorem d_X_put_40 : decode prog_2_method_12_code 40 = .ok (.invokevirtual 15, 3) := by decide +kernel
theorem d_X_put_43 : decode prog_2_method_12_code 43 = .ok (.istore 5, 2) := by decide +kernel
theorem d_X_put_45 : decode prog_2_method_12_code 45 = .ok (.iload 5, 2) := by decide +kernel
theorem d_X_put_47 : decode prog_2_method_12_code 47 = .ok (.iconst (-1), 1) := by decide +kernel
theorem d_X_put_48 : decode prog_2_method_12_code 48 = .ok (.if_icmp .ne 6, 3) := by decide +kernel
theorem d_X_put_51 : decode prog_2_method_12_code 51 = .ok (.bipush 7, 2) := by decide +kernel
theorem d_X_put_53 : decode prog_2_method_12_code 53 = .ok (.ireturn, 1) := by decide +kernel
theorem d_X_put_54 : decode prog_2_method_12_code 54 = .ok (.bipush 8, 2) := by decide +kernel
theorem d_X_put_56 : decode prog_2_method_12_code 56 = .ok (.iload 4, 2) := by decide +kernel
theorem d_X_put_58 : decode prog_2_method_12_code 58 = .ok (.iconst 3, 1) := by decide +kernel
theorem d_X_put_59 : decode prog_2_method_12_code 59 = .ok (.iand, 1) := by decide +kernel
theorem d_X_put_60 : decode prog_2_method_12_code 60 = .ok (.imul, 1) := by decide +kernel
theorem d_X_put_61 : decode prog_2_method_12_code 61 = .ok (.istore 6, 2) := by decide +kernel
theorem d_X_put_63 : decode prog_2_method_12_code 63 = .ok (.iload_n 3, 1) := by decide +kernel
theorem d_X_put_64 : decode prog_2_method_12_code 64 = .ok (.invokestatic 106, 3) := by decide +kernel
theorem d_X_put_67 : decode prog_2_method_12_code 67 = .ok (.iload 6, 2) := by decide +kernel
theorem d_X_put_69 : decode prog_2_method_12_code 69 = .ok (.ishl, 1) := by decide +kernel
theorem d_X_put_70 : decode prog_2_method_12_code 70 = .ok (.istore 7, 2) := by decide +kernel
theorem d_X_put_72 : decode prog_2_method_12_code 72 = .ok (.aload_n 0, 1) := by decide +kernel
theorem d_X_put_73 : decode prog_2_method_12_code 73 = .ok (.getfield 21, 3) := by decide +kernel
theorem d_X_put_76 : decode prog_2_method_12_code 76 = .ok (.iload 5, 2) := by decide +kernel
theorem d_X_put_78 : decode prog_2_method_12_code 78 = .ok (.aload_n 0, 1) := by decide +kernel
theorem d_X_put_79 : decode prog_2_method_12_code 79 = .ok (.getfield 21, 3) := by decide +kernel
theorem d_X_put_82 : decode prog_2_method_12_code 82 = .ok (.iload 5, 2) := by decide +kernel
theorem d_X_put_84 : decode prog_2_method_12_code 84 = .ok (.iaload, 1) := by decide +kernel
theorem d_X_put_85 : decode prog_2_method_12_code 85 = .ok (.iload 7, 2) := by decide +kernel
theorem d_X_put_87 : decode prog_2_method_12_code 87 = .ok (.iconst (-1), 1) := by decide +kernel
theorem d_X_put_88 : decode prog_2_method_12_code 88 = .ok (.ixor, 1) := by decide +kernel
theorem d_X_put_89 : decode prog_2_method_12_code 89 = .ok (.iand, 1) := by decide +kernel
theorem d_X_put_90 : decode prog_2_method_12_code 90 = .ok (.aload_n 1, 1) := by decide +kernel
theorem d_X_put_91 : decode prog_2_method_12_code 91 = .ok (.iload_n 2, 1) := by decide +kernel
theorem d_X_put_92 : decode prog_2_method_12_code 92 = .ok (.invokestatic 81, 3) := by decide +kernel
theorem d_X_put_95 : decode prog_2_method_12_code 95 = .ok (.iload 6, 2) := by decide +kernel
theorem d_X_put_97 : decode prog_2_method_12_code 97 = .ok (.ishl, 1) := by decide +kernel
theorem d_X_put_98 : decode prog_2_method_12_code 98 = .ok (.iload 7, 2) := by decide +kernel
theorem d_X_put_100 : decode prog_2_method_12_code 100 = .ok (.iand, 1) := by decide +kernel
theorem d_X_put_101 : decode prog_2_method_12_code 101 = .ok (.ior, 1) := by decide +kernel
theorem d_X_put_102 : decode prog_2_method_12_code 102 = .ok (.iastore, 1) := by decide +kernel
theorem d_X_put_103 : decode prog_2_method_12_code 103 = .ok (.aload_n 1, 1) := by decide +kernel
theorem d_X_put_104 : decode prog_2_method_12_code 104 = .ok (.invokestatic 63, 3) := by decide +kernel
theorem d_X_put_107 : decode prog_2_method_12_code 107 = .ok (.ireturn, 1) := by decide +kernel
theorem d_X_maskOf_0 : decode prog_2_method_13_code 0 = .ok (.iload_n 0, 1) := by decide +kernel
theorem d_X_maskOf_1 : decode prog_2_method_13_code 1 = .ok (.ifCond .ne 7, 3) := by decide +kernel
theorem d_X_maskOf_4 : decode prog_2_method_13_code 4 = .ok (.sipush 255, 3) := by decide +kernel
theorem d_X_maskOf_7 : decode prog_2_method_13_code 7 = .ok (.ireturn, 1) := by decide +kernel
theorem d_X_maskOf_8 : decode prog_2_method_13_code 8 = .ok (.iload_n 0, 1) := by decide +kernel
theorem d_X_maskOf_9 : decode prog_2_method_13_code 9 = .ok (.iconst 1, 1) := by decide +kernel
theorem d_X_maskOf_10 : decode prog_2_method_13_code 10 = .ok (.if_icmp .ne 8, 3) := by decide +kernel
theorem d_X_maskOf_13 : decode prog_2_method_13_code 13 = .ok (.ldc 102, 2) := by decide +kernel
theorem d_X_maskOf_15 : decode prog_2_method_13_code 15 = .ok (.goto 4, 3) := by decide +kernel
theorem d_X_maskOf_18 : decode prog_2_method_13_code 18 = .ok (.iconst (-1), 1) := by decide +kernel
theorem d_X_maskOf_19 : decode prog_2_method_13_code 19 = .ok (.ireturn, 1) := by decide +kernel
theorem d_X_isCrooked_0 : decode prog_2_method_14_code 0 = .ok (.iload_n 0, 1) := by decide +kernel
theorem d_X_isCrooked_1 : decode prog_2_method_14_code 1 = .ok (.iconst 1, 1) := by decide +kernel
theorem d_X_isCrooked_2 : decode prog_2_method_14_code 2 = .ok (.iload_n 1, 1) := by decide +kernel
theorem d_X_isCrooked_3 : decode prog_2_method_14_code 3 = .ok (.ishl, 1) := by decide +kernel
theorem d_X_isCrooked_4 : decode prog_2_method_14_code 4 = .ok (.iconst 1, 1) := by decide +kernel
theorem d_X_isCrooked_5 : decode prog_2_method_14_code 5 = .ok (.isub, 1) := by decide +kernel
theorem d_X_isCrooked_6 : decode prog_2_method_14_code 6 = .ok (.iand, 1) := by decide +kernel
theorem d_X_isCrooked_7 : decode prog_2_method_14_code 7 = .ok (.ifCond .eq 7, 3) := by decide +kernel
theorem d_X_isCrooked_10 : decode prog_2_method_14_code 10 = .ok (.iconst 1, 1) := by decide +kernel
theorem d_X_isCrooked_11 : decode prog_2_method_14_code 11 = .ok (.goto 4, 3) := by decide +kernel
theorem d_X_isCrooked_14 : decode prog_2_method_14_code 14 = .ok (.iconst 0, 1) := by decide +kernel
theorem d_X_isCrooked_15 : decode prog_2_method_14_code 15 = .ok (.ireturn, 1) := by decide +kernel
end
section
theorem d_X_computeWithNumber_0 : decode prog_2_method_15_code 0 = .ok (.iload_n 1, 1) := by decide +kernel
theorem d_X_computeWithNumber_1 : decode prog_2_method_15_code 1 = .ok (.invokestatic 60, 3) := by decide +kernel
theorem d_X_computeWithNumber_4 : decode prog_2_method_15_code 4 = .ok (.istore_n 2, 1) := by decide +kernel
theorem d_X_computeWithNumber_5 : decode prog_2_method_15_code 5 = .ok (.aload_n 0, 1) := by decide +kernel
theorem d_X_computeWithNumber_6 : decode prog_2_method_15_code 6 = .ok (.iload_n 1, 1) := by decide +kernel
theorem d_X_computeWithNumber_7 : decode prog_2_method_15_code 7 = .ok (.invokestatic 75, 3) := by decide +kernel
theorem d_X_computeWithNumber_10 : decode prog_2_method_15_code 10 = .ok (.istore_n 3, 1) := by decide +kernel
theorem d_X_computeWithNumber_11 : decode prog_2_method_15_code 11 = .ok (.iload_n 1, 1) := by decide +kernel
theorem d_X_computeWithNumber_12 : decode prog_2_method_15_code 12 = .ok (.invokestatic 78, 3) := by decide +kernel
theorem d_X_computeWithNumber_15 : decode prog_2_method_15_code 15 = .ok (.istore 4, 2) := by decide +kernel
theorem d_X_computeWithNumber_17 : decode prog_2_method_15_code 17 = .ok (.iload_n 2, 1) := by decide +kernel
theorem d_X_computeWithNumber_18 : decode prog_2_method_15_code 18 = .ok (.iconst 5, 1) := by decide +kernel
theorem d_X_computeWithNumber_19 : decode prog_2_method_15_code 19 = .ok (.if_icmp .ne 25, 3) := by decide +kernel
theorem d_X_computeWithNumber_22 : decode prog_2_method_15_code 22 = .ok (.iload_n 1, 1) := by decide +kernel
theorem d_X_computeWithNumber_23 : decode prog_2_method_15_code 23 = .ok (.invokestatic 109, 3) := by decide +kernel
theorem d_X_computeWithNumber_26 : decode prog_2_method_15_code 26 = .ok (.bipush 32, 2) := by decide +kernel
theorem d_X_computeWithNumber_28 : decode prog_2_method_15_code 28 = .ok (.if_icmp .ne 16, 3) := by decide +kernel
theorem d_X_computeWithNumber_31 : decode prog_2_method_15_code 31 = .ok (.aload_n 0, 1) := by decide +kernel
theorem d_X_computeWithNumber_32 : decode prog_2_method_15_code 32 = .ok (.iload_n 1, 1) := by decide +kernel
theorem d_X_computeWithNumber_33 : decode prog_2_method_15_code 33 = .ok (.iload_n 3, 1) := by decide +kernel
theorem d_X_computeWithNumber_34 : decode prog_2_method_15_code 34 = .ok (.iload 4, 2) := by decide +kernel
theorem d_X_computeWithNumber_36 : decode prog_2_method_15_code 36 = .ok (.bipush 31, 2) := by decide +kernel
theorem d_X_computeWithNumber_38 : decode prog_2_method_15_code 38 = .ok (.iand, 1) := by decide +kernel
theorem d_X_computeWithNumber_39 : decode prog_2_method_15_code 39 = .ok (.ishr, 1) := by decide +kernel
theorem d_X_computeWithNumber_40 : decode prog_2_method_15_code 40 = .ok (.invokestatic 31, 3) := by decide +kernel
theorem d_X_computeWithNumber_43 : decode prog_2_method_15_code 43 = .ok (.ireturn, 1) := by decide +kernel
theorem d_X_computeWithNumber_44 : decode prog_2_method_15_code 44 = .ok (.iload_n 2, 1) := by decide +kernel
theorem d_X_computeWithNumber_45 : decode prog_2_method_15_code 45 = .ok (.iconst 1, 1) := by decide +kernel
theorem d_X_computeWithNumber_46 : decode prog_2_method_15_code 46 = .ok (.if_icmp .eq 8, 3) := by decide +kernel
theorem d_X_computeWithNumber_49 : decode prog_2_method_15_code 49 = .ok (.iload_n 2, 1) := by decide +kernel
theorem d_X_computeWithNumber_50 : decode prog_2_method_15_code 50 = .ok (.iconst 5, 1) := by decide +kernel
theorem d_X_computeWithNumber_51 : decode prog_2_method_15_code 51 = .ok (.if_icmp .ne 12, 3) := by decide +kernel
theorem d_X_computeWithNumber_54 : decode prog_2_method_15_code 54 = .ok (.iload_n 1, 1) := by decide +kernel
theorem d_X_computeWithNumber_55 : decode prog_2_method_15_code 55 = .ok (.invokestatic 109, 3) := by decide +kernel
theorem d_X_computeWithNumber_58 : decode prog_2_method_15_code 58 = .ok (.ifCond .eq 5, 3) := by decide +kernel
theorem d_X_computeWithNumber_61 : decode prog_2_method_15_code 61 = .ok (.iconst 2, 1) := by decide +kernel
theorem d_X_computeWithNumber_62 : decode prog_2_method_15_code 62 = .ok (.ireturn, 1) := by decide +kernel
theorem d_X_computeWithNumber_63 : decode prog_2_method_15_code 63 = .ok (.aload_n 0, 1) := by decide +kernel
theorem d_X_computeWithNumber_64 : decode prog_2_method_15_code 64 = .ok (.iload_n 1, 1) := by decide +kernel
theorem d_X_computeWithNumber_65 : decode prog_2_method_15_code 65 = .ok (.iload_n 2, 1) := by decide +kernel
theorem d_X_computeWithNumber_66 : decode prog_2_method_15_code 66 = .ok (.iload_n 3, 1) := by decide +kernel
theorem d_X_computeWithNumber_67 : decode prog_2_method_15_code 67 = .ok (.iload 4, 2) := by decide +kernel
theorem d_X_computeWithNumber_69 : decode prog_2_method_15_code 69 = .ok (.invokestatic 112, 3) := by decide +kernel
theorem d_X_computeWithNumber_72 : decode prog_2_method_15_code 72 = .ok (.invokestatic 31, 3) := by decide +kernel
theorem d_X_computeWithNumber_75 : decode prog_2_method_15_code 75 = .ok (.ireturn, 1) := by decide +kernel
theorem d_X_computeWithRegister_0 : decode prog_2_method_16_code 0 = .ok (.iload_n 1, 1) := by decide +kernel
theorem d_X_computeWithRegister_1 : decode prog_2_method_16_code 1 = .ok (.invokestatic 60, 3) := by decide +kernel
theorem d_X_computeWithRegister_4 : decode prog_2_method_16_code 4 = .ok (.istore_n 2, 1) := by decide +kernel
theorem d_X_computeWithRegister_5 : decode prog_2_method_16_code 5 = .ok (.aload_n 0, 1) := by decide +kernel
theorem d_X_computeWithRegister_6 : decode prog_2_method_16_code 6 = .ok (.iload_n 1, 1) := by decide +kernel
theorem d_X_computeWithRegister_7 : decode prog_2_method_16_code 7 = .ok (.invokestatic 75, 3) := by decide +kernel
theorem d_X_computeWithRegister_10 : decode prog_2_method_16_code 10 = .ok (.istore_n 3, 1) := by decide +kernel
theorem d_X_computeWithRegister_11 : decode prog_2_method_16_code 11 = .ok (.aload_n 0, 1) := by decide +kernel
theorem d_X_computeWithRegister_12 : decode prog_2_method_16_code 12 = .ok (.iload_n 1, 1) := by decide +kernel
theorem d_X_computeWithRegister_13 : decode prog_2_method_16_code 13 = .ok (.invokestatic 81, 3) := by decide +kernel
theorem d_X_computeWithRegister_16 : decode prog_2_method_16_code 16 = .ok (.istore 4, 2) := by decide +kernel
theorem d_X_computeWithRegister_18 : decode prog_2_method_16_code 18 = .ok (.iload_n 1, 1) := by decide +kernel
theorem d_X_computeWithRegister_19 : decode prog_2_method_16_code 19 = .ok (.invokestatic 109, 3) := by decide +kernel
theorem d_X_computeWithRegister_22 : decode prog_2_method_16_code 22 = .ok (.ifCond .ne 16, 3) := by decide +kernel
theorem d_X_computeWithRegister_25 : decode prog_2_method_16_code 25 = .ok (.aload_n 0, 1) := by decide +kernel
theorem d_X_computeWithRegister_26 : decode prog_2_method_16_code 26 = .ok (.iload_n 1, 1) := by decide +kernel
theorem d_X_computeWithRegister_27 : decode prog_2_method_16_code 27 = .ok (.iload_n 2, 1) := by decide +kernel
theorem d_X_computeWithRegister_28 : decode prog_2_method_16_code 28 = .ok (.iload_n 3, 1) := by decide +kernel
theorem d_X_computeWithRegister_29 : decode prog_2_method_16_code 29 = .ok (.iload 4, 2) := by decide +kernel
theorem d_X_computeWithRegister_31 : decode prog_2_method_16_code 31 = .ok (.invokestatic 112, 3) := by decide +kernel
theorem d_X_computeWithRegister_34 : decode prog_2_method_16_code 34 = .ok (.invokestatic 31, 3) := by decide +kernel
theorem d_X_computeWithRegister_37 : decode prog_2_method_16_code 37 = .ok (.ireturn, 1) := by decide +kernel
theorem d_X_computeWithRegister_38 : decode prog_2_method_16_code 38 = .ok (.iload_n 1, 1) := by decide +kernel
theorem d_X_computeWithRegister_39 : decode prog_2_method_16_code 39 = .ok (.invokestatic 109, 3) := by decide +kernel
theorem d_X_computeWithRegister_42 : decode prog_2_method_16_code 42 = .ok (.bipush 32, 2) := by decide +kernel
theorem d_X_computeWithRegister_44 : decode prog_2_method_16_code 44 = .ok (.if_icmp .ne 17, 3) := by decide +kernel
theorem d_X_computeWithRegister_47 : decode prog_2_method_16_code 47 = .ok (.iload_n 2, 1) := by decide +kernel
theorem d_X_computeWithRegister_48 : decode prog_2_method_16_code 48 = .ok (.ifCond .ne 13, 3) := by decide +kernel
theorem d_X_computeWithRegister_51 : decode prog_2_method_16_code 51 = .ok (.aload_n 0, 1) := by decide +kernel
theorem d_X_computeWithRegister_52 : decode prog_2_method_16_code 52 = .ok (.iload_n 1, 1) := by decide +kernel
theorem d_X_computeWithRegister_53 : decode prog_2_method_16_code 53 = .ok (.iload_n 3, 1) := by decide +kernel
theorem d_X_computeWithRegister_54 : decode prog_2_method_16_code 54 = .ok (.iload 4, 2) := by decide +kernel
theorem d_X_computeWithRegister_56 : decode prog_2_method_16_code 56 = .ok (.isub, 1) := by decide +kernel
theorem d_X_computeWithRegister_57 : decode prog_2_method_16_code 57 = .ok (.invokestatic 31, 3) := by decide +kernel
theorem d_X_computeWithRegister_60 : decode prog_2_method_16_code 60 = .ok (.ireturn, 1) := by decide +kernel
theorem d_X_computeWithRegister_61 : decode prog_2_method_16_code 61 = .ok (.iload_n 1, 1) := by decide +kernel
theorem d_X_computeWithRegister_62 : decode prog_2_method_16_code 62 = .ok (.invokestatic 109, 3) := by decide +kernel
theorem d_X_computeWithRegister_65 : decode prog_2_method_16_code 65 = .ok (.bipush 32, 2) := by decide +kernel
theorem d_X_computeWithRegister_67 : decode prog_2_method_16_code 67 = .ok (.if_icmp .ne 21, 3) := by decide +kernel
theorem d_X_computeWithRegister_70 : decode prog_2_method_16_code 70 = .ok (.iload_n 2, 1) := by decide +kernel
theorem d_X_computeWithRegister_71 : decode prog_2_method_16_code 71 = .ok (.iconst 5, 1) := by decide +kernel
theorem d_X_computeWithRegister_72 : decode prog_2_method_16_code 72 = .ok (.if_icmp .ne 16, 3) := by decide +kernel
theorem d_X_computeWithRegister_75 : decode prog_2_method_16_code 75 = .ok (.aload_n 0, 1) := by decide +kernel
theorem d_X_computeWithRegister_76 : decode prog_2_method_16_code 76 = .ok (.iload_n 1, 1) := by decide +kernel
theorem d_X_computeWithRegister_77 : decode prog_2_method_16_code 77 = .ok (.iload_n 3, 1) := by decide +kernel
theorem d_X_computeWithRegister_78 : decode prog_2_method_16_code 78 = .ok (.iload 4, 2) := by decide +kernel
theorem d_X_computeWithRegister_80 : decode prog_2_method_16_code 80 = .ok (.bipush 31, 2) := by decide +kernel
theorem d_X_computeWithRegister_82 : decode prog_2_method_16_code 82 = .ok (.iand, 1) := by decide +kernel
theorem d_X_computeWithRegister_83 : decode prog_2_method_16_code 83 = .ok (.ishr, 1) := by decide +kernel
theorem d_X_computeWithRegister_84 : decode prog_2_method_16_code 84 = .ok (.invokestatic 31, 3) := by decide +kernel
theorem d_X_computeWithRegister_87 : decode prog_2_method_16_code 87 = .ok (.ireturn, 1) := by decide +kernel
theorem d_X_computeWithRegister_88 : decode prog_2_method_16_code 88 = .ok (.iconst 2, 1) := by decide +kernel
theorem d_X_computeWithRegister_89 : decode prog_2_method_16_code 89 = .ok (.ireturn, 1) := by decide +kernel
theorem d_X_compute_0 : decode prog_2_method_17_code 0 = .ok (.iload_n 0, 1) := by decide +kernel
theorem d_X_compute_1 : decode prog_2_method_17_code 1 = .ok (.tableswitch 94 0 6 #[43, 47, 54, 65, 79, 83, 90], 43) := by decide +kernel
theorem d_X_compute_44 : decode prog_2_method_17_code 44 = .ok (.iload_n 1, 1) := by decide +kernel
theorem d_X_compute_45 : decode prog_2_method_17_code 45 = .ok (.iload_n 2, 1) := by decide +kernel
theorem d_X_compute_46 : decode prog_2_method_17_code 46 = .ok (.iadd, 1) := by decide +kernel
theorem d_X_compute_47 : decode prog_2_method_17_code 47 = .ok (.ireturn, 1) := by decide +kernel
theorem d_X_compute_48 : decode prog_2_method_17_code 48 = .ok (.iload_n 1, 1) := by decide +kernel
theorem d_X_compute_49 : decode prog_2_method_17_code 49 = .ok (.iload_n 2, 1) := by decide +kernel
theorem d_X_compute_50 : decode prog_2_method_17_code 50 = .ok (.bipush 31, 2) := by decide +kernel
theorem d_X_compute_52 : decode prog_2_method_17_code 52 = .ok (.iand, 1) := by decide +kernel
theorem d_X_compute_53 : decode prog_2_method_17_code 53 = .ok (.ishl, 1) := by decide +kernel
theorem d_X_compute_54 : decode prog_2_method_17_code 54 = .ok (.ireturn, 1) := by decide +kernel
theorem d_X_compute_55 : decode prog_2_method_17_code 55 = .ok (.iload_n 1, 1) := by decide +kernel
theorem d_X_compute_56 : decode prog_2_method_17_code 56 = .ok (.iload_n 2, 1) := by decide +kernel
theorem d_X_compute_57 : decode prog_2_method_17_code 57 = .ok (.if_icmp .ge 7, 3) := by decide +kernel
theorem d_X_compute_60 : decode prog_2_method_17_code 60 = .ok (.iconst 1, 1) := by decide +kernel
theorem d_X_compute_61 : decode prog_2_method_17_code 61 = .ok (.goto 4, 3) := by decide +kernel
theorem d_X_compute_64 : decode prog_2_method_17_code 64 = .ok (.iconst 0, 1) := by decide +kernel
theorem d_X_compute_65 : decode prog_2_method_17_code 65 = .ok (.ireturn, 1) := by decide +kernel
theorem d_X_compute_66 : decode prog_2_method_17_code 66 = .ok (.iload_n 1, 1) := by decide +kernel
theorem d_X_compute_67 : decode prog_2_method_17_code 67 = .ok (.iload_n 2, 1) := by decide +kernel
theorem d_X_compute_68 : decode prog_2_method_17_code 68 = .ok (.invokestatic 91, 3) := by decide +kernel
theorem d_X_compute_71 : decode prog_2_method_17_code 71 = .ok (.ifCond .eq 7, 3) := by decide +kernel
theorem d_X_compute_74 : decode prog_2_method_17_code 74 = .ok (.iconst 1, 1) := by decide +kernel
theorem d_X_compute_75 : decode prog_2_method_17_code 75 = .ok (.goto 4, 3) := by decide +kernel
theorem d_X_compute_78 : decode prog_2_method_17_code 78 = .ok (.iconst 0, 1) := by decide +kernel
theorem d_X_compute_79 : decode prog_2_method_17_code 79 = .ok (.ireturn, 1) := by decide +kernel
theorem d_X_compute_80 : decode prog_2_method_17_code 80 = .ok (.iload_n 1, 1) := by decide +kernel
theorem d_X_compute_81 : decode prog_2_method_17_code 81 = .ok (.iload_n 2, 1) := by decide +kernel
theorem d_X_compute_82 : decode prog_2_method_17_code 82 = .ok (.ixor, 1) := by decide +kernel
theorem d_X_compute_83 : decode prog_2_method_17_code 83 = .ok (.ireturn, 1) := by decide +kernel
theorem d_X_compute_84 : decode prog_2_method_17_code 84 = .ok (.iload_n 1, 1) := by decide +kernel
theorem d_X_compute_85 : decode prog_2_method_17_code 85 = .ok (.iload_n 2, 1) := by decide +kernel
theorem d_X_compute_86 : decode prog_2_method_17_code 86 = .ok (.bipush 31, 2) := by decide +kernel
theorem d_X_compute_88 : decode prog_2_method_17_code 88 = .ok (.iand, 1) := by decide +kernel
theorem d_X_compute_89 : decode prog_2_method_17_code 89 = .ok (.iushr, 1) := by decide +kernel
theorem d_X_compute_90 : decode prog_2_method_17_code 90 = .ok (.ireturn, 1) := by decide +kernel
theorem d_X_compute_91 : decode prog_2_method_17_code 91 = .ok (.iload_n 1, 1) := by decide +kernel
theorem d_X_compute_92 : decode prog_2_method_17_code 92 = .ok (.iload_n 2, 1) := by decide +kernel
theorem d_X_compute_93 : decode prog_2_method_17_code 93 = .ok (.ior, 1) := by decide +kernel
theorem d_X_compute_94 : decode prog_2_method_17_code 94 = .ok (.ireturn, 1) := by decide +kernel
theorem d_X_compute_95 : decode prog_2_method_17_code 95 = .ok (.iload_n 1, 1) := by decide +kernel
theorem d_X_compute_96 : decode prog_2_method_17_code 96 = .ok (.iload_n 2, 1) := by decide +kernel
theorem d_X_compute_97 : decode prog_2_method_17_code 97 = .ok (.iand, 1) := by decide +kernel
theorem d_X_compute_98 : decode prog_2_method_17_code 98 = .ok (.ireturn, 1) := by decide +kernel
theorem d_X_isBelow_0 : decode prog_2_method_18_code 0 = .ok (.iload_n 0, 1) := by decide +kernel
theorem d_X_isBelow_1 : decode prog_2_method_18_code 1 = .ok (.ldc 116, 2) := by decide +kernel
theorem d_X_isBelow_3 : decode prog_2_method_18_code 3 = .ok (.ixor, 1) := by decide +kernel
theorem d_X_isBelow_4 : decode prog_2_method_18_code 4 = .ok (.iload_n 1, 1) := by decide +kernel
theorem d_X_isBelow_5 : decode prog_2_method_18_code 5 = .ok (.ldc 116, 2) := by decide +kernel
theorem d_X_isBelow_7 : decode prog_2_method_18_code 7 = .ok (.ixor, 1) := by decide +kernel
theorem d_X_isBelow_8 : decode prog_2_method_18_code 8 = .ok (.if_icmp .ge 7, 3) := by decide +kernel
theorem d_X_isBelow_11 : decode prog_2_method_18_code 11 = .ok (.iconst 1, 1) := by decide +kernel
theorem d_X_isBelow_12 : decode prog_2_method_18_code 12 = .ok (.goto 4, 3) := by decide +kernel
theorem d_X_isBelow_15 : decode prog_2_method_18_code 15 = .ok (.iconst 0, 1) := by decide +kernel
theorem d_X_isBelow_16 : decode prog_2_method_18_code 16 = .ok (.ireturn, 1) := by decide +kernel
theorem d_X_first_0 : decode prog_2_method_19_code 0 = .ok (.aload_n 0, 1) := by decide +kernel
theorem d_X_first_1 : decode prog_2_method_19_code 1 = .ok (.iload_n 1, 1) := by decide +kernel
theorem d_X_first_2 : decode prog_2_method_19_code 2 = .ok (.bipush 15, 2) := by decide +kernel
theorem d_X_first_4 : decode prog_2_method_19_code 4 = .ok (.iushr, 1) := by decide +kernel
theorem d_X_first_5 : decode prog_2_method_19_code 5 = .ok (.bipush 31, 2) := by decide +kernel
theorem d_X_first_7 : decode prog_2_method_19_code 7 = .ok (.iand, 1) := by decide +kernel
theorem d_X_first_8 : decode prog_2_method_19_code 8 = .ok (.invokevirtual 117, 3) := by decide +kernel
theorem d_X_first_11 : decode prog_2_method_19_code 11 = .ok (.ireturn, 1) := by decide +kernel
theorem d_X_second_0 : decode prog_2_method_20_code 0 = .ok (.aload_n 0, 1) := by decide +kernel
theorem d_X_second_1 : decode prog_2_method_20_code 1 = .ok (.iload_n 1, 1) := by decide +kernel
theorem d_X_second_2 : decode prog_2_method_20_code 2 = .ok (.bipush 20, 2) := by decide +kernel
theorem d_X_second_4 : decode prog_2_method_20_code 4 = .ok (.iushr, 1) := by decide +kernel
theorem d_X_second_5 : decode prog_2_method_20_code 5 = .ok (.bipush 31, 2) := by decide +kernel
theorem d_X_second_7 : decode prog_2_method_20_code 7 = .ok (.iand, 1) := by decide +kernel
theorem d_X_second_8 : decode prog_2_method_20_code 8 = .ok (.invokevirtual 117, 3) := by decide +kernel
theorem d_X_second_11 : decode prog_2_method_20_code 11 = .ok (.ireturn, 1) := by decide +kernel
theorem d_X_selector_0 : decode prog_2_method_21_code 0 = .ok (.iload_n 0, 1) := by decide +kernel
theorem d_X_selector_1 : decode prog_2_method_21_code 1 = .ok (.bipush 12, 2) := by decide +kernel
theorem d_X_selector_3 : decode prog_2_method_21_code 3 = .ok (.iushr, 1) := by decide +kernel
theorem d_X_selector_4 : decode prog_2_method_21_code 4 = .ok (.bipush 7, 2) := by decide +kernel
theorem d_X_selector_6 : decode prog_2_method_21_code 6 = .ok (.iand, 1) := by decide +kernel
theorem d_X_selector_7 : decode prog_2_method_21_code 7 = .ok (.ireturn, 1) := by decide +kernel
theorem d_X_variant_0 : decode prog_2_method_22_code 0 = .ok (.iload_n 0, 1) := by decide +kernel
theorem d_X_variant_1 : decode prog_2_method_22_code 1 = .ok (.bipush 25, 2) := by decide +kernel
theorem d_X_variant_3 : decode prog_2_method_22_code 3 = .ok (.iushr, 1) := by decide +kernel
theorem d_X_variant_4 : decode prog_2_method_22_code 4 = .ok (.ireturn, 1) := by decide +kernel
theorem d_X_shortNumber_0 : decode prog_2_method_23_code 0 = .ok (.iload_n 0, 1) := by decide +kernel
theorem d_X_shortNumber_1 : decode prog_2_method_23_code 1 = .ok (.bipush 20, 2) := by decide +kernel
theorem d_X_shortNumber_3 : decode prog_2_method_23_code 3 = .ok (.ishr, 1) := by decide +kernel
theorem d_X_shortNumber_4 : decode prog_2_method_23_code 4 = .ok (.ireturn, 1) := by decide +kernel
theorem d_X_putNumber_0 : decode prog_2_method_24_code 0 = .ok (.iload_n 0, 1) := by decide +kernel
theorem d_X_putNumber_1 : decode prog_2_method_24_code 1 = .ok (.bipush 25, 2) := by decide +kernel
theorem d_X_putNumber_3 : decode prog_2_method_24_code 3 = .ok (.ishr, 1) := by decide +kernel
theorem d_X_putNumber_4 : decode prog_2_method_24_code 4 = .ok (.iconst 5, 1) := by decide +kernel
theorem d_X_putNumber_5 : decode prog_2_method_24_code 5 = .ok (.ishl, 1) := by decide +kernel
theorem d_X_putNumber_6 : decode prog_2_method_24_code 6 = .ok (.iload_n 0, 1) := by decide +kernel
theorem d_X_putNumber_7 : decode prog_2_method_24_code 7 = .ok (.bipush 7, 2) := by decide +kernel
theorem d_X_putNumber_9 : decode prog_2_method_24_code 9 = .ok (.iushr, 1) := by decide +kernel
theorem d_X_putNumber_10 : decode prog_2_method_24_code 10 = .ok (.bipush 31, 2) := by decide +kernel
theorem d_X_putNumber_12 : decode prog_2_method_24_code 12 = .ok (.iand, 1) := by decide +kernel
theorem d_X_putNumber_13 : decode prog_2_method_24_code 13 = .ok (.ior, 1) := by decide +kernel
theorem d_X_putNumber_14 : decode prog_2_method_24_code 14 = .ok (.ireturn, 1) := by decide +kernel
theorem d_X_branchNumber_0 : decode prog_2_method_25_code 0 = .ok (.iload_n 0, 1) := by decide +kernel
theorem d_X_branchNumber_1 : decode prog_2_method_25_code 1 = .ok (.bipush 31, 2) := by decide +kernel
theorem d_X_branchNumber_3 : decode prog_2_method_25_code 3 = .ok (.ishr, 1) := by decide +kernel
theorem d_X_branchNumber_4 : decode prog_2_method_25_code 4 = .ok (.bipush 12, 2) := by decide +kernel
theorem d_X_branchNumber_6 : decode prog_2_method_25_code 6 = .ok (.ishl, 1) := by decide +kernel
theorem d_X_branchNumber_7 : decode prog_2_method_25_code 7 = .ok (.iload_n 0, 1) := by decide +kernel
theorem d_X_branchNumber_8 : decode prog_2_method_25_code 8 = .ok (.bipush 7, 2) := by decide +kernel
theorem d_X_branchNumber_10 : decode prog_2_method_25_code 10 = .ok (.iushr, 1) := by decide +kernel
theorem d_X_branchNumber_11 : decode prog_2_method_25_code 11 = .ok (.iconst 1, 1) := by decide +kernel
theorem d_X_branchNumber_12 : decode prog_2_method_25_code 12 = .ok (.iand, 1) := by decide +kernel
theorem d_X_branchNumber_13 : decode prog_2_method_25_code 13 = .ok (.bipush 11, 2) := by decide +kernel
theorem d_X_branchNumber_15 : decode prog_2_method_25_code 15 = .ok (.ishl, 1) := by decide +kernel
theorem d_X_branchNumber_16 : decode prog_2_method_25_code 16 = .ok (.ior, 1) := by decide +kernel
theorem d_X_branchNumber_17 : decode prog_2_method_25_code 17 = .ok (.istore_n 1, 1) := by decide +kernel
theorem d_X_branchNumber_18 : decode prog_2_method_25_code 18 = .ok (.iload_n 1, 1) := by decide +kernel
theorem d_X_branchNumber_19 : decode prog_2_method_25_code 19 = .ok (.iload_n 0, 1) := by decide +kernel
theorem d_X_branchNumber_20 : decode prog_2_method_25_code 20 = .ok (.bipush 25, 2) := by decide +kernel
theorem d_X_branchNumber_22 : decode prog_2_method_25_code 22 = .ok (.iushr, 1) := by decide +kernel
theorem d_X_branchNumber_23 : decode prog_2_method_25_code 23 = .ok (.bipush 63, 2) := by decide +kernel
theorem d_X_branchNumber_25 : decode prog_2_method_25_code 25 = .ok (.iand, 1) := by decide +kernel
theorem d_X_branchNumber_26 : decode prog_2_method_25_code 26 = .ok (.iconst 5, 1) := by decide +kernel
theorem d_X_branchNumber_27 : decode prog_2_method_25_code 27 = .ok (.ishl, 1) := by decide +kernel
theorem d_X_branchNumber_28 : decode prog_2_method_25_code 28 = .ok (.ior, 1) := by decide +kernel
theorem d_X_branchNumber_29 : decode prog_2_method_25_code 29 = .ok (.iload_n 0, 1) := by decide +kernel
theorem d_X_branchNumber_30 : decode prog_2_method_25_code 30 = .ok (.bipush 8, 2) := by decide +kernel
theorem d_X_branchNumber_32 : decode prog_2_method_25_code 32 = .ok (.iushr, 1) := by decide +kernel
theorem d_X_branchNumber_33 : decode prog_2_method_25_code 33 = .ok (.bipush 15, 2) := by decide +kernel
theorem d_X_branchNumber_35 : decode prog_2_method_25_code 35 = .ok (.iand, 1) := by decide +kernel
theorem d_X_branchNumber_36 : decode prog_2_method_25_code 36 = .ok (.iconst 1, 1) := by decide +kernel
theorem d_X_branchNumber_37 : decode prog_2_method_25_code 37 = .ok (.ishl, 1) := by decide +kernel
theorem d_X_branchNumber_38 : decode prog_2_method_25_code 38 = .ok (.ior, 1) := by decide +kernel
theorem d_X_branchNumber_39 : decode prog_2_method_25_code 39 = .ok (.ireturn, 1) := by decide +kernel
theorem d_X_jumpNumber_0 : decode prog_2_method_26_code 0 = .ok (.iload_n 0, 1) := by decide +kernel
theorem d_X_jumpNumber_1 : decode prog_2_method_26_code 1 = .ok (.bipush 31, 2) := by decide +kernel
theorem d_X_jumpNumber_3 : decode prog_2_method_26_code 3 = .ok (.ishr, 1) := by decide +kernel
theorem d_X_jumpNumber_4 : decode prog_2_method_26_code 4 = .ok (.bipush 20, 2) := by decide +kernel
theorem d_X_jumpNumber_6 : decode prog_2_method_26_code 6 = .ok (.ishl, 1) := by decide +kernel
theorem d_X_jumpNumber_7 : decode prog_2_method_26_code 7 = .ok (.iload_n 0, 1) := by decide +kernel
theorem d_X_jumpNumber_8 : decode prog_2_method_26_code 8 = .ok (.ldc 120, 2) := by decide +kernel
theorem d_X_jumpNumber_10 : decode prog_2_method_26_code 10 = .ok (.iand, 1) := by decide +kernel
theorem d_X_jumpNumber_11 : decode prog_2_method_26_code 11 = .ok (.ior, 1) := by decide +kernel
theorem d_X_jumpNumber_12 : decode prog_2_method_26_code 12 = .ok (.istore_n 1, 1) := by decide +kernel
theorem d_X_jumpNumber_13 : decode prog_2_method_26_code 13 = .ok (.iload_n 1, 1) := by decide +kernel
theorem d_X_jumpNumber_14 : decode prog_2_method_26_code 14 = .ok (.iload_n 0, 1) := by decide +kernel
theorem d_X_jumpNumber_15 : decode prog_2_method_26_code 15 = .ok (.bipush 20, 2) := by decide +kernel
theorem d_X_jumpNumber_17 : decode prog_2_method_26_code 17 = .ok (.iushr, 1) := by decide +kernel
theorem d_X_jumpNumber_18 : decode prog_2_method_26_code 18 = .ok (.iconst 1, 1) := by decide +kernel
theorem d_X_jumpNumber_19 : decode prog_2_method_26_code 19 = .ok (.iand, 1) := by decide +kernel
theorem d_X_jumpNumber_20 : decode prog_2_method_26_code 20 = .ok (.bipush 11, 2) := by decide +kernel
theorem d_X_jumpNumber_22 : decode prog_2_method_26_code 22 = .ok (.ishl, 1) := by decide +kernel
theorem d_X_jumpNumber_23 : decode prog_2_method_26_code 23 = .ok (.ior, 1) := by decide +kernel
theorem d_X_jumpNumber_24 : decode prog_2_method_26_code 24 = .ok (.iload_n 0, 1) := by decide +kernel
theorem d_X_jumpNumber_25 : decode prog_2_method_26_code 25 = .ok (.bipush 21, 2) := by decide +kernel
theorem d_X_jumpNumber_27 : decode prog_2_method_26_code 27 = .ok (.iushr, 1) := by decide +kernel
theorem d_X_jumpNumber_28 : decode prog_2_method_26_code 28 = .ok (.sipush 1023, 3) := by decide +kernel
theorem d_X_jumpNumber_31 : decode prog_2_method_26_code 31 = .ok (.iand, 1) := by decide +kernel
theorem d_X_jumpNumber_32 : decode prog_2_method_26_code 32 = .ok (.iconst 1, 1) := by decide +kernel
theorem d_X_jumpNumber_33 : decode prog_2_method_26_code 33 = .ok (.ishl, 1) := by decide +kernel
theorem d_X_jumpNumber_34 : decode prog_2_method_26_code 34 = .ok (.ior, 1) := by decide +kernel
theorem d_X_jumpNumber_35 : decode prog_2_method_26_code 35 = .ok (.ireturn, 1) := by decide +kernel
theorem d_X_upperNumber_0 : decode prog_2_method_27_code 0 = .ok (.iload_n 0, 1) := by decide +kernel
theorem d_X_upperNumber_1 : decode prog_2_method_27_code 1 = .ok (.sipush (-4096), 3) := by decide +kernel
theorem d_X_upperNumber_4 : decode prog_2_method_27_code 4 = .ok (.iand, 1) := by decide +kernel
theorem d_X_upperNumber_5 : decode prog_2_method_27_code 5 = .ok (.ireturn, 1) := by decide +kernel
theorem d_MEM_init_0 : decode prog_3_method_1_code 0 = .ok (.aload_n 0, 1) := by decide +kernel
theorem d_MEM_init_1 : decode prog_3_method_1_code 1 = .ok (.invokespecial 3, 3) := by decide +kernel
theorem d_MEM_init_4 : decode prog_3_method_1_code 4 = .ok (.aload_n 0, 1) := by decide +kernel
theorem d_MEM_init_5 : decode prog_3_method_1_code 5 = .ok (.iload_n 1, 1) := by decide +kernel
theorem d_MEM_init_6 : decode prog_3_method_1_code 6 = .ok (.bipush 16, 2) := by decide +kernel
theorem d_MEM_init_8 : decode prog_3_method_1_code 8 = .ok (.imul, 1) := by decide +kernel
theorem d_MEM_init_9 : decode prog_3_method_1_code 9 = .ok (.newarray .int, 2) := by decide +kernel
theorem d_MEM_init_11 : decode prog_3_method_1_code 11 = .ok (.putfield 9, 3) := by decide +kernel
theorem d_MEM_init_14 : decode prog_3_method_1_code 14 = .ok (.aload_n 0, 1) := by decide +kernel
theorem d_MEM_init_15 : decode prog_3_method_1_code 15 = .ok (.iload_n 1, 1) := by decide +kernel
theorem d_MEM_init_16 : decode prog_3_method_1_code 16 = .ok (.newarray .boolean, 2) := by decide +kernel
theorem d_MEM_init_18 : decode prog_3_method_1_code 18 = .ok (.putfield 15, 3) := by decide +kernel
theorem d_MEM_init_21 : decode prog_3_method_1_code 21 = .ok (.aload_n 0, 1) := by decide +kernel
theorem d_MEM_init_22 : decode prog_3_method_1_code 22 = .ok (.iload_n 1, 1) := by decide +kernel
theorem d_MEM_init_23 : decode prog_3_method_1_code 23 = .ok (.putfield 19, 3) := by decide +kernel
theorem d_MEM_init_26 : decode prog_3_method_1_code 26 = .ok (.return_, 1) := by decide +kernel
theorem d_MEM_give_0 : decode prog_3_method_2_code 0 = .ok (.iconst 0, 1) := by decide +kernel
theorem d_MEM_give_1 : decode prog_3_method_2_code 1 = .ok (.istore_n 3, 1) := by decide +kernel
theorem d_MEM_give_2 : decode prog_3_method_2_code 2 = .ok (.iconst 0, 1) := by decide +kernel
theorem d_MEM_give_3 : decode prog_3_method_2_code 3 = .ok (.istore 4, 2) := by decide +kernel
theorem d_MEM_give_5 : decode prog_3_method_2_code 5 = .ok (.iload 4, 2) := by decide +kernel
theorem d_MEM_give_7 : decode prog_3_method_2_code 7 = .ok (.aload_n 0, 1) := by decide +kernel
theorem d_MEM_give_8 : decode prog_3_method_2_code 8 = .ok (.getfield 15, 3) := by decide +kernel
theorem d_MEM_give_11 : decode prog_3_method_2_code 11 = .ok (.arraylength, 1) := by decide +kernel
theorem d_MEM_give_12 : decode prog_3_method_2_code 12 = .ok (.if_icmp .ge 81, 3) := by decide +kernel
theorem d_MEM_give_15 : decode prog_3_method_2_code 15 = .ok (.iload_n 3, 1) := by decide +kernel
theorem d_MEM_give_16 : decode prog_3_method_2_code 16 = .ok (.iload_n 2, 1) := by decide +kernel
theorem d_MEM_give_17 : decode prog_3_method_2_code 17 = .ok (.if_icmp .ge 76, 3) := by decide +kernel
theorem d_MEM_give_20 : decode prog_3_method_2_code 20 = .ok (.aload_n 1, 1) := by decide +kernel
theorem d_MEM_give_21 : decode prog_3_method_2_code 21 = .ok (.getfield 23, 3) := by decide +kernel
theorem d_MEM_give_24 : decode prog_3_method_2_code 24 = .ok (.bipush 8, 2) := by decide +kernel
theorem d_MEM_give_26 : decode prog_3_method_2_code 26 = .ok (.if_icmp .ge 67, 3) := by decide +kernel
theorem d_MEM_give_29 : decode prog_3_method_2_code 29 = .ok (.aload_n 0, 1) := by decide +kernel
theorem d_MEM_give_30 : decode prog_3_method_2_code 30 = .ok (.getfield 15, 3) := by decide +kernel
theorem d_MEM_give_33 : decode prog_3_method_2_code 33 = .ok (.iload 4, 2) := by decide +kernel
theorem d_MEM_give_35 : decode prog_3_method_2_code 35 = .ok (.baload, 1) := by decide +kernel
theorem d_MEM_give_36 : decode prog_3_method_2_code 36 = .ok (.ifCond .ne 51, 3) := by decide +kernel
theorem d_MEM_give_39 : decode prog_3_method_2_code 39 = .ok (.aload_n 0, 1) := by decide +kernel
theorem d_MEM_give_40 : decode prog_3_method_2_code 40 = .ok (.getfield 15, 3) := by decide +kernel
theorem d_MEM_give_43 : decode prog_3_method_2_code 43 = .ok (.iload 4, 2) := by decide +kernel
theorem d_MEM_give_45 : decode prog_3_method_2_code 45 = .ok (.iconst 1, 1) := by decide +kernel
theorem d_MEM_give_46 : decode prog_3_method_2_code 46 = .ok (.bastore, 1) := by decide +kernel
theorem d_MEM_give_47 : decode prog_3_method_2_code 47 = .ok (.aload_n 0, 1) := by decide +kernel
theorem d_MEM_give_48 : decode prog_3_method_2_code 48 = .ok (.dup, 1) := by decide +kernel
theorem d_MEM_give_49 : decode prog_3_method_2_code 49 = .ok (.getfield 19, 3) := by decide +kernel
theorem d_MEM_give_52 : decode prog_3_method_2_code 52 = .ok (.iconst 1, 1) := by decide +kernel
theorem d_MEM_give_53 : decode prog_3_method_2_code 53 = .ok (.isub, 1) := by decide +kernel
theorem d_MEM_give_54 : decode prog_3_method_2_code 54 = .ok (.putfield 19, 3) := by decide +kernel
theorem d_MEM_give_57 : decode prog_3_method_2_code 57 = .ok (.aload_n 0, 1) := by decide +kernel
theorem d_MEM_give_58 : decode prog_3_method_2_code 58 = .ok (.iload 4, 2) := by decide +kernel
theorem d_MEM_give_60 : decode prog_3_method_2_code 60 = .ok (.invokevirtual 28, 3) := by decide +kernel
theorem d_MEM_give_63 : decode prog_3_method_2_code 63 = .ok (.aload_n 1, 1) := by decide +kernel
theorem d_MEM_give_64 : decode prog_3_method_2_code 64 = .ok (.getfield 32, 3) := by decide +kernel
theorem d_MEM_give_67 : decode prog_3_method_2_code 67 = .ok (.aload_n 1, 1) := by decide +kernel
theorem d_MEM_give_68 : decode prog_3_method_2_code 68 = .ok (.getfield 23, 3) := by decide +kernel
theorem d_MEM_give_71 : decode prog_3_method_2_code 71 = .ok (.iload 4, 2) := by decide +kernel
theorem d_MEM_give_73 : decode prog_3_method_2_code 73 = .ok (.iastore, 1) := by decide +kernel
theorem d_MEM_give_74 : decode prog_3_method_2_code 74 = .ok (.aload_n 1, 1) := by decide +kernel
theorem d_MEM_give_75 : decode prog_3_method_2_code 75 = .ok (.dup, 1) := by decide +kernel
theorem d_MEM_give_76 : decode prog_3_method_2_code 76 = .ok (.getfield 23, 3) := by decide +kernel
theorem d_MEM_give_79 : decode prog_3_method_2_code 79 = .ok (.iconst 1, 1) := by decide +kernel
theorem d_MEM_give_80 : decode prog_3_method_2_code 80 = .ok (.iadd, 1) := by decide +kernel
theorem d_MEM_give_81 : decode prog_3_method_2_code 81 = .ok (.putfield 23, 3) := by decide +kernel
theorem d_MEM_give_84 : decode prog_3_method_2_code 84 = .ok (.iinc 3 1, 3) := by decide +kernel
theorem d_MEM_give_87 : decode prog_3_method_2_code 87 = .ok (.iinc 4 1, 3) := by decide +kernel
theorem d_MEM_give_90 : decode prog_3_method_2_code 90 = .ok (.goto (-85), 3) := by decide +kernel
theorem d_MEM_give_93 : decode prog_3_method_2_code 93 = .ok (.return_, 1) := by decide +kernel
theorem d_MEM_takeBack_0 : decode prog_3_method_3_code 0 = .ok (.iconst 0, 1) := by decide +kernel
theorem d_MEM_takeBack_1 : decode prog_3_method_3_code 1 = .ok (.istore_n 2, 1) := by decide +kernel
theorem d_MEM_takeBack_2 : decode prog_3_method_3_code 2 = .ok (.iload_n 2, 1) := by decide +kernel
theorem d_MEM_takeBack_3 : decode prog_3_method_3_code 3 = .ok (.aload_n 1, 1) := by decide +kernel
theorem d_MEM_takeBack_4 : decode prog_3_method_3_code 4 = .ok (.getfield 23, 3) := by decide +kernel
theorem d_MEM_takeBack_7 : decode prog_3_method_3_code 7 = .ok (.if_icmp .ge 31, 3) := by decide +kernel
theorem d_MEM_takeBack_10 : decode prog_3_method_3_code 10 = .ok (.aload_n 0, 1) := by decide +kernel
theorem d_MEM_takeBack_11 : decode prog_3_method_3_code 11 = .ok (.getfield 15, 3) := by decide +kernel
theorem d_MEM_takeBack_14 : decode prog_3_method_3_code 14 = .ok (.aload_n 1, 1) := by decide +kernel
theorem d_MEM_takeBack_15 : decode prog_3_method_3_code 15 = .ok (.getfield 32, 3) := by decide +kernel
theorem d_MEM_takeBack_18 : decode prog_3_method_3_code 18 = .ok (.iload_n 2, 1) := by decide +kernel
theorem d_MEM_takeBack_19 : decode prog_3_method_3_code 19 = .ok (.iaload, 1) := by decide +kernel
theorem d_MEM_takeBack_20 : decode prog_3_method_3_code 20 = .ok (.iconst 0, 1) := by decide +kernel
theorem d_MEM_takeBack_21 : decode prog_3_method_3_code 21 = .ok (.bastore, 1) := by decide +kernel
theorem d_MEM_takeBack_22 : decode prog_3_method_3_code 22 = .ok (.aload_n 0, 1) := by decide +kernel
theorem d_MEM_takeBack_23 : decode prog_3_method_3_code 23 = .ok (.dup, 1) := by decide +kernel
theorem d_MEM_takeBack_24 : decode prog_3_method_3_code 24 = .ok (.getfield 19, 3) := by decide +kernel
theorem d_MEM_takeBack_27 : decode prog_3_method_3_code 27 = .ok (.iconst 1, 1) := by decide +kernel
theorem d_MEM_takeBack_28 : decode prog_3_method_3_code 28 = .ok (.iadd, 1) := by decide +kernel
theorem d_MEM_takeBack_29 : decode prog_3_method_3_code 29 = .ok (.putfield 19, 3) := by decide +kernel
theorem d_MEM_takeBack_32 : decode prog_3_method_3_code 32 = .ok (.iinc 2 1, 3) := by decide +kernel
theorem d_MEM_takeBack_35 : decode prog_3_method_3_code 35 = .ok (.goto (-33), 3) := by decide +kernel
theorem d_MEM_takeBack_38 : decode prog_3_method_3_code 38 = .ok (.aload_n 1, 1) := by decide +kernel
theorem d_MEM_takeBack_39 : decode prog_3_method_3_code 39 = .ok (.iconst 0, 1) := by decide +kernel
theorem d_MEM_takeBack_40 : decode prog_3_method_3_code 40 = .ok (.putfield 23, 3) := by decide +kernel
theorem d_MEM_takeBack_43 : decode prog_3_method_3_code 43 = .ok (.return_, 1) := by decide +kernel
theorem d_MEM_copyPages_0 : decode prog_3_method_4_code 0 = .ok (.iconst 0, 1) := by decide +kernel
theorem d_MEM_copyPages_1 : decode prog_3_method_4_code 1 = .ok (.istore_n 3, 1) := by decide +kernel
theorem d_MEM_copyPages_2 : decode prog_3_method_4_code 2 = .ok (.iload_n 3, 1) := by decide +kernel
theorem d_MEM_copyPages_3 : decode prog_3_method_4_code 3 = .ok (.aload_n 1, 1) := by decide +kernel
theorem d_MEM_copyPages_4 : decode prog_3_method_4_code 4 = .ok (.getfield 23, 3) := by decide +kernel
theorem d_MEM_copyPages_7 : decode prog_3_method_4_code 7 = .ok (.if_icmp .ge 56, 3) := by decide +kernel
theorem d_MEM_copyPages_10 : decode prog_3_method_4_code 10 = .ok (.iload_n 3, 1) := by decide +kernel
theorem d_MEM_copyPages_11 : decode prog_3_method_4_code 11 = .ok (.aload_n 2, 1) := by decide +kernel
theorem d_MEM_copyPages_12 : decode prog_3_method_4_code 12 = .ok (.getfield 23, 3) := by decide +kernel
theorem d_MEM_copyPages_15 : decode prog_3_method_4_code 15 = .ok (.if_icmp .ge 48, 3) := by decide +kernel
theorem d_MEM_copyPages_18 : decode prog_3_method_4_code 18 = .ok (.aload_n 1, 1) := by decide +kernel
theorem d_MEM_copyPages_19 : decode prog_3_method_4_code 19 = .ok (.getfield 32, 3) := by decide +kernel
theorem d_MEM_copyPages_22 : decode prog_3_method_4_code 22 = .ok (.iload_n 3, 1) := by decide +kernel
theorem d_MEM_copyPages_23 : decode prog_3_method_4_code 23 = .ok (.iaload, 1) := by decide +kernel
theorem d_MEM_copyPages_24 : decode prog_3_method_4_code 24 = .ok (.bipush 16, 2) := by decide +kernel
theorem d_MEM_copyPages_26 : decode prog_3_method_4_code 26 = .ok (.imul, 1) := by decide +kernel
theorem d_MEM_copyPages_27 : decode prog_3_method_4_code 27 = .ok (.istore 4, 2) := by decide +kernel
theorem d_MEM_copyPages_29 : decode prog_3_method_4_code 29 = .ok (.aload_n 2, 1) := by decide +kernel
theorem d_MEM_copyPages_30 : decode prog_3_method_4_code 30 = .ok (.getfield 32, 3) := by decide +kernel
theorem d_MEM_copyPages_33 : decode prog_3_method_4_code 33 = .ok (.iload_n 3, 1) := by decide +kernel
theorem d_MEM_copyPages_34 : decode prog_3_method_4_code 34 = .ok (.iaload, 1) := by decide +kernel
theorem d_MEM_copyPages_35 : decode prog_3_method_4_code 35 = .ok (.bipush 16, 2) := by decide +kernel
theorem d_MEM_copyPages_37 : decode prog_3_method_4_code 37 = .ok (.imul, 1) := by decide +kernel
theorem d_MEM_copyPages_38 : decode prog_3_method_4_code 38 = .ok (.istore 5, 2) := by decide +kernel
theorem d_MEM_copyPages_40 : decode prog_3_method_4_code 40 = .ok (.aload_n 0, 1) := by decide +kernel
theorem d_MEM_copyPages_41 : decode prog_3_method_4_code 41 = .ok (.getfield 9, 3) := by decide +kernel
theorem d_MEM_copyPages_44 : decode prog_3_method_4_code 44 = .ok (.iload 4, 2) := by decide +kernel
theorem d_MEM_copyPages_46 : decode prog_3_method_4_code 46 = .ok (.aload_n 0, 1) := by decide +kernel
theorem d_MEM_copyPages_47 : decode prog_3_method_4_code 47 = .ok (.getfield 9, 3) := by decide +kernel
theorem d_MEM_copyPages_50 : decode prog_3_method_4_code 50 = .ok (.iload 5, 2) := by decide +kernel
theorem d_MEM_copyPages_52 : decode prog_3_method_4_code 52 = .ok (.bipush 16, 2) := by decide +kernel
theorem d_MEM_copyPages_54 : decode prog_3_method_4_code 54 = .ok (.invokestatic 35, 3) := by decide +kernel
theorem d_MEM_copyPages_57 : decode prog_3_method_4_code 57 = .ok (.iinc 3 1, 3) := by decide +kernel
theorem d_MEM_copyPages_60 : decode prog_3_method_4_code 60 = .ok (.goto (-58), 3) := by decide +kernel
theorem d_MEM_copyPages_63 : decode prog_3_method_4_code 63 = .ok (.return_, 1) := by decide +kernel
theorem d_MEM_copyProgram_0 : decode prog_3_method_5_code 0 = .ok (.iconst 0, 1) := by decide +kernel
theorem d_MEM_copyProgram_1 : decode prog_3_method_5_code 1 = .ok (.istore 4, 2) := by decide +kernel
theorem d_MEM_copyProgram_3 : decode prog_3_method_5_code 3 = .ok (.iload 4, 2) := by decide +kernel
theorem d_MEM_copyProgram_5 : decode prog_3_method_5_code 5 = .ok (.iload_n 3, 1) := by decide +kernel
theorem d_MEM_copyProgram_6 : decode prog_3_method_5_code 6 = .ok (.if_icmp .ge 37, 3) := by decide +kernel
theorem d_MEM_copyProgram_9 : decode prog_3_method_5_code 9 = .ok (.aload_n 0, 1) := by decide +kernel
theorem d_MEM_copyProgram_10 : decode prog_3_method_5_code 10 = .ok (.aload_n 1, 1) := by decide +kernel
theorem d_MEM_copyProgram_11 : decode prog_3_method_5_code 11 = .ok (.iconst 4, 1) := by decide +kernel
theorem d_MEM_copyProgram_12 : decode prog_3_method_5_code 12 = .ok (.iload 4, 2) := by decide +kernel
theorem d_MEM_copyProgram_14 : decode prog_3_method_5_code 14 = .ok (.imul, 1) := by decide +kernel
theorem d_MEM_copyProgram_15 : decode prog_3_method_5_code 15 = .ok (.invokevirtual 41, 3) := by decide +kernel
theorem d_MEM_copyProgram_18 : decode prog_3_method_5_code 18 = .ok (.istore 5, 2) := by decide +kernel
theorem d_MEM_copyProgram_20 : decode prog_3_method_5_code 20 = .ok (.iload 5, 2) := by decide +kernel
theorem d_MEM_copyProgram_22 : decode prog_3_method_5_code 22 = .ok (.iconst (-1), 1) := by decide +kernel
theorem d_MEM_copyProgram_23 : decode prog_3_method_5_code 23 = .ok (.if_icmp .eq 14, 3) := by decide +kernel
theorem d_MEM_copyProgram_26 : decode prog_3_method_5_code 26 = .ok (.aload_n 0, 1) := by decide +kernel
theorem d_MEM_copyProgram_27 : decode prog_3_method_5_code 27 = .ok (.getfield 9, 3) := by decide +kernel
theorem d_MEM_copyProgram_30 : decode prog_3_method_5_code 30 = .ok (.iload 5, 2) := by decide +kernel
theorem d_MEM_copyProgram_32 : decode prog_3_method_5_code 32 = .ok (.aload_n 2, 1) := by decide +kernel
theorem d_MEM_copyProgram_33 : decode prog_3_method_5_code 33 = .ok (.iload 4, 2) := by decide +kernel
theorem d_MEM_copyProgram_35 : decode prog_3_method_5_code 35 = .ok (.iaload, 1) := by decide +kernel
theorem d_MEM_copyProgram_36 : decode prog_3_method_5_code 36 = .ok (.iastore, 1) := by decide +kernel
theorem d_MEM_copyProgram_37 : decode prog_3_method_5_code 37 = .ok (.iinc 4 1, 3) := by decide +kernel
theorem d_MEM_copyProgram_40 : decode prog_3_method_5_code 40 = .ok (.goto (-37), 3) := by decide +kernel
theorem d_MEM_copyProgram_43 : decode prog_3_method_5_code 43 = .ok (.return_, 1) := by decide +kernel
theorem d_MEM_placeOf_0 : decode prog_3_method_6_code 0 = .ok (.iload_n 2, 1) := by decide +kernel
theorem d_MEM_placeOf_1 : decode prog_3_method_6_code 1 = .ok (.bipush 6, 2) := by decide +kernel
theorem d_MEM_placeOf_3 : decode prog_3_method_6_code 3 = .ok (.iushr, 1) := by decide +kernel
theorem d_MEM_placeOf_4 : decode prog_3_method_6_code 4 = .ok (.istore_n 3, 1) := by decide +kernel
theorem d_MEM_placeOf_5 : decode prog_3_method_6_code 5 = .ok (.iload_n 3, 1) := by decide +kernel
theorem d_MEM_placeOf_6 : decode prog_3_method_6_code 6 = .ok (.aload_n 1, 1) := by decide +kernel
theorem d_MEM_placeOf_7 : decode prog_3_method_6_code 7 = .ok (.getfield 23, 3) := by decide +kernel
theorem d_MEM_placeOf_10 : decode prog_3_method_6_code 10 = .ok (.if_icmp .lt 5, 3) := by decide +kernel
theorem d_MEM_placeOf_13 : decode prog_3_method_6_code 13 = .ok (.iconst (-1), 1) := by decide +kernel
theorem d_MEM_placeOf_14 : decode prog_3_method_6_code 14 = .ok (.ireturn, 1) := by decide +kernel
theorem d_MEM_placeOf_15 : decode prog_3_method_6_code 15 = .ok (.aload_n 1, 1) := by decide +kernel
theorem d_MEM_placeOf_16 : decode prog_3_method_6_code 16 = .ok (.getfield 32, 3) := by decide +kernel
theorem d_MEM_placeOf_19 : decode prog_3_method_6_code 19 = .ok (.iload_n 3, 1) := by decide +kernel
theorem d_MEM_placeOf_20 : decode prog_3_method_6_code 20 = .ok (.iaload, 1) := by decide +kernel
theorem d_MEM_placeOf_21 : decode prog_3_method_6_code 21 = .ok (.bipush 16, 2) := by decide +kernel
theorem d_MEM_placeOf_23 : decode prog_3_method_6_code 23 = .ok (.imul, 1) := by decide +kernel
theorem d_MEM_placeOf_24 : decode prog_3_method_6_code 24 = .ok (.iload_n 2, 1) := by decide +kernel
theorem d_MEM_placeOf_25 : decode prog_3_method_6_code 25 = .ok (.iconst 2, 1) := by decide +kernel
theorem d_MEM_placeOf_26 : decode prog_3_method_6_code 26 = .ok (.iushr, 1) := by decide +kernel
theorem d_MEM_placeOf_27 : decode prog_3_method_6_code 27 = .ok (.bipush 15, 2) := by decide +kernel
theorem d_MEM_placeOf_29 : decode prog_3_method_6_code 29 = .ok (.iand, 1) := by decide +kernel
theorem d_MEM_placeOf_30 : decode prog_3_method_6_code 30 = .ok (.iadd, 1) := by decide +kernel
theorem d_MEM_placeOf_31 : decode prog_3_method_6_code 31 = .ok (.ireturn, 1) := by decide +kernel
end
section
theorem d_MEM_clear_0 : decode prog_3_method_7_code 0 = .ok (.iload_n 1, 1) := by decide +kernel
theorem d_MEM_clear_1 : decode prog_3_method_7_code 1 = .ok (.bipush 16, 2) := by decide +kernel
theorem d_MEM_clear_3 : decode prog_3_method_7_code 3 = .ok (.imul, 1) := by decide +kernel
theorem d_MEM_clear_4 : decode prog_3_method_7_code 4 = .ok (.istore_n 2, 1) := by decide +kernel
theorem d_MEM_clear_5 : decode prog_3_method_7_code 5 = .ok (.iconst 0, 1) := by decide +kernel
theorem d_MEM_clear_6 : decode prog_3_method_7_code 6 = .ok (.istore_n 3, 1) := by decide +kernel
theorem d_MEM_clear_7 : decode prog_3_method_7_code 7 = .ok (.iload_n 3, 1) := by decide +kernel
theorem d_MEM_clear_8 : decode prog_3_method_7_code 8 = .ok (.bipush 16, 2) := by decide +kernel
theorem d_MEM_clear_10 : decode prog_3_method_7_code 10 = .ok (.if_icmp .ge 18, 3) := by decide +kernel
theorem d_MEM_clear_13 : decode prog_3_method_7_code 13 = .ok (.aload_n 0, 1) := by decide +kernel
theorem d_MEM_clear_14 : decode prog_3_method_7_code 14 = .ok (.getfield 9, 3) := by decide +kernel
theorem d_MEM_clear_17 : decode prog_3_method_7_code 17 = .ok (.iload_n 2, 1) := by decide +kernel
theorem d_MEM_clear_18 : decode prog_3_method_7_code 18 = .ok (.iload_n 3, 1) := by decide +kernel
theorem d_MEM_clear_19 : decode prog_3_method_7_code 19 = .ok (.iadd, 1) := by decide +kernel
theorem d_MEM_clear_20 : decode prog_3_method_7_code 20 = .ok (.iconst 0, 1) := by decide +kernel
theorem d_MEM_clear_21 : decode prog_3_method_7_code 21 = .ok (.iastore, 1) := by decide +kernel
theorem d_MEM_clear_22 : decode prog_3_method_7_code 22 = .ok (.iinc 3 1, 3) := by decide +kernel
theorem d_MEM_clear_25 : decode prog_3_method_7_code 25 = .ok (.goto (-18), 3) := by decide +kernel
theorem d_MEM_clear_28 : decode prog_3_method_7_code 28 = .ok (.return_, 1) := by decide +kernel
theorem d_P_init_0 : decode prog_4_method_1_code 0 = .ok (.aload_n 0, 1) := by decide +kernel
theorem d_P_init_1 : decode prog_4_method_1_code 1 = .ok (.invokespecial 3, 3) := by decide +kernel
theorem d_P_init_4 : decode prog_4_method_1_code 4 = .ok (.aload_n 0, 1) := by decide +kernel
theorem d_P_init_5 : decode prog_4_method_1_code 5 = .ok (.bipush 8, 2) := by decide +kernel
theorem d_P_init_7 : decode prog_4_method_1_code 7 = .ok (.newarray .int, 2) := by decide +kernel
theorem d_P_init_9 : decode prog_4_method_1_code 9 = .ok (.putfield 9, 3) := by decide +kernel
theorem d_P_init_12 : decode prog_4_method_1_code 12 = .ok (.return_, 1) := by decide +kernel
theorem d_P_isEmpty_0 : decode prog_4_method_2_code 0 = .ok (.aload_n 0, 1) := by decide +kernel
theorem d_P_isEmpty_1 : decode prog_4_method_2_code 1 = .ok (.getfield 15, 3) := by decide +kernel
theorem d_P_isEmpty_4 : decode prog_4_method_2_code 4 = .ok (.ifCond .ne 7, 3) := by decide +kernel
theorem d_P_isEmpty_7 : decode prog_4_method_2_code 7 = .ok (.iconst 1, 1) := by decide +kernel
theorem d_P_isEmpty_8 : decode prog_4_method_2_code 8 = .ok (.goto 4, 3) := by decide +kernel
theorem d_P_isEmpty_11 : decode prog_4_method_2_code 11 = .ok (.iconst 0, 1) := by decide +kernel
theorem d_P_isEmpty_12 : decode prog_4_method_2_code 12 = .ok (.ireturn, 1) := by decide +kernel
theorem d_P_isFull_0 : decode prog_4_method_3_code 0 = .ok (.aload_n 0, 1) := by decide +kernel
theorem d_P_isFull_1 : decode prog_4_method_3_code 1 = .ok (.getfield 15, 3) := by decide +kernel
theorem d_P_isFull_4 : decode prog_4_method_3_code 4 = .ok (.bipush 8, 2) := by decide +kernel
theorem d_P_isFull_6 : decode prog_4_method_3_code 6 = .ok (.if_icmp .lt 7, 3) := by decide +kernel
theorem d_P_isFull_9 : decode prog_4_method_3_code 9 = .ok (.iconst 1, 1) := by decide +kernel
theorem d_P_isFull_10 : decode prog_4_method_3_code 10 = .ok (.goto 4, 3) := by decide +kernel
theorem d_P_isFull_13 : decode prog_4_method_3_code 13 = .ok (.iconst 0, 1) := by decide +kernel
theorem d_P_isFull_14 : decode prog_4_method_3_code 14 = .ok (.ireturn, 1) := by decide +kernel
theorem d_P_put_0 : decode prog_4_method_4_code 0 = .ok (.aload_n 0, 1) := by decide +kernel
theorem d_P_put_1 : decode prog_4_method_4_code 1 = .ok (.invokevirtual 19, 3) := by decide +kernel
theorem d_P_put_4 : decode prog_4_method_4_code 4 = .ok (.ifCond .ne 31, 3) := by decide +kernel
theorem d_P_put_7 : decode prog_4_method_4_code 7 = .ok (.aload_n 0, 1) := by decide +kernel
theorem d_P_put_8 : decode prog_4_method_4_code 8 = .ok (.getfield 9, 3) := by decide +kernel
theorem d_P_put_11 : decode prog_4_method_4_code 11 = .ok (.aload_n 0, 1) := by decide +kernel
theorem d_P_put_12 : decode prog_4_method_4_code 12 = .ok (.getfield 23, 3) := by decide +kernel
theorem d_P_put_15 : decode prog_4_method_4_code 15 = .ok (.aload_n 0, 1) := by decide +kernel
theorem d_P_put_16 : decode prog_4_method_4_code 16 = .ok (.getfield 15, 3) := by decide +kernel
theorem d_P_put_19 : decode prog_4_method_4_code 19 = .ok (.iadd, 1) := by decide +kernel
theorem d_P_put_20 : decode prog_4_method_4_code 20 = .ok (.bipush 8, 2) := by decide +kernel
theorem d_P_put_22 : decode prog_4_method_4_code 22 = .ok (.irem, 1) := by decide +kernel
theorem d_P_put_23 : decode prog_4_method_4_code 23 = .ok (.iload_n 1, 1) := by decide +kernel
theorem d_P_put_24 : decode prog_4_method_4_code 24 = .ok (.iastore, 1) := by decide +kernel
theorem d_P_put_25 : decode prog_4_method_4_code 25 = .ok (.aload_n 0, 1) := by decide +kernel
theorem d_P_put_26 : decode prog_4_method_4_code 26 = .ok (.dup, 1) := by decide +kernel
theorem d_P_put_27 : decode prog_4_method_4_code 27 = .ok (.getfield 15, 3) := by decide +kernel
theorem d_P_put_30 : decode prog_4_method_4_code 30 = .ok (.iconst 1, 1) := by decide +kernel
theorem d_P_put_31 : decode prog_4_method_4_code 31 = .ok (.iadd, 1) := by decide +kernel
theorem d_P_put_32 : decode prog_4_method_4_code 32 = .ok (.putfield 15, 3) := by decide +kernel
theorem d_P_put_35 : decode prog_4_method_4_code 35 = .ok (.return_, 1) := by decide +kernel
theorem d_P_take_0 : decode prog_4_method_5_code 0 = .ok (.aload_n 0, 1) := by decide +kernel
theorem d_P_take_1 : decode prog_4_method_5_code 1 = .ok (.invokevirtual 26, 3) := by decide +kernel
theorem d_P_take_4 : decode prog_4_method_5_code 4 = .ok (.ifCond .eq 5, 3) := by decide +kernel
theorem d_P_take_7 : decode prog_4_method_5_code 7 = .ok (.iconst (-1), 1) := by decide +kernel
theorem d_P_take_8 : decode prog_4_method_5_code 8 = .ok (.ireturn, 1) := by decide +kernel
theorem d_P_take_9 : decode prog_4_method_5_code 9 = .ok (.aload_n 0, 1) := by decide +kernel
theorem d_P_take_10 : decode prog_4_method_5_code 10 = .ok (.getfield 9, 3) := by decide +kernel
theorem d_P_take_13 : decode prog_4_method_5_code 13 = .ok (.aload_n 0, 1) := by decide +kernel
theorem d_P_take_14 : decode prog_4_method_5_code 14 = .ok (.getfield 23, 3) := by decide +kernel
theorem d_P_take_17 : decode prog_4_method_5_code 17 = .ok (.iaload, 1) := by decide +kernel
theorem d_P_take_18 : decode prog_4_method_5_code 18 = .ok (.istore_n 1, 1) := by decide +kernel
theorem d_P_take_19 : decode prog_4_method_5_code 19 = .ok (.aload_n 0, 1) := by decide +kernel
theorem d_P_take_20 : decode prog_4_method_5_code 20 = .ok (.aload_n 0, 1) := by decide +kernel
theorem d_P_take_21 : decode prog_4_method_5_code 21 = .ok (.getfield 23, 3) := by decide +kernel
theorem d_P_take_24 : decode prog_4_method_5_code 24 = .ok (.iconst 1, 1) := by decide +kernel
theorem d_P_take_25 : decode prog_4_method_5_code 25 = .ok (.iadd, 1) := by decide +kernel
theorem d_P_take_26 : decode prog_4_method_5_code 26 = .ok (.bipush 8, 2) := by decide +kernel
theorem d_P_take_28 : decode prog_4_method_5_code 28 = .ok (.irem, 1) := by decide +kernel
theorem d_P_take_29 : decode prog_4_method_5_code 29 = .ok (.putfield 23, 3) := by decide +kernel
theorem d_P_take_32 : decode prog_4_method_5_code 32 = .ok (.aload_n 0, 1) := by decide +kernel
theorem d_P_take_33 : decode prog_4_method_5_code 33 = .ok (.dup, 1) := by decide +kernel
theorem d_P_take_34 : decode prog_4_method_5_code 34 = .ok (.getfield 15, 3) := by decide +kernel
theorem d_P_take_37 : decode prog_4_method_5_code 37 = .ok (.iconst 1, 1) := by decide +kernel
theorem d_P_take_38 : decode prog_4_method_5_code 38 = .ok (.isub, 1) := by decide +kernel
theorem d_P_take_39 : decode prog_4_method_5_code 39 = .ok (.putfield 15, 3) := by decide +kernel
theorem d_P_take_42 : decode prog_4_method_5_code 42 = .ok (.iload_n 1, 1) := by decide +kernel
theorem d_P_take_43 : decode prog_4_method_5_code 43 = .ok (.ireturn, 1) := by decide +kernel
theorem d_P_empty_0 : decode prog_4_method_6_code 0 = .ok (.aload_n 0, 1) := by decide +kernel
theorem d_P_empty_1 : decode prog_4_method_6_code 1 = .ok (.iconst 0, 1) := by decide +kernel
theorem d_P_empty_2 : decode prog_4_method_6_code 2 = .ok (.putfield 23, 3) := by decide +kernel
theorem d_P_empty_5 : decode prog_4_method_6_code 5 = .ok (.aload_n 0, 1) := by decide +kernel
theorem d_P_empty_6 : decode prog_4_method_6_code 6 = .ok (.iconst 0, 1) := by decide +kernel
theorem d_P_empty_7 : decode prog_4_method_6_code 7 = .ok (.putfield 15, 3) := by decide +kernel
theorem d_P_empty_10 : decode prog_4_method_6_code 10 = .ok (.return_, 1) := by decide +kernel
theorem d_ROW_init_0 : decode prog_5_method_1_code 0 = .ok (.aload_n 0, 1) := by decide +kernel
theorem d_ROW_init_1 : decode prog_5_method_1_code 1 = .ok (.invokespecial 3, 3) := by decide +kernel
theorem d_ROW_init_4 : decode prog_5_method_1_code 4 = .ok (.aload_n 0, 1) := by decide +kernel
theorem d_ROW_init_5 : decode prog_5_method_1_code 5 = .ok (.bipush 8, 2) := by decide +kernel
theorem d_ROW_init_7 : decode prog_5_method_1_code 7 = .ok (.newarray .int, 2) := by decide +kernel
theorem d_ROW_init_9 : decode prog_5_method_1_code 9 = .ok (.putfield 9, 3) := by decide +kernel
theorem d_ROW_init_12 : decode prog_5_method_1_code 12 = .ok (.return_, 1) := by decide +kernel
theorem d_ROW_append_0 : decode prog_5_method_2_code 0 = .ok (.aload_n 0, 1) := by decide +kernel
theorem d_ROW_append_1 : decode prog_5_method_2_code 1 = .ok (.getfield 15, 3) := by decide +kernel
theorem d_ROW_append_4 : decode prog_5_method_2_code 4 = .ok (.bipush 8, 2) := by decide +kernel
theorem d_ROW_append_6 : decode prog_5_method_2_code 6 = .ok (.if_icmp .ge 23, 3) := by decide +kernel
theorem d_ROW_append_9 : decode prog_5_method_2_code 9 = .ok (.aload_n 0, 1) := by decide +kernel
theorem d_ROW_append_10 : decode prog_5_method_2_code 10 = .ok (.getfield 9, 3) := by decide +kernel
theorem d_ROW_append_13 : decode prog_5_method_2_code 13 = .ok (.aload_n 0, 1) := by decide +kernel
theorem d_ROW_append_14 : decode prog_5_method_2_code 14 = .ok (.getfield 15, 3) := by decide +kernel
theorem d_ROW_append_17 : decode prog_5_method_2_code 17 = .ok (.iload_n 1, 1) := by decide +kernel
theorem d_ROW_append_18 : decode prog_5_method_2_code 18 = .ok (.iastore, 1) := by decide +kernel
theorem d_ROW_append_19 : decode prog_5_method_2_code 19 = .ok (.aload_n 0, 1) := by decide +kernel
theorem d_ROW_append_20 : decode prog_5_method_2_code 20 = .ok (.dup, 1) := by decide +kernel
theorem d_ROW_append_21 : decode prog_5_method_2_code 21 = .ok (.getfield 15, 3) := by decide +kernel
theorem d_ROW_append_24 : decode prog_5_method_2_code 24 = .ok (.iconst 1, 1) := by decide +kernel
theorem d_ROW_append_25 : decode prog_5_method_2_code 25 = .ok (.iadd, 1) := by decide +kernel
theorem d_ROW_append_26 : decode prog_5_method_2_code 26 = .ok (.putfield 15, 3) := by decide +kernel
theorem d_ROW_append_29 : decode prog_5_method_2_code 29 = .ok (.return_, 1) := by decide +kernel
theorem d_ROW_at_0 : decode prog_5_method_3_code 0 = .ok (.iload_n 1, 1) := by decide +kernel
theorem d_ROW_at_1 : decode prog_5_method_3_code 1 = .ok (.ifCond .lt 11, 3) := by decide +kernel
theorem d_ROW_at_4 : decode prog_5_method_3_code 4 = .ok (.iload_n 1, 1) := by decide +kernel
theorem d_ROW_at_5 : decode prog_5_method_3_code 5 = .ok (.aload_n 0, 1) := by decide +kernel
theorem d_ROW_at_6 : decode prog_5_method_3_code 6 = .ok (.getfield 15, 3) := by decide +kernel
theorem d_ROW_at_9 : decode prog_5_method_3_code 9 = .ok (.if_icmp .lt 7, 3) := by decide +kernel
theorem d_ROW_at_12 : decode prog_5_method_3_code 12 = .ok (.iconst 0, 1) := by decide +kernel
theorem d_ROW_at_13 : decode prog_5_method_3_code 13 = .ok (.goto 9, 3) := by decide +kernel
theorem d_ROW_at_16 : decode prog_5_method_3_code 16 = .ok (.aload_n 0, 1) := by decide +kernel
theorem d_ROW_at_17 : decode prog_5_method_3_code 17 = .ok (.getfield 9, 3) := by decide +kernel
theorem d_ROW_at_20 : decode prog_5_method_3_code 20 = .ok (.iload_n 1, 1) := by decide +kernel
theorem d_ROW_at_21 : decode prog_5_method_3_code 21 = .ok (.iaload, 1) := by decide +kernel
theorem d_ROW_at_22 : decode prog_5_method_3_code 22 = .ok (.ireturn, 1) := by decide +kernel
theorem d_ROW_takeFirst_0 : decode prog_5_method_4_code 0 = .ok (.aload_n 0, 1) := by decide +kernel
theorem d_ROW_takeFirst_1 : decode prog_5_method_4_code 1 = .ok (.iconst 0, 1) := by decide +kernel
theorem d_ROW_takeFirst_2 : decode prog_5_method_4_code 2 = .ok (.invokevirtual 19, 3) := by decide +kernel
theorem d_ROW_takeFirst_5 : decode prog_5_method_4_code 5 = .ok (.istore_n 1, 1) := by decide +kernel
theorem d_ROW_takeFirst_6 : decode prog_5_method_4_code 6 = .ok (.aload_n 0, 1) := by decide +kernel
theorem d_ROW_takeFirst_7 : decode prog_5_method_4_code 7 = .ok (.iload_n 1, 1) := by decide +kernel
theorem d_ROW_takeFirst_8 : decode prog_5_method_4_code 8 = .ok (.invokevirtual 23, 3) := by decide +kernel
theorem d_ROW_takeFirst_11 : decode prog_5_method_4_code 11 = .ok (.iload_n 1, 1) := by decide +kernel
theorem d_ROW_takeFirst_12 : decode prog_5_method_4_code 12 = .ok (.ireturn, 1) := by decide +kernel
theorem d_ROW_drop_0 : decode prog_5_method_5_code 0 = .ok (.iconst 0, 1) := by decide +kernel
theorem d_ROW_drop_1 : decode prog_5_method_5_code 1 = .ok (.istore_n 2, 1) := by decide +kernel
theorem d_ROW_drop_2 : decode prog_5_method_5_code 2 = .ok (.iconst 0, 1) := by decide +kernel
theorem d_ROW_drop_3 : decode prog_5_method_5_code 3 = .ok (.istore_n 3, 1) := by decide +kernel
theorem d_ROW_drop_4 : decode prog_5_method_5_code 4 = .ok (.iload_n 3, 1) := by decide +kernel
theorem d_ROW_drop_5 : decode prog_5_method_5_code 5 = .ok (.aload_n 0, 1) := by decide +kernel
theorem d_ROW_drop_6 : decode prog_5_method_5_code 6 = .ok (.getfield 15, 3) := by decide +kernel
theorem d_ROW_drop_9 : decode prog_5_method_5_code 9 = .ok (.if_icmp .ge 34, 3) := by decide +kernel
theorem d_ROW_drop_12 : decode prog_5_method_5_code 12 = .ok (.aload_n 0, 1) := by decide +kernel
theorem d_ROW_drop_13 : decode prog_5_method_5_code 13 = .ok (.getfield 9, 3) := by decide +kernel
theorem d_ROW_drop_16 : decode prog_5_method_5_code 16 = .ok (.iload_n 3, 1) := by decide +kernel
theorem d_ROW_drop_17 : decode prog_5_method_5_code 17 = .ok (.iaload, 1) := by decide +kernel
theorem d_ROW_drop_18 : decode prog_5_method_5_code 18 = .ok (.iload_n 1, 1) := by decide +kernel
theorem d_ROW_drop_19 : decode prog_5_method_5_code 19 = .ok (.if_icmp .eq 18, 3) := by decide +kernel
theorem d_ROW_drop_22 : decode prog_5_method_5_code 22 = .ok (.aload_n 0, 1) := by decide +kernel
theorem d_ROW_drop_23 : decode prog_5_method_5_code 23 = .ok (.getfield 9, 3) := by decide +kernel
theorem d_ROW_drop_26 : decode prog_5_method_5_code 26 = .ok (.iload_n 2, 1) := by decide +kernel
theorem d_ROW_drop_27 : decode prog_5_method_5_code 27 = .ok (.aload_n 0, 1) := by decide +kernel
theorem d_ROW_drop_28 : decode prog_5_method_5_code 28 = .ok (.getfield 9, 3) := by decide +kernel
theorem d_ROW_drop_31 : decode prog_5_method_5_code 31 = .ok (.iload_n 3, 1) := by decide +kernel
theorem d_ROW_drop_32 : decode prog_5_method_5_code 32 = .ok (.iaload, 1) := by decide +kernel
theorem d_ROW_drop_33 : decode prog_5_method_5_code 33 = .ok (.iastore, 1) := by decide +kernel
theorem d_ROW_drop_34 : decode prog_5_method_5_code 34 = .ok (.iinc 2 1, 3) := by decide +kernel
theorem d_ROW_drop_37 : decode prog_5_method_5_code 37 = .ok (.iinc 3 1, 3) := by decide +kernel
theorem d_ROW_drop_40 : decode prog_5_method_5_code 40 = .ok (.goto (-36), 3) := by decide +kernel
theorem d_ROW_drop_43 : decode prog_5_method_5_code 43 = .ok (.aload_n 0, 1) := by decide +kernel
theorem d_ROW_drop_44 : decode prog_5_method_5_code 44 = .ok (.iload_n 2, 1) := by decide +kernel
theorem d_ROW_drop_45 : decode prog_5_method_5_code 45 = .ok (.putfield 15, 3) := by decide +kernel
theorem d_ROW_drop_48 : decode prog_5_method_5_code 48 = .ok (.return_, 1) := by decide +kernel
theorem d_T_init_0 : decode prog_6_method_1_code 0 = .ok (.aload_n 0, 1) := by decide +kernel
theorem d_T_init_1 : decode prog_6_method_1_code 1 = .ok (.invokespecial 3, 3) := by decide +kernel
theorem d_T_init_4 : decode prog_6_method_1_code 4 = .ok (.aload_n 0, 1) := by decide +kernel
theorem d_T_init_5 : decode prog_6_method_1_code 5 = .ok (.bipush 32, 2) := by decide +kernel
theorem d_T_init_7 : decode prog_6_method_1_code 7 = .ok (.newarray .int, 2) := by decide +kernel
theorem d_T_init_9 : decode prog_6_method_1_code 9 = .ok (.putfield 9, 3) := by decide +kernel
theorem d_T_init_12 : decode prog_6_method_1_code 12 = .ok (.aload_n 0, 1) := by decide +kernel
theorem d_T_init_13 : decode prog_6_method_1_code 13 = .ok (.bipush 8, 2) := by decide +kernel
theorem d_T_init_15 : decode prog_6_method_1_code 15 = .ok (.newarray .int, 2) := by decide +kernel
theorem d_T_init_17 : decode prog_6_method_1_code 17 = .ok (.putfield 15, 3) := by decide +kernel
theorem d_T_init_20 : decode prog_6_method_1_code 20 = .ok (.aload_n 0, 1) := by decide +kernel
theorem d_T_init_21 : decode prog_6_method_1_code 21 = .ok (.bipush 6, 2) := by decide +kernel
theorem d_T_init_23 : decode prog_6_method_1_code 23 = .ok (.newarray .int, 2) := by decide +kernel
theorem d_T_init_25 : decode prog_6_method_1_code 25 = .ok (.putfield 18, 3) := by decide +kernel
theorem d_T_init_28 : decode prog_6_method_1_code 28 = .ok (.aload_n 0, 1) := by decide +kernel
theorem d_T_init_29 : decode prog_6_method_1_code 29 = .ok (.iload_n 1, 1) := by decide +kernel
theorem d_T_init_30 : decode prog_6_method_1_code 30 = .ok (.putfield 21, 3) := by decide +kernel
theorem d_T_init_33 : decode prog_6_method_1_code 33 = .ok (.iconst 0, 1) := by decide +kernel
theorem d_T_init_34 : decode prog_6_method_1_code 34 = .ok (.istore_n 2, 1) := by decide +kernel
theorem d_T_init_35 : decode prog_6_method_1_code 35 = .ok (.iload_n 2, 1) := by decide +kernel
theorem d_T_init_36 : decode prog_6_method_1_code 36 = .ok (.bipush 6, 2) := by decide +kernel
theorem d_T_init_38 : decode prog_6_method_1_code 38 = .ok (.if_icmp .ge 16, 3) := by decide +kernel
theorem d_T_init_41 : decode prog_6_method_1_code 41 = .ok (.aload_n 0, 1) := by decide +kernel
theorem d_T_init_42 : decode prog_6_method_1_code 42 = .ok (.getfield 18, 3) := by decide +kernel
theorem d_T_init_45 : decode prog_6_method_1_code 45 = .ok (.iload_n 2, 1) := by decide +kernel
theorem d_T_init_46 : decode prog_6_method_1_code 46 = .ok (.iconst (-1), 1) := by decide +kernel
theorem d_T_init_47 : decode prog_6_method_1_code 47 = .ok (.iastore, 1) := by decide +kernel
theorem d_T_init_48 : decode prog_6_method_1_code 48 = .ok (.iinc 2 1, 3) := by decide +kernel
theorem d_T_init_51 : decode prog_6_method_1_code 51 = .ok (.goto (-16), 3) := by decide +kernel
theorem d_T_init_54 : decode prog_6_method_1_code 54 = .ok (.return_, 1) := by decide +kernel
theorem d_T_getRegister_0 : decode prog_6_method_2_code 0 = .ok (.iload_n 1, 1) := by decide +kernel
theorem d_T_getRegister_1 : decode prog_6_method_2_code 1 = .ok (.ifCond .lt 9, 3) := by decide +kernel
theorem d_T_getRegister_4 : decode prog_6_method_2_code 4 = .ok (.iload_n 1, 1) := by decide +kernel
theorem d_T_getRegister_5 : decode prog_6_method_2_code 5 = .ok (.bipush 32, 2) := by decide +kernel
theorem d_T_getRegister_7 : decode prog_6_method_2_code 7 = .ok (.if_icmp .lt 7, 3) := by decide +kernel
theorem d_T_getRegister_10 : decode prog_6_method_2_code 10 = .ok (.iconst 0, 1) := by decide +kernel
theorem d_T_getRegister_11 : decode prog_6_method_2_code 11 = .ok (.goto 9, 3) := by decide +kernel
theorem d_T_getRegister_14 : decode prog_6_method_2_code 14 = .ok (.aload_n 0, 1) := by decide +kernel
theorem d_T_getRegister_15 : decode prog_6_method_2_code 15 = .ok (.getfield 9, 3) := by decide +kernel
theorem d_T_getRegister_18 : decode prog_6_method_2_code 18 = .ok (.iload_n 1, 1) := by decide +kernel
theorem d_T_getRegister_19 : decode prog_6_method_2_code 19 = .ok (.iaload, 1) := by decide +kernel
theorem d_T_getRegister_20 : decode prog_6_method_2_code 20 = .ok (.ireturn, 1) := by decide +kernel
theorem d_T_setRegister_0 : decode prog_6_method_3_code 0 = .ok (.iload_n 1, 1) := by decide +kernel
theorem d_T_setRegister_1 : decode prog_6_method_3_code 1 = .ok (.ifCond .le 16, 3) := by decide +kernel
theorem d_T_setRegister_4 : decode prog_6_method_3_code 4 = .ok (.iload_n 1, 1) := by decide +kernel
theorem d_T_setRegister_5 : decode prog_6_method_3_code 5 = .ok (.bipush 32, 2) := by decide +kernel
theorem d_T_setRegister_7 : decode prog_6_method_3_code 7 = .ok (.if_icmp .ge 10, 3) := by decide +kernel
theorem d_T_setRegister_10 : decode prog_6_method_3_code 10 = .ok (.aload_n 0, 1) := by decide +kernel
theorem d_T_setRegister_11 : decode prog_6_method_3_code 11 = .ok (.getfield 9, 3) := by decide +kernel
theorem d_T_setRegister_14 : decode prog_6_method_3_code 14 = .ok (.iload_n 1, 1) := by decide +kernel
theorem d_T_setRegister_15 : decode prog_6_method_3_code 15 = .ok (.iload_n 2, 1) := by decide +kernel
theorem d_T_setRegister_16 : decode prog_6_method_3_code 16 = .ok (.iastore, 1) := by decide +kernel
theorem d_T_setRegister_17 : decode prog_6_method_3_code 17 = .ok (.return_, 1) := by decide +kernel
theorem d_T_endAt_0 : decode prog_6_method_4_code 0 = .ok (.iload_n 1, 1) := by decide +kernel
theorem d_T_endAt_1 : decode prog_6_method_4_code 1 = .ok (.ifCond .lt 9, 3) := by decide +kernel
theorem d_T_endAt_4 : decode prog_6_method_4_code 4 = .ok (.iload_n 1, 1) := by decide +kernel
theorem d_T_endAt_5 : decode prog_6_method_4_code 5 = .ok (.bipush 6, 2) := by decide +kernel
theorem d_T_endAt_7 : decode prog_6_method_4_code 7 = .ok (.if_icmp .lt 7, 3) := by decide +kernel
theorem d_T_endAt_10 : decode prog_6_method_4_code 10 = .ok (.iconst (-1), 1) := by decide +kernel
theorem d_T_endAt_11 : decode prog_6_method_4_code 11 = .ok (.goto 9, 3) := by decide +kernel
theorem d_T_endAt_14 : decode prog_6_method_4_code 14 = .ok (.aload_n 0, 1) := by decide +kernel
theorem d_T_endAt_15 : decode prog_6_method_4_code 15 = .ok (.getfield 18, 3) := by decide +kernel
theorem d_T_endAt_18 : decode prog_6_method_4_code 18 = .ok (.iload_n 1, 1) := by decide +kernel
theorem d_T_endAt_19 : decode prog_6_method_4_code 19 = .ok (.iaload, 1) := by decide +kernel
theorem d_T_endAt_20 : decode prog_6_method_4_code 20 = .ok (.ireturn, 1) := by decide +kernel
theorem d_T_leastNothing_0 : decode prog_6_method_5_code 0 = .ok (.iload_n 1, 1) := by decide +kernel
theorem d_T_leastNothing_1 : decode prog_6_method_5_code 1 = .ok (.istore_n 2, 1) := by decide +kernel
theorem d_T_leastNothing_2 : decode prog_6_method_5_code 2 = .ok (.iload_n 2, 1) := by decide +kernel
theorem d_T_leastNothing_3 : decode prog_6_method_5_code 3 = .ok (.bipush 6, 2) := by decide +kernel
theorem d_T_leastNothing_5 : decode prog_6_method_5_code 5 = .ok (.if_icmp .ge 25, 3) := by decide +kernel
theorem d_T_leastNothing_8 : decode prog_6_method_5_code 8 = .ok (.iload_n 2, 1) := by decide +kernel
theorem d_T_leastNothing_9 : decode prog_6_method_5_code 9 = .ok (.ifCond .lt 15, 3) := by decide +kernel
theorem d_T_leastNothing_12 : decode prog_6_method_5_code 12 = .ok (.aload_n 0, 1) := by decide +kernel
theorem d_T_leastNothing_13 : decode prog_6_method_5_code 13 = .ok (.getfield 18, 3) := by decide +kernel
theorem d_T_leastNothing_16 : decode prog_6_method_5_code 16 = .ok (.iload_n 2, 1) := by decide +kernel
theorem d_T_leastNothing_17 : decode prog_6_method_5_code 17 = .ok (.iaload, 1) := by decide +kernel
theorem d_T_leastNothing_18 : decode prog_6_method_5_code 18 = .ok (.iconst (-1), 1) := by decide +kernel
theorem d_T_leastNothing_19 : decode prog_6_method_5_code 19 = .ok (.if_icmp .ne 5, 3) := by decide +kernel
theorem d_T_leastNothing_22 : decode prog_6_method_5_code 22 = .ok (.iload_n 2, 1) := by decide +kernel
theorem d_T_leastNothing_23 : decode prog_6_method_5_code 23 = .ok (.ireturn, 1) := by decide +kernel
theorem d_T_leastNothing_24 : decode prog_6_method_5_code 24 = .ok (.iinc 2 1, 3) := by decide +kernel
theorem d_T_leastNothing_27 : decode prog_6_method_5_code 27 = .ok (.goto (-25), 3) := by decide +kernel
theorem d_T_leastNothing_30 : decode prog_6_method_5_code 30 = .ok (.iconst (-1), 1) := by decide +kernel
theorem d_T_leastNothing_31 : decode prog_6_method_5_code 31 = .ok (.ireturn, 1) := by decide +kernel
theorem d_T_forgetDescriptors_0 : decode prog_6_method_6_code 0 = .ok (.iconst 0, 1) := by decide +kernel
theorem d_T_forgetDescriptors_1 : decode prog_6_method_6_code 1 = .ok (.istore_n 1, 1) := by decide +kernel
theorem d_T_forgetDescriptors_2 : decode prog_6_method_6_code 2 = .ok (.iload_n 1, 1) := by decide +kernel
theorem d_T_forgetDescriptors_3 : decode prog_6_method_6_code 3 = .ok (.bipush 6, 2) := by decide +kernel
theorem d_T_forgetDescriptors_5 : decode prog_6_method_6_code 5 = .ok (.if_icmp .ge 16, 3) := by decide +kernel
theorem d_T_forgetDescriptors_8 : decode prog_6_method_6_code 8 = .ok (.aload_n 0, 1) := by decide +kernel
theorem d_T_forgetDescriptors_9 : decode prog_6_method_6_code 9 = .ok (.getfield 18, 3) := by decide +kernel
theorem d_T_forgetDescriptors_12 : decode prog_6_method_6_code 12 = .ok (.iload_n 1, 1) := by decide +kernel
theorem d_T_forgetDescriptors_13 : decode prog_6_method_6_code 13 = .ok (.iconst (-1), 1) := by decide +kernel
theorem d_T_forgetDescriptors_14 : decode prog_6_method_6_code 14 = .ok (.iastore, 1) := by decide +kernel
theorem d_T_forgetDescriptors_15 : decode prog_6_method_6_code 15 = .ok (.iinc 1 1, 3) := by decide +kernel
theorem d_T_forgetDescriptors_18 : decode prog_6_method_6_code 18 = .ok (.goto (-16), 3) := by decide +kernel
theorem d_T_forgetDescriptors_21 : decode prog_6_method_6_code 21 = .ok (.return_, 1) := by decide +kernel
theorem d_T_isChildOf_0 : decode prog_6_method_7_code 0 = .ok (.aload_n 0, 1) := by decide +kernel
theorem d_T_isChildOf_1 : decode prog_6_method_7_code 1 = .ok (.getfield 25, 3) := by decide +kernel
theorem d_T_isChildOf_4 : decode prog_6_method_7_code 4 = .ok (.ifCond .eq 18, 3) := by decide +kernel
theorem d_T_isChildOf_7 : decode prog_6_method_7_code 7 = .ok (.aload_n 0, 1) := by decide +kernel
theorem d_T_isChildOf_8 : decode prog_6_method_7_code 8 = .ok (.getfield 28, 3) := by decide +kernel
theorem d_T_isChildOf_11 : decode prog_6_method_7_code 11 = .ok (.aload_n 1, 1) := by decide +kernel
theorem d_T_isChildOf_12 : decode prog_6_method_7_code 12 = .ok (.getfield 21, 3) := by decide +kernel
theorem d_T_isChildOf_15 : decode prog_6_method_7_code 15 = .ok (.if_icmp .ne 7, 3) := by decide +kernel
theorem d_T_isChildOf_18 : decode prog_6_method_7_code 18 = .ok (.iconst 1, 1) := by decide +kernel
theorem d_T_isChildOf_19 : decode prog_6_method_7_code 19 = .ok (.goto 4, 3) := by decide +kernel
theorem d_T_isChildOf_22 : decode prog_6_method_7_code 22 = .ok (.iconst 0, 1) := by decide +kernel
theorem d_T_isChildOf_23 : decode prog_6_method_7_code 23 = .ok (.ireturn, 1) := by decide +kernel
theorem d_T_sleeps_0 : decode prog_6_method_8_code 0 = .ok (.aload_n 0, 1) := by decide +kernel
theorem d_T_sleeps_1 : decode prog_6_method_8_code 1 = .ok (.getfield 25, 3) := by decide +kernel
theorem d_T_sleeps_4 : decode prog_6_method_8_code 4 = .ok (.iconst 2, 1) := by decide +kernel
theorem d_T_sleeps_5 : decode prog_6_method_8_code 5 = .ok (.if_icmp .eq 19, 3) := by decide +kernel
theorem d_T_sleeps_8 : decode prog_6_method_8_code 8 = .ok (.aload_n 0, 1) := by decide +kernel
theorem d_T_sleeps_9 : decode prog_6_method_8_code 9 = .ok (.getfield 25, 3) := by decide +kernel
theorem d_T_sleeps_12 : decode prog_6_method_8_code 12 = .ok (.iconst 3, 1) := by decide +kernel
theorem d_T_sleeps_13 : decode prog_6_method_8_code 13 = .ok (.if_icmp .eq 11, 3) := by decide +kernel
theorem d_T_sleeps_16 : decode prog_6_method_8_code 16 = .ok (.aload_n 0, 1) := by decide +kernel
theorem d_T_sleeps_17 : decode prog_6_method_8_code 17 = .ok (.getfield 25, 3) := by decide +kernel
theorem d_T_sleeps_20 : decode prog_6_method_8_code 20 = .ok (.iconst 4, 1) := by decide +kernel
theorem d_T_sleeps_21 : decode prog_6_method_8_code 21 = .ok (.if_icmp .ne 7, 3) := by decide +kernel
theorem d_T_sleeps_24 : decode prog_6_method_8_code 24 = .ok (.iconst 1, 1) := by decide +kernel
theorem d_T_sleeps_25 : decode prog_6_method_8_code 25 = .ok (.goto 4, 3) := by decide +kernel
theorem d_T_sleeps_28 : decode prog_6_method_8_code 28 = .ok (.iconst 0, 1) := by decide +kernel
theorem d_T_sleeps_29 : decode prog_6_method_8_code 29 = .ok (.ireturn, 1) := by decide +kernel
theorem d_T_copyFrom_0 : decode prog_6_method_9_code 0 = .ok (.aload_n 0, 1) := by decide +kernel
theorem d_T_copyFrom_1 : decode prog_6_method_9_code 1 = .ok (.aload_n 1, 1) := by decide +kernel
theorem d_T_copyFrom_2 : decode prog_6_method_9_code 2 = .ok (.getfield 31, 3) := by decide +kernel
theorem d_T_copyFrom_5 : decode prog_6_method_9_code 5 = .ok (.putfield 31, 3) := by decide +kernel
theorem d_T_copyFrom_8 : decode prog_6_method_9_code 8 = .ok (.aload_n 1, 1) := by decide +kernel
theorem d_T_copyFrom_9 : decode prog_6_method_9_code 9 = .ok (.getfield 9, 3) := by decide +kernel
theorem d_T_copyFrom_12 : decode prog_6_method_9_code 12 = .ok (.iconst 0, 1) := by decide +kernel
theorem d_T_copyFrom_13 : decode prog_6_method_9_code 13 = .ok (.aload_n 0, 1) := by decide +kernel
theorem d_T_copyFrom_14 : decode prog_6_method_9_code 14 = .ok (.getfield 9, 3) := by decide +kernel
theorem d_T_copyFrom_17 : decode prog_6_method_9_code 17 = .ok (.iconst 0, 1) := by decide +kernel
theorem d_T_copyFrom_18 : decode prog_6_method_9_code 18 = .ok (.bipush 32, 2) := by decide +kernel
theorem d_T_copyFrom_20 : decode prog_6_method_9_code 20 = .ok (.invokestatic 34, 3) := by decide +kernel
theorem d_T_copyFrom_23 : decode prog_6_method_9_code 23 = .ok (.aload_n 1, 1) := by decide +kernel
theorem d_T_copyFrom_24 : decode prog_6_method_9_code 24 = .ok (.getfield 18, 3) := by decide +kernel
theorem d_T_copyFrom_27 : decode prog_6_method_9_code 27 = .ok (.iconst 0, 1) := by decide +kernel
theorem d_T_copyFrom_28 : decode prog_6_method_9_code 28 = .ok (.aload_n 0, 1) := by decide +kernel
theorem d_T_copyFrom_29 : decode prog_6_method_9_code 29 = .ok (.getfield 18, 3) := by decide +kernel
theorem d_T_copyFrom_32 : decode prog_6_method_9_code 32 = .ok (.iconst 0, 1) := by decide +kernel
theorem d_T_copyFrom_33 : decode prog_6_method_9_code 33 = .ok (.bipush 6, 2) := by decide +kernel
theorem d_T_copyFrom_35 : decode prog_6_method_9_code 35 = .ok (.invokestatic 34, 3) := by decide +kernel
theorem d_T_copyFrom_38 : decode prog_6_method_9_code 38 = .ok (.return_, 1) := by decide +kernel
theorem d_LAW_cell_0 : decode method_2_code 0 = .ok (.iload_n 1, 1) := by decide +kernel
theorem d_LAW_cell_1 : decode method_2_code 1 = .ok (.aload_n 0, 1) := by decide +kernel
theorem d_LAW_cell_2 : decode method_2_code 2 = .ok (.arraylength, 1) := by decide +kernel
theorem d_LAW_cell_3 : decode method_2_code 3 = .ok (.if_icmp .ge 9, 3) := by decide +kernel
theorem d_LAW_cell_6 : decode method_2_code 6 = .ok (.aload_n 0, 1) := by decide +kernel
theorem d_LAW_cell_7 : decode method_2_code 7 = .ok (.iload_n 1, 1) := by decide +kernel
theorem d_LAW_cell_8 : decode method_2_code 8 = .ok (.iaload, 1) := by decide +kernel
theorem d_LAW_cell_9 : decode method_2_code 9 = .ok (.goto 4, 3) := by decide +kernel
theorem d_LAW_cell_12 : decode method_2_code 12 = .ok (.iconst 0, 1) := by decide +kernel
theorem d_LAW_cell_13 : decode method_2_code 13 = .ok (.ireturn, 1) := by decide +kernel
theorem d_LAW_law_0 : decode code 0 = .ok (.new 7, 3) := by decide +kernel
theorem d_LAW_law_3 : decode code 3 = .ok (.dup, 1) := by decide +kernel
theorem d_LAW_law_4 : decode code 4 = .ok (.aload_n 0, 1) := by decide +kernel
theorem d_LAW_law_5 : decode code 5 = .ok (.iconst 0, 1) := by decide +kernel
theorem d_LAW_law_6 : decode code 6 = .ok (.invokestatic 9, 3) := by decide +kernel
theorem d_LAW_law_9 : decode code 9 = .ok (.aload_n 0, 1) := by decide +kernel
theorem d_LAW_law_10 : decode code 10 = .ok (.iconst 1, 1) := by decide +kernel
theorem d_LAW_law_11 : decode code 11 = .ok (.invokestatic 9, 3) := by decide +kernel
theorem d_LAW_law_14 : decode code 14 = .ok (.invokespecial 15, 3) := by decide +kernel
theorem d_LAW_law_17 : decode code 17 = .ok (.astore_n 1, 1) := by decide +kernel
theorem d_LAW_law_18 : decode code 18 = .ok (.new 18, 3) := by decide +kernel
theorem d_LAW_law_21 : decode code 21 = .ok (.dup, 1) := by decide +kernel
theorem d_LAW_law_22 : decode code 22 = .ok (.aload_n 0, 1) := by decide +kernel
theorem d_LAW_law_23 : decode code 23 = .ok (.iconst 0, 1) := by decide +kernel
theorem d_LAW_law_24 : decode code 24 = .ok (.invokestatic 9, 3) := by decide +kernel
theorem d_LAW_law_27 : decode code 27 = .ok (.aload_n 0, 1) := by decide +kernel
theorem d_LAW_law_28 : decode code 28 = .ok (.iconst 1, 1) := by decide +kernel
theorem d_LAW_law_29 : decode code 29 = .ok (.invokestatic 9, 3) := by decide +kernel
theorem d_LAW_law_32 : decode code 32 = .ok (.invokespecial 20, 3) := by decide +kernel
theorem d_LAW_law_35 : decode code 35 = .ok (.astore_n 2, 1) := by decide +kernel
theorem d_LAW_law_36 : decode code 36 = .ok (.iconst 2, 1) := by decide +kernel
theorem d_LAW_law_37 : decode code 37 = .ok (.istore_n 3, 1) := by decide +kernel
theorem d_LAW_law_38 : decode code 38 = .ok (.iload_n 3, 1) := by decide +kernel
theorem d_LAW_law_39 : decode code 39 = .ok (.aload_n 0, 1) := by decide +kernel
theorem d_LAW_law_40 : decode code 40 = .ok (.arraylength, 1) := by decide +kernel
theorem d_LAW_law_41 : decode code 41 = .ok (.iconst 3, 1) := by decide +kernel
theorem d_LAW_law_42 : decode code 42 = .ok (.isub, 1) := by decide +kernel
theorem d_LAW_law_43 : decode code 43 = .ok (.if_icmp .gt 497, 3) := by decide +kernel
theorem d_LAW_law_46 : decode code 46 = .ok (.aload_n 0, 1) := by decide +kernel
theorem d_LAW_law_47 : decode code 47 = .ok (.iload_n 3, 1) := by decide +kernel
theorem d_LAW_law_48 : decode code 48 = .ok (.iaload, 1) := by decide +kernel
theorem d_LAW_law_49 : decode code 49 = .ok (.bipush 31, 2) := by decide +kernel
theorem d_LAW_law_51 : decode code 51 = .ok (.iand, 1) := by decide +kernel
theorem d_LAW_law_52 : decode code 52 = .ok (.tableswitch 482 0 17 #[88, 111, 124, 137, 160, 173, 196, 219, 242, 255, 278, 311, 334, 367, 400, 423, 436, 459], 88) := by decide +kernel
theorem d_LAW_law_140 : decode code 140 = .ok (.aload_n 1, 1) := by decide +kernel
theorem d_LAW_law_141 : decode code 141 = .ok (.aload_n 0, 1) := by decide +kernel
theorem d_LAW_law_142 : decode code 142 = .ok (.iload_n 3, 1) := by decide +kernel
theorem d_LAW_law_143 : decode code 143 = .ok (.iconst 1, 1) := by decide +kernel
theorem d_LAW_law_144 : decode code 144 = .ok (.iadd, 1) := by decide +kernel
theorem d_LAW_law_145 : decode code 145 = .ok (.iaload, 1) := by decide +kernel
theorem d_LAW_law_146 : decode code 146 = .ok (.invokevirtual 21, 3) := by decide +kernel
theorem d_LAW_law_149 : decode code 149 = .ok (.aload_n 2, 1) := by decide +kernel
theorem d_LAW_law_150 : decode code 150 = .ok (.aload_n 0, 1) := by decide +kernel
theorem d_LAW_law_151 : decode code 151 = .ok (.iload_n 3, 1) := by decide +kernel
theorem d_LAW_law_152 : decode code 152 = .ok (.iconst 1, 1) := by decide +kernel
theorem d_LAW_law_153 : decode code 153 = .ok (.iadd, 1) := by decide +kernel
theorem d_LAW_law_154 : decode code 154 = .ok (.iaload, 1) := by decide +kernel
theorem d_LAW_law_155 : decode code 155 = .ok (.invokevirtual 25, 3) := by decide +kernel
theorem d_LAW_law_158 : decode code 158 = .ok (.if_icmp .eq 376, 3) := by decide +kernel
theorem d_LAW_law_161 : decode code 161 = .ok (.iconst 0, 1) := by decide +kernel
theorem d_LAW_law_162 : decode code 162 = .ok (.ireturn, 1) := by decide +kernel
theorem d_LAW_law_163 : decode code 163 = .ok (.aload_n 1, 1) := by decide +kernel
theorem d_LAW_law_164 : decode code 164 = .ok (.invokevirtual 26, 3) := by decide +kernel
theorem d_LAW_law_167 : decode code 167 = .ok (.aload_n 2, 1) := by decide +kernel
theorem d_LAW_law_168 : decode code 168 = .ok (.invokevirtual 30, 3) := by decide +kernel
theorem d_LAW_law_171 : decode code 171 = .ok (.if_icmp .eq 363, 3) := by decide +kernel
theorem d_LAW_law_174 : decode code 174 = .ok (.iconst 0, 1) := by decide +kernel
theorem d_LAW_law_175 : decode code 175 = .ok (.ireturn, 1) := by decide +kernel
theorem d_LAW_law_176 : decode code 176 = .ok (.aload_n 1, 1) := by decide +kernel
theorem d_LAW_law_177 : decode code 177 = .ok (.invokevirtual 31, 3) := by decide +kernel
theorem d_LAW_law_180 : decode code 180 = .ok (.aload_n 2, 1) := by decide +kernel
theorem d_LAW_law_181 : decode code 181 = .ok (.invokevirtual 34, 3) := by decide +kernel
theorem d_LAW_law_184 : decode code 184 = .ok (.if_icmp .eq 350, 3) := by decide +kernel
theorem d_LAW_law_187 : decode code 187 = .ok (.iconst 0, 1) := by decide +kernel
theorem d_LAW_law_188 : decode code 188 = .ok (.ireturn, 1) := by decide +kernel
theorem d_LAW_law_189 : decode code 189 = .ok (.aload_n 1, 1) := by decide +kernel
theorem d_LAW_law_190 : decode code 190 = .ok (.aload_n 0, 1) := by decide +kernel
theorem d_LAW_law_191 : decode code 191 = .ok (.iload_n 3, 1) := by decide +kernel
theorem d_LAW_law_192 : decode code 192 = .ok (.iconst 1, 1) := by decide +kernel
theorem d_LAW_law_193 : decode code 193 = .ok (.iadd, 1) := by decide +kernel
theorem d_LAW_law_194 : decode code 194 = .ok (.iaload, 1) := by decide +kernel
theorem d_LAW_law_195 : decode code 195 = .ok (.invokevirtual 35, 3) := by decide +kernel
theorem d_LAW_law_198 : decode code 198 = .ok (.aload_n 2, 1) := by decide +kernel
theorem d_LAW_law_199 : decode code 199 = .ok (.aload_n 0, 1) := by decide +kernel
theorem d_LAW_law_200 : decode code 200 = .ok (.iload_n 3, 1) := by decide +kernel
theorem d_LAW_law_201 : decode code 201 = .ok (.iconst 1, 1) := by decide +kernel
theorem d_LAW_law_202 : decode code 202 = .ok (.iadd, 1) := by decide +kernel
theorem d_LAW_law_203 : decode code 203 = .ok (.iaload, 1) := by decide +kernel
theorem d_LAW_law_204 : decode code 204 = .ok (.invokevirtual 39, 3) := by decide +kernel
theorem d_LAW_law_207 : decode code 207 = .ok (.if_icmp .eq 327, 3) := by decide +kernel
theorem d_LAW_law_210 : decode code 210 = .ok (.iconst 0, 1) := by decide +kernel
theorem d_LAW_law_211 : decode code 211 = .ok (.ireturn, 1) := by decide +kernel
theorem d_LAW_law_212 : decode code 212 = .ok (.aload_n 1, 1) := by decide +kernel
theorem d_LAW_law_213 : decode code 213 = .ok (.invokevirtual 40, 3) := by decide +kernel
theorem d_LAW_law_216 : decode code 216 = .ok (.aload_n 2, 1) := by decide +kernel
theorem d_LAW_law_217 : decode code 217 = .ok (.invokevirtual 43, 3) := by decide +kernel
theorem d_LAW_law_220 : decode code 220 = .ok (.if_icmp .eq 314, 3) := by decide +kernel
theorem d_LAW_law_223 : decode code 223 = .ok (.iconst 0, 1) := by decide +kernel
theorem d_LAW_law_224 : decode code 224 = .ok (.ireturn, 1) := by decide +kernel
theorem d_LAW_law_225 : decode code 225 = .ok (.aload_n 1, 1) := by decide +kernel
theorem d_LAW_law_226 : decode code 226 = .ok (.aload_n 0, 1) := by decide +kernel
theorem d_LAW_law_227 : decode code 227 = .ok (.iload_n 3, 1) := by decide +kernel
theorem d_LAW_law_228 : decode code 228 = .ok (.iconst 1, 1) := by decide +kernel
theorem d_LAW_law_229 : decode code 229 = .ok (.iadd, 1) := by decide +kernel
theorem d_LAW_law_230 : decode code 230 = .ok (.iaload, 1) := by decide +kernel
theorem d_LAW_law_231 : decode code 231 = .ok (.invokevirtual 44, 3) := by decide +kernel
theorem d_LAW_law_234 : decode code 234 = .ok (.aload_n 2, 1) := by decide +kernel
theorem d_LAW_law_235 : decode code 235 = .ok (.aload_n 0, 1) := by decide +kernel
theorem d_LAW_law_236 : decode code 236 = .ok (.iload_n 3, 1) := by decide +kernel
theorem d_LAW_law_237 : decode code 237 = .ok (.iconst 1, 1) := by decide +kernel
theorem d_LAW_law_238 : decode code 238 = .ok (.iadd, 1) := by decide +kernel
theorem d_LAW_law_239 : decode code 239 = .ok (.iaload, 1) := by decide +kernel
theorem d_LAW_law_240 : decode code 240 = .ok (.invokevirtual 47, 3) := by decide +kernel
theorem d_LAW_law_243 : decode code 243 = .ok (.if_icmp .eq 291, 3) := by decide +kernel
theorem d_LAW_law_246 : decode code 246 = .ok (.iconst 0, 1) := by decide +kernel
theorem d_LAW_law_247 : decode code 247 = .ok (.ireturn, 1) := by decide +kernel
theorem d_LAW_law_248 : decode code 248 = .ok (.aload_n 1, 1) := by decide +kernel
theorem d_LAW_law_249 : decode code 249 = .ok (.aload_n 0, 1) := by decide +kernel
theorem d_LAW_law_250 : decode code 250 = .ok (.iload_n 3, 1) := by decide +kernel
theorem d_LAW_law_251 : decode code 251 = .ok (.iconst 1, 1) := by decide +kernel
theorem d_LAW_law_252 : decode code 252 = .ok (.iadd, 1) := by decide +kernel
theorem d_LAW_law_253 : decode code 253 = .ok (.iaload, 1) := by decide +kernel
theorem d_LAW_law_254 : decode code 254 = .ok (.invokevirtual 48, 3) := by decide +kernel
theorem d_LAW_law_257 : decode code 257 = .ok (.aload_n 2, 1) := by decide +kernel
theorem d_LAW_law_258 : decode code 258 = .ok (.aload_n 0, 1) := by decide +kernel
theorem d_LAW_law_259 : decode code 259 = .ok (.iload_n 3, 1) := by decide +kernel
theorem d_LAW_law_260 : decode code 260 = .ok (.iconst 1, 1) := by decide +kernel
theorem d_LAW_law_261 : decode code 261 = .ok (.iadd, 1) := by decide +kernel
theorem d_LAW_law_262 : decode code 262 = .ok (.iaload, 1) := by decide +kernel
theorem d_LAW_law_263 : decode code 263 = .ok (.invokevirtual 51, 3) := by decide +kernel
theorem d_LAW_law_266 : decode code 266 = .ok (.if_icmp .eq 268, 3) := by decide +kernel
theorem d_LAW_law_269 : decode code 269 = .ok (.iconst 0, 1) := by decide +kernel
theorem d_LAW_law_270 : decode code 270 = .ok (.ireturn, 1) := by decide +kernel
theorem d_LAW_law_271 : decode code 271 = .ok (.aload_n 1, 1) := by decide +kernel
theorem d_LAW_law_272 : decode code 272 = .ok (.aload_n 0, 1) := by decide +kernel
theorem d_LAW_law_273 : decode code 273 = .ok (.iload_n 3, 1) := by decide +kernel
theorem d_LAW_law_274 : decode code 274 = .ok (.iconst 1, 1) := by decide +kernel
theorem d_LAW_law_275 : decode code 275 = .ok (.iadd, 1) := by decide +kernel
theorem d_LAW_law_276 : decode code 276 = .ok (.iaload, 1) := by decide +kernel
theorem d_LAW_law_277 : decode code 277 = .ok (.invokevirtual 52, 3) := by decide +kernel
theorem d_LAW_law_280 : decode code 280 = .ok (.aload_n 2, 1) := by decide +kernel
theorem d_LAW_law_281 : decode code 281 = .ok (.aload_n 0, 1) := by decide +kernel
theorem d_LAW_law_282 : decode code 282 = .ok (.iload_n 3, 1) := by decide +kernel
theorem d_LAW_law_283 : decode code 283 = .ok (.iconst 1, 1) := by decide +kernel
theorem d_LAW_law_284 : decode code 284 = .ok (.iadd, 1) := by decide +kernel
theorem d_LAW_law_285 : decode code 285 = .ok (.iaload, 1) := by decide +kernel
theorem d_LAW_law_286 : decode code 286 = .ok (.invokevirtual 55, 3) := by decide +kernel
theorem d_LAW_law_289 : decode code 289 = .ok (.if_icmp .eq 245, 3) := by decide +kernel
theorem d_LAW_law_292 : decode code 292 = .ok (.iconst 0, 1) := by decide +kernel
theorem d_LAW_law_293 : decode code 293 = .ok (.ireturn, 1) := by decide +kernel
theorem d_LAW_law_294 : decode code 294 = .ok (.aload_n 1, 1) := by decide +kernel
theorem d_LAW_law_295 : decode code 295 = .ok (.invokevirtual 56, 3) := by decide +kernel
theorem d_LAW_law_298 : decode code 298 = .ok (.aload_n 2, 1) := by decide +kernel
theorem d_LAW_law_299 : decode code 299 = .ok (.invokevirtual 59, 3) := by decide +kernel
theorem d_LAW_law_302 : decode code 302 = .ok (.if_icmp .eq 232, 3) := by decide +kernel
theorem d_LAW_law_305 : decode code 305 = .ok (.iconst 0, 1) := by decide +kernel
theorem d_LAW_law_306 : decode code 306 = .ok (.ireturn, 1) := by decide +kernel
theorem d_LAW_law_307 : decode code 307 = .ok (.aload_n 1, 1) := by decide +kernel
theorem d_LAW_law_308 : decode code 308 = .ok (.aload_n 0, 1) := by decide +kernel
theorem d_LAW_law_309 : decode code 309 = .ok (.iload_n 3, 1) := by decide +kernel
theorem d_LAW_law_310 : decode code 310 = .ok (.iconst 1, 1) := by decide +kernel
theorem d_LAW_law_311 : decode code 311 = .ok (.iadd, 1) := by decide +kernel
theorem d_LAW_law_312 : decode code 312 = .ok (.iaload, 1) := by decide +kernel
theorem d_LAW_law_313 : decode code 313 = .ok (.invokevirtual 60, 3) := by decide +kernel
theorem d_LAW_law_316 : decode code 316 = .ok (.aload_n 2, 1) := by decide +kernel
theorem d_LAW_law_317 : decode code 317 = .ok (.aload_n 0, 1) := by decide +kernel
theorem d_LAW_law_318 : decode code 318 = .ok (.iload_n 3, 1) := by decide +kernel
theorem d_LAW_law_319 : decode code 319 = .ok (.iconst 1, 1) := by decide +kernel
theorem d_LAW_law_320 : decode code 320 = .ok (.iadd, 1) := by decide +kernel
theorem d_LAW_law_321 : decode code 321 = .ok (.iaload, 1) := by decide +kernel
theorem d_LAW_law_322 : decode code 322 = .ok (.invokevirtual 63, 3) := by decide +kernel
theorem d_LAW_law_325 : decode code 325 = .ok (.if_icmp .eq 209, 3) := by decide +kernel
theorem d_LAW_law_328 : decode code 328 = .ok (.iconst 0, 1) := by decide +kernel
theorem d_LAW_law_329 : decode code 329 = .ok (.ireturn, 1) := by decide +kernel
theorem d_LAW_law_330 : decode code 330 = .ok (.aload_n 1, 1) := by decide +kernel
theorem d_LAW_law_331 : decode code 331 = .ok (.aload_n 0, 1) := by decide +kernel
theorem d_LAW_law_332 : decode code 332 = .ok (.iload_n 3, 1) := by decide +kernel
theorem d_LAW_law_333 : decode code 333 = .ok (.iconst 1, 1) := by decide +kernel
theorem d_LAW_law_334 : decode code 334 = .ok (.iadd, 1) := by decide +kernel
theorem d_LAW_law_335 : decode code 335 = .ok (.iaload, 1) := by decide +kernel
theorem d_LAW_law_336 : decode code 336 = .ok (.aload_n 0, 1) := by decide +kernel
theorem d_LAW_law_337 : decode code 337 = .ok (.iload_n 3, 1) := by decide +kernel
theorem d_LAW_law_338 : decode code 338 = .ok (.iconst 2, 1) := by decide +kernel
theorem d_LAW_law_339 : decode code 339 = .ok (.iadd, 1) := by decide +kernel
theorem d_LAW_law_340 : decode code 340 = .ok (.iaload, 1) := by decide +kernel
theorem d_LAW_law_341 : decode code 341 = .ok (.invokevirtual 64, 3) := by decide +kernel
theorem d_LAW_law_344 : decode code 344 = .ok (.aload_n 2, 1) := by decide +kernel
theorem d_LAW_law_345 : decode code 345 = .ok (.aload_n 0, 1) := by decide +kernel
theorem d_LAW_law_346 : decode code 346 = .ok (.iload_n 3, 1) := by decide +kernel
theorem d_LAW_law_347 : decode code 347 = .ok (.iconst 1, 1) := by decide +kernel
theorem d_LAW_law_348 : decode code 348 = .ok (.iadd, 1) := by decide +kernel
theorem d_LAW_law_349 : decode code 349 = .ok (.iaload, 1) := by decide +kernel
theorem d_LAW_law_350 : decode code 350 = .ok (.aload_n 0, 1) := by decide +kernel
theorem d_LAW_law_351 : decode code 351 = .ok (.iload_n 3, 1) := by decide +kernel
theorem d_LAW_law_352 : decode code 352 = .ok (.iconst 2, 1) := by decide +kernel
theorem d_LAW_law_353 : decode code 353 = .ok (.iadd, 1) := by decide +kernel
theorem d_LAW_law_354 : decode code 354 = .ok (.iaload, 1) := by decide +kernel
theorem d_LAW_law_355 : decode code 355 = .ok (.invokevirtual 68, 3) := by decide +kernel
theorem d_LAW_law_358 : decode code 358 = .ok (.if_icmp .eq 176, 3) := by decide +kernel
theorem d_LAW_law_361 : decode code 361 = .ok (.iconst 0, 1) := by decide +kernel
theorem d_LAW_law_362 : decode code 362 = .ok (.ireturn, 1) := by decide +kernel
theorem d_LAW_law_363 : decode code 363 = .ok (.aload_n 1, 1) := by decide +kernel
theorem d_LAW_law_364 : decode code 364 = .ok (.aload_n 0, 1) := by decide +kernel
theorem d_LAW_law_365 : decode code 365 = .ok (.iload_n 3, 1) := by decide +kernel
theorem d_LAW_law_366 : decode code 366 = .ok (.iconst 1, 1) := by decide +kernel
theorem d_LAW_law_367 : decode code 367 = .ok (.iadd, 1) := by decide +kernel
theorem d_LAW_law_368 : decode code 368 = .ok (.iaload, 1) := by decide +kernel
theorem d_LAW_law_369 : decode code 369 = .ok (.invokevirtual 69, 3) := by decide +kernel
theorem d_LAW_law_372 : decode code 372 = .ok (.aload_n 2, 1) := by decide +kernel
theorem d_LAW_law_373 : decode code 373 = .ok (.aload_n 0, 1) := by decide +kernel
theorem d_LAW_law_374 : decode code 374 = .ok (.iload_n 3, 1) := by decide +kernel
theorem d_LAW_law_375 : decode code 375 = .ok (.iconst 1, 1) := by decide +kernel
theorem d_LAW_law_376 : decode code 376 = .ok (.iadd, 1) := by decide +kernel
theorem d_LAW_law_377 : decode code 377 = .ok (.iaload, 1) := by decide +kernel
theorem d_LAW_law_378 : decode code 378 = .ok (.invokevirtual 72, 3) := by decide +kernel
theorem d_LAW_law_381 : decode code 381 = .ok (.if_icmp .eq 153, 3) := by decide +kernel
theorem d_LAW_law_384 : decode code 384 = .ok (.iconst 0, 1) := by decide +kernel
theorem d_LAW_law_385 : decode code 385 = .ok (.ireturn, 1) := by decide +kernel
theorem d_LAW_law_386 : decode code 386 = .ok (.aload_n 1, 1) := by decide +kernel
theorem d_LAW_law_387 : decode code 387 = .ok (.aload_n 0, 1) := by decide +kernel
theorem d_LAW_law_388 : decode code 388 = .ok (.iload_n 3, 1) := by decide +kernel
theorem d_LAW_law_389 : decode code 389 = .ok (.iconst 1, 1) := by decide +kernel
theorem d_LAW_law_390 : decode code 390 = .ok (.iadd, 1) := by decide +kernel
theorem d_LAW_law_391 : decode code 391 = .ok (.iaload, 1) := by decide +kernel
theorem d_LAW_law_392 : decode code 392 = .ok (.aload_n 0, 1) := by decide +kernel
theorem d_LAW_law_393 : decode code 393 = .ok (.iload_n 3, 1) := by decide +kernel
theorem d_LAW_law_394 : decode code 394 = .ok (.iconst 2, 1) := by decide +kernel
theorem d_LAW_law_395 : decode code 395 = .ok (.iadd, 1) := by decide +kernel
theorem d_LAW_law_396 : decode code 396 = .ok (.iaload, 1) := by decide +kernel
theorem d_LAW_law_397 : decode code 397 = .ok (.invokevirtual 73, 3) := by decide +kernel
theorem d_LAW_law_400 : decode code 400 = .ok (.aload_n 2, 1) := by decide +kernel
theorem d_LAW_law_401 : decode code 401 = .ok (.aload_n 0, 1) := by decide +kernel
theorem d_LAW_law_402 : decode code 402 = .ok (.iload_n 3, 1) := by decide +kernel
theorem d_LAW_law_403 : decode code 403 = .ok (.iconst 1, 1) := by decide +kernel
theorem d_LAW_law_404 : decode code 404 = .ok (.iadd, 1) := by decide +kernel
theorem d_LAW_law_405 : decode code 405 = .ok (.iaload, 1) := by decide +kernel
theorem d_LAW_law_406 : decode code 406 = .ok (.aload_n 0, 1) := by decide +kernel
theorem d_LAW_law_407 : decode code 407 = .ok (.iload_n 3, 1) := by decide +kernel
theorem d_LAW_law_408 : decode code 408 = .ok (.iconst 2, 1) := by decide +kernel
theorem d_LAW_law_409 : decode code 409 = .ok (.iadd, 1) := by decide +kernel
theorem d_LAW_law_410 : decode code 410 = .ok (.iaload, 1) := by decide +kernel
theorem d_LAW_law_411 : decode code 411 = .ok (.invokevirtual 76, 3) := by decide +kernel
theorem d_LAW_law_414 : decode code 414 = .ok (.if_icmp .eq 120, 3) := by decide +kernel
theorem d_LAW_law_417 : decode code 417 = .ok (.iconst 0, 1) := by decide +kernel
theorem d_LAW_law_418 : decode code 418 = .ok (.ireturn, 1) := by decide +kernel
theorem d_LAW_law_419 : decode code 419 = .ok (.aload_n 1, 1) := by decide +kernel
theorem d_LAW_law_420 : decode code 420 = .ok (.aload_n 0, 1) := by decide +kernel
theorem d_LAW_law_421 : decode code 421 = .ok (.iload_n 3, 1) := by decide +kernel
theorem d_LAW_law_422 : decode code 422 = .ok (.iconst 1, 1) := by decide +kernel
theorem d_LAW_law_423 : decode code 423 = .ok (.iadd, 1) := by decide +kernel
theorem d_LAW_law_424 : decode code 424 = .ok (.iaload, 1) := by decide +kernel
theorem d_LAW_law_425 : decode code 425 = .ok (.aload_n 0, 1) := by decide +kernel
theorem d_LAW_law_426 : decode code 426 = .ok (.iload_n 3, 1) := by decide +kernel
theorem d_LAW_law_427 : decode code 427 = .ok (.iconst 2, 1) := by decide +kernel
theorem d_LAW_law_428 : decode code 428 = .ok (.iadd, 1) := by decide +kernel
theorem d_LAW_law_429 : decode code 429 = .ok (.iaload, 1) := by decide +kernel
theorem d_LAW_law_430 : decode code 430 = .ok (.invokevirtual 77, 3) := by decide +kernel
theorem d_LAW_law_433 : decode code 433 = .ok (.aload_n 2, 1) := by decide +kernel
theorem d_LAW_law_434 : decode code 434 = .ok (.aload_n 0, 1) := by decide +kernel
theorem d_LAW_law_435 : decode code 435 = .ok (.iload_n 3, 1) := by decide +kernel
theorem d_LAW_law_436 : decode code 436 = .ok (.iconst 1, 1) := by decide +kernel
theorem d_LAW_law_437 : decode code 437 = .ok (.iadd, 1) := by decide +kernel
theorem d_LAW_law_438 : decode code 438 = .ok (.iaload, 1) := by decide +kernel
theorem d_LAW_law_439 : decode code 439 = .ok (.aload_n 0, 1) := by decide +kernel
theorem d_LAW_law_440 : decode code 440 = .ok (.iload_n 3, 1) := by decide +kernel
theorem d_LAW_law_441 : decode code 441 = .ok (.iconst 2, 1) := by decide +kernel
theorem d_LAW_law_442 : decode code 442 = .ok (.iadd, 1) := by decide +kernel
theorem d_LAW_law_443 : decode code 443 = .ok (.iaload, 1) := by decide +kernel
theorem d_LAW_law_444 : decode code 444 = .ok (.invokevirtual 80, 3) := by decide +kernel
theorem d_LAW_law_447 : decode code 447 = .ok (.if_icmp .eq 87, 3) := by decide +kernel
theorem d_LAW_law_450 : decode code 450 = .ok (.iconst 0, 1) := by decide +kernel
theorem d_LAW_law_451 : decode code 451 = .ok (.ireturn, 1) := by decide +kernel
theorem d_LAW_law_452 : decode code 452 = .ok (.aload_n 1, 1) := by decide +kernel
theorem d_LAW_law_453 : decode code 453 = .ok (.aload_n 0, 1) := by decide +kernel
theorem d_LAW_law_454 : decode code 454 = .ok (.iload_n 3, 1) := by decide +kernel
theorem d_LAW_law_455 : decode code 455 = .ok (.iconst 1, 1) := by decide +kernel
theorem d_LAW_law_456 : decode code 456 = .ok (.iadd, 1) := by decide +kernel
theorem d_LAW_law_457 : decode code 457 = .ok (.iaload, 1) := by decide +kernel
theorem d_LAW_law_458 : decode code 458 = .ok (.invokevirtual 81, 3) := by decide +kernel
theorem d_LAW_law_461 : decode code 461 = .ok (.aload_n 2, 1) := by decide +kernel
theorem d_LAW_law_462 : decode code 462 = .ok (.aload_n 0, 1) := by decide +kernel
theorem d_LAW_law_463 : decode code 463 = .ok (.iload_n 3, 1) := by decide +kernel
theorem d_LAW_law_464 : decode code 464 = .ok (.iconst 1, 1) := by decide +kernel
theorem d_LAW_law_465 : decode code 465 = .ok (.iadd, 1) := by decide +kernel
theorem d_LAW_law_466 : decode code 466 = .ok (.iaload, 1) := by decide +kernel
theorem d_LAW_law_467 : decode code 467 = .ok (.invokevirtual 84, 3) := by decide +kernel
theorem d_LAW_law_470 : decode code 470 = .ok (.if_icmp .eq 64, 3) := by decide +kernel
theorem d_LAW_law_473 : decode code 473 = .ok (.iconst 0, 1) := by decide +kernel
theorem d_LAW_law_474 : decode code 474 = .ok (.ireturn, 1) := by decide +kernel
theorem d_LAW_law_475 : decode code 475 = .ok (.aload_n 1, 1) := by decide +kernel
theorem d_LAW_law_476 : decode code 476 = .ok (.invokevirtual 85, 3) := by decide +kernel
theorem d_LAW_law_479 : decode code 479 = .ok (.aload_n 2, 1) := by decide +kernel
theorem d_LAW_law_480 : decode code 480 = .ok (.invokevirtual 88, 3) := by decide +kernel
theorem d_LAW_law_483 : decode code 483 = .ok (.if_icmp .eq 51, 3) := by decide +kernel
theorem d_LAW_law_486 : decode code 486 = .ok (.iconst 0, 1) := by decide +kernel
theorem d_LAW_law_487 : decode code 487 = .ok (.ireturn, 1) := by decide +kernel
theorem d_LAW_law_488 : decode code 488 = .ok (.aload_n 1, 1) := by decide +kernel
theorem d_LAW_law_489 : decode code 489 = .ok (.aload_n 0, 1) := by decide +kernel
theorem d_LAW_law_490 : decode code 490 = .ok (.iload_n 3, 1) := by decide +kernel
theorem d_LAW_law_491 : decode code 491 = .ok (.iconst 1, 1) := by decide +kernel
theorem d_LAW_law_492 : decode code 492 = .ok (.iadd, 1) := by decide +kernel
theorem d_LAW_law_493 : decode code 493 = .ok (.iaload, 1) := by decide +kernel
theorem d_LAW_law_494 : decode code 494 = .ok (.invokevirtual 89, 3) := by decide +kernel
theorem d_LAW_law_497 : decode code 497 = .ok (.aload_n 2, 1) := by decide +kernel
theorem d_LAW_law_498 : decode code 498 = .ok (.aload_n 0, 1) := by decide +kernel
theorem d_LAW_law_499 : decode code 499 = .ok (.iload_n 3, 1) := by decide +kernel
theorem d_LAW_law_500 : decode code 500 = .ok (.iconst 1, 1) := by decide +kernel
theorem d_LAW_law_501 : decode code 501 = .ok (.iadd, 1) := by decide +kernel
theorem d_LAW_law_502 : decode code 502 = .ok (.iaload, 1) := by decide +kernel
theorem d_LAW_law_503 : decode code 503 = .ok (.invokevirtual 92, 3) := by decide +kernel
theorem d_LAW_law_506 : decode code 506 = .ok (.if_icmp .eq 28, 3) := by decide +kernel
theorem d_LAW_law_509 : decode code 509 = .ok (.iconst 0, 1) := by decide +kernel
theorem d_LAW_law_510 : decode code 510 = .ok (.ireturn, 1) := by decide +kernel
theorem d_LAW_law_511 : decode code 511 = .ok (.aload_n 1, 1) := by decide +kernel
theorem d_LAW_law_512 : decode code 512 = .ok (.aload_n 0, 1) := by decide +kernel
theorem d_LAW_law_513 : decode code 513 = .ok (.iload_n 3, 1) := by decide +kernel
theorem d_LAW_law_514 : decode code 514 = .ok (.iconst 1, 1) := by decide +kernel
theorem d_LAW_law_515 : decode code 515 = .ok (.iadd, 1) := by decide +kernel
theorem d_LAW_law_516 : decode code 516 = .ok (.iaload, 1) := by decide +kernel
theorem d_LAW_law_517 : decode code 517 = .ok (.invokevirtual 93, 3) := by decide +kernel
theorem d_LAW_law_520 : decode code 520 = .ok (.aload_n 2, 1) := by decide +kernel
theorem d_LAW_law_521 : decode code 521 = .ok (.aload_n 0, 1) := by decide +kernel
theorem d_LAW_law_522 : decode code 522 = .ok (.iload_n 3, 1) := by decide +kernel
theorem d_LAW_law_523 : decode code 523 = .ok (.iconst 1, 1) := by decide +kernel
theorem d_LAW_law_524 : decode code 524 = .ok (.iadd, 1) := by decide +kernel
theorem d_LAW_law_525 : decode code 525 = .ok (.iaload, 1) := by decide +kernel
theorem d_LAW_law_526 : decode code 526 = .ok (.invokevirtual 96, 3) := by decide +kernel
theorem d_LAW_law_529 : decode code 529 = .ok (.if_icmp .eq 5, 3) := by decide +kernel
theorem d_LAW_law_532 : decode code 532 = .ok (.iconst 0, 1) := by decide +kernel
theorem d_LAW_law_533 : decode code 533 = .ok (.ireturn, 1) := by decide +kernel
theorem d_LAW_law_534 : decode code 534 = .ok (.iinc 3 3, 3) := by decide +kernel
theorem d_LAW_law_537 : decode code 537 = .ok (.goto (-499), 3) := by decide +kernel
theorem d_LAW_law_540 : decode code 540 = .ok (.iconst 1, 1) := by decide +kernel
theorem d_LAW_law_541 : decode code 541 = .ok (.ireturn, 1) := by decide +kernel
end
section
set_option maxRecDepth 100000 in
theorem s_K_init : IMk m_K_init 2 := ⟨⟨(gw_at 72 (by decide +kernel) (by decide +kernel)), (gw_at 84 rfl rfl), by decide, by decide +kernel⟩, rfl, (gw_at 83 (by decide +kernel) (by decide +kernel)), rfl⟩
set_option maxRecDepth 100000 in
theorem s_K_load : VMk 0 m_K_load 1 := ⟨⟨(gw_at 72 (by decide +kernel) (by decide +kernel)), (gw_at 229 rfl rfl), by decide, by decide +kernel⟩, (gw_at 227 (by decide +kernel) (by decide +kernel)), (gw_at 228 (by decide +kernel) (by decide +kernel)), ⟨_, rfl, rfl⟩⟩
set_option maxRecDepth 100000 in
theorem s_K_boot : VMk 0 m_K_boot 0 := ⟨⟨(gw_at 72 (by decide +kernel) (by decide +kernel)), (gw_at 233 rfl rfl), by decide, by decide +kernel⟩, (gw_at 231 (by decide +kernel) (by decide +kernel)), (gw_at 232 (by decide +kernel) (by decide +kernel)), ⟨_, rfl, rfl⟩⟩
set_option maxRecDepth 100000 in
theorem s_K_step : VMk 0 m_K_step 0 := ⟨⟨(gw_at 72 (by decide +kernel) (by decide +kernel)), (gw_at 265 rfl rfl), by decide, by decide +kernel⟩, (gw_at 263 (by decide +kernel) (by decide +kernel)), (gw_at 264 (by decide +kernel) (by decide +kernel)), ⟨_, rfl, rfl⟩⟩
set_option maxRecDepth 100000 in
theorem s_K_run : VMk 0 m_K_run 1 := ⟨⟨(gw_at 72 (by decide +kernel) (by decide +kernel)), (gw_at 543 rfl rfl), by decide, by decide +kernel⟩, (gw_at 541 (by decide +kernel) (by decide +kernel)), (gw_at 542 (by decide +kernel) (by decide +kernel)), ⟨_, rfl, rfl⟩⟩
set_option maxRecDepth 100000 in
theorem s_K_current : VMk 0 m_K_current 0 := ⟨⟨(gw_at 72 (by decide +kernel) (by decide +kernel)), (gw_at 547 rfl rfl), by decide, by decide +kernel⟩, (gw_at 545 (by decide +kernel) (by decide +kernel)), (gw_at 546 (by decide +kernel) (by decide +kernel)), ⟨_, rfl, rfl⟩⟩
set_option maxRecDepth 100000 in
theorem s_K_stateOf : VMk 0 m_K_stateOf 1 := ⟨⟨(gw_at 72 (by decide +kernel) (by decide +kernel)), (gw_at 551 rfl rfl), by decide, by decide +kernel⟩, (gw_at 549 (by decide +kernel) (by decide +kernel)), (gw_at 550 (by decide +kernel) (by decide +kernel)), ⟨_, rfl, rfl⟩⟩
set_option maxRecDepth 100000 in
theorem s_K_exitOf : VMk 0 m_K_exitOf 1 := ⟨⟨(gw_at 72 (by decide +kernel) (by decide +kernel)), (gw_at 555 rfl rfl), by decide, by decide +kernel⟩, (gw_at 553 (by decide +kernel) (by decide +kernel)), (gw_at 554 (by decide +kernel) (by decide +kernel)), ⟨_, rfl, rfl⟩⟩
set_option maxRecDepth 100000 in
theorem s_K_parentOf : VMk 0 m_K_parentOf 1 := ⟨⟨(gw_at 72 (by decide +kernel) (by decide +kernel)), (gw_at 559 rfl rfl), by decide, by decide +kernel⟩, (gw_at 557 (by decide +kernel) (by decide +kernel)), (gw_at 558 (by decide +kernel) (by decide +kernel)), ⟨_, rfl, rfl⟩⟩
set_option maxRecDepth 100000 in
theorem s_K_freeFrames : VMk 0 m_K_freeFrames 0 := ⟨⟨(gw_at 72 (by decide +kernel) (by decide +kernel)), (gw_at 563 rfl rfl), by decide, by decide +kernel⟩, (gw_at 561 (by decide +kernel) (by decide +kernel)), (gw_at 562 (by decide +kernel) (by decide +kernel)), ⟨_, rfl, rfl⟩⟩
set_option maxRecDepth 100000 in
theorem s_K_pages : VMk 0 m_K_pages 1 := ⟨⟨(gw_at 72 (by decide +kernel) (by decide +kernel)), (gw_at 567 rfl rfl), by decide, by decide +kernel⟩, (gw_at 565 (by decide +kernel) (by decide +kernel)), (gw_at 566 (by decide +kernel) (by decide +kernel)), ⟨_, rfl, rfl⟩⟩
set_option maxRecDepth 100000 in
theorem s_K_register : VMk 0 m_K_register 2 := ⟨⟨(gw_at 72 (by decide +kernel) (by decide +kernel)), (gw_at 571 rfl rfl), by decide, by decide +kernel⟩, (gw_at 569 (by decide +kernel) (by decide +kernel)), (gw_at 570 (by decide +kernel) (by decide +kernel)), ⟨_, rfl, rfl⟩⟩
set_option maxRecDepth 100000 in
theorem s_K_pc : VMk 0 m_K_pc 1 := ⟨⟨(gw_at 72 (by decide +kernel) (by decide +kernel)), (gw_at 575 rfl rfl), by decide, by decide +kernel⟩, (gw_at 573 (by decide +kernel) (by decide +kernel)), (gw_at 574 (by decide +kernel) (by decide +kernel)), ⟨_, rfl, rfl⟩⟩
set_option maxRecDepth 100000 in
theorem s_K_word : VMk 0 m_K_word 2 := ⟨⟨(gw_at 72 (by decide +kernel) (by decide +kernel)), (gw_at 579 rfl rfl), by decide, by decide +kernel⟩, (gw_at 577 (by decide +kernel) (by decide +kernel)), (gw_at 578 (by decide +kernel) (by decide +kernel)), ⟨_, rfl, rfl⟩⟩
set_option maxRecDepth 100000 in
theorem s_K_descriptor : VMk 0 m_K_descriptor 2 := ⟨⟨(gw_at 72 (by decide +kernel) (by decide +kernel)), (gw_at 584 rfl rfl), by decide, by decide +kernel⟩, (gw_at 582 (by decide +kernel) (by decide +kernel)), (gw_at 583 (by decide +kernel) (by decide +kernel)), ⟨_, rfl, rfl⟩⟩
set_option maxRecDepth 100000 in
theorem s_K_held : VMk 0 m_K_held 1 := ⟨⟨(gw_at 72 (by decide +kernel) (by decide +kernel)), (gw_at 588 rfl rfl), by decide, by decide +kernel⟩, (gw_at 586 (by decide +kernel) (by decide +kernel)), (gw_at 587 (by decide +kernel) (by decide +kernel)), ⟨_, rfl, rfl⟩⟩
set_option maxRecDepth 100000 in
theorem s_K_consoleLength : VMk 0 m_K_consoleLength 0 := ⟨⟨(gw_at 72 (by decide +kernel) (by decide +kernel)), (gw_at 592 rfl rfl), by decide, by decide +kernel⟩, (gw_at 590 (by decide +kernel) (by decide +kernel)), (gw_at 591 (by decide +kernel) (by decide +kernel)), ⟨_, rfl, rfl⟩⟩
set_option maxRecDepth 100000 in
theorem s_K_console : VMk 0 m_K_console 1 := ⟨⟨(gw_at 72 (by decide +kernel) (by decide +kernel)), (gw_at 596 rfl rfl), by decide, by decide +kernel⟩, (gw_at 594 (by decide +kernel) (by decide +kernel)), (gw_at 595 (by decide +kernel) (by decide +kernel)), ⟨_, rfl, rfl⟩⟩
set_option maxRecDepth 100000 in
theorem s_K_waitingTurn : VMk 0 m_K_waitingTurn 1 := ⟨⟨(gw_at 72 (by decide +kernel) (by decide +kernel)), (gw_at 600 rfl rfl), by decide, by decide +kernel⟩, (gw_at 598 (by decide +kernel) (by decide +kernel)), (gw_at 599 (by decide +kernel) (by decide +kernel)), ⟨_, rfl, rfl⟩⟩
set_option maxRecDepth 100000 in
theorem s_K_within : SMk m_K_within 3 := ⟨⟨(gw_at 72 (by decide +kernel) (by decide +kernel)), (gw_at 92 rfl rfl), by decide, by decide +kernel⟩, (gw_at 91 (by decide +kernel) (by decide +kernel))⟩
set_option maxRecDepth 100000 in
theorem s_K_find : VMk 0 m_K_find 1 := ⟨⟨(gw_at 72 (by decide +kernel) (by decide +kernel)), (gw_at 285 rfl rfl), by decide, by decide +kernel⟩, (gw_at 284 (by decide +kernel) (by decide +kernel)), (gw_at 3 (by decide +kernel) (by decide +kernel)), ⟨_, rfl, rfl⟩⟩
set_option maxRecDepth 100000 in
theorem s_K_allHaveEnded : VMk 0 m_K_allHaveEnded 0 := ⟨⟨(gw_at 72 (by decide +kernel) (by decide +kernel)), (gw_at 539 rfl rfl), by decide, by decide +kernel⟩, (gw_at 538 (by decide +kernel) (by decide +kernel)), (gw_at 28 (by decide +kernel) (by decide +kernel)), ⟨_, rfl, rfl⟩⟩
set_option maxRecDepth 100000 in
theorem s_K_makeReady : VMk 0 m_K_makeReady 1 := ⟨⟨(gw_at 72 (by decide +kernel) (by decide +kernel)), (gw_at 257 rfl rfl), by decide, by decide +kernel⟩, (gw_at 256 (by decide +kernel) (by decide +kernel)), (gw_at 1 (by decide +kernel) (by decide +kernel)), ⟨_, rfl, rfl⟩⟩
set_option maxRecDepth 100000 in
theorem s_K_makeStep : VMk 0 m_K_makeStep 0 := ⟨⟨(gw_at 72 (by decide +kernel) (by decide +kernel)), (gw_at 269 rfl rfl), by decide, by decide +kernel⟩, (gw_at 268 (by decide +kernel) (by decide +kernel)), (gw_at 2 (by decide +kernel) (by decide +kernel)), ⟨_, rfl, rfl⟩⟩
set_option maxRecDepth 100000 in
theorem s_K_passTurn : VMk 0 m_K_passTurn 1 := ⟨⟨(gw_at 72 (by decide +kernel) (by decide +kernel)), (gw_at 527 rfl rfl), by decide, by decide +kernel⟩, (gw_at 526 (by decide +kernel) (by decide +kernel)), (gw_at 26 (by decide +kernel) (by decide +kernel)), ⟨_, rfl, rfl⟩⟩
set_option maxRecDepth 100000 in
theorem s_K_wakeSleepers : VMk 0 m_K_wakeSleepers 0 := ⟨⟨(gw_at 72 (by decide +kernel) (by decide +kernel)), (gw_at 531 rfl rfl), by decide, by decide +kernel⟩, (gw_at 530 (by decide +kernel) (by decide +kernel)), (gw_at 27 (by decide +kernel) (by decide +kernel)), ⟨_, rfl, rfl⟩⟩
set_option maxRecDepth 100000 in
theorem s_K_beginCall : VMk 0 m_K_beginCall 1 := ⟨⟨(gw_at 72 (by decide +kernel) (by decide +kernel)), (gw_at 377 rfl rfl), by decide, by decide +kernel⟩, (gw_at 376 (by decide +kernel) (by decide +kernel)), (gw_at 4 (by decide +kernel) (by decide +kernel)), ⟨_, rfl, rfl⟩⟩
set_option maxRecDepth 100000 in
theorem s_K_obstacleOf : VMk 0 m_K_obstacleOf 1 := ⟨⟨(gw_at 72 (by decide +kernel) (by decide +kernel)), (gw_at 381 rfl rfl), by decide, by decide +kernel⟩, (gw_at 380 (by decide +kernel) (by decide +kernel)), (gw_at 5 (by decide +kernel) (by decide +kernel)), ⟨_, rfl, rfl⟩⟩
set_option maxRecDepth 100000 in
theorem s_K_answerOf : VMk 0 m_K_answerOf 2 := ⟨⟨(gw_at 72 (by decide +kernel) (by decide +kernel)), (gw_at 424 rfl rfl), by decide, by decide +kernel⟩, (gw_at 423 (by decide +kernel) (by decide +kernel)), (gw_at 10 (by decide +kernel) (by decide +kernel)), ⟨_, rfl, rfl⟩⟩
set_option maxRecDepth 100000 in
theorem s_K_fork : VMk 0 m_K_fork 1 := ⟨⟨(gw_at 72 (by decide +kernel) (by decide +kernel)), (gw_at 445 rfl rfl), by decide, by decide +kernel⟩, (gw_at 444 (by decide +kernel) (by decide +kernel)), (gw_at 13 (by decide +kernel) (by decide +kernel)), ⟨_, rfl, rfl⟩⟩
set_option maxRecDepth 100000 in
theorem s_K_leastAbsent : VMk 0 m_K_leastAbsent 0 := ⟨⟨(gw_at 72 (by decide +kernel) (by decide +kernel)), (gw_at 449 rfl rfl), by decide, by decide +kernel⟩, (gw_at 448 (by decide +kernel) (by decide +kernel)), (gw_at 14 (by decide +kernel) (by decide +kernel)), ⟨_, rfl, rfl⟩⟩
set_option maxRecDepth 100000 in
theorem s_K_collectChild : VMk 0 m_K_collectChild 1 := ⟨⟨(gw_at 72 (by decide +kernel) (by decide +kernel)), (gw_at 465 rfl rfl), by decide, by decide +kernel⟩, (gw_at 464 (by decide +kernel) (by decide +kernel)), (gw_at 15 (by decide +kernel) (by decide +kernel)), ⟨_, rfl, rfl⟩⟩
set_option maxRecDepth 100000 in
theorem s_K_endedChildOf : VMk 0 m_K_endedChildOf 1 := ⟨⟨(gw_at 72 (by decide +kernel) (by decide +kernel)), (gw_at 398 rfl rfl), by decide, by decide +kernel⟩, (gw_at 397 (by decide +kernel) (by decide +kernel)), (gw_at 7 (by decide +kernel) (by decide +kernel)), ⟨_, rfl, rfl⟩⟩
set_option maxRecDepth 100000 in
theorem s_K_hasChild : VMk 0 m_K_hasChild 1 := ⟨⟨(gw_at 72 (by decide +kernel) (by decide +kernel)), (gw_at 390 rfl rfl), by decide, by decide +kernel⟩, (gw_at 389 (by decide +kernel) (by decide +kernel)), (gw_at 6 (by decide +kernel) (by decide +kernel)), ⟨_, rfl, rfl⟩⟩
set_option maxRecDepth 100000 in
theorem s_K_grow : VMk 0 m_K_grow 2 := ⟨⟨(gw_at 72 (by decide +kernel) (by decide +kernel)), (gw_at 469 rfl rfl), by decide, by decide +kernel⟩, (gw_at 468 (by decide +kernel) (by decide +kernel)), (gw_at 16 (by decide +kernel) (by decide +kernel)), ⟨_, rfl, rfl⟩⟩
set_option maxRecDepth 100000 in
theorem s_K_write : VMk 0 m_K_write 2 := ⟨⟨(gw_at 72 (by decide +kernel) (by decide +kernel)), (gw_at 473 rfl rfl), by decide, by decide +kernel⟩, (gw_at 472 (by decide +kernel) (by decide +kernel)), (gw_at 17 (by decide +kernel) (by decide +kernel)), ⟨_, rfl, rfl⟩⟩
set_option maxRecDepth 100000 in
theorem s_K_print : VMk 0 m_K_print 1 := ⟨⟨(gw_at 72 (by decide +kernel) (by decide +kernel)), (gw_at 477 rfl rfl), by decide, by decide +kernel⟩, (gw_at 476 (by decide +kernel) (by decide +kernel)), (gw_at 18 (by decide +kernel) (by decide +kernel)), ⟨_, rfl, rfl⟩⟩
set_option maxRecDepth 100000 in
theorem s_K_read : VMk 0 m_K_read 1 := ⟨⟨(gw_at 72 (by decide +kernel) (by decide +kernel)), (gw_at 486 rfl rfl), by decide, by decide +kernel⟩, (gw_at 485 (by decide +kernel) (by decide +kernel)), (gw_at 19 (by decide +kernel) (by decide +kernel)), ⟨_, rfl, rfl⟩⟩
set_option maxRecDepth 100000 in
theorem s_K_openPipe : VMk 0 m_K_openPipe 1 := ⟨⟨(gw_at 72 (by decide +kernel) (by decide +kernel)), (gw_at 495 rfl rfl), by decide, by decide +kernel⟩, (gw_at 494 (by decide +kernel) (by decide +kernel)), (gw_at 20 (by decide +kernel) (by decide +kernel)), ⟨_, rfl, rfl⟩⟩
set_option maxRecDepth 100000 in
theorem s_K_close : VMk 0 m_K_close 2 := ⟨⟨(gw_at 72 (by decide +kernel) (by decide +kernel)), (gw_at 515 rfl rfl), by decide, by decide +kernel⟩, (gw_at 514 (by decide +kernel) (by decide +kernel)), (gw_at 23 (by decide +kernel) (by decide +kernel)), ⟨_, rfl, rfl⟩⟩
set_option maxRecDepth 100000 in
theorem s_K_duplicate : VMk 0 m_K_duplicate 2 := ⟨⟨(gw_at 72 (by decide +kernel) (by decide +kernel)), (gw_at 519 rfl rfl), by decide, by decide +kernel⟩, (gw_at 518 (by decide +kernel) (by decide +kernel)), (gw_at 24 (by decide +kernel) (by decide +kernel)), ⟨_, rfl, rfl⟩⟩
set_option maxRecDepth 100000 in
theorem s_K_kill : VMk 0 m_K_kill 1 := ⟨⟨(gw_at 72 (by decide +kernel) (by decide +kernel)), (gw_at 523 rfl rfl), by decide, by decide +kernel⟩, (gw_at 522 (by decide +kernel) (by decide +kernel)), (gw_at 25 (by decide +kernel) (by decide +kernel)), ⟨_, rfl, rfl⟩⟩
set_option maxRecDepth 100000 in
theorem s_K_end : VMk 0 m_K_end 2 := ⟨⟨(gw_at 72 (by decide +kernel) (by decide +kernel)), (gw_at 428 rfl rfl), by decide, by decide +kernel⟩, (gw_at 427 (by decide +kernel) (by decide +kernel)), (gw_at 11 (by decide +kernel) (by decide +kernel)), ⟨_, rfl, rfl⟩⟩
set_option maxRecDepth 100000 in
theorem s_K_handOverChildren : VMk 0 m_K_handOverChildren 1 := ⟨⟨(gw_at 72 (by decide +kernel) (by decide +kernel)), (gw_at 441 rfl rfl), by decide, by decide +kernel⟩, (gw_at 440 (by decide +kernel) (by decide +kernel)), (gw_at 12 (by decide +kernel) (by decide +kernel)), ⟨_, rfl, rfl⟩⟩
set_option maxRecDepth 100000 in
theorem s_K_isReadingEnd : SMk m_K_isReadingEnd 1 := ⟨⟨(gw_at 72 (by decide +kernel) (by decide +kernel)), (gw_at 416 rfl rfl), by decide, by decide +kernel⟩, (gw_at 415 (by decide +kernel) (by decide +kernel))⟩
set_option maxRecDepth 100000 in
theorem s_K_isWritingEnd : SMk m_K_isWritingEnd 1 := ⟨⟨(gw_at 72 (by decide +kernel) (by decide +kernel)), (gw_at 401 rfl rfl), by decide, by decide +kernel⟩, (gw_at 400 (by decide +kernel) (by decide +kernel))⟩
set_option maxRecDepth 100000 in
theorem s_K_pipeOf : VMk 0 m_K_pipeOf 1 := ⟨⟨(gw_at 72 (by decide +kernel) (by decide +kernel)), (gw_at 405 rfl rfl), by decide, by decide +kernel⟩, (gw_at 404 (by decide +kernel) (by decide +kernel)), (gw_at 8 (by decide +kernel) (by decide +kernel)), ⟨_, rfl, rfl⟩⟩
set_option maxRecDepth 100000 in
theorem s_K_isHeld : VMk 0 m_K_isHeld 1 := ⟨⟨(gw_at 72 (by decide +kernel) (by decide +kernel)), (gw_at 413 rfl rfl), by decide, by decide +kernel⟩, (gw_at 412 (by decide +kernel) (by decide +kernel)), (gw_at 9 (by decide +kernel) (by decide +kernel)), ⟨_, rfl, rfl⟩⟩
set_option maxRecDepth 100000 in
theorem s_K_leastFreeReadingEnd : VMk 0 m_K_leastFreeReadingEnd 0 := ⟨⟨(gw_at 72 (by decide +kernel) (by decide +kernel)), (gw_at 499 rfl rfl), by decide, by decide +kernel⟩, (gw_at 498 (by decide +kernel) (by decide +kernel)), (gw_at 21 (by decide +kernel) (by decide +kernel)), ⟨_, rfl, rfl⟩⟩
set_option maxRecDepth 100000 in
theorem s_K_isFreePipe : VMk 0 m_K_isFreePipe 1 := ⟨⟨(gw_at 72 (by decide +kernel) (by decide +kernel)), (gw_at 503 rfl rfl), by decide, by decide +kernel⟩, (gw_at 502 (by decide +kernel) (by decide +kernel)), (gw_at 22 (by decide +kernel) (by decide +kernel)), ⟨_, rfl, rfl⟩⟩
set_option maxRecDepth 100000 in
theorem s_MOD_init : IMk m_MOD_init 2 := ⟨⟨(gw_at 77 (by decide +kernel) (by decide +kernel)), (gw_at 609 rfl rfl), by decide, by decide +kernel⟩, rfl, (gw_at 608 (by decide +kernel) (by decide +kernel)), rfl⟩
set_option maxRecDepth 100000 in
theorem s_MOD_load : VMk 5 m_MOD_load 1 := ⟨⟨(gw_at 77 (by decide +kernel) (by decide +kernel)), (gw_at 699 rfl rfl), by decide, by decide +kernel⟩, (gw_at 697 (by decide +kernel) (by decide +kernel)), (gw_at 698 (by decide +kernel) (by decide +kernel)), ⟨_, rfl, rfl⟩⟩
set_option maxRecDepth 100000 in
theorem s_MOD_freeFrames : VMk 5 m_MOD_freeFrames 0 := ⟨⟨(gw_at 77 (by decide +kernel) (by decide +kernel)), (gw_at 703 rfl rfl), by decide, by decide +kernel⟩, (gw_at 701 (by decide +kernel) (by decide +kernel)), (gw_at 702 (by decide +kernel) (by decide +kernel)), ⟨_, rfl, rfl⟩⟩
set_option maxRecDepth 100000 in
theorem s_MOD_grow : VMk 5 m_MOD_grow 1 := ⟨⟨(gw_at 77 (by decide +kernel) (by decide +kernel)), (gw_at 711 rfl rfl), by decide, by decide +kernel⟩, (gw_at 710 (by decide +kernel) (by decide +kernel)), (gw_at 29 (by decide +kernel) (by decide +kernel)), ⟨_, rfl, rfl⟩⟩
set_option maxRecDepth 100000 in
theorem s_MOD_boot : VMk 5 m_MOD_boot 0 := ⟨⟨(gw_at 77 (by decide +kernel) (by decide +kernel)), (gw_at 707 rfl rfl), by decide, by decide +kernel⟩, (gw_at 705 (by decide +kernel) (by decide +kernel)), (gw_at 706 (by decide +kernel) (by decide +kernel)), ⟨_, rfl, rfl⟩⟩
set_option maxRecDepth 100000 in
theorem s_MOD_wake : VMk 5 m_MOD_wake 1 := ⟨⟨(gw_at 77 (by decide +kernel) (by decide +kernel)), (gw_at 715 rfl rfl), by decide, by decide +kernel⟩, (gw_at 714 (by decide +kernel) (by decide +kernel)), (gw_at 30 (by decide +kernel) (by decide +kernel)), ⟨_, rfl, rfl⟩⟩
set_option maxRecDepth 100000 in
theorem s_MOD_there : VMk 5 m_MOD_there 2 := ⟨⟨(gw_at 77 (by decide +kernel) (by decide +kernel)), (gw_at 731 rfl rfl), by decide, by decide +kernel⟩, (gw_at 730 (by decide +kernel) (by decide +kernel)), (gw_at 33 (by decide +kernel) (by decide +kernel)), ⟨_, rfl, rfl⟩⟩
set_option maxRecDepth 100000 in
theorem s_MOD_cellOf : VMk 5 m_MOD_cellOf 2 := ⟨⟨(gw_at 77 (by decide +kernel) (by decide +kernel)), (gw_at 755 rfl rfl), by decide, by decide +kernel⟩, (gw_at 754 (by decide +kernel) (by decide +kernel)), (gw_at 39 (by decide +kernel) (by decide +kernel)), ⟨_, rfl, rfl⟩⟩
set_option maxRecDepth 100000 in
theorem s_MOD_byteAt : VMk 5 m_MOD_byteAt 2 := ⟨⟨(gw_at 77 (by decide +kernel) (by decide +kernel)), (gw_at 803 rfl rfl), by decide, by decide +kernel⟩, (gw_at 802 (by decide +kernel) (by decide +kernel)), (gw_at 50 (by decide +kernel) (by decide +kernel)), ⟨_, rfl, rfl⟩⟩
set_option maxRecDepth 100000 in
theorem s_MOD_putByte : VMk 5 m_MOD_putByte 3 := ⟨⟨(gw_at 77 (by decide +kernel) (by decide +kernel)), (gw_at 811 rfl rfl), by decide, by decide +kernel⟩, (gw_at 810 (by decide +kernel) (by decide +kernel)), (gw_at 52 (by decide +kernel) (by decide +kernel)), ⟨_, rfl, rfl⟩⟩
set_option maxRecDepth 100000 in
theorem s_MOD_isHeld : VMk 5 m_MOD_isHeld 1 := ⟨⟨(gw_at 77 (by decide +kernel) (by decide +kernel)), (gw_at 747 rfl rfl), by decide, by decide +kernel⟩, (gw_at 746 (by decide +kernel) (by decide +kernel)), (gw_at 37 (by decide +kernel) (by decide +kernel)), ⟨_, rfl, rfl⟩⟩
set_option maxRecDepth 100000 in
theorem s_MOD_tidyPipes : VMk 5 m_MOD_tidyPipes 0 := ⟨⟨(gw_at 77 (by decide +kernel) (by decide +kernel)), (gw_at 743 rfl rfl), by decide, by decide +kernel⟩, (gw_at 742 (by decide +kernel) (by decide +kernel)), (gw_at 36 (by decide +kernel) (by decide +kernel)), ⟨_, rfl, rfl⟩⟩
set_option maxRecDepth 100000 in
theorem s_MOD_descriptorOf : VMk 5 m_MOD_descriptorOf 2 := ⟨⟨(gw_at 77 (by decide +kernel) (by decide +kernel)), (gw_at 848 rfl rfl), by decide, by decide +kernel⟩, (gw_at 847 (by decide +kernel) (by decide +kernel)), (gw_at 61 (by decide +kernel) (by decide +kernel)), ⟨_, rfl, rfl⟩⟩
set_option maxRecDepth 100000 in
theorem s_MOD_freeDescriptor : VMk 5 m_MOD_freeDescriptor 1 := ⟨⟨(gw_at 77 (by decide +kernel) (by decide +kernel)), (gw_at 864 rfl rfl), by decide, by decide +kernel⟩, (gw_at 863 (by decide +kernel) (by decide +kernel)), (gw_at 65 (by decide +kernel) (by decide +kernel)), ⟨_, rfl, rfl⟩⟩
set_option maxRecDepth 100000 in
theorem s_MOD_end : VMk 5 m_MOD_end 2 := ⟨⟨(gw_at 77 (by decide +kernel) (by decide +kernel)), (gw_at 739 rfl rfl), by decide, by decide +kernel⟩, (gw_at 738 (by decide +kernel) (by decide +kernel)), (gw_at 35 (by decide +kernel) (by decide +kernel)), ⟨_, rfl, rfl⟩⟩
set_option maxRecDepth 100000 in
theorem s_MOD_unrow : VMk 5 m_MOD_unrow 1 := ⟨⟨(gw_at 77 (by decide +kernel) (by decide +kernel)), (gw_at 723 rfl rfl), by decide, by decide +kernel⟩, (gw_at 722 (by decide +kernel) (by decide +kernel)), (gw_at 31 (by decide +kernel) (by decide +kernel)), ⟨_, rfl, rfl⟩⟩
set_option maxRecDepth 100000 in
theorem s_MOD_remove : VMk 5 m_MOD_remove 1 := ⟨⟨(gw_at 77 (by decide +kernel) (by decide +kernel)), (gw_at 751 rfl rfl), by decide, by decide +kernel⟩, (gw_at 750 (by decide +kernel) (by decide +kernel)), (gw_at 38 (by decide +kernel) (by decide +kernel)), ⟨_, rfl, rfl⟩⟩
set_option maxRecDepth 100000 in
theorem s_MOD_fault : VMk 5 m_MOD_fault 1 := ⟨⟨(gw_at 77 (by decide +kernel) (by decide +kernel)), (gw_at 735 rfl rfl), by decide, by decide +kernel⟩, (gw_at 734 (by decide +kernel) (by decide +kernel)), (gw_at 34 (by decide +kernel) (by decide +kernel)), ⟨_, rfl, rfl⟩⟩
set_option maxRecDepth 100000 in
theorem s_MOD_get : VMk 5 m_MOD_get 1 := ⟨⟨(gw_at 77 (by decide +kernel) (by decide +kernel)), (gw_at 779 rfl rfl), by decide, by decide +kernel⟩, (gw_at 778 (by decide +kernel) (by decide +kernel)), (gw_at 45 (by decide +kernel) (by decide +kernel)), ⟨_, rfl, rfl⟩⟩
set_option maxRecDepth 100000 in
theorem s_MOD_set : VMk 5 m_MOD_set 2 := ⟨⟨(gw_at 77 (by decide +kernel) (by decide +kernel)), (gw_at 767 rfl rfl), by decide, by decide +kernel⟩, (gw_at 766 (by decide +kernel) (by decide +kernel)), (gw_at 42 (by decide +kernel) (by decide +kernel)), ⟨_, rfl, rfl⟩⟩
set_option maxRecDepth 100000 in
theorem s_MOD_bits : VMk 5 m_MOD_bits 2 := ⟨⟨(gw_at 77 (by decide +kernel) (by decide +kernel)), (gw_at 759 rfl rfl), by decide, by decide +kernel⟩, (gw_at 758 (by decide +kernel) (by decide +kernel)), (gw_at 40 (by decide +kernel) (by decide +kernel)), ⟨_, rfl, rfl⟩⟩
set_option maxRecDepth 100000 in
theorem s_MOD_d : VMk 5 m_MOD_d 0 := ⟨⟨(gw_at 77 (by decide +kernel) (by decide +kernel)), (gw_at 763 rfl rfl), by decide, by decide +kernel⟩, (gw_at 762 (by decide +kernel) (by decide +kernel)), (gw_at 41 (by decide +kernel) (by decide +kernel)), ⟨_, rfl, rfl⟩⟩
set_option maxRecDepth 100000 in
theorem s_MOD_s : VMk 5 m_MOD_s 0 := ⟨⟨(gw_at 77 (by decide +kernel) (by decide +kernel)), (gw_at 775 rfl rfl), by decide, by decide +kernel⟩, (gw_at 774 (by decide +kernel) (by decide +kernel)), (gw_at 44 (by decide +kernel) (by decide +kernel)), ⟨_, rfl, rfl⟩⟩
set_option maxRecDepth 100000 in
theorem s_MOD_t : VMk 5 m_MOD_t 0 := ⟨⟨(gw_at 77 (by decide +kernel) (by decide +kernel)), (gw_at 787 rfl rfl), by decide, by decide +kernel⟩, (gw_at 786 (by decide +kernel) (by decide +kernel)), (gw_at 47 (by decide +kernel) (by decide +kernel)), ⟨_, rfl, rfl⟩⟩
set_option maxRecDepth 100000 in
theorem s_MOD_less : SMk m_MOD_less 3 := ⟨⟨(gw_at 77 (by decide +kernel) (by decide +kernel)), (gw_at 790 rfl rfl), by decide, by decide +kernel⟩, (gw_at 789 (by decide +kernel) (by decide +kernel))⟩
set_option maxRecDepth 100000 in
theorem s_MOD_instruction : VMk 5 m_MOD_instruction 0 := ⟨⟨(gw_at 77 (by decide +kernel) (by decide +kernel)), (gw_at 727 rfl rfl), by decide, by decide +kernel⟩, (gw_at 726 (by decide +kernel) (by decide +kernel)), (gw_at 32 (by decide +kernel) (by decide +kernel)), ⟨_, rfl, rfl⟩⟩
set_option maxRecDepth 100000 in
theorem s_MOD_jump : VMk 5 m_MOD_jump 1 := ⟨⟨(gw_at 77 (by decide +kernel) (by decide +kernel)), (gw_at 771 rfl rfl), by decide, by decide +kernel⟩, (gw_at 770 (by decide +kernel) (by decide +kernel)), (gw_at 43 (by decide +kernel) (by decide +kernel)), ⟨_, rfl, rfl⟩⟩
set_option maxRecDepth 100000 in
theorem s_MOD_branch : VMk 5 m_MOD_branch 1 := ⟨⟨(gw_at 77 (by decide +kernel) (by decide +kernel)), (gw_at 783 rfl rfl), by decide, by decide +kernel⟩, (gw_at 782 (by decide +kernel) (by decide +kernel)), (gw_at 46 (by decide +kernel) (by decide +kernel)), ⟨_, rfl, rfl⟩⟩
set_option maxRecDepth 100000 in
theorem s_MOD_reach : VMk 5 m_MOD_reach 3 := ⟨⟨(gw_at 77 (by decide +kernel) (by decide +kernel)), (gw_at 799 rfl rfl), by decide, by decide +kernel⟩, (gw_at 798 (by decide +kernel) (by decide +kernel)), (gw_at 49 (by decide +kernel) (by decide +kernel)), ⟨_, rfl, rfl⟩⟩
set_option maxRecDepth 100000 in
theorem s_MOD_read : VMk 5 m_MOD_read 0 := ⟨⟨(gw_at 77 (by decide +kernel) (by decide +kernel)), (gw_at 795 rfl rfl), by decide, by decide +kernel⟩, (gw_at 794 (by decide +kernel) (by decide +kernel)), (gw_at 48 (by decide +kernel) (by decide +kernel)), ⟨_, rfl, rfl⟩⟩
set_option maxRecDepth 100000 in
theorem s_MOD_write : VMk 5 m_MOD_write 0 := ⟨⟨(gw_at 77 (by decide +kernel) (by decide +kernel)), (gw_at 807 rfl rfl), by decide, by decide +kernel⟩, (gw_at 806 (by decide +kernel) (by decide +kernel)), (gw_at 51 (by decide +kernel) (by decide +kernel)), ⟨_, rfl, rfl⟩⟩
set_option maxRecDepth 100000 in
theorem s_MOD_compute : VMk 5 m_MOD_compute 1 := ⟨⟨(gw_at 77 (by decide +kernel) (by decide +kernel)), (gw_at 815 rfl rfl), by decide, by decide +kernel⟩, (gw_at 814 (by decide +kernel) (by decide +kernel)), (gw_at 53 (by decide +kernel) (by decide +kernel)), ⟨_, rfl, rfl⟩⟩
set_option maxRecDepth 100000 in
theorem s_MOD_call : VMk 5 m_MOD_call 0 := ⟨⟨(gw_at 77 (by decide +kernel) (by decide +kernel)), (gw_at 819 rfl rfl), by decide, by decide +kernel⟩, (gw_at 818 (by decide +kernel) (by decide +kernel)), (gw_at 54 (by decide +kernel) (by decide +kernel)), ⟨_, rfl, rfl⟩⟩
set_option maxRecDepth 100000 in
theorem s_MOD_leave : VMk 5 m_MOD_leave 1 := ⟨⟨(gw_at 77 (by decide +kernel) (by decide +kernel)), (gw_at 823 rfl rfl), by decide, by decide +kernel⟩, (gw_at 822 (by decide +kernel) (by decide +kernel)), (gw_at 55 (by decide +kernel) (by decide +kernel)), ⟨_, rfl, rfl⟩⟩
set_option maxRecDepth 100000 in
theorem s_MOD_block : VMk 5 m_MOD_block 1 := ⟨⟨(gw_at 77 (by decide +kernel) (by decide +kernel)), (gw_at 840 rfl rfl), by decide, by decide +kernel⟩, (gw_at 839 (by decide +kernel) (by decide +kernel)), (gw_at 59 (by decide +kernel) (by decide +kernel)), ⟨_, rfl, rfl⟩⟩
set_option maxRecDepth 100000 in
theorem s_MOD_fork : VMk 5 m_MOD_fork 0 := ⟨⟨(gw_at 77 (by decide +kernel) (by decide +kernel)), (gw_at 827 rfl rfl), by decide, by decide +kernel⟩, (gw_at 826 (by decide +kernel) (by decide +kernel)), (gw_at 56 (by decide +kernel) (by decide +kernel)), ⟨_, rfl, rfl⟩⟩
set_option maxRecDepth 100000 in
theorem s_MOD_lostChild : VMk 5 m_MOD_lostChild 1 := ⟨⟨(gw_at 77 (by decide +kernel) (by decide +kernel)), (gw_at 836 rfl rfl), by decide, by decide +kernel⟩, (gw_at 835 (by decide +kernel) (by decide +kernel)), (gw_at 58 (by decide +kernel) (by decide +kernel)), ⟨_, rfl, rfl⟩⟩
set_option maxRecDepth 100000 in
theorem s_MOD_waits : VMk 5 m_MOD_waits 0 := ⟨⟨(gw_at 77 (by decide +kernel) (by decide +kernel)), (gw_at 832 rfl rfl), by decide, by decide +kernel⟩, (gw_at 831 (by decide +kernel) (by decide +kernel)), (gw_at 57 (by decide +kernel) (by decide +kernel)), ⟨_, rfl, rfl⟩⟩
set_option maxRecDepth 100000 in
theorem s_MOD_more : VMk 5 m_MOD_more 1 := ⟨⟨(gw_at 77 (by decide +kernel) (by decide +kernel)), (gw_at 844 rfl rfl), by decide, by decide +kernel⟩, (gw_at 843 (by decide +kernel) (by decide +kernel)), (gw_at 60 (by decide +kernel) (by decide +kernel)), ⟨_, rfl, rfl⟩⟩
set_option maxRecDepth 100000 in
theorem s_MOD_send : VMk 5 m_MOD_send 1 := ⟨⟨(gw_at 77 (by decide +kernel) (by decide +kernel)), (gw_at 852 rfl rfl), by decide, by decide +kernel⟩, (gw_at 851 (by decide +kernel) (by decide +kernel)), (gw_at 62 (by decide +kernel) (by decide +kernel)), ⟨_, rfl, rfl⟩⟩
set_option maxRecDepth 100000 in
theorem s_MOD_take : VMk 5 m_MOD_take 1 := ⟨⟨(gw_at 77 (by decide +kernel) (by decide +kernel)), (gw_at 856 rfl rfl), by decide, by decide +kernel⟩, (gw_at 855 (by decide +kernel) (by decide +kernel)), (gw_at 63 (by decide +kernel) (by decide +kernel)), ⟨_, rfl, rfl⟩⟩
set_option maxRecDepth 100000 in
theorem s_MOD_pipe : VMk 5 m_MOD_pipe 0 := ⟨⟨(gw_at 77 (by decide +kernel) (by decide +kernel)), (gw_at 860 rfl rfl), by decide, by decide +kernel⟩, (gw_at 859 (by decide +kernel) (by decide +kernel)), (gw_at 64 (by decide +kernel) (by decide +kernel)), ⟨_, rfl, rfl⟩⟩
set_option maxRecDepth 100000 in
theorem s_MOD_close : VMk 5 m_MOD_close 1 := ⟨⟨(gw_at 77 (by decide +kernel) (by decide +kernel)), (gw_at 868 rfl rfl), by decide, by decide +kernel⟩, (gw_at 867 (by decide +kernel) (by decide +kernel)), (gw_at 66 (by decide +kernel) (by decide +kernel)), ⟨_, rfl, rfl⟩⟩
set_option maxRecDepth 100000 in
theorem s_MOD_duplicate : VMk 5 m_MOD_duplicate 1 := ⟨⟨(gw_at 77 (by decide +kernel) (by decide +kernel)), (gw_at 872 rfl rfl), by decide, by decide +kernel⟩, (gw_at 871 (by decide +kernel) (by decide +kernel)), (gw_at 67 (by decide +kernel) (by decide +kernel)), ⟨_, rfl, rfl⟩⟩
set_option maxRecDepth 100000 in
theorem s_MOD_kill : VMk 5 m_MOD_kill 1 := ⟨⟨(gw_at 77 (by decide +kernel) (by decide +kernel)), (gw_at 876 rfl rfl), by decide, by decide +kernel⟩, (gw_at 875 (by decide +kernel) (by decide +kernel)), (gw_at 68 (by decide +kernel) (by decide +kernel)), ⟨_, rfl, rfl⟩⟩
set_option maxRecDepth 100000 in
theorem s_MOD_mayGo : VMk 5 m_MOD_mayGo 1 := ⟨⟨(gw_at 77 (by decide +kernel) (by decide +kernel)), (gw_at 881 rfl rfl), by decide, by decide +kernel⟩, (gw_at 880 (by decide +kernel) (by decide +kernel)), (gw_at 69 (by decide +kernel) (by decide +kernel)), ⟨_, rfl, rfl⟩⟩
set_option maxRecDepth 100000 in
theorem s_MOD_step : VMk 5 m_MOD_step 0 := ⟨⟨(gw_at 77 (by decide +kernel) (by decide +kernel)), (gw_at 719 rfl rfl), by decide, by decide +kernel⟩, (gw_at 717 (by decide +kernel) (by decide +kernel)), (gw_at 718 (by decide +kernel) (by decide +kernel)), ⟨_, rfl, rfl⟩⟩
set_option maxRecDepth 100000 in
theorem s_MOD_run : VMk 5 m_MOD_run 1 := ⟨⟨(gw_at 77 (by decide +kernel) (by decide +kernel)), (gw_at 885 rfl rfl), by decide, by decide +kernel⟩, (gw_at 883 (by decide +kernel) (by decide +kernel)), (gw_at 884 (by decide +kernel) (by decide +kernel)), ⟨_, rfl, rfl⟩⟩
set_option maxRecDepth 100000 in
theorem s_MOD_is : VMk 5 m_MOD_is 1 := ⟨⟨(gw_at 77 (by decide +kernel) (by decide +kernel)), (gw_at 898 rfl rfl), by decide, by decide +kernel⟩, (gw_at 897 (by decide +kernel) (by decide +kernel)), (gw_at 70 (by decide +kernel) (by decide +kernel)), ⟨_, rfl, rfl⟩⟩
set_option maxRecDepth 100000 in
theorem s_MOD_current : VMk 5 m_MOD_current 0 := ⟨⟨(gw_at 77 (by decide +kernel) (by decide +kernel)), (gw_at 890 rfl rfl), by decide, by decide +kernel⟩, (gw_at 888 (by decide +kernel) (by decide +kernel)), (gw_at 889 (by decide +kernel) (by decide +kernel)), ⟨_, rfl, rfl⟩⟩
set_option maxRecDepth 100000 in
theorem s_MOD_stateOf : VMk 5 m_MOD_stateOf 1 := ⟨⟨(gw_at 77 (by decide +kernel) (by decide +kernel)), (gw_at 894 rfl rfl), by decide, by decide +kernel⟩, (gw_at 892 (by decide +kernel) (by decide +kernel)), (gw_at 893 (by decide +kernel) (by decide +kernel)), ⟨_, rfl, rfl⟩⟩
set_option maxRecDepth 100000 in
theorem s_MOD_exitOf : VMk 5 m_MOD_exitOf 1 := ⟨⟨(gw_at 77 (by decide +kernel) (by decide +kernel)), (gw_at 902 rfl rfl), by decide, by decide +kernel⟩, (gw_at 900 (by decide +kernel) (by decide +kernel)), (gw_at 901 (by decide +kernel) (by decide +kernel)), ⟨_, rfl, rfl⟩⟩
set_option maxRecDepth 100000 in
theorem s_MOD_parentOf : VMk 5 m_MOD_parentOf 1 := ⟨⟨(gw_at 77 (by decide +kernel) (by decide +kernel)), (gw_at 906 rfl rfl), by decide, by decide +kernel⟩, (gw_at 904 (by decide +kernel) (by decide +kernel)), (gw_at 905 (by decide +kernel) (by decide +kernel)), ⟨_, rfl, rfl⟩⟩
set_option maxRecDepth 100000 in
theorem s_MOD_pages : VMk 5 m_MOD_pages 1 := ⟨⟨(gw_at 77 (by decide +kernel) (by decide +kernel)), (gw_at 910 rfl rfl), by decide, by decide +kernel⟩, (gw_at 908 (by decide +kernel) (by decide +kernel)), (gw_at 909 (by decide +kernel) (by decide +kernel)), ⟨_, rfl, rfl⟩⟩
set_option maxRecDepth 100000 in
theorem s_MOD_register : VMk 5 m_MOD_register 2 := ⟨⟨(gw_at 77 (by decide +kernel) (by decide +kernel)), (gw_at 914 rfl rfl), by decide, by decide +kernel⟩, (gw_at 912 (by decide +kernel) (by decide +kernel)), (gw_at 913 (by decide +kernel) (by decide +kernel)), ⟨_, rfl, rfl⟩⟩
set_option maxRecDepth 100000 in
theorem s_MOD_pc : VMk 5 m_MOD_pc 1 := ⟨⟨(gw_at 77 (by decide +kernel) (by decide +kernel)), (gw_at 918 rfl rfl), by decide, by decide +kernel⟩, (gw_at 916 (by decide +kernel) (by decide +kernel)), (gw_at 917 (by decide +kernel) (by decide +kernel)), ⟨_, rfl, rfl⟩⟩
set_option maxRecDepth 100000 in
theorem s_MOD_word : VMk 5 m_MOD_word 2 := ⟨⟨(gw_at 77 (by decide +kernel) (by decide +kernel)), (gw_at 922 rfl rfl), by decide, by decide +kernel⟩, (gw_at 920 (by decide +kernel) (by decide +kernel)), (gw_at 921 (by decide +kernel) (by decide +kernel)), ⟨_, rfl, rfl⟩⟩
set_option maxRecDepth 100000 in
theorem s_MOD_descriptor : VMk 5 m_MOD_descriptor 2 := ⟨⟨(gw_at 77 (by decide +kernel) (by decide +kernel)), (gw_at 926 rfl rfl), by decide, by decide +kernel⟩, (gw_at 924 (by decide +kernel) (by decide +kernel)), (gw_at 925 (by decide +kernel) (by decide +kernel)), ⟨_, rfl, rfl⟩⟩
set_option maxRecDepth 100000 in
theorem s_MOD_held : VMk 5 m_MOD_held 1 := ⟨⟨(gw_at 77 (by decide +kernel) (by decide +kernel)), (gw_at 930 rfl rfl), by decide, by decide +kernel⟩, (gw_at 928 (by decide +kernel) (by decide +kernel)), (gw_at 929 (by decide +kernel) (by decide +kernel)), ⟨_, rfl, rfl⟩⟩
set_option maxRecDepth 100000 in
theorem s_MOD_consoleLength : VMk 5 m_MOD_consoleLength 0 := ⟨⟨(gw_at 77 (by decide +kernel) (by decide +kernel)), (gw_at 934 rfl rfl), by decide, by decide +kernel⟩, (gw_at 932 (by decide +kernel) (by decide +kernel)), (gw_at 933 (by decide +kernel) (by decide +kernel)), ⟨_, rfl, rfl⟩⟩
set_option maxRecDepth 100000 in
theorem s_MOD_console : VMk 5 m_MOD_console 1 := ⟨⟨(gw_at 77 (by decide +kernel) (by decide +kernel)), (gw_at 938 rfl rfl), by decide, by decide +kernel⟩, (gw_at 936 (by decide +kernel) (by decide +kernel)), (gw_at 937 (by decide +kernel) (by decide +kernel)), ⟨_, rfl, rfl⟩⟩
set_option maxRecDepth 100000 in
theorem s_MOD_waitingTurn : VMk 5 m_MOD_waitingTurn 1 := ⟨⟨(gw_at 77 (by decide +kernel) (by decide +kernel)), (gw_at 942 rfl rfl), by decide, by decide +kernel⟩, (gw_at 940 (by decide +kernel) (by decide +kernel)), (gw_at 941 (by decide +kernel) (by decide +kernel)), ⟨_, rfl, rfl⟩⟩
set_option maxRecDepth 100000 in
theorem s_X_execute : SMk m_X_execute 2 := ⟨⟨(gw_at 78 (by decide +kernel) (by decide +kernel)), (gw_at 288 rfl rfl), by decide, by decide +kernel⟩, (gw_at 287 (by decide +kernel) (by decide +kernel))⟩
set_option maxRecDepth 100000 in
theorem s_X_special : SMk m_X_special 1 := ⟨⟨(gw_at 78 (by decide +kernel) (by decide +kernel)), (gw_at 372 rfl rfl), by decide, by decide +kernel⟩, (gw_at 371 (by decide +kernel) (by decide +kernel))⟩
set_option maxRecDepth 100000 in
theorem s_X_go : SMk m_X_go 1 := ⟨⟨(gw_at 78 (by decide +kernel) (by decide +kernel)), (gw_at 299 rfl rfl), by decide, by decide +kernel⟩, (gw_at 298 (by decide +kernel) (by decide +kernel))⟩
set_option maxRecDepth 100000 in
theorem s_X_setAndGo : SMk m_X_setAndGo 3 := ⟨⟨(gw_at 78 (by decide +kernel) (by decide +kernel)), (gw_at 295 rfl rfl), by decide, by decide +kernel⟩, (gw_at 294 (by decide +kernel) (by decide +kernel))⟩
set_option maxRecDepth 100000 in
theorem s_X_jump : SMk m_X_jump 3 := ⟨⟨(gw_at 78 (by decide +kernel) (by decide +kernel)), (gw_at 306 rfl rfl), by decide, by decide +kernel⟩, (gw_at 305 (by decide +kernel) (by decide +kernel))⟩
set_option maxRecDepth 100000 in
theorem s_X_jumpByRegister : SMk m_X_jumpByRegister 2 := ⟨⟨(gw_at 78 (by decide +kernel) (by decide +kernel)), (gw_at 309 rfl rfl), by decide, by decide +kernel⟩, (gw_at 308 (by decide +kernel) (by decide +kernel))⟩
set_option maxRecDepth 100000 in
theorem s_X_branch : SMk m_X_branch 2 := ⟨⟨(gw_at 78 (by decide +kernel) (by decide +kernel)), (gw_at 325 rfl rfl), by decide, by decide +kernel⟩, (gw_at 324 (by decide +kernel) (by decide +kernel))⟩
set_option maxRecDepth 100000 in
theorem s_X_holdsTrue : SMk m_X_holdsTrue 3 := ⟨⟨(gw_at 78 (by decide +kernel) (by decide +kernel)), (gw_at 331 rfl rfl), by decide, by decide +kernel⟩, (gw_at 330 (by decide +kernel) (by decide +kernel))⟩
set_option maxRecDepth 100000 in
theorem s_X_fetch : SMk m_X_fetch 3 := ⟨⟨(gw_at 78 (by decide +kernel) (by decide +kernel)), (gw_at 341 rfl rfl), by decide, by decide +kernel⟩, (gw_at 340 (by decide +kernel) (by decide +kernel))⟩
set_option maxRecDepth 100000 in
theorem s_X_widen : SMk m_X_widen 2 := ⟨⟨(gw_at 78 (by decide +kernel) (by decide +kernel)), (gw_at 347 rfl rfl), by decide, by decide +kernel⟩, (gw_at 346 (by decide +kernel) (by decide +kernel))⟩
set_option maxRecDepth 100000 in
theorem s_X_put : SMk m_X_put 3 := ⟨⟨(gw_at 78 (by decide +kernel) (by decide +kernel)), (gw_at 351 rfl rfl), by decide, by decide +kernel⟩, (gw_at 350 (by decide +kernel) (by decide +kernel))⟩
set_option maxRecDepth 100000 in
theorem s_X_maskOf : SMk m_X_maskOf 1 := ⟨⟨(gw_at 78 (by decide +kernel) (by decide +kernel)), (gw_at 357 rfl rfl), by decide, by decide +kernel⟩, (gw_at 356 (by decide +kernel) (by decide +kernel))⟩
set_option maxRecDepth 100000 in
theorem s_X_isCrooked : SMk m_X_isCrooked 2 := ⟨⟨(gw_at 78 (by decide +kernel) (by decide +kernel)), (gw_at 344 rfl rfl), by decide, by decide +kernel⟩, (gw_at 343 (by decide +kernel) (by decide +kernel))⟩
set_option maxRecDepth 100000 in
theorem s_X_computeWithNumber : SMk m_X_computeWithNumber 2 := ⟨⟨(gw_at 78 (by decide +kernel) (by decide +kernel)), (gw_at 360 rfl rfl), by decide, by decide +kernel⟩, (gw_at 359 (by decide +kernel) (by decide +kernel))⟩
set_option maxRecDepth 100000 in
theorem s_X_computeWithRegister : SMk m_X_computeWithRegister 2 := ⟨⟨(gw_at 78 (by decide +kernel) (by decide +kernel)), (gw_at 369 rfl rfl), by decide, by decide +kernel⟩, (gw_at 368 (by decide +kernel) (by decide +kernel))⟩
set_option maxRecDepth 100000 in
theorem s_X_compute : SMk m_X_compute 3 := ⟨⟨(gw_at 78 (by decide +kernel) (by decide +kernel)), (gw_at 366 rfl rfl), by decide, by decide +kernel⟩, (gw_at 365 (by decide +kernel) (by decide +kernel))⟩
set_option maxRecDepth 100000 in
theorem s_X_isBelow : SMk m_X_isBelow 2 := ⟨⟨(gw_at 78 (by decide +kernel) (by decide +kernel)), (gw_at 334 rfl rfl), by decide, by decide +kernel⟩, (gw_at 333 (by decide +kernel) (by decide +kernel))⟩
set_option maxRecDepth 100000 in
theorem s_X_first : SMk m_X_first 2 := ⟨⟨(gw_at 78 (by decide +kernel) (by decide +kernel)), (gw_at 315 rfl rfl), by decide, by decide +kernel⟩, (gw_at 314 (by decide +kernel) (by decide +kernel))⟩
set_option maxRecDepth 100000 in
theorem s_X_second : SMk m_X_second 2 := ⟨⟨(gw_at 78 (by decide +kernel) (by decide +kernel)), (gw_at 328 rfl rfl), by decide, by decide +kernel⟩, (gw_at 327 (by decide +kernel) (by decide +kernel))⟩
set_option maxRecDepth 100000 in
theorem s_X_selector : SMk m_X_selector 1 := ⟨⟨(gw_at 78 (by decide +kernel) (by decide +kernel)), (gw_at 312 rfl rfl), by decide, by decide +kernel⟩, (gw_at 311 (by decide +kernel) (by decide +kernel))⟩
set_option maxRecDepth 100000 in
theorem s_X_variant : SMk m_X_variant 1 := ⟨⟨(gw_at 78 (by decide +kernel) (by decide +kernel)), (gw_at 363 rfl rfl), by decide, by decide +kernel⟩, (gw_at 362 (by decide +kernel) (by decide +kernel))⟩
set_option maxRecDepth 100000 in
theorem s_X_shortNumber : SMk m_X_shortNumber 1 := ⟨⟨(gw_at 78 (by decide +kernel) (by decide +kernel)), (gw_at 322 rfl rfl), by decide, by decide +kernel⟩, (gw_at 321 (by decide +kernel) (by decide +kernel))⟩
set_option maxRecDepth 100000 in
theorem s_X_putNumber : SMk m_X_putNumber 1 := ⟨⟨(gw_at 78 (by decide +kernel) (by decide +kernel)), (gw_at 354 rfl rfl), by decide, by decide +kernel⟩, (gw_at 353 (by decide +kernel) (by decide +kernel))⟩
set_option maxRecDepth 100000 in
theorem s_X_branchNumber : SMk m_X_branchNumber 1 := ⟨⟨(gw_at 78 (by decide +kernel) (by decide +kernel)), (gw_at 338 rfl rfl), by decide, by decide +kernel⟩, (gw_at 337 (by decide +kernel) (by decide +kernel))⟩
set_option maxRecDepth 100000 in
theorem s_X_jumpNumber : SMk m_X_jumpNumber 1 := ⟨⟨(gw_at 78 (by decide +kernel) (by decide +kernel)), (gw_at 302 rfl rfl), by decide, by decide +kernel⟩, (gw_at 301 (by decide +kernel) (by decide +kernel))⟩
set_option maxRecDepth 100000 in
theorem s_X_upperNumber : SMk m_X_upperNumber 1 := ⟨⟨(gw_at 78 (by decide +kernel) (by decide +kernel)), (gw_at 292 rfl rfl), by decide, by decide +kernel⟩, (gw_at 291 (by decide +kernel) (by decide +kernel))⟩
set_option maxRecDepth 100000 in
theorem s_MEM_init : IMk m_MEM_init 1 := ⟨⟨(gw_at 73 (by decide +kernel) (by decide +kernel)), (gw_at 95 rfl rfl), by decide, by decide +kernel⟩, rfl, (gw_at 94 (by decide +kernel) (by decide +kernel)), rfl⟩
set_option maxRecDepth 100000 in
theorem s_MEM_give : VMk 1 m_MEM_give 2 := ⟨⟨(gw_at 73 (by decide +kernel) (by decide +kernel)), (gw_at 237 rfl rfl), by decide, by decide +kernel⟩, (gw_at 235 (by decide +kernel) (by decide +kernel)), (gw_at 236 (by decide +kernel) (by decide +kernel)), ⟨_, rfl, rfl⟩⟩
set_option maxRecDepth 100000 in
theorem s_MEM_takeBack : VMk 1 m_MEM_takeBack 1 := ⟨⟨(gw_at 73 (by decide +kernel) (by decide +kernel)), (gw_at 432 rfl rfl), by decide, by decide +kernel⟩, (gw_at 430 (by decide +kernel) (by decide +kernel)), (gw_at 431 (by decide +kernel) (by decide +kernel)), ⟨_, rfl, rfl⟩⟩
set_option maxRecDepth 100000 in
theorem s_MEM_copyPages : VMk 1 m_MEM_copyPages 2 := ⟨⟨(gw_at 73 (by decide +kernel) (by decide +kernel)), (gw_at 460 rfl rfl), by decide, by decide +kernel⟩, (gw_at 458 (by decide +kernel) (by decide +kernel)), (gw_at 459 (by decide +kernel) (by decide +kernel)), ⟨_, rfl, rfl⟩⟩
set_option maxRecDepth 100000 in
theorem s_MEM_copyProgram : VMk 1 m_MEM_copyProgram 3 := ⟨⟨(gw_at 73 (by decide +kernel) (by decide +kernel)), (gw_at 245 rfl rfl), by decide, by decide +kernel⟩, (gw_at 243 (by decide +kernel) (by decide +kernel)), (gw_at 244 (by decide +kernel) (by decide +kernel)), ⟨_, rfl, rfl⟩⟩
set_option maxRecDepth 100000 in
theorem s_MEM_placeOf : VMk 1 m_MEM_placeOf 2 := ⟨⟨(gw_at 73 (by decide +kernel) (by decide +kernel)), (gw_at 249 rfl rfl), by decide, by decide +kernel⟩, (gw_at 247 (by decide +kernel) (by decide +kernel)), (gw_at 248 (by decide +kernel) (by decide +kernel)), ⟨_, rfl, rfl⟩⟩
set_option maxRecDepth 100000 in
theorem s_MEM_clear : VMk 1 m_MEM_clear 1 := ⟨⟨(gw_at 73 (by decide +kernel) (by decide +kernel)), (gw_at 241 rfl rfl), by decide, by decide +kernel⟩, (gw_at 240 (by decide +kernel) (by decide +kernel)), (gw_at 0 (by decide +kernel) (by decide +kernel)), ⟨_, rfl, rfl⟩⟩
end
section
set_option maxRecDepth 100000 in
theorem s_P_init : IMk m_P_init 0 := ⟨⟨(gw_at 75 (by decide +kernel) (by decide +kernel)), (gw_at 160 rfl rfl), by decide, by decide +kernel⟩, rfl, (gw_at 159 (by decide +kernel) (by decide +kernel)), rfl⟩
set_option maxRecDepth 100000 in
theorem s_P_isEmpty : VMk 3 m_P_isEmpty 0 := ⟨⟨(gw_at 75 (by decide +kernel) (by decide +kernel)), (gw_at 420 rfl rfl), by decide, by decide +kernel⟩, (gw_at 418 (by decide +kernel) (by decide +kernel)), (gw_at 419 (by decide +kernel) (by decide +kernel)), ⟨_, rfl, rfl⟩⟩
set_option maxRecDepth 100000 in
theorem s_P_isFull : VMk 3 m_P_isFull 0 := ⟨⟨(gw_at 75 (by decide +kernel) (by decide +kernel)), (gw_at 409 rfl rfl), by decide, by decide +kernel⟩, (gw_at 407 (by decide +kernel) (by decide +kernel)), (gw_at 408 (by decide +kernel) (by decide +kernel)), ⟨_, rfl, rfl⟩⟩
set_option maxRecDepth 100000 in
theorem s_P_put : VMk 3 m_P_put 1 := ⟨⟨(gw_at 75 (by decide +kernel) (by decide +kernel)), (gw_at 481 rfl rfl), by decide, by decide +kernel⟩, (gw_at 479 (by decide +kernel) (by decide +kernel)), (gw_at 480 (by decide +kernel) (by decide +kernel)), ⟨_, rfl, rfl⟩⟩
set_option maxRecDepth 100000 in
theorem s_P_take : VMk 3 m_P_take 0 := ⟨⟨(gw_at 75 (by decide +kernel) (by decide +kernel)), (gw_at 490 rfl rfl), by decide, by decide +kernel⟩, (gw_at 488 (by decide +kernel) (by decide +kernel)), (gw_at 489 (by decide +kernel) (by decide +kernel)), ⟨_, rfl, rfl⟩⟩
set_option maxRecDepth 100000 in
theorem s_P_empty : VMk 3 m_P_empty 0 := ⟨⟨(gw_at 75 (by decide +kernel) (by decide +kernel)), (gw_at 511 rfl rfl), by decide, by decide +kernel⟩, (gw_at 509 (by decide +kernel) (by decide +kernel)), (gw_at 510 (by decide +kernel) (by decide +kernel)), ⟨_, rfl, rfl⟩⟩
set_option maxRecDepth 100000 in
theorem s_ROW_init : IMk m_ROW_init 0 := ⟨⟨(gw_at 76 (by decide +kernel) (by decide +kernel)), (gw_at 177 rfl rfl), by decide, by decide +kernel⟩, rfl, (gw_at 176 (by decide +kernel) (by decide +kernel)), rfl⟩
set_option maxRecDepth 100000 in
theorem s_ROW_append : VMk 4 m_ROW_append 1 := ⟨⟨(gw_at 76 (by decide +kernel) (by decide +kernel)), (gw_at 261 rfl rfl), by decide, by decide +kernel⟩, (gw_at 259 (by decide +kernel) (by decide +kernel)), (gw_at 260 (by decide +kernel) (by decide +kernel)), ⟨_, rfl, rfl⟩⟩
set_option maxRecDepth 100000 in
theorem s_ROW_at : VMk 4 m_ROW_at 1 := ⟨⟨(gw_at 76 (by decide +kernel) (by decide +kernel)), (gw_at 277 rfl rfl), by decide, by decide +kernel⟩, (gw_at 275 (by decide +kernel) (by decide +kernel)), (gw_at 276 (by decide +kernel) (by decide +kernel)), ⟨_, rfl, rfl⟩⟩
set_option maxRecDepth 100000 in
theorem s_ROW_takeFirst : VMk 4 m_ROW_takeFirst 0 := ⟨⟨(gw_at 76 (by decide +kernel) (by decide +kernel)), (gw_at 273 rfl rfl), by decide, by decide +kernel⟩, (gw_at 271 (by decide +kernel) (by decide +kernel)), (gw_at 272 (by decide +kernel) (by decide +kernel)), ⟨_, rfl, rfl⟩⟩
set_option maxRecDepth 100000 in
theorem s_ROW_drop : VMk 4 m_ROW_drop 1 := ⟨⟨(gw_at 76 (by decide +kernel) (by decide +kernel)), (gw_at 281 rfl rfl), by decide, by decide +kernel⟩, (gw_at 279 (by decide +kernel) (by decide +kernel)), (gw_at 280 (by decide +kernel) (by decide +kernel)), ⟨_, rfl, rfl⟩⟩
set_option maxRecDepth 100000 in
theorem s_T_init : IMk m_T_init 1 := ⟨⟨(gw_at 74 (by decide +kernel) (by decide +kernel)), (gw_at 117 rfl rfl), by decide, by decide +kernel⟩, rfl, (gw_at 116 (by decide +kernel) (by decide +kernel)), rfl⟩
set_option maxRecDepth 100000 in
theorem s_T_getRegister : VMk 2 m_T_getRegister 1 := ⟨⟨(gw_at 74 (by decide +kernel) (by decide +kernel)), (gw_at 319 rfl rfl), by decide, by decide +kernel⟩, (gw_at 317 (by decide +kernel) (by decide +kernel)), (gw_at 318 (by decide +kernel) (by decide +kernel)), ⟨_, rfl, rfl⟩⟩
set_option maxRecDepth 100000 in
theorem s_T_setRegister : VMk 2 m_T_setRegister 2 := ⟨⟨(gw_at 74 (by decide +kernel) (by decide +kernel)), (gw_at 253 rfl rfl), by decide, by decide +kernel⟩, (gw_at 251 (by decide +kernel) (by decide +kernel)), (gw_at 252 (by decide +kernel) (by decide +kernel)), ⟨_, rfl, rfl⟩⟩
set_option maxRecDepth 100000 in
theorem s_T_endAt : VMk 2 m_T_endAt 1 := ⟨⟨(gw_at 74 (by decide +kernel) (by decide +kernel)), (gw_at 386 rfl rfl), by decide, by decide +kernel⟩, (gw_at 384 (by decide +kernel) (by decide +kernel)), (gw_at 385 (by decide +kernel) (by decide +kernel)), ⟨_, rfl, rfl⟩⟩
set_option maxRecDepth 100000 in
theorem s_T_leastNothing : VMk 2 m_T_leastNothing 1 := ⟨⟨(gw_at 74 (by decide +kernel) (by decide +kernel)), (gw_at 507 rfl rfl), by decide, by decide +kernel⟩, (gw_at 505 (by decide +kernel) (by decide +kernel)), (gw_at 506 (by decide +kernel) (by decide +kernel)), ⟨_, rfl, rfl⟩⟩
set_option maxRecDepth 100000 in
theorem s_T_forgetDescriptors : VMk 2 m_T_forgetDescriptors 0 := ⟨⟨(gw_at 74 (by decide +kernel) (by decide +kernel)), (gw_at 436 rfl rfl), by decide, by decide +kernel⟩, (gw_at 434 (by decide +kernel) (by decide +kernel)), (gw_at 435 (by decide +kernel) (by decide +kernel)), ⟨_, rfl, rfl⟩⟩
set_option maxRecDepth 100000 in
theorem s_T_isChildOf : VMk 2 m_T_isChildOf 1 := ⟨⟨(gw_at 74 (by decide +kernel) (by decide +kernel)), (gw_at 394 rfl rfl), by decide, by decide +kernel⟩, (gw_at 392 (by decide +kernel) (by decide +kernel)), (gw_at 393 (by decide +kernel) (by decide +kernel)), ⟨_, rfl, rfl⟩⟩
set_option maxRecDepth 100000 in
theorem s_T_sleeps : VMk 2 m_T_sleeps 0 := ⟨⟨(gw_at 74 (by decide +kernel) (by decide +kernel)), (gw_at 535 rfl rfl), by decide, by decide +kernel⟩, (gw_at 533 (by decide +kernel) (by decide +kernel)), (gw_at 534 (by decide +kernel) (by decide +kernel)), ⟨_, rfl, rfl⟩⟩
set_option maxRecDepth 100000 in
theorem s_T_copyFrom : VMk 2 m_T_copyFrom 1 := ⟨⟨(gw_at 74 (by decide +kernel) (by decide +kernel)), (gw_at 453 rfl rfl), by decide, by decide +kernel⟩, (gw_at 451 (by decide +kernel) (by decide +kernel)), (gw_at 452 (by decide +kernel) (by decide +kernel)), ⟨_, rfl, rfl⟩⟩
set_option maxRecDepth 100000 in
theorem s_LAW_cell : SMk m_LAW_cell 2 := ⟨⟨(gw_at 71 (by decide +kernel) (by decide +kernel)), (gw_at 604 rfl rfl), by decide, by decide +kernel⟩, (gw_at 603 (by decide +kernel) (by decide +kernel))⟩
set_option maxRecDepth 100000 in
theorem w_K_1 : Cond.methodLink R_K 1 Lib.objectInit ∈ gw ∧ Cond.instanceMethod Lib.objectInit ∈ gw ∧ Cond.code Lib.objectInit ⟨#[0xb1]⟩ 1 none ∈ gw := ⟨(gw_at 85 (by decide +kernel) (by decide +kernel)), (gw_at 86 (by decide +kernel) (by decide +kernel)), (gw_at 87 rfl rfl)⟩
theorem n_K_7 : NWk R_K 7 1 3 := ⟨_, rfl, rfl, (gw_at 88 (by decide +kernel) (by decide +kernel)), (gw_at 89 (by decide +kernel) (by decide +kernel)), (gw_at 73 (by decide +kernel) (by decide +kernel))⟩
theorem w_K_11 : CSk R_K 11 m_K_within 3 := ⟨(gw_at 90 (by decide +kernel) (by decide +kernel)), s_K_within⟩
theorem w_K_15 : CIk R_K 15 m_MEM_init 1 := ⟨(gw_at 93 (by decide +kernel) (by decide +kernel)), s_MEM_init⟩
theorem f_K_18 : FLk R_K 18 0 0 := ⟨_, rfl, by decide, (gw_at 186 (by decide +kernel) (by decide +kernel))⟩
theorem f_K_22 : FLk R_K 22 0 4 := ⟨_, rfl, by decide, (gw_at 190 (by decide +kernel) (by decide +kernel))⟩
theorem na_K_26 : Cond.classLink R_K 26 R_T ∈ gw := (gw_at 112 (by decide +kernel) (by decide +kernel))
theorem f_K_28 : FLk R_K 28 0 1 := ⟨_, rfl, by decide, (gw_at 187 (by decide +kernel) (by decide +kernel))⟩
theorem n_K_26 : NWk R_K 26 2 9 := ⟨_, rfl, rfl, (gw_at 112 (by decide +kernel) (by decide +kernel)), (gw_at 114 (by decide +kernel) (by decide +kernel)), (gw_at 74 (by decide +kernel) (by decide +kernel))⟩
theorem w_K_32 : CIk R_K 32 m_T_init 1 := ⟨(gw_at 115 (by decide +kernel) (by decide +kernel)), s_T_init⟩
theorem na_K_33 : Cond.classLink R_K 33 R_P ∈ gw := (gw_at 155 (by decide +kernel) (by decide +kernel))
theorem f_K_35 : FLk R_K 35 0 2 := ⟨_, rfl, by decide, (gw_at 188 (by decide +kernel) (by decide +kernel))⟩
theorem n_K_33 : NWk R_K 33 3 3 := ⟨_, rfl, rfl, (gw_at 155 (by decide +kernel) (by decide +kernel)), (gw_at 157 (by decide +kernel) (by decide +kernel)), (gw_at 75 (by decide +kernel) (by decide +kernel))⟩
theorem n_K_40 : NWk R_K 40 4 2 := ⟨_, rfl, rfl, (gw_at 173 (by decide +kernel) (by decide +kernel)), (gw_at 174 (by decide +kernel) (by decide +kernel)), (gw_at 76 (by decide +kernel) (by decide +kernel))⟩
theorem f_K_43 : FLk R_K 43 0 3 := ⟨_, rfl, by decide, (gw_at 189 (by decide +kernel) (by decide +kernel))⟩
theorem f_K_47 : FLk R_K 47 0 5 := ⟨_, rfl, by decide, (gw_at 191 (by decide +kernel) (by decide +kernel))⟩
theorem f_K_51 : FLk R_K 51 0 6 := ⟨_, rfl, by decide, (gw_at 192 (by decide +kernel) (by decide +kernel))⟩
theorem f_K_54 : FLk R_K 54 0 9 := ⟨_, rfl, by decide, (gw_at 195 (by decide +kernel) (by decide +kernel))⟩
theorem f_K_58 : FLk R_K 58 0 7 := ⟨_, rfl, by decide, (gw_at 193 (by decide +kernel) (by decide +kernel))⟩
theorem f_K_61 : FLk R_K 61 1 2 := ⟨_, rfl, by decide, (gw_at 102 (by decide +kernel) (by decide +kernel))⟩
theorem w_K_64 : CVk R_K 64 1 m_MEM_give 2 := ⟨(gw_at 234 (by decide +kernel) (by decide +kernel)), s_MEM_give⟩
theorem w_K_68 : CVk R_K 68 1 m_MEM_copyProgram 3 := ⟨(gw_at 242 (by decide +kernel) (by decide +kernel)), s_MEM_copyProgram⟩
theorem w_K_72 : CVk R_K 72 2 m_T_setRegister 2 := ⟨(gw_at 250 (by decide +kernel) (by decide +kernel)), s_T_setRegister⟩
theorem f_K_76 : FLk R_K 76 2 3 := ⟨_, rfl, by decide, (gw_at 125 (by decide +kernel) (by decide +kernel))⟩
theorem w_K_79 : CVk R_K 79 0 m_K_makeReady 1 := ⟨(gw_at 254 (by decide +kernel) (by decide +kernel)), s_K_makeReady⟩
theorem w_K_83 : CVk R_K 83 0 m_K_makeStep 0 := ⟨(gw_at 266 (by decide +kernel) (by decide +kernel)), s_K_makeStep⟩
theorem w_K_87 : CVk R_K 87 0 m_K_allHaveEnded 0 := ⟨(gw_at 536 (by decide +kernel) (by decide +kernel)), s_K_allHaveEnded⟩
theorem f_K_91 : FLk R_K 91 0 10 := ⟨_, rfl, by decide, (gw_at 196 (by decide +kernel) (by decide +kernel))⟩
theorem w_K_94 : CVk R_K 94 0 m_K_find 1 := ⟨(gw_at 282 (by decide +kernel) (by decide +kernel)), s_K_find⟩
theorem f_K_98 : FLk R_K 98 2 5 := ⟨_, rfl, by decide, (gw_at 129 (by decide +kernel) (by decide +kernel))⟩
theorem f_K_101 : FLk R_K 101 2 8 := ⟨_, rfl, by decide, (gw_at 135 (by decide +kernel) (by decide +kernel))⟩
theorem f_K_104 : FLk R_K 104 2 7 := ⟨_, rfl, by decide, (gw_at 134 (by decide +kernel) (by decide +kernel))⟩
theorem f_K_107 : FLk R_K 107 2 4 := ⟨_, rfl, by decide, (gw_at 127 (by decide +kernel) (by decide +kernel))⟩
theorem w_K_110 : CVk R_K 110 2 m_T_getRegister 1 := ⟨(gw_at 382 (by decide +kernel) (by decide +kernel)), s_T_getRegister⟩
theorem f_K_114 : FLk R_K 114 2 6 := ⟨_, rfl, by decide, (gw_at 132 (by decide +kernel) (by decide +kernel))⟩
theorem w_K_117 : CVk R_K 117 1 m_MEM_placeOf 2 := ⟨(gw_at 580 (by decide +kernel) (by decide +kernel)), s_MEM_placeOf⟩
theorem f_K_121 : FLk R_K 121 1 0 := ⟨_, rfl, by decide, (gw_at 99 (by decide +kernel) (by decide +kernel))⟩
theorem w_K_124 : CVk R_K 124 2 m_T_endAt 1 := ⟨(gw_at 383 (by decide +kernel) (by decide +kernel)), s_T_endAt⟩
theorem w_K_127 : CVk R_K 127 0 m_K_isFreePipe 1 := ⟨(gw_at 500 (by decide +kernel) (by decide +kernel)), s_K_isFreePipe⟩
theorem f_K_131 : FLk R_K 131 3 2 := ⟨_, rfl, by decide, (gw_at 165 (by decide +kernel) (by decide +kernel))⟩
theorem f_K_134 : FLk R_K 134 0 8 := ⟨_, rfl, by decide, (gw_at 194 (by decide +kernel) (by decide +kernel))⟩
theorem w_K_137 : CVk R_K 137 4 m_ROW_at 1 := ⟨(gw_at 601 (by decide +kernel) (by decide +kernel)), s_ROW_at⟩
theorem f_K_140 : FLk R_K 140 2 0 := ⟨_, rfl, by decide, (gw_at 120 (by decide +kernel) (by decide +kernel))⟩
theorem w_K_143 : CVk R_K 143 4 m_ROW_append 1 := ⟨(gw_at 258 (by decide +kernel) (by decide +kernel)), s_ROW_append⟩
theorem w_K_146 : CVk R_K 146 4 m_ROW_takeFirst 0 := ⟨(gw_at 270 (by decide +kernel) (by decide +kernel)), s_ROW_takeFirst⟩
theorem f_K_149 : FLk R_K 149 0 11 := ⟨_, rfl, by decide, (gw_at 197 (by decide +kernel) (by decide +kernel))⟩
theorem f_K_152 : FLk R_K 152 0 12 := ⟨_, rfl, by decide, (gw_at 198 (by decide +kernel) (by decide +kernel))⟩
theorem w_K_155 : CSk R_K 155 m_X_execute 2 := ⟨(gw_at 286 (by decide +kernel) (by decide +kernel)), s_X_execute⟩
theorem w_K_161 : CVk R_K 161 0 m_K_beginCall 1 := ⟨(gw_at 374 (by decide +kernel) (by decide +kernel)), s_K_beginCall⟩
theorem w_K_165 : CVk R_K 165 0 m_K_answerOf 2 := ⟨(gw_at 421 (by decide +kernel) (by decide +kernel)), s_K_answerOf⟩
theorem w_K_168 : CVk R_K 168 0 m_K_end 2 := ⟨(gw_at 425 (by decide +kernel) (by decide +kernel)), s_K_end⟩
theorem w_K_171 : CVk R_K 171 0 m_K_passTurn 1 := ⟨(gw_at 524 (by decide +kernel) (by decide +kernel)), s_K_passTurn⟩
theorem w_K_174 : CVk R_K 174 0 m_K_wakeSleepers 0 := ⟨(gw_at 528 (by decide +kernel) (by decide +kernel)), s_K_wakeSleepers⟩
theorem w_K_177 : CVk R_K 177 2 m_T_sleeps 0 := ⟨(gw_at 532 (by decide +kernel) (by decide +kernel)), s_T_sleeps⟩
theorem w_K_180 : CVk R_K 180 0 m_K_obstacleOf 1 := ⟨(gw_at 378 (by decide +kernel) (by decide +kernel)), s_K_obstacleOf⟩
theorem w_K_184 : CVk R_K 184 0 m_K_hasChild 1 := ⟨(gw_at 387 (by decide +kernel) (by decide +kernel)), s_K_hasChild⟩
theorem w_K_187 : CVk R_K 187 0 m_K_endedChildOf 1 := ⟨(gw_at 395 (by decide +kernel) (by decide +kernel)), s_K_endedChildOf⟩
theorem w_K_191 : CSk R_K 191 m_K_isWritingEnd 1 := ⟨(gw_at 399 (by decide +kernel) (by decide +kernel)), s_K_isWritingEnd⟩
theorem w_K_194 : CVk R_K 194 0 m_K_pipeOf 1 := ⟨(gw_at 402 (by decide +kernel) (by decide +kernel)), s_K_pipeOf⟩
theorem w_K_198 : CVk R_K 198 3 m_P_isFull 0 := ⟨(gw_at 406 (by decide +kernel) (by decide +kernel)), s_P_isFull⟩
theorem w_K_201 : CVk R_K 201 0 m_K_isHeld 1 := ⟨(gw_at 410 (by decide +kernel) (by decide +kernel)), s_K_isHeld⟩
theorem w_K_204 : CSk R_K 204 m_K_isReadingEnd 1 := ⟨(gw_at 414 (by decide +kernel) (by decide +kernel)), s_K_isReadingEnd⟩
theorem w_K_207 : CVk R_K 207 3 m_P_isEmpty 0 := ⟨(gw_at 417 (by decide +kernel) (by decide +kernel)), s_P_isEmpty⟩
theorem w_K_210 : CVk R_K 210 0 m_K_fork 1 := ⟨(gw_at 442 (by decide +kernel) (by decide +kernel)), s_K_fork⟩
theorem w_K_213 : CVk R_K 213 0 m_K_collectChild 1 := ⟨(gw_at 462 (by decide +kernel) (by decide +kernel)), s_K_collectChild⟩
theorem w_K_216 : CVk R_K 216 0 m_K_grow 2 := ⟨(gw_at 466 (by decide +kernel) (by decide +kernel)), s_K_grow⟩
theorem w_K_219 : CVk R_K 219 0 m_K_write 2 := ⟨(gw_at 470 (by decide +kernel) (by decide +kernel)), s_K_write⟩
theorem w_K_223 : CVk R_K 223 0 m_K_read 1 := ⟨(gw_at 483 (by decide +kernel) (by decide +kernel)), s_K_read⟩
theorem w_K_226 : CVk R_K 226 0 m_K_openPipe 1 := ⟨(gw_at 492 (by decide +kernel) (by decide +kernel)), s_K_openPipe⟩
theorem w_K_229 : CVk R_K 229 0 m_K_close 2 := ⟨(gw_at 512 (by decide +kernel) (by decide +kernel)), s_K_close⟩
theorem w_K_232 : CVk R_K 232 0 m_K_duplicate 2 := ⟨(gw_at 516 (by decide +kernel) (by decide +kernel)), s_K_duplicate⟩
theorem w_K_235 : CVk R_K 235 0 m_K_kill 1 := ⟨(gw_at 520 (by decide +kernel) (by decide +kernel)), s_K_kill⟩
theorem w_K_238 : CVk R_K 238 0 m_K_leastAbsent 0 := ⟨(gw_at 446 (by decide +kernel) (by decide +kernel)), s_K_leastAbsent⟩
theorem w_K_242 : CVk R_K 242 2 m_T_copyFrom 1 := ⟨(gw_at 450 (by decide +kernel) (by decide +kernel)), s_T_copyFrom⟩
theorem w_K_245 : CVk R_K 245 1 m_MEM_copyPages 2 := ⟨(gw_at 457 (by decide +kernel) (by decide +kernel)), s_MEM_copyPages⟩
theorem w_K_249 : CVk R_K 249 2 m_T_isChildOf 1 := ⟨(gw_at 391 (by decide +kernel) (by decide +kernel)), s_T_isChildOf⟩
theorem w_K_252 : CVk R_K 252 0 m_K_print 1 := ⟨(gw_at 474 (by decide +kernel) (by decide +kernel)), s_K_print⟩
theorem w_K_255 : CVk R_K 255 3 m_P_put 1 := ⟨(gw_at 478 (by decide +kernel) (by decide +kernel)), s_P_put⟩
theorem w_K_258 : CVk R_K 258 3 m_P_take 0 := ⟨(gw_at 487 (by decide +kernel) (by decide +kernel)), s_P_take⟩
theorem w_K_261 : CVk R_K 261 0 m_K_leastFreeReadingEnd 0 := ⟨(gw_at 496 (by decide +kernel) (by decide +kernel)), s_K_leastFreeReadingEnd⟩
theorem w_K_264 : CVk R_K 264 2 m_T_leastNothing 1 := ⟨(gw_at 504 (by decide +kernel) (by decide +kernel)), s_T_leastNothing⟩
theorem w_K_267 : CVk R_K 267 3 m_P_empty 0 := ⟨(gw_at 508 (by decide +kernel) (by decide +kernel)), s_P_empty⟩
theorem w_K_270 : CVk R_K 270 1 m_MEM_takeBack 1 := ⟨(gw_at 429 (by decide +kernel) (by decide +kernel)), s_MEM_takeBack⟩
theorem w_K_273 : CVk R_K 273 2 m_T_forgetDescriptors 0 := ⟨(gw_at 433 (by decide +kernel) (by decide +kernel)), s_T_forgetDescriptors⟩
theorem w_K_276 : CVk R_K 276 4 m_ROW_drop 1 := ⟨(gw_at 437 (by decide +kernel) (by decide +kernel)), s_ROW_drop⟩
theorem w_K_279 : CVk R_K 279 0 m_K_handOverChildren 1 := ⟨(gw_at 438 (by decide +kernel) (by decide +kernel)), s_K_handOverChildren⟩
set_option maxRecDepth 100000 in
theorem w_MOD_1 : Cond.methodLink R_MOD 1 Lib.objectInit ∈ gw ∧ Cond.instanceMethod Lib.objectInit ∈ gw ∧ Cond.code Lib.objectInit ⟨#[0xb1]⟩ 1 none ∈ gw := ⟨(gw_at 610 (by decide +kernel) (by decide +kernel)), (gw_at 86 (by decide +kernel) (by decide +kernel)), (gw_at 87 rfl rfl)⟩
theorem f_MOD_7 : FLk R_MOD 7 5 2 := ⟨_, rfl, by decide, (gw_at 613 (by decide +kernel) (by decide +kernel))⟩
theorem f_MOD_13 : FLk R_MOD 13 5 3 := ⟨_, rfl, by decide, (gw_at 614 (by decide +kernel) (by decide +kernel))⟩
theorem f_MOD_16 : FLk R_MOD 16 5 5 := ⟨_, rfl, by decide, (gw_at 616 (by decide +kernel) (by decide +kernel))⟩
theorem f_MOD_19 : FLk R_MOD 19 5 7 := ⟨_, rfl, by decide, (gw_at 618 (by decide +kernel) (by decide +kernel))⟩
theorem f_MOD_22 : FLk R_MOD 22 5 8 := ⟨_, rfl, by decide, (gw_at 619 (by decide +kernel) (by decide +kernel))⟩
theorem f_MOD_25 : FLk R_MOD 25 5 9 := ⟨_, rfl, by decide, (gw_at 620 (by decide +kernel) (by decide +kernel))⟩
theorem f_MOD_28 : FLk R_MOD 28 5 10 := ⟨_, rfl, by decide, (gw_at 621 (by decide +kernel) (by decide +kernel))⟩
theorem f_MOD_31 : FLk R_MOD 31 5 11 := ⟨_, rfl, by decide, (gw_at 622 (by decide +kernel) (by decide +kernel))⟩
theorem f_MOD_34 : FLk R_MOD 34 5 12 := ⟨_, rfl, by decide, (gw_at 623 (by decide +kernel) (by decide +kernel))⟩
theorem f_MOD_37 : FLk R_MOD 37 5 13 := ⟨_, rfl, by decide, (gw_at 624 (by decide +kernel) (by decide +kernel))⟩
theorem f_MOD_40 : FLk R_MOD 40 5 14 := ⟨_, rfl, by decide, (gw_at 625 (by decide +kernel) (by decide +kernel))⟩
theorem f_MOD_43 : FLk R_MOD 43 5 16 := ⟨_, rfl, by decide, (gw_at 627 (by decide +kernel) (by decide +kernel))⟩
theorem f_MOD_46 : FLk R_MOD 46 5 20 := ⟨_, rfl, by decide, (gw_at 631 (by decide +kernel) (by decide +kernel))⟩
theorem f_MOD_49 : FLk R_MOD 49 5 21 := ⟨_, rfl, by decide, (gw_at 632 (by decide +kernel) (by decide +kernel))⟩
theorem f_MOD_52 : FLk R_MOD 52 5 23 := ⟨_, rfl, by decide, (gw_at 634 (by decide +kernel) (by decide +kernel))⟩
theorem f_MOD_55 : FLk R_MOD 55 5 0 := ⟨_, rfl, by decide, (gw_at 611 (by decide +kernel) (by decide +kernel))⟩
theorem f_MOD_59 : FLk R_MOD 59 5 1 := ⟨_, rfl, by decide, (gw_at 612 (by decide +kernel) (by decide +kernel))⟩
theorem f_MOD_62 : FLk R_MOD 62 5 6 := ⟨_, rfl, by decide, (gw_at 617 (by decide +kernel) (by decide +kernel))⟩
theorem f_MOD_66 : FLk R_MOD 66 5 4 := ⟨_, rfl, by decide, (gw_at 615 (by decide +kernel) (by decide +kernel))⟩
theorem w_MOD_69 : CVk R_MOD 69 5 m_MOD_grow 1 := ⟨(gw_at 708 (by decide +kernel) (by decide +kernel)), s_MOD_grow⟩
theorem w_MOD_73 : CVk R_MOD 73 5 m_MOD_wake 1 := ⟨(gw_at 712 (by decide +kernel) (by decide +kernel)), s_MOD_wake⟩
theorem f_MOD_77 : FLk R_MOD 77 5 15 := ⟨_, rfl, by decide, (gw_at 626 (by decide +kernel) (by decide +kernel))⟩
theorem w_MOD_80 : CVk R_MOD 80 5 m_MOD_cellOf 2 := ⟨(gw_at 752 (by decide +kernel) (by decide +kernel)), s_MOD_cellOf⟩
theorem w_MOD_84 : CVk R_MOD 84 5 m_MOD_isHeld 1 := ⟨(gw_at 744 (by decide +kernel) (by decide +kernel)), s_MOD_isHeld⟩
theorem w_MOD_88 : CVk R_MOD 88 5 m_MOD_tidyPipes 0 := ⟨(gw_at 740 (by decide +kernel) (by decide +kernel)), s_MOD_tidyPipes⟩
theorem w_MOD_91 : CVk R_MOD 91 5 m_MOD_unrow 1 := ⟨(gw_at 720 (by decide +kernel) (by decide +kernel)), s_MOD_unrow⟩
theorem w_MOD_94 : CVk R_MOD 94 5 m_MOD_remove 1 := ⟨(gw_at 748 (by decide +kernel) (by decide +kernel)), s_MOD_remove⟩
theorem f_MOD_97 : FLk R_MOD 97 5 24 := ⟨_, rfl, by decide, (gw_at 635 (by decide +kernel) (by decide +kernel))⟩
theorem f_MOD_100 : FLk R_MOD 100 5 27 := ⟨_, rfl, by decide, (gw_at 638 (by decide +kernel) (by decide +kernel))⟩
theorem w_MOD_103 : CVk R_MOD 103 5 m_MOD_end 2 := ⟨(gw_at 736 (by decide +kernel) (by decide +kernel)), s_MOD_end⟩
theorem f_MOD_107 : FLk R_MOD 107 5 25 := ⟨_, rfl, by decide, (gw_at 636 (by decide +kernel) (by decide +kernel))⟩
theorem w_MOD_110 : CVk R_MOD 110 5 m_MOD_bits 2 := ⟨(gw_at 756 (by decide +kernel) (by decide +kernel)), s_MOD_bits⟩
theorem w_MOD_113 : CVk R_MOD 113 5 m_MOD_get 1 := ⟨(gw_at 776 (by decide +kernel) (by decide +kernel)), s_MOD_get⟩
theorem k_MOD_116 : Jvm.Cond.constantLong R_MOD 116 4294967295 ∈ gw := (gw_at 791 (by decide +kernel) (by decide +kernel))
theorem f_MOD_118 : FLk R_MOD 118 5 19 := ⟨_, rfl, by decide, (gw_at 630 (by decide +kernel) (by decide +kernel))⟩
theorem f_MOD_121 : FLk R_MOD 121 5 26 := ⟨_, rfl, by decide, (gw_at 637 (by decide +kernel) (by decide +kernel))⟩
theorem w_MOD_124 : CVk R_MOD 124 5 m_MOD_there 2 := ⟨(gw_at 728 (by decide +kernel) (by decide +kernel)), s_MOD_there⟩
end
section
theorem w_MOD_128 : CVk R_MOD 128 5 m_MOD_fault 1 := ⟨(gw_at 732 (by decide +kernel) (by decide +kernel)), s_MOD_fault⟩
theorem w_MOD_131 : CVk R_MOD 131 5 m_MOD_d 0 := ⟨(gw_at 760 (by decide +kernel) (by decide +kernel)), s_MOD_d⟩
theorem w_MOD_135 : CVk R_MOD 135 5 m_MOD_set 2 := ⟨(gw_at 764 (by decide +kernel) (by decide +kernel)), s_MOD_set⟩
theorem w_MOD_138 : CVk R_MOD 138 5 m_MOD_jump 1 := ⟨(gw_at 768 (by decide +kernel) (by decide +kernel)), s_MOD_jump⟩
theorem w_MOD_141 : CVk R_MOD 141 5 m_MOD_s 0 := ⟨(gw_at 772 (by decide +kernel) (by decide +kernel)), s_MOD_s⟩
theorem w_MOD_144 : CVk R_MOD 144 5 m_MOD_branch 1 := ⟨(gw_at 780 (by decide +kernel) (by decide +kernel)), s_MOD_branch⟩
theorem w_MOD_147 : CVk R_MOD 147 5 m_MOD_read 0 := ⟨(gw_at 792 (by decide +kernel) (by decide +kernel)), s_MOD_read⟩
theorem w_MOD_150 : CVk R_MOD 150 5 m_MOD_write 0 := ⟨(gw_at 804 (by decide +kernel) (by decide +kernel)), s_MOD_write⟩
theorem w_MOD_153 : CVk R_MOD 153 5 m_MOD_compute 1 := ⟨(gw_at 812 (by decide +kernel) (by decide +kernel)), s_MOD_compute⟩
theorem w_MOD_157 : CVk R_MOD 157 5 m_MOD_call 0 := ⟨(gw_at 816 (by decide +kernel) (by decide +kernel)), s_MOD_call⟩
theorem k_MOD_160 : Jvm.Cond.constant R_MOD 160 1048691 ∈ gw := (gw_at 877 (by decide +kernel) (by decide +kernel))
theorem w_MOD_161 : CVk R_MOD 161 5 m_MOD_t 0 := ⟨(gw_at 784 (by decide +kernel) (by decide +kernel)), s_MOD_t⟩
theorem w_MOD_164 : CSk R_MOD 164 m_MOD_less 3 := ⟨(gw_at 788 (by decide +kernel) (by decide +kernel)), s_MOD_less⟩
theorem w_MOD_168 : CVk R_MOD 168 5 m_MOD_reach 3 := ⟨(gw_at 796 (by decide +kernel) (by decide +kernel)), s_MOD_reach⟩
theorem w_MOD_172 : CVk R_MOD 172 5 m_MOD_byteAt 2 := ⟨(gw_at 800 (by decide +kernel) (by decide +kernel)), s_MOD_byteAt⟩
theorem w_MOD_175 : CVk R_MOD 175 5 m_MOD_putByte 3 := ⟨(gw_at 808 (by decide +kernel) (by decide +kernel)), s_MOD_putByte⟩
theorem w_MOD_179 : CVk R_MOD 179 5 m_MOD_leave 1 := ⟨(gw_at 820 (by decide +kernel) (by decide +kernel)), s_MOD_leave⟩
theorem w_MOD_182 : CVk R_MOD 182 5 m_MOD_fork 0 := ⟨(gw_at 824 (by decide +kernel) (by decide +kernel)), s_MOD_fork⟩
theorem w_MOD_185 : CVk R_MOD 185 5 m_MOD_waits 0 := ⟨(gw_at 829 (by decide +kernel) (by decide +kernel)), s_MOD_waits⟩
theorem w_MOD_188 : CVk R_MOD 188 5 m_MOD_more 1 := ⟨(gw_at 841 (by decide +kernel) (by decide +kernel)), s_MOD_more⟩
theorem w_MOD_191 : CVk R_MOD 191 5 m_MOD_descriptorOf 2 := ⟨(gw_at 845 (by decide +kernel) (by decide +kernel)), s_MOD_descriptorOf⟩
theorem w_MOD_194 : CVk R_MOD 194 5 m_MOD_send 1 := ⟨(gw_at 849 (by decide +kernel) (by decide +kernel)), s_MOD_send⟩
theorem w_MOD_197 : CVk R_MOD 197 5 m_MOD_take 1 := ⟨(gw_at 853 (by decide +kernel) (by decide +kernel)), s_MOD_take⟩
theorem w_MOD_200 : CVk R_MOD 200 5 m_MOD_pipe 0 := ⟨(gw_at 857 (by decide +kernel) (by decide +kernel)), s_MOD_pipe⟩
theorem w_MOD_203 : CVk R_MOD 203 5 m_MOD_close 1 := ⟨(gw_at 865 (by decide +kernel) (by decide +kernel)), s_MOD_close⟩
theorem w_MOD_206 : CVk R_MOD 206 5 m_MOD_duplicate 1 := ⟨(gw_at 869 (by decide +kernel) (by decide +kernel)), s_MOD_duplicate⟩
theorem w_MOD_209 : CVk R_MOD 209 5 m_MOD_kill 1 := ⟨(gw_at 873 (by decide +kernel) (by decide +kernel)), s_MOD_kill⟩
theorem w_MOD_212 : CVk R_MOD 212 5 m_MOD_freeFrames 0 := ⟨(gw_at 828 (by decide +kernel) (by decide +kernel)), s_MOD_freeFrames⟩
theorem w_MOD_215 : CVk R_MOD 215 5 m_MOD_lostChild 1 := ⟨(gw_at 833 (by decide +kernel) (by decide +kernel)), s_MOD_lostChild⟩
theorem w_MOD_218 : CVk R_MOD 218 5 m_MOD_block 1 := ⟨(gw_at 837 (by decide +kernel) (by decide +kernel)), s_MOD_block⟩
theorem f_MOD_221 : FLk R_MOD 221 5 22 := ⟨_, rfl, by decide, (gw_at 633 (by decide +kernel) (by decide +kernel))⟩
theorem w_MOD_224 : CVk R_MOD 224 5 m_MOD_freeDescriptor 1 := ⟨(gw_at 861 (by decide +kernel) (by decide +kernel)), s_MOD_freeDescriptor⟩
theorem f_MOD_227 : FLk R_MOD 227 5 17 := ⟨_, rfl, by decide, (gw_at 628 (by decide +kernel) (by decide +kernel))⟩
theorem f_MOD_230 : FLk R_MOD 230 5 18 := ⟨_, rfl, by decide, (gw_at 629 (by decide +kernel) (by decide +kernel))⟩
theorem w_MOD_233 : CVk R_MOD 233 5 m_MOD_instruction 0 := ⟨(gw_at 724 (by decide +kernel) (by decide +kernel)), s_MOD_instruction⟩
theorem w_MOD_236 : CVk R_MOD 236 5 m_MOD_mayGo 1 := ⟨(gw_at 878 (by decide +kernel) (by decide +kernel)), s_MOD_mayGo⟩
theorem w_MOD_239 : CVk R_MOD 239 5 m_MOD_step 0 := ⟨(gw_at 886 (by decide +kernel) (by decide +kernel)), s_MOD_step⟩
theorem w_MOD_242 : CVk R_MOD 242 5 m_MOD_is 1 := ⟨(gw_at 895 (by decide +kernel) (by decide +kernel)), s_MOD_is⟩
theorem f_X_9 : FLk R_X 9 2 6 := ⟨_, rfl, by decide, (gw_at 130 (by decide +kernel) (by decide +kernel))⟩
theorem w_X_15 : CVk R_X 15 1 m_MEM_placeOf 2 := ⟨(gw_at 289 (by decide +kernel) (by decide +kernel)), s_MEM_placeOf⟩
theorem f_X_21 : FLk R_X 21 1 0 := ⟨_, rfl, by decide, (gw_at 98 (by decide +kernel) (by decide +kernel))⟩
theorem w_X_25 : CSk R_X 25 m_X_upperNumber 1 := ⟨(gw_at 290 (by decide +kernel) (by decide +kernel)), s_X_upperNumber⟩
theorem w_X_31 : CSk R_X 31 m_X_setAndGo 3 := ⟨(gw_at 293 (by decide +kernel) (by decide +kernel)), s_X_setAndGo⟩
theorem w_X_35 : CSk R_X 35 m_X_jumpNumber 1 := ⟨(gw_at 300 (by decide +kernel) (by decide +kernel)), s_X_jumpNumber⟩
theorem w_X_38 : CSk R_X 38 m_X_jump 3 := ⟨(gw_at 304 (by decide +kernel) (by decide +kernel)), s_X_jump⟩
theorem w_X_41 : CSk R_X 41 m_X_jumpByRegister 2 := ⟨(gw_at 307 (by decide +kernel) (by decide +kernel)), s_X_jumpByRegister⟩
theorem w_X_44 : CSk R_X 44 m_X_branch 2 := ⟨(gw_at 323 (by decide +kernel) (by decide +kernel)), s_X_branch⟩
theorem w_X_47 : CSk R_X 47 m_X_fetch 3 := ⟨(gw_at 339 (by decide +kernel) (by decide +kernel)), s_X_fetch⟩
theorem w_X_51 : CSk R_X 51 m_X_put 3 := ⟨(gw_at 349 (by decide +kernel) (by decide +kernel)), s_X_put⟩
theorem w_X_54 : CSk R_X 54 m_X_computeWithNumber 2 := ⟨(gw_at 358 (by decide +kernel) (by decide +kernel)), s_X_computeWithNumber⟩
theorem w_X_57 : CSk R_X 57 m_X_computeWithRegister 2 := ⟨(gw_at 367 (by decide +kernel) (by decide +kernel)), s_X_computeWithRegister⟩
theorem w_X_60 : CSk R_X 60 m_X_selector 1 := ⟨(gw_at 310 (by decide +kernel) (by decide +kernel)), s_X_selector⟩
theorem w_X_63 : CSk R_X 63 m_X_go 1 := ⟨(gw_at 297 (by decide +kernel) (by decide +kernel)), s_X_go⟩
theorem w_X_67 : CSk R_X 67 m_X_special 1 := ⟨(gw_at 370 (by decide +kernel) (by decide +kernel)), s_X_special⟩
theorem k_X_70 : Jvm.Cond.constant R_X 70 1048691 ∈ gw := (gw_at 373 (by decide +kernel) (by decide +kernel))
theorem w_X_71 : CVk R_X 71 2 m_T_setRegister 2 := ⟨(gw_at 296 (by decide +kernel) (by decide +kernel)), s_T_setRegister⟩
theorem w_X_75 : CSk R_X 75 m_X_first 2 := ⟨(gw_at 313 (by decide +kernel) (by decide +kernel)), s_X_first⟩
theorem w_X_78 : CSk R_X 78 m_X_shortNumber 1 := ⟨(gw_at 320 (by decide +kernel) (by decide +kernel)), s_X_shortNumber⟩
theorem w_X_81 : CSk R_X 81 m_X_second 2 := ⟨(gw_at 326 (by decide +kernel) (by decide +kernel)), s_X_second⟩
theorem w_X_84 : CSk R_X 84 m_X_holdsTrue 3 := ⟨(gw_at 329 (by decide +kernel) (by decide +kernel)), s_X_holdsTrue⟩
theorem w_X_88 : CSk R_X 88 m_X_branchNumber 1 := ⟨(gw_at 336 (by decide +kernel) (by decide +kernel)), s_X_branchNumber⟩
theorem w_X_91 : CSk R_X 91 m_X_isBelow 2 := ⟨(gw_at 332 (by decide +kernel) (by decide +kernel)), s_X_isBelow⟩
theorem w_X_95 : CSk R_X 95 m_X_isCrooked 2 := ⟨(gw_at 342 (by decide +kernel) (by decide +kernel)), s_X_isCrooked⟩
theorem w_X_98 : CSk R_X 98 m_X_widen 2 := ⟨(gw_at 345 (by decide +kernel) (by decide +kernel)), s_X_widen⟩
theorem k_X_102 : Jvm.Cond.constant R_X 102 65535 ∈ gw := (gw_at 348 (by decide +kernel) (by decide +kernel))
theorem w_X_103 : CSk R_X 103 m_X_putNumber 1 := ⟨(gw_at 352 (by decide +kernel) (by decide +kernel)), s_X_putNumber⟩
theorem w_X_106 : CSk R_X 106 m_X_maskOf 1 := ⟨(gw_at 355 (by decide +kernel) (by decide +kernel)), s_X_maskOf⟩
theorem w_X_109 : CSk R_X 109 m_X_variant 1 := ⟨(gw_at 361 (by decide +kernel) (by decide +kernel)), s_X_variant⟩
theorem w_X_112 : CSk R_X 112 m_X_compute 3 := ⟨(gw_at 364 (by decide +kernel) (by decide +kernel)), s_X_compute⟩
theorem k_X_116 : Jvm.Cond.constant R_X 116 (-2147483648) ∈ gw := (gw_at 335 (by decide +kernel) (by decide +kernel))
theorem w_X_117 : CVk R_X 117 2 m_T_getRegister 1 := ⟨(gw_at 316 (by decide +kernel) (by decide +kernel)), s_T_getRegister⟩
theorem k_X_120 : Jvm.Cond.constant R_X 120 1044480 ∈ gw := (gw_at 303 (by decide +kernel) (by decide +kernel))
set_option maxRecDepth 100000 in
theorem w_MEM_3 : Cond.methodLink R_MEM 3 Lib.objectInit ∈ gw ∧ Cond.instanceMethod Lib.objectInit ∈ gw ∧ Cond.code Lib.objectInit ⟨#[0xb1]⟩ 1 none ∈ gw := ⟨(gw_at 96 (by decide +kernel) (by decide +kernel)), (gw_at 86 (by decide +kernel) (by decide +kernel)), (gw_at 87 rfl rfl)⟩
theorem f_MEM_9 : FLk R_MEM 9 1 0 := ⟨_, rfl, by decide, (gw_at 97 (by decide +kernel) (by decide +kernel))⟩
theorem f_MEM_15 : FLk R_MEM 15 1 1 := ⟨_, rfl, by decide, (gw_at 100 (by decide +kernel) (by decide +kernel))⟩
theorem f_MEM_19 : FLk R_MEM 19 1 2 := ⟨_, rfl, by decide, (gw_at 101 (by decide +kernel) (by decide +kernel))⟩
theorem f_MEM_23 : FLk R_MEM 23 2 4 := ⟨_, rfl, by decide, (gw_at 126 (by decide +kernel) (by decide +kernel))⟩
theorem w_MEM_28 : CVk R_MEM 28 1 m_MEM_clear 1 := ⟨(gw_at 238 (by decide +kernel) (by decide +kernel)), s_MEM_clear⟩
theorem f_MEM_32 : FLk R_MEM 32 2 2 := ⟨_, rfl, by decide, (gw_at 123 (by decide +kernel) (by decide +kernel))⟩
theorem w_MEM_35 : Cond.methodLink R_MEM 35 arraycopyName ∈ gw ∧ Cond.native arraycopyName ∈ gw ∧ Cond.static arraycopyName ∈ gw ∧ Cond.initialized "java/lang/System" ∈ gw := ⟨(gw_at 461 (by decide +kernel) (by decide +kernel)), (gw_at 456 (by decide +kernel) (by decide +kernel)), (gw_at 455 (by decide +kernel) (by decide +kernel)), (gw_at 79 (by decide +kernel) (by decide +kernel))⟩
theorem w_MEM_41 : CVk R_MEM 41 1 m_MEM_placeOf 2 := ⟨(gw_at 246 (by decide +kernel) (by decide +kernel)), s_MEM_placeOf⟩
set_option maxRecDepth 100000 in
theorem w_P_3 : Cond.methodLink R_P 3 Lib.objectInit ∈ gw ∧ Cond.instanceMethod Lib.objectInit ∈ gw ∧ Cond.code Lib.objectInit ⟨#[0xb1]⟩ 1 none ∈ gw := ⟨(gw_at 161 (by decide +kernel) (by decide +kernel)), (gw_at 86 (by decide +kernel) (by decide +kernel)), (gw_at 87 rfl rfl)⟩
theorem f_P_9 : FLk R_P 9 3 0 := ⟨_, rfl, by decide, (gw_at 162 (by decide +kernel) (by decide +kernel))⟩
theorem f_P_15 : FLk R_P 15 3 2 := ⟨_, rfl, by decide, (gw_at 164 (by decide +kernel) (by decide +kernel))⟩
theorem w_P_19 : CVk R_P 19 3 m_P_isFull 0 := ⟨(gw_at 482 (by decide +kernel) (by decide +kernel)), s_P_isFull⟩
theorem f_P_23 : FLk R_P 23 3 1 := ⟨_, rfl, by decide, (gw_at 163 (by decide +kernel) (by decide +kernel))⟩
theorem w_P_26 : CVk R_P 26 3 m_P_isEmpty 0 := ⟨(gw_at 491 (by decide +kernel) (by decide +kernel)), s_P_isEmpty⟩
set_option maxRecDepth 100000 in
theorem w_ROW_3 : Cond.methodLink R_ROW 3 Lib.objectInit ∈ gw ∧ Cond.instanceMethod Lib.objectInit ∈ gw ∧ Cond.code Lib.objectInit ⟨#[0xb1]⟩ 1 none ∈ gw := ⟨(gw_at 178 (by decide +kernel) (by decide +kernel)), (gw_at 86 (by decide +kernel) (by decide +kernel)), (gw_at 87 rfl rfl)⟩
theorem f_ROW_9 : FLk R_ROW 9 4 0 := ⟨_, rfl, by decide, (gw_at 179 (by decide +kernel) (by decide +kernel))⟩
theorem f_ROW_15 : FLk R_ROW 15 4 1 := ⟨_, rfl, by decide, (gw_at 180 (by decide +kernel) (by decide +kernel))⟩
theorem w_ROW_19 : CVk R_ROW 19 4 m_ROW_at 1 := ⟨(gw_at 274 (by decide +kernel) (by decide +kernel)), s_ROW_at⟩
theorem w_ROW_23 : CVk R_ROW 23 4 m_ROW_drop 1 := ⟨(gw_at 278 (by decide +kernel) (by decide +kernel)), s_ROW_drop⟩
set_option maxRecDepth 100000 in
theorem w_T_3 : Cond.methodLink R_T 3 Lib.objectInit ∈ gw ∧ Cond.instanceMethod Lib.objectInit ∈ gw ∧ Cond.code Lib.objectInit ⟨#[0xb1]⟩ 1 none ∈ gw := ⟨(gw_at 118 (by decide +kernel) (by decide +kernel)), (gw_at 86 (by decide +kernel) (by decide +kernel)), (gw_at 87 rfl rfl)⟩
theorem f_T_9 : FLk R_T 9 2 1 := ⟨_, rfl, by decide, (gw_at 121 (by decide +kernel) (by decide +kernel))⟩
theorem f_T_15 : FLk R_T 15 2 2 := ⟨_, rfl, by decide, (gw_at 122 (by decide +kernel) (by decide +kernel))⟩
theorem f_T_18 : FLk R_T 18 2 3 := ⟨_, rfl, by decide, (gw_at 124 (by decide +kernel) (by decide +kernel))⟩
theorem f_T_21 : FLk R_T 21 2 0 := ⟨_, rfl, by decide, (gw_at 119 (by decide +kernel) (by decide +kernel))⟩
theorem f_T_25 : FLk R_T 25 2 5 := ⟨_, rfl, by decide, (gw_at 128 (by decide +kernel) (by decide +kernel))⟩
theorem f_T_28 : FLk R_T 28 2 7 := ⟨_, rfl, by decide, (gw_at 133 (by decide +kernel) (by decide +kernel))⟩
theorem f_T_31 : FLk R_T 31 2 6 := ⟨_, rfl, by decide, (gw_at 131 (by decide +kernel) (by decide +kernel))⟩
theorem w_T_34 : Cond.methodLink R_T 34 arraycopyName ∈ gw ∧ Cond.native arraycopyName ∈ gw ∧ Cond.static arraycopyName ∈ gw ∧ Cond.initialized "java/lang/System" ∈ gw := ⟨(gw_at 454 (by decide +kernel) (by decide +kernel)), (gw_at 456 (by decide +kernel) (by decide +kernel)), (gw_at 455 (by decide +kernel) (by decide +kernel)), (gw_at 79 (by decide +kernel) (by decide +kernel))⟩
theorem n_LAW_7 : NWk R_LAW 7 0 13 := ⟨_, rfl, rfl, (gw_at 80 (by decide +kernel) (by decide +kernel)), (gw_at 81 (by decide +kernel) (by decide +kernel)), (gw_at 72 (by decide +kernel) (by decide +kernel))⟩
theorem w_LAW_9 : CSk R_LAW 9 m_LAW_cell 2 := ⟨(gw_at 602 (by decide +kernel) (by decide +kernel)), s_LAW_cell⟩
theorem w_LAW_15 : CIk R_LAW 15 m_K_init 2 := ⟨(gw_at 82 (by decide +kernel) (by decide +kernel)), s_K_init⟩
theorem n_LAW_18 : NWk R_LAW 18 5 28 := ⟨_, rfl, rfl, (gw_at 605 (by decide +kernel) (by decide +kernel)), (gw_at 606 (by decide +kernel) (by decide +kernel)), (gw_at 77 (by decide +kernel) (by decide +kernel))⟩
theorem w_LAW_20 : CIk R_LAW 20 m_MOD_init 2 := ⟨(gw_at 607 (by decide +kernel) (by decide +kernel)), s_MOD_init⟩
theorem w_LAW_21 : CVk R_LAW 21 0 m_K_load 1 := ⟨(gw_at 226 (by decide +kernel) (by decide +kernel)), s_K_load⟩
theorem w_LAW_25 : CVk R_LAW 25 5 m_MOD_load 1 := ⟨(gw_at 696 (by decide +kernel) (by decide +kernel)), s_MOD_load⟩
theorem w_LAW_26 : CVk R_LAW 26 0 m_K_boot 0 := ⟨(gw_at 230 (by decide +kernel) (by decide +kernel)), s_K_boot⟩
theorem w_LAW_30 : CVk R_LAW 30 5 m_MOD_boot 0 := ⟨(gw_at 704 (by decide +kernel) (by decide +kernel)), s_MOD_boot⟩
theorem w_LAW_31 : CVk R_LAW 31 0 m_K_step 0 := ⟨(gw_at 262 (by decide +kernel) (by decide +kernel)), s_K_step⟩
theorem w_LAW_34 : CVk R_LAW 34 5 m_MOD_step 0 := ⟨(gw_at 716 (by decide +kernel) (by decide +kernel)), s_MOD_step⟩
theorem w_LAW_35 : CVk R_LAW 35 0 m_K_run 1 := ⟨(gw_at 540 (by decide +kernel) (by decide +kernel)), s_K_run⟩
theorem w_LAW_39 : CVk R_LAW 39 5 m_MOD_run 1 := ⟨(gw_at 882 (by decide +kernel) (by decide +kernel)), s_MOD_run⟩
theorem w_LAW_40 : CVk R_LAW 40 0 m_K_current 0 := ⟨(gw_at 544 (by decide +kernel) (by decide +kernel)), s_K_current⟩
theorem w_LAW_43 : CVk R_LAW 43 5 m_MOD_current 0 := ⟨(gw_at 887 (by decide +kernel) (by decide +kernel)), s_MOD_current⟩
theorem w_LAW_44 : CVk R_LAW 44 0 m_K_stateOf 1 := ⟨(gw_at 548 (by decide +kernel) (by decide +kernel)), s_K_stateOf⟩
theorem w_LAW_47 : CVk R_LAW 47 5 m_MOD_stateOf 1 := ⟨(gw_at 891 (by decide +kernel) (by decide +kernel)), s_MOD_stateOf⟩
theorem w_LAW_48 : CVk R_LAW 48 0 m_K_exitOf 1 := ⟨(gw_at 552 (by decide +kernel) (by decide +kernel)), s_K_exitOf⟩
theorem w_LAW_51 : CVk R_LAW 51 5 m_MOD_exitOf 1 := ⟨(gw_at 899 (by decide +kernel) (by decide +kernel)), s_MOD_exitOf⟩
theorem w_LAW_52 : CVk R_LAW 52 0 m_K_parentOf 1 := ⟨(gw_at 556 (by decide +kernel) (by decide +kernel)), s_K_parentOf⟩
theorem w_LAW_55 : CVk R_LAW 55 5 m_MOD_parentOf 1 := ⟨(gw_at 903 (by decide +kernel) (by decide +kernel)), s_MOD_parentOf⟩
theorem w_LAW_56 : CVk R_LAW 56 0 m_K_freeFrames 0 := ⟨(gw_at 560 (by decide +kernel) (by decide +kernel)), s_K_freeFrames⟩
theorem w_LAW_59 : CVk R_LAW 59 5 m_MOD_freeFrames 0 := ⟨(gw_at 700 (by decide +kernel) (by decide +kernel)), s_MOD_freeFrames⟩
theorem w_LAW_60 : CVk R_LAW 60 0 m_K_pages 1 := ⟨(gw_at 564 (by decide +kernel) (by decide +kernel)), s_K_pages⟩
theorem w_LAW_63 : CVk R_LAW 63 5 m_MOD_pages 1 := ⟨(gw_at 907 (by decide +kernel) (by decide +kernel)), s_MOD_pages⟩
theorem w_LAW_64 : CVk R_LAW 64 0 m_K_register 2 := ⟨(gw_at 568 (by decide +kernel) (by decide +kernel)), s_K_register⟩
theorem w_LAW_68 : CVk R_LAW 68 5 m_MOD_register 2 := ⟨(gw_at 911 (by decide +kernel) (by decide +kernel)), s_MOD_register⟩
theorem w_LAW_69 : CVk R_LAW 69 0 m_K_pc 1 := ⟨(gw_at 572 (by decide +kernel) (by decide +kernel)), s_K_pc⟩
theorem w_LAW_72 : CVk R_LAW 72 5 m_MOD_pc 1 := ⟨(gw_at 915 (by decide +kernel) (by decide +kernel)), s_MOD_pc⟩
theorem w_LAW_73 : CVk R_LAW 73 0 m_K_word 2 := ⟨(gw_at 576 (by decide +kernel) (by decide +kernel)), s_K_word⟩
theorem w_LAW_76 : CVk R_LAW 76 5 m_MOD_word 2 := ⟨(gw_at 919 (by decide +kernel) (by decide +kernel)), s_MOD_word⟩
theorem w_LAW_77 : CVk R_LAW 77 0 m_K_descriptor 2 := ⟨(gw_at 581 (by decide +kernel) (by decide +kernel)), s_K_descriptor⟩
theorem w_LAW_80 : CVk R_LAW 80 5 m_MOD_descriptor 2 := ⟨(gw_at 923 (by decide +kernel) (by decide +kernel)), s_MOD_descriptor⟩
theorem w_LAW_81 : CVk R_LAW 81 0 m_K_held 1 := ⟨(gw_at 585 (by decide +kernel) (by decide +kernel)), s_K_held⟩
theorem w_LAW_84 : CVk R_LAW 84 5 m_MOD_held 1 := ⟨(gw_at 927 (by decide +kernel) (by decide +kernel)), s_MOD_held⟩
theorem w_LAW_85 : CVk R_LAW 85 0 m_K_consoleLength 0 := ⟨(gw_at 589 (by decide +kernel) (by decide +kernel)), s_K_consoleLength⟩
theorem w_LAW_88 : CVk R_LAW 88 5 m_MOD_consoleLength 0 := ⟨(gw_at 931 (by decide +kernel) (by decide +kernel)), s_MOD_consoleLength⟩
theorem w_LAW_89 : CVk R_LAW 89 0 m_K_console 1 := ⟨(gw_at 593 (by decide +kernel) (by decide +kernel)), s_K_console⟩
theorem w_LAW_92 : CVk R_LAW 92 5 m_MOD_console 1 := ⟨(gw_at 935 (by decide +kernel) (by decide +kernel)), s_MOD_console⟩
theorem w_LAW_93 : CVk R_LAW 93 0 m_K_waitingTurn 1 := ⟨(gw_at 597 (by decide +kernel) (by decide +kernel)), s_K_waitingTurn⟩
theorem w_LAW_96 : CVk R_LAW 96 5 m_MOD_waitingTurn 1 := ⟨(gw_at 939 (by decide +kernel) (by decide +kernel)), s_MOD_waitingTurn⟩
theorem a_int : Cond.arrayClass .int ∈ gw := (gw_at 110 (by decide +kernel) (by decide +kernel))
theorem a_boolean : Cond.arrayClass .boolean ∈ gw := (gw_at 111 (by decide +kernel) (by decide +kernel))
end
section
theorem sh_ok : ∀ a, a < 32 → ((nI a &&& 31).toBitVec.smod 32).toNat = a := by decide
theorem mk_ok : ∀ k, k < 32 → (((1 : Int32) <<< (nI k &&& 31)) - 1).toBitVec.toNat = 2 ^ k - 1 := by decide
theorem bits_eq (w : Int32) {a k : Nat} (ha : a < 32) (hk : k < 32) (hak : a + k ≤ 32) : (w >>> (nI a &&& 31)) &&& (((1 : Int32) <<< (nI k &&& 31)) - 1) = nI (bf w a k) := bf_s w a k (sh_ok a ha) (mk_ok k hk) hak
def b2i (b : Bool) : Int32 := if b = true then 1 else 0
theorem b2i_01 (b : Bool) : b2i b = 0 ∨ b2i b = 1 := by cases b <;> simp [b2i]
theorem b2i_t : b2i true = 1 := rfl
theorem b2i_f : b2i false = 0 := rfl
theorem any_succ (n : Nat) (f : Nat → Bool) : (List.range (n + 1)).any f = ((List.range n).any f || f n) := by
  rw [List.range_succ, List.any_append]
  simp
/-- the walk with its locals written out -/
theorem Mt.of' {G : iG} {m : iM} {d ac az : Nat} {As : List iV} {h : iH} {Q : Option iV → iH → Prop} {Ls : List (Option iV)} (hpl : plainName m.1.cls = true) (hct : ∀ v ∈ As, ct v = 1) (hlen : As.length ≤ m.2.2.1)
    (hLs : As.map some ++ List.replicate (m.2.2.1 - As.length) none = Ls) (k : Ev G m d ac az 0 Ls [] h Q) : Mt G m d ac az As h Q := Mt.of hpl hct hlen (by rw [hLs]; exact k)
theorem E_tp {G : iG} {m : iM} {d ac az pc : Nat} {Ls : List (Option iV)} {st : List iV} {h : iH} {Q : Option iV → iH → Prop} {x y : Int32} (hx : x = y) (k : Ev G m d ac az pc Ls (vI y :: st) h Q) : Ev G m d ac az pc Ls (vI x :: st) h Q := by
  subst hx
  exact k
end
section
/-! ===== the law's cell; the reference's small methods ===== -/
theorem c_LAW_cell {G : iG} {h : iH} {k : Nat} (hL : G.2.2.2.2.1 < 2 ^ 31) (hk : k < 2 ^ 31) : MI G m_LAW_cell 0 [vS, vI (nI k)] (h) (fun x h' => x = (if k < G.2.2.2.2.1 then G.2.2.2.2.2 k else 0) ∧ h' = h) := by
  refine Mt.of' (Ls := [some (vS), some (vI (nI k))]) (by decide) (by simp [ct]) (Nat.le_of_ble_eq_true rfl) rfl ?_
  refine E_iload_n d_LAW_cell_0 rfl ?_
  refine E_aload_n d_LAW_cell_1 rfl rfl ?_
  refine E_slen d_LAW_cell_2 ?_
  refine E_icmp_ge (tgt := 12) d_LAW_cell_3 (by decide) (fun c3 => ?_) (fun c3 => ?_)
  · have c := (nI_leI hL hk).mp c3
    refine E_iconst (v := 0) d_LAW_cell_12 (by decide) ?_
    exact E_ireturn d_LAW_cell_13 (Or.inl rfl) rfl ⟨_, rfl, by first | rw [if_pos (by omega)] | rw [if_neg (by omega)], rfl⟩
  · have c : ¬ G.2.2.2.2.1 ≤ k := fun q => c3 ((nI_leI hL hk).mpr q)
    refine E_aload_n d_LAW_cell_6 rfl rfl ?_
    refine E_iload_n d_LAW_cell_7 rfl ?_
    refine E_sld (j := k) d_LAW_cell_8 rfl (by omega) (by omega) ?_
    refine E_goto (tgt := 13) d_LAW_cell_9 (by decide) ?_
    exact E_ireturn d_LAW_cell_13 (Or.inl rfl) rfl ⟨_, rfl, by first | rw [if_pos (by omega)] | rw [if_neg (by omega)], rfl⟩
theorem c_MOD_bits {G : iG} {F : Nat} {C M : Nat → Nat → Int32} {a k : Nat} (ha : a < 32) (hk : k < 32) (hak : a + k ≤ 32) : MI G m_MOD_bits 0 [vR 50, vI (nI a), vI (nI k)] (HW F C M) (fun x h' => x = nI (bf (M 0 25) a k) ∧ h' = HW F C M) := by
  refine Mt.of' (Ls := [some (vR 50), some (vI (nI a)), some (vI (nI k))]) (by decide) (by simp [ct]) (Nat.le_of_ble_eq_true rfl) rfl ?_
  refine E_aload_n d_MOD_bits_0 rfl rfl ?_
  refine L_gi d_MOD_bits_1 f_MOD_107 rfl (by decide) rfl (fr_M 0 25) ?_
  refine E_iload_n d_MOD_bits_4 rfl ?_
  refine E_ishr d_MOD_bits_5 ?_
  refine E_iconst (v := 1) d_MOD_bits_6 (by decide) ?_
  refine E_iload_n d_MOD_bits_7 rfl ?_
  refine E_ishl d_MOD_bits_8 ?_
  refine E_iconst (v := 1) d_MOD_bits_9 (by decide) ?_
  refine E_isub d_MOD_bits_10 ?_
  refine E_iand d_MOD_bits_11 ?_
  exact E_ireturn d_MOD_bits_12 (Or.inl rfl) rfl ⟨_, rfl, bits_eq _ ha hk hak, rfl⟩
theorem c_MOD_get {G : iG} {F : Nat} {C M : Nat → Nat → Int32} {p k : Nat} (hp : M 0 24 = nI p) (hp8 : p ≤ 8) (hk : k < 32) : MI G m_MOD_get 0 [vR 50, vI (nI k)] (HW F C M) (fun x h' => x = M 9 (32 * p + k) ∧ h' = HW F C M) := by
  refine Mt.of' (Ls := [some (vR 50), some (vI (nI k))]) (by decide) (by simp [ct]) (Nat.le_of_ble_eq_true rfl) rfl ?_
  refine E_aload_n d_MOD_get_0 rfl rfl ?_
  refine L_gr d_MOD_get_1 f_MOD_34 rfl (by decide) rfl rfl ?_
  refine E_bipush (v := 32) d_MOD_get_4 (by decide) ?_
  refine E_aload_n d_MOD_get_6 rfl rfl ?_
  refine L_gi d_MOD_get_7 f_MOD_97 rfl (by decide) rfl (fr_M 0 24) ?_
  refine E_tp (y := nI (p)) hp ?_
  refine E_imul d_MOD_get_10 ?_
  refine E_tp (y := nI (32 * p)) (pk_mul 32 p) ?_
  refine E_iload_n d_MOD_get_11 rfl ?_
  refine E_iadd d_MOD_get_12 ?_
  refine E_tp (y := nI (32 * p + k)) (nI_add (32 * p) k) ?_
  refine L_ld (j := 32 * p + k) d_MOD_get_13 rfl rfl (by omega) (by decide) (fr_M 9 _) ?_
  exact E_ireturn d_MOD_get_14 (Or.inl rfl) rfl ⟨_, rfl, rfl, rfl⟩
theorem c_MOD_set {G : iG} {F : Nat} {C M : Nat → Nat → Int32} {p k : Nat} {v : Int32} (hp : M 0 24 = nI p) (hp8 : p ≤ 8) (hk : k < 32) : MV G m_MOD_set 0 [vR 50, vI (nI k), vI v] (HW F C M) (fun h' => h' = HW F C (up2 M 9 (32 * p + k) (if k = 0 then 0 else v))) := by
  refine Mt.of' (Ls := [some (vR 50), some (vI (nI k)), some (vI v)]) (by decide) (by simp [ct]) (Nat.le_of_ble_eq_true rfl) rfl ?_
  refine E_aload_n d_MOD_set_0 rfl rfl ?_
  refine L_gr d_MOD_set_1 f_MOD_34 rfl (by decide) rfl rfl ?_
  refine E_bipush (v := 32) d_MOD_set_4 (by decide) ?_
  refine E_aload_n d_MOD_set_6 rfl rfl ?_
  refine L_gi d_MOD_set_7 f_MOD_97 rfl (by decide) rfl (fr_M 0 24) ?_
  refine E_tp (y := nI (p)) hp ?_
  refine E_imul d_MOD_set_10 ?_
  refine E_tp (y := nI (32 * p)) (pk_mul 32 p) ?_
  refine E_iload_n d_MOD_set_11 rfl ?_
  refine E_iadd d_MOD_set_12 ?_
  refine E_tp (y := nI (32 * p + k)) (nI_add (32 * p) k) ?_
  refine E_iload_n d_MOD_set_13 rfl ?_
  refine E_if_ne (tgt := 21) d_MOD_set_14 (by decide) (fun c14 => ?_) (fun c14 => ?_)
  · have c : k ≠ 0 := fun q => c14 (by rw [q]; rfl)
    refine E_iload_n d_MOD_set_21 rfl ?_
    refine L_st (j := 32 * p + k) d_MOD_set_22 rfl rfl (by omega) (by decide) (fu_M 9 _ _) ?_
    exact E_return d_MOD_set_23 rfl rfl ⟨rfl, by simp [c]⟩
  · have c : k = 0 := (nI_eq (b := 0) (by omega) (by omega)).mp c14
    refine E_iconst (v := 0) d_MOD_set_17 (by decide) ?_
    refine E_goto (tgt := 22) d_MOD_set_18 (by decide) ?_
    refine L_st (j := 32 * p + k) d_MOD_set_22 rfl rfl (by omega) (by decide) (fu_M 9 _ _) ?_
    exact E_return d_MOD_set_23 rfl rfl ⟨rfl, by simp [c]⟩
theorem c_MOD_there {G : iG} {F : Nat} {C M : Nat → Nat → Int32} {p s : Nat} {a : Int32} (hp : p ≤ 8) (hs : M 8 p = nI s) : MI G m_MOD_there 0 [vR 50, vI (nI p), vI a] (HW F C M) (fun x h' => x = b2i (decide (0 ≤ a ∧ a < nI (64 * s))) ∧ h' = HW F C M) := by
  refine Mt.of' (Ls := [some (vR 50), some (vI (nI p)), some (vI a)]) (by decide) (by simp [ct]) (Nat.le_of_ble_eq_true rfl) rfl ?_
  refine E_iload_n d_MOD_there_0 rfl ?_
  refine E_if_lt (tgt := 21) d_MOD_there_1 (by decide) (fun c1 => ?_) (fun c1 => ?_)
  · have c : ¬ (0 ≤ a ∧ a < nI (64 * s)) := fun q => absurd c1 (Int32.not_lt.mpr q.1)
    refine E_iconst (v := 0) d_MOD_there_21 (by decide) ?_
    exact E_ireturn d_MOD_there_22 (Or.inr ⟨rfl, (by decide)⟩) rfl ⟨_, rfl, by simp [c, b2i], rfl⟩
  · refine E_iload_n d_MOD_there_4 rfl ?_
    refine E_bipush (v := 64) d_MOD_there_5 (by decide) ?_
    refine E_aload_n d_MOD_there_7 rfl rfl ?_
    refine L_gr d_MOD_there_8 f_MOD_31 rfl (by decide) rfl rfl ?_
    refine E_iload_n d_MOD_there_11 rfl ?_
    refine L_ld (j := p) d_MOD_there_12 rfl rfl (by omega) (by decide) (fr_M 8 _) ?_
    rw [hs]
    refine E_imul d_MOD_there_13 ?_
    rw [show (64 : Int32) * nI s = nI (64 * s) from pk_mul 64 s]
    refine E_icmp_ge (tgt := 21) d_MOD_there_14 (by decide) (fun c14 => ?_) (fun c14 => ?_)
    · have c : ¬ (0 ≤ a ∧ a < nI (64 * s)) := fun q => absurd q.2 (Int32.not_lt.mpr c14)
      refine E_iconst (v := 0) d_MOD_there_21 (by decide) ?_
      exact E_ireturn d_MOD_there_22 (Or.inr ⟨rfl, (by decide)⟩) rfl ⟨_, rfl, by simp [c, b2i], rfl⟩
    · have c : (0 ≤ a ∧ a < nI (64 * s)) := ⟨Int32.not_lt.mp c1, Int32.not_le.mp c14⟩
      refine E_iconst (v := 1) d_MOD_there_17 (by decide) ?_
      refine E_goto (tgt := 22) d_MOD_there_18 (by decide) ?_
      exact E_ireturn d_MOD_there_22 (Or.inr ⟨rfl, (by decide)⟩) rfl ⟨_, rfl, by simp [c, b2i], rfl⟩
theorem c_MOD_cellOf {G : iG} {F : Nat} {C M : Nat → Nat → Int32} {p s a : Nat} (hp : p ≤ 8) (hs : s ≤ 8) (ha : a < 64 * s) : MI G m_MOD_cellOf 0 [vR 50, vI (nI p), vI (nI a)] (HW F C M) (fun x h' => x = nI 16 * M 10 (8 * p + a / 64) + nI (a % 64 / 4) ∧ h' = HW F C M) := by
  refine Mt.of' (Ls := [some (vR 50), some (vI (nI p)), some (vI (nI a))]) (by decide) (by simp [ct]) (Nat.le_of_ble_eq_true rfl) rfl ?_
  refine E_bipush (v := 16) d_MOD_cellOf_0 (by decide) ?_
  refine E_aload_n d_MOD_cellOf_2 rfl rfl ?_
  refine L_gr d_MOD_cellOf_3 f_MOD_37 rfl (by decide) rfl rfl ?_
  refine E_bipush (v := 8) d_MOD_cellOf_6 (by decide) ?_
  refine E_iload_n d_MOD_cellOf_8 rfl ?_
  refine E_imul d_MOD_cellOf_9 ?_
  refine E_tp (y := nI (8 * p)) (pk_mul 8 p) ?_
  refine E_iload_n d_MOD_cellOf_10 rfl ?_
  refine E_bipush (v := 64) d_MOD_cellOf_11 (by decide) ?_
  refine E_idiv d_MOD_cellOf_13 (by decide) ?_
  refine E_tp (y := nI (a / 64)) (pk_div (d := 64) (by omega) (by decide) (by decide)) ?_
  refine E_iadd d_MOD_cellOf_14 ?_
  refine E_tp (y := nI (8 * p + (a / 64))) (nI_add (8 * p) (a / 64)) ?_
  refine L_ld (j := 8 * p + (a / 64)) d_MOD_cellOf_15 rfl rfl (by omega) (by decide) (fr_M 10 _) ?_
  refine E_imul d_MOD_cellOf_16 ?_
  refine E_iload_n d_MOD_cellOf_17 rfl ?_
  refine E_bipush (v := 64) d_MOD_cellOf_18 (by decide) ?_
  refine E_irem d_MOD_cellOf_20 (by decide) ?_
  refine E_tp (y := nI (a % 64)) (pk_rem (d := 64) (by omega) (by decide) (by decide)) ?_
  refine E_iconst (v := 4) d_MOD_cellOf_21 (by decide) ?_
  refine E_idiv d_MOD_cellOf_22 (by decide) ?_
  refine E_tp (y := nI (a % 64 / 4)) (pk_div (d := 4) (by omega) (by decide) (by decide)) ?_
  refine E_iadd d_MOD_cellOf_23 ?_
  exact E_ireturn d_MOD_cellOf_24 (Or.inl rfl) rfl ⟨_, rfl, rfl, rfl⟩
end
section
/-! ===== what the reference's methods do to its cells M ===== -/
def hel (M : Nat → Nat → Int32) (e : Int32) : Bool := (List.range 48).any (fun j => M 11 (6 + j) == e)
def nfr (M : Nat → Nat → Int32) : Nat → Nat
  | 0 => 0
  | n + 1 => nfr M n + (if M 2 n = 0 then 1 else 0)
theorem nfr_le (M : Nat → Nat → Int32) : ∀ n, nfr M n ≤ n
  | 0 => Nat.le_refl 0
  | n + 1 => by
    have := nfr_le M n
    unfold nfr
    split <;> omega
/-- the first free descriptor of p from k on, n places -/
def fds (M : Nat → Nat → Int32) (p : Nat) : Nat → Nat → Nat
  | 0, k => k
  | n + 1, k => if M 11 (6 * p + k) < 0 then k else fds M p n (k + 1)
theorem fds_le (M : Nat → Nat → Int32) (p : Nat) : ∀ n k, k ≤ fds M p n k ∧ fds M p n k ≤ k + n
  | 0, k => ⟨Nat.le_refl _, Nat.le_refl _⟩
  | n + 1, k => by
    have := fds_le M p n (k + 1)
    unfold fds
    split <;> omega
def fdr (M : Nat → Nat → Int32) (p : Nat) : Int32 := if fds M p 6 0 < 6 then nI (fds M p 6 0) else -1
/-- M with the head of row a put to the list l -/
def upl (M : Nat → Nat → Int32) (a : Nat) (l : List Int32) : Nat → Nat → Int32 := fun a' j => if a' = a then l.getD j (M a' j) else M a' j
theorem upl_nil (M : Nat → Nat → Int32) (a : Nat) : upl M a [] = M := by
  funext a' j
  simp [upl]
theorem upl_app (M : Nat → Nat → Int32) (a : Nat) (l : List Int32) (v : Int32) : up2 (upl M a l) a l.length v = upl M a (l ++ [v]) := by
  funext a' j
  by_cases ha : a' = a
  · subst ha
    by_cases hj : j = l.length
    · subst hj
      simp [up2, upl]
    · by_cases hl : j < l.length
      · simp [up2, upl, hj, List.getD_eq_getElem?_getD, List.getElem?_append_left hl]
      · have h2 : l.length + 1 ≤ j := by omega
        have e1 : l[j]? = none := List.getElem?_eq_none (by omega)
        have e2 : (l ++ [v])[j]? = none := List.getElem?_eq_none (by simp; omega)
        simp [up2, upl, hj, List.getD_eq_getElem?_getD, e1, e2]
  · simp [up2, upl, ha]
theorem upl_out (M : Nat → Nat → Int32) (a : Nat) (l : List Int32) {j : Nat} (hj : l.length ≤ j) : upl M a l a j = M a j := by
  simp [upl, List.getD_eq_getElem?_getD, List.getElem?_eq_none hj]
theorem upl_ne (M : Nat → Nat → Int32) {a a' : Nat} (l : List Int32) (j : Nat) (h : a' ≠ a) : upl M a l a' j = M a' j := by
  simp [upl, h]
/-- the first k places of row a but those that are q -/
def flt (M : Nat → Nat → Int32) (a : Nat) (q : Int32) (k : Nat) : List Int32 := ((List.range k).map (M a)).filter (fun v => v != q)
theorem flt_succ (M : Nat → Nat → Int32) (a : Nat) (q : Int32) (k : Nat) : flt M a q (k + 1) = flt M a q k ++ (if M a k = q then [] else [M a k]) := by
  unfold flt
  rw [List.range_succ, List.map_append, List.filter_append]
  congr 1
  by_cases h : M a k = q <;> simp [h]
theorem flt_len (M : Nat → Nat → Int32) (a : Nat) (q : Int32) (k : Nat) : (flt M a q k).length ≤ k := by
  unfold flt
  exact Nat.le_trans (List.length_filter_le _ _) (by simp)
theorem upr_zero (C : Nat → Nat → Int32) (a lo : Nat) (f : Nat → Int32) : upr C a lo 0 f = C := by
  funext a' j
  simp only [upr]
  rw [if_neg (by omega)]
theorem upr_succ (C : Nat → Nat → Int32) (a lo n : Nat) (f : Nat → Int32) : up2 (upr C a lo n f) a (lo + n) (f n) = upr C a lo (n + 1) f := by
  funext a' j
  simp only [upr, up2]
  by_cases ha : a' = a
  · by_cases hj : j = lo + n
    · subst hj
      rw [if_pos ⟨ha, rfl⟩, if_pos ⟨ha, by omega, by omega⟩, Nat.add_sub_cancel_left]
    · rw [if_neg (fun q => hj q.2)]
      by_cases h2 : lo ≤ j ∧ j < lo + n
      · rw [if_pos ⟨ha, h2⟩, if_pos ⟨ha, h2.1, by omega⟩]
      · rw [if_neg (fun q => h2 q.2), if_neg (fun q => h2 ⟨q.2.1, by omega⟩)]
  · rw [if_neg (fun q => ha q.1), if_neg (fun q => ha q.1), if_neg (fun q => ha q.1)]
def remv (M : Nat → Nat → Int32) (p : Nat) : Nat → Nat → Int32 := upr (up2 (up2 (up2 (up2 M 4 p 0) 5 p 0) 6 p 0) 7 p 0) 9 (32 * p) 32 (fun _ => 0)
def unrw (M : Nat → Nat → Int32) (p : Int32) (m : Nat) : Nat → Nat → Int32 := up2 (upl M 12 (flt M 12 p m)) 0 15 (nI (flt M 12 p m).length)
def wakM (M : Nat → Nat → Int32) (p m : Nat) : Nat → Nat → Int32 := up2 (up2 (up2 M 4 p 1) 12 m (nI p)) 0 15 (nI (m + 1))
/-- pipes 0 .. k - 1 of which no end is held are emptied -/
def tidk (M : Nat → Nat → Int32) (k : Nat) : Nat → Nat → Int32 := fun a j => if a = 14 ∧ j < k ∧ hel M (nI (1 + 2 * j)) = false ∧ hel M (nI (2 + 2 * j)) = false then 0 else M a j
def tidy (M : Nat → Nat → Int32) : Nat → Nat → Int32 := tidk M 4
theorem tidk_zero (M : Nat → Nat → Int32) : tidk M 0 = M := by
  funext a j
  simp [tidk]
theorem hel_congr {M M' : Nat → Nat → Int32} (h : ∀ j, j < 48 → M' 11 (6 + j) = M 11 (6 + j)) (e : Int32) : hel M' e = hel M e := by
  unfold hel
  rw [Bool.eq_iff_iff, List.any_eq_true, List.any_eq_true]
  constructor
  · rintro ⟨j, hj, he⟩
    exact ⟨j, hj, by rw [← h j (List.mem_range.mp hj)]; exact he⟩
  · rintro ⟨j, hj, he⟩
    exact ⟨j, hj, by rw [h j (List.mem_range.mp hj)]; exact he⟩
theorem hel_tidk (M : Nat → Nat → Int32) (k : Nat) (e : Int32) : hel (tidk M k) e = hel M e := hel_congr (fun j _ => by simp [tidk]) e
theorem tidk_succ_f (M : Nat → Nat → Int32) (k : Nat) (h1 : hel M (nI (1 + 2 * k)) = false) (h2 : hel M (nI (2 + 2 * k)) = false) : up2 (tidk M k) 14 k 0 = tidk M (k + 1) := by
  funext a j
  simp only [up2, tidk]
  by_cases ha : a = 14
  · by_cases hj : j = k
    · subst hj
      rw [if_pos ⟨ha, rfl⟩, if_pos ⟨ha, by omega, h1, h2⟩]
    · rw [if_neg (fun q => hj q.2)]
      by_cases h : j < k ∧ hel M (nI (1 + 2 * j)) = false ∧ hel M (nI (2 + 2 * j)) = false
      · rw [if_pos ⟨ha, h⟩, if_pos ⟨ha, by omega, h.2⟩]
      · rw [if_neg (fun q => h q.2), if_neg (fun q => h ⟨by omega, q.2.2⟩)]
  · rw [if_neg (fun q => ha q.1), if_neg (fun q => ha q.1), if_neg (fun q => ha q.1)]
theorem tidk_succ_t (M : Nat → Nat → Int32) (k : Nat) (h : ¬ (hel M (nI (1 + 2 * k)) = false ∧ hel M (nI (2 + 2 * k)) = false)) : tidk M k = tidk M (k + 1) := by
  funext a j
  simp only [tidk]
  by_cases hj : j = k
  · subst hj
    rw [if_neg (by omega), if_neg (fun q => h q.2.2)]
  · by_cases hc : a = 14 ∧ j < k ∧ hel M (nI (1 + 2 * j)) = false ∧ hel M (nI (2 + 2 * j)) = false
    · rw [if_pos hc, if_pos ⟨hc.1, by omega, hc.2.2⟩]
    · rw [if_neg hc, if_neg (fun q => hc ⟨q.1, by omega, q.2.2⟩)]
/-- the reference's lostChild, from 8 down: k processes seen -/
def lcf (M : Nat → Nat → Int32) (p : Int32) : Nat → Int32
  | 0 => -1
  | k + 1 => if (0 < M 4 (8 - k) ∧ M 6 (8 - k) = p) ∧ M 4 (8 - k) = 5 then nI (8 - k) else if (0 < M 4 (8 - k) ∧ M 6 (8 - k) = p) ∧ lcf M p k < 0 then 0 else lcf M p k
end
section
/-! ===== the reference's methods, second row ===== -/
theorem c_MOD_d {G : iG} {F : Nat} {C M : Nat → Nat → Int32}  : MI G m_MOD_d 1 [vR 50] (HW F C M) (fun x h' => x = nI (bf (M 0 25) 7 5) ∧ h' = HW F C M) := by
  refine Mt.of' (Ls := [some (vR 50)]) (by decide) (by simp [ct]) (Nat.le_of_ble_eq_true rfl) rfl ?_
  refine E_aload_n d_MOD_d_0 rfl rfl ?_
  refine E_bipush (v := 7) d_MOD_d_1 (by decide) ?_
  refine E_iconst (v := 5) d_MOD_d_3 (by decide) ?_
  refine E_V2i d_MOD_d_4 w_MOD_110 rfl (by decide) (Nat.le_of_ble_eq_true rfl) (c_MOD_bits (a := 7) (k := 5) (by decide) (by decide) (by decide)) ?_
  rintro _ _ ⟨rfl, rfl⟩
  exact E_ireturn d_MOD_d_7 (Or.inl rfl) rfl ⟨_, rfl, rfl, rfl⟩
theorem c_MOD_s {G : iG} {F : Nat} {C M : Nat → Nat → Int32} {p : Nat} (hp : M 0 24 = nI p) (hp8 : p ≤ 8) : MI G m_MOD_s 1 [vR 50] (HW F C M) (fun x h' => x = M 9 (32 * p + bf (M 0 25) 15 5) ∧ h' = HW F C M) := by
  refine Mt.of' (Ls := [some (vR 50)]) (by decide) (by simp [ct]) (Nat.le_of_ble_eq_true rfl) rfl ?_
  refine E_aload_n d_MOD_s_0 rfl rfl ?_
  refine E_aload_n d_MOD_s_1 rfl rfl ?_
  refine E_bipush (v := 15) d_MOD_s_2 (by decide) ?_
  refine E_iconst (v := 5) d_MOD_s_4 (by decide) ?_
  refine E_V2i d_MOD_s_5 w_MOD_110 rfl (by decide) (Nat.le_of_ble_eq_true rfl) (c_MOD_bits (a := 15) (k := 5) (by decide) (by decide) (by decide)) ?_
  rintro _ _ ⟨rfl, rfl⟩
  refine E_V1i d_MOD_s_8 w_MOD_113 rfl (by decide) (Nat.le_of_ble_eq_true rfl) (c_MOD_get hp hp8 (bf_lt _ _ 5)) ?_
  rintro _ _ ⟨rfl, rfl⟩
  exact E_ireturn d_MOD_s_11 (Or.inl rfl) rfl ⟨_, rfl, rfl, rfl⟩
theorem c_MOD_t {G : iG} {F : Nat} {C M : Nat → Nat → Int32} {p : Nat} (hp : M 0 24 = nI p) (hp8 : p ≤ 8) : MI G m_MOD_t 1 [vR 50] (HW F C M) (fun x h' => x = M 9 (32 * p + bf (M 0 25) 20 5) ∧ h' = HW F C M) := by
  refine Mt.of' (Ls := [some (vR 50)]) (by decide) (by simp [ct]) (Nat.le_of_ble_eq_true rfl) rfl ?_
  refine E_aload_n d_MOD_t_0 rfl rfl ?_
  refine E_aload_n d_MOD_t_1 rfl rfl ?_
  refine E_bipush (v := 20) d_MOD_t_2 (by decide) ?_
  refine E_iconst (v := 5) d_MOD_t_4 (by decide) ?_
  refine E_V2i d_MOD_t_5 w_MOD_110 rfl (by decide) (Nat.le_of_ble_eq_true rfl) (c_MOD_bits (a := 20) (k := 5) (by decide) (by decide) (by decide)) ?_
  rintro _ _ ⟨rfl, rfl⟩
  refine E_V1i d_MOD_t_8 w_MOD_113 rfl (by decide) (Nat.le_of_ble_eq_true rfl) (c_MOD_get hp hp8 (bf_lt _ _ 5)) ?_
  rintro _ _ ⟨rfl, rfl⟩
  exact E_ireturn d_MOD_t_11 (Or.inl rfl) rfl ⟨_, rfl, rfl, rfl⟩
theorem c_MOD_byteAt {G : iG} {F : Nat} {C M : Nat → Nat → Int32} {p s a f : Nat} (hp : p ≤ 8) (hs : s ≤ 8) (ha : a < 64 * s) (hf : M 10 (8 * p + a / 64) = nI f) (hf40 : f < 40) : MI G m_MOD_byteAt 1 [vR 50, vI (nI p), vI (nI a)] (HW F C M) (fun x h' => x = (M 1 (16 * f + a % 64 / 4) >>> (nI (8 * (a % 4)) &&& 31)) &&& 255 ∧ h' = HW F C M) := by
  refine Mt.of' (Ls := [some (vR 50), some (vI (nI p)), some (vI (nI a))]) (by decide) (by simp [ct]) (Nat.le_of_ble_eq_true rfl) rfl ?_
  refine E_aload_n d_MOD_byteAt_0 rfl rfl ?_
  refine L_gr d_MOD_byteAt_1 f_MOD_7 rfl (by decide) rfl rfl ?_
  refine E_aload_n d_MOD_byteAt_4 rfl rfl ?_
  refine E_iload_n d_MOD_byteAt_5 rfl ?_
  refine E_iload_n d_MOD_byteAt_6 rfl ?_
  refine E_V2i d_MOD_byteAt_7 w_MOD_80 rfl (by decide) (Nat.le_of_ble_eq_true rfl) (c_MOD_cellOf hp hs ha) ?_
  rintro _ _ ⟨rfl, rfl⟩
  refine E_tp (y := nI (16 * f + a % 64 / 4)) (by rw [hf, pk_mul, nI_add]) ?_
  refine L_ld (j := 16 * f + a % 64 / 4) d_MOD_byteAt_10 rfl rfl (by omega) (by decide) (fr_M 1 _) ?_
  refine E_bipush (v := 8) d_MOD_byteAt_11 (by decide) ?_
  refine E_iload_n d_MOD_byteAt_13 rfl ?_
  refine E_iconst (v := 4) d_MOD_byteAt_14 (by decide) ?_
  refine E_irem d_MOD_byteAt_15 (by decide) ?_
  refine E_tp (y := nI (a % 4)) (pk_rem (d := 4) (by omega) (by decide) (by decide)) ?_
  refine E_imul d_MOD_byteAt_16 ?_
  refine E_tp (y := nI (8 * (a % 4))) (pk_mul 8 (a % 4)) ?_
  refine E_ishr d_MOD_byteAt_17 ?_
  refine E_sipush (v := 255) d_MOD_byteAt_18 (by decide) ?_
  refine E_iand d_MOD_byteAt_21 ?_
  exact E_ireturn d_MOD_byteAt_22 (Or.inl rfl) rfl ⟨_, rfl, rfl, rfl⟩
theorem c_MOD_putByte {G : iG} {F : Nat} {C M : Nat → Nat → Int32} {p s a f : Nat} {b : Int32} (hp : p ≤ 8) (hs : s ≤ 8) (ha : a < 64 * s) (hf : M 10 (8 * p + a / 64) = nI f) (hf40 : f < 40) : MV G m_MOD_putByte 1 [vR 50, vI (nI p), vI (nI a), vI b] (HW F C M) (fun h' => h' = HW F C (up2 M 1 (16 * f + a % 64 / 4) ((M 1 (16 * f + a % 64 / 4) &&& (((255 : Int32) <<< (nI (8 * (a % 4)) &&& 31)) ^^^ -1)) ||| ((b &&& 255) <<< (nI (8 * (a % 4)) &&& 31))))) := by
  refine Mt.of' (Ls := [some (vR 50), some (vI (nI p)), some (vI (nI a)), some (vI b), none, none]) (by decide) (by simp [ct]) (Nat.le_of_ble_eq_true rfl) rfl ?_
  refine E_aload_n d_MOD_putByte_0 rfl rfl ?_
  refine E_iload_n d_MOD_putByte_1 rfl ?_
  refine E_iload_n d_MOD_putByte_2 rfl ?_
  refine E_V2i d_MOD_putByte_3 w_MOD_80 rfl (by decide) (Nat.le_of_ble_eq_true rfl) (c_MOD_cellOf hp hs ha) ?_
  rintro _ _ ⟨rfl, rfl⟩
  refine E_tp (y := nI (16 * f + a % 64 / 4)) (by rw [hf, pk_mul, nI_add]) ?_
  refine E_istore d_MOD_putByte_6 (by decide) ?_
  refine E_bipush (v := 8) d_MOD_putByte_8 (by decide) ?_
  refine E_iload_n d_MOD_putByte_10 rfl ?_
  refine E_iconst (v := 4) d_MOD_putByte_11 (by decide) ?_
  refine E_irem d_MOD_putByte_12 (by decide) ?_
  refine E_tp (y := nI (a % 4)) (pk_rem (d := 4) (by omega) (by decide) (by decide)) ?_
  refine E_imul d_MOD_putByte_13 ?_
  refine E_tp (y := nI (8 * (a % 4))) (pk_mul 8 (a % 4)) ?_
  refine E_istore d_MOD_putByte_14 (by decide) ?_
  refine E_aload_n d_MOD_putByte_16 rfl rfl ?_
  refine L_gr d_MOD_putByte_17 f_MOD_7 rfl (by decide) rfl rfl ?_
  refine E_iload d_MOD_putByte_20 rfl ?_
  refine E_aload_n d_MOD_putByte_22 rfl rfl ?_
  refine L_gr d_MOD_putByte_23 f_MOD_7 rfl (by decide) rfl rfl ?_
  refine E_iload d_MOD_putByte_26 rfl ?_
  refine L_ld (j := 16 * f + a % 64 / 4) d_MOD_putByte_28 rfl rfl (by omega) (by decide) (fr_M 1 _) ?_
  refine E_sipush (v := 255) d_MOD_putByte_29 (by decide) ?_
  refine E_iload d_MOD_putByte_32 rfl ?_
  refine E_ishl d_MOD_putByte_34 ?_
  refine E_iconst (v := -1) d_MOD_putByte_35 (by decide) ?_
  refine E_ixor d_MOD_putByte_36 ?_
  refine E_iand d_MOD_putByte_37 ?_
  refine E_iload_n d_MOD_putByte_38 rfl ?_
  refine E_sipush (v := 255) d_MOD_putByte_39 (by decide) ?_
  refine E_iand d_MOD_putByte_42 ?_
  refine E_iload d_MOD_putByte_43 rfl ?_
  refine E_ishl d_MOD_putByte_45 ?_
  refine E_ior d_MOD_putByte_46 ?_
  refine L_st (j := 16 * f + a % 64 / 4) d_MOD_putByte_47 rfl rfl (by omega) (by decide) (fu_M 1 _ _) ?_
  exact E_return d_MOD_putByte_48 rfl rfl ⟨rfl, rfl⟩
theorem c_MOD_descriptorOf {G : iG} {F : Nat} {C M : Nat → Nat → Int32} {p : Nat} {x0 : Int32} (hp : p ≤ 8) : MI G m_MOD_descriptorOf 0 [vR 50, vI (nI p), vI x0] (HW F C M) (fun x h' => x = (if 0 ≤ x0 ∧ x0 < 6 then M 11 (6 * p + x0.toNatClampNeg) else -1) ∧ h' = HW F C M) := by
  refine Mt.of' (Ls := [some (vR 50), some (vI (nI p)), some (vI x0)]) (by decide) (by simp [ct]) (Nat.le_of_ble_eq_true rfl) rfl ?_
  refine E_iload_n d_MOD_descriptorOf_0 rfl ?_
  refine E_if_lt (tgt := 24) d_MOD_descriptorOf_1 (by decide) (fun c1 => ?_) (fun c1 => ?_)
  · have c : ¬ (0 ≤ x0 ∧ x0 < 6) := fun q => absurd c1 (Int32.not_lt.mpr q.1)
    refine E_iconst (v := -1) d_MOD_descriptorOf_24 (by decide) ?_
    exact E_ireturn d_MOD_descriptorOf_25 (Or.inl rfl) rfl ⟨_, rfl, by first | rw [if_neg c] | (rw [if_pos c, nI_clamp (by omega)]), rfl⟩
  · refine E_iload_n d_MOD_descriptorOf_4 rfl ?_
    refine E_bipush (v := 6) d_MOD_descriptorOf_5 (by decide) ?_
    refine E_icmp_ge (tgt := 24) d_MOD_descriptorOf_7 (by decide) (fun c7 => ?_) (fun c7 => ?_)
    · have c : ¬ (0 ≤ x0 ∧ x0 < 6) := fun q => absurd q.2 (Int32.not_lt.mpr c7)
      refine E_iconst (v := -1) d_MOD_descriptorOf_24 (by decide) ?_
      exact E_ireturn d_MOD_descriptorOf_25 (Or.inl rfl) rfl ⟨_, rfl, by first | rw [if_neg c] | (rw [if_pos c, nI_clamp (by omega)]), rfl⟩
    · have c : 0 ≤ x0 ∧ x0 < 6 := ⟨Int32.not_lt.mp c1, Int32.not_le.mp c7⟩
      obtain ⟨k, hk, rfl⟩ : ∃ k : Nat, k < 6 ∧ x0 = nI k := by rcases pk_ix x0 (n := 6) (by decide) with q | q | q; exact absurd q c1; exact absurd q c7; exact q
      refine E_aload_n d_MOD_descriptorOf_10 rfl rfl ?_
      refine L_gr d_MOD_descriptorOf_11 f_MOD_40 rfl (by decide) rfl rfl ?_
      refine E_bipush (v := 6) d_MOD_descriptorOf_14 (by decide) ?_
      refine E_iload_n d_MOD_descriptorOf_16 rfl ?_
      refine E_imul d_MOD_descriptorOf_17 ?_
      refine E_tp (y := nI (6 * p)) (pk_mul 6 p) ?_
      refine E_iload_n d_MOD_descriptorOf_18 rfl ?_
      refine E_iadd d_MOD_descriptorOf_19 ?_
      refine L_ld (j := 6 * p + k) d_MOD_descriptorOf_20 rfl (nI_add (6 * p) k) (by omega) (by decide) (fr_M 11 _) ?_
      refine E_goto (tgt := 25) d_MOD_descriptorOf_21 (by decide) ?_
      exact E_ireturn d_MOD_descriptorOf_25 (Or.inl rfl) rfl ⟨_, rfl, by first | rw [if_neg c] | (rw [if_pos c, nI_clamp (by omega)]), rfl⟩
theorem lp_MOD_isHeld {G : iG} {F : Nat} {C M : Nat → Nat → Int32} {e : Int32} {Q : Option iV → iH → Prop} (hQ : Q (some (vI (b2i (hel M e)))) (HW F C M)) : ∀ (n k : Nat) (x : Int32), k + n = 48 → x = b2i ((List.range k).any (fun j => M 11 (6 + j) == e)) → Ev G m_MOD_isHeld 0 0 0 5 [some (vR 50), some (vI e), some (vI x), some (vI (nI (6 + k)))] [] (HW F C M) Q := by
  intro n
  induction n with
  | zero =>
    intro k x hk hx
    refine E_iload_n d_MOD_isHeld_5 rfl ?_
    refine E_bipush (v := 54) d_MOD_isHeld_6 (by decide) ?_
    refine E_icmp_ge (tgt := 37) d_MOD_isHeld_8 (by decide) (fun _ => ?_) (fun c => absurd (nI_le (a := 54) (by omega) (by omega)) c)
    refine E_iload_n d_MOD_isHeld_37 rfl ?_
    exact E_ireturn d_MOD_isHeld_38 (Or.inr ⟨rfl, (by rw [hx]; exact b2i_01 _)⟩) rfl (by rw [hx, show k = 48 by omega]; exact hQ)
  | succ n ih =>
    intro k x hk hx
    refine E_iload_n d_MOD_isHeld_5 rfl ?_
    refine E_bipush (v := 54) d_MOD_isHeld_6 (by decide) ?_
    refine E_icmp_ge (tgt := 37) d_MOD_isHeld_8 (by decide) (fun c => absurd c (nI_ge (a := 6 + k) (b := 54) (by omega) (by decide))) (fun _ => ?_)
    refine E_iload_n d_MOD_isHeld_11 rfl ?_
    refine E_if_ne (tgt := 25) d_MOD_isHeld_12 (by decide) (fun c12 => ?_) (fun c12 => ?_)
    · have c : (List.range k).any (fun j => M 11 (6 + j) == e) = true := by cases h : (List.range k).any (fun j => M 11 (6 + j) == e) with | true => rfl | false => exact absurd (by rw [hx, h]; rfl) c12
      have r : b2i ((List.range (k + 1)).any (fun j => M 11 (6 + j) == e)) = 1 := by rw [any_succ, c]; rfl
      refine E_iconst (v := 1) d_MOD_isHeld_25 (by decide) ?_
      refine E_goto (tgt := 30) d_MOD_isHeld_26 (by decide) ?_
      refine E_istore_n d_MOD_isHeld_30 (by decide) ?_
      refine E_iinc (v := nI (6 + k + 1)) d_MOD_isHeld_31 rfl (nI_1 _) (by decide) ?_
      refine E_goto (tgt := 5) d_MOD_isHeld_34 (by decide) ?_
      exact ih (k + 1) _ (by omega) r.symm
    · have c : (List.range k).any (fun j => M 11 (6 + j) == e) = false := by cases h : (List.range k).any (fun j => M 11 (6 + j) == e) with | false => rfl | true => rw [hx, h] at c12; exact absurd c12 (by decide)
      refine E_aload_n d_MOD_isHeld_15 rfl rfl ?_
      refine L_gr d_MOD_isHeld_16 f_MOD_40 rfl (by decide) rfl rfl ?_
      refine E_iload_n d_MOD_isHeld_19 rfl ?_
      refine L_ld (j := 6 + k) d_MOD_isHeld_20 rfl rfl (by omega) (by decide) (fr_M 11 _) ?_
      refine E_iload_n d_MOD_isHeld_21 rfl ?_
      refine E_icmp_ne (tgt := 29) d_MOD_isHeld_22 (by decide) (fun c22 => ?_) (fun c22 => ?_)
      · have r : b2i ((List.range (k + 1)).any (fun j => M 11 (6 + j) == e)) = 0 := by rw [any_succ, c]; simp [c22, b2i]
        refine E_iconst (v := 0) d_MOD_isHeld_29 (by decide) ?_
        refine E_istore_n d_MOD_isHeld_30 (by decide) ?_
        refine E_iinc (v := nI (6 + k + 1)) d_MOD_isHeld_31 rfl (nI_1 _) (by decide) ?_
        refine E_goto (tgt := 5) d_MOD_isHeld_34 (by decide) ?_
        exact ih (k + 1) _ (by omega) r.symm
      · have r : b2i ((List.range (k + 1)).any (fun j => M 11 (6 + j) == e)) = 1 := by rw [any_succ, c]; simp [c22, b2i]
        refine E_iconst (v := 1) d_MOD_isHeld_25 (by decide) ?_
        refine E_goto (tgt := 30) d_MOD_isHeld_26 (by decide) ?_
        refine E_istore_n d_MOD_isHeld_30 (by decide) ?_
        refine E_iinc (v := nI (6 + k + 1)) d_MOD_isHeld_31 rfl (nI_1 _) (by decide) ?_
        refine E_goto (tgt := 5) d_MOD_isHeld_34 (by decide) ?_
        exact ih (k + 1) _ (by omega) r.symm
theorem c_MOD_isHeld {G : iG} {F : Nat} {C M : Nat → Nat → Int32} {e : Int32} : MI G m_MOD_isHeld 0 [vR 50, vI e] (HW F C M) (fun x h' => x = b2i (hel M e) ∧ h' = HW F C M) := by
  refine Mt.of' (Ls := [some (vR 50), some (vI e), none, none]) (by decide) (by simp [ct]) (Nat.le_of_ble_eq_true rfl) rfl ?_
  refine E_iconst (v := 0) d_MOD_isHeld_0 (by decide) ?_
  refine E_istore_n d_MOD_isHeld_1 (by decide) ?_
  refine E_bipush (v := 6) d_MOD_isHeld_2 (by decide) ?_
  refine E_istore_n d_MOD_isHeld_4 (by decide) ?_
  exact lp_MOD_isHeld ⟨_, rfl, rfl, rfl⟩ 48 0 0 rfl rfl
theorem lp_MOD_freeFrames {G : iG} {F : Nat} {C M : Nat → Nat → Int32} {Q : Option iV → iH → Prop} {fr : Nat} (hfr : M 0 0 = nI fr) (h40 : fr ≤ 40) (hQ : Q (some (vI (nI (nfr M fr)))) (HW F C M)) : ∀ (n k : Nat), k + n = fr → Ev G m_MOD_freeFrames 0 0 0 4 [some (vR 50), some (vI (nI (nfr M k))), some (vI (nI k))] [] (HW F C M) Q := by
  intro n
  induction n with
  | zero =>
    intro k hk
    refine E_iload_n d_MOD_freeFrames_4 rfl ?_
    refine E_aload_n d_MOD_freeFrames_5 rfl rfl ?_
    refine L_gi d_MOD_freeFrames_6 f_MOD_55 rfl (by decide) rfl (fr_M 0 0) ?_
    refine E_tp (y := nI (fr)) hfr ?_
    refine E_icmp_ge (tgt := 35) d_MOD_freeFrames_9 (by decide) (fun _ => ?_) (fun c => absurd (nI_le (by omega) (by omega)) c)
    refine E_iload_n d_MOD_freeFrames_35 rfl ?_
    exact E_ireturn d_MOD_freeFrames_36 (Or.inl rfl) rfl (by rw [show k = fr by omega]; exact hQ)
  | succ n ih =>
    intro k hk
    have hn := nfr_le M k
    refine E_iload_n d_MOD_freeFrames_4 rfl ?_
    refine E_aload_n d_MOD_freeFrames_5 rfl rfl ?_
    refine L_gi d_MOD_freeFrames_6 f_MOD_55 rfl (by decide) rfl (fr_M 0 0) ?_
    refine E_tp (y := nI (fr)) hfr ?_
    refine E_icmp_ge (tgt := 35) d_MOD_freeFrames_9 (by decide) (fun c => absurd c (nI_ge (by omega) (by omega))) (fun _ => ?_)
    refine E_aload_n d_MOD_freeFrames_12 rfl rfl ?_
    refine L_gr d_MOD_freeFrames_13 f_MOD_13 rfl (by decide) rfl rfl ?_
    refine E_iload_n d_MOD_freeFrames_16 rfl ?_
    refine L_ld (j := k) d_MOD_freeFrames_17 rfl rfl (by omega) (by decide) (fr_M 2 _) ?_
    refine E_if_ne (tgt := 27) d_MOD_freeFrames_18 (by decide) (fun c18 => ?_) (fun c18 => ?_)
    · refine E_iload_n d_MOD_freeFrames_27 rfl ?_
      try rw [show nI (nfr M k) = nI (nfr M (k + 1)) by rw [nfr, if_neg c18]; rfl]
      try rw [show nI (nfr M k + 1) = nI (nfr M (k + 1)) by rw [nfr, if_pos c18]]
      refine E_istore_n d_MOD_freeFrames_28 (by decide) ?_
      refine E_iinc (v := nI (k + 1)) d_MOD_freeFrames_29 rfl (nI_1 _) (by decide) ?_
      refine E_goto (tgt := 4) d_MOD_freeFrames_32 (by decide) ?_
      exact ih (k + 1) (by omega)
    · refine E_iload_n d_MOD_freeFrames_21 rfl ?_
      refine E_iconst (v := 1) d_MOD_freeFrames_22 (by decide) ?_
      refine E_iadd d_MOD_freeFrames_23 ?_
      refine E_tp (y := nI (nfr M k + 1)) (nI_add (nfr M k) 1) ?_
      refine E_goto (tgt := 28) d_MOD_freeFrames_24 (by decide) ?_
      try rw [show nI (nfr M k) = nI (nfr M (k + 1)) by rw [nfr, if_neg c18]; rfl]
      try rw [show nI (nfr M k + 1) = nI (nfr M (k + 1)) by rw [nfr, if_pos c18]]
      refine E_istore_n d_MOD_freeFrames_28 (by decide) ?_
      refine E_iinc (v := nI (k + 1)) d_MOD_freeFrames_29 rfl (nI_1 _) (by decide) ?_
      refine E_goto (tgt := 4) d_MOD_freeFrames_32 (by decide) ?_
      exact ih (k + 1) (by omega)
theorem c_MOD_freeFrames {G : iG} {F : Nat} {C M : Nat → Nat → Int32} {fr : Nat} (hfr : M 0 0 = nI fr) (h40 : fr ≤ 40) : MI G m_MOD_freeFrames 0 [vR 50] (HW F C M) (fun x h' => x = nI (nfr M fr) ∧ h' = HW F C M) := by
  refine Mt.of' (Ls := [some (vR 50), none, none]) (by decide) (by simp [ct]) (Nat.le_of_ble_eq_true rfl) rfl ?_
  refine E_iconst (v := 0) d_MOD_freeFrames_0 (by decide) ?_
  refine E_istore_n d_MOD_freeFrames_1 (by decide) ?_
  refine E_iconst (v := 0) d_MOD_freeFrames_2 (by decide) ?_
  refine E_istore_n d_MOD_freeFrames_3 (by decide) ?_
  exact lp_MOD_freeFrames hfr h40 ⟨_, rfl, rfl, rfl⟩ fr 0 (by omega)
theorem c_MOD_wake {G : iG} {F : Nat} {C M : Nat → Nat → Int32} {p m : Nat} (hp : p ≤ 8) (hm : M 0 15 = nI m) (hm9 : m < 9) : MV G m_MOD_wake 0 [vR 50, vI (nI p)] (HW F C M) (fun h' => h' = HW F C (wakM M p m)) := by
  refine Mt.of' (Ls := [some (vR 50), some (vI (nI p))]) (by decide) (by simp [ct]) (Nat.le_of_ble_eq_true rfl) rfl ?_
  refine E_aload_n d_MOD_wake_0 rfl rfl ?_
  refine L_gr d_MOD_wake_1 f_MOD_19 rfl (by decide) rfl rfl ?_
  refine E_iload_n d_MOD_wake_4 rfl ?_
  refine E_iconst (v := 1) d_MOD_wake_5 (by decide) ?_
  refine L_st (j := p) d_MOD_wake_6 rfl rfl (by omega) (by decide) (fu_M 4 _ _) ?_
  refine E_aload_n d_MOD_wake_7 rfl rfl ?_
  refine L_gr d_MOD_wake_8 f_MOD_43 rfl (by decide) rfl rfl ?_
  refine E_aload_n d_MOD_wake_11 rfl rfl ?_
  refine L_gi d_MOD_wake_12 f_MOD_77 rfl (by decide) rfl (fr_M 0 15) ?_
  refine E_tp (y := nI (m)) (by simp [up2, hm]) ?_
  refine E_iload_n d_MOD_wake_15 rfl ?_
  refine L_st (j := m) d_MOD_wake_16 rfl rfl (by omega) (by decide) (fu_M 12 _ _) ?_
  refine E_aload_n d_MOD_wake_17 rfl rfl ?_
  refine E_dup d_MOD_wake_18 rfl ?_
  refine L_gi d_MOD_wake_19 f_MOD_77 rfl (by decide) rfl (fr_M 0 15) ?_
  refine E_tp (y := nI (m)) (by simp [up2, hm]) ?_
  refine E_iconst (v := 1) d_MOD_wake_22 (by decide) ?_
  refine E_iadd d_MOD_wake_23 ?_
  refine E_tp (y := nI (m + 1)) (nI_add m 1) ?_
  refine L_pi d_MOD_wake_24 f_MOD_77 rfl (by decide) (Or.inl rfl) rfl (fu_M 0 15 _) ?_
  exact E_return d_MOD_wake_27 rfl rfl ⟨rfl, rfl⟩
end
section
theorem u64_nat (x : Int32) : (x.toInt64 &&& 4294967295).toBitVec.toNat = x.toBitVec.toNat := by
  have e : (x.toInt64 &&& 4294967295).toBitVec = x.toBitVec.signExtend 64 &&& 4294967295#64 := rfl
  have h := x.toBitVec.isLt
  rw [e, BitVec.toNat_and, show (4294967295#64).toNat = 2 ^ 32 - 1 from rfl, Nat.and_two_pow_sub_one_eq_mod, BitVec.toNat_signExtend]
  simp only [BitVec.toNat_setWidth]
  split <;> omega
theorem u64_int (x : Int32) : (x.toInt64 &&& 4294967295).toInt = (x.toBitVec.toNat : Int) := by
  have h := x.toBitVec.isLt
  have e := u64_nat x
  show (x.toInt64 &&& 4294967295).toBitVec.toInt = _
  rw [BitVec.toInt_eq_toNat_of_lt (by omega), e]
theorem u64_le (x y : Int32) : (x.toInt64 &&& 4294967295) ≤ (y.toInt64 &&& 4294967295) ↔ x.toBitVec.toNat ≤ y.toBitVec.toNat := by
  rw [Int64.le_iff_toInt_le, u64_int, u64_int]
  omega
/-- a < b, with sign or without -/
def lss (a b : Int32) (sg : Bool) : Bool := if sg = true then decide (a < b) else decide (a.toBitVec.toNat < b.toBitVec.toNat)
def isb (M : Nat → Nat → Int32) (x : Int32) : Bool := decide (1 ≤ x) && decide (x ≤ 8) && decide (0 < M 4 x.toNatClampNeg)
theorem in18 {x : Int32} (h1 : 1 ≤ x) (h8 : x ≤ 8) : ∃ p : Nat, 1 ≤ p ∧ p ≤ 8 ∧ x = nI p := by
  have h0 : ¬ x < 0 := fun q => by
    have a := Int32.le_iff_toInt_le.mp h1
    have b := Int32.lt_iff_toInt_lt.mp q
    simp at a b
    omega
  obtain ⟨j, hj, rfl⟩ := nI_of2 (x := x) (M := 8) (n := 8) rfl h0 h8
  refine ⟨j, ?_, hj, rfl⟩
  have := (nI_leI (a := 1) (b := j) (by decide) (by omega)).mp h1
  exact this
theorem isb_of {M : Nat → Nat → Int32} {x : Int32} (h : isb M x = true) : ∃ p : Nat, 1 ≤ p ∧ p ≤ 8 ∧ x = nI p ∧ 0 < M 4 p := by
  simp only [isb, Bool.and_eq_true, decide_eq_true_eq] at h
  obtain ⟨⟨h1, h8⟩, h4⟩ := h
  obtain ⟨p, a, b, rfl⟩ := in18 h1 h8
  rw [nI_clamp (by omega)] at h4
  exact ⟨p, a, b, rfl, h4⟩
theorem isb_nI {M : Nat → Nat → Int32} {p : Nat} (h1 : 1 ≤ p) (h8 : p ≤ 8) : isb M (nI p) = decide (0 < M 4 p) := by
  have a : (1 : Int32) ≤ nI p := nI_le (a := 1) h1 (by omega)
  have b : nI p ≤ (8 : Int32) := nI_le (b := 8) h8 (by decide)
  simp [isb, a, b, nI_clamp (show p < 2 ^ 31 by omega)]
def growM (M : Nat → Nat → Int32) (p f s : Nat) : Nat → Nat → Int32 := up2 (up2 (upr (up2 M 2 f (nI p)) 1 (16 * f) 16 (fun _ => 0)) 10 (8 * p + s) (nI f)) 8 p (nI (s + 1))
def blkM (M : Nat → Nat → Int32) (p : Nat) (how : Int32) : Nat → Nat → Int32 := up2 (up2 M 4 p how) 0 27 0
end
section
/-! ===== the reference's methods, third row ===== -/
theorem c_MOD_less {G : iG} {h : iH} {a b : Int32} {sg : Bool} : MI G m_MOD_less 0 [vI a, vI b, vI (b2i sg)] (h) (fun x h' => x = b2i (lss a b sg) ∧ h' = h) := by
  refine Mt.of' (Ls := [some (vI a), some (vI b), some (vI (b2i sg))]) (by decide) (by simp [ct]) (Nat.le_of_ble_eq_true rfl) rfl ?_
  refine E_iload_n d_MOD_less_0 rfl ?_
  refine E_if_eq (tgt := 17) d_MOD_less_1 (by decide) (fun c1 => ?_) (fun c1 => ?_)
  · have cs : sg = false := by cases sg with | false => rfl | true => exact absurd c1 (by decide)
    refine E_iload_n d_MOD_less_17 rfl ?_
    refine E_i2l d_MOD_less_18 ?_
    refine E_ldc2 (v := 4294967295) d_MOD_less_19 (by decide +kernel) ?_
    refine E_land d_MOD_less_22 ?_
    refine E_iload_n d_MOD_less_23 rfl ?_
    refine E_i2l d_MOD_less_24 ?_
    refine E_ldc2 (v := 4294967295) d_MOD_less_25 (by decide +kernel) ?_
    refine E_land d_MOD_less_28 ?_
    refine E_lcmp d_MOD_less_29 ?_
    refine E_if_ge (tgt := 37) d_MOD_less_30 (by decide) (fun c30 => ?_) (fun c30 => ?_)
    · have cr : lss a b sg = false := by rw [lg_cmp_ge, u64_le] at c30; simp only [lss, cs]; simp; exact c30
      refine E_iconst (v := 0) d_MOD_less_37 (by decide) ?_
      exact E_ireturn d_MOD_less_38 (Or.inr ⟨rfl, (by decide)⟩) rfl ⟨_, rfl, by rw [cr]; rfl, rfl⟩
    · have cr : lss a b sg = true := by rw [lg_cmp_ge, u64_le] at c30; simp only [lss, cs]; simp; omega
      refine E_iconst (v := 1) d_MOD_less_33 (by decide) ?_
      refine E_goto (tgt := 38) d_MOD_less_34 (by decide) ?_
      exact E_ireturn d_MOD_less_38 (Or.inr ⟨rfl, (by decide)⟩) rfl ⟨_, rfl, by rw [cr]; rfl, rfl⟩
  · have cs : sg = true := by cases sg with | true => rfl | false => exact absurd rfl c1
    refine E_iload_n d_MOD_less_4 rfl ?_
    refine E_iload_n d_MOD_less_5 rfl ?_
    refine E_icmp_ge (tgt := 13) d_MOD_less_6 (by decide) (fun c6 => ?_) (fun c6 => ?_)
    · have cr : lss a b sg = false := by simp only [lss, cs, if_true]; exact decide_eq_false (Int32.not_lt.mpr c6)
      refine E_iconst (v := 0) d_MOD_less_13 (by decide) ?_
      refine E_goto (tgt := 38) d_MOD_less_14 (by decide) ?_
      exact E_ireturn d_MOD_less_38 (Or.inr ⟨rfl, (by decide)⟩) rfl ⟨_, rfl, by rw [cr]; rfl, rfl⟩
    · have cr : lss a b sg = true := by simp only [lss, cs, if_true]; exact decide_eq_true (Int32.not_le.mp c6)
      refine E_iconst (v := 1) d_MOD_less_9 (by decide) ?_
      refine E_goto (tgt := 38) d_MOD_less_10 (by decide) ?_
      exact E_ireturn d_MOD_less_38 (Or.inr ⟨rfl, (by decide)⟩) rfl ⟨_, rfl, by rw [cr]; rfl, rfl⟩
theorem lp_MOD_freeDescriptor {G : iG} {F : Nat} {C M : Nat → Nat → Int32} {Q : Option iV → iH → Prop} {p : Nat} (hp : p ≤ 8) (hQ : Q (some (vI (fdr M p))) (HW F C M)) : ∀ (n k : Nat), k + n = 6 → fds M p n k = fds M p 6 0 → Ev G m_MOD_freeDescriptor 0 0 0 2 [some (vR 50), some (vI (nI p)), some (vI (nI k))] [] (HW F C M) Q := by
  intro n
  induction n with
  | zero =>
    intro k hk hf
    have hk6 : k = 6 := by omega
    subst hk6
    have e6 : fds M p 6 0 = 6 := hf.symm
    refine E_iload_n d_MOD_freeDescriptor_2 rfl ?_
    refine E_bipush (v := 6) d_MOD_freeDescriptor_3 (by decide) ?_
    refine E_icmp_ge (tgt := 28) d_MOD_freeDescriptor_5 (by decide) (fun _ => ?_) (fun c => absurd (nI_le (a := 6) (by omega) (by omega)) c)
    refine E_iload_n d_MOD_freeDescriptor_28 rfl ?_
    refine E_bipush (v := 6) d_MOD_freeDescriptor_29 (by decide) ?_
    refine E_icmp_ge (tgt := 38) d_MOD_freeDescriptor_31 (by decide) (fun _ => ?_) (fun c => absurd (nI_le (a := 6) (by omega) (by omega)) c)
    refine E_iconst (v := -1) d_MOD_freeDescriptor_38 (by decide) ?_
    exact E_ireturn d_MOD_freeDescriptor_39 (Or.inl rfl) rfl (by have := hQ; rw [fdr, e6] at this; exact this)
  | succ n ih =>
    intro k hk hf
    refine E_iload_n d_MOD_freeDescriptor_2 rfl ?_
    refine E_bipush (v := 6) d_MOD_freeDescriptor_3 (by decide) ?_
    refine E_icmp_ge (tgt := 28) d_MOD_freeDescriptor_5 (by decide) (fun c => absurd c (nI_ge (b := 6) (by omega) (by decide))) (fun _ => ?_)
    refine E_aload_n d_MOD_freeDescriptor_8 rfl rfl ?_
    refine L_gr d_MOD_freeDescriptor_9 f_MOD_40 rfl (by decide) rfl rfl ?_
    refine E_bipush (v := 6) d_MOD_freeDescriptor_12 (by decide) ?_
    refine E_iload_n d_MOD_freeDescriptor_14 rfl ?_
    refine E_imul d_MOD_freeDescriptor_15 ?_
    refine E_tp (y := nI (6 * p)) (pk_mul 6 p) ?_
    refine E_iload_n d_MOD_freeDescriptor_16 rfl ?_
    refine E_iadd d_MOD_freeDescriptor_17 ?_
    refine E_tp (y := nI (6 * p + k)) (nI_add (6 * p) k) ?_
    refine L_ld (j := 6 * p + k) d_MOD_freeDescriptor_18 rfl rfl (by omega) (by decide) (fr_M 11 _) ?_
    refine E_if_lt (tgt := 28) d_MOD_freeDescriptor_19 (by decide) (fun c19 => ?_) (fun c19 => ?_)
    · refine E_iload_n d_MOD_freeDescriptor_28 rfl ?_
      refine E_bipush (v := 6) d_MOD_freeDescriptor_29 (by decide) ?_
      refine E_icmp_ge (tgt := 38) d_MOD_freeDescriptor_31 (by decide) (fun c => absurd c (nI_ge (b := 6) (by omega) (by decide))) (fun _ => ?_)
      refine E_iload_n d_MOD_freeDescriptor_34 rfl ?_
      refine E_goto (tgt := 39) d_MOD_freeDescriptor_35 (by decide) ?_
      exact E_ireturn d_MOD_freeDescriptor_39 (Or.inl rfl) rfl (by rw [fds, if_pos c19] at hf; have := hQ; rw [fdr, ← hf, if_pos (by omega)] at this; exact this)
    · refine E_iinc (v := nI (k + 1)) d_MOD_freeDescriptor_22 rfl (nI_1 _) (by decide) ?_
      refine E_goto (tgt := 2) d_MOD_freeDescriptor_25 (by decide) ?_
      exact ih (k + 1) (by omega) (by rw [← hf, fds, if_neg c19])
theorem c_MOD_freeDescriptor {G : iG} {F : Nat} {C M : Nat → Nat → Int32} {p : Nat} (hp : p ≤ 8) : MI G m_MOD_freeDescriptor 0 [vR 50, vI (nI p)] (HW F C M) (fun x h' => x = fdr M p ∧ h' = HW F C M) := by
  refine Mt.of' (Ls := [some (vR 50), some (vI (nI p)), none]) (by decide) (by simp [ct]) (Nat.le_of_ble_eq_true rfl) rfl ?_
  refine E_iconst (v := 0) d_MOD_freeDescriptor_0 (by decide) ?_
  refine E_istore_n d_MOD_freeDescriptor_1 (by decide) ?_
  exact lp_MOD_freeDescriptor hp ⟨_, rfl, rfl, rfl⟩ 6 0 rfl rfl
theorem lp_MOD_tidyPipes {G : iG} {F : Nat} {C M : Nat → Nat → Int32} {Q : Option iV → iH → Prop} (hQ : Q none (HW F C (tidy M))) : ∀ (n k : Nat), k + n = 4 → Ev G m_MOD_tidyPipes 1 0 0 2 [some (vR 50), some (vI (nI k))] [] (HW F C (tidk M k)) Q := by
  intro n
  induction n with
  | zero =>
    intro k hk
    refine E_iload_n d_MOD_tidyPipes_2 rfl ?_
    refine E_iconst (v := 4) d_MOD_tidyPipes_3 (by decide) ?_
    refine E_icmp_ge (tgt := 44) d_MOD_tidyPipes_4 (by decide) (fun _ => ?_) (fun c => absurd (nI_le (a := 4) (by omega) (by omega)) c)
    exact E_return d_MOD_tidyPipes_44 rfl rfl (by rw [show k = 4 by omega]; exact hQ)
  | succ n ih =>
    intro k hk
    refine E_iload_n d_MOD_tidyPipes_2 rfl ?_
    refine E_iconst (v := 4) d_MOD_tidyPipes_3 (by decide) ?_
    refine E_icmp_ge (tgt := 44) d_MOD_tidyPipes_4 (by decide) (fun c => absurd c (nI_ge (b := 4) (by omega) (by decide))) (fun _ => ?_)
    refine E_aload_n d_MOD_tidyPipes_7 rfl rfl ?_
    refine E_iconst (v := 1) d_MOD_tidyPipes_8 (by decide) ?_
    refine E_iconst (v := 2) d_MOD_tidyPipes_9 (by decide) ?_
    refine E_iload_n d_MOD_tidyPipes_10 rfl ?_
    refine E_imul d_MOD_tidyPipes_11 ?_
    refine E_tp (y := nI (2 * k)) (pk_mul 2 k) ?_
    refine E_iadd d_MOD_tidyPipes_12 ?_
    refine E_tp (y := nI (1 + (2 * k))) (nI_add 1 (2 * k)) ?_
    refine E_V1i d_MOD_tidyPipes_13 w_MOD_84 rfl (by decide) (Nat.le_of_ble_eq_true rfl) (c_MOD_isHeld) ?_
    rintro _ _ ⟨rfl, rfl⟩
    refine E_if_ne (tgt := 38) d_MOD_tidyPipes_16 (by decide) (fun c16 => ?_) (fun c16 => ?_)
    · rw [tidk_succ_t M k (fun q => c16 (by rw [hel_tidk, q.1]; rfl))]
      try rw [tidk_succ_f M k h1 h2]
      refine E_iinc (v := nI (k + 1)) d_MOD_tidyPipes_38 rfl (nI_1 _) (by decide) ?_
      refine E_goto (tgt := 2) d_MOD_tidyPipes_41 (by decide) ?_
      exact ih (k + 1) (by omega)
    · have h1 : hel M (nI (1 + 2 * k)) = false := by rw [hel_tidk] at c16; cases h : hel M (nI (1 + 2 * k)) with | false => rfl | true => rw [h] at c16; exact absurd c16 (by decide)
      refine E_aload_n d_MOD_tidyPipes_19 rfl rfl ?_
      refine E_iconst (v := 2) d_MOD_tidyPipes_20 (by decide) ?_
      refine E_iconst (v := 2) d_MOD_tidyPipes_21 (by decide) ?_
      refine E_iload_n d_MOD_tidyPipes_22 rfl ?_
      refine E_imul d_MOD_tidyPipes_23 ?_
      refine E_tp (y := nI (2 * k)) (pk_mul 2 k) ?_
      refine E_iadd d_MOD_tidyPipes_24 ?_
      refine E_tp (y := nI (2 + (2 * k))) (nI_add 2 (2 * k)) ?_
      refine E_V1i d_MOD_tidyPipes_25 w_MOD_84 rfl (by decide) (Nat.le_of_ble_eq_true rfl) (c_MOD_isHeld) ?_
      rintro _ _ ⟨rfl, rfl⟩
      refine E_if_ne (tgt := 38) d_MOD_tidyPipes_28 (by decide) (fun c28 => ?_) (fun c28 => ?_)
      · rw [tidk_succ_t M k (fun q => c28 (by rw [hel_tidk, q.2]; rfl))]
        try rw [tidk_succ_f M k h1 h2]
        refine E_iinc (v := nI (k + 1)) d_MOD_tidyPipes_38 rfl (nI_1 _) (by decide) ?_
        refine E_goto (tgt := 2) d_MOD_tidyPipes_41 (by decide) ?_
        exact ih (k + 1) (by omega)
      · have h2 : hel M (nI (2 + 2 * k)) = false := by rw [hel_tidk] at c28; cases h : hel M (nI (2 + 2 * k)) with | false => rfl | true => rw [h] at c28; exact absurd c28 (by decide)
        refine E_aload_n d_MOD_tidyPipes_31 rfl rfl ?_
        refine L_gr d_MOD_tidyPipes_32 f_MOD_49 rfl (by decide) rfl rfl ?_
        refine E_iload_n d_MOD_tidyPipes_35 rfl ?_
        refine E_iconst (v := 0) d_MOD_tidyPipes_36 (by decide) ?_
        refine L_st (j := k) d_MOD_tidyPipes_37 rfl rfl (by omega) (by decide) (fu_M 14 _ _) ?_
        try rw [tidk_succ_f M k h1 h2]
        refine E_iinc (v := nI (k + 1)) d_MOD_tidyPipes_38 rfl (nI_1 _) (by decide) ?_
        refine E_goto (tgt := 2) d_MOD_tidyPipes_41 (by decide) ?_
        exact ih (k + 1) (by omega)
theorem c_MOD_tidyPipes {G : iG} {F : Nat} {C M : Nat → Nat → Int32}  : MV G m_MOD_tidyPipes 1 [vR 50] (HW F C M) (fun h' => h' = HW F C (tidy M)) := by
  refine Mt.of' (Ls := [some (vR 50), none]) (by decide) (by simp [ct]) (Nat.le_of_ble_eq_true rfl) rfl ?_
  rw [← tidk_zero M]
  refine E_iconst (v := 0) d_MOD_tidyPipes_0 (by decide) ?_
  refine E_istore_n d_MOD_tidyPipes_1 (by decide) ?_
  exact lp_MOD_tidyPipes ⟨rfl, by rw [tidk_zero]⟩ 4 0 rfl
theorem lp_MOD_remove {G : iG} {F : Nat} {C M : Nat → Nat → Int32} {Q : Option iV → iH → Prop} {p : Nat} (hp : p ≤ 8) (hQ : Q none (HW F C (upr M 9 (32 * p) 32 (fun _ => 0)))) : ∀ (n k : Nat), k + n = 32 → Ev G m_MOD_remove 0 0 0 30 [some (vR 50), some (vI (nI p)), some (vI (nI k))] [] (HW F C (upr M 9 (32 * p) k (fun _ => 0))) Q := by
  intro n
  induction n with
  | zero =>
    intro k hk
    refine E_iload_n d_MOD_remove_30 rfl ?_
    refine E_bipush (v := 32) d_MOD_remove_31 (by decide) ?_
    refine E_icmp_ge (tgt := 54) d_MOD_remove_33 (by decide) (fun _ => ?_) (fun c => absurd (nI_le (a := 32) (by omega) (by omega)) c)
    exact E_return d_MOD_remove_54 rfl rfl (by rw [show k = 32 by omega]; exact hQ)
  | succ n ih =>
    intro k hk
    refine E_iload_n d_MOD_remove_30 rfl ?_
    refine E_bipush (v := 32) d_MOD_remove_31 (by decide) ?_
    refine E_icmp_ge (tgt := 54) d_MOD_remove_33 (by decide) (fun c => absurd c (nI_ge (b := 32) (by omega) (by decide))) (fun _ => ?_)
    refine E_aload_n d_MOD_remove_36 rfl rfl ?_
    refine L_gr d_MOD_remove_37 f_MOD_34 rfl (by decide) rfl rfl ?_
    refine E_bipush (v := 32) d_MOD_remove_40 (by decide) ?_
    refine E_iload_n d_MOD_remove_42 rfl ?_
    refine E_imul d_MOD_remove_43 ?_
    refine E_tp (y := nI (32 * p)) (pk_mul 32 p) ?_
    refine E_iload_n d_MOD_remove_44 rfl ?_
    refine E_iadd d_MOD_remove_45 ?_
    refine E_tp (y := nI (32 * p + k)) (nI_add (32 * p) k) ?_
    refine E_iconst (v := 0) d_MOD_remove_46 (by decide) ?_
    refine L_st (j := 32 * p + k) d_MOD_remove_47 rfl rfl (by omega) (by decide) (fu_M 9 _ _) ?_
    refine E_iinc (v := nI (k + 1)) d_MOD_remove_48 rfl (nI_1 _) (by decide) ?_
    refine E_goto (tgt := 30) d_MOD_remove_51 (by decide) ?_
    rw [upr_succ _ 9 (32 * p) k (fun _ => 0)]; exact ih (k + 1) (by omega)
theorem c_MOD_remove {G : iG} {F : Nat} {C M : Nat → Nat → Int32} {p : Nat} (hp : p ≤ 8) : MV G m_MOD_remove 0 [vR 50, vI (nI p)] (HW F C M) (fun h' => h' = HW F C (remv M p)) := by
  refine Mt.of' (Ls := [some (vR 50), some (vI (nI p)), none]) (by decide) (by simp [ct]) (Nat.le_of_ble_eq_true rfl) rfl ?_
  refine E_aload_n d_MOD_remove_0 rfl rfl ?_
  refine L_gr d_MOD_remove_1 f_MOD_19 rfl (by decide) rfl rfl ?_
  refine E_iload_n d_MOD_remove_4 rfl ?_
  refine E_iconst (v := 0) d_MOD_remove_5 (by decide) ?_
  refine L_st (j := p) d_MOD_remove_6 rfl rfl (by omega) (by decide) (fu_M 4 _ _) ?_
  refine E_aload_n d_MOD_remove_7 rfl rfl ?_
  refine L_gr d_MOD_remove_8 f_MOD_22 rfl (by decide) rfl rfl ?_
  refine E_iload_n d_MOD_remove_11 rfl ?_
  refine E_iconst (v := 0) d_MOD_remove_12 (by decide) ?_
  refine L_st (j := p) d_MOD_remove_13 rfl rfl (by omega) (by decide) (fu_M 5 _ _) ?_
  refine E_aload_n d_MOD_remove_14 rfl rfl ?_
  refine L_gr d_MOD_remove_15 f_MOD_25 rfl (by decide) rfl rfl ?_
  refine E_iload_n d_MOD_remove_18 rfl ?_
  refine E_iconst (v := 0) d_MOD_remove_19 (by decide) ?_
  refine L_st (j := p) d_MOD_remove_20 rfl rfl (by omega) (by decide) (fu_M 6 _ _) ?_
  refine E_aload_n d_MOD_remove_21 rfl rfl ?_
  refine L_gr d_MOD_remove_22 f_MOD_28 rfl (by decide) rfl rfl ?_
  refine E_iload_n d_MOD_remove_25 rfl ?_
  refine E_iconst (v := 0) d_MOD_remove_26 (by decide) ?_
  refine L_st (j := p) d_MOD_remove_27 rfl rfl (by omega) (by decide) (fu_M 7 _ _) ?_
  refine E_iconst (v := 0) d_MOD_remove_28 (by decide) ?_
  refine E_istore_n d_MOD_remove_29 (by decide) ?_
  rw [← upr_zero (up2 (up2 (up2 (up2 M 4 p 0) 5 p 0) 6 p 0) 7 p 0) 9 (32 * p) (fun _ => 0)]; exact lp_MOD_remove hp ⟨rfl, rfl⟩ 32 0 rfl
theorem lp_MOD_unrow {G : iG} {F : Nat} {C M : Nat → Nat → Int32} {Q : Option iV → iH → Prop} {q : Int32} {m : Nat} (hm : M 0 15 = nI m) (hm9 : m ≤ 9) (hQ : Q none (HW F C (unrw M q m))) : ∀ (n k : Nat) (l : List Int32), k + n = m → l = flt M 12 q k → Ev G m_MOD_unrow 0 0 0 4 [some (vR 50), some (vI q), some (vI (nI l.length)), some (vI (nI k))] [] (HW F C (upl M 12 l)) Q := by
  intro n
  induction n with
  | zero =>
    intro k l hk hl
    have hlen := flt_len M 12 q k
    rw [← hl] at hlen
    refine E_iload_n d_MOD_unrow_4 rfl ?_
    refine E_aload_n d_MOD_unrow_5 rfl rfl ?_
    refine L_gi d_MOD_unrow_6 f_MOD_77 rfl (by decide) rfl (fr_M 0 15) ?_
    refine E_tp (y := nI (m)) ((upl_ne M l 15 (by decide)).trans hm) ?_
    refine E_icmp_ge (tgt := 43) d_MOD_unrow_9 (by decide) (fun _ => ?_) (fun c => absurd (nI_le (by omega) (by omega)) c)
    refine E_aload_n d_MOD_unrow_43 rfl rfl ?_
    refine E_iload_n d_MOD_unrow_44 rfl ?_
    refine L_pi d_MOD_unrow_45 f_MOD_77 rfl (by decide) (Or.inl rfl) rfl (fu_M 0 15 _) ?_
    exact E_return d_MOD_unrow_48 rfl rfl (by rw [hl, show k = m by omega]; exact hQ)
  | succ n ih =>
    intro k l hk hl
    have hlen := flt_len M 12 q k
    rw [← hl] at hlen
    have e : (l ++ [M 12 k]).length = l.length + 1 := by simp
    refine E_iload_n d_MOD_unrow_4 rfl ?_
    refine E_aload_n d_MOD_unrow_5 rfl rfl ?_
    refine L_gi d_MOD_unrow_6 f_MOD_77 rfl (by decide) rfl (fr_M 0 15) ?_
    refine E_tp (y := nI (m)) ((upl_ne M l 15 (by decide)).trans hm) ?_
    refine E_icmp_ge (tgt := 43) d_MOD_unrow_9 (by decide) (fun c => absurd c (nI_ge (by omega) (by omega))) (fun _ => ?_)
    refine E_aload_n d_MOD_unrow_12 rfl rfl ?_
    refine L_gr d_MOD_unrow_13 f_MOD_43 rfl (by decide) rfl rfl ?_
    refine E_iload_n d_MOD_unrow_16 rfl ?_
    refine L_ld (j := k) d_MOD_unrow_17 rfl rfl (by omega) (by decide) (fr_M 12 _) ?_
    refine E_tp (y := M 12 k) (upl_out M 12 l hlen) ?_
    refine E_iload_n d_MOD_unrow_18 rfl ?_
    refine E_icmp_eq (tgt := 37) d_MOD_unrow_19 (by decide) (fun c19 => ?_) (fun c19 => ?_)
    · refine E_iinc (v := nI (k + 1)) d_MOD_unrow_37 rfl (nI_1 _) (by decide) ?_
      refine E_goto (tgt := 4) d_MOD_unrow_40 (by decide) ?_
      exact ih (k + 1) l (by omega) (by rw [flt_succ, if_pos c19, List.append_nil]; exact hl)
    · refine E_aload_n d_MOD_unrow_22 rfl rfl ?_
      refine L_gr d_MOD_unrow_23 f_MOD_43 rfl (by decide) rfl rfl ?_
      refine E_iload_n d_MOD_unrow_26 rfl ?_
      refine E_aload_n d_MOD_unrow_27 rfl rfl ?_
      refine L_gr d_MOD_unrow_28 f_MOD_43 rfl (by decide) rfl rfl ?_
      refine E_iload_n d_MOD_unrow_31 rfl ?_
      refine L_ld (j := k) d_MOD_unrow_32 rfl rfl (by omega) (by decide) (fr_M 12 _) ?_
      refine E_tp (y := M 12 k) (upl_out M 12 l hlen) ?_
      refine L_st (j := l.length) d_MOD_unrow_33 rfl rfl (by omega) (by decide) (fu_M 12 _ _) ?_
      refine E_iinc (v := nI (l.length + 1)) d_MOD_unrow_34 rfl (nI_1 _) (by decide) ?_
      refine E_iinc (v := nI (k + 1)) d_MOD_unrow_37 rfl (nI_1 _) (by decide) ?_
      refine E_goto (tgt := 4) d_MOD_unrow_40 (by decide) ?_
      rw [upl_app, ← e]
      exact ih (k + 1) (l ++ [M 12 k]) (by omega) (by rw [flt_succ, if_neg c19, ← hl])
theorem c_MOD_unrow {G : iG} {F : Nat} {C M : Nat → Nat → Int32} {q : Int32} {m : Nat} (hm : M 0 15 = nI m) (hm9 : m ≤ 9) : MV G m_MOD_unrow 0 [vR 50, vI q] (HW F C M) (fun h' => h' = HW F C (unrw M q m)) := by
  refine Mt.of' (Ls := [some (vR 50), some (vI q), none, none]) (by decide) (by simp [ct]) (Nat.le_of_ble_eq_true rfl) rfl ?_
  refine E_iconst (v := 0) d_MOD_unrow_0 (by decide) ?_
  refine E_istore_n d_MOD_unrow_1 (by decide) ?_
  refine E_iconst (v := 0) d_MOD_unrow_2 (by decide) ?_
  refine E_istore_n d_MOD_unrow_3 (by decide) ?_
  rw [← upl_nil M 12]; exact lp_MOD_unrow hm hm9 ⟨rfl, by rw [upl_nil]⟩ m 0 [] (by omega) rfl
theorem lp_MOD_grow1 {G : iG} {F : Nat} {C M : Nat → Nat → Int32} {Q : Option iV → iH → Prop} {x1 : iV} {l3 : Option iV} {f : Nat} (hf : M 2 f = 0) (hlt : ∀ j, j < f → M 2 j ≠ 0) (hf40 : f < 40) (K : Ev G m_MOD_grow 0 0 0 17 [some (vR 50), some x1, some (vI (nI f)), l3] [] (HW F C M) Q) : ∀ (n k : Nat), k + n = f → Ev G m_MOD_grow 0 0 0 2 [some (vR 50), some x1, some (vI (nI k)), l3] [] (HW F C M) Q := by
  intro n
  induction n with
  | zero =>
    intro k hk
    have hkf : k = f := by omega
    subst hkf
    refine E_aload_n d_MOD_grow_2 rfl rfl ?_
    refine L_gr d_MOD_grow_3 f_MOD_13 rfl (by decide) rfl rfl ?_
    refine E_iload_n d_MOD_grow_6 rfl ?_
    refine L_ld (j := k) d_MOD_grow_7 rfl rfl (by omega) (by decide) (fr_M 2 _) ?_
    refine E_if_eq (tgt := 17) d_MOD_grow_8 (by decide) (fun _ => ?_) (fun c => absurd hf c)
    exact K
  | succ n ih =>
    intro k hk
    refine E_aload_n d_MOD_grow_2 rfl rfl ?_
    refine L_gr d_MOD_grow_3 f_MOD_13 rfl (by decide) rfl rfl ?_
    refine E_iload_n d_MOD_grow_6 rfl ?_
    refine L_ld (j := k) d_MOD_grow_7 rfl rfl (by omega) (by decide) (fr_M 2 _) ?_
    refine E_if_eq (tgt := 17) d_MOD_grow_8 (by decide) (fun c => absurd c (hlt k (by omega))) (fun _ => ?_)
    refine E_iinc (v := nI (k + 1)) d_MOD_grow_11 rfl (nI_1 _) (by decide) ?_
    refine E_goto (tgt := 2) d_MOD_grow_14 (by decide) ?_
    exact ih (k + 1) (by omega)
theorem lp_MOD_grow2 {G : iG} {F : Nat} {C M : Nat → Nat → Int32} {Q : Option iV → iH → Prop} {x1 : iV} {f : Nat} (hf40 : f < 40) (K : Ev G m_MOD_grow 0 0 0 50 [some (vR 50), some x1, some (vI (nI f)), some (vI (nI 16))] [] (HW F C (upr M 1 (16 * f) 16 (fun _ => 0))) Q) : ∀ (n k : Nat), k + n = 16 → Ev G m_MOD_grow 0 0 0 26 [some (vR 50), some x1, some (vI (nI f)), some (vI (nI k))] [] (HW F C (upr M 1 (16 * f) k (fun _ => 0))) Q := by
  intro n
  induction n with
  | zero =>
    intro k hk
    have hkf : k = 16 := by omega
    subst hkf
    refine E_iload_n d_MOD_grow_26 rfl ?_
    refine E_bipush (v := 16) d_MOD_grow_27 (by decide) ?_
    refine E_icmp_ge (tgt := 50) d_MOD_grow_29 (by decide) (fun _ => ?_) (fun c => absurd (nI_le (a := 16) (by omega) (by omega)) c)
    exact K
  | succ n ih =>
    intro k hk
    refine E_iload_n d_MOD_grow_26 rfl ?_
    refine E_bipush (v := 16) d_MOD_grow_27 (by decide) ?_
    refine E_icmp_ge (tgt := 50) d_MOD_grow_29 (by decide) (fun c => absurd c (nI_ge (b := 16) (by omega) (by decide))) (fun _ => ?_)
    refine E_aload_n d_MOD_grow_32 rfl rfl ?_
    refine L_gr d_MOD_grow_33 f_MOD_7 rfl (by decide) rfl rfl ?_
    refine E_bipush (v := 16) d_MOD_grow_36 (by decide) ?_
    refine E_iload_n d_MOD_grow_38 rfl ?_
    refine E_imul d_MOD_grow_39 ?_
    refine E_tp (y := nI (16 * f)) (pk_mul 16 f) ?_
    refine E_iload_n d_MOD_grow_40 rfl ?_
    refine E_iadd d_MOD_grow_41 ?_
    refine E_tp (y := nI (16 * f + k)) (nI_add (16 * f) k) ?_
    refine E_iconst (v := 0) d_MOD_grow_42 (by decide) ?_
    refine L_st (j := 16 * f + k) d_MOD_grow_43 rfl rfl (by omega) (by decide) (fu_M 1 _ _) ?_
    refine E_iinc (v := nI (k + 1)) d_MOD_grow_44 rfl (nI_1 _) (by decide) ?_
    refine E_goto (tgt := 26) d_MOD_grow_47 (by decide) ?_
    rw [upr_succ _ 1 (16 * f) k (fun _ => 0)]; exact ih (k + 1) (by omega)
theorem c_MOD_grow {G : iG} {F : Nat} {C M : Nat → Nat → Int32} {p f s : Nat} (hp : p ≤ 8) (hs : M 8 p = nI s) (hs8 : s < 8) (hf : M 2 f = 0) (hlt : ∀ j, j < f → M 2 j ≠ 0) (hf40 : f < 40) : MI G m_MOD_grow 0 [vR 50, vI (nI p)] (HW F C M) (fun x h' => x = nI f ∧ h' = HW F C (growM M p f s)) := by
  refine Mt.of' (Ls := [some (vR 50), some (vI (nI p)), none, none]) (by decide) (by simp [ct]) (Nat.le_of_ble_eq_true rfl) rfl ?_
  refine E_iconst (v := 0) d_MOD_grow_0 (by decide) ?_
  refine E_istore_n d_MOD_grow_1 (by decide) ?_
  refine lp_MOD_grow1 hf hlt hf40 ?_ f 0 (by omega)
  refine E_aload_n d_MOD_grow_17 rfl rfl ?_
  refine L_gr d_MOD_grow_18 f_MOD_13 rfl (by decide) rfl rfl ?_
  refine E_iload_n d_MOD_grow_21 rfl ?_
  refine E_iload_n d_MOD_grow_22 rfl ?_
  refine L_st (j := f) d_MOD_grow_23 rfl rfl (by omega) (by decide) (fu_M 2 _ _) ?_
  refine E_iconst (v := 0) d_MOD_grow_24 (by decide) ?_
  refine E_istore_n d_MOD_grow_25 (by decide) ?_
  rw [← upr_zero (up2 M 2 f (nI p)) 1 (16 * f) (fun _ => 0)]
  refine lp_MOD_grow2 (M := up2 M 2 f (nI p)) hf40 ?_ 16 0 rfl
  refine E_aload_n d_MOD_grow_50 rfl rfl ?_
  refine L_gr d_MOD_grow_51 f_MOD_37 rfl (by decide) rfl rfl ?_
  refine E_bipush (v := 8) d_MOD_grow_54 (by decide) ?_
  refine E_iload_n d_MOD_grow_56 rfl ?_
  refine E_imul d_MOD_grow_57 ?_
  refine E_tp (y := nI (8 * p)) (pk_mul 8 p) ?_
  refine E_aload_n d_MOD_grow_58 rfl rfl ?_
  refine L_gr d_MOD_grow_59 f_MOD_31 rfl (by decide) rfl rfl ?_
  refine E_iload_n d_MOD_grow_62 rfl ?_
  refine L_ld (j := p) d_MOD_grow_63 rfl rfl (by omega) (by decide) (fr_M 8 _) ?_
  refine E_tp (y := nI (s)) (by simp [upr, up2, hs]) ?_
  refine E_iadd d_MOD_grow_64 ?_
  refine E_tp (y := nI (8 * p + s)) (nI_add (8 * p) s) ?_
  refine E_iload_n d_MOD_grow_65 rfl ?_
  refine L_st (j := 8 * p + s) d_MOD_grow_66 rfl rfl (by omega) (by decide) (fu_M 10 _ _) ?_
  refine E_aload_n d_MOD_grow_67 rfl rfl ?_
  refine L_gr d_MOD_grow_68 f_MOD_31 rfl (by decide) rfl rfl ?_
  refine E_iload_n d_MOD_grow_71 rfl ?_
  refine E_dup2 d_MOD_grow_72 rfl rfl ?_
  refine L_ld (j := p) d_MOD_grow_73 rfl rfl (by omega) (by decide) (fr_M 8 _) ?_
  refine E_tp (y := nI (s)) (by simp [upr, up2, hs]) ?_
  refine E_iconst (v := 1) d_MOD_grow_74 (by decide) ?_
  refine E_iadd d_MOD_grow_75 ?_
  refine E_tp (y := nI (s + 1)) (nI_add s 1) ?_
  refine L_st (j := p) d_MOD_grow_76 rfl rfl (by omega) (by decide) (fu_M 8 _ _) ?_
  refine E_iload_n d_MOD_grow_77 rfl ?_
  exact E_ireturn d_MOD_grow_78 (Or.inl rfl) rfl ⟨_, rfl, rfl, rfl⟩
theorem c_MOD_block {G : iG} {F : Nat} {C M : Nat → Nat → Int32} {p : Nat} {how : Int32} (hp : M 0 24 = nI p) (hp8 : p ≤ 8) : MV G m_MOD_block 0 [vR 50, vI how] (HW F C M) (fun h' => h' = HW F C (blkM M p how)) := by
  refine Mt.of' (Ls := [some (vR 50), some (vI how)]) (by decide) (by simp [ct]) (Nat.le_of_ble_eq_true rfl) rfl ?_
  refine E_aload_n d_MOD_block_0 rfl rfl ?_
  refine L_gr d_MOD_block_1 f_MOD_19 rfl (by decide) rfl rfl ?_
  refine E_aload_n d_MOD_block_4 rfl rfl ?_
  refine L_gi d_MOD_block_5 f_MOD_97 rfl (by decide) rfl (fr_M 0 24) ?_
  refine E_tp (y := nI (p)) hp ?_
  refine E_iload_n d_MOD_block_8 rfl ?_
  refine L_st (j := p) d_MOD_block_9 rfl rfl (by omega) (by decide) (fu_M 4 _ _) ?_
  refine E_aload_n d_MOD_block_10 rfl rfl ?_
  refine E_iconst (v := 0) d_MOD_block_11 (by decide) ?_
  refine L_pi d_MOD_block_12 f_MOD_100 rfl (by decide) (Or.inr ⟨rfl, (by decide)⟩) rfl (fu_M 0 27 _) ?_
  exact E_return d_MOD_block_15 rfl rfl ⟨rfl, rfl⟩
theorem lp_MOD_lostChild {G : iG} {F : Nat} {C M : Nat → Nat → Int32} {Q : Option iV → iH → Prop} {p : Int32} (hQ : Q (some (vI (lcf M p 8))) (HW F C M)) : ∀ (c : Nat) (x : Int32) (l4 l5 : Option iV), c ≤ 8 → x = lcf M p (8 - c) → Ev G m_MOD_lostChild 0 0 0 5 [some (vR 50), some (vI p), some (vI x), some (vI (nI c)), l4, l5] [] (HW F C M) Q := by
  intro c
  induction c with
  | zero =>
    intro x l4 l5 hc hx
    refine E_iload_n d_MOD_lostChild_5 rfl ?_
    refine E_iconst (v := 1) d_MOD_lostChild_6 (by decide) ?_
    refine E_icmp_lt (tgt := 88) d_MOD_lostChild_7 (by decide) (fun _ => ?_) (fun c => absurd (by decide) c)
    refine E_iload_n d_MOD_lostChild_88 rfl ?_
    exact E_ireturn d_MOD_lostChild_89 (Or.inl rfl) rfl (by rw [hx]; exact hQ)
  | succ c ih =>
    intro x l4 l5 hc hx
    have e8 : 8 - c = (8 - (c + 1)) + 1 := by omega
    have ec : 8 - (8 - (c + 1)) = c + 1 := by omega
    refine E_iload_n d_MOD_lostChild_5 rfl ?_
    refine E_iconst (v := 1) d_MOD_lostChild_6 (by decide) ?_
    refine E_icmp_lt (tgt := 88) d_MOD_lostChild_7 (by decide) (fun c => absurd c (nI_nlt (b := 1) (by omega) (by omega))) (fun _ => ?_)
    refine E_aload_n d_MOD_lostChild_10 rfl rfl ?_
    refine L_gr d_MOD_lostChild_11 f_MOD_19 rfl (by decide) rfl rfl ?_
    refine E_iload_n d_MOD_lostChild_14 rfl ?_
    refine L_ld (j := c + 1) d_MOD_lostChild_15 rfl rfl (by omega) (by decide) (fr_M 4 _) ?_
    refine E_if_le (tgt := 33) d_MOD_lostChild_16 (by decide) (fun c16 => ?_) (fun c16 => ?_)
    · refine E_iconst (v := 0) d_MOD_lostChild_33 (by decide) ?_
      refine E_istore d_MOD_lostChild_34 (by decide) ?_
      refine E_iload d_MOD_lostChild_36 rfl ?_
      refine E_if_eq (tgt := 55) d_MOD_lostChild_38 (by decide) (fun _ => ?_) (fun c => absurd (by decide) c)
      refine E_iconst (v := 0) d_MOD_lostChild_55 (by decide) ?_
      refine E_istore d_MOD_lostChild_56 (by decide) ?_
      refine E_iload d_MOD_lostChild_58 rfl ?_
      refine E_if_eq (tgt := 67) d_MOD_lostChild_60 (by decide) (fun _ => ?_) (fun c => absurd (by decide) c)
      refine E_iload d_MOD_lostChild_67 rfl ?_
      refine E_if_eq (tgt := 80) d_MOD_lostChild_69 (by decide) (fun _ => ?_) (fun c => absurd (by decide) c)
      refine E_iload_n d_MOD_lostChild_80 rfl ?_
      refine E_istore_n d_MOD_lostChild_81 (by decide) ?_
      refine E_iinc (v := nI c) d_MOD_lostChild_82 rfl (pk_m1 c) (by decide) ?_
      refine E_goto (tgt := 5) d_MOD_lostChild_85 (by decide) ?_
      exact ih _ _ _ (by omega) (by rw [e8, lcf, ec, ← hx, if_neg (fun q => absurd q.1.1 (Int32.not_lt.mpr c16)), if_neg (fun q => absurd q.1.1 (Int32.not_lt.mpr c16))])
    · refine E_aload_n d_MOD_lostChild_19 rfl rfl ?_
      refine L_gr d_MOD_lostChild_20 f_MOD_25 rfl (by decide) rfl rfl ?_
      refine E_iload_n d_MOD_lostChild_23 rfl ?_
      refine L_ld (j := c + 1) d_MOD_lostChild_24 rfl rfl (by omega) (by decide) (fr_M 6 _) ?_
      refine E_iload_n d_MOD_lostChild_25 rfl ?_
      refine E_icmp_ne (tgt := 33) d_MOD_lostChild_26 (by decide) (fun c26 => ?_) (fun c26 => ?_)
      · refine E_iconst (v := 0) d_MOD_lostChild_33 (by decide) ?_
        refine E_istore d_MOD_lostChild_34 (by decide) ?_
        refine E_iload d_MOD_lostChild_36 rfl ?_
        refine E_if_eq (tgt := 55) d_MOD_lostChild_38 (by decide) (fun _ => ?_) (fun c => absurd (by decide) c)
        refine E_iconst (v := 0) d_MOD_lostChild_55 (by decide) ?_
        refine E_istore d_MOD_lostChild_56 (by decide) ?_
        refine E_iload d_MOD_lostChild_58 rfl ?_
        refine E_if_eq (tgt := 67) d_MOD_lostChild_60 (by decide) (fun _ => ?_) (fun c => absurd (by decide) c)
        refine E_iload d_MOD_lostChild_67 rfl ?_
        refine E_if_eq (tgt := 80) d_MOD_lostChild_69 (by decide) (fun _ => ?_) (fun c => absurd (by decide) c)
        refine E_iload_n d_MOD_lostChild_80 rfl ?_
        refine E_istore_n d_MOD_lostChild_81 (by decide) ?_
        refine E_iinc (v := nI c) d_MOD_lostChild_82 rfl (pk_m1 c) (by decide) ?_
        refine E_goto (tgt := 5) d_MOD_lostChild_85 (by decide) ?_
        exact ih _ _ _ (by omega) (by rw [e8, lcf, ec, ← hx, if_neg (fun q => c26 q.1.2), if_neg (fun q => c26 q.1.2)])
      · refine E_iconst (v := 1) d_MOD_lostChild_29 (by decide) ?_
        refine E_goto (tgt := 34) d_MOD_lostChild_30 (by decide) ?_
        refine E_istore d_MOD_lostChild_34 (by decide) ?_
        refine E_iload d_MOD_lostChild_36 rfl ?_
        refine E_if_eq (tgt := 55) d_MOD_lostChild_38 (by decide) (fun c => absurd c (by decide)) (fun _ => ?_)
        refine E_aload_n d_MOD_lostChild_41 rfl rfl ?_
        refine L_gr d_MOD_lostChild_42 f_MOD_19 rfl (by decide) rfl rfl ?_
        refine E_iload_n d_MOD_lostChild_45 rfl ?_
        refine L_ld (j := c + 1) d_MOD_lostChild_46 rfl rfl (by omega) (by decide) (fr_M 4 _) ?_
        refine E_iconst (v := 5) d_MOD_lostChild_47 (by decide) ?_
        refine E_icmp_ne (tgt := 55) d_MOD_lostChild_48 (by decide) (fun c48 => ?_) (fun c48 => ?_)
        · refine E_iconst (v := 0) d_MOD_lostChild_55 (by decide) ?_
          refine E_istore d_MOD_lostChild_56 (by decide) ?_
          refine E_iload d_MOD_lostChild_58 rfl ?_
          refine E_if_eq (tgt := 67) d_MOD_lostChild_60 (by decide) (fun _ => ?_) (fun c => absurd (by decide) c)
          refine E_iload d_MOD_lostChild_67 rfl ?_
          refine E_if_eq (tgt := 80) d_MOD_lostChild_69 (by decide) (fun c => absurd c (by decide)) (fun _ => ?_)
          refine E_iload_n d_MOD_lostChild_72 rfl ?_
          refine E_if_ge (tgt := 80) d_MOD_lostChild_73 (by decide) (fun c73 => ?_) (fun c73 => ?_)
          · refine E_iload_n d_MOD_lostChild_80 rfl ?_
            refine E_istore_n d_MOD_lostChild_81 (by decide) ?_
            refine E_iinc (v := nI c) d_MOD_lostChild_82 rfl (pk_m1 c) (by decide) ?_
            refine E_goto (tgt := 5) d_MOD_lostChild_85 (by decide) ?_
            exact ih _ _ _ (by omega) (by rw [e8, lcf, ec, ← hx, if_neg (fun q => c48 q.2), if_neg (fun q => absurd q.2 (Int32.not_lt.mpr c73))])
          · refine E_iconst (v := 0) d_MOD_lostChild_76 (by decide) ?_
            refine E_goto (tgt := 81) d_MOD_lostChild_77 (by decide) ?_
            refine E_istore_n d_MOD_lostChild_81 (by decide) ?_
            refine E_iinc (v := nI c) d_MOD_lostChild_82 rfl (pk_m1 c) (by decide) ?_
            refine E_goto (tgt := 5) d_MOD_lostChild_85 (by decide) ?_
            exact ih _ _ _ (by omega) (by rw [e8, lcf, ec, ← hx, if_neg (fun q => c48 q.2), if_pos ⟨⟨Int32.not_le.mp c16, c26⟩, Int32.not_le.mp c73⟩])
        · refine E_iconst (v := 1) d_MOD_lostChild_51 (by decide) ?_
          refine E_goto (tgt := 56) d_MOD_lostChild_52 (by decide) ?_
          refine E_istore d_MOD_lostChild_56 (by decide) ?_
          refine E_iload d_MOD_lostChild_58 rfl ?_
          refine E_if_eq (tgt := 67) d_MOD_lostChild_60 (by decide) (fun c => absurd c (by decide)) (fun _ => ?_)
          refine E_iload_n d_MOD_lostChild_63 rfl ?_
          refine E_goto (tgt := 81) d_MOD_lostChild_64 (by decide) ?_
          refine E_istore_n d_MOD_lostChild_81 (by decide) ?_
          refine E_iinc (v := nI c) d_MOD_lostChild_82 rfl (pk_m1 c) (by decide) ?_
          refine E_goto (tgt := 5) d_MOD_lostChild_85 (by decide) ?_
          exact ih _ _ _ (by omega) (by rw [e8, lcf, ec, ← hx, if_pos ⟨⟨Int32.not_le.mp c16, c26⟩, c48⟩])
theorem c_MOD_lostChild {G : iG} {F : Nat} {C M : Nat → Nat → Int32} {p : Int32} : MI G m_MOD_lostChild 0 [vR 50, vI p] (HW F C M) (fun x h' => x = lcf M p 8 ∧ h' = HW F C M) := by
  refine Mt.of' (Ls := [some (vR 50), some (vI p), none, none, none, none]) (by decide) (by simp [ct]) (Nat.le_of_ble_eq_true rfl) rfl ?_
  refine E_iconst (v := -1) d_MOD_lostChild_0 (by decide) ?_
  refine E_istore_n d_MOD_lostChild_1 (by decide) ?_
  refine E_bipush (v := 8) d_MOD_lostChild_2 (by decide) ?_
  refine E_istore_n d_MOD_lostChild_4 (by decide) ?_
  exact lp_MOD_lostChild ⟨_, rfl, rfl, rfl⟩ 8 (-1) none none (by decide) rfl
end
section
/-! ===== the reference's end of a process ===== -/
def setM (M : Nat → Nat → Int32) (p k : Nat) (v : Int32) : Nat → Nat → Int32 := up2 M 9 (32 * p + k) (if k = 0 then 0 else v)
def hldM (M : Nat → Nat → Int32) (p : Int32) (k : Nat) : Nat → Nat → Int32 := fun a j => if a = 2 ∧ j < k ∧ M 2 j = p then 0 else M a j
theorem hldM_zero (M : Nat → Nat → Int32) (p : Int32) : hldM M p 0 = M := by
  funext a j
  simp [hldM]
theorem hldM_at (M : Nat → Nat → Int32) (p : Int32) (k : Nat) : hldM M p k 2 k = M 2 k := by
  simp [hldM]
theorem hldM_t {M : Nat → Nat → Int32} {p : Int32} {k : Nat} (h : M 2 k = p) : up2 (hldM M p k) 2 k 0 = hldM M p (k + 1) := by
  funext a j
  simp only [up2, hldM]
  by_cases ha : a = 2
  · by_cases hj : j = k
    · subst hj
      rw [if_pos ⟨ha, rfl⟩, if_pos ⟨ha, by omega, h⟩]
    · rw [if_neg (fun q => hj q.2)]
      by_cases hc : j < k ∧ M 2 j = p
      · rw [if_pos ⟨ha, hc⟩, if_pos ⟨ha, by omega, hc.2⟩]
      · rw [if_neg (fun q => hc q.2), if_neg (fun q => hc ⟨by omega, q.2.2⟩)]
  · rw [if_neg (fun q => ha q.1), if_neg (fun q => ha q.1), if_neg (fun q => ha q.1)]
theorem hldM_f {M : Nat → Nat → Int32} {p : Int32} {k : Nat} (h : ¬ M 2 k = p) : up2 (hldM M p k) 2 k (M 2 k) = hldM M p (k + 1) := by
  funext a j
  simp only [up2, hldM]
  by_cases ha : a = 2
  · by_cases hj : j = k
    · subst hj
      rw [if_pos ⟨ha, rfl⟩, if_neg (fun q => h q.2.2), ha]
    · rw [if_neg (fun q => hj q.2)]
      by_cases hc : j < k ∧ M 2 j = p
      · rw [if_pos ⟨ha, hc⟩, if_pos ⟨ha, by omega, hc.2⟩]
      · rw [if_neg (fun q => hc q.2), if_neg (fun q => hc ⟨by omega, q.2.2⟩)]
  · rw [if_neg (fun q => ha q.1), if_neg (fun q => ha q.1), if_neg (fun q => ha q.1)]
/-- the children 1 .. k of p go to one -/
def rpa (M : Nat → Nat → Int32) (p one : Int32) : Nat → Nat → Nat → Int32
  | 0 => M
  | k + 1 => if 0 < rpa M p one k 4 (k + 1) ∧ rpa M p one k 6 (k + 1) = p then (if one = 0 ∧ rpa M p one k 4 (k + 1) = 5 then remv (up2 (rpa M p one k) 6 (k + 1) one) (k + 1) else up2 (rpa M p one k) 6 (k + 1) one) else rpa M p one k
def end5 (M : Nat → Nat → Int32) (p : Nat) (code : Int32) (m : Nat) : Nat → Nat → Int32 := unrw (tidy (upr (hldM (up2 (up2 (up2 M 4 p 5) 5 p code) 8 p 0) (nI p) 40) 11 (6 * p) 6 (fun _ => -1))) (nI p) m
def oneM (N : Nat → Nat → Int32) : Int32 := if N 4 1 = 5 then 0 else 1
def end6 (M : Nat → Nat → Int32) (p : Nat) (code : Int32) (m : Nat) : Nat → Nat → Int32 := rpa (end5 M p code m) (nI p) (oneM (end5 M p code m)) 8
def end7 (M : Nat → Nat → Int32) (p : Nat) (code : Int32) (m : Nat) : Nat → Nat → Int32 := if end6 M p code m 6 p = 0 ∧ p ≠ 1 then remv (end6 M p code m) p else end6 M p code m
def endM (M : Nat → Nat → Int32) (p : Nat) (code : Int32) (m : Nat) : Nat → Nat → Int32 := if nI p = end7 M p code m 0 24 then up2 (end7 M p code m) 0 27 0 else end7 M p code m
def jmpM (M : Nat → Nat → Int32) (p : Nat) (to : Int32) (m : Nat) : Nat → Nat → Int32 := if to - to / 4 * 4 = 0 then up2 (setM M p (bf (M 0 25) 7 5) (M 7 p + 4)) 0 26 to else endM M p (128 + 0) m
def rchM (M : Nat → Nat → Int32) (p : Nat) (a n code : Int32) (s m : Nat) : Nat → Nat → Int32 := if a - a / n * n = 0 then (if 0 ≤ a ∧ a < nI (64 * s) then M else endM M p (128 + (code + 1)) m) else endM M p (128 + code) m
theorem tidy_at (M : Nat → Nat → Int32) {a : Nat} (j : Nat) (h : a ≠ 14) : tidy M a j = M a j := by
  simp [tidy, tidk, h]
theorem upr_ne (M : Nat → Nat → Int32) {a a' : Nat} (lo n j : Nat) (f : Nat → Int32) (h : a' ≠ a) : upr M a lo n f a' j = M a' j := by
  simp [upr, h]
theorem up2_ne2 (M : Nat → Nat → Int32) {a a' : Nat} (j j' : Nat) (x : Int32) (h : a' ≠ a) : up2 M a j x a' j' = M a' j' := by
  simp [up2, h]
theorem hldM_ne (M : Nat → Nat → Int32) (p : Int32) (k : Nat) {a : Nat} (j : Nat) (h : a ≠ 2) : hldM M p k a j = M a j := by
  simp [hldM, h]
theorem remv_ne (M : Nat → Nat → Int32) (p : Nat) {a : Nat} (j : Nat) (h4 : a ≠ 4) (h5 : a ≠ 5) (h6 : a ≠ 6) (h7 : a ≠ 7) (h9 : a ≠ 9) : remv M p a j = M a j := by
  simp [remv, upr, up2, h4, h5, h6, h7, h9]
theorem rpa_ne (M : Nat → Nat → Int32) (p one : Int32) {a : Nat} (j : Nat) (h4 : a ≠ 4) (h5 : a ≠ 5) (h6 : a ≠ 6) (h7 : a ≠ 7) (h9 : a ≠ 9) : ∀ k, rpa M p one k a j = M a j
  | 0 => rfl
  | k + 1 => by
    have ih := rpa_ne M p one j h4 h5 h6 h7 h9 k
    unfold rpa
    split
    · split
      · rw [remv_ne _ _ _ h4 h5 h6 h7 h9, up2_ne2 _ _ _ _ h6, ih]
      · rw [up2_ne2 _ _ _ _ h6, ih]
    · exact ih
theorem unrw_0 (M : Nat → Nat → Int32) (q : Int32) (m : Nat) {j : Nat} (h : j ≠ 15) : unrw M q m 0 j = M 0 j := by
  simp [unrw, up2, upl, h]
theorem end5_0 (M : Nat → Nat → Int32) (p : Nat) (code : Int32) (m : Nat) {j : Nat} (h : j ≠ 15) : end5 M p code m 0 j = M 0 j := by
  rw [end5, unrw_0 _ _ _ h, tidy_at _ _ (by decide), upr_ne _ _ _ _ _ (by decide), hldM_ne _ _ _ _ (by decide), up2_ne2 _ _ _ _ (by decide), up2_ne2 _ _ _ _ (by decide), up2_ne2 _ _ _ _ (by decide)]
theorem end7_0 (M : Nat → Nat → Int32) (p : Nat) (code : Int32) (m : Nat) {j : Nat} (h : j ≠ 15) : end7 M p code m 0 j = M 0 j := by
  have e6 : end6 M p code m 0 j = M 0 j := (rpa_ne _ _ _ _ (by decide) (by decide) (by decide) (by decide) (by decide) 8).trans (end5_0 M p code m h)
  unfold end7
  split
  · rw [remv_ne _ _ _ (by decide) (by decide) (by decide) (by decide) (by decide), e6]
  · exact e6
theorem endM_0 (M : Nat → Nat → Int32) (p : Nat) (code : Int32) (m : Nat) {j : Nat} (h : j ≠ 15) (h27 : j ≠ 27) : endM M p code m 0 j = M 0 j := by
  unfold endM
  split
  · rw [show up2 (end7 M p code m) 0 27 0 0 j = end7 M p code m 0 j by simp [up2, h27], end7_0 _ _ _ _ h]
  · exact end7_0 _ _ _ _ h
theorem endM_27 {M : Nat → Nat → Int32} {p : Nat} (code : Int32) (m : Nat) (hp : M 0 24 = nI p) : endM M p code m 0 27 = 0 := by
  rw [endM, if_pos (by rw [end7_0 _ _ _ _ (by decide)]; exact hp.symm)]
  simp [up2]
end
section
/-! ===== the reference's end, fault, jump, reach ===== -/
theorem lp_MOD_end1 {G : iG} {F : Nat} {C M : Nat → Nat → Int32} {Q : Option iV → iH → Prop} {x2 : iV} {l4 : Option iV} {p : Nat} (K : Ev G m_MOD_end 2 0 0 61 [some (vR 50), some (vI (nI p)), some x2, some (vI (nI 40)), l4] [] (HW F C (hldM M (nI p) 40)) Q) : ∀ (n k : Nat), k + n = 40 → Ev G m_MOD_end 2 0 0 23 [some (vR 50), some (vI (nI p)), some x2, some (vI (nI k)), l4] [] (HW F C (hldM M (nI p) k)) Q := by
  intro n
  induction n with
  | zero =>
    intro k hk
    have hkf : k = 40 := by omega
    subst hkf
    refine E_iload_n d_MOD_end_23 rfl ?_
    refine E_bipush (v := 40) d_MOD_end_24 (by decide) ?_
    refine E_icmp_ge (tgt := 61) d_MOD_end_26 (by decide) (fun _ => ?_) (fun c => absurd (by decide) c)
    exact K
  | succ n ih =>
    intro k hk
    refine E_iload_n d_MOD_end_23 rfl ?_
    refine E_bipush (v := 40) d_MOD_end_24 (by decide) ?_
    refine E_icmp_ge (tgt := 61) d_MOD_end_26 (by decide) (fun c => absurd c (nI_ge (b := 40) (by omega) (by decide))) (fun _ => ?_)
    refine E_aload_n d_MOD_end_29 rfl rfl ?_
    refine L_gr d_MOD_end_30 f_MOD_13 rfl (by decide) rfl rfl ?_
    refine E_iload_n d_MOD_end_33 rfl ?_
    refine E_aload_n d_MOD_end_34 rfl rfl ?_
    refine L_gr d_MOD_end_35 f_MOD_13 rfl (by decide) rfl rfl ?_
    refine E_iload_n d_MOD_end_38 rfl ?_
    refine L_ld (j := k) d_MOD_end_39 rfl rfl (by omega) (by decide) (fr_M 2 _) ?_
    refine E_tp (y := M 2 k) (hldM_at M (nI p) k) ?_
    refine E_iload_n d_MOD_end_40 rfl ?_
    refine E_icmp_ne (tgt := 48) d_MOD_end_41 (by decide) (fun c41 => ?_) (fun c41 => ?_)
    · refine E_aload_n d_MOD_end_48 rfl rfl ?_
      refine L_gr d_MOD_end_49 f_MOD_13 rfl (by decide) rfl rfl ?_
      refine E_iload_n d_MOD_end_52 rfl ?_
      refine L_ld (j := k) d_MOD_end_53 rfl rfl (by omega) (by decide) (fr_M 2 _) ?_
      refine E_tp (y := M 2 k) (hldM_at M (nI p) k) ?_
      refine L_st (j := k) d_MOD_end_54 rfl rfl (by omega) (by decide) (fu_M 2 _ _) ?_
      refine E_iinc (v := nI (k + 1)) d_MOD_end_55 rfl (nI_1 _) (by decide) ?_
      refine E_goto (tgt := 23) d_MOD_end_58 (by decide) ?_
      rw [hldM_f c41]
      exact ih (k + 1) (by omega)
    · refine E_iconst (v := 0) d_MOD_end_44 (by decide) ?_
      refine E_goto (tgt := 54) d_MOD_end_45 (by decide) ?_
      refine L_st (j := k) d_MOD_end_54 rfl rfl (by omega) (by decide) (fu_M 2 _ _) ?_
      refine E_iinc (v := nI (k + 1)) d_MOD_end_55 rfl (nI_1 _) (by decide) ?_
      refine E_goto (tgt := 23) d_MOD_end_58 (by decide) ?_
      rw [hldM_t c41]
      exact ih (k + 1) (by omega)
theorem lp_MOD_end2 {G : iG} {F : Nat} {C M : Nat → Nat → Int32} {Q : Option iV → iH → Prop} {x2 : iV} {l4 : Option iV} {p : Nat} (hp : p ≤ 8) (K : Ev G m_MOD_end 2 0 0 87 [some (vR 50), some (vI (nI p)), some x2, some (vI (nI 6)), l4] [] (HW F C (upr M 11 (6 * p) 6 (fun _ => -1))) Q) : ∀ (n k : Nat), k + n = 6 → Ev G m_MOD_end 2 0 0 63 [some (vR 50), some (vI (nI p)), some x2, some (vI (nI k)), l4] [] (HW F C (upr M 11 (6 * p) k (fun _ => -1))) Q := by
  intro n
  induction n with
  | zero =>
    intro k hk
    have hkf : k = 6 := by omega
    subst hkf
    refine E_iload_n d_MOD_end_63 rfl ?_
    refine E_bipush (v := 6) d_MOD_end_64 (by decide) ?_
    refine E_icmp_ge (tgt := 87) d_MOD_end_66 (by decide) (fun _ => ?_) (fun c => absurd (by decide) c)
    exact K
  | succ n ih =>
    intro k hk
    refine E_iload_n d_MOD_end_63 rfl ?_
    refine E_bipush (v := 6) d_MOD_end_64 (by decide) ?_
    refine E_icmp_ge (tgt := 87) d_MOD_end_66 (by decide) (fun c => absurd c (nI_ge (b := 6) (by omega) (by decide))) (fun _ => ?_)
    refine E_aload_n d_MOD_end_69 rfl rfl ?_
    refine L_gr d_MOD_end_70 f_MOD_40 rfl (by decide) rfl rfl ?_
    refine E_bipush (v := 6) d_MOD_end_73 (by decide) ?_
    refine E_iload_n d_MOD_end_75 rfl ?_
    refine E_imul d_MOD_end_76 ?_
    refine E_tp (y := nI (6 * p)) (pk_mul 6 p) ?_
    refine E_iload_n d_MOD_end_77 rfl ?_
    refine E_iadd d_MOD_end_78 ?_
    refine E_tp (y := nI (6 * p + k)) (nI_add (6 * p) k) ?_
    refine E_iconst (v := -1) d_MOD_end_79 (by decide) ?_
    refine L_st (j := 6 * p + k) d_MOD_end_80 rfl rfl (by omega) (by decide) (fu_M 11 _ _) ?_
    refine E_iinc (v := nI (k + 1)) d_MOD_end_81 rfl (nI_1 _) (by decide) ?_
    refine E_goto (tgt := 63) d_MOD_end_84 (by decide) ?_
    rw [upr_succ _ 11 (6 * p) k (fun _ => -1)]
    exact ih (k + 1) (by omega)
theorem lp_MOD_end3 {G : iG} {F : Nat} {C M : Nat → Nat → Int32} {Q : Option iV → iH → Prop} {x2 : iV} {one : Int32} {p : Nat} (hp : p ≤ 8) (K : Ev G m_MOD_end 2 0 0 178 [some (vR 50), some (vI (nI p)), some x2, some (vI one), some (vI (nI 9))] [] (HW F C (rpa M (nI p) one 8)) Q) : ∀ (n k : Nat), k + n = 8 → Ev G m_MOD_end 2 0 0 115 [some (vR 50), some (vI (nI p)), some x2, some (vI one), some (vI (nI (k + 1)))] [] (HW F C (rpa M (nI p) one k)) Q := by
  intro n
  induction n with
  | zero =>
    intro k hk
    have hkf : k = 8 := by omega
    subst hkf
    refine E_iload d_MOD_end_115 rfl ?_
    refine E_bipush (v := 8) d_MOD_end_117 (by decide) ?_
    refine E_icmp_gt (tgt := 178) d_MOD_end_119 (by decide) (fun _ => ?_) (fun c => absurd (by decide) c)
    exact K
  | succ n ih =>
    intro k hk
    refine E_iload d_MOD_end_115 rfl ?_
    refine E_bipush (v := 8) d_MOD_end_117 (by decide) ?_
    refine E_icmp_gt (tgt := 178) d_MOD_end_119 (by decide) (fun c => absurd c (nI_nlt (a := 8) (b := k + 1) (by omega) (by decide))) (fun _ => ?_)
    refine E_aload_n d_MOD_end_122 rfl rfl ?_
    refine L_gr d_MOD_end_123 f_MOD_19 rfl (by decide) rfl rfl ?_
    refine E_iload d_MOD_end_126 rfl ?_
    refine L_ld (j := k + 1) d_MOD_end_128 rfl rfl (by omega) (by decide) (fr_M 4 _) ?_
    refine E_if_le (tgt := 172) d_MOD_end_129 (by decide) (fun c129 => ?_) (fun c129 => ?_)
    · refine E_iinc (v := nI (k + 1 + 1)) d_MOD_end_172 rfl (nI_1 _) (by decide) ?_
      refine E_goto (tgt := 115) d_MOD_end_175 (by decide) ?_
      have e := ih (k + 1) (by omega)
      rw [rpa, if_neg (fun q => absurd q.1 (Int32.not_lt.mpr c129))] at e
      exact e
    · refine E_aload_n d_MOD_end_132 rfl rfl ?_
      refine L_gr d_MOD_end_133 f_MOD_25 rfl (by decide) rfl rfl ?_
      refine E_iload d_MOD_end_136 rfl ?_
      refine L_ld (j := k + 1) d_MOD_end_138 rfl rfl (by omega) (by decide) (fr_M 6 _) ?_
      refine E_iload_n d_MOD_end_139 rfl ?_
      refine E_icmp_ne (tgt := 172) d_MOD_end_140 (by decide) (fun c140 => ?_) (fun c140 => ?_)
      · refine E_iinc (v := nI (k + 1 + 1)) d_MOD_end_172 rfl (nI_1 _) (by decide) ?_
        refine E_goto (tgt := 115) d_MOD_end_175 (by decide) ?_
        have e := ih (k + 1) (by omega)
        rw [rpa, if_neg (fun q => c140 q.2)] at e
        exact e
      · refine E_aload_n d_MOD_end_143 rfl rfl ?_
        refine L_gr d_MOD_end_144 f_MOD_25 rfl (by decide) rfl rfl ?_
        refine E_iload d_MOD_end_147 rfl ?_
        refine E_iload_n d_MOD_end_149 rfl ?_
        refine L_st (j := k + 1) d_MOD_end_150 rfl rfl (by omega) (by decide) (fu_M 6 _ _) ?_
        refine E_iload_n d_MOD_end_151 rfl ?_
        refine E_if_ne (tgt := 172) d_MOD_end_152 (by decide) (fun c152 => ?_) (fun c152 => ?_)
        · refine E_iinc (v := nI (k + 1 + 1)) d_MOD_end_172 rfl (nI_1 _) (by decide) ?_
          refine E_goto (tgt := 115) d_MOD_end_175 (by decide) ?_
          have e := ih (k + 1) (by omega)
          rw [rpa, if_pos ⟨Int32.not_le.mp c129, c140⟩, if_neg (fun q => c152 q.1)] at e
          exact e
        · refine E_aload_n d_MOD_end_155 rfl rfl ?_
          refine L_gr d_MOD_end_156 f_MOD_19 rfl (by decide) rfl rfl ?_
          refine E_iload d_MOD_end_159 rfl ?_
          refine L_ld (j := k + 1) d_MOD_end_161 rfl rfl (by omega) (by decide) (fr_M 4 _) ?_
          refine E_tp (y := rpa M (nI p) one k 4 (k + 1)) (up2_ne2 _ _ _ _ (by decide)) ?_
          refine E_iconst (v := 5) d_MOD_end_162 (by decide) ?_
          refine E_icmp_ne (tgt := 172) d_MOD_end_163 (by decide) (fun c163 => ?_) (fun c163 => ?_)
          · refine E_iinc (v := nI (k + 1 + 1)) d_MOD_end_172 rfl (nI_1 _) (by decide) ?_
            refine E_goto (tgt := 115) d_MOD_end_175 (by decide) ?_
            have e := ih (k + 1) (by omega)
            rw [rpa, if_pos ⟨Int32.not_le.mp c129, c140⟩, if_neg (fun q => c163 q.2)] at e
            exact e
          · refine E_aload_n d_MOD_end_166 rfl rfl ?_
            refine E_iload d_MOD_end_167 rfl ?_
            refine E_V1v d_MOD_end_169 w_MOD_94 rfl (by decide) (Nat.le_of_ble_eq_true rfl) (c_MOD_remove (by omega)) ?_
            rintro _ rfl
            refine E_iinc (v := nI (k + 1 + 1)) d_MOD_end_172 rfl (nI_1 _) (by decide) ?_
            refine E_goto (tgt := 115) d_MOD_end_175 (by decide) ?_
            have e := ih (k + 1) (by omega)
            rw [rpa, if_pos ⟨Int32.not_le.mp c129, c140⟩, if_pos ⟨c152, c163⟩] at e
            exact e
theorem c_MOD_end {G : iG} {F : Nat} {C M : Nat → Nat → Int32} {p m : Nat} {code : Int32} (hp : p ≤ 8) (hm : M 0 15 = nI m) (hm9 : m ≤ 9) : MV G m_MOD_end 2 [vR 50, vI (nI p), vI code] (HW F C M) (fun h' => h' = HW F C (endM M p code m)) := by
  refine Mt.of' (Ls := [some (vR 50), some (vI (nI p)), some (vI code), none, none]) (by decide) (by simp [ct]) (Nat.le_of_ble_eq_true rfl) rfl ?_
  refine E_aload_n d_MOD_end_0 rfl rfl ?_
  refine L_gr d_MOD_end_1 f_MOD_19 rfl (by decide) rfl rfl ?_
  refine E_iload_n d_MOD_end_4 rfl ?_
  refine E_iconst (v := 5) d_MOD_end_5 (by decide) ?_
  refine L_st (j := p) d_MOD_end_6 rfl rfl (by omega) (by decide) (fu_M 4 _ _) ?_
  refine E_aload_n d_MOD_end_7 rfl rfl ?_
  refine L_gr d_MOD_end_8 f_MOD_22 rfl (by decide) rfl rfl ?_
  refine E_iload_n d_MOD_end_11 rfl ?_
  refine E_iload_n d_MOD_end_12 rfl ?_
  refine L_st (j := p) d_MOD_end_13 rfl rfl (by omega) (by decide) (fu_M 5 _ _) ?_
  refine E_aload_n d_MOD_end_14 rfl rfl ?_
  refine L_gr d_MOD_end_15 f_MOD_31 rfl (by decide) rfl rfl ?_
  refine E_iload_n d_MOD_end_18 rfl ?_
  refine E_iconst (v := 0) d_MOD_end_19 (by decide) ?_
  refine L_st (j := p) d_MOD_end_20 rfl rfl (by omega) (by decide) (fu_M 8 _ _) ?_
  refine E_iconst (v := 0) d_MOD_end_21 (by decide) ?_
  refine E_istore_n d_MOD_end_22 (by decide) ?_
  rw [← hldM_zero (up2 (up2 (up2 M 4 p 5) 5 p code) 8 p 0) (nI p)]
  refine lp_MOD_end1 ?_ 40 0 rfl
  refine E_iconst (v := 0) d_MOD_end_61 (by decide) ?_
  refine E_istore_n d_MOD_end_62 (by decide) ?_
  rw [← upr_zero (hldM (up2 (up2 (up2 M 4 p 5) 5 p code) 8 p 0) (nI p) 40) 11 (6 * p) (fun _ => -1)]
  refine lp_MOD_end2 hp ?_ 6 0 rfl
  have hm2 : tidy (upr (hldM (up2 (up2 (up2 M 4 p 5) 5 p code) 8 p 0) (nI p) 40) 11 (6 * p) 6 (fun _ => -1)) 0 15 = nI m := by rw [tidy_at _ _ (by decide), upr_ne _ _ _ _ _ (by decide), hldM_ne _ _ _ _ (by decide), up2_ne2 _ _ _ _ (by decide), up2_ne2 _ _ _ _ (by decide), up2_ne2 _ _ _ _ (by decide)]; exact hm
  have K : ∀ one, one = oneM (end5 M p code m) → Ev G m_MOD_end 2 0 0 115 [some (vR 50), some (vI (nI p)), some (vI code), some (vI one), some (vI (nI (0 + 1)))] [] (HW F C (end5 M p code m)) (fun r h' => r = none ∧ h' = HW F C (endM M p code m)) := by
    intro one h1
    refine lp_MOD_end3 (M := end5 M p code m) hp ?_ 8 0 rfl
    subst h1
    change Ev G m_MOD_end 2 0 0 178 [some (vR 50), some (vI (nI p)), some (vI code), some (vI (oneM (end5 M p code m))), some (vI (nI 9))] [] (HW F C (end6 M p code m)) _
    refine E_aload_n d_MOD_end_178 rfl rfl ?_
    refine L_gr d_MOD_end_179 f_MOD_25 rfl (by decide) rfl rfl ?_
    refine E_iload_n d_MOD_end_182 rfl ?_
    refine L_ld (j := p) d_MOD_end_183 rfl rfl (by omega) (by decide) (fr_M 6 _) ?_
    refine E_if_ne (tgt := 197) d_MOD_end_184 (by decide) (fun c184 => ?_) (fun c184 => ?_)
    · refine E_iload_n d_MOD_end_197 rfl ?_
      refine E_aload_n d_MOD_end_198 rfl rfl ?_
      refine L_gi d_MOD_end_199 f_MOD_97 rfl (by decide) rfl (fr_M 0 24) ?_
      refine E_icmp_ne (tgt := 210) d_MOD_end_202 (by decide) (fun c202 => ?_) (fun c202 => ?_)
      · exact E_return d_MOD_end_210 rfl rfl ⟨rfl, by have e : end7 M p code m = end6 M p code m := if_neg (fun q => c184 q.1); rw [endM, e, if_neg c202]⟩
      · refine E_aload_n d_MOD_end_205 rfl rfl ?_
        refine E_iconst (v := 0) d_MOD_end_206 (by decide) ?_
        refine L_pi d_MOD_end_207 f_MOD_100 rfl (by decide) (Or.inr ⟨rfl, (by decide)⟩) rfl (fu_M 0 27 _) ?_
        exact E_return d_MOD_end_210 rfl rfl ⟨rfl, by have e : end7 M p code m = end6 M p code m := if_neg (fun q => c184 q.1); rw [endM, e, if_pos c202]⟩
    · refine E_iload_n d_MOD_end_187 rfl ?_
      refine E_iconst (v := 1) d_MOD_end_188 (by decide) ?_
      refine E_icmp_eq (tgt := 197) d_MOD_end_189 (by decide) (fun c189 => ?_) (fun c189 => ?_)
      · refine E_iload_n d_MOD_end_197 rfl ?_
        refine E_aload_n d_MOD_end_198 rfl rfl ?_
        refine L_gi d_MOD_end_199 f_MOD_97 rfl (by decide) rfl (fr_M 0 24) ?_
        refine E_icmp_ne (tgt := 210) d_MOD_end_202 (by decide) (fun c202 => ?_) (fun c202 => ?_)
        · exact E_return d_MOD_end_210 rfl rfl ⟨rfl, by have e : end7 M p code m = end6 M p code m := if_neg (fun q => q.2 ((nI_eq (b := 1) (by omega) (by decide)).mp c189)); rw [endM, e, if_neg c202]⟩
        · refine E_aload_n d_MOD_end_205 rfl rfl ?_
          refine E_iconst (v := 0) d_MOD_end_206 (by decide) ?_
          refine L_pi d_MOD_end_207 f_MOD_100 rfl (by decide) (Or.inr ⟨rfl, (by decide)⟩) rfl (fu_M 0 27 _) ?_
          exact E_return d_MOD_end_210 rfl rfl ⟨rfl, by have e : end7 M p code m = end6 M p code m := if_neg (fun q => q.2 ((nI_eq (b := 1) (by omega) (by decide)).mp c189)); rw [endM, e, if_pos c202]⟩
      · refine E_aload_n d_MOD_end_192 rfl rfl ?_
        refine E_iload_n d_MOD_end_193 rfl ?_
        refine E_V1v d_MOD_end_194 w_MOD_94 rfl (by decide) (Nat.le_of_ble_eq_true rfl) (c_MOD_remove hp) ?_
        rintro _ rfl
        refine E_iload_n d_MOD_end_197 rfl ?_
        refine E_aload_n d_MOD_end_198 rfl rfl ?_
        refine L_gi d_MOD_end_199 f_MOD_97 rfl (by decide) rfl (fr_M 0 24) ?_
        refine E_icmp_ne (tgt := 210) d_MOD_end_202 (by decide) (fun c202 => ?_) (fun c202 => ?_)
        · exact E_return d_MOD_end_210 rfl rfl ⟨rfl, by have e : end7 M p code m = remv (end6 M p code m) p := if_pos ⟨c184, fun q => c189 (by rw [q]; rfl)⟩; rw [endM, e, if_neg c202]⟩
        · refine E_aload_n d_MOD_end_205 rfl rfl ?_
          refine E_iconst (v := 0) d_MOD_end_206 (by decide) ?_
          refine L_pi d_MOD_end_207 f_MOD_100 rfl (by decide) (Or.inr ⟨rfl, (by decide)⟩) rfl (fu_M 0 27 _) ?_
          exact E_return d_MOD_end_210 rfl rfl ⟨rfl, by have e : end7 M p code m = remv (end6 M p code m) p := if_pos ⟨c184, fun q => c189 (by rw [q]; rfl)⟩; rw [endM, e, if_pos c202]⟩
  refine E_aload_n d_MOD_end_87 rfl rfl ?_
  refine E_V0v d_MOD_end_88 w_MOD_88 rfl (by decide) (Nat.le_of_ble_eq_true rfl) (c_MOD_tidyPipes) ?_
  rintro _ rfl
  refine E_aload_n d_MOD_end_91 rfl rfl ?_
  refine E_iload_n d_MOD_end_92 rfl ?_
  refine E_V1v d_MOD_end_93 w_MOD_91 rfl (by decide) (Nat.le_of_ble_eq_true rfl) (c_MOD_unrow hm2 hm9) ?_
  rintro _ rfl
  change Ev G m_MOD_end 2 0 0 (87 + 1 + 3 + 1 + 1 + 3) _ _ (HW F C (end5 M p code m)) _
  refine E_aload_n d_MOD_end_96 rfl rfl ?_
  refine L_gr d_MOD_end_97 f_MOD_19 rfl (by decide) rfl rfl ?_
  refine E_iconst (v := 1) d_MOD_end_100 (by decide) ?_
  refine L_ld (j := 1) d_MOD_end_101 rfl rfl (by omega) (by decide) (fr_M 4 _) ?_
  refine E_iconst (v := 5) d_MOD_end_102 (by decide) ?_
  refine E_icmp_ne (tgt := 110) d_MOD_end_103 (by decide) (fun c103 => ?_) (fun c103 => ?_)
  · refine E_iconst (v := 1) d_MOD_end_110 (by decide) ?_
    refine E_istore_n d_MOD_end_111 (by decide) ?_
    refine E_iconst (v := 1) d_MOD_end_112 (by decide) ?_
    refine E_istore d_MOD_end_113 (by decide) ?_
    exact K _ (by rw [oneM, if_neg c103])
  · refine E_iconst (v := 0) d_MOD_end_106 (by decide) ?_
    refine E_goto (tgt := 111) d_MOD_end_107 (by decide) ?_
    refine E_istore_n d_MOD_end_111 (by decide) ?_
    refine E_iconst (v := 1) d_MOD_end_112 (by decide) ?_
    refine E_istore d_MOD_end_113 (by decide) ?_
    exact K _ (by rw [oneM, if_pos c103])
theorem c_MOD_fault {G : iG} {F : Nat} {C M : Nat → Nat → Int32} {p m : Nat} {c : Int32} (hp : M 0 24 = nI p) (hp8 : p ≤ 8) (hm : M 0 15 = nI m) (hm9 : m ≤ 9) : MV G m_MOD_fault 3 [vR 50, vI c] (HW F C M) (fun h' => h' = HW F C (endM M p (128 + c) m)) := by
  refine Mt.of' (Ls := [some (vR 50), some (vI c)]) (by decide) (by simp [ct]) (Nat.le_of_ble_eq_true rfl) rfl ?_
  refine E_aload_n d_MOD_fault_0 rfl rfl ?_
  refine E_aload_n d_MOD_fault_1 rfl rfl ?_
  refine L_gi d_MOD_fault_2 f_MOD_97 rfl (by decide) rfl (fr_M 0 24) ?_
  refine E_tp (y := nI (p)) hp ?_
  refine E_sipush (v := 128) d_MOD_fault_5 (by decide) ?_
  refine E_iload_n d_MOD_fault_8 rfl ?_
  refine E_iadd d_MOD_fault_9 ?_
  refine E_V2v d_MOD_fault_10 w_MOD_103 rfl (by decide) (Nat.le_of_ble_eq_true rfl) (c_MOD_end hp8 hm hm9) ?_
  rintro _ rfl
  exact E_return d_MOD_fault_13 rfl rfl ⟨rfl, rfl⟩
theorem c_MOD_jump {G : iG} {F : Nat} {C M : Nat → Nat → Int32} {p m : Nat} (hp : M 0 24 = nI p) (hp8 : p ≤ 8) (hm : M 0 15 = nI m) (hm9 : m ≤ 9) {to : Int32} : MV G m_MOD_jump 4 [vR 50, vI to] (HW F C M) (fun h' => h' = HW F C (jmpM M p to m)) := by
  refine Mt.of' (Ls := [some (vR 50), some (vI to)]) (by decide) (by simp [ct]) (Nat.le_of_ble_eq_true rfl) rfl ?_
  refine E_iload_n d_MOD_jump_0 rfl ?_
  refine E_iconst (v := 4) d_MOD_jump_1 (by decide) ?_
  refine E_irem d_MOD_jump_2 (by decide) ?_
  refine E_if_eq (tgt := 12) d_MOD_jump_3 (by decide) (fun c3 => ?_) (fun c3 => ?_)
  · refine E_aload_n d_MOD_jump_12 rfl rfl ?_
    refine E_aload_n d_MOD_jump_13 rfl rfl ?_
    refine E_V0i d_MOD_jump_14 w_MOD_131 rfl (by decide) (Nat.le_of_ble_eq_true rfl) (c_MOD_d) ?_
    rintro _ _ ⟨rfl, rfl⟩
    refine E_aload_n d_MOD_jump_17 rfl rfl ?_
    refine L_gr d_MOD_jump_18 f_MOD_28 rfl (by decide) rfl rfl ?_
    refine E_aload_n d_MOD_jump_21 rfl rfl ?_
    refine L_gi d_MOD_jump_22 f_MOD_97 rfl (by decide) rfl (fr_M 0 24) ?_
    refine E_tp (y := nI (p)) hp ?_
    refine L_ld (j := p) d_MOD_jump_25 rfl rfl (by omega) (by decide) (fr_M 7 _) ?_
    refine E_iconst (v := 4) d_MOD_jump_26 (by decide) ?_
    refine E_iadd d_MOD_jump_27 ?_
    refine E_V2v d_MOD_jump_28 w_MOD_135 rfl (by decide) (Nat.le_of_ble_eq_true rfl) (c_MOD_set hp hp8 (bf_lt _ _ 5)) ?_
    rintro _ rfl
    refine E_aload_n d_MOD_jump_31 rfl rfl ?_
    refine E_iload_n d_MOD_jump_32 rfl ?_
    refine L_pi d_MOD_jump_33 f_MOD_121 rfl (by decide) (Or.inl rfl) rfl (fu_M 0 26 _) ?_
    exact E_return d_MOD_jump_36 rfl rfl ⟨rfl, by rw [jmpM, if_pos c3]; rfl⟩
  · refine E_aload_n d_MOD_jump_6 rfl rfl ?_
    refine E_iconst (v := 0) d_MOD_jump_7 (by decide) ?_
    refine E_V1v d_MOD_jump_8 w_MOD_128 rfl (by decide) (Nat.le_of_ble_eq_true rfl) (c_MOD_fault hp hp8 hm hm9) ?_
    rintro _ rfl
    exact E_return d_MOD_jump_11 rfl rfl ⟨rfl, by rw [jmpM, if_neg c3]⟩
theorem c_MOD_reach {G : iG} {F : Nat} {C M : Nat → Nat → Int32} {p m : Nat} (hp : M 0 24 = nI p) (hp8 : p ≤ 8) (hm : M 0 15 = nI m) (hm9 : m ≤ 9) {a n code : Int32} {s : Nat} (hs : M 8 p = nI s) (hn : ¬ n = 0) (hgo : M 0 27 = 1) : MI G m_MOD_reach 4 [vR 50, vI a, vI n, vI code] (HW F C M) (fun x h' => x = rchM M p a n code s m 0 27 ∧ h' = HW F C (rchM M p a n code s m)) := by
  refine Mt.of' (Ls := [some (vR 50), some (vI a), some (vI n), some (vI code)]) (by decide) (by simp [ct]) (Nat.le_of_ble_eq_true rfl) rfl ?_
  refine E_iload_n d_MOD_reach_0 rfl ?_
  refine E_iload_n d_MOD_reach_1 rfl ?_
  refine E_irem d_MOD_reach_2 hn ?_
  refine E_if_eq (tgt := 14) d_MOD_reach_3 (by decide) (fun c3 => ?_) (fun c3 => ?_)
  · refine E_aload_n d_MOD_reach_14 rfl rfl ?_
    refine E_aload_n d_MOD_reach_15 rfl rfl ?_
    refine L_gi d_MOD_reach_16 f_MOD_97 rfl (by decide) rfl (fr_M 0 24) ?_
    refine E_tp (y := nI (p)) hp ?_
    refine E_iload_n d_MOD_reach_19 rfl ?_
    refine E_V2i d_MOD_reach_20 w_MOD_124 rfl (by decide) (Nat.le_of_ble_eq_true rfl) (c_MOD_there hp8 hs) ?_
    rintro _ _ ⟨rfl, rfl⟩
    refine E_if_ne (tgt := 33) d_MOD_reach_23 (by decide) (fun c23 => ?_) (fun c23 => ?_)
    · have ct : 0 ≤ a ∧ a < nI (64 * s) := by by_cases h : 0 ≤ a ∧ a < nI (64 * s); exact h; exact absurd (by simp [h, b2i]) c23
      refine E_aload_n d_MOD_reach_33 rfl rfl ?_
      refine L_gi d_MOD_reach_34 f_MOD_100 rfl (by decide) rfl (fr_M 0 27) ?_
      exact E_ireturn d_MOD_reach_37 (Or.inr ⟨rfl, Or.inr hgo⟩) rfl ⟨_, rfl, by rw [rchM, if_pos c3, if_pos ct], by rw [rchM, if_pos c3, if_pos ct]⟩
    · have ct : ¬ (0 ≤ a ∧ a < nI (64 * s)) := fun h => by simp [h, b2i] at c23
      refine E_aload_n d_MOD_reach_26 rfl rfl ?_
      refine E_iload_n d_MOD_reach_27 rfl ?_
      refine E_iconst (v := 1) d_MOD_reach_28 (by decide) ?_
      refine E_iadd d_MOD_reach_29 ?_
      refine E_V1v d_MOD_reach_30 w_MOD_128 rfl (by decide) (Nat.le_of_ble_eq_true rfl) (c_MOD_fault hp hp8 hm hm9) ?_
      rintro _ rfl
      refine E_aload_n d_MOD_reach_33 rfl rfl ?_
      refine L_gi d_MOD_reach_34 f_MOD_100 rfl (by decide) rfl (fr_M 0 27) ?_
      exact E_ireturn d_MOD_reach_37 (Or.inr ⟨rfl, Or.inl (endM_27 _ _ hp)⟩) rfl ⟨_, rfl, by rw [rchM, if_pos c3, if_neg ct], by rw [rchM, if_pos c3, if_neg ct]⟩
  · refine E_aload_n d_MOD_reach_6 rfl rfl ?_
    refine E_iload_n d_MOD_reach_7 rfl ?_
    refine E_V1v d_MOD_reach_8 w_MOD_128 rfl (by decide) (Nat.le_of_ble_eq_true rfl) (c_MOD_fault hp hp8 hm hm9) ?_
    rintro _ rfl
    refine E_goto (tgt := 33) d_MOD_reach_11 (by decide) ?_
    refine E_aload_n d_MOD_reach_33 rfl rfl ?_
    refine L_gi d_MOD_reach_34 f_MOD_100 rfl (by decide) rfl (fr_M 0 27) ?_
    exact E_ireturn d_MOD_reach_37 (Or.inr ⟨rfl, Or.inl (endM_27 _ _ hp)⟩) rfl ⟨_, rfl, by rw [rchM, if_neg c3], by rw [rchM, if_neg c3]⟩
end
section
/-! ===== the reference's bytes ===== -/
def nv (x : Int32) : Nat := x.toNatClampNeg
theorem nv_nI {n : Nat} (h : n < 2 ^ 31) : nv (nI n) = n := nI_clamp h
def cel (M : Nat → Nat → Int32) (p a : Nat) : Nat := 16 * nv (M 10 (8 * p + a / 64)) + a % 64 / 4
def byt (M : Nat → Nat → Int32) (p a : Nat) : Int32 := (M 1 (cel M p a) >>> (nI (8 * (a % 4)) &&& 31)) &&& 255
def rdv (b : Nat → Int32) : Nat → Int32 → Int32
  | 0, v => v
  | k + 1, v => rdv b k ((v <<< (8 &&& 31)) ||| b k)
def adr (M : Nat → Nat → Int32) (p : Nat) : Int32 := M 9 (32 * p + bf (M 0 25) 15 5) + (M 0 25 >>> (20 &&& 31))
def nof (f : Nat) : Nat := if f % 4 = 0 then 1 else if f % 4 = 1 then 2 else 4
def rdx (M : Nat → Nat → Int32) (p f n a : Nat) : Int32 := if f < 3 then (rdv (fun k => byt M p (a + k)) n 0 <<< ((32 - 8 * nI n) &&& 31)) >>> ((32 - 8 * nI n) &&& 31) else rdv (fun k => byt M p (a + k)) n 0
def okA (a : Int32) (n s : Nat) : Prop := a - a / nI n * nI n = 0 ∧ 0 ≤ a ∧ a < nI (64 * s)
def redF (M : Nat → Nat → Int32) (p s m f n : Nat) (a : Int32) : Nat → Nat → Int32 := if f = 3 ∨ 5 < f then endM M p (128 + 2) m else if a - a / nI n * nI n = 0 ∧ 0 ≤ a ∧ a < nI (64 * s) then setM M p (bf (M 0 25) 7 5) (rdx M p f n (nv a)) else rchM M p a (nI n) 4 s m
def redM (M : Nat → Nat → Int32) (p s m : Nat) : Nat → Nat → Int32 := redF M p s m (bf (M 0 25) 12 3) (nof (bf (M 0 25) 12 3)) (adr M p)
theorem redF_bad {M : Nat → Nat → Int32} {p s m f n : Nat} {a : Int32} (h : f = 3 ∨ 5 < f) : redF M p s m f n a = endM M p (128 + 2) m := if_pos h
theorem redF_ok {M : Nat → Nat → Int32} {p s m f n : Nat} {a : Int32} (h : ¬ (f = 3 ∨ 5 < f)) (ho : okA a n s) : redF M p s m f n a = setM M p (bf (M 0 25) 7 5) (rdx M p f n (nv a)) := (if_neg h).trans (if_pos ho)
theorem redF_no {M : Nat → Nat → Int32} {p s m f n : Nat} {a : Int32} (h : ¬ (f = 3 ∨ 5 < f)) (ho : ¬ okA a n s) : redF M p s m f n a = rchM M p a (nI n) 4 s m := (if_neg h).trans (if_neg ho)
theorem rch_ok {M : Nat → Nat → Int32} {p : Nat} {a code : Int32} {n s m : Nat} (h : okA a n s) : rchM M p a (nI n) code s m = M := (if_pos h.1).trans (if_pos h.2)
theorem rch_no {M : Nat → Nat → Int32} {p : Nat} {a code : Int32} {n s m : Nat} (h : ¬ okA a n s) (hp : M 0 24 = nI p) : rchM M p a (nI n) code s m 0 27 = 0 := by
  unfold rchM
  split
  · rename_i h1
    rw [if_neg (fun q => h ⟨h1, q⟩)]
    exact endM_27 _ _ hp
  · exact endM_27 _ _ hp
/-- every page of p's lies in a frame -/
def pgs (M : Nat → Nat → Int32) (p s : Nat) : Prop := ∀ k, k < s → ∃ f, f < 40 ∧ M 10 (8 * p + k) = nI f
theorem okA_of {a : Int32} {n s : Nat} (h : okA a n s) (hn : 0 < n) (hn4 : n ≤ 4) (hs : s ≤ 8) : ∃ b : Nat, b < 64 * s ∧ a = nI b ∧ b % n = 0 := by
  obtain ⟨h1, h2, h3⟩ := h
  rcases pk_ix a (n := 64 * s) (by omega) with q | q | ⟨b, hb, rfl⟩
  · exact absurd q (Int32.not_lt.mpr h2)
  · exact absurd h3 (Int32.not_lt.mpr q)
  · refine ⟨b, hb, rfl, ?_⟩
    rw [pk_rem (by omega) hn (by omega)] at h1
    have hlt := Nat.mod_lt b hn
    exact (nI_eq (b := 0) (by omega) (by decide)).mp h1
def pbM (M : Nat → Nat → Int32) (p a : Nat) (b : Int32) : Nat → Nat → Int32 := up2 M 1 (cel M p a) ((M 1 (cel M p a) &&& (((255 : Int32) <<< (nI (8 * (a % 4)) &&& 31)) ^^^ -1)) ||| ((b &&& 255) <<< (nI (8 * (a % 4)) &&& 31)))
def pbs (M : Nat → Nat → Int32) (p a : Nat) (v : Int32) : Nat → Nat → Nat → Int32
  | 0 => M
  | k + 1 => pbM (pbs M p a v k) p (a + k) (v >>> (nI (8 * k) &&& 31))
def adw (M : Nat → Nat → Int32) (p : Nat) : Int32 := M 9 (32 * p + bf (M 0 25) 15 5) + (((M 0 25 >>> (25 &&& 31)) <<< (5 &&& 31)) ||| nI (bf (M 0 25) 7 5))
def now (f : Nat) : Nat := if f = 0 then 1 else if f = 1 then 2 else 4
def wrtF (M : Nat → Nat → Int32) (p s m f n : Nat) (a v : Int32) : Nat → Nat → Int32 := if 2 < f then endM M p (128 + 2) m else if a - a / nI n * nI n = 0 ∧ 0 ≤ a ∧ a < nI (64 * s) then pbs M p (nv a) v n else rchM M p a (nI n) 6 s m
def wrtM (M : Nat → Nat → Int32) (p s m : Nat) : Nat → Nat → Int32 := wrtF M p s m (bf (M 0 25) 12 3) (now (bf (M 0 25) 12 3)) (adw M p) (M 9 (32 * p + bf (M 0 25) 20 5))
theorem wrtF_bad {M : Nat → Nat → Int32} {p s m f n : Nat} {a v : Int32} (h : 2 < f) : wrtF M p s m f n a v = endM M p (128 + 2) m := if_pos h
theorem wrtF_ok {M : Nat → Nat → Int32} {p s m f n : Nat} {a v : Int32} (h : ¬ 2 < f) (ho : okA a n s) : wrtF M p s m f n a v = pbs M p (nv a) v n := (if_neg h).trans (if_pos ho)
theorem wrtF_no {M : Nat → Nat → Int32} {p s m f n : Nat} {a v : Int32} (h : ¬ 2 < f) (ho : ¬ okA a n s) : wrtF M p s m f n a v = rchM M p a (nI n) 6 s m := (if_neg h).trans (if_neg ho)
theorem pgs_pb {M : Nat → Nat → Int32} {p s q a : Nat} {b : Int32} (h : pgs M p s) : pgs (pbM M q a b) p s := fun k hk => by
  obtain ⟨f, h1, h2⟩ := h k hk
  exact ⟨f, h1, by rw [pbM, up2_ne2 _ _ _ _ (by decide)]; exact h2⟩
end
section
/-! ===== the reference's read and write ===== -/
theorem c_byteAt {G : iG} {F : Nat} {C M : Nat → Nat → Int32} {p s a : Nat} (hp : p ≤ 8) (hs : s ≤ 8) (ha : a < 64 * s) (hpg : pgs M p s) : MI G m_MOD_byteAt 1 [vR 50, vI (nI p), vI (nI a)] (HW F C M) (fun x h' => x = byt M p a ∧ h' = HW F C M) := by
  obtain ⟨f, hf40, hf⟩ := hpg (a / 64) (by omega)
  have e : byt M p a = (M 1 (16 * f + a % 64 / 4) >>> (nI (8 * (a % 4)) &&& 31)) &&& 255 := by rw [byt, cel, hf, nv_nI (by omega)]
  rw [e]
  exact c_MOD_byteAt hp hs ha hf hf40
theorem c_putByte {G : iG} {F : Nat} {C M : Nat → Nat → Int32} {p s a : Nat} {b : Int32} (hp : p ≤ 8) (hs : s ≤ 8) (ha : a < 64 * s) (hpg : pgs M p s) : MV G m_MOD_putByte 1 [vR 50, vI (nI p), vI (nI a), vI b] (HW F C M) (fun h' => h' = HW F C (pbM M p a b)) := by
  obtain ⟨f, hf40, hf⟩ := hpg (a / 64) (by omega)
  have e : cel M p a = 16 * f + a % 64 / 4 := by rw [cel, hf, nv_nI (by omega)]
  rw [pbM, e]
  exact c_MOD_putByte hp hs ha hf hf40
theorem c_MOD_read {G : iG} {F : Nat} {C M : Nat → Nat → Int32} {p m s : Nat} (hp : M 0 24 = nI p) (hp8 : p ≤ 8) (hm : M 0 15 = nI m) (hm9 : m ≤ 9) (hs : M 8 p = nI s) (hs8 : s ≤ 8) (hpg : pgs M p s) (hgo : M 0 27 = 1) : MV G m_MOD_read 5 [vR 50] (HW F C M) (fun h' => h' = HW F C (redM M p s m)) := by
  refine Mt.of' (Ls := [some (vR 50), none, none, none, none, none]) (by decide) (by simp [ct]) (Nat.le_of_ble_eq_true rfl) rfl ?_
  obtain ⟨f, hf⟩ : ∃ f, f = bf (M 0 25) 12 3 := ⟨_, rfl⟩
  have hf8 : f < 8 := by rw [hf]; exact bf_lt _ _ 3
  obtain ⟨a, ea⟩ : ∃ a, a = adr M p := ⟨_, rfl⟩
  refine E_aload_n d_MOD_read_0 rfl rfl ?_
  refine E_bipush (v := 12) d_MOD_read_1 (by decide) ?_
  refine E_iconst (v := 3) d_MOD_read_3 (by decide) ?_
  refine E_V2i d_MOD_read_4 w_MOD_110 rfl (by decide) (Nat.le_of_ble_eq_true rfl) (c_MOD_bits (a := 12) (k := 3) (by decide) (by decide) (by decide)) ?_
  rintro _ _ ⟨rfl, rfl⟩
  rw [← hf]
  refine E_istore_n d_MOD_read_7 (by decide) ?_
  refine E_aload_n d_MOD_read_8 rfl rfl ?_
  refine E_V0i d_MOD_read_9 w_MOD_141 rfl (by decide) (Nat.le_of_ble_eq_true rfl) (c_MOD_s hp hp8) ?_
  rintro _ _ ⟨rfl, rfl⟩
  refine E_aload_n d_MOD_read_12 rfl rfl ?_
  refine L_gi d_MOD_read_13 f_MOD_107 rfl (by decide) rfl (fr_M 0 25) ?_
  refine E_bipush (v := 20) d_MOD_read_16 (by decide) ?_
  refine E_ishr d_MOD_read_18 ?_
  refine E_iadd d_MOD_read_19 ?_
  refine E_tp (y := a) ea.symm ?_
  refine E_istore_n d_MOD_read_20 (by decide) ?_
  rcases (show f = 0 ∨ f = 1 ∨ f = 2 ∨ f = 3 ∨ f = 4 ∨ f = 5 ∨ f = 6 ∨ f = 7 by omega) with rfl | rfl | rfl | rfl | rfl | rfl | rfl | rfl
  · refine E_iload_n d_MOD_read_21 rfl ?_
    refine E_iconst (v := 4) d_MOD_read_22 (by decide) ?_
    refine E_irem d_MOD_read_23 (by decide) ?_
    refine E_tp (y := 0) (by decide) ?_
    refine E_if_ne (tgt := 31) d_MOD_read_24 (by decide) (fun c => absurd (by decide) c) (fun _ => ?_)
    refine E_iconst (v := 1) d_MOD_read_27 (by decide) ?_
    refine E_goto (tgt := 43) d_MOD_read_28 (by decide) ?_
    refine E_istore_n d_MOD_read_43 (by decide) ?_
    refine E_iload_n d_MOD_read_44 rfl ?_
    refine E_iconst (v := 3) d_MOD_read_45 (by decide) ?_
    refine E_icmp_eq (tgt := 54) d_MOD_read_46 (by decide) (fun c => absurd c (by decide)) (fun _ => ?_)
    refine E_iload_n d_MOD_read_49 rfl ?_
    refine E_iconst (v := 5) d_MOD_read_50 (by decide) ?_
    refine E_icmp_le (tgt := 60) d_MOD_read_51 (by decide) (fun _ => ?_) (fun c => absurd (by decide) c)
    by_cases hok : okA a 1 s
    · have er : rchM M p a 1 4 s m = M := rch_ok (n := 1) hok
      obtain ⟨b, hb, eb, hal⟩ := okA_of hok (by decide) (by decide) hs8
      subst eb
      refine E_aload_n d_MOD_read_60 rfl rfl ?_
      refine E_iload_n d_MOD_read_61 rfl ?_
      refine E_iload_n d_MOD_read_62 rfl ?_
      refine E_iconst (v := 4) d_MOD_read_63 (by decide) ?_
      refine E_V3i d_MOD_read_64 w_MOD_168 rfl (by decide) (Nat.le_of_ble_eq_true rfl) (c_MOD_reach hp hp8 hm hm9 hs (by decide) hgo) ?_
      rintro _ _ ⟨rfl, rfl⟩
      rw [er]
      refine E_tp (y := nI (1)) hgo ?_
      refine E_if_ne (tgt := 71) d_MOD_read_67 (by decide) (fun _ => ?_) (fun c => absurd c (by decide))
      refine E_iconst (v := 0) d_MOD_read_71 (by decide) ?_
      refine E_istore d_MOD_read_72 (by decide) ?_
      refine E_iload_n d_MOD_read_74 rfl ?_
      refine E_iconst (v := 1) d_MOD_read_75 (by decide) ?_
      refine E_isub d_MOD_read_76 ?_
      refine E_tp (y := 0) (by decide) ?_
      refine E_istore d_MOD_read_77 (by decide) ?_
      refine E_iload d_MOD_read_79 rfl ?_
      refine E_if_lt (tgt := 110) d_MOD_read_81 (by decide) (fun c => absurd c (by decide)) (fun _ => ?_)
      refine E_iload d_MOD_read_84 rfl ?_
      refine E_bipush (v := 8) d_MOD_read_86 (by decide) ?_
      refine E_ishl d_MOD_read_88 ?_
      refine E_aload_n d_MOD_read_89 rfl rfl ?_
      refine E_aload_n d_MOD_read_90 rfl rfl ?_
      refine L_gi d_MOD_read_91 f_MOD_97 rfl (by decide) rfl (fr_M 0 24) ?_
      refine E_tp (y := nI (p)) hp ?_
      refine E_iload_n d_MOD_read_94 rfl ?_
      refine E_iload d_MOD_read_95 rfl ?_
      refine E_iadd d_MOD_read_97 ?_
      refine E_tp (y := nI (b + 0)) (nI_add b 0) ?_
      refine E_V2i d_MOD_read_98 w_MOD_172 rfl (by decide) (Nat.le_of_ble_eq_true rfl) (c_byteAt hp8 hs8 (by omega) hpg) ?_
      rintro _ _ ⟨rfl, rfl⟩
      refine E_ior d_MOD_read_101 ?_
      refine E_istore d_MOD_read_102 (by decide) ?_
      refine E_iinc (v := -1) d_MOD_read_104 rfl (by decide) (by decide) ?_
      refine E_goto (tgt := 79) d_MOD_read_107 (by decide) ?_
      refine E_iload d_MOD_read_79 rfl ?_
      refine E_if_lt (tgt := 110) d_MOD_read_81 (by decide) (fun _ => ?_) (fun c => absurd (by decide) c)
      refine E_bipush (v := 32) d_MOD_read_110 (by decide) ?_
      refine E_bipush (v := 8) d_MOD_read_112 (by decide) ?_
      refine E_iload_n d_MOD_read_114 rfl ?_
      refine E_imul d_MOD_read_115 ?_
      refine E_tp (y := nI (8)) (pk_mul 8 1) ?_
      refine E_isub d_MOD_read_116 ?_
      refine E_tp (y := 24) (by decide) ?_
      refine E_istore d_MOD_read_117 (by decide) ?_
      refine E_aload_n d_MOD_read_119 rfl rfl ?_
      refine E_aload_n d_MOD_read_120 rfl rfl ?_
      refine E_V0i d_MOD_read_121 w_MOD_131 rfl (by decide) (Nat.le_of_ble_eq_true rfl) (c_MOD_d) ?_
      rintro _ _ ⟨rfl, rfl⟩
      refine E_iload_n d_MOD_read_124 rfl ?_
      refine E_iconst (v := 3) d_MOD_read_125 (by decide) ?_
      refine E_icmp_ge (tgt := 140) d_MOD_read_126 (by decide) (fun c => absurd c (by decide)) (fun _ => ?_)
      refine E_iload d_MOD_read_129 rfl ?_
      refine E_iload d_MOD_read_131 rfl ?_
      refine E_ishl d_MOD_read_133 ?_
      refine E_iload d_MOD_read_134 rfl ?_
      refine E_ishr d_MOD_read_136 ?_
      refine E_goto (tgt := 142) d_MOD_read_137 (by decide) ?_
      refine E_V2v d_MOD_read_142 w_MOD_135 rfl (by decide) (Nat.le_of_ble_eq_true rfl) (c_MOD_set hp hp8 (bf_lt _ _ 5)) ?_
      rintro _ rfl
      exact E_return d_MOD_read_145 rfl rfl ⟨rfl, by rw [redM, ← hf, ← ea, show nof 0 = 1 from rfl, redF_ok (by decide) hok, nv_nI (by omega)]; rfl⟩
    · have er : rchM M p a 1 4 s m 0 27 = 0 := rch_no (n := 1) hok hp
      refine E_aload_n d_MOD_read_60 rfl rfl ?_
      refine E_iload_n d_MOD_read_61 rfl ?_
      refine E_iload_n d_MOD_read_62 rfl ?_
      refine E_iconst (v := 4) d_MOD_read_63 (by decide) ?_
      refine E_V3i d_MOD_read_64 w_MOD_168 rfl (by decide) (Nat.le_of_ble_eq_true rfl) (c_MOD_reach hp hp8 hm hm9 hs (by decide) hgo) ?_
      rintro _ _ ⟨rfl, rfl⟩
      refine E_tp (y := nI (0)) er ?_
      refine E_if_ne (tgt := 71) d_MOD_read_67 (by decide) (fun c => absurd (by decide) c) (fun _ => ?_)
      exact E_return d_MOD_read_70 rfl rfl ⟨rfl, by rw [redM, ← hf, ← ea, show nof 0 = 1 from rfl, redF_no (by decide) hok]; rfl⟩
  · refine E_iload_n d_MOD_read_21 rfl ?_
    refine E_iconst (v := 4) d_MOD_read_22 (by decide) ?_
    refine E_irem d_MOD_read_23 (by decide) ?_
    refine E_tp (y := 1) (by decide) ?_
    refine E_if_ne (tgt := 31) d_MOD_read_24 (by decide) (fun _ => ?_) (fun c => absurd c (by decide))
    refine E_iload_n d_MOD_read_31 rfl ?_
    refine E_iconst (v := 4) d_MOD_read_32 (by decide) ?_
    refine E_irem d_MOD_read_33 (by decide) ?_
    refine E_tp (y := 1) (by decide) ?_
    refine E_iconst (v := 1) d_MOD_read_34 (by decide) ?_
    refine E_icmp_ne (tgt := 42) d_MOD_read_35 (by decide) (fun c => absurd (by decide) c) (fun _ => ?_)
    refine E_iconst (v := 2) d_MOD_read_38 (by decide) ?_
    refine E_goto (tgt := 43) d_MOD_read_39 (by decide) ?_
    refine E_istore_n d_MOD_read_43 (by decide) ?_
    refine E_iload_n d_MOD_read_44 rfl ?_
    refine E_iconst (v := 3) d_MOD_read_45 (by decide) ?_
    refine E_icmp_eq (tgt := 54) d_MOD_read_46 (by decide) (fun c => absurd c (by decide)) (fun _ => ?_)
    refine E_iload_n d_MOD_read_49 rfl ?_
    refine E_iconst (v := 5) d_MOD_read_50 (by decide) ?_
    refine E_icmp_le (tgt := 60) d_MOD_read_51 (by decide) (fun _ => ?_) (fun c => absurd (by decide) c)
    by_cases hok : okA a 2 s
    · have er : rchM M p a 2 4 s m = M := rch_ok (n := 2) hok
      obtain ⟨b, hb, eb, hal⟩ := okA_of hok (by decide) (by decide) hs8
      subst eb
      refine E_aload_n d_MOD_read_60 rfl rfl ?_
      refine E_iload_n d_MOD_read_61 rfl ?_
      refine E_iload_n d_MOD_read_62 rfl ?_
      refine E_iconst (v := 4) d_MOD_read_63 (by decide) ?_
      refine E_V3i d_MOD_read_64 w_MOD_168 rfl (by decide) (Nat.le_of_ble_eq_true rfl) (c_MOD_reach hp hp8 hm hm9 hs (by decide) hgo) ?_
      rintro _ _ ⟨rfl, rfl⟩
      rw [er]
      refine E_tp (y := nI (1)) hgo ?_
      refine E_if_ne (tgt := 71) d_MOD_read_67 (by decide) (fun _ => ?_) (fun c => absurd c (by decide))
      refine E_iconst (v := 0) d_MOD_read_71 (by decide) ?_
      refine E_istore d_MOD_read_72 (by decide) ?_
      refine E_iload_n d_MOD_read_74 rfl ?_
      refine E_iconst (v := 1) d_MOD_read_75 (by decide) ?_
      refine E_isub d_MOD_read_76 ?_
      refine E_tp (y := 1) (by decide) ?_
      refine E_istore d_MOD_read_77 (by decide) ?_
      refine E_iload d_MOD_read_79 rfl ?_
      refine E_if_lt (tgt := 110) d_MOD_read_81 (by decide) (fun c => absurd c (by decide)) (fun _ => ?_)
      refine E_iload d_MOD_read_84 rfl ?_
      refine E_bipush (v := 8) d_MOD_read_86 (by decide) ?_
      refine E_ishl d_MOD_read_88 ?_
      refine E_aload_n d_MOD_read_89 rfl rfl ?_
      refine E_aload_n d_MOD_read_90 rfl rfl ?_
      refine L_gi d_MOD_read_91 f_MOD_97 rfl (by decide) rfl (fr_M 0 24) ?_
      refine E_tp (y := nI (p)) hp ?_
      refine E_iload_n d_MOD_read_94 rfl ?_
      refine E_iload d_MOD_read_95 rfl ?_
      refine E_iadd d_MOD_read_97 ?_
      refine E_tp (y := nI (b + 1)) (nI_add b 1) ?_
      refine E_V2i d_MOD_read_98 w_MOD_172 rfl (by decide) (Nat.le_of_ble_eq_true rfl) (c_byteAt hp8 hs8 (by omega) hpg) ?_
      rintro _ _ ⟨rfl, rfl⟩
      refine E_ior d_MOD_read_101 ?_
      refine E_istore d_MOD_read_102 (by decide) ?_
      refine E_iinc (v := 0) d_MOD_read_104 rfl (by decide) (by decide) ?_
      refine E_goto (tgt := 79) d_MOD_read_107 (by decide) ?_
      refine E_iload d_MOD_read_79 rfl ?_
      refine E_if_lt (tgt := 110) d_MOD_read_81 (by decide) (fun c => absurd c (by decide)) (fun _ => ?_)
      refine E_iload d_MOD_read_84 rfl ?_
      refine E_bipush (v := 8) d_MOD_read_86 (by decide) ?_
      refine E_ishl d_MOD_read_88 ?_
      refine E_aload_n d_MOD_read_89 rfl rfl ?_
      refine E_aload_n d_MOD_read_90 rfl rfl ?_
      refine L_gi d_MOD_read_91 f_MOD_97 rfl (by decide) rfl (fr_M 0 24) ?_
      refine E_tp (y := nI (p)) hp ?_
      refine E_iload_n d_MOD_read_94 rfl ?_
      refine E_iload d_MOD_read_95 rfl ?_
      refine E_iadd d_MOD_read_97 ?_
      refine E_tp (y := nI (b + 0)) (nI_add b 0) ?_
      refine E_V2i d_MOD_read_98 w_MOD_172 rfl (by decide) (Nat.le_of_ble_eq_true rfl) (c_byteAt hp8 hs8 (by omega) hpg) ?_
      rintro _ _ ⟨rfl, rfl⟩
      refine E_ior d_MOD_read_101 ?_
      refine E_istore d_MOD_read_102 (by decide) ?_
      refine E_iinc (v := -1) d_MOD_read_104 rfl (by decide) (by decide) ?_
      refine E_goto (tgt := 79) d_MOD_read_107 (by decide) ?_
      refine E_iload d_MOD_read_79 rfl ?_
      refine E_if_lt (tgt := 110) d_MOD_read_81 (by decide) (fun _ => ?_) (fun c => absurd (by decide) c)
      refine E_bipush (v := 32) d_MOD_read_110 (by decide) ?_
      refine E_bipush (v := 8) d_MOD_read_112 (by decide) ?_
      refine E_iload_n d_MOD_read_114 rfl ?_
      refine E_imul d_MOD_read_115 ?_
      refine E_tp (y := nI (16)) (pk_mul 8 2) ?_
      refine E_isub d_MOD_read_116 ?_
      refine E_tp (y := 16) (by decide) ?_
      refine E_istore d_MOD_read_117 (by decide) ?_
      refine E_aload_n d_MOD_read_119 rfl rfl ?_
      refine E_aload_n d_MOD_read_120 rfl rfl ?_
      refine E_V0i d_MOD_read_121 w_MOD_131 rfl (by decide) (Nat.le_of_ble_eq_true rfl) (c_MOD_d) ?_
      rintro _ _ ⟨rfl, rfl⟩
      refine E_iload_n d_MOD_read_124 rfl ?_
      refine E_iconst (v := 3) d_MOD_read_125 (by decide) ?_
      refine E_icmp_ge (tgt := 140) d_MOD_read_126 (by decide) (fun c => absurd c (by decide)) (fun _ => ?_)
      refine E_iload d_MOD_read_129 rfl ?_
      refine E_iload d_MOD_read_131 rfl ?_
      refine E_ishl d_MOD_read_133 ?_
      refine E_iload d_MOD_read_134 rfl ?_
      refine E_ishr d_MOD_read_136 ?_
      refine E_goto (tgt := 142) d_MOD_read_137 (by decide) ?_
      refine E_V2v d_MOD_read_142 w_MOD_135 rfl (by decide) (Nat.le_of_ble_eq_true rfl) (c_MOD_set hp hp8 (bf_lt _ _ 5)) ?_
      rintro _ rfl
      exact E_return d_MOD_read_145 rfl rfl ⟨rfl, by rw [redM, ← hf, ← ea, show nof 1 = 2 from rfl, redF_ok (by decide) hok, nv_nI (by omega)]; rfl⟩
    · have er : rchM M p a 2 4 s m 0 27 = 0 := rch_no (n := 2) hok hp
      refine E_aload_n d_MOD_read_60 rfl rfl ?_
      refine E_iload_n d_MOD_read_61 rfl ?_
      refine E_iload_n d_MOD_read_62 rfl ?_
      refine E_iconst (v := 4) d_MOD_read_63 (by decide) ?_
      refine E_V3i d_MOD_read_64 w_MOD_168 rfl (by decide) (Nat.le_of_ble_eq_true rfl) (c_MOD_reach hp hp8 hm hm9 hs (by decide) hgo) ?_
      rintro _ _ ⟨rfl, rfl⟩
      refine E_tp (y := nI (0)) er ?_
      refine E_if_ne (tgt := 71) d_MOD_read_67 (by decide) (fun c => absurd (by decide) c) (fun _ => ?_)
      exact E_return d_MOD_read_70 rfl rfl ⟨rfl, by rw [redM, ← hf, ← ea, show nof 1 = 2 from rfl, redF_no (by decide) hok]; rfl⟩
  · refine E_iload_n d_MOD_read_21 rfl ?_
    refine E_iconst (v := 4) d_MOD_read_22 (by decide) ?_
    refine E_irem d_MOD_read_23 (by decide) ?_
    refine E_tp (y := 2) (by decide) ?_
    refine E_if_ne (tgt := 31) d_MOD_read_24 (by decide) (fun _ => ?_) (fun c => absurd c (by decide))
    refine E_iload_n d_MOD_read_31 rfl ?_
    refine E_iconst (v := 4) d_MOD_read_32 (by decide) ?_
    refine E_irem d_MOD_read_33 (by decide) ?_
    refine E_tp (y := 2) (by decide) ?_
    refine E_iconst (v := 1) d_MOD_read_34 (by decide) ?_
    refine E_icmp_ne (tgt := 42) d_MOD_read_35 (by decide) (fun _ => ?_) (fun c => absurd c (by decide))
    refine E_iconst (v := 4) d_MOD_read_42 (by decide) ?_
    refine E_istore_n d_MOD_read_43 (by decide) ?_
    refine E_iload_n d_MOD_read_44 rfl ?_
    refine E_iconst (v := 3) d_MOD_read_45 (by decide) ?_
    refine E_icmp_eq (tgt := 54) d_MOD_read_46 (by decide) (fun c => absurd c (by decide)) (fun _ => ?_)
    refine E_iload_n d_MOD_read_49 rfl ?_
    refine E_iconst (v := 5) d_MOD_read_50 (by decide) ?_
    refine E_icmp_le (tgt := 60) d_MOD_read_51 (by decide) (fun _ => ?_) (fun c => absurd (by decide) c)
    by_cases hok : okA a 4 s
    · have er : rchM M p a 4 4 s m = M := rch_ok (n := 4) hok
      obtain ⟨b, hb, eb, hal⟩ := okA_of hok (by decide) (by decide) hs8
      subst eb
      refine E_aload_n d_MOD_read_60 rfl rfl ?_
      refine E_iload_n d_MOD_read_61 rfl ?_
      refine E_iload_n d_MOD_read_62 rfl ?_
      refine E_iconst (v := 4) d_MOD_read_63 (by decide) ?_
      refine E_V3i d_MOD_read_64 w_MOD_168 rfl (by decide) (Nat.le_of_ble_eq_true rfl) (c_MOD_reach hp hp8 hm hm9 hs (by decide) hgo) ?_
      rintro _ _ ⟨rfl, rfl⟩
      rw [er]
      refine E_tp (y := nI (1)) hgo ?_
      refine E_if_ne (tgt := 71) d_MOD_read_67 (by decide) (fun _ => ?_) (fun c => absurd c (by decide))
      refine E_iconst (v := 0) d_MOD_read_71 (by decide) ?_
      refine E_istore d_MOD_read_72 (by decide) ?_
      refine E_iload_n d_MOD_read_74 rfl ?_
      refine E_iconst (v := 1) d_MOD_read_75 (by decide) ?_
      refine E_isub d_MOD_read_76 ?_
      refine E_tp (y := 3) (by decide) ?_
      refine E_istore d_MOD_read_77 (by decide) ?_
      refine E_iload d_MOD_read_79 rfl ?_
      refine E_if_lt (tgt := 110) d_MOD_read_81 (by decide) (fun c => absurd c (by decide)) (fun _ => ?_)
      refine E_iload d_MOD_read_84 rfl ?_
      refine E_bipush (v := 8) d_MOD_read_86 (by decide) ?_
      refine E_ishl d_MOD_read_88 ?_
      refine E_aload_n d_MOD_read_89 rfl rfl ?_
      refine E_aload_n d_MOD_read_90 rfl rfl ?_
      refine L_gi d_MOD_read_91 f_MOD_97 rfl (by decide) rfl (fr_M 0 24) ?_
      refine E_tp (y := nI (p)) hp ?_
      refine E_iload_n d_MOD_read_94 rfl ?_
      refine E_iload d_MOD_read_95 rfl ?_
      refine E_iadd d_MOD_read_97 ?_
      refine E_tp (y := nI (b + 3)) (nI_add b 3) ?_
      refine E_V2i d_MOD_read_98 w_MOD_172 rfl (by decide) (Nat.le_of_ble_eq_true rfl) (c_byteAt hp8 hs8 (by omega) hpg) ?_
      rintro _ _ ⟨rfl, rfl⟩
      refine E_ior d_MOD_read_101 ?_
      refine E_istore d_MOD_read_102 (by decide) ?_
      refine E_iinc (v := 2) d_MOD_read_104 rfl (by decide) (by decide) ?_
      refine E_goto (tgt := 79) d_MOD_read_107 (by decide) ?_
      refine E_iload d_MOD_read_79 rfl ?_
      refine E_if_lt (tgt := 110) d_MOD_read_81 (by decide) (fun c => absurd c (by decide)) (fun _ => ?_)
      refine E_iload d_MOD_read_84 rfl ?_
      refine E_bipush (v := 8) d_MOD_read_86 (by decide) ?_
      refine E_ishl d_MOD_read_88 ?_
      refine E_aload_n d_MOD_read_89 rfl rfl ?_
      refine E_aload_n d_MOD_read_90 rfl rfl ?_
      refine L_gi d_MOD_read_91 f_MOD_97 rfl (by decide) rfl (fr_M 0 24) ?_
      refine E_tp (y := nI (p)) hp ?_
      refine E_iload_n d_MOD_read_94 rfl ?_
      refine E_iload d_MOD_read_95 rfl ?_
      refine E_iadd d_MOD_read_97 ?_
      refine E_tp (y := nI (b + 2)) (nI_add b 2) ?_
      refine E_V2i d_MOD_read_98 w_MOD_172 rfl (by decide) (Nat.le_of_ble_eq_true rfl) (c_byteAt hp8 hs8 (by omega) hpg) ?_
      rintro _ _ ⟨rfl, rfl⟩
      refine E_ior d_MOD_read_101 ?_
      refine E_istore d_MOD_read_102 (by decide) ?_
      refine E_iinc (v := 1) d_MOD_read_104 rfl (by decide) (by decide) ?_
      refine E_goto (tgt := 79) d_MOD_read_107 (by decide) ?_
      refine E_iload d_MOD_read_79 rfl ?_
      refine E_if_lt (tgt := 110) d_MOD_read_81 (by decide) (fun c => absurd c (by decide)) (fun _ => ?_)
      refine E_iload d_MOD_read_84 rfl ?_
      refine E_bipush (v := 8) d_MOD_read_86 (by decide) ?_
      refine E_ishl d_MOD_read_88 ?_
      refine E_aload_n d_MOD_read_89 rfl rfl ?_
      refine E_aload_n d_MOD_read_90 rfl rfl ?_
      refine L_gi d_MOD_read_91 f_MOD_97 rfl (by decide) rfl (fr_M 0 24) ?_
      refine E_tp (y := nI (p)) hp ?_
      refine E_iload_n d_MOD_read_94 rfl ?_
      refine E_iload d_MOD_read_95 rfl ?_
      refine E_iadd d_MOD_read_97 ?_
      refine E_tp (y := nI (b + 1)) (nI_add b 1) ?_
      refine E_V2i d_MOD_read_98 w_MOD_172 rfl (by decide) (Nat.le_of_ble_eq_true rfl) (c_byteAt hp8 hs8 (by omega) hpg) ?_
      rintro _ _ ⟨rfl, rfl⟩
      refine E_ior d_MOD_read_101 ?_
      refine E_istore d_MOD_read_102 (by decide) ?_
      refine E_iinc (v := 0) d_MOD_read_104 rfl (by decide) (by decide) ?_
      refine E_goto (tgt := 79) d_MOD_read_107 (by decide) ?_
      refine E_iload d_MOD_read_79 rfl ?_
      refine E_if_lt (tgt := 110) d_MOD_read_81 (by decide) (fun c => absurd c (by decide)) (fun _ => ?_)
      refine E_iload d_MOD_read_84 rfl ?_
      refine E_bipush (v := 8) d_MOD_read_86 (by decide) ?_
      refine E_ishl d_MOD_read_88 ?_
      refine E_aload_n d_MOD_read_89 rfl rfl ?_
      refine E_aload_n d_MOD_read_90 rfl rfl ?_
      refine L_gi d_MOD_read_91 f_MOD_97 rfl (by decide) rfl (fr_M 0 24) ?_
      refine E_tp (y := nI (p)) hp ?_
      refine E_iload_n d_MOD_read_94 rfl ?_
      refine E_iload d_MOD_read_95 rfl ?_
      refine E_iadd d_MOD_read_97 ?_
      refine E_tp (y := nI (b + 0)) (nI_add b 0) ?_
      refine E_V2i d_MOD_read_98 w_MOD_172 rfl (by decide) (Nat.le_of_ble_eq_true rfl) (c_byteAt hp8 hs8 (by omega) hpg) ?_
      rintro _ _ ⟨rfl, rfl⟩
      refine E_ior d_MOD_read_101 ?_
      refine E_istore d_MOD_read_102 (by decide) ?_
      refine E_iinc (v := -1) d_MOD_read_104 rfl (by decide) (by decide) ?_
      refine E_goto (tgt := 79) d_MOD_read_107 (by decide) ?_
      refine E_iload d_MOD_read_79 rfl ?_
      refine E_if_lt (tgt := 110) d_MOD_read_81 (by decide) (fun _ => ?_) (fun c => absurd (by decide) c)
      refine E_bipush (v := 32) d_MOD_read_110 (by decide) ?_
      refine E_bipush (v := 8) d_MOD_read_112 (by decide) ?_
      refine E_iload_n d_MOD_read_114 rfl ?_
      refine E_imul d_MOD_read_115 ?_
      refine E_tp (y := nI (32)) (pk_mul 8 4) ?_
      refine E_isub d_MOD_read_116 ?_
      refine E_tp (y := 0) (by decide) ?_
      refine E_istore d_MOD_read_117 (by decide) ?_
      refine E_aload_n d_MOD_read_119 rfl rfl ?_
      refine E_aload_n d_MOD_read_120 rfl rfl ?_
      refine E_V0i d_MOD_read_121 w_MOD_131 rfl (by decide) (Nat.le_of_ble_eq_true rfl) (c_MOD_d) ?_
      rintro _ _ ⟨rfl, rfl⟩
      refine E_iload_n d_MOD_read_124 rfl ?_
      refine E_iconst (v := 3) d_MOD_read_125 (by decide) ?_
      refine E_icmp_ge (tgt := 140) d_MOD_read_126 (by decide) (fun c => absurd c (by decide)) (fun _ => ?_)
      refine E_iload d_MOD_read_129 rfl ?_
      refine E_iload d_MOD_read_131 rfl ?_
      refine E_ishl d_MOD_read_133 ?_
      refine E_iload d_MOD_read_134 rfl ?_
      refine E_ishr d_MOD_read_136 ?_
      refine E_goto (tgt := 142) d_MOD_read_137 (by decide) ?_
      refine E_V2v d_MOD_read_142 w_MOD_135 rfl (by decide) (Nat.le_of_ble_eq_true rfl) (c_MOD_set hp hp8 (bf_lt _ _ 5)) ?_
      rintro _ rfl
      exact E_return d_MOD_read_145 rfl rfl ⟨rfl, by rw [redM, ← hf, ← ea, show nof 2 = 4 from rfl, redF_ok (by decide) hok, nv_nI (by omega)]; rfl⟩
    · have er : rchM M p a 4 4 s m 0 27 = 0 := rch_no (n := 4) hok hp
      refine E_aload_n d_MOD_read_60 rfl rfl ?_
      refine E_iload_n d_MOD_read_61 rfl ?_
      refine E_iload_n d_MOD_read_62 rfl ?_
      refine E_iconst (v := 4) d_MOD_read_63 (by decide) ?_
      refine E_V3i d_MOD_read_64 w_MOD_168 rfl (by decide) (Nat.le_of_ble_eq_true rfl) (c_MOD_reach hp hp8 hm hm9 hs (by decide) hgo) ?_
      rintro _ _ ⟨rfl, rfl⟩
      refine E_tp (y := nI (0)) er ?_
      refine E_if_ne (tgt := 71) d_MOD_read_67 (by decide) (fun c => absurd (by decide) c) (fun _ => ?_)
      exact E_return d_MOD_read_70 rfl rfl ⟨rfl, by rw [redM, ← hf, ← ea, show nof 2 = 4 from rfl, redF_no (by decide) hok]; rfl⟩
  · refine E_iload_n d_MOD_read_21 rfl ?_
    refine E_iconst (v := 4) d_MOD_read_22 (by decide) ?_
    refine E_irem d_MOD_read_23 (by decide) ?_
    refine E_tp (y := 3) (by decide) ?_
    refine E_if_ne (tgt := 31) d_MOD_read_24 (by decide) (fun _ => ?_) (fun c => absurd c (by decide))
    refine E_iload_n d_MOD_read_31 rfl ?_
    refine E_iconst (v := 4) d_MOD_read_32 (by decide) ?_
    refine E_irem d_MOD_read_33 (by decide) ?_
    refine E_tp (y := 3) (by decide) ?_
    refine E_iconst (v := 1) d_MOD_read_34 (by decide) ?_
    refine E_icmp_ne (tgt := 42) d_MOD_read_35 (by decide) (fun _ => ?_) (fun c => absurd c (by decide))
    refine E_iconst (v := 4) d_MOD_read_42 (by decide) ?_
    refine E_istore_n d_MOD_read_43 (by decide) ?_
    refine E_iload_n d_MOD_read_44 rfl ?_
    refine E_iconst (v := 3) d_MOD_read_45 (by decide) ?_
    refine E_icmp_eq (tgt := 54) d_MOD_read_46 (by decide) (fun _ => ?_) (fun c => absurd (by decide) c)
    refine E_aload_n d_MOD_read_54 rfl rfl ?_
    refine E_iconst (v := 2) d_MOD_read_55 (by decide) ?_
    refine E_V1v d_MOD_read_56 w_MOD_128 rfl (by decide) (Nat.le_of_ble_eq_true rfl) (c_MOD_fault hp hp8 hm hm9) ?_
    rintro _ rfl
    exact E_return d_MOD_read_59 rfl rfl ⟨rfl, by rw [redM, ← hf, redF_bad (by decide)]⟩
  · refine E_iload_n d_MOD_read_21 rfl ?_
    refine E_iconst (v := 4) d_MOD_read_22 (by decide) ?_
    refine E_irem d_MOD_read_23 (by decide) ?_
    refine E_tp (y := 0) (by decide) ?_
    refine E_if_ne (tgt := 31) d_MOD_read_24 (by decide) (fun c => absurd (by decide) c) (fun _ => ?_)
    refine E_iconst (v := 1) d_MOD_read_27 (by decide) ?_
    refine E_goto (tgt := 43) d_MOD_read_28 (by decide) ?_
    refine E_istore_n d_MOD_read_43 (by decide) ?_
    refine E_iload_n d_MOD_read_44 rfl ?_
    refine E_iconst (v := 3) d_MOD_read_45 (by decide) ?_
    refine E_icmp_eq (tgt := 54) d_MOD_read_46 (by decide) (fun c => absurd c (by decide)) (fun _ => ?_)
    refine E_iload_n d_MOD_read_49 rfl ?_
    refine E_iconst (v := 5) d_MOD_read_50 (by decide) ?_
    refine E_icmp_le (tgt := 60) d_MOD_read_51 (by decide) (fun _ => ?_) (fun c => absurd (by decide) c)
    by_cases hok : okA a 1 s
    · have er : rchM M p a 1 4 s m = M := rch_ok (n := 1) hok
      obtain ⟨b, hb, eb, hal⟩ := okA_of hok (by decide) (by decide) hs8
      subst eb
      refine E_aload_n d_MOD_read_60 rfl rfl ?_
      refine E_iload_n d_MOD_read_61 rfl ?_
      refine E_iload_n d_MOD_read_62 rfl ?_
      refine E_iconst (v := 4) d_MOD_read_63 (by decide) ?_
      refine E_V3i d_MOD_read_64 w_MOD_168 rfl (by decide) (Nat.le_of_ble_eq_true rfl) (c_MOD_reach hp hp8 hm hm9 hs (by decide) hgo) ?_
      rintro _ _ ⟨rfl, rfl⟩
      rw [er]
      refine E_tp (y := nI (1)) hgo ?_
      refine E_if_ne (tgt := 71) d_MOD_read_67 (by decide) (fun _ => ?_) (fun c => absurd c (by decide))
      refine E_iconst (v := 0) d_MOD_read_71 (by decide) ?_
      refine E_istore d_MOD_read_72 (by decide) ?_
      refine E_iload_n d_MOD_read_74 rfl ?_
      refine E_iconst (v := 1) d_MOD_read_75 (by decide) ?_
      refine E_isub d_MOD_read_76 ?_
      refine E_tp (y := 0) (by decide) ?_
      refine E_istore d_MOD_read_77 (by decide) ?_
      refine E_iload d_MOD_read_79 rfl ?_
      refine E_if_lt (tgt := 110) d_MOD_read_81 (by decide) (fun c => absurd c (by decide)) (fun _ => ?_)
      refine E_iload d_MOD_read_84 rfl ?_
      refine E_bipush (v := 8) d_MOD_read_86 (by decide) ?_
      refine E_ishl d_MOD_read_88 ?_
      refine E_aload_n d_MOD_read_89 rfl rfl ?_
      refine E_aload_n d_MOD_read_90 rfl rfl ?_
      refine L_gi d_MOD_read_91 f_MOD_97 rfl (by decide) rfl (fr_M 0 24) ?_
      refine E_tp (y := nI (p)) hp ?_
      refine E_iload_n d_MOD_read_94 rfl ?_
      refine E_iload d_MOD_read_95 rfl ?_
      refine E_iadd d_MOD_read_97 ?_
      refine E_tp (y := nI (b + 0)) (nI_add b 0) ?_
      refine E_V2i d_MOD_read_98 w_MOD_172 rfl (by decide) (Nat.le_of_ble_eq_true rfl) (c_byteAt hp8 hs8 (by omega) hpg) ?_
      rintro _ _ ⟨rfl, rfl⟩
      refine E_ior d_MOD_read_101 ?_
      refine E_istore d_MOD_read_102 (by decide) ?_
      refine E_iinc (v := -1) d_MOD_read_104 rfl (by decide) (by decide) ?_
      refine E_goto (tgt := 79) d_MOD_read_107 (by decide) ?_
      refine E_iload d_MOD_read_79 rfl ?_
      refine E_if_lt (tgt := 110) d_MOD_read_81 (by decide) (fun _ => ?_) (fun c => absurd (by decide) c)
      refine E_bipush (v := 32) d_MOD_read_110 (by decide) ?_
      refine E_bipush (v := 8) d_MOD_read_112 (by decide) ?_
      refine E_iload_n d_MOD_read_114 rfl ?_
      refine E_imul d_MOD_read_115 ?_
      refine E_tp (y := nI (8)) (pk_mul 8 1) ?_
      refine E_isub d_MOD_read_116 ?_
      refine E_tp (y := 24) (by decide) ?_
      refine E_istore d_MOD_read_117 (by decide) ?_
      refine E_aload_n d_MOD_read_119 rfl rfl ?_
      refine E_aload_n d_MOD_read_120 rfl rfl ?_
      refine E_V0i d_MOD_read_121 w_MOD_131 rfl (by decide) (Nat.le_of_ble_eq_true rfl) (c_MOD_d) ?_
      rintro _ _ ⟨rfl, rfl⟩
      refine E_iload_n d_MOD_read_124 rfl ?_
      refine E_iconst (v := 3) d_MOD_read_125 (by decide) ?_
      refine E_icmp_ge (tgt := 140) d_MOD_read_126 (by decide) (fun _ => ?_) (fun c => absurd (by decide) c)
      refine E_iload d_MOD_read_140 rfl ?_
      refine E_V2v d_MOD_read_142 w_MOD_135 rfl (by decide) (Nat.le_of_ble_eq_true rfl) (c_MOD_set hp hp8 (bf_lt _ _ 5)) ?_
      rintro _ rfl
      exact E_return d_MOD_read_145 rfl rfl ⟨rfl, by rw [redM, ← hf, ← ea, show nof 4 = 1 from rfl, redF_ok (by decide) hok, nv_nI (by omega)]; rfl⟩
    · have er : rchM M p a 1 4 s m 0 27 = 0 := rch_no (n := 1) hok hp
      refine E_aload_n d_MOD_read_60 rfl rfl ?_
      refine E_iload_n d_MOD_read_61 rfl ?_
      refine E_iload_n d_MOD_read_62 rfl ?_
      refine E_iconst (v := 4) d_MOD_read_63 (by decide) ?_
      refine E_V3i d_MOD_read_64 w_MOD_168 rfl (by decide) (Nat.le_of_ble_eq_true rfl) (c_MOD_reach hp hp8 hm hm9 hs (by decide) hgo) ?_
      rintro _ _ ⟨rfl, rfl⟩
      refine E_tp (y := nI (0)) er ?_
      refine E_if_ne (tgt := 71) d_MOD_read_67 (by decide) (fun c => absurd (by decide) c) (fun _ => ?_)
      exact E_return d_MOD_read_70 rfl rfl ⟨rfl, by rw [redM, ← hf, ← ea, show nof 4 = 1 from rfl, redF_no (by decide) hok]; rfl⟩
  · refine E_iload_n d_MOD_read_21 rfl ?_
    refine E_iconst (v := 4) d_MOD_read_22 (by decide) ?_
    refine E_irem d_MOD_read_23 (by decide) ?_
    refine E_tp (y := 1) (by decide) ?_
    refine E_if_ne (tgt := 31) d_MOD_read_24 (by decide) (fun _ => ?_) (fun c => absurd c (by decide))
    refine E_iload_n d_MOD_read_31 rfl ?_
    refine E_iconst (v := 4) d_MOD_read_32 (by decide) ?_
    refine E_irem d_MOD_read_33 (by decide) ?_
    refine E_tp (y := 1) (by decide) ?_
    refine E_iconst (v := 1) d_MOD_read_34 (by decide) ?_
    refine E_icmp_ne (tgt := 42) d_MOD_read_35 (by decide) (fun c => absurd (by decide) c) (fun _ => ?_)
    refine E_iconst (v := 2) d_MOD_read_38 (by decide) ?_
    refine E_goto (tgt := 43) d_MOD_read_39 (by decide) ?_
    refine E_istore_n d_MOD_read_43 (by decide) ?_
    refine E_iload_n d_MOD_read_44 rfl ?_
    refine E_iconst (v := 3) d_MOD_read_45 (by decide) ?_
    refine E_icmp_eq (tgt := 54) d_MOD_read_46 (by decide) (fun c => absurd c (by decide)) (fun _ => ?_)
    refine E_iload_n d_MOD_read_49 rfl ?_
    refine E_iconst (v := 5) d_MOD_read_50 (by decide) ?_
    refine E_icmp_le (tgt := 60) d_MOD_read_51 (by decide) (fun _ => ?_) (fun c => absurd (by decide) c)
    by_cases hok : okA a 2 s
    · have er : rchM M p a 2 4 s m = M := rch_ok (n := 2) hok
      obtain ⟨b, hb, eb, hal⟩ := okA_of hok (by decide) (by decide) hs8
      subst eb
      refine E_aload_n d_MOD_read_60 rfl rfl ?_
      refine E_iload_n d_MOD_read_61 rfl ?_
      refine E_iload_n d_MOD_read_62 rfl ?_
      refine E_iconst (v := 4) d_MOD_read_63 (by decide) ?_
      refine E_V3i d_MOD_read_64 w_MOD_168 rfl (by decide) (Nat.le_of_ble_eq_true rfl) (c_MOD_reach hp hp8 hm hm9 hs (by decide) hgo) ?_
      rintro _ _ ⟨rfl, rfl⟩
      rw [er]
      refine E_tp (y := nI (1)) hgo ?_
      refine E_if_ne (tgt := 71) d_MOD_read_67 (by decide) (fun _ => ?_) (fun c => absurd c (by decide))
      refine E_iconst (v := 0) d_MOD_read_71 (by decide) ?_
      refine E_istore d_MOD_read_72 (by decide) ?_
      refine E_iload_n d_MOD_read_74 rfl ?_
      refine E_iconst (v := 1) d_MOD_read_75 (by decide) ?_
      refine E_isub d_MOD_read_76 ?_
      refine E_tp (y := 1) (by decide) ?_
      refine E_istore d_MOD_read_77 (by decide) ?_
      refine E_iload d_MOD_read_79 rfl ?_
      refine E_if_lt (tgt := 110) d_MOD_read_81 (by decide) (fun c => absurd c (by decide)) (fun _ => ?_)
      refine E_iload d_MOD_read_84 rfl ?_
      refine E_bipush (v := 8) d_MOD_read_86 (by decide) ?_
      refine E_ishl d_MOD_read_88 ?_
      refine E_aload_n d_MOD_read_89 rfl rfl ?_
      refine E_aload_n d_MOD_read_90 rfl rfl ?_
      refine L_gi d_MOD_read_91 f_MOD_97 rfl (by decide) rfl (fr_M 0 24) ?_
      refine E_tp (y := nI (p)) hp ?_
      refine E_iload_n d_MOD_read_94 rfl ?_
      refine E_iload d_MOD_read_95 rfl ?_
      refine E_iadd d_MOD_read_97 ?_
      refine E_tp (y := nI (b + 1)) (nI_add b 1) ?_
      refine E_V2i d_MOD_read_98 w_MOD_172 rfl (by decide) (Nat.le_of_ble_eq_true rfl) (c_byteAt hp8 hs8 (by omega) hpg) ?_
      rintro _ _ ⟨rfl, rfl⟩
      refine E_ior d_MOD_read_101 ?_
      refine E_istore d_MOD_read_102 (by decide) ?_
      refine E_iinc (v := 0) d_MOD_read_104 rfl (by decide) (by decide) ?_
      refine E_goto (tgt := 79) d_MOD_read_107 (by decide) ?_
      refine E_iload d_MOD_read_79 rfl ?_
      refine E_if_lt (tgt := 110) d_MOD_read_81 (by decide) (fun c => absurd c (by decide)) (fun _ => ?_)
      refine E_iload d_MOD_read_84 rfl ?_
      refine E_bipush (v := 8) d_MOD_read_86 (by decide) ?_
      refine E_ishl d_MOD_read_88 ?_
      refine E_aload_n d_MOD_read_89 rfl rfl ?_
      refine E_aload_n d_MOD_read_90 rfl rfl ?_
      refine L_gi d_MOD_read_91 f_MOD_97 rfl (by decide) rfl (fr_M 0 24) ?_
      refine E_tp (y := nI (p)) hp ?_
      refine E_iload_n d_MOD_read_94 rfl ?_
      refine E_iload d_MOD_read_95 rfl ?_
      refine E_iadd d_MOD_read_97 ?_
      refine E_tp (y := nI (b + 0)) (nI_add b 0) ?_
      refine E_V2i d_MOD_read_98 w_MOD_172 rfl (by decide) (Nat.le_of_ble_eq_true rfl) (c_byteAt hp8 hs8 (by omega) hpg) ?_
      rintro _ _ ⟨rfl, rfl⟩
      refine E_ior d_MOD_read_101 ?_
      refine E_istore d_MOD_read_102 (by decide) ?_
      refine E_iinc (v := -1) d_MOD_read_104 rfl (by decide) (by decide) ?_
      refine E_goto (tgt := 79) d_MOD_read_107 (by decide) ?_
      refine E_iload d_MOD_read_79 rfl ?_
      refine E_if_lt (tgt := 110) d_MOD_read_81 (by decide) (fun _ => ?_) (fun c => absurd (by decide) c)
      refine E_bipush (v := 32) d_MOD_read_110 (by decide) ?_
      refine E_bipush (v := 8) d_MOD_read_112 (by decide) ?_
      refine E_iload_n d_MOD_read_114 rfl ?_
      refine E_imul d_MOD_read_115 ?_
      refine E_tp (y := nI (16)) (pk_mul 8 2) ?_
      refine E_isub d_MOD_read_116 ?_
      refine E_tp (y := 16) (by decide) ?_
      refine E_istore d_MOD_read_117 (by decide) ?_
      refine E_aload_n d_MOD_read_119 rfl rfl ?_
      refine E_aload_n d_MOD_read_120 rfl rfl ?_
      refine E_V0i d_MOD_read_121 w_MOD_131 rfl (by decide) (Nat.le_of_ble_eq_true rfl) (c_MOD_d) ?_
      rintro _ _ ⟨rfl, rfl⟩
      refine E_iload_n d_MOD_read_124 rfl ?_
      refine E_iconst (v := 3) d_MOD_read_125 (by decide) ?_
      refine E_icmp_ge (tgt := 140) d_MOD_read_126 (by decide) (fun _ => ?_) (fun c => absurd (by decide) c)
      refine E_iload d_MOD_read_140 rfl ?_
      refine E_V2v d_MOD_read_142 w_MOD_135 rfl (by decide) (Nat.le_of_ble_eq_true rfl) (c_MOD_set hp hp8 (bf_lt _ _ 5)) ?_
      rintro _ rfl
      exact E_return d_MOD_read_145 rfl rfl ⟨rfl, by rw [redM, ← hf, ← ea, show nof 5 = 2 from rfl, redF_ok (by decide) hok, nv_nI (by omega)]; rfl⟩
    · have er : rchM M p a 2 4 s m 0 27 = 0 := rch_no (n := 2) hok hp
      refine E_aload_n d_MOD_read_60 rfl rfl ?_
      refine E_iload_n d_MOD_read_61 rfl ?_
      refine E_iload_n d_MOD_read_62 rfl ?_
      refine E_iconst (v := 4) d_MOD_read_63 (by decide) ?_
      refine E_V3i d_MOD_read_64 w_MOD_168 rfl (by decide) (Nat.le_of_ble_eq_true rfl) (c_MOD_reach hp hp8 hm hm9 hs (by decide) hgo) ?_
      rintro _ _ ⟨rfl, rfl⟩
      refine E_tp (y := nI (0)) er ?_
      refine E_if_ne (tgt := 71) d_MOD_read_67 (by decide) (fun c => absurd (by decide) c) (fun _ => ?_)
      exact E_return d_MOD_read_70 rfl rfl ⟨rfl, by rw [redM, ← hf, ← ea, show nof 5 = 2 from rfl, redF_no (by decide) hok]; rfl⟩
  · refine E_iload_n d_MOD_read_21 rfl ?_
    refine E_iconst (v := 4) d_MOD_read_22 (by decide) ?_
    refine E_irem d_MOD_read_23 (by decide) ?_
    refine E_tp (y := 2) (by decide) ?_
    refine E_if_ne (tgt := 31) d_MOD_read_24 (by decide) (fun _ => ?_) (fun c => absurd c (by decide))
    refine E_iload_n d_MOD_read_31 rfl ?_
    refine E_iconst (v := 4) d_MOD_read_32 (by decide) ?_
    refine E_irem d_MOD_read_33 (by decide) ?_
    refine E_tp (y := 2) (by decide) ?_
    refine E_iconst (v := 1) d_MOD_read_34 (by decide) ?_
    refine E_icmp_ne (tgt := 42) d_MOD_read_35 (by decide) (fun _ => ?_) (fun c => absurd c (by decide))
    refine E_iconst (v := 4) d_MOD_read_42 (by decide) ?_
    refine E_istore_n d_MOD_read_43 (by decide) ?_
    refine E_iload_n d_MOD_read_44 rfl ?_
    refine E_iconst (v := 3) d_MOD_read_45 (by decide) ?_
    refine E_icmp_eq (tgt := 54) d_MOD_read_46 (by decide) (fun c => absurd c (by decide)) (fun _ => ?_)
    refine E_iload_n d_MOD_read_49 rfl ?_
    refine E_iconst (v := 5) d_MOD_read_50 (by decide) ?_
    refine E_icmp_le (tgt := 60) d_MOD_read_51 (by decide) (fun c => absurd c (by decide)) (fun _ => ?_)
    refine E_aload_n d_MOD_read_54 rfl rfl ?_
    refine E_iconst (v := 2) d_MOD_read_55 (by decide) ?_
    refine E_V1v d_MOD_read_56 w_MOD_128 rfl (by decide) (Nat.le_of_ble_eq_true rfl) (c_MOD_fault hp hp8 hm hm9) ?_
    rintro _ rfl
    exact E_return d_MOD_read_59 rfl rfl ⟨rfl, by rw [redM, ← hf, redF_bad (by decide)]⟩
  · refine E_iload_n d_MOD_read_21 rfl ?_
    refine E_iconst (v := 4) d_MOD_read_22 (by decide) ?_
    refine E_irem d_MOD_read_23 (by decide) ?_
    refine E_tp (y := 3) (by decide) ?_
    refine E_if_ne (tgt := 31) d_MOD_read_24 (by decide) (fun _ => ?_) (fun c => absurd c (by decide))
    refine E_iload_n d_MOD_read_31 rfl ?_
    refine E_iconst (v := 4) d_MOD_read_32 (by decide) ?_
    refine E_irem d_MOD_read_33 (by decide) ?_
    refine E_tp (y := 3) (by decide) ?_
    refine E_iconst (v := 1) d_MOD_read_34 (by decide) ?_
    refine E_icmp_ne (tgt := 42) d_MOD_read_35 (by decide) (fun _ => ?_) (fun c => absurd c (by decide))
    refine E_iconst (v := 4) d_MOD_read_42 (by decide) ?_
    refine E_istore_n d_MOD_read_43 (by decide) ?_
    refine E_iload_n d_MOD_read_44 rfl ?_
    refine E_iconst (v := 3) d_MOD_read_45 (by decide) ?_
    refine E_icmp_eq (tgt := 54) d_MOD_read_46 (by decide) (fun c => absurd c (by decide)) (fun _ => ?_)
    refine E_iload_n d_MOD_read_49 rfl ?_
    refine E_iconst (v := 5) d_MOD_read_50 (by decide) ?_
    refine E_icmp_le (tgt := 60) d_MOD_read_51 (by decide) (fun c => absurd c (by decide)) (fun _ => ?_)
    refine E_aload_n d_MOD_read_54 rfl rfl ?_
    refine E_iconst (v := 2) d_MOD_read_55 (by decide) ?_
    refine E_V1v d_MOD_read_56 w_MOD_128 rfl (by decide) (Nat.le_of_ble_eq_true rfl) (c_MOD_fault hp hp8 hm hm9) ?_
    rintro _ rfl
    exact E_return d_MOD_read_59 rfl rfl ⟨rfl, by rw [redM, ← hf, redF_bad (by decide)]⟩
theorem c_MOD_write {G : iG} {F : Nat} {C M : Nat → Nat → Int32} {p m s : Nat} (hp : M 0 24 = nI p) (hp8 : p ≤ 8) (hm : M 0 15 = nI m) (hm9 : m ≤ 9) (hs : M 8 p = nI s) (hs8 : s ≤ 8) (hpg : pgs M p s) (hgo : M 0 27 = 1) : MV G m_MOD_write 5 [vR 50] (HW F C M) (fun h' => h' = HW F C (wrtM M p s m)) := by
  refine Mt.of' (Ls := [some (vR 50), none, none, none, none, none]) (by decide) (by simp [ct]) (Nat.le_of_ble_eq_true rfl) rfl ?_
  obtain ⟨f, hf⟩ : ∃ f, f = bf (M 0 25) 12 3 := ⟨_, rfl⟩
  have hf8 : f < 8 := by rw [hf]; exact bf_lt _ _ 3
  obtain ⟨a, ea⟩ : ∃ a, a = adw M p := ⟨_, rfl⟩
  obtain ⟨v, hv⟩ : ∃ v, v = M 9 (32 * p + bf (M 0 25) 20 5) := ⟨_, rfl⟩
  refine E_aload_n d_MOD_write_0 rfl rfl ?_
  refine E_bipush (v := 12) d_MOD_write_1 (by decide) ?_
  refine E_iconst (v := 3) d_MOD_write_3 (by decide) ?_
  refine E_V2i d_MOD_write_4 w_MOD_110 rfl (by decide) (Nat.le_of_ble_eq_true rfl) (c_MOD_bits (a := 12) (k := 3) (by decide) (by decide) (by decide)) ?_
  rintro _ _ ⟨rfl, rfl⟩
  rw [← hf]
  refine E_istore_n d_MOD_write_7 (by decide) ?_
  refine E_aload_n d_MOD_write_8 rfl rfl ?_
  refine E_V0i d_MOD_write_9 w_MOD_141 rfl (by decide) (Nat.le_of_ble_eq_true rfl) (c_MOD_s hp hp8) ?_
  rintro _ _ ⟨rfl, rfl⟩
  refine E_aload_n d_MOD_write_12 rfl rfl ?_
  refine L_gi d_MOD_write_13 f_MOD_107 rfl (by decide) rfl (fr_M 0 25) ?_
  refine E_bipush (v := 25) d_MOD_write_16 (by decide) ?_
  refine E_ishr d_MOD_write_18 ?_
  refine E_iconst (v := 5) d_MOD_write_19 (by decide) ?_
  refine E_ishl d_MOD_write_20 ?_
  refine E_aload_n d_MOD_write_21 rfl rfl ?_
  refine E_bipush (v := 7) d_MOD_write_22 (by decide) ?_
  refine E_iconst (v := 5) d_MOD_write_24 (by decide) ?_
  refine E_V2i d_MOD_write_25 w_MOD_110 rfl (by decide) (Nat.le_of_ble_eq_true rfl) (c_MOD_bits (a := 7) (k := 5) (by decide) (by decide) (by decide)) ?_
  rintro _ _ ⟨rfl, rfl⟩
  refine E_ior d_MOD_write_28 ?_
  refine E_iadd d_MOD_write_29 ?_
  refine E_tp (y := a) ea.symm ?_
  refine E_istore_n d_MOD_write_30 (by decide) ?_
  refine E_aload_n d_MOD_write_31 rfl rfl ?_
  refine E_V0i d_MOD_write_32 w_MOD_161 rfl (by decide) (Nat.le_of_ble_eq_true rfl) (c_MOD_t hp hp8) ?_
  rintro _ _ ⟨rfl, rfl⟩
  refine E_tp (y := v) hv.symm ?_
  refine E_istore_n d_MOD_write_35 (by decide) ?_
  rcases (show f = 0 ∨ f = 1 ∨ f = 2 ∨ 2 < f by omega) with rfl | rfl | rfl | hbad
  · refine E_iload_n d_MOD_write_36 rfl ?_
    refine E_iconst (v := 2) d_MOD_write_37 (by decide) ?_
    refine E_icmp_le (tgt := 47) d_MOD_write_38 (by decide) (fun _ => ?_) (fun c => absurd (by decide) c)
    refine E_iload_n d_MOD_write_47 rfl ?_
    refine E_if_ne (tgt := 55) d_MOD_write_48 (by decide) (fun c => absurd (by decide) c) (fun _ => ?_)
    refine E_iconst (v := 1) d_MOD_write_51 (by decide) ?_
    refine E_goto (tgt := 65) d_MOD_write_52 (by decide) ?_
    refine E_istore d_MOD_write_65 (by decide) ?_
    by_cases hok : okA a 1 s
    · have er : rchM M p a 1 6 s m = M := rch_ok (n := 1) hok
      obtain ⟨b, hb, eb, hal⟩ := okA_of hok (by decide) (by decide) hs8
      subst eb
      have g1 := pgs_pb (q := p) (a := b + 0) (b := v >>> (nI (8 * 0) &&& 31)) hpg
      have g2 := pgs_pb (q := p) (a := b + 1) (b := v >>> (nI (8 * 1) &&& 31)) g1
      have g3 := pgs_pb (q := p) (a := b + 2) (b := v >>> (nI (8 * 2) &&& 31)) g2
      refine E_aload_n d_MOD_write_67 rfl rfl ?_
      refine E_iload_n d_MOD_write_68 rfl ?_
      refine E_iload d_MOD_write_69 rfl ?_
      refine E_bipush (v := 6) d_MOD_write_71 (by decide) ?_
      refine E_V3i d_MOD_write_73 w_MOD_168 rfl (by decide) (Nat.le_of_ble_eq_true rfl) (c_MOD_reach hp hp8 hm hm9 hs (by decide) hgo) ?_
      rintro _ _ ⟨rfl, rfl⟩
      rw [er]
      refine E_tp (y := nI (1)) hgo ?_
      refine E_if_ne (tgt := 80) d_MOD_write_76 (by decide) (fun _ => ?_) (fun c => absurd c (by decide))
      refine E_iconst (v := 0) d_MOD_write_80 (by decide) ?_
      refine E_istore d_MOD_write_81 (by decide) ?_
      refine E_iload d_MOD_write_83 rfl ?_
      refine E_iload d_MOD_write_85 rfl ?_
      refine E_icmp_ge (tgt := 115) d_MOD_write_87 (by decide) (fun c => absurd c (by decide)) (fun _ => ?_)
      refine E_aload_n d_MOD_write_90 rfl rfl ?_
      refine E_aload_n d_MOD_write_91 rfl rfl ?_
      refine L_gi d_MOD_write_92 f_MOD_97 rfl (by decide) rfl (fr_M 0 24) ?_
      refine E_tp (y := nI (p)) (by first | exact hp | exact (up2_ne2 _ _ _ _ (by decide)).trans hp | exact ((up2_ne2 _ _ _ _ (by decide)).trans (up2_ne2 _ _ _ _ (by decide))).trans hp | exact (((up2_ne2 _ _ _ _ (by decide)).trans (up2_ne2 _ _ _ _ (by decide))).trans (up2_ne2 _ _ _ _ (by decide))).trans hp) ?_
      refine E_iload_n d_MOD_write_95 rfl ?_
      refine E_iload d_MOD_write_96 rfl ?_
      refine E_iadd d_MOD_write_98 ?_
      refine E_tp (y := nI (b + 0)) (nI_add b 0) ?_
      refine E_iload_n d_MOD_write_99 rfl ?_
      refine E_bipush (v := 8) d_MOD_write_100 (by decide) ?_
      refine E_iload d_MOD_write_102 rfl ?_
      refine E_imul d_MOD_write_104 ?_
      refine E_tp (y := nI (0)) (pk_mul 8 0) ?_
      refine E_ishr d_MOD_write_105 ?_
      refine E_V3v d_MOD_write_106 w_MOD_175 rfl (by decide) (Nat.le_of_ble_eq_true rfl) (c_putByte hp8 hs8 (by omega) (by first | exact hpg | exact g1 | exact g2 | exact g3)) ?_
      rintro _ rfl
      refine E_iinc (v := 1) d_MOD_write_109 rfl (by decide) (by decide) ?_
      refine E_goto (tgt := 83) d_MOD_write_112 (by decide) ?_
      refine E_iload d_MOD_write_83 rfl ?_
      refine E_iload d_MOD_write_85 rfl ?_
      refine E_icmp_ge (tgt := 115) d_MOD_write_87 (by decide) (fun _ => ?_) (fun c => absurd (by decide) c)
      exact E_return d_MOD_write_115 rfl rfl ⟨rfl, by rw [wrtM, ← hf, ← ea, ← hv, show now 0 = 1 from rfl, wrtF_ok (by decide) hok, nv_nI (by omega)]; rfl⟩
    · have er : rchM M p a 1 6 s m 0 27 = 0 := rch_no (n := 1) hok hp
      refine E_aload_n d_MOD_write_67 rfl rfl ?_
      refine E_iload_n d_MOD_write_68 rfl ?_
      refine E_iload d_MOD_write_69 rfl ?_
      refine E_bipush (v := 6) d_MOD_write_71 (by decide) ?_
      refine E_V3i d_MOD_write_73 w_MOD_168 rfl (by decide) (Nat.le_of_ble_eq_true rfl) (c_MOD_reach hp hp8 hm hm9 hs (by decide) hgo) ?_
      rintro _ _ ⟨rfl, rfl⟩
      refine E_tp (y := nI (0)) er ?_
      refine E_if_ne (tgt := 80) d_MOD_write_76 (by decide) (fun c => absurd (by decide) c) (fun _ => ?_)
      exact E_return d_MOD_write_79 rfl rfl ⟨rfl, by rw [wrtM, ← hf, ← ea, ← hv, show now 0 = 1 from rfl, wrtF_no (by decide) hok]; rfl⟩
  · refine E_iload_n d_MOD_write_36 rfl ?_
    refine E_iconst (v := 2) d_MOD_write_37 (by decide) ?_
    refine E_icmp_le (tgt := 47) d_MOD_write_38 (by decide) (fun _ => ?_) (fun c => absurd (by decide) c)
    refine E_iload_n d_MOD_write_47 rfl ?_
    refine E_if_ne (tgt := 55) d_MOD_write_48 (by decide) (fun _ => ?_) (fun c => absurd c (by decide))
    refine E_iload_n d_MOD_write_55 rfl ?_
    refine E_iconst (v := 1) d_MOD_write_56 (by decide) ?_
    refine E_icmp_ne (tgt := 64) d_MOD_write_57 (by decide) (fun c => absurd (by decide) c) (fun _ => ?_)
    refine E_iconst (v := 2) d_MOD_write_60 (by decide) ?_
    refine E_goto (tgt := 65) d_MOD_write_61 (by decide) ?_
    refine E_istore d_MOD_write_65 (by decide) ?_
    by_cases hok : okA a 2 s
    · have er : rchM M p a 2 6 s m = M := rch_ok (n := 2) hok
      obtain ⟨b, hb, eb, hal⟩ := okA_of hok (by decide) (by decide) hs8
      subst eb
      have g1 := pgs_pb (q := p) (a := b + 0) (b := v >>> (nI (8 * 0) &&& 31)) hpg
      have g2 := pgs_pb (q := p) (a := b + 1) (b := v >>> (nI (8 * 1) &&& 31)) g1
      have g3 := pgs_pb (q := p) (a := b + 2) (b := v >>> (nI (8 * 2) &&& 31)) g2
      refine E_aload_n d_MOD_write_67 rfl rfl ?_
      refine E_iload_n d_MOD_write_68 rfl ?_
      refine E_iload d_MOD_write_69 rfl ?_
      refine E_bipush (v := 6) d_MOD_write_71 (by decide) ?_
      refine E_V3i d_MOD_write_73 w_MOD_168 rfl (by decide) (Nat.le_of_ble_eq_true rfl) (c_MOD_reach hp hp8 hm hm9 hs (by decide) hgo) ?_
      rintro _ _ ⟨rfl, rfl⟩
      rw [er]
      refine E_tp (y := nI (1)) hgo ?_
      refine E_if_ne (tgt := 80) d_MOD_write_76 (by decide) (fun _ => ?_) (fun c => absurd c (by decide))
      refine E_iconst (v := 0) d_MOD_write_80 (by decide) ?_
      refine E_istore d_MOD_write_81 (by decide) ?_
      refine E_iload d_MOD_write_83 rfl ?_
      refine E_iload d_MOD_write_85 rfl ?_
      refine E_icmp_ge (tgt := 115) d_MOD_write_87 (by decide) (fun c => absurd c (by decide)) (fun _ => ?_)
      refine E_aload_n d_MOD_write_90 rfl rfl ?_
      refine E_aload_n d_MOD_write_91 rfl rfl ?_
      refine L_gi d_MOD_write_92 f_MOD_97 rfl (by decide) rfl (fr_M 0 24) ?_
      refine E_tp (y := nI (p)) (by first | exact hp | exact (up2_ne2 _ _ _ _ (by decide)).trans hp | exact ((up2_ne2 _ _ _ _ (by decide)).trans (up2_ne2 _ _ _ _ (by decide))).trans hp | exact (((up2_ne2 _ _ _ _ (by decide)).trans (up2_ne2 _ _ _ _ (by decide))).trans (up2_ne2 _ _ _ _ (by decide))).trans hp) ?_
      refine E_iload_n d_MOD_write_95 rfl ?_
      refine E_iload d_MOD_write_96 rfl ?_
      refine E_iadd d_MOD_write_98 ?_
      refine E_tp (y := nI (b + 0)) (nI_add b 0) ?_
      refine E_iload_n d_MOD_write_99 rfl ?_
      refine E_bipush (v := 8) d_MOD_write_100 (by decide) ?_
      refine E_iload d_MOD_write_102 rfl ?_
      refine E_imul d_MOD_write_104 ?_
      refine E_tp (y := nI (0)) (pk_mul 8 0) ?_
      refine E_ishr d_MOD_write_105 ?_
      refine E_V3v d_MOD_write_106 w_MOD_175 rfl (by decide) (Nat.le_of_ble_eq_true rfl) (c_putByte hp8 hs8 (by omega) (by first | exact hpg | exact g1 | exact g2 | exact g3)) ?_
      rintro _ rfl
      refine E_iinc (v := 1) d_MOD_write_109 rfl (by decide) (by decide) ?_
      refine E_goto (tgt := 83) d_MOD_write_112 (by decide) ?_
      refine E_iload d_MOD_write_83 rfl ?_
      refine E_iload d_MOD_write_85 rfl ?_
      refine E_icmp_ge (tgt := 115) d_MOD_write_87 (by decide) (fun c => absurd c (by decide)) (fun _ => ?_)
      refine E_aload_n d_MOD_write_90 rfl rfl ?_
      refine E_aload_n d_MOD_write_91 rfl rfl ?_
      refine L_gi d_MOD_write_92 f_MOD_97 rfl (by decide) rfl (fr_M 0 24) ?_
      refine E_tp (y := nI (p)) (by first | exact hp | exact (up2_ne2 _ _ _ _ (by decide)).trans hp | exact ((up2_ne2 _ _ _ _ (by decide)).trans (up2_ne2 _ _ _ _ (by decide))).trans hp | exact (((up2_ne2 _ _ _ _ (by decide)).trans (up2_ne2 _ _ _ _ (by decide))).trans (up2_ne2 _ _ _ _ (by decide))).trans hp) ?_
      refine E_iload_n d_MOD_write_95 rfl ?_
      refine E_iload d_MOD_write_96 rfl ?_
      refine E_iadd d_MOD_write_98 ?_
      refine E_tp (y := nI (b + 1)) (nI_add b 1) ?_
      refine E_iload_n d_MOD_write_99 rfl ?_
      refine E_bipush (v := 8) d_MOD_write_100 (by decide) ?_
      refine E_iload d_MOD_write_102 rfl ?_
      refine E_imul d_MOD_write_104 ?_
      refine E_tp (y := nI (8)) (pk_mul 8 1) ?_
      refine E_ishr d_MOD_write_105 ?_
      refine E_V3v d_MOD_write_106 w_MOD_175 rfl (by decide) (Nat.le_of_ble_eq_true rfl) (c_putByte hp8 hs8 (by omega) (by first | exact hpg | exact g1 | exact g2 | exact g3)) ?_
      rintro _ rfl
      refine E_iinc (v := 2) d_MOD_write_109 rfl (by decide) (by decide) ?_
      refine E_goto (tgt := 83) d_MOD_write_112 (by decide) ?_
      refine E_iload d_MOD_write_83 rfl ?_
      refine E_iload d_MOD_write_85 rfl ?_
      refine E_icmp_ge (tgt := 115) d_MOD_write_87 (by decide) (fun _ => ?_) (fun c => absurd (by decide) c)
      exact E_return d_MOD_write_115 rfl rfl ⟨rfl, by rw [wrtM, ← hf, ← ea, ← hv, show now 1 = 2 from rfl, wrtF_ok (by decide) hok, nv_nI (by omega)]; rfl⟩
    · have er : rchM M p a 2 6 s m 0 27 = 0 := rch_no (n := 2) hok hp
      refine E_aload_n d_MOD_write_67 rfl rfl ?_
      refine E_iload_n d_MOD_write_68 rfl ?_
      refine E_iload d_MOD_write_69 rfl ?_
      refine E_bipush (v := 6) d_MOD_write_71 (by decide) ?_
      refine E_V3i d_MOD_write_73 w_MOD_168 rfl (by decide) (Nat.le_of_ble_eq_true rfl) (c_MOD_reach hp hp8 hm hm9 hs (by decide) hgo) ?_
      rintro _ _ ⟨rfl, rfl⟩
      refine E_tp (y := nI (0)) er ?_
      refine E_if_ne (tgt := 80) d_MOD_write_76 (by decide) (fun c => absurd (by decide) c) (fun _ => ?_)
      exact E_return d_MOD_write_79 rfl rfl ⟨rfl, by rw [wrtM, ← hf, ← ea, ← hv, show now 1 = 2 from rfl, wrtF_no (by decide) hok]; rfl⟩
  · refine E_iload_n d_MOD_write_36 rfl ?_
    refine E_iconst (v := 2) d_MOD_write_37 (by decide) ?_
    refine E_icmp_le (tgt := 47) d_MOD_write_38 (by decide) (fun _ => ?_) (fun c => absurd (by decide) c)
    refine E_iload_n d_MOD_write_47 rfl ?_
    refine E_if_ne (tgt := 55) d_MOD_write_48 (by decide) (fun _ => ?_) (fun c => absurd c (by decide))
    refine E_iload_n d_MOD_write_55 rfl ?_
    refine E_iconst (v := 1) d_MOD_write_56 (by decide) ?_
    refine E_icmp_ne (tgt := 64) d_MOD_write_57 (by decide) (fun _ => ?_) (fun c => absurd c (by decide))
    refine E_iconst (v := 4) d_MOD_write_64 (by decide) ?_
    refine E_istore d_MOD_write_65 (by decide) ?_
    by_cases hok : okA a 4 s
    · have er : rchM M p a 4 6 s m = M := rch_ok (n := 4) hok
      obtain ⟨b, hb, eb, hal⟩ := okA_of hok (by decide) (by decide) hs8
      subst eb
      have g1 := pgs_pb (q := p) (a := b + 0) (b := v >>> (nI (8 * 0) &&& 31)) hpg
      have g2 := pgs_pb (q := p) (a := b + 1) (b := v >>> (nI (8 * 1) &&& 31)) g1
      have g3 := pgs_pb (q := p) (a := b + 2) (b := v >>> (nI (8 * 2) &&& 31)) g2
      refine E_aload_n d_MOD_write_67 rfl rfl ?_
      refine E_iload_n d_MOD_write_68 rfl ?_
      refine E_iload d_MOD_write_69 rfl ?_
      refine E_bipush (v := 6) d_MOD_write_71 (by decide) ?_
      refine E_V3i d_MOD_write_73 w_MOD_168 rfl (by decide) (Nat.le_of_ble_eq_true rfl) (c_MOD_reach hp hp8 hm hm9 hs (by decide) hgo) ?_
      rintro _ _ ⟨rfl, rfl⟩
      rw [er]
      refine E_tp (y := nI (1)) hgo ?_
      refine E_if_ne (tgt := 80) d_MOD_write_76 (by decide) (fun _ => ?_) (fun c => absurd c (by decide))
      refine E_iconst (v := 0) d_MOD_write_80 (by decide) ?_
      refine E_istore d_MOD_write_81 (by decide) ?_
      refine E_iload d_MOD_write_83 rfl ?_
      refine E_iload d_MOD_write_85 rfl ?_
      refine E_icmp_ge (tgt := 115) d_MOD_write_87 (by decide) (fun c => absurd c (by decide)) (fun _ => ?_)
      refine E_aload_n d_MOD_write_90 rfl rfl ?_
      refine E_aload_n d_MOD_write_91 rfl rfl ?_
      refine L_gi d_MOD_write_92 f_MOD_97 rfl (by decide) rfl (fr_M 0 24) ?_
      refine E_tp (y := nI (p)) (by first | exact hp | exact (up2_ne2 _ _ _ _ (by decide)).trans hp | exact ((up2_ne2 _ _ _ _ (by decide)).trans (up2_ne2 _ _ _ _ (by decide))).trans hp | exact (((up2_ne2 _ _ _ _ (by decide)).trans (up2_ne2 _ _ _ _ (by decide))).trans (up2_ne2 _ _ _ _ (by decide))).trans hp) ?_
      refine E_iload_n d_MOD_write_95 rfl ?_
      refine E_iload d_MOD_write_96 rfl ?_
      refine E_iadd d_MOD_write_98 ?_
      refine E_tp (y := nI (b + 0)) (nI_add b 0) ?_
      refine E_iload_n d_MOD_write_99 rfl ?_
      refine E_bipush (v := 8) d_MOD_write_100 (by decide) ?_
      refine E_iload d_MOD_write_102 rfl ?_
      refine E_imul d_MOD_write_104 ?_
      refine E_tp (y := nI (0)) (pk_mul 8 0) ?_
      refine E_ishr d_MOD_write_105 ?_
      refine E_V3v d_MOD_write_106 w_MOD_175 rfl (by decide) (Nat.le_of_ble_eq_true rfl) (c_putByte hp8 hs8 (by omega) (by first | exact hpg | exact g1 | exact g2 | exact g3)) ?_
      rintro _ rfl
      refine E_iinc (v := 1) d_MOD_write_109 rfl (by decide) (by decide) ?_
      refine E_goto (tgt := 83) d_MOD_write_112 (by decide) ?_
      refine E_iload d_MOD_write_83 rfl ?_
      refine E_iload d_MOD_write_85 rfl ?_
      refine E_icmp_ge (tgt := 115) d_MOD_write_87 (by decide) (fun c => absurd c (by decide)) (fun _ => ?_)
      refine E_aload_n d_MOD_write_90 rfl rfl ?_
      refine E_aload_n d_MOD_write_91 rfl rfl ?_
      refine L_gi d_MOD_write_92 f_MOD_97 rfl (by decide) rfl (fr_M 0 24) ?_
      refine E_tp (y := nI (p)) (by first | exact hp | exact (up2_ne2 _ _ _ _ (by decide)).trans hp | exact ((up2_ne2 _ _ _ _ (by decide)).trans (up2_ne2 _ _ _ _ (by decide))).trans hp | exact (((up2_ne2 _ _ _ _ (by decide)).trans (up2_ne2 _ _ _ _ (by decide))).trans (up2_ne2 _ _ _ _ (by decide))).trans hp) ?_
      refine E_iload_n d_MOD_write_95 rfl ?_
      refine E_iload d_MOD_write_96 rfl ?_
      refine E_iadd d_MOD_write_98 ?_
      refine E_tp (y := nI (b + 1)) (nI_add b 1) ?_
      refine E_iload_n d_MOD_write_99 rfl ?_
      refine E_bipush (v := 8) d_MOD_write_100 (by decide) ?_
      refine E_iload d_MOD_write_102 rfl ?_
      refine E_imul d_MOD_write_104 ?_
      refine E_tp (y := nI (8)) (pk_mul 8 1) ?_
      refine E_ishr d_MOD_write_105 ?_
      refine E_V3v d_MOD_write_106 w_MOD_175 rfl (by decide) (Nat.le_of_ble_eq_true rfl) (c_putByte hp8 hs8 (by omega) (by first | exact hpg | exact g1 | exact g2 | exact g3)) ?_
      rintro _ rfl
      refine E_iinc (v := 2) d_MOD_write_109 rfl (by decide) (by decide) ?_
      refine E_goto (tgt := 83) d_MOD_write_112 (by decide) ?_
      refine E_iload d_MOD_write_83 rfl ?_
      refine E_iload d_MOD_write_85 rfl ?_
      refine E_icmp_ge (tgt := 115) d_MOD_write_87 (by decide) (fun c => absurd c (by decide)) (fun _ => ?_)
      refine E_aload_n d_MOD_write_90 rfl rfl ?_
      refine E_aload_n d_MOD_write_91 rfl rfl ?_
      refine L_gi d_MOD_write_92 f_MOD_97 rfl (by decide) rfl (fr_M 0 24) ?_
      refine E_tp (y := nI (p)) (by first | exact hp | exact (up2_ne2 _ _ _ _ (by decide)).trans hp | exact ((up2_ne2 _ _ _ _ (by decide)).trans (up2_ne2 _ _ _ _ (by decide))).trans hp | exact (((up2_ne2 _ _ _ _ (by decide)).trans (up2_ne2 _ _ _ _ (by decide))).trans (up2_ne2 _ _ _ _ (by decide))).trans hp) ?_
      refine E_iload_n d_MOD_write_95 rfl ?_
      refine E_iload d_MOD_write_96 rfl ?_
      refine E_iadd d_MOD_write_98 ?_
      refine E_tp (y := nI (b + 2)) (nI_add b 2) ?_
      refine E_iload_n d_MOD_write_99 rfl ?_
      refine E_bipush (v := 8) d_MOD_write_100 (by decide) ?_
      refine E_iload d_MOD_write_102 rfl ?_
      refine E_imul d_MOD_write_104 ?_
      refine E_tp (y := nI (16)) (pk_mul 8 2) ?_
      refine E_ishr d_MOD_write_105 ?_
      refine E_V3v d_MOD_write_106 w_MOD_175 rfl (by decide) (Nat.le_of_ble_eq_true rfl) (c_putByte hp8 hs8 (by omega) (by first | exact hpg | exact g1 | exact g2 | exact g3)) ?_
      rintro _ rfl
      refine E_iinc (v := 3) d_MOD_write_109 rfl (by decide) (by decide) ?_
      refine E_goto (tgt := 83) d_MOD_write_112 (by decide) ?_
      refine E_iload d_MOD_write_83 rfl ?_
      refine E_iload d_MOD_write_85 rfl ?_
      refine E_icmp_ge (tgt := 115) d_MOD_write_87 (by decide) (fun c => absurd c (by decide)) (fun _ => ?_)
      refine E_aload_n d_MOD_write_90 rfl rfl ?_
      refine E_aload_n d_MOD_write_91 rfl rfl ?_
      refine L_gi d_MOD_write_92 f_MOD_97 rfl (by decide) rfl (fr_M 0 24) ?_
      refine E_tp (y := nI (p)) (by first | exact hp | exact (up2_ne2 _ _ _ _ (by decide)).trans hp | exact ((up2_ne2 _ _ _ _ (by decide)).trans (up2_ne2 _ _ _ _ (by decide))).trans hp | exact (((up2_ne2 _ _ _ _ (by decide)).trans (up2_ne2 _ _ _ _ (by decide))).trans (up2_ne2 _ _ _ _ (by decide))).trans hp) ?_
      refine E_iload_n d_MOD_write_95 rfl ?_
      refine E_iload d_MOD_write_96 rfl ?_
      refine E_iadd d_MOD_write_98 ?_
      refine E_tp (y := nI (b + 3)) (nI_add b 3) ?_
      refine E_iload_n d_MOD_write_99 rfl ?_
      refine E_bipush (v := 8) d_MOD_write_100 (by decide) ?_
      refine E_iload d_MOD_write_102 rfl ?_
      refine E_imul d_MOD_write_104 ?_
      refine E_tp (y := nI (24)) (pk_mul 8 3) ?_
      refine E_ishr d_MOD_write_105 ?_
      refine E_V3v d_MOD_write_106 w_MOD_175 rfl (by decide) (Nat.le_of_ble_eq_true rfl) (c_putByte hp8 hs8 (by omega) (by first | exact hpg | exact g1 | exact g2 | exact g3)) ?_
      rintro _ rfl
      refine E_iinc (v := 4) d_MOD_write_109 rfl (by decide) (by decide) ?_
      refine E_goto (tgt := 83) d_MOD_write_112 (by decide) ?_
      refine E_iload d_MOD_write_83 rfl ?_
      refine E_iload d_MOD_write_85 rfl ?_
      refine E_icmp_ge (tgt := 115) d_MOD_write_87 (by decide) (fun _ => ?_) (fun c => absurd (by decide) c)
      exact E_return d_MOD_write_115 rfl rfl ⟨rfl, by rw [wrtM, ← hf, ← ea, ← hv, show now 2 = 4 from rfl, wrtF_ok (by decide) hok, nv_nI (by omega)]; rfl⟩
    · have er : rchM M p a 4 6 s m 0 27 = 0 := rch_no (n := 4) hok hp
      refine E_aload_n d_MOD_write_67 rfl rfl ?_
      refine E_iload_n d_MOD_write_68 rfl ?_
      refine E_iload d_MOD_write_69 rfl ?_
      refine E_bipush (v := 6) d_MOD_write_71 (by decide) ?_
      refine E_V3i d_MOD_write_73 w_MOD_168 rfl (by decide) (Nat.le_of_ble_eq_true rfl) (c_MOD_reach hp hp8 hm hm9 hs (by decide) hgo) ?_
      rintro _ _ ⟨rfl, rfl⟩
      refine E_tp (y := nI (0)) er ?_
      refine E_if_ne (tgt := 80) d_MOD_write_76 (by decide) (fun c => absurd (by decide) c) (fun _ => ?_)
      exact E_return d_MOD_write_79 rfl rfl ⟨rfl, by rw [wrtM, ← hf, ← ea, ← hv, show now 2 = 4 from rfl, wrtF_no (by decide) hok]; rfl⟩
  · refine E_iload_n d_MOD_write_36 rfl ?_
    refine E_iconst (v := 2) d_MOD_write_37 (by decide) ?_
    refine E_icmp_le (tgt := 47) d_MOD_write_38 (by decide) (fun c => absurd c (nI_ge (a := 2) (by omega) (by omega))) (fun _ => ?_)
    refine E_aload_n d_MOD_write_41 rfl rfl ?_
    refine E_iconst (v := 2) d_MOD_write_42 (by decide) ?_
    refine E_V1v d_MOD_write_43 w_MOD_128 rfl (by decide) (Nat.le_of_ble_eq_true rfl) (c_MOD_fault hp hp8 hm hm9) ?_
    rintro _ rfl
    exact E_return d_MOD_write_46 rfl rfl ⟨rfl, by rw [wrtM, ← hf, wrtF_bad hbad]⟩
end
