section
-- ===== PART A: goes FIRST, ahead of the names: the tables' words, and 'selects' of the private methods out of them =====
/-- a private method of a class that the tables say can be made, by its rows of tables_1 -/
def lw_okq (q : MethodName × Nat) : Prop := (q.1.cls ≠ "java/lang/invoke/MethodHandle" ∧ q.1.cls ≠ "java/lang/invoke/VarHandle") ∧ Cond.instantiable q.1.cls q.2 ∈ tables_1 ∧ Cond.privateMethod q.1 ∈ tables_1 ∧ Cond.instanceMethod q.1 ∈ tables_1
theorem lw_p0 : lw_okq (⟨"java/lang/Throwable", "fillInStackTrace", "(I)Ljava/lang/Throwable;"⟩, 6) := ⟨⟨by decide +kernel, by decide +kernel⟩, List.mem_of_getElem? (i := 245) (by decide +kernel), List.mem_of_getElem? (i := 243) (by decide +kernel), List.mem_of_getElem? (i := 244) (by decide +kernel)⟩
theorem lw_p1 : lw_okq (⟨"VipBoard$Processor", "register", "(I)I"⟩, 12) := ⟨⟨by decide +kernel, by decide +kernel⟩, List.mem_of_getElem? (i := 94) (by decide +kernel), List.mem_of_getElem? (i := 308) (by decide +kernel), List.mem_of_getElem? (i := 309) (by decide +kernel)⟩
theorem lw_p2 : lw_okq (⟨"VipBoard$Processor", "putRegister", "(II)V"⟩, 12) := ⟨⟨by decide +kernel, by decide +kernel⟩, List.mem_of_getElem? (i := 94) (by decide +kernel), List.mem_of_getElem? (i := 329) (by decide +kernel), List.mem_of_getElem? (i := 330) (by decide +kernel)⟩
theorem lw_p3 : lw_okq (⟨"VipBoard$Processor", "take", "(I)I"⟩, 12) := ⟨⟨by decide +kernel, by decide +kernel⟩, List.mem_of_getElem? (i := 94) (by decide +kernel), List.mem_of_getElem? (i := 357) (by decide +kernel), List.mem_of_getElem? (i := 358) (by decide +kernel)⟩
theorem lw_p4 : lw_okq (⟨"VipBoard$Processor", "execute", "(II)V"⟩, 12) := ⟨⟨by decide +kernel, by decide +kernel⟩, List.mem_of_getElem? (i := 94) (by decide +kernel), List.mem_of_getElem? (i := 362) (by decide +kernel), List.mem_of_getElem? (i := 363) (by decide +kernel)⟩
theorem lw_p5 : lw_okq (⟨"VipBoard$Processor", "loadOrIdle", "(I)V"⟩, 12) := ⟨⟨by decide +kernel, by decide +kernel⟩, List.mem_of_getElem? (i := 94) (by decide +kernel), List.mem_of_getElem? (i := 366) (by decide +kernel), List.mem_of_getElem? (i := 367) (by decide +kernel)⟩
theorem lw_p6 : lw_okq (⟨"VipBoard$Processor", "at", "(I)I"⟩, 12) := ⟨⟨by decide +kernel, by decide +kernel⟩, List.mem_of_getElem? (i := 94) (by decide +kernel), List.mem_of_getElem? (i := 370) (by decide +kernel), List.mem_of_getElem? (i := 371) (by decide +kernel)⟩
theorem lw_p7 : lw_okq (⟨"VipBoard$Processor", "grow", "(II)V"⟩, 12) := ⟨⟨by decide +kernel, by decide +kernel⟩, List.mem_of_getElem? (i := 94) (by decide +kernel), List.mem_of_getElem? (i := 374) (by decide +kernel), List.mem_of_getElem? (i := 375) (by decide +kernel)⟩
theorem lw_p8 : lw_okq (⟨"VipBoard$Processor", "branch", "(I)V"⟩, 12) := ⟨⟨by decide +kernel, by decide +kernel⟩, List.mem_of_getElem? (i := 94) (by decide +kernel), List.mem_of_getElem? (i := 378) (by decide +kernel), List.mem_of_getElem? (i := 379) (by decide +kernel)⟩
theorem lw_p9 : lw_okq (⟨"VipBoard$Processor", "holds", "(I)Z"⟩, 12) := ⟨⟨by decide +kernel, by decide +kernel⟩, List.mem_of_getElem? (i := 94) (by decide +kernel), List.mem_of_getElem? (i := 382) (by decide +kernel), List.mem_of_getElem? (i := 383) (by decide +kernel)⟩
theorem lw_p10 : lw_okq (⟨"VipBoard$Processor", "putAt", "(II)V"⟩, 12) := ⟨⟨by decide +kernel, by decide +kernel⟩, List.mem_of_getElem? (i := 94) (by decide +kernel), List.mem_of_getElem? (i := 395) (by decide +kernel), List.mem_of_getElem? (i := 396) (by decide +kernel)⟩
theorem lw_p11 : lw_okq (⟨"VipBoard$Processor", "transfer", "(I)V"⟩, 12) := ⟨⟨by decide +kernel, by decide +kernel⟩, List.mem_of_getElem? (i := 94) (by decide +kernel), List.mem_of_getElem? (i := 400) (by decide +kernel), List.mem_of_getElem? (i := 401) (by decide +kernel)⟩
theorem lw_p12 : lw_okq (⟨"VipBoard$Processor", "output", "(II)V"⟩, 12) := ⟨⟨by decide +kernel, by decide +kernel⟩, List.mem_of_getElem? (i := 94) (by decide +kernel), List.mem_of_getElem? (i := 404) (by decide +kernel), List.mem_of_getElem? (i := 405) (by decide +kernel)⟩
theorem lw_p13 : lw_okq (⟨"VipBoard$Processor", "control", "(I)V"⟩, 12) := ⟨⟨by decide +kernel, by decide +kernel⟩, List.mem_of_getElem? (i := 94) (by decide +kernel), List.mem_of_getElem? (i := 416) (by decide +kernel), List.mem_of_getElem? (i := 417) (by decide +kernel)⟩
theorem lw_p14 : lw_okq (⟨"VipBoard$Processor", "resume", "(I)V"⟩, 12) := ⟨⟨by decide +kernel, by decide +kernel⟩, List.mem_of_getElem? (i := 94) (by decide +kernel), List.mem_of_getElem? (i := 420) (by decide +kernel), List.mem_of_getElem? (i := 421) (by decide +kernel)⟩
theorem lw_p15 : lw_okq (⟨"VipBoard$Processor", "shiftRight", "(I)V"⟩, 12) := ⟨⟨by decide +kernel, by decide +kernel⟩, List.mem_of_getElem? (i := 94) (by decide +kernel), List.mem_of_getElem? (i := 424) (by decide +kernel), List.mem_of_getElem? (i := 425) (by decide +kernel)⟩
def lw_privs_1 : List (MethodName × Nat) := [(⟨"java/lang/Throwable", "fillInStackTrace", "(I)Ljava/lang/Throwable;"⟩, 6), (⟨"VipBoard$Processor", "register", "(I)I"⟩, 12), (⟨"VipBoard$Processor", "putRegister", "(II)V"⟩, 12), (⟨"VipBoard$Processor", "take", "(I)I"⟩, 12), (⟨"VipBoard$Processor", "execute", "(II)V"⟩, 12), (⟨"VipBoard$Processor", "loadOrIdle", "(I)V"⟩, 12), (⟨"VipBoard$Processor", "at", "(I)I"⟩, 12), (⟨"VipBoard$Processor", "grow", "(II)V"⟩, 12), (⟨"VipBoard$Processor", "branch", "(I)V"⟩, 12), (⟨"VipBoard$Processor", "holds", "(I)Z"⟩, 12), (⟨"VipBoard$Processor", "putAt", "(II)V"⟩, 12), (⟨"VipBoard$Processor", "transfer", "(I)V"⟩, 12), (⟨"VipBoard$Processor", "output", "(II)V"⟩, 12), (⟨"VipBoard$Processor", "control", "(I)V"⟩, 12), (⟨"VipBoard$Processor", "resume", "(I)V"⟩, 12), (⟨"VipBoard$Processor", "shiftRight", "(I)V"⟩, 12)]
theorem lw_r1 : ∀ q ∈ lw_privs_1, lw_okq q := List.forall_mem_cons.mpr ⟨lw_p0, List.forall_mem_cons.mpr ⟨lw_p1, List.forall_mem_cons.mpr ⟨lw_p2, List.forall_mem_cons.mpr ⟨lw_p3, List.forall_mem_cons.mpr ⟨lw_p4, List.forall_mem_cons.mpr ⟨lw_p5, List.forall_mem_cons.mpr ⟨lw_p6, List.forall_mem_cons.mpr ⟨lw_p7, List.forall_mem_cons.mpr ⟨lw_p8, List.forall_mem_cons.mpr ⟨lw_p9, List.forall_mem_cons.mpr ⟨lw_p10, List.forall_mem_cons.mpr ⟨lw_p11, List.forall_mem_cons.mpr ⟨lw_p12, List.forall_mem_cons.mpr ⟨lw_p13, List.forall_mem_cons.mpr ⟨lw_p14, List.forall_mem_cons.mpr ⟨lw_p15, fun _ h => absurd h List.not_mem_nil⟩⟩⟩⟩⟩⟩⟩⟩⟩⟩⟩⟩⟩⟩⟩⟩
theorem lw_p16 : lw_okq (⟨"VipBoard$Processor", "mark", "()V"⟩, 12) := ⟨⟨by decide +kernel, by decide +kernel⟩, List.mem_of_getElem? (i := 94) (by decide +kernel), List.mem_of_getElem? (i := 428) (by decide +kernel), List.mem_of_getElem? (i := 429) (by decide +kernel)⟩
theorem lw_p17 : lw_okq (⟨"VipBoard$Processor", "shiftLeft", "(I)V"⟩, 12) := ⟨⟨by decide +kernel, by decide +kernel⟩, List.mem_of_getElem? (i := 94) (by decide +kernel), List.mem_of_getElem? (i := 432) (by decide +kernel), List.mem_of_getElem? (i := 433) (by decide +kernel)⟩
theorem lw_p18 : lw_okq (⟨"VipBoard$Processor", "operand", "(I)I"⟩, 12) := ⟨⟨by decide +kernel, by decide +kernel⟩, List.mem_of_getElem? (i := 94) (by decide +kernel), List.mem_of_getElem? (i := 436) (by decide +kernel), List.mem_of_getElem? (i := 437) (by decide +kernel)⟩
theorem lw_p19 : lw_okq (⟨"VipBoard$Processor", "combine", "(IIII)V"⟩, 12) := ⟨⟨by decide +kernel, by decide +kernel⟩, List.mem_of_getElem? (i := 94) (by decide +kernel), List.mem_of_getElem? (i := 440) (by decide +kernel), List.mem_of_getElem? (i := 441) (by decide +kernel)⟩
theorem lw_p20 : lw_okq (⟨"VipBoard$Processor", "add", "(II)V"⟩, 12) := ⟨⟨by decide +kernel, by decide +kernel⟩, List.mem_of_getElem? (i := 94) (by decide +kernel), List.mem_of_getElem? (i := 444) (by decide +kernel), List.mem_of_getElem? (i := 445) (by decide +kernel)⟩
theorem lw_p21 : lw_okq (⟨"VipBoard$Processor", "subtract", "(III)V"⟩, 12) := ⟨⟨by decide +kernel, by decide +kernel⟩, List.mem_of_getElem? (i := 94) (by decide +kernel), List.mem_of_getElem? (i := 448) (by decide +kernel), List.mem_of_getElem? (i := 449) (by decide +kernel)⟩
theorem lw_p22 : lw_okq (⟨"VipBoard$Processor", "goFar", "(I)V"⟩, 12) := ⟨⟨by decide +kernel, by decide +kernel⟩, List.mem_of_getElem? (i := 94) (by decide +kernel), List.mem_of_getElem? (i := 452) (by decide +kernel), List.mem_of_getElem? (i := 453) (by decide +kernel)⟩
theorem lw_p23 : lw_okq (⟨"VipBoard$Processor", "branchFar", "(I)V"⟩, 12) := ⟨⟨by decide +kernel, by decide +kernel⟩, List.mem_of_getElem? (i := 94) (by decide +kernel), List.mem_of_getElem? (i := 456) (by decide +kernel), List.mem_of_getElem? (i := 457) (by decide +kernel)⟩
theorem lw_p24 : lw_okq (⟨"VipBoard$Processor", "skips", "(I)Z"⟩, 12) := ⟨⟨by decide +kernel, by decide +kernel⟩, List.mem_of_getElem? (i := 94) (by decide +kernel), List.mem_of_getElem? (i := 465) (by decide +kernel), List.mem_of_getElem? (i := 466) (by decide +kernel)⟩
theorem lw_p25 : lw_okq (⟨"VipBoard$Processor", "calculate", "(I)V"⟩, 12) := ⟨⟨by decide +kernel, by decide +kernel⟩, List.mem_of_getElem? (i := 94) (by decide +kernel), List.mem_of_getElem? (i := 469) (by decide +kernel), List.mem_of_getElem? (i := 470) (by decide +kernel)⟩
theorem lw_p26 : lw_okq (⟨"VipBoard$Picture", "endLine", "()V"⟩, 8) := ⟨⟨by decide +kernel, by decide +kernel⟩, List.mem_of_getElem? (i := 63) (by decide +kernel), List.mem_of_getElem? (i := 477) (by decide +kernel), List.mem_of_getElem? (i := 478) (by decide +kernel)⟩
theorem lw_p27 : lw_okq (⟨"VipBoard", "letVideoAct", "()I"⟩, 6) := ⟨⟨by decide +kernel, by decide +kernel⟩, List.mem_of_getElem? (i := 17) (by decide +kernel), List.mem_of_getElem? (i := 485) (by decide +kernel), List.mem_of_getElem? (i := 486) (by decide +kernel)⟩
theorem lw_p28 : lw_okq (⟨"VipBoard$Picture", "isShownLine", "()Z"⟩, 8) := ⟨⟨by decide +kernel, by decide +kernel⟩, List.mem_of_getElem? (i := 63) (by decide +kernel), List.mem_of_getElem? (i := 493) (by decide +kernel), List.mem_of_getElem? (i := 494) (by decide +kernel)⟩
theorem lw_p29 : lw_okq (⟨"VipBoard", "fetchRow", "()V"⟩, 6) := ⟨⟨by decide +kernel, by decide +kernel⟩, List.mem_of_getElem? (i := 17) (by decide +kernel), List.mem_of_getElem? (i := 497) (by decide +kernel), List.mem_of_getElem? (i := 498) (by decide +kernel)⟩
theorem lw_p30 : lw_okq (⟨"VipBoard$Language", "jump", "(I)V"⟩, 9) := ⟨⟨by decide +kernel, by decide +kernel⟩, List.mem_of_getElem? (i := 137) (by decide +kernel), List.mem_of_getElem? (i := 582) (by decide +kernel), List.mem_of_getElem? (i := 583) (by decide +kernel)⟩
theorem lw_p31 : lw_okq (⟨"VipBoard$Language", "execute", "(I)I"⟩, 9) := ⟨⟨by decide +kernel, by decide +kernel⟩, List.mem_of_getElem? (i := 137) (by decide +kernel), List.mem_of_getElem? (i := 586) (by decide +kernel), List.mem_of_getElem? (i := 587) (by decide +kernel)⟩
def lw_privs_2 : List (MethodName × Nat) := [(⟨"VipBoard$Processor", "mark", "()V"⟩, 12), (⟨"VipBoard$Processor", "shiftLeft", "(I)V"⟩, 12), (⟨"VipBoard$Processor", "operand", "(I)I"⟩, 12), (⟨"VipBoard$Processor", "combine", "(IIII)V"⟩, 12), (⟨"VipBoard$Processor", "add", "(II)V"⟩, 12), (⟨"VipBoard$Processor", "subtract", "(III)V"⟩, 12), (⟨"VipBoard$Processor", "goFar", "(I)V"⟩, 12), (⟨"VipBoard$Processor", "branchFar", "(I)V"⟩, 12), (⟨"VipBoard$Processor", "skips", "(I)Z"⟩, 12), (⟨"VipBoard$Processor", "calculate", "(I)V"⟩, 12), (⟨"VipBoard$Picture", "endLine", "()V"⟩, 8), (⟨"VipBoard", "letVideoAct", "()I"⟩, 6), (⟨"VipBoard$Picture", "isShownLine", "()Z"⟩, 8), (⟨"VipBoard", "fetchRow", "()V"⟩, 6), (⟨"VipBoard$Language", "jump", "(I)V"⟩, 9), (⟨"VipBoard$Language", "execute", "(I)I"⟩, 9)]
theorem lw_r2 : ∀ q ∈ lw_privs_2, lw_okq q := List.forall_mem_cons.mpr ⟨lw_p16, List.forall_mem_cons.mpr ⟨lw_p17, List.forall_mem_cons.mpr ⟨lw_p18, List.forall_mem_cons.mpr ⟨lw_p19, List.forall_mem_cons.mpr ⟨lw_p20, List.forall_mem_cons.mpr ⟨lw_p21, List.forall_mem_cons.mpr ⟨lw_p22, List.forall_mem_cons.mpr ⟨lw_p23, List.forall_mem_cons.mpr ⟨lw_p24, List.forall_mem_cons.mpr ⟨lw_p25, List.forall_mem_cons.mpr ⟨lw_p26, List.forall_mem_cons.mpr ⟨lw_p27, List.forall_mem_cons.mpr ⟨lw_p28, List.forall_mem_cons.mpr ⟨lw_p29, List.forall_mem_cons.mpr ⟨lw_p30, List.forall_mem_cons.mpr ⟨lw_p31, fun _ h => absurd h List.not_mem_nil⟩⟩⟩⟩⟩⟩⟩⟩⟩⟩⟩⟩⟩⟩⟩⟩
theorem lw_p32 : lw_okq (⟨"VipBoard$Language", "clearOrLeave", "(I)I"⟩, 9) := ⟨⟨by decide +kernel, by decide +kernel⟩, List.mem_of_getElem? (i := 137) (by decide +kernel), List.mem_of_getElem? (i := 590) (by decide +kernel), List.mem_of_getElem? (i := 591) (by decide +kernel)⟩
theorem lw_p33 : lw_okq (⟨"VipBoard$Language", "clear", "()V"⟩, 9) := ⟨⟨by decide +kernel, by decide +kernel⟩, List.mem_of_getElem? (i := 137) (by decide +kernel), List.mem_of_getElem? (i := 594) (by decide +kernel), List.mem_of_getElem? (i := 595) (by decide +kernel)⟩
theorem lw_p34 : lw_okq (⟨"VipBoard$Language", "leave", "()I"⟩, 9) := ⟨⟨by decide +kernel, by decide +kernel⟩, List.mem_of_getElem? (i := 137) (by decide +kernel), List.mem_of_getElem? (i := 599) (by decide +kernel), List.mem_of_getElem? (i := 600) (by decide +kernel)⟩
theorem lw_p35 : lw_okq (⟨"VipBoard$Language", "enter", "(I)I"⟩, 9) := ⟨⟨by decide +kernel, by decide +kernel⟩, List.mem_of_getElem? (i := 137) (by decide +kernel), List.mem_of_getElem? (i := 603) (by decide +kernel), List.mem_of_getElem? (i := 604) (by decide +kernel)⟩
theorem lw_p36 : lw_okq (⟨"VipBoard$Language", "variable", "(I)I"⟩, 9) := ⟨⟨by decide +kernel, by decide +kernel⟩, List.mem_of_getElem? (i := 137) (by decide +kernel), List.mem_of_getElem? (i := 607) (by decide +kernel), List.mem_of_getElem? (i := 608) (by decide +kernel)⟩
theorem lw_p37 : lw_okq (⟨"VipBoard$Language", "skipIf", "(Z)I"⟩, 9) := ⟨⟨by decide +kernel, by decide +kernel⟩, List.mem_of_getElem? (i := 137) (by decide +kernel), List.mem_of_getElem? (i := 611) (by decide +kernel), List.mem_of_getElem? (i := 612) (by decide +kernel)⟩
theorem lw_p38 : lw_okq (⟨"VipBoard$Language", "compare", "(IZ)I"⟩, 9) := ⟨⟨by decide +kernel, by decide +kernel⟩, List.mem_of_getElem? (i := 137) (by decide +kernel), List.mem_of_getElem? (i := 615) (by decide +kernel), List.mem_of_getElem? (i := 616) (by decide +kernel)⟩
theorem lw_p39 : lw_okq (⟨"VipBoard$Language", "putVariable", "(II)V"⟩, 9) := ⟨⟨by decide +kernel, by decide +kernel⟩, List.mem_of_getElem? (i := 137) (by decide +kernel), List.mem_of_getElem? (i := 619) (by decide +kernel), List.mem_of_getElem? (i := 620) (by decide +kernel)⟩
theorem lw_p40 : lw_okq (⟨"VipBoard$Language", "combine", "(III)I"⟩, 9) := ⟨⟨by decide +kernel, by decide +kernel⟩, List.mem_of_getElem? (i := 137) (by decide +kernel), List.mem_of_getElem? (i := 623) (by decide +kernel), List.mem_of_getElem? (i := 624) (by decide +kernel)⟩
theorem lw_p41 : lw_okq (⟨"VipBoard$Language", "putWithFlag", "(IIZ)I"⟩, 9) := ⟨⟨by decide +kernel, by decide +kernel⟩, List.mem_of_getElem? (i := 137) (by decide +kernel), List.mem_of_getElem? (i := 627) (by decide +kernel), List.mem_of_getElem? (i := 628) (by decide +kernel)⟩
theorem lw_p42 : lw_okq (⟨"VipBoard$Language", "putIndex", "(I)V"⟩, 9) := ⟨⟨by decide +kernel, by decide +kernel⟩, List.mem_of_getElem? (i := 137) (by decide +kernel), List.mem_of_getElem? (i := 631) (by decide +kernel), List.mem_of_getElem? (i := 632) (by decide +kernel)⟩
theorem lw_p43 : lw_okq (⟨"VipBoard$Language", "draw", "(III)V"⟩, 9) := ⟨⟨by decide +kernel, by decide +kernel⟩, List.mem_of_getElem? (i := 137) (by decide +kernel), List.mem_of_getElem? (i := 635) (by decide +kernel), List.mem_of_getElem? (i := 636) (by decide +kernel)⟩
theorem lw_p44 : lw_okq (⟨"VipBoard$Language", "drawByte", "(III)Z"⟩, 9) := ⟨⟨by decide +kernel, by decide +kernel⟩, List.mem_of_getElem? (i := 137) (by decide +kernel), List.mem_of_getElem? (i := 640) (by decide +kernel), List.mem_of_getElem? (i := 641) (by decide +kernel)⟩
theorem lw_p45 : lw_okq (⟨"VipBoard$Language", "flip", "(II)Z"⟩, 9) := ⟨⟨by decide +kernel, by decide +kernel⟩, List.mem_of_getElem? (i := 137) (by decide +kernel), List.mem_of_getElem? (i := 644) (by decide +kernel), List.mem_of_getElem? (i := 645) (by decide +kernel)⟩
theorem lw_p46 : lw_okq (⟨"VipBoard$Language", "skipByKey", "(IZ)I"⟩, 9) := ⟨⟨by decide +kernel, by decide +kernel⟩, List.mem_of_getElem? (i := 137) (by decide +kernel), List.mem_of_getElem? (i := 652) (by decide +kernel), List.mem_of_getElem? (i := 653) (by decide +kernel)⟩
theorem lw_p47 : lw_okq (⟨"VipBoard$Language", "executeStore", "(II)I"⟩, 9) := ⟨⟨by decide +kernel, by decide +kernel⟩, List.mem_of_getElem? (i := 137) (by decide +kernel), List.mem_of_getElem? (i := 656) (by decide +kernel), List.mem_of_getElem? (i := 657) (by decide +kernel)⟩
def lw_privs_3 : List (MethodName × Nat) := [(⟨"VipBoard$Language", "clearOrLeave", "(I)I"⟩, 9), (⟨"VipBoard$Language", "clear", "()V"⟩, 9), (⟨"VipBoard$Language", "leave", "()I"⟩, 9), (⟨"VipBoard$Language", "enter", "(I)I"⟩, 9), (⟨"VipBoard$Language", "variable", "(I)I"⟩, 9), (⟨"VipBoard$Language", "skipIf", "(Z)I"⟩, 9), (⟨"VipBoard$Language", "compare", "(IZ)I"⟩, 9), (⟨"VipBoard$Language", "putVariable", "(II)V"⟩, 9), (⟨"VipBoard$Language", "combine", "(III)I"⟩, 9), (⟨"VipBoard$Language", "putWithFlag", "(IIZ)I"⟩, 9), (⟨"VipBoard$Language", "putIndex", "(I)V"⟩, 9), (⟨"VipBoard$Language", "draw", "(III)V"⟩, 9), (⟨"VipBoard$Language", "drawByte", "(III)Z"⟩, 9), (⟨"VipBoard$Language", "flip", "(II)Z"⟩, 9), (⟨"VipBoard$Language", "skipByKey", "(IZ)I"⟩, 9), (⟨"VipBoard$Language", "executeStore", "(II)I"⟩, 9)]
theorem lw_r3 : ∀ q ∈ lw_privs_3, lw_okq q := List.forall_mem_cons.mpr ⟨lw_p32, List.forall_mem_cons.mpr ⟨lw_p33, List.forall_mem_cons.mpr ⟨lw_p34, List.forall_mem_cons.mpr ⟨lw_p35, List.forall_mem_cons.mpr ⟨lw_p36, List.forall_mem_cons.mpr ⟨lw_p37, List.forall_mem_cons.mpr ⟨lw_p38, List.forall_mem_cons.mpr ⟨lw_p39, List.forall_mem_cons.mpr ⟨lw_p40, List.forall_mem_cons.mpr ⟨lw_p41, List.forall_mem_cons.mpr ⟨lw_p42, List.forall_mem_cons.mpr ⟨lw_p43, List.forall_mem_cons.mpr ⟨lw_p44, List.forall_mem_cons.mpr ⟨lw_p45, List.forall_mem_cons.mpr ⟨lw_p46, List.forall_mem_cons.mpr ⟨lw_p47, fun _ h => absurd h List.not_mem_nil⟩⟩⟩⟩⟩⟩⟩⟩⟩⟩⟩⟩⟩⟩⟩⟩
theorem lw_p48 : lw_okq (⟨"VipBoard$Language", "putDigits", "(I)V"⟩, 9) := ⟨⟨by decide +kernel, by decide +kernel⟩, List.mem_of_getElem? (i := 137) (by decide +kernel), List.mem_of_getElem? (i := 660) (by decide +kernel), List.mem_of_getElem? (i := 661) (by decide +kernel)⟩
theorem lw_p49 : lw_okq (⟨"VipBoard$Language", "saveVariables", "(I)V"⟩, 9) := ⟨⟨by decide +kernel, by decide +kernel⟩, List.mem_of_getElem? (i := 137) (by decide +kernel), List.mem_of_getElem? (i := 664) (by decide +kernel), List.mem_of_getElem? (i := 665) (by decide +kernel)⟩
theorem lw_p50 : lw_okq (⟨"VipBoard$Language", "loadVariables", "(I)V"⟩, 9) := ⟨⟨by decide +kernel, by decide +kernel⟩, List.mem_of_getElem? (i := 137) (by decide +kernel), List.mem_of_getElem? (i := 668) (by decide +kernel), List.mem_of_getElem? (i := 669) (by decide +kernel)⟩
theorem lw_p51 : lw_okq (⟨"VipBoard$Language", "executeSystem", "(II)I"⟩, 9) := ⟨⟨by decide +kernel, by decide +kernel⟩, List.mem_of_getElem? (i := 137) (by decide +kernel), List.mem_of_getElem? (i := 672) (by decide +kernel), List.mem_of_getElem? (i := 673) (by decide +kernel)⟩
theorem lw_p52 : lw_okq (⟨"VipBoard$Language", "takeKey", "(I)I"⟩, 9) := ⟨⟨by decide +kernel, by decide +kernel⟩, List.mem_of_getElem? (i := 137) (by decide +kernel), List.mem_of_getElem? (i := 680) (by decide +kernel), List.mem_of_getElem? (i := 681) (by decide +kernel)⟩
theorem lw_p53 : lw_okq (⟨"VipBoardModel", "fails", "(ZI)Z"⟩, 14) := ⟨⟨by decide +kernel, by decide +kernel⟩, List.mem_of_getElem? (i := 757) (by decide +kernel), List.mem_of_getElem? (i := 817) (by decide +kernel), List.mem_of_getElem? (i := 818) (by decide +kernel)⟩
theorem lw_p54 : lw_okq (⟨"VipBoardModel", "instruction", "()I"⟩, 14) := ⟨⟨by decide +kernel, by decide +kernel⟩, List.mem_of_getElem? (i := 757) (by decide +kernel), List.mem_of_getElem? (i := 838) (by decide +kernel), List.mem_of_getElem? (i := 839) (by decide +kernel)⟩
theorem lw_p55 : lw_okq (⟨"VipBoardModel", "next", "()I"⟩, 14) := ⟨⟨by decide +kernel, by decide +kernel⟩, List.mem_of_getElem? (i := 757) (by decide +kernel), List.mem_of_getElem? (i := 842) (by decide +kernel), List.mem_of_getElem? (i := 843) (by decide +kernel)⟩
theorem lw_p56 : lw_okq (⟨"VipBoardModel", "m", "(I)I"⟩, 14) := ⟨⟨by decide +kernel, by decide +kernel⟩, List.mem_of_getElem? (i := 757) (by decide +kernel), List.mem_of_getElem? (i := 846) (by decide +kernel), List.mem_of_getElem? (i := 847) (by decide +kernel)⟩
theorem lw_p57 : lw_okq (⟨"VipBoardModel", "byteAt", "(I)I"⟩, 14) := ⟨⟨by decide +kernel, by decide +kernel⟩, List.mem_of_getElem? (i := 757) (by decide +kernel), List.mem_of_getElem? (i := 850) (by decide +kernel), List.mem_of_getElem? (i := 851) (by decide +kernel)⟩
theorem lw_p58 : lw_okq (⟨"VipBoardModel", "grow", "(II)V"⟩, 14) := ⟨⟨by decide +kernel, by decide +kernel⟩, List.mem_of_getElem? (i := 757) (by decide +kernel), List.mem_of_getElem? (i := 854) (by decide +kernel), List.mem_of_getElem? (i := 855) (by decide +kernel)⟩
theorem lw_p59 : lw_okq (⟨"VipBoardModel", "branch", "(I)V"⟩, 14) := ⟨⟨by decide +kernel, by decide +kernel⟩, List.mem_of_getElem? (i := 757) (by decide +kernel), List.mem_of_getElem? (i := 859) (by decide +kernel), List.mem_of_getElem? (i := 860) (by decide +kernel)⟩
theorem lw_p60 : lw_okq (⟨"VipBoardModel", "isSo", "(I)Z"⟩, 14) := ⟨⟨by decide +kernel, by decide +kernel⟩, List.mem_of_getElem? (i := 757) (by decide +kernel), List.mem_of_getElem? (i := 863) (by decide +kernel), List.mem_of_getElem? (i := 864) (by decide +kernel)⟩
theorem lw_p61 : lw_okq (⟨"VipBoardModel", "isLight", "()Z"⟩, 14) := ⟨⟨by decide +kernel, by decide +kernel⟩, List.mem_of_getElem? (i := 757) (by decide +kernel), List.mem_of_getElem? (i := 867) (by decide +kernel), List.mem_of_getElem? (i := 868) (by decide +kernel)⟩
theorem lw_p62 : lw_okq (⟨"VipBoardModel", "low", "(II)V"⟩, 14) := ⟨⟨by decide +kernel, by decide +kernel⟩, List.mem_of_getElem? (i := 757) (by decide +kernel), List.mem_of_getElem? (i := 871) (by decide +kernel), List.mem_of_getElem? (i := 872) (by decide +kernel)⟩
theorem lw_p63 : lw_okq (⟨"VipBoardModel", "port", "(I)V"⟩, 14) := ⟨⟨by decide +kernel, by decide +kernel⟩, List.mem_of_getElem? (i := 757) (by decide +kernel), List.mem_of_getElem? (i := 876) (by decide +kernel), List.mem_of_getElem? (i := 877) (by decide +kernel)⟩
def lw_privs_4 : List (MethodName × Nat) := [(⟨"VipBoard$Language", "putDigits", "(I)V"⟩, 9), (⟨"VipBoard$Language", "saveVariables", "(I)V"⟩, 9), (⟨"VipBoard$Language", "loadVariables", "(I)V"⟩, 9), (⟨"VipBoard$Language", "executeSystem", "(II)I"⟩, 9), (⟨"VipBoard$Language", "takeKey", "(I)I"⟩, 9), (⟨"VipBoardModel", "fails", "(ZI)Z"⟩, 14), (⟨"VipBoardModel", "instruction", "()I"⟩, 14), (⟨"VipBoardModel", "next", "()I"⟩, 14), (⟨"VipBoardModel", "m", "(I)I"⟩, 14), (⟨"VipBoardModel", "byteAt", "(I)I"⟩, 14), (⟨"VipBoardModel", "grow", "(II)V"⟩, 14), (⟨"VipBoardModel", "branch", "(I)V"⟩, 14), (⟨"VipBoardModel", "isSo", "(I)Z"⟩, 14), (⟨"VipBoardModel", "isLight", "()Z"⟩, 14), (⟨"VipBoardModel", "low", "(II)V"⟩, 14), (⟨"VipBoardModel", "port", "(I)V"⟩, 14)]
theorem lw_r4 : ∀ q ∈ lw_privs_4, lw_okq q := List.forall_mem_cons.mpr ⟨lw_p48, List.forall_mem_cons.mpr ⟨lw_p49, List.forall_mem_cons.mpr ⟨lw_p50, List.forall_mem_cons.mpr ⟨lw_p51, List.forall_mem_cons.mpr ⟨lw_p52, List.forall_mem_cons.mpr ⟨lw_p53, List.forall_mem_cons.mpr ⟨lw_p54, List.forall_mem_cons.mpr ⟨lw_p55, List.forall_mem_cons.mpr ⟨lw_p56, List.forall_mem_cons.mpr ⟨lw_p57, List.forall_mem_cons.mpr ⟨lw_p58, List.forall_mem_cons.mpr ⟨lw_p59, List.forall_mem_cons.mpr ⟨lw_p60, List.forall_mem_cons.mpr ⟨lw_p61, List.forall_mem_cons.mpr ⟨lw_p62, List.forall_mem_cons.mpr ⟨lw_p63, fun _ h => absurd h List.not_mem_nil⟩⟩⟩⟩⟩⟩⟩⟩⟩⟩⟩⟩⟩⟩⟩⟩
theorem lw_p64 : lw_okq (⟨"VipBoardModel", "store", "(II)V"⟩, 14) := ⟨⟨by decide +kernel, by decide +kernel⟩, List.mem_of_getElem? (i := 757) (by decide +kernel), List.mem_of_getElem? (i := 880) (by decide +kernel), List.mem_of_getElem? (i := 881) (by decide +kernel)⟩
theorem lw_p65 : lw_okq (⟨"VipBoardModel", "seven", "(I)V"⟩, 14) := ⟨⟨by decide +kernel, by decide +kernel⟩, List.mem_of_getElem? (i := 757) (by decide +kernel), List.mem_of_getElem? (i := 884) (by decide +kernel), List.mem_of_getElem? (i := 885) (by decide +kernel)⟩
theorem lw_p66 : lw_okq (⟨"VipBoardModel", "comeBack", "(I)V"⟩, 14) := ⟨⟨by decide +kernel, by decide +kernel⟩, List.mem_of_getElem? (i := 757) (by decide +kernel), List.mem_of_getElem? (i := 888) (by decide +kernel), List.mem_of_getElem? (i := 889) (by decide +kernel)⟩
theorem lw_p67 : lw_okq (⟨"VipBoardModel", "right", "(I)V"⟩, 14) := ⟨⟨by decide +kernel, by decide +kernel⟩, List.mem_of_getElem? (i := 757) (by decide +kernel), List.mem_of_getElem? (i := 892) (by decide +kernel), List.mem_of_getElem? (i := 893) (by decide +kernel)⟩
theorem lw_p68 : lw_okq (⟨"VipBoardModel", "mark", "()V"⟩, 14) := ⟨⟨by decide +kernel, by decide +kernel⟩, List.mem_of_getElem? (i := 757) (by decide +kernel), List.mem_of_getElem? (i := 896) (by decide +kernel), List.mem_of_getElem? (i := 897) (by decide +kernel)⟩
theorem lw_p69 : lw_okq (⟨"VipBoardModel", "left", "(I)V"⟩, 14) := ⟨⟨by decide +kernel, by decide +kernel⟩, List.mem_of_getElem? (i := 757) (by decide +kernel), List.mem_of_getElem? (i := 900) (by decide +kernel), List.mem_of_getElem? (i := 901) (by decide +kernel)⟩
theorem lw_p70 : lw_okq (⟨"VipBoardModel", "carries", "(II)V"⟩, 14) := ⟨⟨by decide +kernel, by decide +kernel⟩, List.mem_of_getElem? (i := 757) (by decide +kernel), List.mem_of_getElem? (i := 904) (by decide +kernel), List.mem_of_getElem? (i := 905) (by decide +kernel)⟩
theorem lw_p71 : lw_okq (⟨"VipBoardModel", "sumOn", "(I)V"⟩, 14) := ⟨⟨by decide +kernel, by decide +kernel⟩, List.mem_of_getElem? (i := 757) (by decide +kernel), List.mem_of_getElem? (i := 908) (by decide +kernel), List.mem_of_getElem? (i := 909) (by decide +kernel)⟩
theorem lw_p72 : lw_okq (⟨"VipBoardModel", "less", "(III)V"⟩, 14) := ⟨⟨by decide +kernel, by decide +kernel⟩, List.mem_of_getElem? (i := 757) (by decide +kernel), List.mem_of_getElem? (i := 912) (by decide +kernel), List.mem_of_getElem? (i := 913) (by decide +kernel)⟩
theorem lw_p73 : lw_okq (⟨"VipBoardModel", "wide", "(I)V"⟩, 14) := ⟨⟨by decide +kernel, by decide +kernel⟩, List.mem_of_getElem? (i := 757) (by decide +kernel), List.mem_of_getElem? (i := 916) (by decide +kernel), List.mem_of_getElem? (i := 917) (by decide +kernel)⟩
theorem lw_p74 : lw_okq (⟨"VipBoardModel", "skips", "(I)Z"⟩, 14) := ⟨⟨by decide +kernel, by decide +kernel⟩, List.mem_of_getElem? (i := 757) (by decide +kernel), List.mem_of_getElem? (i := 920) (by decide +kernel), List.mem_of_getElem? (i := 921) (by decide +kernel)⟩
theorem lw_p75 : lw_okq (⟨"VipBoardModel", "reckon", "(I)V"⟩, 14) := ⟨⟨by decide +kernel, by decide +kernel⟩, List.mem_of_getElem? (i := 757) (by decide +kernel), List.mem_of_getElem? (i := 924) (by decide +kernel), List.mem_of_getElem? (i := 925) (by decide +kernel)⟩
theorem lw_p76 : lw_okq (⟨"VipBoardModel", "sum", "(II)V"⟩, 14) := ⟨⟨by decide +kernel, by decide +kernel⟩, List.mem_of_getElem? (i := 757) (by decide +kernel), List.mem_of_getElem? (i := 928) (by decide +kernel), List.mem_of_getElem? (i := 929) (by decide +kernel)⟩
theorem lw_p77 : lw_okq (⟨"VipBoardModel", "moves", "(II)V"⟩, 14) := ⟨⟨by decide +kernel, by decide +kernel⟩, List.mem_of_getElem? (i := 757) (by decide +kernel), List.mem_of_getElem? (i := 932) (by decide +kernel), List.mem_of_getElem? (i := 933) (by decide +kernel)⟩
theorem lw_p78 : lw_okq (⟨"VipBoardModel", "cycles", "(I)V"⟩, 14) := ⟨⟨by decide +kernel, by decide +kernel⟩, List.mem_of_getElem? (i := 757) (by decide +kernel), List.mem_of_getElem? (i := 936) (by decide +kernel), List.mem_of_getElem? (i := 937) (by decide +kernel)⟩
theorem lw_p79 : lw_okq (⟨"VipBoardModel", "cycle", "()V"⟩, 14) := ⟨⟨by decide +kernel, by decide +kernel⟩, List.mem_of_getElem? (i := 757) (by decide +kernel), List.mem_of_getElem? (i := 940) (by decide +kernel), List.mem_of_getElem? (i := 941) (by decide +kernel)⟩
def lw_privs_5 : List (MethodName × Nat) := [(⟨"VipBoardModel", "store", "(II)V"⟩, 14), (⟨"VipBoardModel", "seven", "(I)V"⟩, 14), (⟨"VipBoardModel", "comeBack", "(I)V"⟩, 14), (⟨"VipBoardModel", "right", "(I)V"⟩, 14), (⟨"VipBoardModel", "mark", "()V"⟩, 14), (⟨"VipBoardModel", "left", "(I)V"⟩, 14), (⟨"VipBoardModel", "carries", "(II)V"⟩, 14), (⟨"VipBoardModel", "sumOn", "(I)V"⟩, 14), (⟨"VipBoardModel", "less", "(III)V"⟩, 14), (⟨"VipBoardModel", "wide", "(I)V"⟩, 14), (⟨"VipBoardModel", "skips", "(I)Z"⟩, 14), (⟨"VipBoardModel", "reckon", "(I)V"⟩, 14), (⟨"VipBoardModel", "sum", "(II)V"⟩, 14), (⟨"VipBoardModel", "moves", "(II)V"⟩, 14), (⟨"VipBoardModel", "cycles", "(I)V"⟩, 14), (⟨"VipBoardModel", "cycle", "()V"⟩, 14)]
theorem lw_r5 : ∀ q ∈ lw_privs_5, lw_okq q := List.forall_mem_cons.mpr ⟨lw_p64, List.forall_mem_cons.mpr ⟨lw_p65, List.forall_mem_cons.mpr ⟨lw_p66, List.forall_mem_cons.mpr ⟨lw_p67, List.forall_mem_cons.mpr ⟨lw_p68, List.forall_mem_cons.mpr ⟨lw_p69, List.forall_mem_cons.mpr ⟨lw_p70, List.forall_mem_cons.mpr ⟨lw_p71, List.forall_mem_cons.mpr ⟨lw_p72, List.forall_mem_cons.mpr ⟨lw_p73, List.forall_mem_cons.mpr ⟨lw_p74, List.forall_mem_cons.mpr ⟨lw_p75, List.forall_mem_cons.mpr ⟨lw_p76, List.forall_mem_cons.mpr ⟨lw_p77, List.forall_mem_cons.mpr ⟨lw_p78, List.forall_mem_cons.mpr ⟨lw_p79, fun _ h => absurd h List.not_mem_nil⟩⟩⟩⟩⟩⟩⟩⟩⟩⟩⟩⟩⟩⟩⟩⟩
theorem lw_p80 : lw_okq (⟨"VipBoardModel", "behindOne", "()I"⟩, 14) := ⟨⟨by decide +kernel, by decide +kernel⟩, List.mem_of_getElem? (i := 757) (by decide +kernel), List.mem_of_getElem? (i := 944) (by decide +kernel), List.mem_of_getElem? (i := 945) (by decide +kernel)⟩
theorem lw_p81 : lw_okq (⟨"VipBoardModel", "step", "()I"⟩, 14) := ⟨⟨by decide +kernel, by decide +kernel⟩, List.mem_of_getElem? (i := 757) (by decide +kernel), List.mem_of_getElem? (i := 964) (by decide +kernel), List.mem_of_getElem? (i := 965) (by decide +kernel)⟩
theorem lw_p82 : lw_okq (⟨"VipBoardModel", "zero", "(I)I"⟩, 14) := ⟨⟨by decide +kernel, by decide +kernel⟩, List.mem_of_getElem? (i := 757) (by decide +kernel), List.mem_of_getElem? (i := 968) (by decide +kernel), List.mem_of_getElem? (i := 969) (by decide +kernel)⟩
theorem lw_p83 : lw_okq (⟨"VipBoardModel", "goesOn", "(Z)V"⟩, 14) := ⟨⟨by decide +kernel, by decide +kernel⟩, List.mem_of_getElem? (i := 757) (by decide +kernel), List.mem_of_getElem? (i := 972) (by decide +kernel), List.mem_of_getElem? (i := 973) (by decide +kernel)⟩
theorem lw_p84 : lw_okq (⟨"VipBoardModel", "call", "(I)I"⟩, 14) := ⟨⟨by decide +kernel, by decide +kernel⟩, List.mem_of_getElem? (i := 757) (by decide +kernel), List.mem_of_getElem? (i := 976) (by decide +kernel), List.mem_of_getElem? (i := 977) (by decide +kernel)⟩
theorem lw_p85 : lw_okq (⟨"VipBoardModel", "compared", "(IIIZ)I"⟩, 14) := ⟨⟨by decide +kernel, by decide +kernel⟩, List.mem_of_getElem? (i := 757) (by decide +kernel), List.mem_of_getElem? (i := 980) (by decide +kernel), List.mem_of_getElem? (i := 981) (by decide +kernel)⟩
theorem lw_p86 : lw_okq (⟨"VipBoardModel", "eight", "(III)I"⟩, 14) := ⟨⟨by decide +kernel, by decide +kernel⟩, List.mem_of_getElem? (i := 757) (by decide +kernel), List.mem_of_getElem? (i := 984) (by decide +kernel), List.mem_of_getElem? (i := 985) (by decide +kernel)⟩
theorem lw_p87 : lw_okq (⟨"VipBoardModel", "keyed", "(II)I"⟩, 14) := ⟨⟨by decide +kernel, by decide +kernel⟩, List.mem_of_getElem? (i := 757) (by decide +kernel), List.mem_of_getElem? (i := 988) (by decide +kernel), List.mem_of_getElem? (i := 989) (by decide +kernel)⟩
theorem lw_p88 : lw_okq (⟨"VipBoardModel", "fifteen", "(II)I"⟩, 14) := ⟨⟨by decide +kernel, by decide +kernel⟩, List.mem_of_getElem? (i := 757) (by decide +kernel), List.mem_of_getElem? (i := 992) (by decide +kernel), List.mem_of_getElem? (i := 993) (by decide +kernel)⟩
theorem lw_p89 : lw_okq (⟨"VipBoardModel", "leastKey", "()I"⟩, 14) := ⟨⟨by decide +kernel, by decide +kernel⟩, List.mem_of_getElem? (i := 757) (by decide +kernel), List.mem_of_getElem? (i := 996) (by decide +kernel), List.mem_of_getElem? (i := 997) (by decide +kernel)⟩
theorem lw_p90 : lw_okq (⟨"VipBoardModel", "rows", "(IZ)V"⟩, 14) := ⟨⟨by decide +kernel, by decide +kernel⟩, List.mem_of_getElem? (i := 757) (by decide +kernel), List.mem_of_getElem? (i := 1000) (by decide +kernel), List.mem_of_getElem? (i := 1001) (by decide +kernel)⟩
theorem lw_p91 : lw_okq (⟨"VipBoardModel", "simple", "(I)V"⟩, 14) := ⟨⟨by decide +kernel, by decide +kernel⟩, List.mem_of_getElem? (i := 757) (by decide +kernel), List.mem_of_getElem? (i := 1004) (by decide +kernel), List.mem_of_getElem? (i := 1005) (by decide +kernel)⟩
theorem lw_p92 : lw_okq (⟨"VipBoardModel", "random", "(II)I"⟩, 14) := ⟨⟨by decide +kernel, by decide +kernel⟩, List.mem_of_getElem? (i := 757) (by decide +kernel), List.mem_of_getElem? (i := 1008) (by decide +kernel), List.mem_of_getElem? (i := 1009) (by decide +kernel)⟩
theorem lw_p93 : lw_okq (⟨"VipBoardModel", "draw", "(III)V"⟩, 14) := ⟨⟨by decide +kernel, by decide +kernel⟩, List.mem_of_getElem? (i := 757) (by decide +kernel), List.mem_of_getElem? (i := 1012) (by decide +kernel), List.mem_of_getElem? (i := 1013) (by decide +kernel)⟩
def lw_privs_6 : List (MethodName × Nat) := [(⟨"VipBoardModel", "behindOne", "()I"⟩, 14), (⟨"VipBoardModel", "step", "()I"⟩, 14), (⟨"VipBoardModel", "zero", "(I)I"⟩, 14), (⟨"VipBoardModel", "goesOn", "(Z)V"⟩, 14), (⟨"VipBoardModel", "call", "(I)I"⟩, 14), (⟨"VipBoardModel", "compared", "(IIIZ)I"⟩, 14), (⟨"VipBoardModel", "eight", "(III)I"⟩, 14), (⟨"VipBoardModel", "keyed", "(II)I"⟩, 14), (⟨"VipBoardModel", "fifteen", "(II)I"⟩, 14), (⟨"VipBoardModel", "leastKey", "()I"⟩, 14), (⟨"VipBoardModel", "rows", "(IZ)V"⟩, 14), (⟨"VipBoardModel", "simple", "(I)V"⟩, 14), (⟨"VipBoardModel", "random", "(II)I"⟩, 14), (⟨"VipBoardModel", "draw", "(III)V"⟩, 14)]
theorem lw_r6 : ∀ q ∈ lw_privs_6, lw_okq q := List.forall_mem_cons.mpr ⟨lw_p80, List.forall_mem_cons.mpr ⟨lw_p81, List.forall_mem_cons.mpr ⟨lw_p82, List.forall_mem_cons.mpr ⟨lw_p83, List.forall_mem_cons.mpr ⟨lw_p84, List.forall_mem_cons.mpr ⟨lw_p85, List.forall_mem_cons.mpr ⟨lw_p86, List.forall_mem_cons.mpr ⟨lw_p87, List.forall_mem_cons.mpr ⟨lw_p88, List.forall_mem_cons.mpr ⟨lw_p89, List.forall_mem_cons.mpr ⟨lw_p90, List.forall_mem_cons.mpr ⟨lw_p91, List.forall_mem_cons.mpr ⟨lw_p92, List.forall_mem_cons.mpr ⟨lw_p93, fun _ h => absurd h List.not_mem_nil⟩⟩⟩⟩⟩⟩⟩⟩⟩⟩⟩⟩⟩⟩
def lw_privs : List (MethodName × Nat) := lw_privs_1 ++ (lw_privs_2 ++ (lw_privs_3 ++ (lw_privs_4 ++ (lw_privs_5 ++ (lw_privs_6)))))
def lw_tbl : List Cond := k2_sels lw_privs ++ tables_1
theorem lw_privs_ok : ∀ q ∈ lw_privs, lw_okq q := by
  show ∀ q ∈ lw_privs_1 ++ (lw_privs_2 ++ (lw_privs_3 ++ (lw_privs_4 ++ (lw_privs_5 ++ (lw_privs_6))))), lw_okq q
  exact List.forall_mem_append.mpr ⟨lw_r1, List.forall_mem_append.mpr ⟨lw_r2, List.forall_mem_append.mpr ⟨lw_r3, List.forall_mem_append.mpr ⟨lw_r4, List.forall_mem_append.mpr ⟨lw_r5, lw_r6⟩⟩⟩⟩⟩
end
section
/-! a throw that is caught by a row of the method's own table behind rows that are passed, their entries cold or warm (the rounds' library ends before the file that has it: said here again, over what it has) -/
def ct_To (e : Env) (s : State) (f : JFrame) (a : Addr) (h : Handler) (vm' : Vm) : Prop :=
  ∀ (Q : Handler → Pre) (E : CtlPost) (d : Bool) (acts : List Action), wp (findHandler f a) Q E e d acts s ↔ Q h d acts (s.setVm vm')
def ct_Pass (pl : Platform) (s₀ : State) (d : ClassId) (pc : Nat) (thrown : ClassId) (y : ExceptionTableEntry) : Prop :=
  covers y pc = false ∨ (y.catchType ≠ 0 ∧ ∃ c, s₀.vm.ClassLinks pl d y.catchType c ∧ s₀.vm.assignable thrown c = false)
theorem ct_push {p : Program} {l : Launch} {e : Env} {R : Room} {s : State} {m : MethodId} {args : Array Value} {below : List Frame} {meth : Method} {c : Code} {T : State} {locs : List Loc} {cells slots : Nat} (X : Stand p l e R s m args below meth c T locs cells slots) (g : JFrame) (a : Addr) : (T.setTop g).pushFrame (.throwing a) = T.setFrames (.throwing a :: .java g :: below) := by
  obtain ⟨g₁, hfr⟩ := X.frames_eq
  rw [State.pushFrame, State.frames_setTop _ hfr, State.setTop_of_frames _ hfr, State.setFrames_setFrames]
theorem ct_link {Q : Handler → Pre} {E : CtlPost} {e : Env} {d : Bool} {acts : List Action} {s : State} {f : JFrame} {a : Addr} {x : ExceptionTableEntry} {t : List ExceptionTableEntry} {c : ClassId} {cell : Cell} (hx : covers x f.pc = true) (h0 : x.catchType ≠ 0)
    (hl : s.vm.ClassLinks e.platform f.method.cls x.catchType c) (hcell : s.heap[a]? = some cell) (hobj : ∀ k, cell.vm ≠ .statics k)
    (hk : ∃ k, s.vm.classes[cell.cls]? = some k) (hc : ∃ k, s.vm.classes[c]? = some k) (b : Bool) (hfit : s.vm.assignable cell.cls c = b) :
    wp (findHandler.go f a (x :: t)) Q E e d acts s ↔ (if b = true then Q (.found x.handlerPc) d acts (s.setVm (s.vm.noted f.method.cls x.catchType (.cls c))) else wp (findHandler.go f a t) Q E e d acts (s.setVm (s.vm.noted f.method.cls x.catchType (.cls c)))) := by
  simp only [covers] at hx
  obtain ⟨ha, ht⟩ := (resolveClass_links e.toSetting hl).op (op := VmOp.resolveClass f.method.cls x.catchType) rfl
  have hal : s.vm.Alike (s.vm.noted f.method.cls x.catchType (.cls c)) := (Vm.Alike.refl s.vm).noted _ _ _
  obtain ⟨k1, hk1⟩ := hk
  obtain ⟨k2, hk2⟩ := hc
  obtain ⟨k1', hk1', -⟩ := hal.2.2 _ _ hk1
  obtain ⟨k2', hk2', -⟩ := hal.2.2 _ _ hk2
  have hfit' : (s.vm.noted f.method.cls x.catchType (.cls c)).assignable cell.cls c = b := by rw [hal.assignable]; exact hfit
  cases b
  · simp [findHandler.go, hx, h0, ha, ht, hcell, hobj, hk1', hk2', hfit', VmOp.dirties, VmOp.acts]
  · simp [findHandler.go, hx, h0, ha, ht, hcell, hobj, hk1', hk2', hfit', VmOp.dirties, VmOp.acts]
theorem ct_go {e : Env} {s₀ : State} {f : JFrame} {a : Addr} {cell : Cell} (hobj : ∀ k, cell.vm ≠ .statics k) (hk0 : ∃ k, s₀.vm.classes[cell.cls]? = some k)
    (x : ExceptionTableEntry) (rest : List ExceptionTableEntry) (hx : covers x f.pc = true) (h0 : x.catchType ≠ 0) {c : ClassId} (hl : s₀.vm.ClassLinks e.platform f.method.cls x.catchType c) (hfit : s₀.vm.assignable cell.cls c = true) :
    ∀ (pre : List ExceptionTableEntry) (S : State), s₀.WarmedH S.vm → S.heap[a]? = some cell → (∀ y ∈ pre, ct_Pass e.platform s₀ f.method.cls f.pc cell.cls y) →
      ∃ vm', s₀.WarmedH vm' ∧ ∀ (Q : Handler → Pre) (E : CtlPost) (d : Bool) (acts : List Action), wp (findHandler.go f a (pre ++ x :: rest)) Q E e d acts S ↔ Q (.found x.handlerPc) d acts (S.setVm vm') := by
  obtain ⟨k0, hk0⟩ := hk0
  intro pre
  induction pre with
  | nil =>
    intro S hW hcell _
    obtain ⟨k0', hk0', -⟩ := hW.alike.2.2 _ _ hk0
    obtain ⟨dk, _, _, kt, hd, _, _, _, _, hkt, _, hopen⟩ := hl.here
    obtain ⟨kt', hkt', -⟩ := hW.alike.2.2 _ _ hkt
    refine ⟨_, hW.noted hd hopen (State.rightAt_cls hl), fun Q E d acts => ?_⟩
    rw [List.nil_append]
    have h := ct_link (Q := Q) (E := E) (d := d) (acts := acts) (t := rest) hx h0 (hW.classLinks hl) hcell hobj ⟨k0', hk0'⟩ ⟨kt', hkt'⟩ true (by rw [hW.alike.assignable]; exact hfit)
    rw [if_pos rfl] at h
    exact h
  | cons y ys ih =>
    intro S hW hcell hpass
    obtain ⟨k0', hk0', -⟩ := hW.alike.2.2 _ _ hk0
    have hrest : ∀ z ∈ ys, ct_Pass e.platform s₀ f.method.cls f.pc cell.cls z := fun z hz => hpass z (List.mem_cons_of_mem _ hz)
    by_cases hcov : covers y f.pc = true
    · rcases hpass y (List.mem_cons_self ..) with h | ⟨h0y, cy, hly, hno⟩
      · rw [h] at hcov; cases hcov
      · obtain ⟨dk, _, _, kt, hd, _, _, _, _, hkt, _, hopen⟩ := hly.here
        obtain ⟨kt', hkt', -⟩ := hW.alike.2.2 _ _ hkt
        obtain ⟨vm', hW', hq⟩ := ih (S.setVm (S.vm.noted f.method.cls y.catchType (.cls cy))) (hW.noted hd hopen (State.rightAt_cls hly)) hcell hrest
        refine ⟨vm', hW', fun Q E d acts => ?_⟩
        rw [List.cons_append]
        have h := ct_link (Q := Q) (E := E) (d := d) (acts := acts) (t := ys ++ x :: rest) hcov h0y (hW.classLinks hly) hcell hobj ⟨k0', hk0'⟩ ⟨kt', hkt'⟩ false (by rw [hW.alike.assignable]; exact hno)
        rw [if_neg (by decide)] at h
        exact h.trans (hq Q E d acts)
    · obtain ⟨vm', hW', hq⟩ := ih S hW hcell hrest
      refine ⟨vm', hW', fun Q E d acts => ?_⟩
      rw [List.cons_append, _root_.Jvm.W.findHandler_go_skip (by simpa using hcov)]
      exact hq Q E d acts
theorem ct_step {e : Env} {s : State} {a : Addr} {f : JFrame} {r : List Frame} {pc : Nat} {vm' : Vm} (hfind : ct_To e s f a (.found pc) vm') :
    (stepThrowing e s a (.java f :: r)).Is ((s.setVm vm').setFrames (.java { f with pc := pc, stack := [.ref a] } :: r)) [] := by
  simp only [stepThrowing, searchFrame, vmDo]
  generalize hr : Sem.go _ e false [] s = res
  obtain ⟨as, rfl, ha⟩ := Sem.eq_ok_of hr (a := Handler.found pc) (s' := s.setVm vm') (acts' := []) (by simp [hfind _ _ _ _])
  exact ⟨rfl, ha⟩
theorem ct_sf (u : State) (vm' : Vm) (F G : List Frame) : ((u.setFrames F).setVm vm').setFrames G = (u.setVm vm').setFrames G := by
  have h1 : (u.setFrames F).setVm vm' = (u.setVm vm').setFrames F := rfl
  rw [h1, State.setFrames_setFrames]
theorem ct_caught {tb : Tables} {e : Env} {s target : State} {g : JFrame} {c : Code} {below : List Frame} {a : Addr} (h : At s g.method c below) {pc : Nat} {vm' : Vm}
    (hfind : ct_To e ((s.setTop g).pushFrame (.throwing a)) g a (.found pc) vm') (hrest : Steps tb e below ((s.setVm vm').setTop { g with pc := pc, stack := [.ref a] }) target) :
    Steps tb e below ((s.setTop g).pushFrame (.throwing a)) target := by
  obtain ⟨hgo, hw⟩ := h.throwing a
  refine Steps.head hgo hw ?_
  rw [stepThread_throwing (frames_entered h.top _), (ct_step (s := (s.setTop g).pushFrame (.throwing a)) hfind).1]
  obtain ⟨g₀, hg⟩ := Option.isSome_iff_exists.mp h.top
  obtain ⟨r, hr⟩ := State.topJava?_eq_some.mp hg
  have hr' : (s.setVm vm').frames = .java g₀ :: r := hr
  rw [State.setTop_of_frames _ hr'] at hrest
  rw [hr, List.tail_cons, State.pushFrame, ct_sf, State.setTop_of_frames _ hr, ct_sf]
  exact hrest
theorem ct_through {p : Program} {l : Launch} {e : Env} {R : Room} {s : State} {m : MethodId} {args : Array Value} {below : List Frame} {meth : Method} {c : Code} {T : State} {locs : List Loc} {cells slots : Nat} (X : Stand p l e R s m args below meth c T locs cells slots) (a : Addr) {g : JFrame} (hg : g.method = m)
    {cell : Cell} (hcell : T.heap[a]? = some cell) (hobj : cell.vm.isStatics = false) (hk0 : ∃ k, s.vm.classes[cell.cls]? = some k)
    (pre : List ExceptionTableEntry) (x : ExceptionTableEntry) (rest : List ExceptionTableEntry) (hsplit : c.exceptionTable.toList = pre ++ x :: rest)
    (hpass : ∀ y ∈ pre, ct_Pass e.platform s m.cls g.pc cell.cls y) (hx : covers x g.pc = true) (h0 : x.catchType ≠ 0) {cc : ClassId} (hl : s.vm.ClassLinks e.platform m.cls x.catchType cc) (hfit : s.vm.assignable cell.cls cc = true) :
    ∃ vm', Stand p l e R s m args below meth c (T.setVm vm') locs cells slots ∧
      ∀ target, Steps p.tables e below ((T.setVm vm').setTop { g with pc := x.handlerPc, stack := [.ref a] }) target → Steps p.tables e below ((T.setTop g).pushFrame (.throwing a)) target := by
  subst hg
  obtain ⟨vm', hW', hq⟩ := ct_go (e := e) (s₀ := s) (f := g) (a := a) (VmData.ne_statics_of hobj) hk0 x rest hx h0 hl hfit pre ((T.setTop g).pushFrame (.throwing a)) X.warmed hcell hpass
  refine ⟨vm', X.noted hW', fun target hrest => ct_caught X.here (vm' := vm') (fun Q E d acts => ?_) hrest⟩
  rw [_root_.Jvm.W.findHandler_eq (s := (T.setTop g).pushFrame (.throwing a)) (meth := meth) (code := c) X.method' X.code, hsplit]
  exact hq Q E d acts
end
section
/-! ===== BEGIN words of one list among another's, by their places ===== -/
theorem goodIn_r {big : List Cond} (ws : List Cond) (ps : List Nat) (hp : ws = ps.filterMap (fun i => big[i]?)) (h : ws.all goodWord = true) : GoodIn big ws := by
  intro w hw
  have h1 := List.all_eq_true.mp h w hw
  rw [hp] at hw
  obtain ⟨i, -, hi⟩ := List.mem_filterMap.mp hw
  have hm : w ∈ big := by first | exact List.mem_of_getElem? hi | exact List.getElem?_mem hi
  exact ⟨hm, good_of_word h1⟩
theorem goodIn_app {big a b : List Cond} (ha : GoodIn big a) (hb : GoodIn big b) : GoodIn big (a ++ b) := fun w h => (List.mem_append.mp h).elim (ha w) (hb w)
theorem goodIn_ca {big a b : List Cond} {c : Cond} (ha : GoodIn big (c :: a)) (hb : GoodIn big b) : GoodIn big (c :: (a ++ b)) := fun w h => (List.mem_cons.mp h).elim (fun e => ha w (List.mem_cons.mpr (Or.inl e))) (fun h => (List.mem_append.mp h).elim (fun h => ha w (List.mem_cons.mpr (Or.inr h))) (hb w))
theorem goodIn_sub {big ws : List Cond} (hm : ∀ w ∈ ws, w ∈ big) (h : ws.all goodWord = true) : GoodIn big ws := fun w hw => ⟨hm w hw, good_of_word (List.all_eq_true.mp h w hw)⟩
/-! ===== END ===== -/

/-! ===== BEGIN exceptions that leave a method, and their catching by the caller (launches without stack traces) ===== -/
section VXA
/-! The laws vx_back, vx_callV, vx_callS, vx_callSW, vx_throw0, vx_throwS follow proofs of the library, with one case more: JvmDerived/Free/Laws.lean (Back.of_free), Shelf42/LK1.lean (callV, callS), Shelf/KitTraced.lean (throwNew0V, throwNewS). -/
/-- where a method has thrown q: the class by its name, the cell, what was written, the world -/
def vx_T (XC : String → State → State → Prop) (st : State) (q : Addr) (t : State) (mc ms : Nat) (free : Addr → Prop) : Prop :=
  ∃ (E : String) (ce : Cell) (L : List Loc), XC E st t ∧ t.heap[q]? = some ce ∧ ce.vm = .none ∧ st.vm.findClass E = some ce.cls ∧ st.WarmedH t.vm ∧ st.sameButNew ({ t with vm := st.vm } : State) L mc ms ∧ ∀ z ∈ L, free z.base
def vx_Q (Qc : Array Value → State → Outcome → State → Prop) (XC : String → State → State → Prop) (mc ms : Nat) (free : Addr → Prop) : Array Value → State → Outcome → State → Prop := fun a st o t =>
  (Qc a st o t ∧ ∃ L, FrameEnd st o t L mc ms ∧ ∀ q ∈ L, free q.base) ∨ ∃ q, o = .threw q ∧ vx_T XC st q t mc ms free
/-- a callee that returns or throws -/
def vx_Met (l : Launch) (y : MethodName) (ws : List Cond) (rm : Room) (Pc : Array Value → State → Prop) (Qc : Array Value → State → Outcome → State → Prop) (XC : String → State → State → Prop) (mc ms : Nat) (free : Addr → Prop) : Prop :=
  MetFree l y (headSpec ws rm) Pc (fun _ _ _ _ _ => True) (vx_Q Qc XC mc ms free)
def vx_Post (XC : String → State → State → Prop) (mc ms : Nat) (free : Addr → Prop) : Pt → Array Value → Addr → Pt → Prop := fun A a q B =>
  ∃ (g : JFrame) (mk : MethodId) (t : State) (L : List Loc) (E : String) (ce : Cell), B.U.heap = t.heap ∧ B.U.vm = t.vm ∧ XC E (A.U.calling g mk a) t ∧ t.heap[q]? = some ce ∧ ce.vm = .none ∧ A.U.vm.findClass E = some ce.cls ∧ B.locs = A.locs ++ L ∧ (∀ z ∈ L, free z.base) ∧ B.cells = A.cells + mc ∧ B.slots = A.slots + ms
def vx_Back (l : Launch) (R : Room) (p : Program) (e : Env) (below : List Frame) (s : State) (sargs : Array Value) (y : MethodName) (len W9 : Nat)
    (Pre : Pt → Array Value → Prop) (Post : Pt → Array Value → Option Value → Pt → Prop) (PostX : Pt → Array Value → Addr → Pt → Prop) : Prop :=
  ∀ (m : MethodId) (meth : Method) (c : Code) (A : Pt) (g : JFrame) (ig : Instr) (mk : MethodId) (a : Array Value),
    Stand p l e R s m sargs below meth c A.U A.locs A.cells A.slots → g.method = m → g.locals.size = c.maxLocals → decode c.code g.pc = .ok (ig, len) →
    2 * g.monitorRoom + (g.stack.map fun v => v.category).sum ≤ W9 → A.U.methodNamed? y = some mk → Pre A a →
    (∃ (v : Option Value) (B : Pt), Stand p l e R s m sargs below meth c B.U B.locs B.cells B.slots ∧ Post A a v B ∧
      Steps p.tables e below (doInvoke e (A.U.setTop g) [] mk a).1 (B.U.setTop { g with pc := g.pc + len, stack := v.toList ++ g.stack })) ∨
    (∃ (q : Addr) (B : Pt), Stand p l e R s m sargs below meth c B.U B.locs B.cells B.slots ∧ PostX A a q B ∧
      Steps p.tables e below (doInvoke e (A.U.setTop g) [] mk a).1 ((B.U.setTop g).pushFrame (.throwing q)))
section Payer
variable {l : Launch} {R : Room} {p : Program} {e : Env} {below : List Frame} {s : State} {sargs : Array Value} {y : MethodName} {len W9 : Nat}
theorem vx_back {ws : List Cond} {rm : Room} {Pc : Array Value → State → Prop} {Qc : Array Value → State → Outcome → State → Prop} {XC : String → State → State → Prop} {mc ms : Nat} {free : Addr → Prop} {bytes : ByteArray} {maxL : Nat} {ret : Option FieldType}
    (hM : vx_Met l y ws rm Pc Qc XC mc ms free) (hblind : FrameBlind Pc) (hrc : rm.cells = mc) (hrs : rm.slots = ms)
    (hframes : rm.frames + 1 ≤ R.frames) (hlocals : W9 + (maxL + 11) + rm.locals ≤ R.locals)
    (hws : ∀ w ∈ ws, ∀ a' U, s.WarmedH U.vm → w.before a' U = true) (hcode : Cond.code y bytes maxL ret ∈ ws) (hinit : ∀ a' U, s.WarmedH U.vm → (Cond.initialized y.cls).before a' U = true) :
    vx_Back l R p e below s sargs y len W9 (PreOf R mc ms Pc) (PostOf Qc mc ms free) (vx_Post XC mc ms free) := by
  intro m meth c A g ig mk a X hg hsize hdg hW hn hp
  have h1 : (headSpec ws rm).pre.before a A.U = true := atoms_intro fun w hw => hws w hw _ _ X.warmed
  have h2 : (Cond.code y bytes maxL ret).before a A.U = true := hws _ hcode _ _ X.warmed
  have h3 : (Cond.initialized y.cls).before a A.U = true := hinit _ _ X.warmed
  have h4 : A.cells + (headSpec ws rm).room.cells ≤ R.cells := by rw [show (headSpec ws rm).room.cells = mc from hrc]; exact hp.1
  have h5 : A.slots + (headSpec ws rm).room.slots ≤ R.slots := by rw [show (headSpec ws rm).room.slots = ms from hrs]; exact hp.2.1
  have hPc : Pc a (A.U.calling g mk a) := hblind _ _ _ _ hp.2.2
  obtain ⟨U, Ls, c0, s0⟩ := A
  dsimp only [Pt.U, Pt.locs, Pt.cells, Pt.slots] at h1 h2 h3 h4 h5 X hn hPc ⊢
  obtain ⟨methY, cY, hmY, hcY, -, hlY, -, -, -, -⟩ := Cond.code_spec hn h2
  obtain ⟨kY, hkY, -⟩ := className_of_methodNamed hn
  have hinitY : kY.init = .initialized := Cond.initialized_spec (findClass_of_methodNamed hn) hkY h3
  have h : At U g.method c below := by rw [hg]; exact X.here
  have hlocals9 : W9 + (maxL + 11) + (headSpec ws rm).room.locals ≤ R.locals := hlocals
  have happ : (headSpec ws rm).appliesLoose y e.platform (U.calling g mk a) = true :=
    Spec.appliesLoose_calling (g := g) h hdg hn hkY hinitY
      (X.room_calling (g := g) (R' := (headSpec ws rm).room) hsize hmY hcY hframes (by rw [hlY]; omega) h4 h5) h1
  obtain ⟨mid, hmid⟩ := h.above
  have hfr : (U.setTop g).frames = (.java g :: mid) ++ below := by rw [State.frames_setTop' g h.top, hmid]; rfl
  obtain ⟨o, s₂, hsteps, -, hend, hq⟩ := Steps.callFree hM p X.admits X.cas X.clock (acts := []) hfr happ hPc trivial
  have hq' : vx_Q Qc XC mc ms free a (U.calling g mk a) o s₂ := hq
  rw [State.frames_setTop' g h.top] at hend
  obtain ⟨g₀, hg0⟩ := Option.isSome_iff_exists.mp h.top
  obtain ⟨r, hr⟩ := State.topJava?_eq_some.mp hg0
  have hr' : (({ U with heap := s₂.heap, slotsUsed := s₂.slotsUsed } : State).setVm s₂.vm).frames = .java g₀ :: r := hr
  rcases hq' with ⟨hqc, L, hfe, hL⟩ | ⟨q, rfl, E, ce, L, hx, hce, hcv, hcl, hW₂, hsm, hL⟩
  · obtain ⟨⟨v, rfl⟩, hW₂, e2, q2, q3, q4, q5, q6⟩ := id hfe
    have e3 : s₂ = ({ (U.calling g mk a).setFrames s₂.frames with heap := s₂.heap, slotsUsed := s₂.slotsUsed } : State).setVm s₂.vm := by
      have : s₂ = ({ s₂ with vm := (U.calling g mk a).vm } : State).setVm s₂.vm := rfl
      rw [e2] at this
      exact this
    obtain ⟨c₂, i₂, len₂, hc₂, hd₂, hf₂⟩ := hend
    have hW' : U.WarmedH s₂.vm := hW₂
    have hcc : c₂ = c := by
      have h1 : s₂.code? g.method = U.code? g.method := by
        rw [State.code?_eq, State.code?_eq, hW'.alike.method?]
      exact Option.some.inj (hc₂.symm.trans (h1.trans h.code))
    subst hcc
    have hlen : len₂ = len := by rw [hdg] at hd₂; cases hd₂; rfl
    subst hlen
    have hs₂ : s₂ = (({ U with heap := s₂.heap, slotsUsed := s₂.slotsUsed } : State).setVm s₂.vm).setTop { g with pc := g.pc + len₂, stack := v.toList ++ g.stack } := by
      refine e3.trans ?_
      rw [hf₂, State.calling_eq h.top, State.setFrames_setFrames, State.setTop_of_frames _ hr', hr]
      rfl
    have hsame : U.sameButNew ({ U with heap := s₂.heap, slotsUsed := s₂.slotsUsed } : State) L mc ms := by
      refine ⟨?_, q2, q3, q4, q5, q6⟩
      obtain ⟨t, ht, -⟩ := State.frames_cons hr
      show ({ U with heap := s₂.heap, slotsUsed := s₂.slotsUsed } : State) = { U.setFrames U.frames with heap := s₂.heap, slotsUsed := s₂.slotsUsed }
      rw [State.setFrames_self ht]
    subst hg
    refine Or.inl ⟨v, ⟨(({ U with heap := s₂.heap, slotsUsed := s₂.slotsUsed } : State).setVm s₂.vm), Ls ++ L, c0 + mc, s0 + ms⟩,
      ⟨X.admits, X.cas, X.clock, X.frames, X.room, X.hears, X.method, X.code, (X.here.setHeapUsed s₂.heap s₂.slotsUsed).setVm hW'.alike, X.tail, State.WarmedH.trans X.warmed hW', X.limits, X.bytes, X.same.trans (hsame.setVm s.vm)⟩,
      ⟨g, mk, s₂, L, rfl, rfl, hqc, rfl, hL, rfl, rfl⟩, ?_⟩
    show Steps p.tables e below _ ((({ U with heap := s₂.heap, slotsUsed := s₂.slotsUsed } : State).setVm s₂.vm).setTop { g with pc := g.pc + len₂, stack := v.toList ++ g.stack })
    rw [← hs₂]
    exact hsteps
  · obtain ⟨e2, q2, q3, q4, q5, q6⟩ := id hsm
    have e3 : s₂ = ({ (U.calling g mk a).setFrames s₂.frames with heap := s₂.heap, slotsUsed := s₂.slotsUsed } : State).setVm s₂.vm := by
      have : s₂ = ({ s₂ with vm := (U.calling g mk a).vm } : State).setVm s₂.vm := rfl
      rw [e2] at this
      exact this
    have hf₂ : s₂.frames = .throwing q :: .java g :: U.frames.tail := hend
    have hW' : U.WarmedH s₂.vm := hW₂
    have hs₂ : s₂ = ((({ U with heap := s₂.heap, slotsUsed := s₂.slotsUsed } : State).setVm s₂.vm).setTop g).pushFrame (.throwing q) := by
      refine e3.trans ?_
      rw [hf₂, State.calling_eq h.top, State.setFrames_setFrames, State.pushFrame, State.frames_setTop _ hr', State.setTop_of_frames _ hr', State.setFrames_setFrames, hr]
      rfl
    have hsame : U.sameButNew ({ U with heap := s₂.heap, slotsUsed := s₂.slotsUsed } : State) L mc ms := by
      refine ⟨?_, q2, q3, q4, q5, q6⟩
      obtain ⟨t, ht, -⟩ := State.frames_cons hr
      show ({ U with heap := s₂.heap, slotsUsed := s₂.slotsUsed } : State) = { U.setFrames U.frames with heap := s₂.heap, slotsUsed := s₂.slotsUsed }
      rw [State.setFrames_self ht]
    subst hg
    refine Or.inr ⟨q, ⟨(({ U with heap := s₂.heap, slotsUsed := s₂.slotsUsed } : State).setVm s₂.vm), Ls ++ L, c0 + mc, s0 + ms⟩,
      ⟨X.admits, X.cas, X.clock, X.frames, X.room, X.hears, X.method, X.code, (X.here.setHeapUsed s₂.heap s₂.slotsUsed).setVm hW'.alike, X.tail, State.WarmedH.trans X.warmed hW', X.limits, X.bytes, X.same.trans (hsame.setVm s.vm)⟩,
      ⟨g, mk, s₂, L, E, ce, rfl, rfl, hx, hce, hcv, hcl, rfl, hL, rfl, rfl⟩, ?_⟩
    show Steps p.tables e below _ (((({ U with heap := s₂.heap, slotsUsed := s₂.slotsUsed } : State).setVm s₂.vm).setTop g).pushFrame (.throwing q))
    rw [← hs₂]
    exact hsteps
end Payer
section Calls
variable {p : Program} {l : Launch} {e : Env} {R : Room} {s : State} {m : MethodId} {args : Array Value} {below : List Frame} {meth : Method} {c : Code} {T : State} {locs : List Loc} {cells slots : Nat}
theorem vx_callV (X : Stand p l e R s m args below meth c T locs cells slots) (hexec : p.tables.exec = Jvm.exec) {own C : String} {index : Nat} {y : MethodName} {bytes : ByteArray} {maxL : Nat} {ret : Option FieldType}
    (hown : s.vm.findClass own = some m.cls) (hlink : (Cond.methodLink own index y).before args s = true) (hinst : (Cond.instanceMethod y).before args s = true) (hsel : (Cond.selects C y y).before args s = true)
    (hcode : (Cond.code y bytes maxL ret).before args s = true) (hy : y.cls ≠ "java/lang/invoke/MethodHandle" ∧ y.cls ≠ "java/lang/invoke/VarHandle")
    {W9 : Nat} {Pre : Pt → Array Value → Prop} {Post : Pt → Array Value → Option Value → Pt → Prop} {PostX : Pt → Array Value → Addr → Pt → Prop} (hK : vx_Back l R p e below s args y 3 W9 Pre Post PostX)
    {b : Addr} {cellB : Cell} (hcell : T.heap[b]? = some cellB) (hobj : cellB.vm.isStatics = false) (hcls : s.vm.findClass C = some cellB.cls)
    {g : JFrame} (hg : g.method = m) (hsize : g.locals.size = c.maxLocals) {argsL rest : List Value} (hlen : ∀ sig, parseMethodDescriptor y.desc = some sig → argsL.length = sig.parameters.length)
    (hstack : g.stack = argsL.reverse ++ .ref b :: rest) (hW : 2 * g.monitorRoom + (rest.map fun v => v.category).sum ≤ W9) (hdg : decode c.code g.pc = .ok (.invokevirtual index, 3))
    (hpre : ∀ vm₁, s.WarmedH vm₁ → Pre ⟨T.setVm vm₁, locs, cells, slots⟩ (Value.ref b :: argsL).toArray) :
    (∃ (v : Option Value) (vm₁ : Vm) (B : Pt), s.WarmedH vm₁ ∧ Stand p l e R s m args below meth c B.U B.locs B.cells B.slots ∧ Post ⟨T.setVm vm₁, locs, cells, slots⟩ (Value.ref b :: argsL).toArray v B ∧
      ∀ target, Steps p.tables e below (B.U.setTop { g with pc := g.pc + 3, stack := v.toList ++ rest }) target → Steps p.tables e below (T.setTop g) target) ∨
    (∃ (q : Addr) (vm₁ : Vm) (B : Pt), s.WarmedH vm₁ ∧ Stand p l e R s m args below meth c B.U B.locs B.cells B.slots ∧ PostX ⟨T.setVm vm₁, locs, cells, slots⟩ (Value.ref b :: argsL).toArray q B ∧
      Steps p.tables e below (T.setTop g) ((B.U.setTop { g with stack := rest }).pushFrame (.throwing q))) := by
  obtain ⟨mk, methM, hnamed, hmethM, hstM, habM⟩ := Cond.instanceMethod_spec hinst
  obtain ⟨methM', cM, hmethM', -, -, -, -, -, -, hsigM⟩ := Cond.code_spec hnamed hcode
  cases hmethM.symm.trans hmethM'
  obtain ⟨c2, r2, m2, q1, q2, q3, q4, kP, hkP, hkPi⟩ := Cond.selects_spec hsel
  cases hcls.symm.trans q1
  cases (State.methodFound?_of_named hnamed hy).symm.trans q2
  cases hnamed.symm.trans q3
  have hselP : selectMethod e.platform s.vm cellB.cls mk = .method mk := by rw [Launch.admits_selectMethod X.admits]; exact q4
  obtain ⟨vm₁, X₁, hstep₁⟩ := X.invokevirtual hexec hown hlink hnamed hmethM hstM hkP hkPi hy (a := b) (cell := cellB) hcell
    (fun z h => by rw [h] at hobj; cases hobj) hselP hmethM habM hkP hkPi (g := g) hg (argsL := argsL) (rest := rest) (hlen _ hsigM) hstack hdg
  rcases hK m meth c ⟨T.setVm vm₁, locs, cells, slots⟩ { g with stack := rest } (.invokevirtual index) mk (Value.ref b :: argsL).toArray X₁ hg hsize hdg hW (X₁.named hnamed) (hpre vm₁ X₁.warmed) with ⟨v, B, X', hpost, hsteps⟩ | ⟨q, B, X', hpost, hsteps⟩
  · exact Or.inl ⟨v, vm₁, B, X₁.warmed, X', hpost, fun target h => hstep₁ _ fun acts => by rw [doInvoke_state]; exact hsteps.trans h⟩
  · exact Or.inr ⟨q, vm₁, B, X₁.warmed, X', hpost, hstep₁ _ fun acts => by rw [doInvoke_state]; exact hsteps⟩
theorem vx_callS (X : Stand p l e R s m args below meth c T locs cells slots) (hexec : p.tables.exec = Jvm.exec) {own : String} {index : Nat} {y : MethodName} {bytes : ByteArray} {maxL : Nat} {ret : Option FieldType}
    (hown : s.vm.findClass own = some m.cls) (hlink : (Cond.methodLink own index y).before args s = true) (hstat : (Cond.static y).before args s = true) (hinit : (Cond.initialized y.cls).before args s = true)
    (hcode : (Cond.code y bytes maxL ret).before args s = true) (hy : y.cls ≠ "java/lang/invoke/MethodHandle" ∧ y.cls ≠ "java/lang/invoke/VarHandle")
    {W9 : Nat} {Pre : Pt → Array Value → Prop} {Post : Pt → Array Value → Option Value → Pt → Prop} {PostX : Pt → Array Value → Addr → Pt → Prop} (hK : vx_Back l R p e below s args y 3 W9 Pre Post PostX)
    {g : JFrame} (hg : g.method = m) (hsize : g.locals.size = c.maxLocals) {argsL rest : List Value} (hlen : ∀ sig, parseMethodDescriptor y.desc = some sig → argsL.length = sig.parameters.length)
    (hstack : g.stack = argsL.reverse ++ rest) (hW : 2 * g.monitorRoom + (rest.map fun v => v.category).sum ≤ W9) (hdg : decode c.code g.pc = .ok (.invokestatic index, 3))
    (hpre : ∀ vm₁, s.WarmedH vm₁ → Pre ⟨T.setVm vm₁, locs, cells, slots⟩ argsL.toArray) :
    (∃ (v : Option Value) (vm₁ : Vm) (B : Pt), s.WarmedH vm₁ ∧ Stand p l e R s m args below meth c B.U B.locs B.cells B.slots ∧ Post ⟨T.setVm vm₁, locs, cells, slots⟩ argsL.toArray v B ∧
      ∀ target, Steps p.tables e below (B.U.setTop { g with pc := g.pc + 3, stack := v.toList ++ rest }) target → Steps p.tables e below (T.setTop g) target) ∨
    (∃ (q : Addr) (vm₁ : Vm) (B : Pt), s.WarmedH vm₁ ∧ Stand p l e R s m args below meth c B.U B.locs B.cells B.slots ∧ PostX ⟨T.setVm vm₁, locs, cells, slots⟩ argsL.toArray q B ∧
      Steps p.tables e below (T.setTop g) ((B.U.setTop { g with stack := rest }).pushFrame (.throwing q))) := by
  obtain ⟨mk, hnamed⟩ := Cond.code_named hcode
  obtain ⟨methM, cM, hmethM, -, -, -, -, -, -, hsigM⟩ := Cond.code_spec hnamed hcode
  have hstatic : methM.isStatic = true := Cond.static_spec hnamed hmethM hstat
  obtain ⟨kP, hkP, -⟩ := className_of_methodNamed hnamed
  have hinitP : kP.init = .initialized := Cond.initialized_spec (findClass_of_methodNamed hnamed) hkP hinit
  obtain ⟨vm₁, X₁, hstep₁⟩ := X.invokestatic hexec hown hlink hnamed hmethM hstatic hkP hinitP hy (g := g) hg (argsL := argsL) (rest := rest) (hlen _ hsigM) hstack hdg
  rcases hK m meth c ⟨T.setVm vm₁, locs, cells, slots⟩ { g with stack := rest } (.invokestatic index) mk argsL.toArray X₁ hg hsize hdg hW (X₁.named hnamed) (hpre vm₁ X₁.warmed) with ⟨v, B, X', hpost, hsteps⟩ | ⟨q, B, X', hpost, hsteps⟩
  · exact Or.inl ⟨v, vm₁, B, X₁.warmed, X', hpost, fun target h => hstep₁ _ fun acts => by rw [doInvoke_state]; exact hsteps.trans h⟩
  · exact Or.inr ⟨q, vm₁, B, X₁.warmed, X', hpost, hstep₁ _ fun acts => by rw [doInvoke_state]; exact hsteps⟩
end Calls
theorem vx_cls {s : State} {T : State} {vm₁ : Vm} {E : String} {k : ClassId} (hW : s.WarmedH vm₁) (h : (T.setVm vm₁).vm.findClass E = some k) : s.vm.findClass E = some k := by
  have h1 : vm₁.findClass E = some k := h
  rw [hW.alike.findClass] at h1
  exact h1
/-- the method's frame g, with q thrown over it -/
def vx_W (p : Program) (l : Launch) (e : Env) (R : Room) (s : State) (m : MethodId) (args : Array Value) (below : List Frame) (meth : Method) (c : Code) (H : Heap) (locs : List Loc) (cells slots : Nat) (Q : State → Prop) (g : JFrame) (q : Addr) : Prop :=
  ∀ T : State, T.heap = H → Stand p l e R s m args below meth c T locs cells slots → ∃ t, Steps p.tables e below ((T.setTop g).pushFrame (.throwing q)) t ∧ Q t
def vx_Run (p : Program) (l : Launch) (e : Env) (R : Room) (s : State) (m : MethodId) (args : Array Value) (below : List Frame) (meth : Method) (c : Code) (H : Heap) (locs : List Loc) (cells slots mc ms : Nat) (g : JFrame) (rest : List Value) (Qa : State → Outcome → State → Prop) (XC : String → State → State → Prop) (free : Addr → Prop) : Prop :=
  ∀ T : State, T.heap = H → Stand p l e R s m args below meth c T locs cells slots →
    (∃ (v : Option Value) (st₀ t T' : State) (L : List Loc), st₀.heap = H ∧ Stand p l e R s m args below meth c T' (locs ++ L) (cells + mc) (slots + ms) ∧ (∀ q ∈ L, free q.base) ∧ T'.heap = t.heap ∧ T'.vm = t.vm ∧ Qa st₀ (.returned v) t ∧
      Goes p e below T g T' { g with pc := g.pc + 3, stack := v.toList ++ rest }) ∨
    (∃ (q : Addr) (st₀ t T' : State) (L : List Loc) (E : String) (ce : Cell), st₀.heap = H ∧ Stand p l e R s m args below meth c T' (locs ++ L) (cells + mc) (slots + ms) ∧ (∀ z ∈ L, free z.base) ∧ T'.heap = t.heap ∧ T'.vm = t.vm ∧ XC E st₀ t ∧ t.heap[q]? = some ce ∧ ce.vm = .none ∧ s.vm.findClass E = some ce.cls ∧
      Steps p.tables e below (T.setTop g) ((T'.setTop { g with stack := rest }).pushFrame (.throwing q)))
def vx_X {S : Type} (px : S → Prop) (B : String → S → State → Prop) (A : Nat → Prop) : String → State → State → Prop := fun E st t => ∃ u : S, px u ∧ B E u t ∧ va_F A st t
section Runs
variable {p : Program} {l : Launch} {e : Env} {R : Room} {s : State} {m : MethodId} {args : Array Value} {below : List Frame} {meth : Method} {c : Code} {H : Heap} {locs : List Loc} {cells slots : Nat}
variable {y : MethodName} {bytes cc : ByteArray} {maxL nL mc ms n index : Nat} {ret : Option FieldType} {ws : List Cond} {rm : Room} {Pc : Array Value → State → Prop} {Qc : Array Value → State → Outcome → State → Prop} {XC : String → State → State → Prop} {free : Addr → Prop} {Ts : List Cond} {own C : String} {b : Addr} {As rest : List Value} {g : JFrame}
theorem vx_callBack (cb : CallB R s args own index y bytes maxL ret ws rm mc ms n) (hM : vx_Met l y ws rm Pc Qc XC mc ms free) (hbl : FrameBlind Pc) : vx_Back l R p e below s args y 3 8 (PreOf R mc ms Pc) (PostOf Qc mc ms free) (vx_Post XC mc ms free) := by
  obtain ⟨hrc, hrs, hfr, hlo, hws, hcw, -, hini, -⟩ := cb
  exact vx_back (bytes := bytes) (maxL := maxL) (ret := ret) hM hbl hrc hrs hfr hlo hws hcw (fun a' U hW => word_at hW (Or.inl (by first | rfl | simp [Cond.onTables, Cond.keeps, Cond.steady])) hini)
theorem vx_runV (S : CallFix p m c cc nL s args Ts own) (hM : vx_Met l y ws rm Pc Qc XC mc ms free) (cw : CallW R s args own C index y bytes maxL ret ws rm mc ms n) (hp : PreV s H C b Pc As)
    (hg : g.method = m) (hn : As.length = n) (hsize : g.locals.size = nL) (hstack : g.stack = As.reverse ++ .ref b :: rest) (hW : 2 * g.monitorRoom + (rest.map fun v => v.category).sum ≤ 8) (hdg : decode cc g.pc = .ok (.invokevirtual index, 3)) (hf : cells + mc ≤ R.cells ∧ slots + ms ≤ R.slots) :
    vx_Run p l e R s m args below meth c H locs cells slots mc ms g rest (Qc (Value.ref b :: As).toArray) XC free := by
  have hK : vx_Back l R p e below s args y 3 8 (PreOf R mc ms Pc) (PostOf Qc mc ms free) (vx_Post XC mc ms free) := vx_callBack cw.1 hM hp.1
  obtain ⟨⟨-, -, -, -, -, -, hcode, -, hy, hlen, hl⟩, hin, hse⟩ := cw
  obtain ⟨hx, hb, hml, ho, -⟩ := S
  obtain ⟨-, ⟨cellB, hcB, hoB, hclB⟩, hPc⟩ := hp
  intro T hT X
  rcases vx_callV X hx (C := C) (bytes := bytes) (maxL := maxL) (ret := ret) ho hl hin hse hcode hy hK (by rw [hT]; exact hcB) hoB hclB hg (hsize.trans hml.symm) (argsL := As) (rest := rest) (fun sig h => hn.trans (hlen sig h)) hstack hW (by rw [hb]; exact hdg)
    (fun vm₁ hW₁ => ⟨hf.1, hf.2, hPc (T.setVm vm₁) hT hW₁⟩) with ⟨v, vm₁, ⟨U', l2, c2, s2⟩, hW₁, X', ⟨g', mk, t, L, e1, e2, hq, h1, hL, h2, h3⟩, st⟩ | ⟨q, vm₁, ⟨U', l2, c2, s2⟩, hW₁, X', ⟨g', mk, t, L, E, ce, e1, e2, hq, hce, hcv, hcl, h1, hL, h2, h3⟩, st⟩
  · dsimp only [Pt.U, Pt.locs, Pt.cells, Pt.slots] at X' e1 e2 h1 h2 h3 st
    subst h1; subst h2; subst h3
    exact Or.inl ⟨v, (T.setVm vm₁).calling g' mk (Value.ref b :: As).toArray, t, U', L, hT, X', hL, e1, e2, hq, st⟩
  · dsimp only [Pt.U, Pt.locs, Pt.cells, Pt.slots] at X' e1 e2 h1 h2 h3 st hcl
    subst h1; subst h2; subst h3
    exact Or.inr ⟨q, (T.setVm vm₁).calling g' mk (Value.ref b :: As).toArray, t, U', L, E, ce, hT, X', hL, e1, e2, hq, hce, hcv, vx_cls hW₁ hcl, st⟩
theorem vx_runS (S : CallFix p m c cc nL s args Ts own) (hM : vx_Met l y ws rm Pc Qc XC mc ms free) (cw : CallB R s args own index y bytes maxL ret ws rm mc ms n ∧ (Cond.static y).before args s = true) (hp : PreS s H Pc As)
    (hg : g.method = m) (hn : As.length = n) (hsize : g.locals.size = nL) (hstack : g.stack = As.reverse ++ rest) (hW : 2 * g.monitorRoom + (rest.map fun v => v.category).sum ≤ 8) (hdg : decode cc g.pc = .ok (.invokestatic index, 3)) (hf : cells + mc ≤ R.cells ∧ slots + ms ≤ R.slots) :
    vx_Run p l e R s m args below meth c H locs cells slots mc ms g rest (Qc As.toArray) XC free := by
  have hK : vx_Back l R p e below s args y 3 8 (PreOf R mc ms Pc) (PostOf Qc mc ms free) (vx_Post XC mc ms free) := vx_callBack cw.1 hM hp.1
  obtain ⟨⟨-, -, -, -, -, -, hcode, hini, hy, hlen, hl⟩, hstt⟩ := cw
  obtain ⟨hx, hb, hml, ho, -⟩ := S
  intro T hT X
  rcases vx_callS X hx (bytes := bytes) (maxL := maxL) (ret := ret) ho hl hstt hini hcode hy hK hg (hsize.trans hml.symm) (argsL := As) (rest := rest) (fun sig h => hn.trans (hlen sig h)) hstack hW (by rw [hb]; exact hdg)
    (fun vm₁ hW₁ => ⟨hf.1, hf.2, hp.2 (T.setVm vm₁) hT hW₁⟩) with ⟨v, vm₁, ⟨U', l2, c2, s2⟩, hW₁, X', ⟨g', mk, t, L, e1, e2, hq, h1, hL, h2, h3⟩, st⟩ | ⟨q, vm₁, ⟨U', l2, c2, s2⟩, hW₁, X', ⟨g', mk, t, L, E, ce, e1, e2, hq, hce, hcv, hcl, h1, hL, h2, h3⟩, st⟩
  · dsimp only [Pt.U, Pt.locs, Pt.cells, Pt.slots] at X' e1 e2 h1 h2 h3 st
    subst h1; subst h2; subst h3
    exact Or.inl ⟨v, (T.setVm vm₁).calling g' mk As.toArray, t, U', L, hT, X', hL, e1, e2, hq, st⟩
  · dsimp only [Pt.U, Pt.locs, Pt.cells, Pt.slots] at X' e1 e2 h1 h2 h3 st hcl
    subst h1; subst h2; subst h3
    exact Or.inr ⟨q, (T.setVm vm₁).calling g' mk As.toArray, t, U', L, E, ce, hT, X', hL, e1, e2, hq, hce, hcv, vx_cls hW₁ hcl, st⟩
end Runs
section Rows
variable {p : Program} {l : Launch} {e : Env} {R : Room} {s : State} {m : MethodId} {args : Array Value} {below : List Frame} {meth : Method} {c : Code} {H : Heap} {locs : List Loc} {cells slots : Nat} {Q : State → Prop}
variable {mc ms : Nat} {free : Addr → Prop} {A0 A1 : Nat → Prop} {H0 : Heap} {a : Array Value} {pc : Nat} {ls : Array Slot} {st0 rest : List Value}
theorem vx_keep {st₀ t T' : State} {L : List Loc} (h0 : st₀.heap = H) (e1 : T'.heap = t.heap) (hS : va_S A0 H0 H locs) (hA : ∀ q, q < H.size → A1 q → A0 q) (hf : ∀ q, free q → A0 q) (hL : ∀ q ∈ L, free q.base) (hF : va_F A1 st₀ t) :
    H.size ≤ T'.heap.size ∧ (∀ q : Nat, q < H.size → ¬ A1 q → T'.heap[q]? = H[q]?) ∧ va_S A0 H0 T'.heap (locs ++ L) := by
  obtain ⟨hz, hk⟩ := hF
  rw [h0] at hz hk
  exact ⟨by rw [e1]; exact hz, fun q h1 h2 => by rw [e1]; exact hk q h1 h2,
    ⟨Nat.le_trans hS.1 (by rw [e1]; exact hz), fun q h1 h2 => by rw [e1, hk q (Nat.lt_of_lt_of_le h1 hS.1) (fun z => h2 (hA q (Nat.lt_of_lt_of_le h1 hS.1) z))]; exact hS.2.1 q h1 h2, fun q hq => by
      rcases List.mem_append.mp hq with h | h
      · exact hS.2.2 q h
      · exact hf _ (hL q h)⟩⟩
theorem vx_calli {S SX : Type} {post : Int32 → S → Prop} {px : SX → Prop} {B : S → State → Prop} {BX : String → SX → State → Prop} {AX : Nat → Prop} (hr : vx_Run p l e R s m args below meth c H locs cells slots mc ms (F0 m pc ls st0) rest (va_Qi post B A1 a) (vx_X px BX AX) free) (hS : va_S A0 H0 H locs) (hA : ∀ q, q < H.size → A1 q → A0 q) (hf : ∀ q, free q → A0 q) (hAX : ∀ q, q < H.size → AX q → A0 q)
    (kx : ∀ (E : String) (ce : Cell) (q9 : Addr) (u : SX) (t : State) (H1 : Heap) (locs1 : List Loc), t.heap = H1 → s.vm.Alike t.vm → px u → BX E u t → H.size ≤ H1.size → (∀ q : Nat, q < H.size → ¬ AX q → H1[q]? = H[q]?) → va_S A0 H0 H1 locs1 → H1[q9]? = some ce → ce.vm = .none → s.vm.findClass E = some ce.cls → vx_W p l e R s m args below meth c H1 locs1 (cells + mc) (slots + ms) Q (F0 m pc ls rest) q9)
    (kk : ∀ (r : Int32) (u : S) (t : State) (H1 : Heap) (locs1 : List Loc), t.heap = H1 → s.vm.Alike t.vm → post r u → B u t → H.size ≤ H1.size → (∀ q : Nat, q < H.size → ¬ A1 q → H1[q]? = H[q]?) → va_S A0 H0 H1 locs1 → W p l e R s m args below meth c H1 locs1 (cells + mc) (slots + ms) Q (F0 m (pc + 3) ls (.int r :: rest))) : W p l e R s m args below meth c H locs cells slots Q (F0 m pc ls st0) := by
  intro T hT X
  rcases hr T hT X with ⟨v, st₀, t, T', L, h0, X', hL, e1, e2, ⟨⟨r, u, hv, hp, hb⟩, hF⟩, st⟩ | ⟨q, st₀, t, T', L, E, ce, h0, X', hL, e1, e2, ⟨u, hp, hb, hF⟩, hce, hcv, hcl, st⟩
  · cases hv
    obtain ⟨k1, k2, k3⟩ := vx_keep h0 e1 hS hA hf hL hF
    obtain ⟨t2, a1, b1⟩ := kk r u t T'.heap (locs ++ L) e1.symm (by rw [← e2]; exact X'.warmed.alike) hp hb k1 k2 k3 T' rfl X'
    exact ⟨t2, st t2 a1, b1⟩
  · obtain ⟨k1, k2, k3⟩ := vx_keep h0 e1 hS hAX hf hL hF
    obtain ⟨t2, a1, b1⟩ := kx E ce q u t T'.heap (locs ++ L) e1.symm (by rw [← e2]; exact X'.warmed.alike) hp hb k1 k2 k3 (by rw [e1]; exact hce) hcv hcl T' rfl X'
    exact ⟨t2, st.trans a1, b1⟩
theorem vx_calll {S SX : Type} {post : Int64 → S → Prop} {px : SX → Prop} {B : S → State → Prop} {BX : String → SX → State → Prop} {AX : Nat → Prop} (hr : vx_Run p l e R s m args below meth c H locs cells slots mc ms (F0 m pc ls st0) rest (va_Ql post B A1 a) (vx_X px BX AX) free) (hS : va_S A0 H0 H locs) (hA : ∀ q, q < H.size → A1 q → A0 q) (hf : ∀ q, free q → A0 q) (hAX : ∀ q, q < H.size → AX q → A0 q)
    (kx : ∀ (E : String) (ce : Cell) (q9 : Addr) (u : SX) (t : State) (H1 : Heap) (locs1 : List Loc), t.heap = H1 → s.vm.Alike t.vm → px u → BX E u t → H.size ≤ H1.size → (∀ q : Nat, q < H.size → ¬ AX q → H1[q]? = H[q]?) → va_S A0 H0 H1 locs1 → H1[q9]? = some ce → ce.vm = .none → s.vm.findClass E = some ce.cls → vx_W p l e R s m args below meth c H1 locs1 (cells + mc) (slots + ms) Q (F0 m pc ls rest) q9)
    (kk : ∀ (r : Int64) (u : S) (t : State) (H1 : Heap) (locs1 : List Loc), t.heap = H1 → s.vm.Alike t.vm → post r u → B u t → H.size ≤ H1.size → (∀ q : Nat, q < H.size → ¬ A1 q → H1[q]? = H[q]?) → va_S A0 H0 H1 locs1 → W p l e R s m args below meth c H1 locs1 (cells + mc) (slots + ms) Q (F0 m (pc + 3) ls (.long r :: rest))) : W p l e R s m args below meth c H locs cells slots Q (F0 m pc ls st0) := by
  intro T hT X
  rcases hr T hT X with ⟨v, st₀, t, T', L, h0, X', hL, e1, e2, ⟨⟨r, u, hv, hp, hb⟩, hF⟩, st⟩ | ⟨q, st₀, t, T', L, E, ce, h0, X', hL, e1, e2, ⟨u, hp, hb, hF⟩, hce, hcv, hcl, st⟩
  · cases hv
    obtain ⟨k1, k2, k3⟩ := vx_keep h0 e1 hS hA hf hL hF
    obtain ⟨t2, a1, b1⟩ := kk r u t T'.heap (locs ++ L) e1.symm (by rw [← e2]; exact X'.warmed.alike) hp hb k1 k2 k3 T' rfl X'
    exact ⟨t2, st t2 a1, b1⟩
  · obtain ⟨k1, k2, k3⟩ := vx_keep h0 e1 hS hAX hf hL hF
    obtain ⟨t2, a1, b1⟩ := kx E ce q u t T'.heap (locs ++ L) e1.symm (by rw [← e2]; exact X'.warmed.alike) hp hb k1 k2 k3 (by rw [e1]; exact hce) hcv hcl T' rfl X'
    exact ⟨t2, st.trans a1, b1⟩
theorem vx_callf {S SX : Type} {post : UInt32 → S → Prop} {px : SX → Prop} {B : S → State → Prop} {BX : String → SX → State → Prop} {AX : Nat → Prop} (hr : vx_Run p l e R s m args below meth c H locs cells slots mc ms (F0 m pc ls st0) rest (va_Qf post B A1 a) (vx_X px BX AX) free) (hS : va_S A0 H0 H locs) (hA : ∀ q, q < H.size → A1 q → A0 q) (hf : ∀ q, free q → A0 q) (hAX : ∀ q, q < H.size → AX q → A0 q)
    (kx : ∀ (E : String) (ce : Cell) (q9 : Addr) (u : SX) (t : State) (H1 : Heap) (locs1 : List Loc), t.heap = H1 → s.vm.Alike t.vm → px u → BX E u t → H.size ≤ H1.size → (∀ q : Nat, q < H.size → ¬ AX q → H1[q]? = H[q]?) → va_S A0 H0 H1 locs1 → H1[q9]? = some ce → ce.vm = .none → s.vm.findClass E = some ce.cls → vx_W p l e R s m args below meth c H1 locs1 (cells + mc) (slots + ms) Q (F0 m pc ls rest) q9)
    (kk : ∀ (r : UInt32) (u : S) (t : State) (H1 : Heap) (locs1 : List Loc), t.heap = H1 → s.vm.Alike t.vm → post r u → B u t → H.size ≤ H1.size → (∀ q : Nat, q < H.size → ¬ A1 q → H1[q]? = H[q]?) → va_S A0 H0 H1 locs1 → W p l e R s m args below meth c H1 locs1 (cells + mc) (slots + ms) Q (F0 m (pc + 3) ls (.float r :: rest))) : W p l e R s m args below meth c H locs cells slots Q (F0 m pc ls st0) := by
  intro T hT X
  rcases hr T hT X with ⟨v, st₀, t, T', L, h0, X', hL, e1, e2, ⟨⟨r, u, hv, hp, hb⟩, hF⟩, st⟩ | ⟨q, st₀, t, T', L, E, ce, h0, X', hL, e1, e2, ⟨u, hp, hb, hF⟩, hce, hcv, hcl, st⟩
  · cases hv
    obtain ⟨k1, k2, k3⟩ := vx_keep h0 e1 hS hA hf hL hF
    obtain ⟨t2, a1, b1⟩ := kk r u t T'.heap (locs ++ L) e1.symm (by rw [← e2]; exact X'.warmed.alike) hp hb k1 k2 k3 T' rfl X'
    exact ⟨t2, st t2 a1, b1⟩
  · obtain ⟨k1, k2, k3⟩ := vx_keep h0 e1 hS hAX hf hL hF
    obtain ⟨t2, a1, b1⟩ := kx E ce q u t T'.heap (locs ++ L) e1.symm (by rw [← e2]; exact X'.warmed.alike) hp hb k1 k2 k3 (by rw [e1]; exact hce) hcv hcl T' rfl X'
    exact ⟨t2, st.trans a1, b1⟩
theorem vx_calld {S SX : Type} {post : UInt64 → S → Prop} {px : SX → Prop} {B : S → State → Prop} {BX : String → SX → State → Prop} {AX : Nat → Prop} (hr : vx_Run p l e R s m args below meth c H locs cells slots mc ms (F0 m pc ls st0) rest (va_Qd post B A1 a) (vx_X px BX AX) free) (hS : va_S A0 H0 H locs) (hA : ∀ q, q < H.size → A1 q → A0 q) (hf : ∀ q, free q → A0 q) (hAX : ∀ q, q < H.size → AX q → A0 q)
    (kx : ∀ (E : String) (ce : Cell) (q9 : Addr) (u : SX) (t : State) (H1 : Heap) (locs1 : List Loc), t.heap = H1 → s.vm.Alike t.vm → px u → BX E u t → H.size ≤ H1.size → (∀ q : Nat, q < H.size → ¬ AX q → H1[q]? = H[q]?) → va_S A0 H0 H1 locs1 → H1[q9]? = some ce → ce.vm = .none → s.vm.findClass E = some ce.cls → vx_W p l e R s m args below meth c H1 locs1 (cells + mc) (slots + ms) Q (F0 m pc ls rest) q9)
    (kk : ∀ (r : UInt64) (u : S) (t : State) (H1 : Heap) (locs1 : List Loc), t.heap = H1 → s.vm.Alike t.vm → post r u → B u t → H.size ≤ H1.size → (∀ q : Nat, q < H.size → ¬ A1 q → H1[q]? = H[q]?) → va_S A0 H0 H1 locs1 → W p l e R s m args below meth c H1 locs1 (cells + mc) (slots + ms) Q (F0 m (pc + 3) ls (.double r :: rest))) : W p l e R s m args below meth c H locs cells slots Q (F0 m pc ls st0) := by
  intro T hT X
  rcases hr T hT X with ⟨v, st₀, t, T', L, h0, X', hL, e1, e2, ⟨⟨r, u, hv, hp, hb⟩, hF⟩, st⟩ | ⟨q, st₀, t, T', L, E, ce, h0, X', hL, e1, e2, ⟨u, hp, hb, hF⟩, hce, hcv, hcl, st⟩
  · cases hv
    obtain ⟨k1, k2, k3⟩ := vx_keep h0 e1 hS hA hf hL hF
    obtain ⟨t2, a1, b1⟩ := kk r u t T'.heap (locs ++ L) e1.symm (by rw [← e2]; exact X'.warmed.alike) hp hb k1 k2 k3 T' rfl X'
    exact ⟨t2, st t2 a1, b1⟩
  · obtain ⟨k1, k2, k3⟩ := vx_keep h0 e1 hS hAX hf hL hF
    obtain ⟨t2, a1, b1⟩ := kx E ce q u t T'.heap (locs ++ L) e1.symm (by rw [← e2]; exact X'.warmed.alike) hp hb k1 k2 k3 (by rw [e1]; exact hce) hcv hcl T' rfl X'
    exact ⟨t2, st.trans a1, b1⟩
theorem vx_callv {S SX : Type} {post : S → Prop} {px : SX → Prop} {B : S → State → Prop} {BX : String → SX → State → Prop} {AX : Nat → Prop} (hr : vx_Run p l e R s m args below meth c H locs cells slots mc ms (F0 m pc ls st0) rest (va_Qv post B A1 a) (vx_X px BX AX) free) (hS : va_S A0 H0 H locs) (hA : ∀ q, q < H.size → A1 q → A0 q) (hf : ∀ q, free q → A0 q) (hAX : ∀ q, q < H.size → AX q → A0 q)
    (kx : ∀ (E : String) (ce : Cell) (q9 : Addr) (u : SX) (t : State) (H1 : Heap) (locs1 : List Loc), t.heap = H1 → s.vm.Alike t.vm → px u → BX E u t → H.size ≤ H1.size → (∀ q : Nat, q < H.size → ¬ AX q → H1[q]? = H[q]?) → va_S A0 H0 H1 locs1 → H1[q9]? = some ce → ce.vm = .none → s.vm.findClass E = some ce.cls → vx_W p l e R s m args below meth c H1 locs1 (cells + mc) (slots + ms) Q (F0 m pc ls rest) q9)
    (kk : ∀ (u : S) (t : State) (H1 : Heap) (locs1 : List Loc), t.heap = H1 → s.vm.Alike t.vm → post u → B u t → H.size ≤ H1.size → (∀ q : Nat, q < H.size → ¬ A1 q → H1[q]? = H[q]?) → va_S A0 H0 H1 locs1 → W p l e R s m args below meth c H1 locs1 (cells + mc) (slots + ms) Q (F0 m (pc + 3) ls (rest))) : W p l e R s m args below meth c H locs cells slots Q (F0 m pc ls st0) := by
  intro T hT X
  rcases hr T hT X with ⟨v, st₀, t, T', L, h0, X', hL, e1, e2, ⟨⟨u, hv, hp, hb⟩, hF⟩, st⟩ | ⟨q, st₀, t, T', L, E, ce, h0, X', hL, e1, e2, ⟨u, hp, hb, hF⟩, hce, hcv, hcl, st⟩
  · cases hv
    obtain ⟨k1, k2, k3⟩ := vx_keep h0 e1 hS hA hf hL hF
    obtain ⟨t2, a1, b1⟩ := kk u t T'.heap (locs ++ L) e1.symm (by rw [← e2]; exact X'.warmed.alike) hp hb k1 k2 k3 T' rfl X'
    exact ⟨t2, st t2 a1, b1⟩
  · obtain ⟨k1, k2, k3⟩ := vx_keep h0 e1 hS hAX hf hL hF
    obtain ⟨t2, a1, b1⟩ := kx E ce q u t T'.heap (locs ++ L) e1.symm (by rw [← e2]; exact X'.warmed.alike) hp hb k1 k2 k3 (by rw [e1]; exact hce) hcv hcl T' rfl X'
    exact ⟨t2, st.trans a1, b1⟩
/-- caught by the row x of this method's table; the rows ahead don't take it -/
theorem vx_catch {own name : String} {E : String} {ce : Cell} {q : Addr} (hown : s.vm.findClass own = some m.cls) (pre : List ExceptionTableEntry) (x : ExceptionTableEntry) (suf : List ExceptionTableEntry) (hsplit : c.exceptionTable.toList = pre ++ x :: suf)
    (hpass : ∀ z ∈ pre, covers z pc = false ∨ (z.catchType ≠ 0 ∧ ∃ nm : String, (Cond.classLink own z.catchType nm).before args s = true ∧ va_Nc E nm s)) (hx : covers x pc = true) (h0 : x.catchType ≠ 0)
    (hlink : (Cond.classLink own x.catchType name).before args s = true) (hcast : (Cond.castable E name).before args s = true) (hcell : H[q]? = some ce) (hv : ce.vm = .none) (hcl : s.vm.findClass E = some ce.cls)
    (kk : W p l e R s m args below meth c H locs cells slots Q (F0 m x.handlerPc ls [.ref q])) : vx_W p l e R s m args below meth c H locs cells slots Q (F0 m pc ls rest) q := by
  intro T hT X
  have hpl : e.platform.magicAccessors = ({} : Platform).magicAccessors := by rw [X.admits.platform]
  obtain ⟨c3, c4, hc3, hc4, hasg⟩ := Cond.castable_spec hcast
  cases Option.some.inj (hc3.symm.trans hcl)
  obtain ⟨c5, hc5, hcl5⟩ := Cond.classLink_spec hown hlink e.platform hpl
  cases Option.some.inj (hc4.symm.trans hc5)
  obtain ⟨vm', X', st⟩ := ct_through X q (g := F0 m pc ls rest) rfl (by rw [hT]; exact hcell) (by rw [hv]; rfl) (by obtain ⟨k9, h9, -⟩ := Vm.findClass_spec hcl; exact ⟨k9, h9⟩) pre x suf hsplit
    (fun z hz => by
      rcases hpass z hz with h | ⟨hz0, nm, hl1, hn1⟩
      · exact Or.inl h
      · obtain ⟨c6, hc6, hcl6⟩ := Cond.classLink_spec hown hl1 e.platform hpl
        obtain ⟨a8, b8, h1, h2, h3⟩ := hn1
        cases Option.some.inj (h1.symm.trans hcl)
        cases Option.some.inj (h2.symm.trans hc6)
        exact Or.inr ⟨hz0, _, hcl6, h3⟩) hx h0 hcl5 hasg
  obtain ⟨t, a1, b1⟩ := kk (T.setVm vm') hT X'
  exact ⟨t, st t a1, b1⟩
end Rows
section Ends
variable {p : Program} {l : Launch} {e : Env} {R : Room} {s : State} {m : MethodId} {args : Array Value} {below : List Frame} {meth : Method} {c : Code} {H : Heap} {locs : List Loc} {cells slots : Nat} {Q : State → Prop}
variable {mc ms : Nat} {free : Addr → Prop} {A0 A1 : Nat → Prop} {H0 : Heap} {a : Array Value} {ls : Array Slot} {st0 rest : List Value}
variable {Qc : Array Value → State → Outcome → State → Prop} {XC : String → State → State → Prop}
/-- what a body that may throw owes at its end -/
def vx_MQ (below : List Frame) (Qc : Array Value → State → Outcome → State → Prop) (XC : String → State → State → Prop) (a : Array Value) (s : State) (mc ms : Nat) (free : Addr → Prop) : State → Prop := fun t =>
  ∃ o, t.status = .running ∧ Ended t below o ∧ vx_Q Qc XC mc ms free a s o t
theorem vx_ret {g : JFrame} {mc ms : Nat} (k : W p l e R s m args below meth c H locs cells slots (MQ below Qc args s mc ms free) g) : W p l e R s m args below meth c H locs cells slots (vx_MQ below Qc XC args s mc ms free) g := by
  intro T hT X
  obtain ⟨t, a1, o, b1, b2, b3, b4⟩ := k T hT X
  exact ⟨t, a1, o, b1, b2, Or.inl ⟨b3, b4⟩⟩
/-- not caught here: it goes on to the caller -/
theorem vx_widen {g : JFrame} {q : Addr} {k n : Nat} (h1 : cells ≤ k) (h2 : slots ≤ n) (kk : vx_W p l e R s m args below meth c H locs k n Q g q) : vx_W p l e R s m args below meth c H locs cells slots Q g q := fun T hT X => kk T hT (stand_widen X h1 h2)
theorem vx_out {pc : Nat} {E : String} {ce : Cell} {q : Addr} {mc ms : Nat} (hout : ∀ x ∈ c.exceptionTable.toList, covers x pc = false) (hlocks : meth.locks = false) (hcell : H[q]? = some ce) (hv : ce.vm = .none) (hcl : s.vm.findClass E = some ce.cls)
    (hx : ∀ t : State, t.heap = H → s.vm.Alike t.vm → XC E s t) (hf : ∀ z ∈ locs, free z.base) (hc : cells ≤ mc) (hs : slots ≤ ms) :
    vx_W p l e R s m args below meth c H locs cells slots (vx_MQ below Qc XC args s mc ms free) (F0 m pc ls rest) q := by
  intro T hT X
  obtain ⟨st1, hrun, hend, hW, hsm⟩ := X.leaveThrown q (g := F0 m pc ls rest) rfl rfl rfl hout hlocks
  have hcell9 : (T.setFrames (.throwing q :: below)).heap[q]? = some ce := by
    show T.heap[q]? = some ce
    rw [hT]; exact hcell
  exact ⟨_, st1, .threw q, hrun, hend, Or.inr ⟨q, rfl, E, ce, locs, hx _ hT hW.alike, hcell9, hv, hcl, hW, hsm.mono hc hs, hf⟩⟩
theorem vx_frame {U : State} {k n : Nat} (h : s.sameButNew ({ U with vm := s.vm } : State) locs k n) : s.heap.size ≤ U.heap.size ∧ ∀ q : Nat, q < s.heap.size → (∀ z ∈ locs, z.base ≠ q) → U.heap[q]? = s.heap[q]? := by
  obtain ⟨-, h2, -, -, -, h6⟩ := h
  refine ⟨h2, fun q hq hz => ?_⟩
  obtain ⟨c9, e1, e2, e3, e4⟩ := h6 q _ (Array.getElem?_eq_getElem hq)
  have hs : c9.slots = (s.heap[q]).slots := Array.ext_getElem? fun i => e4 i fun hm => hz _ hm rfl
  have h9 : c9 = s.heap[q] := by
    rw [hs] at e2
    exact e2
  have e5 : U.heap[q]? = some c9 := e1
  rw [e5, h9, Array.getElem?_eq_getElem hq]
/-- the words of a throw but the four that speak of the heap -/
def vx_no (w : Cond) : Bool := decide (w ≠ .isRef (.static Bundle.tN "UNASSIGNED_STACK" Bundle.steD)) && decide (w ≠ .isRef (.static Bundle.tN "SUPPRESSED_SENTINEL" Bundle.listD)) && decide (w ≠ .laysStatic Bundle.tN "UNASSIGNED_STACK" Bundle.steD) && decide (w ≠ .laysStatic Bundle.tN "SUPPRESSED_SENTINEL" Bundle.listD)
def vx_at0 (own : String) (ic : Nat) (X : String) (names : List String) : List Cond := (Bundle.ownAtoms0 own ic X names).filter vx_no
def vx_atS (own : String) (ic : Nat) (X : String) (names : List String) : List Cond := (Bundle.ownAtoms own ic X names).filter vx_no
/-- a word that the tables alone decide, or a good one -/
def vx_ot (w : Cond) : Bool := w.onTables || goodWord w
theorem vx_ot_at {args a' : Array Value} {s U : State} {w : Cond} (hW : s.WarmedH U.vm) (hvm : s.vm = U.vm) (hg : vx_ot w = true) (h : w.before args s = true) : w.before a' U = true := by
  simp only [vx_ot, Bool.or_eq_true] at hg
  rcases hg with hg | hg
  · exact va_tabs hg hvm h
  · exact word_at hW (good_of_word hg) h
/-- a list's words: the good ones out of the method's own list, the others by premises of their own -/
theorem vx_hat {args : Array Value} {s : State} {L B : List Cond} (h1 : ∀ w ∈ L.filter goodWord, w.before args s = true) (h2 : ∀ w ∈ L.filter (fun w => !goodWord w), w ∈ B) (h3 : ∀ w ∈ B, w.before args s = true) : ∀ w ∈ L, w.before args s = true := by
  intro w hw
  by_cases g : goodWord w = true
  · exact h1 w (List.mem_filter.mpr ⟨hw, g⟩)
  · refine h3 w (h2 w (List.mem_filter.mpr ⟨hw, ?_⟩))
    show (!goodWord w) = true
    cases hgw : goodWord w
    · rfl
    · exact absurd hgw g
theorem vx_c {args : Array Value} {s : State} {w : Cond} {B : List Cond} (h : w.before args s = true) (t : ∀ w ∈ B, w.before args s = true) : ∀ w' ∈ w :: B, w'.before args s = true := fun w' h' => (List.mem_cons.mp h').elim (fun e => by rw [e]; exact h) (t w')
theorem vx_n {args : Array Value} {s : State} : ∀ w ∈ ([] : List Cond), w.before args s = true := fun _ h => nomatch h
theorem vx_own {args : Array Value} {s : State} {L : List Cond} (h1 : ∀ w ∈ L.filter vx_no, w.before args s = true)
    (hU : (Cond.isRef (.static Bundle.tN "UNASSIGNED_STACK" Bundle.steD)).before args s = true) (hN : (Cond.isRef (.static Bundle.tN "SUPPRESSED_SENTINEL" Bundle.listD)).before args s = true)
    (lU : (Cond.laysStatic Bundle.tN "UNASSIGNED_STACK" Bundle.steD).before args s = true) (lN : (Cond.laysStatic Bundle.tN "SUPPRESSED_SENTINEL" Bundle.listD).before args s = true) : ∀ w ∈ L, w.before args s = true := by
  intro w hw
  by_cases e1 : w = .isRef (.static Bundle.tN "UNASSIGNED_STACK" Bundle.steD)
  · rw [e1]; exact hU
  · by_cases e2 : w = .isRef (.static Bundle.tN "SUPPRESSED_SENTINEL" Bundle.listD)
    · rw [e2]; exact hN
    · by_cases e3 : w = .laysStatic Bundle.tN "UNASSIGNED_STACK" Bundle.steD
      · rw [e3]; exact lU
      · by_cases e4 : w = .laysStatic Bundle.tN "SUPPRESSED_SENTINEL" Bundle.listD
        · rw [e4]; exact lN
        · exact h1 w (List.mem_filter.mpr ⟨hw, by unfold vx_no; rw [decide_eq_true e1, decide_eq_true e2, decide_eq_true e3, decide_eq_true e4]; rfl⟩)
/-- where a static field lies, its class's statics cell in H -/
def vx_L (C n d : String) (A : Nat → Prop) (U : State) (H : Heap) : Prop := ∃ (c : ClassId) (k : Class) (i : Nat) (f : Field) (a : Nat) (cell : Cell), U.vm.findClass C = some c ∧ U.fieldFound? C n d = some (c, k, i, f) ∧ f.isStatic = true ∧ k.statics = some a ∧ H[a]? = some cell ∧ cell.vm.isStatics = true ∧ cell.cls = c ∧ f.slot < cell.slots.size ∧ k.staticTypes[f.slot]? = some f.type ∧ ¬ A a
theorem vx_L.moved {C n d : String} {A : Nat → Prop} {u U : State} {H : Heap} (hvm : u.vm.Alike U.vm) (h : vx_L C n d A u H) : vx_L C n d A U H := by
  obtain ⟨c, k, i, f, a, cell, h1, h2, h3, h4, h5, h6, h7, h8, h9, h10⟩ := h
  obtain ⟨k', hi', he⟩ := State.fieldFound?_setVm hvm h2
  exact ⟨c, k', i, f, a, cell, by rw [hvm.findClass]; exact h1, hi', h3, by rw [he]; exact h4, h5, h6, h7, h8, by rw [he]; exact h9, h10⟩
theorem vx_L.kept {C n d : String} {A : Nat → Prop} {U : State} {H H1 : Heap} (h : vx_L C n d A U H) (hq : ∀ a : Nat, a < H.size → ¬ A a → H1[a]? = H[a]?) : vx_L C n d A U H1 := by
  obtain ⟨c, k, i, f, a, cell, h1, h2, h3, h4, h5, h6, h7, h8, h9, h10⟩ := h
  exact ⟨c, k, i, f, a, cell, h1, h2, h3, h4, by rw [hq a (Array.getElem?_eq_some_iff.mp h5).1 h10]; exact h5, h6, h7, h8, h9, h10⟩
theorem vx_L.narrow {C n d : String} {A B : Nat → Prop} {U : State} {H : Heap} (h : vx_L C n d A U H) (hAB : ∀ q, B q → A q) : vx_L C n d B U H := by
  obtain ⟨c, k, i, f, a, cell, h1, h2, h3, h4, h5, h6, h7, h8, h9, h10⟩ := h
  exact ⟨c, k, i, f, a, cell, h1, h2, h3, h4, h5, h6, h7, h8, h9, fun z => h10 (hAB _ z)⟩
theorem vx_L.word {C n d : String} {A : Nat → Prop} {s : State} {args : Array Value} (h : vx_L C n d A s s.heap) : (Cond.laysStatic C n d).before args s = true := by
  obtain ⟨c, k, i, f, a, cell, h1, h2, h3, h4, h5, h6, h7, h8, h9, -⟩ := h
  show (Cond.laysStatic C n d).holds args s none s [] = true
  exact Cond.laysStatic_of h1 h2 h3 h4 h5 h6 h7 h8 h9
/-- .. and what it holds: null or some reference -/
def vx_Zq (C n d : String) (A : Nat → Prop) (U : State) (H : Heap) : Prop := va_Zq C n d A U H ∧ vx_L C n d A U H
theorem vx_Zq.moved {C n d : String} {A : Nat → Prop} {u U : State} {H : Heap} (hvm : u.vm.Alike U.vm) (h : vx_Zq C n d A u H) : vx_Zq C n d A U H := ⟨va_Zq.moved hvm h.1, vx_L.moved hvm h.2⟩
theorem vx_Zq.kept {C n d : String} {A : Nat → Prop} {U : State} {H H1 : Heap} (h : vx_Zq C n d A U H) (hq : ∀ a : Nat, a < H.size → ¬ A a → H1[a]? = H[a]?) : vx_Zq C n d A U H1 := ⟨va_Zq.kept h.1 hq, vx_L.kept h.2 hq⟩
theorem vx_Zq.narrow {C n d : String} {A B : Nat → Prop} {U : State} {H : Heap} (h : vx_Zq C n d A U H) (hAB : ∀ q, B q → A q) : vx_Zq C n d B U H := ⟨va_Zq.narrow h.1 hAB, vx_L.narrow h.2 hAB⟩
theorem vx_Zqof {args : Array Value} {s : State} {C n d : String} {A : Nat → Prop} (hl : (Cond.laysStatic C n d).before args s = true) (hini : (Cond.initialized C).before args s = true) (h : (Cond.isRef (.static C n d)).before args s = true) (hA : ∀ a : Nat, a < s.heap.size → ¬ A a) : vx_Zq C n d A s s.heap := by
  refine ⟨va_Zqof hl hini h hA, ?_⟩
  obtain ⟨c, k, i, f, a, cell, h1, h2, h3, h4, h5, h6, h7, h8, h9⟩ := Cond.laysStatic_spec hl
  exact ⟨c, k, i, f, a, cell, h1, h2, h3, h4, h5, h6, h7, h8, h9, hA a (Array.getElem?_eq_some_iff.mp h5).1⟩
theorem vx_isRef {C n d : String} {v : Value} {A : Nat → Prop} {s : State} {args : Array Value} (h : va_Z C n d v A s s.heap) (hv : v.isRef = true) : (Cond.isRef (.static C n d)).before args s = true := by
  obtain ⟨cf, kf, fi, f, a, cell, h1, h2, h3, h4, h5, h6, h7, -⟩ := h
  have he : (Term.static C n d).eval args s none [] s = some v := by
    simp [Term.eval, State.fieldNamed?, h1, h2, h4, h5, h6, h7]
  simp only [Cond.before, Cond.holds, Cond.value, he]
  cases v <;> simp_all [Value.isRef]
theorem vx_isRefq {C n d : String} {A : Nat → Prop} {s : State} {args : Array Value} (h : va_Zq C n d A s s.heap) : (Cond.isRef (.static C n d)).before args s = true := by
  rcases h with h | ⟨t, h⟩
  · exact vx_isRef h rfl
  · exact vx_isRef h rfl
/-- the same frame, seen from here: as if the method were called anew in this heap -/
theorem vx_rebase {T : State} (X : Stand p l e R s m args below meth c T locs cells slots) {R' : Room} (hf : R'.frames ≤ R.frames) (hl : R'.locals ≤ R.locals) (hc : cells + R'.cells ≤ R.cells) (hs : slots + R'.slots ≤ R.slots) :
    Stand p l e R' ((T.setVm s.vm).setFrames (.invoking m args :: below)) m args below meth c T [] 0 0 := by
  have htop : (T.setVm s.vm).topJava?.isSome := X.here.top
  have hF : ((T.setVm s.vm).setFrames (.invoking m args :: below)).frames = .invoking m args :: below := State.frames_setFrames _ (State.cur_lt_of_top htop)
  obtain ⟨g₀, hg0⟩ := Option.isSome_iff_exists.mp htop
  obtain ⟨r, hr⟩ := State.topJava?_eq_some.mp hg0
  have hl9 : e.platform.stackLimits (T.setVm s.vm).me = e.platform.stackLimits s.me := X.limits
  have hb9 : (T.setVm s.vm).me.stackBytes = s.me.stackBytes := X.bytes
  refine ⟨X.admits, X.cas, X.clock, hF, ?_, X.hears, X.method, X.code, X.here, X.tail, X.warmed, ?_, ?_, ?_⟩
  · have h := X.room
    have hU : ((T.setVm s.vm).setFrames (.invoking m args :: below)).localsInUse = s.localsInUse := by
      rw [State.localsInUse_invoking hF (meth := meth) (c := c) X.method X.code, State.localsInUse_invoking X.frames X.method X.code]
    simp only [State.hasRoom, Bool.and_eq_true, decide_eq_true_eq] at h ⊢
    obtain ⟨⟨⟨⟨h1, h2, h3, h4, h5, h6⟩, h7⟩, h8⟩, h9⟩ := h
    rw [X.frames, List.length_cons] at h2 h3
    have q1 := X.heapSize
    have q2 := X.used
    simp only [hF, hU, List.length_cons, State.stackLimits_setFrames, State.stackBytes_setFrames, hl9, hb9]
    refine ⟨⟨⟨⟨by omega, by omega, by omega, by omega, by omega, h6⟩, ?_⟩, ?_⟩, X.book⟩
    · show T.heap.size + R'.cells ≤ e.platform.maxCells
      omega
    · show T.slotsUsed + R'.slots ≤ e.platform.maxSlots
      omega
  · rw [State.stackLimits_setFrames]; rfl
  · rw [State.stackBytes_setFrames]; rfl
  · refine ⟨?_, Nat.le_refl _, Nat.le_refl _, ?_, ?_, fun a c9 h9 => ⟨c9, h9, rfl, rfl, fun _ _ => rfl⟩⟩
    · obtain ⟨t, ht, -⟩ := State.frames_cons hr
      show T.setVm s.vm = { ((T.setVm s.vm).setFrames (.invoking m args :: below)).setFrames (T.setVm s.vm).frames with heap := T.heap, slotsUsed := T.slotsUsed }
      rw [State.setFrames_setFrames, State.setFrames_self ht]
      rfl
    · show T.slotsUsed = T.slotsUsed + ((T.heap.toList.drop T.heap.size).map (·.slots.size)).sum
      rw [List.drop_eq_nil_of_le (Nat.le_of_eq Array.length_toList)]
      rfl
    · show ((T.heap.toList.drop T.heap.size).map (·.slots.size)).sum ≤ 0
      rw [List.drop_eq_nil_of_le (Nat.le_of_eq Array.length_toList)]
      exact Nat.le_refl _
/-- 'throw new E()': new; dup; invokespecial; athrow -/
theorem vx_throw0 {cc : ByteArray} {pc : Nat} (hexec : p.tables.exec = Jvm.exec) (hb : c.code = cc) (hl : l.stackTraces = false) {own cls : String} {names : List String} {ik ic mc ms : Nat} {A : Nat → Prop}
    (hown : s.vm.findClass own = some m.cls) (hcls : Bundle.fit cls = true) (hnames : ∀ n ∈ names, Bundle.fit n = true)
    (hk : (Cond.classLink own ik cls).before args s = true) (hini : (Cond.initialized cls).before args s = true) (hat : ∀ w ∈ vx_at0 own ic cls names, w.before args s = true)
    (hgood : ∀ w ∈ Cond.classLink own ik cls :: Cond.initialized cls :: vx_at0 own ic cls names, vx_ot w = true)
    (hU : vx_Zq Bundle.tN "UNASSIGNED_STACK" Bundle.steD A s s.heap) (hN : vx_Zq Bundle.tN "SUPPRESSED_SENTINEL" Bundle.listD A s s.heap) (hS : va_S A s.heap H locs) (hsize : ls.size = c.maxLocals)
    (d0 : decode cc pc = .ok (.new ik, 3)) (d3 : decode cc (pc + 3) = .ok (.dup, 1)) (d4 : decode cc (pc + 4) = .ok (.invokespecial ic, 3)) (d7 : decode cc (pc + 7) = .ok (.athrow, 1))
    (hout : ∀ x ∈ c.exceptionTable.toList, covers x (pc + 7) = false)
    (hRframes : names.length + 3 < R.frames) (hRlocals : (rest.map fun v => v.category).sum + (13 * (names.length + 1) + 42) ≤ R.locals) (hRcells : cells + 1 ≤ R.cells) (hRslots : slots + 6 ≤ R.slots) (hlocks : meth.locks = false)
    (hx : ∀ t : State, s.vm.Alike t.vm → H.size ≤ t.heap.size → (∀ q : Nat, q < H.size → t.heap[q]? = H[q]?) → XC cls s t)
    (hf : ∀ z ∈ locs, free z.base) (hc : cells + 1 ≤ mc) (hs : slots + 6 ≤ ms) :
    W p l e R s m args below meth c H locs cells slots (vx_MQ below Qc XC args s mc ms free) (F0 m pc ls rest) := by
  intro T hT X
  have htr : e.platform.stackTraces = false := (show e.platform.stackTraces = l.stackTraces by rw [X.admits.platform]).trans hl
  have Y := vx_rebase X (R' := { frames := R.frames, locals := R.locals, cells := 1, slots := 6 }) (Nat.le_refl _) (Nat.le_refl _) hRcells hRslots
  obtain ⟨s', hA⟩ : ∃ z, z = (T.setVm s.vm).setFrames (.invoking m args :: below) := ⟨_, rfl⟩
  rw [← hA] at Y
  have hvm : s'.vm = s.vm := by rw [hA]; rfl
  have hhp : s'.heap = H := by rw [hA]; exact hT
  have hW0 : s.WarmedH s'.vm := by rw [hvm]; exact State.WarmedH.refl s
  have hat' : ∀ w ∈ vx_at0 own ic cls names, w.before args s' = true := fun w hw => vx_ot_at hW0 hvm.symm (hgood w (List.mem_cons_of_mem _ (List.mem_cons_of_mem _ hw))) (hat w hw)
  have hk' : (Cond.classLink own ik cls).before args s' = true := vx_ot_at hW0 hvm.symm (hgood _ List.mem_cons_self) hk
  have hini' : (Cond.initialized cls).before args s' = true := vx_ot_at hW0 hvm.symm (hgood _ (List.mem_cons_of_mem _ List.mem_cons_self)) hini
  have hU' : vx_Zq Bundle.tN "UNASSIGNED_STACK" Bundle.steD A s' s'.heap := by rw [hhp]; exact vx_Zq.moved hW0.alike (hU.kept hS.2.1)
  have hN' : vx_Zq Bundle.tN "SUPPRESSED_SENTINEL" Bundle.listD A s' s'.heap := by rw [hhp]; exact vx_Zq.moved hW0.alike (hN.kept hS.2.1)
  have h : ∀ w ∈ Bundle.ownAtoms0 own ic cls names, w.before args s' = true := vx_own hat' (vx_isRefq hU'.1) (vx_isRefq hN'.1) hU'.2.word hN'.2.word
  have hown' : s'.vm.findClass own = some m.cls := by rw [hvm]; exact hown
  have hins : (Cond.instantiable cls 6).before args s' = true := h _ (by simp [Bundle.ownAtoms0])
  obtain ⟨vm₁, cX, kX, hfX, hkX, -, -, X₁, st1⟩ := Y.newCold hexec (own := own) (C := cls) (index := ik) (n := 6) hown' hk' hins hini'
    (g := F0 m pc ls rest) rfl (by rw [hb]; exact d0) (Nat.le_refl _) (Nat.le_refl _)
  generalize hT1 : (T.setVm vm₁).pushCell { cls := cX, slots := kX.instanceTypes.map defaultValue, vm := .none } = T1 at X₁ st1
  have hcat : (Value.ref T.heap.size).category = 1 := rfl
  have hcellA : T1.heap[T.heap.size]? = some (freshCell cX kX) := by rw [← hT1]; exact State.heap_pushCell_size _ _
  have d3' : decode c.code (pc + 3) = .ok (.dup, 1) := by rw [hb]; exact d3
  obtain ⟨U, hsteps, hrun, hend, hW, hsame, ce, hce, hO⟩ := X₁.ctorThrow0 hexec htr (own := own) (cls := cls) (names := names) (ic := ic) hown' hcls hnames h (fun x hx => nomatch hx) hfX hkX hcellA (by rw [hhp, hT]; exact Nat.le_refl _)
    (g := { method := m, pc := pc + 4, locals := ls, stack := .ref T.heap.size :: .ref T.heap.size :: rest, locked := none }) rfl hsize rfl rfl (rest := rest) rfl
    (by rw [hb]; exact d4) (by rw [hb]; exact d7) hout hRframes (by simp only [List.map_cons, List.sum_cons, hcat]; omega) hlocks
  obtain ⟨f1, f2⟩ := vx_frame hsame
  rw [hhp] at f1 f2
  have hWs : s.WarmedH U.vm := State.WarmedH.trans hW0 hW
  have hcl : s.vm.findClass cls = some ce.cls := by
    have h9 := hO.cls
    rw [hvm] at h9
    exact h9
  have hall : s.sameButNew ({ U with vm := s.vm } : State) locs mc ms := by
    subst hA
    obtain ⟨e1, e2⟩ := hsame
    rw [State.setFrames_setFrames] at e1
    have h2 : (T.setVm s.vm).sameButNew ({ U with vm := s.vm } : State) [] (0 + 1) (0 + 6) := ⟨e1, e2⟩
    have h3 := X.same.trans h2
    rw [List.append_nil] at h3
    exact h3.mono hc hs
  refine ⟨U, ?_, .threw T.heap.size, hrun, hend, Or.inr ⟨T.heap.size, rfl, cls, ce, locs, hx U hWs.alike f1 (fun q hq => f2 q hq (fun z hz => nomatch hz)), hce, hO.vm, hcl, hWs, hall, hf⟩⟩
  refine st1 _ ?_
  show Steps p.tables e below (T1.setTop { method := m, pc := pc + 3, locals := ls, stack := .ref T.heap.size :: rest, locked := none }) _
  jvm_step X₁.here [X₁.here.top, hexec, d3', Value.category]
  exact hsteps
/-- 'throw new E("text")': new; dup; ldc; invokespecial; athrow -/
theorem vx_throwS {cc : ByteArray} {pc : Nat} (hexec : p.tables.exec = Jvm.exec) (hb : c.code = cc) (hl : l.stackTraces = false) {own cls text : String} {names : List String} {ik is ic mc ms sa : Nat} {A : Nat → Prop}
    (hown : s.vm.findClass own = some m.cls) (hcls : Bundle.fit cls = true) (hnames : ∀ n ∈ names, Bundle.fit n = true)
    (hk : (Cond.classLink own ik cls).before args s = true) (hini : (Cond.initialized cls).before args s = true) (hstr : vk_R own is text sa s) (hat : ∀ w ∈ vx_atS own ic cls names, w.before args s = true)
    (hgood : ∀ w ∈ Cond.classLink own ik cls :: Cond.initialized cls :: vx_atS own ic cls names, vx_ot w = true)
    (hU : vx_Zq Bundle.tN "UNASSIGNED_STACK" Bundle.steD A s s.heap) (hN : vx_Zq Bundle.tN "SUPPRESSED_SENTINEL" Bundle.listD A s s.heap) (hS : va_S A s.heap H locs) (hsize : ls.size = c.maxLocals)
    (d0 : decode cc pc = .ok (.new ik, 3)) (d3 : decode cc (pc + 3) = .ok (.dup, 1)) (d4 : decode cc (pc + 4) = .ok (.ldc is, 2)) (d6 : decode cc (pc + 6) = .ok (.invokespecial ic, 3)) (d9 : decode cc (pc + 9) = .ok (.athrow, 1))
    (hout : ∀ x ∈ c.exceptionTable.toList, covers x (pc + 9) = false)
    (hRframes : names.length + 3 < R.frames) (hRlocals : (rest.map fun v => v.category).sum + (13 * (names.length + 1) + 43) ≤ R.locals) (hRcells : cells + 1 ≤ R.cells) (hRslots : slots + 6 ≤ R.slots) (hlocks : meth.locks = false)
    (hx : ∀ t : State, s.vm.Alike t.vm → H.size ≤ t.heap.size → (∀ q : Nat, q < H.size → t.heap[q]? = H[q]?) → XC cls s t)
    (hf : ∀ z ∈ locs, free z.base) (hc : cells + 1 ≤ mc) (hs : slots + 6 ≤ ms) :
    W p l e R s m args below meth c H locs cells slots (vx_MQ below Qc XC args s mc ms free) (F0 m pc ls rest) := by
  intro T hT X
  have htr : e.platform.stackTraces = false := (show e.platform.stackTraces = l.stackTraces by rw [X.admits.platform]).trans hl
  have Y := vx_rebase X (R' := { frames := R.frames, locals := R.locals, cells := 1, slots := 6 }) (Nat.le_refl _) (Nat.le_refl _) hRcells hRslots
  obtain ⟨s', hA⟩ : ∃ z, z = (T.setVm s.vm).setFrames (.invoking m args :: below) := ⟨_, rfl⟩
  rw [← hA] at Y
  have hvm : s'.vm = s.vm := by rw [hA]; rfl
  have hhp : s'.heap = H := by rw [hA]; exact hT
  have hW0 : s.WarmedH s'.vm := by rw [hvm]; exact State.WarmedH.refl s
  have hat' : ∀ w ∈ vx_atS own ic cls names, w.before args s' = true := fun w hw => vx_ot_at hW0 hvm.symm (hgood w (List.mem_cons_of_mem _ (List.mem_cons_of_mem _ hw))) (hat w hw)
  have hk' : (Cond.classLink own ik cls).before args s' = true := vx_ot_at hW0 hvm.symm (hgood _ List.mem_cons_self) hk
  have hini' : (Cond.initialized cls).before args s' = true := vx_ot_at hW0 hvm.symm (hgood _ (List.mem_cons_of_mem _ List.mem_cons_self)) hini
  have hU' : vx_Zq Bundle.tN "UNASSIGNED_STACK" Bundle.steD A s' s'.heap := by rw [hhp]; exact vx_Zq.moved hW0.alike (hU.kept hS.2.1)
  have hN' : vx_Zq Bundle.tN "SUPPRESSED_SENTINEL" Bundle.listD A s' s'.heap := by rw [hhp]; exact vx_Zq.moved hW0.alike (hN.kept hS.2.1)
  have h : ∀ w ∈ Bundle.ownAtoms own ic cls names, w.before args s' = true := vx_own hat' (vx_isRefq hU'.1) (vx_isRefq hN'.1) hU'.2.word hN'.2.word
  have hown' : s'.vm.findClass own = some m.cls := by rw [hvm]; exact hown
  have hins : (Cond.instantiable cls 6).before args s' = true := h _ (by simp [Bundle.ownAtoms])
  obtain ⟨vm₁, cX, kX, hfX, hkX, -, -, X₁, st1⟩ := Y.newCold hexec (own := own) (C := cls) (index := ik) (n := 6) hown' hk' hins hini'
    (g := F0 m pc ls rest) rfl (by rw [hb]; exact d0) (Nat.le_refl _) (Nat.le_refl _)
  generalize hT1 : (T.setVm vm₁).pushCell { cls := cX, slots := kX.instanceTypes.map defaultValue, vm := .none } = T1 at X₁ st1
  have hcat : (Value.ref T.heap.size).category = 1 := rfl
  have hcellA : T1.heap[T.heap.size]? = some (freshCell cX kX) := by rw [← hT1]; exact State.heap_pushCell_size _ _
  have d3' : decode c.code (pc + 3) = .ok (.dup, 1) := by rw [hb]; exact d3
  have d4' : decode c.code (pc + 4) = .ok (.ldc is, 2) := by rw [hb]; exact d4
  have hstr' : vk_R own is text sa s' := vk_R.warm hW0 hstr
  obtain ⟨U, hsteps, hrun, hend, hW, hsame, ce, hce, hO⟩ := X₁.ctorThrowS hexec htr (own := own) (cls := cls) (names := names) (ic := ic) hown' hcls hnames h (fun x hx => nomatch hx) hfX hkX hcellA (by rw [hhp, hT]; exact Nat.le_refl _) (msg := .ref sa) rfl
    (g := { method := m, pc := pc + 6, locals := ls, stack := .ref sa :: .ref T.heap.size :: .ref T.heap.size :: rest, locked := none }) rfl hsize rfl rfl (rest := rest) rfl
    (by rw [hb]; exact d6) (by rw [hb]; exact d9) hout hRframes (by simp only [List.map_cons, List.sum_cons, hcat]; omega) hlocks
  obtain ⟨f1, f2⟩ := vx_frame hsame
  rw [hhp] at f1 f2
  have hWs : s.WarmedH U.vm := State.WarmedH.trans hW0 hW
  have hcl : s.vm.findClass cls = some ce.cls := by
    have h9 := hO.cls
    rw [hvm] at h9
    exact h9
  have hall : s.sameButNew ({ U with vm := s.vm } : State) locs mc ms := by
    subst hA
    obtain ⟨e1, e2⟩ := hsame
    rw [State.setFrames_setFrames] at e1
    have h2 : (T.setVm s.vm).sameButNew ({ U with vm := s.vm } : State) [] (0 + 1) (0 + 6) := ⟨e1, e2⟩
    have h3 := X.same.trans h2
    rw [List.append_nil] at h3
    exact h3.mono hc hs
  refine ⟨U, ?_, .threw T.heap.size, hrun, hend, Or.inr ⟨T.heap.size, rfl, cls, ce, locs, hx U hWs.alike f1 (fun q hq => f2 q hq (fun z hz => nomatch hz)), hce, hO.vm, hcl, hWs, hall, hf⟩⟩
  refine st1 _ ?_
  show Steps p.tables e below (T1.setTop { method := m, pc := pc + 3, locals := ls, stack := .ref T.heap.size :: rest, locked := none }) _
  jvm_step X₁.here [X₁.here.top, hexec, d3', Value.category]
  exact X₁.ldcString hexec (own := own) (text := text) (index := is) (a := sa) hown' hstr'.1 hstr'.2
    (g := { method := m, pc := pc + 4, locals := ls, stack := .ref T.heap.size :: .ref T.heap.size :: rest, locked := none }) rfl d4' _ hsteps
/-- 'throw new E("text")', the text by a wide index -/
theorem vx_throwSW {cc : ByteArray} {pc : Nat} (hexec : p.tables.exec = Jvm.exec) (hb : c.code = cc) (hl : l.stackTraces = false) {own cls text : String} {names : List String} {ik is ic mc ms sa : Nat} {A : Nat → Prop}
    (hown : s.vm.findClass own = some m.cls) (hcls : Bundle.fit cls = true) (hnames : ∀ n ∈ names, Bundle.fit n = true)
    (hk : (Cond.classLink own ik cls).before args s = true) (hini : (Cond.initialized cls).before args s = true) (hstr : vk_R own is text sa s) (hat : ∀ w ∈ vx_atS own ic cls names, w.before args s = true)
    (hgood : ∀ w ∈ Cond.classLink own ik cls :: Cond.initialized cls :: vx_atS own ic cls names, vx_ot w = true)
    (hU : vx_Zq Bundle.tN "UNASSIGNED_STACK" Bundle.steD A s s.heap) (hN : vx_Zq Bundle.tN "SUPPRESSED_SENTINEL" Bundle.listD A s s.heap) (hS : va_S A s.heap H locs) (hsize : ls.size = c.maxLocals)
    (d0 : decode cc pc = .ok (.new ik, 3)) (d3 : decode cc (pc + 3) = .ok (.dup, 1)) (d4 : decode cc (pc + 4) = .ok (.ldc_w is, 3)) (d7 : decode cc (pc + 7) = .ok (.invokespecial ic, 3)) (d10 : decode cc (pc + 10) = .ok (.athrow, 1))
    (hout : ∀ x ∈ c.exceptionTable.toList, covers x (pc + 10) = false)
    (hRframes : names.length + 3 < R.frames) (hRlocals : (rest.map fun v => v.category).sum + (13 * (names.length + 1) + 43) ≤ R.locals) (hRcells : cells + 1 ≤ R.cells) (hRslots : slots + 6 ≤ R.slots) (hlocks : meth.locks = false)
    (hx : ∀ t : State, s.vm.Alike t.vm → H.size ≤ t.heap.size → (∀ q : Nat, q < H.size → t.heap[q]? = H[q]?) → XC cls s t)
    (hf : ∀ z ∈ locs, free z.base) (hc : cells + 1 ≤ mc) (hs : slots + 6 ≤ ms) :
    W p l e R s m args below meth c H locs cells slots (vx_MQ below Qc XC args s mc ms free) (F0 m pc ls rest) := by
  intro T hT X
  have htr : e.platform.stackTraces = false := (show e.platform.stackTraces = l.stackTraces by rw [X.admits.platform]).trans hl
  have Y := vx_rebase X (R' := { frames := R.frames, locals := R.locals, cells := 1, slots := 6 }) (Nat.le_refl _) (Nat.le_refl _) hRcells hRslots
  obtain ⟨s', hA⟩ : ∃ z, z = (T.setVm s.vm).setFrames (.invoking m args :: below) := ⟨_, rfl⟩
  rw [← hA] at Y
  have hvm : s'.vm = s.vm := by rw [hA]; rfl
  have hhp : s'.heap = H := by rw [hA]; exact hT
  have hW0 : s.WarmedH s'.vm := by rw [hvm]; exact State.WarmedH.refl s
  have hat' : ∀ w ∈ vx_atS own ic cls names, w.before args s' = true := fun w hw => vx_ot_at hW0 hvm.symm (hgood w (List.mem_cons_of_mem _ (List.mem_cons_of_mem _ hw))) (hat w hw)
  have hk' : (Cond.classLink own ik cls).before args s' = true := vx_ot_at hW0 hvm.symm (hgood _ List.mem_cons_self) hk
  have hini' : (Cond.initialized cls).before args s' = true := vx_ot_at hW0 hvm.symm (hgood _ (List.mem_cons_of_mem _ List.mem_cons_self)) hini
  have hU' : vx_Zq Bundle.tN "UNASSIGNED_STACK" Bundle.steD A s' s'.heap := by rw [hhp]; exact vx_Zq.moved hW0.alike (hU.kept hS.2.1)
  have hN' : vx_Zq Bundle.tN "SUPPRESSED_SENTINEL" Bundle.listD A s' s'.heap := by rw [hhp]; exact vx_Zq.moved hW0.alike (hN.kept hS.2.1)
  have h : ∀ w ∈ Bundle.ownAtoms own ic cls names, w.before args s' = true := vx_own hat' (vx_isRefq hU'.1) (vx_isRefq hN'.1) hU'.2.word hN'.2.word
  have hown' : s'.vm.findClass own = some m.cls := by rw [hvm]; exact hown
  have hins : (Cond.instantiable cls 6).before args s' = true := h _ (by simp [Bundle.ownAtoms])
  obtain ⟨vm₁, cX, kX, hfX, hkX, -, -, X₁, st1⟩ := Y.newCold hexec (own := own) (C := cls) (index := ik) (n := 6) hown' hk' hins hini'
    (g := F0 m pc ls rest) rfl (by rw [hb]; exact d0) (Nat.le_refl _) (Nat.le_refl _)
  generalize hT1 : (T.setVm vm₁).pushCell { cls := cX, slots := kX.instanceTypes.map defaultValue, vm := .none } = T1 at X₁ st1
  have hcat : (Value.ref T.heap.size).category = 1 := rfl
  have hcellA : T1.heap[T.heap.size]? = some (freshCell cX kX) := by rw [← hT1]; exact State.heap_pushCell_size _ _
  have d3' : decode c.code (pc + 3) = .ok (.dup, 1) := by rw [hb]; exact d3
  have d4' : decode c.code (pc + 4) = .ok (.ldc_w is, 3) := by rw [hb]; exact d4
  have hstr' : vk_R own is text sa s' := vk_R.warm hW0 hstr
  obtain ⟨U, hsteps, hrun, hend, hW, hsame, ce, hce, hO⟩ := X₁.ctorThrowS hexec htr (own := own) (cls := cls) (names := names) (ic := ic) hown' hcls hnames h (fun x hx => nomatch hx) hfX hkX hcellA (by rw [hhp, hT]; exact Nat.le_refl _) (msg := .ref sa) rfl
    (g := { method := m, pc := pc + 7, locals := ls, stack := .ref sa :: .ref T.heap.size :: .ref T.heap.size :: rest, locked := none }) rfl hsize rfl rfl (rest := rest) rfl
    (by rw [hb]; exact d7) (by rw [hb]; exact d10) hout hRframes (by simp only [List.map_cons, List.sum_cons, hcat]; omega) hlocks
  obtain ⟨f1, f2⟩ := vx_frame hsame
  rw [hhp] at f1 f2
  have hWs : s.WarmedH U.vm := State.WarmedH.trans hW0 hW
  have hcl : s.vm.findClass cls = some ce.cls := by
    have h9 := hO.cls
    rw [hvm] at h9
    exact h9
  have hall : s.sameButNew ({ U with vm := s.vm } : State) locs mc ms := by
    subst hA
    obtain ⟨e1, e2⟩ := hsame
    rw [State.setFrames_setFrames] at e1
    have h2 : (T.setVm s.vm).sameButNew ({ U with vm := s.vm } : State) [] (0 + 1) (0 + 6) := ⟨e1, e2⟩
    have h3 := X.same.trans h2
    rw [List.append_nil] at h3
    exact h3.mono hc hs
  refine ⟨U, ?_, .threw T.heap.size, hrun, hend, Or.inr ⟨T.heap.size, rfl, cls, ce, locs, hx U hWs.alike f1 (fun q hq => f2 q hq (fun z hz => nomatch hz)), hce, hO.vm, hcl, hWs, hall, hf⟩⟩
  refine st1 _ ?_
  show Steps p.tables e below (T1.setTop { method := m, pc := pc + 3, locals := ls, stack := .ref T.heap.size :: rest, locked := none }) _
  jvm_step X₁.here [X₁.here.top, hexec, d3', Value.category]
  exact X₁.ldcStringW hexec (own := own) (text := text) (index := is) (a := sa) hown' hstr'.1 hstr'.2
    (g := { method := m, pc := pc + 4, locals := ls, stack := .ref T.heap.size :: .ref T.heap.size :: rest, locked := none }) rfl d4' _ hsteps
end Ends
section Bodies
variable {l : Launch}
theorem vx_ofW {y : MethodName} {ws ws' : List Cond} {rm : Room} {Pc : Array Value → State → Prop} {Qc : Array Value → State → Outcome → State → Prop} {XC : String → State → State → Prop} {mc ms : Nat} {free : Addr → Prop} {cc : ByteArray} {maxL : Nat} {ret : Option FieldType}
    (hy : plainName y.cls = true) (hw : ws = Cond.code y cc maxL ret :: ws')
    (body : ∀ p e s m args below meth c s₁, BodyLoose p l y (headSpec ws rm) cc maxL ret e s m args below meth c s₁ → c.maxLocals = maxL → (∀ x ∈ c.exceptionTable.toList, False) → Pc args s →
      W p l e (headSpec ws rm).room s m args below meth c s.heap [] 0 0 (vx_MQ below Qc XC args s mc ms free) (entryFrame m args maxL)) : vx_Met l y ws rm Pc Qc XC mc ms free := by
  refine MetFree.of_bodyS (code := cc) (maxLocals := maxL) (ret := ret) hy ?_ ?_
  · intro args s m h hn
    obtain ⟨meth, c, h1, h2, h3, h4, h5, h6, -, -⟩ := Cond.code_spec hn (atoms_spec (ws := ws) h _ (by rw [hw]; exact List.mem_cons_self))
    exact ⟨meth, c, h1, h2, h3, h4, h5, h6⟩
  · intro p e s m args below meth c s₁ B hml hP _
    have hh0 : s₁.heap = s.heap := by rw [B.state]; rfl
    have ht : ∀ x ∈ c.exceptionTable.toList, False := by
      obtain ⟨meth9, c9, h1, h2, -, -, -, -, h7, -⟩ := Cond.code_spec B.named (atoms_spec (ws := ws) B.pre _ (by rw [hw]; exact List.mem_cons_self))
      cases Option.some.inj (h1.symm.trans B.method)
      cases Option.some.inj (h2.symm.trans (Stand.of_body B).code)
      intro x hx
      rw [Array.isEmpty_iff.mp h7] at hx
      cases hx
    obtain ⟨t, a1, o, b1, b2, b3⟩ := body p e s m args below meth c s₁ B hml ht hP s₁ hh0 (Stand.of_body B)
    exact ⟨t, o, a1, b1, b2, b3⟩
/-- the table of a body with handlers -/
theorem vx_table {p : Program} {x y : MethodName} {S : Spec} {cc bytes : ByteArray} {maxL maxL' : Nat} {ret ret' : Option FieldType} {e : Env} {s s₁ : State} {m : MethodId} {args : Array Value} {below : List Frame} {meth : Method} {c : Code} {hh : List (Nat × Nat × Nat × Nat)}
    (B : BodyLoose p l y S cc maxL ret e s m args below meth c s₁) (h : (Cond.codeWith y bytes maxL' ret' hh).before args s = true) : c.exceptionTable.toList = tableOf hh := by
  obtain ⟨m9, meth9, c9, hn9, h1, h2, -, -, h6, -⟩ := Cond.codeWith_spec h
  cases Option.some.inj (hn9.symm.trans B.named)
  cases Option.some.inj (h1.symm.trans B.method)
  cases Option.some.inj (h2.symm.trans (Stand.of_body B).code)
  rw [← h6, table_eq]
end Bodies
end VXA
/-! ===== END ===== -/
/-! ===== BEGIN a static call of a method with an exception table ===== -/
section VXS
variable {p : Program} {l : Launch} {e : Env} {R : Room} {s : State} {m : MethodId} {args : Array Value} {below : List Frame} {meth : Method} {c : Code} {T : State} {H : Heap} {locs : List Loc} {cells slots : Nat}
abbrev vx_CSW (R : Room) (s : State) (args : Array Value) (own : String) (index : Nat) (y : MethodName) (bytes : ByteArray) (maxL : Nat) (ret : Option FieldType) (hh : List (Nat × Nat × Nat × Nat)) (ws : List Cond) (rm : Room) (mc ms n : Nat) : Prop :=
  (rm.cells = mc ∧ rm.slots = ms ∧ rm.frames + 1 ≤ R.frames ∧ 8 + (maxL + 11) + rm.locals ≤ R.locals ∧ (∀ w ∈ ws, ∀ (a' : Array Value) (U : State), s.WarmedH U.vm → w.before a' U = true) ∧ Cond.codeWith y bytes maxL ret hh ∈ ws) ∧
  (Cond.codeWith y bytes maxL ret hh).before args s = true ∧ (Cond.initialized y.cls).before args s = true ∧ (y.cls ≠ "java/lang/invoke/MethodHandle" ∧ y.cls ≠ "java/lang/invoke/VarHandle") ∧
  (∀ sig, parseMethodDescriptor y.desc = some sig → n = sig.parameters.length) ∧ (Cond.methodLink own index y).before args s = true ∧ (Cond.static y).before args s = true
theorem vx_cwSW {own : String} {index maxL mc ms : Nat} {y : MethodName} {bytes : ByteArray} {ret : Option FieldType} {hh : List (Nat × Nat × Nat × Nat)} {Ts ws ws' : List Cond} {rm : Room} (n : Nat) (ht : ∀ w ∈ Ts, w.before args s = true) (hT : GoodIn Ts (va_wsS own index y ws)) (hw : ws = Cond.codeWith y bytes maxL ret hh :: ws') (hrc : rm.cells = mc) (hrs : rm.slots = ms)
    (hd : y.cls ≠ "java/lang/invoke/MethodHandle" ∧ y.cls ≠ "java/lang/invoke/VarHandle" ∧ (parseMethodDescriptor y.desc).map (fun d => d.parameters.length) = some n) (hR : rm.frames + 1 ≤ R.frames ∧ 8 + (maxL + 11) + rm.locals ≤ R.locals) :
    vx_CSW R s args own index y bytes maxL ret hh ws rm mc ms n := by
  have ok : ∀ w ∈ va_wsS own index y ws, w.before args s = true := fun w h => ht w (hT w h).1
  have hG : GoodIn Ts ws := fun w h => hT w (by unfold va_wsS; exact List.mem_append_right _ h)
  have hc : Cond.codeWith y bytes maxL ret hh ∈ ws := by rw [hw]; exact List.mem_cons_self
  refine ⟨⟨hrc, hrs, hR.1, hR.2, pay_in ht hG, hc⟩, ht _ (hG _ hc).1, ok _ (by simp [va_wsS]), ⟨hd.1, hd.2.1⟩, fun sig h => ?_, ok _ (by simp [va_wsS]), ok _ (by simp [va_wsS])⟩
  have h2 := hd.2.2
  rw [h] at h2
  exact (Option.some.inj h2).symm
theorem vx_callSW (X : Stand p l e R s m args below meth c T locs cells slots) (hexec : p.tables.exec = Jvm.exec) {own : String} {index : Nat} {y : MethodName} {bytes : ByteArray} {maxL : Nat} {ret : Option FieldType} {hh : List (Nat × Nat × Nat × Nat)}
    (hown : s.vm.findClass own = some m.cls) (hlink : (Cond.methodLink own index y).before args s = true) (hstat : (Cond.static y).before args s = true) (hinit : (Cond.initialized y.cls).before args s = true)
    (hcode : (Cond.codeWith y bytes maxL ret hh).before args s = true) (hy : y.cls ≠ "java/lang/invoke/MethodHandle" ∧ y.cls ≠ "java/lang/invoke/VarHandle")
    {W9 : Nat} {Pre : Pt → Array Value → Prop} {Post : Pt → Array Value → Option Value → Pt → Prop} (hK : Back l R p e below s args y 3 W9 Pre Post)
    {g : JFrame} (hg : g.method = m) (hsize : g.locals.size = c.maxLocals) {argsL rest : List Value} (hlen : ∀ sig, parseMethodDescriptor y.desc = some sig → argsL.length = sig.parameters.length)
    (hstack : g.stack = argsL.reverse ++ rest) (hW : 2 * g.monitorRoom + (rest.map fun v => v.category).sum ≤ W9) (hdg : decode c.code g.pc = .ok (.invokestatic index, 3))
    (hpre : ∀ vm₁, s.WarmedH vm₁ → Pre ⟨T.setVm vm₁, locs, cells, slots⟩ argsL.toArray) :
    ∃ (v : Option Value) (vm₁ : Vm) (B : Pt), s.WarmedH vm₁ ∧ Stand p l e R s m args below meth c B.U B.locs B.cells B.slots ∧ Post ⟨T.setVm vm₁, locs, cells, slots⟩ argsL.toArray v B ∧
      ∀ target, Steps p.tables e below (B.U.setTop { g with pc := g.pc + 3, stack := v.toList ++ rest }) target → Steps p.tables e below (T.setTop g) target := by
  obtain ⟨mk, methM, cM, hnamed, hmethM, -, -, -, -, -, -, hsigM⟩ := Cond.codeWith_spec hcode
  have hstatic : methM.isStatic = true := Cond.static_spec hnamed hmethM hstat
  obtain ⟨kP, hkP, -⟩ := className_of_methodNamed hnamed
  have hinitP : kP.init = .initialized := Cond.initialized_spec (findClass_of_methodNamed hnamed) hkP hinit
  obtain ⟨vm₁, X₁, hstep₁⟩ := X.invokestatic hexec hown hlink hnamed hmethM hstatic hkP hinitP hy (g := g) hg (argsL := argsL) (rest := rest) (hlen _ hsigM) hstack hdg
  obtain ⟨v, B, X', hpost, hsteps⟩ := hK m meth c ⟨T.setVm vm₁, locs, cells, slots⟩ { g with stack := rest } (.invokestatic index) mk argsL.toArray X₁ hg hsize hdg hW (X₁.named hnamed) (hpre vm₁ X₁.warmed)
  exact ⟨v, vm₁, B, X₁.warmed, X', hpost, fun target h => hstep₁ _ fun acts => by rw [doInvoke_state]; exact hsteps.trans h⟩
theorem vx_runSW {y : MethodName} {bytes cc : ByteArray} {maxL nL mc ms n index : Nat} {ret : Option FieldType} {hh : List (Nat × Nat × Nat × Nat)} {ws : List Cond} {rm : Room} {Pc : Array Value → State → Prop} {Qc : Array Value → State → Outcome → State → Prop} {free : Addr → Prop} {Ts : List Cond} {own : String} {As rest : List Value} {g : JFrame}
    (S : CallFix p m c cc nL s args Ts own) (hM : Met l y ws rm Pc Qc mc ms free) (cw : vx_CSW R s args own index y bytes maxL ret hh ws rm mc ms n) (hp : PreS s H Pc As)
    (hg : g.method = m) (hn : As.length = n) (hsize : g.locals.size = nL) (hstack : g.stack = As.reverse ++ rest) (hW : 2 * g.monitorRoom + (rest.map fun v => v.category).sum ≤ 8) (hdg : decode cc g.pc = .ok (.invokestatic index, 3)) (hf : cells + mc ≤ R.cells ∧ slots + ms ≤ R.slots) :
    va_Run p l e R s m args below meth c H locs cells slots mc ms g rest (Qc As.toArray) (free) := by
  obtain ⟨⟨hrc, hrs, hfr, hlo, hws, hcw⟩, hcode, hini, hy, hlen, hl, hstt⟩ := cw
  have hK : Back l R p e below s args y 3 8 (PreOf R mc ms Pc) (PostOf Qc mc ms free) := va_backW (hh := hh) (bytes := bytes) (maxL := maxL) (ret := ret) hM hp.1 hrc hrs hfr hlo hws hcw (fun a' U hW => word_at hW (Or.inl (by first | rfl | simp [Cond.onTables, Cond.keeps, Cond.steady])) hini)
  obtain ⟨hx, hb, hml, ho, -⟩ := S
  intro T hT X
  obtain ⟨v, vm₁, ⟨U', l2, c2, s2⟩, hW₁, X', ⟨g', mk, t, L, e1, e2, hq, h1, hL, h2, h3⟩, st⟩ := vx_callSW X hx (hh := hh) (bytes := bytes) (maxL := maxL) (ret := ret) ho hl hstt hini hcode hy hK hg (hsize.trans hml.symm) (argsL := As) (rest := rest) (fun sig h => hn.trans (hlen sig h)) hstack hW (by rw [hb]; exact hdg)
    (fun vm₁ hW₁ => ⟨hf.1, hf.2, hp.2 (T.setVm vm₁) hT hW₁⟩)
  dsimp only [Pt.U, Pt.locs, Pt.cells, Pt.slots] at X' e1 e2 h1 h2 h3 st
  subst h1; subst h2; subst h3
  exact ⟨v, (T.setVm vm₁).calling g' mk As.toArray, t, U', L, hT, X', hL, e1, e2, hq, st⟩
/-- a thing of a world lies in the heap -/
theorem vx_lt {D : va_G} {cl : List vw_C} {ws : va_W} {H1 : Heap} (h : va_P D cl ws H1) {k : Nat} {q : Nat × va_E} (hk : ws[k]? = some q) : q.1 < H1.size := (h k q hk).lt
end VXS
/-! ===== END ===== -/
/-! ===== BEGIN methods with a table of their own: called by a name, returning or throwing ===== -/
section VXH
/-! vx_backW, vx_callVX, vx_callSX, vx_callVW, vx_runVW, vx_runVX, vx_runSX, vx_ofWH follow the same proofs as their sisters above (Free/Laws.lean, Shelf42/LK1.lean); vx_outP calls Shelf42/NT130.lean (outThrough). -/
section
variable {l : Launch} {R : Room} {p : Program} {e : Env} {below : List Frame} {s : State} {sargs : Array Value} {y : MethodName} {len W9 : Nat}
theorem vx_backW {ws : List Cond} {rm : Room} {Pc : Array Value → State → Prop} {Qc : Array Value → State → Outcome → State → Prop} {XC : String → State → State → Prop} {mc ms : Nat} {free : Addr → Prop} {bytes : ByteArray} {maxL : Nat} {ret : Option FieldType} {hh : List (Nat × Nat × Nat × Nat)}
    (hM : vx_Met l y ws rm Pc Qc XC mc ms free) (hblind : FrameBlind Pc) (hrc : rm.cells = mc) (hrs : rm.slots = ms)
    (hframes : rm.frames + 1 ≤ R.frames) (hlocals : W9 + (maxL + 11) + rm.locals ≤ R.locals)
    (hws : ∀ w ∈ ws, ∀ a' U, s.WarmedH U.vm → w.before a' U = true) (hcode : Cond.codeWith y bytes maxL ret hh ∈ ws) (hinit : ∀ a' U, s.WarmedH U.vm → (Cond.initialized y.cls).before a' U = true) :
    vx_Back l R p e below s sargs y len W9 (PreOf R mc ms Pc) (PostOf Qc mc ms free) (vx_Post XC mc ms free) := by
  intro m meth c A g ig mk a X hg hsize hdg hW hn hp
  have h1 : (headSpec ws rm).pre.before a A.U = true := atoms_intro fun w hw => hws w hw _ _ X.warmed
  have h2 : (Cond.codeWith y bytes maxL ret hh).before a A.U = true := hws _ hcode _ _ X.warmed
  have h3 : (Cond.initialized y.cls).before a A.U = true := hinit _ _ X.warmed
  have h4 : A.cells + (headSpec ws rm).room.cells ≤ R.cells := by rw [show (headSpec ws rm).room.cells = mc from hrc]; exact hp.1
  have h5 : A.slots + (headSpec ws rm).room.slots ≤ R.slots := by rw [show (headSpec ws rm).room.slots = ms from hrs]; exact hp.2.1
  have hPc : Pc a (A.U.calling g mk a) := hblind _ _ _ _ hp.2.2
  obtain ⟨U, Ls, c0, s0⟩ := A
  dsimp only [Pt.U, Pt.locs, Pt.cells, Pt.slots] at h1 h2 h3 h4 h5 X hn hPc ⊢
  obtain ⟨m9, methY, cY, hn9, hmY, hcY, -, hlY, -⟩ := Cond.codeWith_spec h2
  cases Option.some.inj (hn9.symm.trans hn)
  obtain ⟨kY, hkY, -⟩ := className_of_methodNamed hn
  have hinitY : kY.init = .initialized := Cond.initialized_spec (findClass_of_methodNamed hn) hkY h3
  have h : At U g.method c below := by rw [hg]; exact X.here
  have hlocals9 : W9 + (maxL + 11) + (headSpec ws rm).room.locals ≤ R.locals := hlocals
  have happ : (headSpec ws rm).appliesLoose y e.platform (U.calling g mk a) = true :=
    Spec.appliesLoose_calling (g := g) h hdg hn hkY hinitY
      (X.room_calling (g := g) (R' := (headSpec ws rm).room) hsize hmY hcY hframes (by rw [hlY]; omega) h4 h5) h1
  obtain ⟨mid, hmid⟩ := h.above
  have hfr : (U.setTop g).frames = (.java g :: mid) ++ below := by rw [State.frames_setTop' g h.top, hmid]; rfl
  obtain ⟨o, s₂, hsteps, -, hend, hq⟩ := Steps.callFree hM p X.admits X.cas X.clock (acts := []) hfr happ hPc trivial
  have hq' : vx_Q Qc XC mc ms free a (U.calling g mk a) o s₂ := hq
  rw [State.frames_setTop' g h.top] at hend
  obtain ⟨g₀, hg0⟩ := Option.isSome_iff_exists.mp h.top
  obtain ⟨r, hr⟩ := State.topJava?_eq_some.mp hg0
  have hr' : (({ U with heap := s₂.heap, slotsUsed := s₂.slotsUsed } : State).setVm s₂.vm).frames = .java g₀ :: r := hr
  rcases hq' with ⟨hqc, L, hfe, hL⟩ | ⟨q, rfl, E, ce, L, hx, hce, hcv, hcl, hW₂, hsm, hL⟩
  · obtain ⟨⟨v, rfl⟩, hW₂, e2, q2, q3, q4, q5, q6⟩ := id hfe
    have e3 : s₂ = ({ (U.calling g mk a).setFrames s₂.frames with heap := s₂.heap, slotsUsed := s₂.slotsUsed } : State).setVm s₂.vm := by
      have : s₂ = ({ s₂ with vm := (U.calling g mk a).vm } : State).setVm s₂.vm := rfl
      rw [e2] at this
      exact this
    obtain ⟨c₂, i₂, len₂, hc₂, hd₂, hf₂⟩ := hend
    have hW' : U.WarmedH s₂.vm := hW₂
    have hcc : c₂ = c := by
      have h1 : s₂.code? g.method = U.code? g.method := by
        rw [State.code?_eq, State.code?_eq, hW'.alike.method?]
      exact Option.some.inj (hc₂.symm.trans (h1.trans h.code))
    subst hcc
    have hlen : len₂ = len := by rw [hdg] at hd₂; cases hd₂; rfl
    subst hlen
    have hs₂ : s₂ = (({ U with heap := s₂.heap, slotsUsed := s₂.slotsUsed } : State).setVm s₂.vm).setTop { g with pc := g.pc + len₂, stack := v.toList ++ g.stack } := by
      refine e3.trans ?_
      rw [hf₂, State.calling_eq h.top, State.setFrames_setFrames, State.setTop_of_frames _ hr', hr]
      rfl
    have hsame : U.sameButNew ({ U with heap := s₂.heap, slotsUsed := s₂.slotsUsed } : State) L mc ms := by
      refine ⟨?_, q2, q3, q4, q5, q6⟩
      obtain ⟨t, ht, -⟩ := State.frames_cons hr
      show ({ U with heap := s₂.heap, slotsUsed := s₂.slotsUsed } : State) = { U.setFrames U.frames with heap := s₂.heap, slotsUsed := s₂.slotsUsed }
      rw [State.setFrames_self ht]
    subst hg
    refine Or.inl ⟨v, ⟨(({ U with heap := s₂.heap, slotsUsed := s₂.slotsUsed } : State).setVm s₂.vm), Ls ++ L, c0 + mc, s0 + ms⟩,
      ⟨X.admits, X.cas, X.clock, X.frames, X.room, X.hears, X.method, X.code, (X.here.setHeapUsed s₂.heap s₂.slotsUsed).setVm hW'.alike, X.tail, State.WarmedH.trans X.warmed hW', X.limits, X.bytes, X.same.trans (hsame.setVm s.vm)⟩,
      ⟨g, mk, s₂, L, rfl, rfl, hqc, rfl, hL, rfl, rfl⟩, ?_⟩
    show Steps p.tables e below _ ((({ U with heap := s₂.heap, slotsUsed := s₂.slotsUsed } : State).setVm s₂.vm).setTop { g with pc := g.pc + len₂, stack := v.toList ++ g.stack })
    rw [← hs₂]
    exact hsteps
  · obtain ⟨e2, q2, q3, q4, q5, q6⟩ := id hsm
    have e3 : s₂ = ({ (U.calling g mk a).setFrames s₂.frames with heap := s₂.heap, slotsUsed := s₂.slotsUsed } : State).setVm s₂.vm := by
      have : s₂ = ({ s₂ with vm := (U.calling g mk a).vm } : State).setVm s₂.vm := rfl
      rw [e2] at this
      exact this
    have hf₂ : s₂.frames = .throwing q :: .java g :: U.frames.tail := hend
    have hW' : U.WarmedH s₂.vm := hW₂
    have hs₂ : s₂ = ((({ U with heap := s₂.heap, slotsUsed := s₂.slotsUsed } : State).setVm s₂.vm).setTop g).pushFrame (.throwing q) := by
      refine e3.trans ?_
      rw [hf₂, State.calling_eq h.top, State.setFrames_setFrames, State.pushFrame, State.frames_setTop _ hr', State.setTop_of_frames _ hr', State.setFrames_setFrames, hr]
      rfl
    have hsame : U.sameButNew ({ U with heap := s₂.heap, slotsUsed := s₂.slotsUsed } : State) L mc ms := by
      refine ⟨?_, q2, q3, q4, q5, q6⟩
      obtain ⟨t, ht, -⟩ := State.frames_cons hr
      show ({ U with heap := s₂.heap, slotsUsed := s₂.slotsUsed } : State) = { U.setFrames U.frames with heap := s₂.heap, slotsUsed := s₂.slotsUsed }
      rw [State.setFrames_self ht]
    subst hg
    refine Or.inr ⟨q, ⟨(({ U with heap := s₂.heap, slotsUsed := s₂.slotsUsed } : State).setVm s₂.vm), Ls ++ L, c0 + mc, s0 + ms⟩,
      ⟨X.admits, X.cas, X.clock, X.frames, X.room, X.hears, X.method, X.code, (X.here.setHeapUsed s₂.heap s₂.slotsUsed).setVm hW'.alike, X.tail, State.WarmedH.trans X.warmed hW', X.limits, X.bytes, X.same.trans (hsame.setVm s.vm)⟩,
      ⟨g, mk, s₂, L, E, ce, rfl, rfl, hx, hce, hcv, hcl, rfl, hL, rfl, rfl⟩, ?_⟩
    show Steps p.tables e below _ (((({ U with heap := s₂.heap, slotsUsed := s₂.slotsUsed } : State).setVm s₂.vm).setTop g).pushFrame (.throwing q))
    rw [← hs₂]
    exact hsteps
end
variable {p : Program} {l : Launch} {e : Env} {R : Room} {s : State} {m : MethodId} {args : Array Value} {below : List Frame} {meth : Method} {c : Code} {T : State} {H : Heap} {locs : List Loc} {cells slots : Nat}
theorem vx_callVX (X : Stand p l e R s m args below meth c T locs cells slots) (hexec : p.tables.exec = Jvm.exec) {own C : String} {index : Nat} {y : MethodName} {bytes : ByteArray} {maxL : Nat} {ret : Option FieldType} {hh : List (Nat × Nat × Nat × Nat)}
    (hown : s.vm.findClass own = some m.cls) (hlink : (Cond.methodLink own index y).before args s = true) (hinst : (Cond.instanceMethod y).before args s = true) (hsel : (Cond.selects C y y).before args s = true)
    (hcode : (Cond.codeWith y bytes maxL ret hh).before args s = true) (hy : y.cls ≠ "java/lang/invoke/MethodHandle" ∧ y.cls ≠ "java/lang/invoke/VarHandle")
    {W9 : Nat} {Pre : Pt → Array Value → Prop} {Post : Pt → Array Value → Option Value → Pt → Prop} {PostX : Pt → Array Value → Addr → Pt → Prop} (hK : vx_Back l R p e below s args y 3 W9 Pre Post PostX)
    {b : Addr} {cellB : Cell} (hcell : T.heap[b]? = some cellB) (hobj : cellB.vm.isStatics = false) (hcls : s.vm.findClass C = some cellB.cls)
    {g : JFrame} (hg : g.method = m) (hsize : g.locals.size = c.maxLocals) {argsL rest : List Value} (hlen : ∀ sig, parseMethodDescriptor y.desc = some sig → argsL.length = sig.parameters.length)
    (hstack : g.stack = argsL.reverse ++ .ref b :: rest) (hW : 2 * g.monitorRoom + (rest.map fun v => v.category).sum ≤ W9) (hdg : decode c.code g.pc = .ok (.invokevirtual index, 3))
    (hpre : ∀ vm₁, s.WarmedH vm₁ → Pre ⟨T.setVm vm₁, locs, cells, slots⟩ (Value.ref b :: argsL).toArray) :
    (∃ (v : Option Value) (vm₁ : Vm) (B : Pt), s.WarmedH vm₁ ∧ Stand p l e R s m args below meth c B.U B.locs B.cells B.slots ∧ Post ⟨T.setVm vm₁, locs, cells, slots⟩ (Value.ref b :: argsL).toArray v B ∧
      ∀ target, Steps p.tables e below (B.U.setTop { g with pc := g.pc + 3, stack := v.toList ++ rest }) target → Steps p.tables e below (T.setTop g) target) ∨
    (∃ (q : Addr) (vm₁ : Vm) (B : Pt), s.WarmedH vm₁ ∧ Stand p l e R s m args below meth c B.U B.locs B.cells B.slots ∧ PostX ⟨T.setVm vm₁, locs, cells, slots⟩ (Value.ref b :: argsL).toArray q B ∧
      Steps p.tables e below (T.setTop g) ((B.U.setTop { g with stack := rest }).pushFrame (.throwing q))) := by
  obtain ⟨mk, methM, hnamed, hmethM, hstM, habM⟩ := Cond.instanceMethod_spec hinst
  obtain ⟨m8, methM', cM, hn8, hmethM', -, -, -, -, -, -, hsigM⟩ := Cond.codeWith_spec hcode
  cases Option.some.inj (hn8.symm.trans hnamed)
  cases hmethM.symm.trans hmethM'
  obtain ⟨c2, r2, m2, q1, q2, q3, q4, kP, hkP, hkPi⟩ := Cond.selects_spec hsel
  cases hcls.symm.trans q1
  cases (State.methodFound?_of_named hnamed hy).symm.trans q2
  cases hnamed.symm.trans q3
  have hselP : selectMethod e.platform s.vm cellB.cls mk = .method mk := by rw [Launch.admits_selectMethod X.admits]; exact q4
  obtain ⟨vm₁, X₁, hstep₁⟩ := X.invokevirtual hexec hown hlink hnamed hmethM hstM hkP hkPi hy (a := b) (cell := cellB) hcell
    (fun z h => by rw [h] at hobj; cases hobj) hselP hmethM habM hkP hkPi (g := g) hg (argsL := argsL) (rest := rest) (hlen _ hsigM) hstack hdg
  rcases hK m meth c ⟨T.setVm vm₁, locs, cells, slots⟩ { g with stack := rest } (.invokevirtual index) mk (Value.ref b :: argsL).toArray X₁ hg hsize hdg hW (X₁.named hnamed) (hpre vm₁ X₁.warmed) with ⟨v, B, X', hpost, hsteps⟩ | ⟨q, B, X', hpost, hsteps⟩
  · exact Or.inl ⟨v, vm₁, B, X₁.warmed, X', hpost, fun target h => hstep₁ _ fun acts => by rw [doInvoke_state]; exact hsteps.trans h⟩
  · exact Or.inr ⟨q, vm₁, B, X₁.warmed, X', hpost, hstep₁ _ fun acts => by rw [doInvoke_state]; exact hsteps⟩
theorem vx_callSX (X : Stand p l e R s m args below meth c T locs cells slots) (hexec : p.tables.exec = Jvm.exec) {own : String} {index : Nat} {y : MethodName} {bytes : ByteArray} {maxL : Nat} {ret : Option FieldType} {hh : List (Nat × Nat × Nat × Nat)}
    (hown : s.vm.findClass own = some m.cls) (hlink : (Cond.methodLink own index y).before args s = true) (hstat : (Cond.static y).before args s = true) (hinit : (Cond.initialized y.cls).before args s = true)
    (hcode : (Cond.codeWith y bytes maxL ret hh).before args s = true) (hy : y.cls ≠ "java/lang/invoke/MethodHandle" ∧ y.cls ≠ "java/lang/invoke/VarHandle")
    {W9 : Nat} {Pre : Pt → Array Value → Prop} {Post : Pt → Array Value → Option Value → Pt → Prop} {PostX : Pt → Array Value → Addr → Pt → Prop} (hK : vx_Back l R p e below s args y 3 W9 Pre Post PostX)
    {g : JFrame} (hg : g.method = m) (hsize : g.locals.size = c.maxLocals) {argsL rest : List Value} (hlen : ∀ sig, parseMethodDescriptor y.desc = some sig → argsL.length = sig.parameters.length)
    (hstack : g.stack = argsL.reverse ++ rest) (hW : 2 * g.monitorRoom + (rest.map fun v => v.category).sum ≤ W9) (hdg : decode c.code g.pc = .ok (.invokestatic index, 3))
    (hpre : ∀ vm₁, s.WarmedH vm₁ → Pre ⟨T.setVm vm₁, locs, cells, slots⟩ argsL.toArray) :
    (∃ (v : Option Value) (vm₁ : Vm) (B : Pt), s.WarmedH vm₁ ∧ Stand p l e R s m args below meth c B.U B.locs B.cells B.slots ∧ Post ⟨T.setVm vm₁, locs, cells, slots⟩ argsL.toArray v B ∧
      ∀ target, Steps p.tables e below (B.U.setTop { g with pc := g.pc + 3, stack := v.toList ++ rest }) target → Steps p.tables e below (T.setTop g) target) ∨
    (∃ (q : Addr) (vm₁ : Vm) (B : Pt), s.WarmedH vm₁ ∧ Stand p l e R s m args below meth c B.U B.locs B.cells B.slots ∧ PostX ⟨T.setVm vm₁, locs, cells, slots⟩ argsL.toArray q B ∧
      Steps p.tables e below (T.setTop g) ((B.U.setTop { g with stack := rest }).pushFrame (.throwing q))) := by
  obtain ⟨mk, methM, cM, hnamed, hmethM, -, -, -, -, -, -, hsigM⟩ := Cond.codeWith_spec hcode
  have hstatic : methM.isStatic = true := Cond.static_spec hnamed hmethM hstat
  obtain ⟨kP, hkP, -⟩ := className_of_methodNamed hnamed
  have hinitP : kP.init = .initialized := Cond.initialized_spec (findClass_of_methodNamed hnamed) hkP hinit
  obtain ⟨vm₁, X₁, hstep₁⟩ := X.invokestatic hexec hown hlink hnamed hmethM hstatic hkP hinitP hy (g := g) hg (argsL := argsL) (rest := rest) (hlen _ hsigM) hstack hdg
  rcases hK m meth c ⟨T.setVm vm₁, locs, cells, slots⟩ { g with stack := rest } (.invokestatic index) mk argsL.toArray X₁ hg hsize hdg hW (X₁.named hnamed) (hpre vm₁ X₁.warmed) with ⟨v, B, X', hpost, hsteps⟩ | ⟨q, B, X', hpost, hsteps⟩
  · exact Or.inl ⟨v, vm₁, B, X₁.warmed, X', hpost, fun target h => hstep₁ _ fun acts => by rw [doInvoke_state]; exact hsteps.trans h⟩
  · exact Or.inr ⟨q, vm₁, B, X₁.warmed, X', hpost, hstep₁ _ fun acts => by rw [doInvoke_state]; exact hsteps⟩
theorem vx_callVW (X : Stand p l e R s m args below meth c T locs cells slots) (hexec : p.tables.exec = Jvm.exec) {own C : String} {index : Nat} {y : MethodName} {bytes : ByteArray} {maxL : Nat} {ret : Option FieldType} {hh : List (Nat × Nat × Nat × Nat)}
    (hown : s.vm.findClass own = some m.cls) (hlink : (Cond.methodLink own index y).before args s = true) (hinst : (Cond.instanceMethod y).before args s = true) (hsel : (Cond.selects C y y).before args s = true)
    (hcode : (Cond.codeWith y bytes maxL ret hh).before args s = true) (hy : y.cls ≠ "java/lang/invoke/MethodHandle" ∧ y.cls ≠ "java/lang/invoke/VarHandle")
    {W9 : Nat} {Pre : Pt → Array Value → Prop} {Post : Pt → Array Value → Option Value → Pt → Prop} (hK : Back l R p e below s args y 3 W9 Pre Post)
    {b : Addr} {cellB : Cell} (hcell : T.heap[b]? = some cellB) (hobj : cellB.vm.isStatics = false) (hcls : s.vm.findClass C = some cellB.cls)
    {g : JFrame} (hg : g.method = m) (hsize : g.locals.size = c.maxLocals) {argsL rest : List Value} (hlen : ∀ sig, parseMethodDescriptor y.desc = some sig → argsL.length = sig.parameters.length)
    (hstack : g.stack = argsL.reverse ++ .ref b :: rest) (hW : 2 * g.monitorRoom + (rest.map fun v => v.category).sum ≤ W9) (hdg : decode c.code g.pc = .ok (.invokevirtual index, 3))
    (hpre : ∀ vm₁, s.WarmedH vm₁ → Pre ⟨T.setVm vm₁, locs, cells, slots⟩ (Value.ref b :: argsL).toArray) :
    ∃ (v : Option Value) (vm₁ : Vm) (B : Pt), s.WarmedH vm₁ ∧ Stand p l e R s m args below meth c B.U B.locs B.cells B.slots ∧ Post ⟨T.setVm vm₁, locs, cells, slots⟩ (Value.ref b :: argsL).toArray v B ∧
      ∀ target, Steps p.tables e below (B.U.setTop { g with pc := g.pc + 3, stack := v.toList ++ rest }) target → Steps p.tables e below (T.setTop g) target := by
  obtain ⟨mk, methM, hnamed, hmethM, hstM, habM⟩ := Cond.instanceMethod_spec hinst
  obtain ⟨m8, methM', cM, hn8, hmethM', -, -, -, -, -, -, hsigM⟩ := Cond.codeWith_spec hcode
  cases Option.some.inj (hn8.symm.trans hnamed)
  cases hmethM.symm.trans hmethM'
  obtain ⟨c2, r2, m2, q1, q2, q3, q4, kP, hkP, hkPi⟩ := Cond.selects_spec hsel
  cases hcls.symm.trans q1
  cases (State.methodFound?_of_named hnamed hy).symm.trans q2
  cases hnamed.symm.trans q3
  have hselP : selectMethod e.platform s.vm cellB.cls mk = .method mk := by rw [Launch.admits_selectMethod X.admits]; exact q4
  obtain ⟨vm₁, X₁, hstep₁⟩ := X.invokevirtual hexec hown hlink hnamed hmethM hstM hkP hkPi hy (a := b) (cell := cellB) hcell
    (fun z h => by rw [h] at hobj; cases hobj) hselP hmethM habM hkP hkPi (g := g) hg (argsL := argsL) (rest := rest) (hlen _ hsigM) hstack hdg
  obtain ⟨v, B, X', hpost, hsteps⟩ := hK m meth c ⟨T.setVm vm₁, locs, cells, slots⟩ { g with stack := rest } (.invokevirtual index) mk (Value.ref b :: argsL).toArray X₁ hg hsize hdg hW (X₁.named hnamed) (hpre vm₁ X₁.warmed)
  exact ⟨v, vm₁, B, X₁.warmed, X', hpost, fun target h => hstep₁ _ fun acts => by rw [doInvoke_state]; exact hsteps.trans h⟩
abbrev vx_CVW (R : Room) (s : State) (args : Array Value) (own C : String) (index : Nat) (y : MethodName) (bytes : ByteArray) (maxL : Nat) (ret : Option FieldType) (hh : List (Nat × Nat × Nat × Nat)) (ws : List Cond) (rm : Room) (mc ms n : Nat) : Prop :=
  (rm.cells = mc ∧ rm.slots = ms ∧ rm.frames + 1 ≤ R.frames ∧ 8 + (maxL + 11) + rm.locals ≤ R.locals ∧ (∀ w ∈ ws, ∀ (a' : Array Value) (U : State), s.WarmedH U.vm → w.before a' U = true) ∧ Cond.codeWith y bytes maxL ret hh ∈ ws) ∧
  (Cond.codeWith y bytes maxL ret hh).before args s = true ∧ (Cond.initialized y.cls).before args s = true ∧ (y.cls ≠ "java/lang/invoke/MethodHandle" ∧ y.cls ≠ "java/lang/invoke/VarHandle") ∧
  (∀ sig, parseMethodDescriptor y.desc = some sig → n = sig.parameters.length) ∧ (Cond.methodLink own index y).before args s = true ∧ (Cond.instanceMethod y).before args s = true ∧ (Cond.selects C y y).before args s = true
theorem vx_cwVW {own C : String} {index maxL mc ms : Nat} {y : MethodName} {bytes : ByteArray} {ret : Option FieldType} {hh : List (Nat × Nat × Nat × Nat)} {Ts ws ws' : List Cond} {rm : Room} (n : Nat) (ht : ∀ w ∈ Ts, w.before args s = true) (hT : GoodIn Ts (wsV own index C y ws)) (hw : ws = Cond.codeWith y bytes maxL ret hh :: ws') (hrc : rm.cells = mc) (hrs : rm.slots = ms)
    (hd : y.cls = C ∧ y.cls ≠ "java/lang/invoke/MethodHandle" ∧ y.cls ≠ "java/lang/invoke/VarHandle" ∧ (parseMethodDescriptor y.desc).map (fun d => d.parameters.length) = some n) (hR : rm.frames + 1 ≤ R.frames ∧ 8 + (maxL + 11) + rm.locals ≤ R.locals) :
    vx_CVW R s args own C index y bytes maxL ret hh ws rm mc ms n := by
  obtain ⟨hC, hd⟩ := hd
  subst hC
  have ok : ∀ w ∈ wsV own index y.cls y ws, w.before args s = true := fun w h => ht w (hT w h).1
  have hG : GoodIn Ts ws := fun w h => hT w (by unfold wsV; exact List.mem_append_right _ h)
  have hc : Cond.codeWith y bytes maxL ret hh ∈ ws := by rw [hw]; exact List.mem_cons_self
  refine ⟨⟨hrc, hrs, hR.1, hR.2, pay_in ht hG, hc⟩, ht _ (hG _ hc).1, ok _ (by simp [wsV]), ⟨hd.1, hd.2.1⟩, fun sig h => ?_, ok _ (by simp [wsV]), ok _ (by simp [wsV]), ok _ (by simp [wsV])⟩
  have h2 := hd.2.2
  rw [h] at h2
  exact (Option.some.inj h2).symm
theorem vx_runVW {y : MethodName} {bytes cc : ByteArray} {maxL nL mc ms n index : Nat} {ret : Option FieldType} {hh : List (Nat × Nat × Nat × Nat)} {ws : List Cond} {rm : Room} {Pc : Array Value → State → Prop} {Qc : Array Value → State → Outcome → State → Prop} {free : Addr → Prop} {Ts : List Cond} {own C : String} {b : Addr} {As rest : List Value} {g : JFrame}
    (S : CallFix p m c cc nL s args Ts own) (hM : Met l y ws rm Pc Qc mc ms free) (cw : vx_CVW R s args own C index y bytes maxL ret hh ws rm mc ms n) (hp : PreV s H C b Pc As)
    (hg : g.method = m) (hn : As.length = n) (hsize : g.locals.size = nL) (hstack : g.stack = As.reverse ++ .ref b :: rest) (hW : 2 * g.monitorRoom + (rest.map fun v => v.category).sum ≤ 8) (hdg : decode cc g.pc = .ok (.invokevirtual index, 3)) (hf : cells + mc ≤ R.cells ∧ slots + ms ≤ R.slots) :
    va_Run p l e R s m args below meth c H locs cells slots mc ms g rest (Qc (Value.ref b :: As).toArray) free := by
  obtain ⟨⟨hrc, hrs, hfr, hlo, hws, hcw⟩, hcode, hini, hy, hlen, hl, hin, hse⟩ := cw
  have hK : Back l R p e below s args y 3 8 (PreOf R mc ms Pc) (PostOf Qc mc ms free) := va_backW (hh := hh) (bytes := bytes) (maxL := maxL) (ret := ret) hM hp.1 hrc hrs hfr hlo hws hcw (fun a' U hW => word_at hW (Or.inl (by first | rfl | simp [Cond.onTables, Cond.keeps, Cond.steady])) hini)
  obtain ⟨hx, hb, hml, ho, -⟩ := S
  obtain ⟨-, ⟨cellB, hcB, hoB, hclB⟩, hPc⟩ := hp
  intro T hT X
  obtain ⟨v, vm₁, ⟨U', l2, c2, s2⟩, hW₁, X', ⟨g', mk, t, L, e1, e2, hq, h1, hL, h2, h3⟩, st⟩ := vx_callVW X hx (C := C) (hh := hh) (bytes := bytes) (maxL := maxL) (ret := ret) ho hl hin hse hcode hy hK (by rw [hT]; exact hcB) hoB hclB hg (hsize.trans hml.symm) (argsL := As) (rest := rest) (fun sig h => hn.trans (hlen sig h)) hstack hW (by rw [hb]; exact hdg)
    (fun vm₁ hW₁ => ⟨hf.1, hf.2, hPc (T.setVm vm₁) hT hW₁⟩)
  dsimp only [Pt.U, Pt.locs, Pt.cells, Pt.slots] at X' e1 e2 h1 h2 h3 st
  subst h1; subst h2; subst h3
  exact ⟨v, (T.setVm vm₁).calling g' mk (Value.ref b :: As).toArray, t, U', L, hT, X', hL, e1, e2, hq, st⟩
section
variable {y : MethodName} {bytes cc : ByteArray} {maxL nL mc ms n index : Nat} {ret : Option FieldType} {ws : List Cond} {rm : Room} {Pc : Array Value → State → Prop} {Qc : Array Value → State → Outcome → State → Prop} {XC : String → State → State → Prop} {free : Addr → Prop} {Ts : List Cond} {own C : String} {b : Addr} {As rest : List Value} {g : JFrame}
theorem vx_runVX {hh : List (Nat × Nat × Nat × Nat)} (S : CallFix p m c cc nL s args Ts own) (hM : vx_Met l y ws rm Pc Qc XC mc ms free) (cw : vx_CVW R s args own C index y bytes maxL ret hh ws rm mc ms n) (hp : PreV s H C b Pc As)
    (hg : g.method = m) (hn : As.length = n) (hsize : g.locals.size = nL) (hstack : g.stack = As.reverse ++ .ref b :: rest) (hW : 2 * g.monitorRoom + (rest.map fun v => v.category).sum ≤ 8) (hdg : decode cc g.pc = .ok (.invokevirtual index, 3)) (hf : cells + mc ≤ R.cells ∧ slots + ms ≤ R.slots) :
    vx_Run p l e R s m args below meth c H locs cells slots mc ms g rest (Qc (Value.ref b :: As).toArray) XC free := by
  obtain ⟨⟨hrc, hrs, hfr, hlo, hws, hcw⟩, hcode, hini, hy, hlen, hl, hin, hse⟩ := cw
  have hK : vx_Back l R p e below s args y 3 8 (PreOf R mc ms Pc) (PostOf Qc mc ms free) (vx_Post XC mc ms free) := vx_backW (hh := hh) (bytes := bytes) (maxL := maxL) (ret := ret) hM hp.1 hrc hrs hfr hlo hws hcw (fun a' U hW => word_at hW (Or.inl (by first | rfl | simp [Cond.onTables, Cond.keeps, Cond.steady])) hini)
  obtain ⟨hx, hb, hml, ho, -⟩ := S
  obtain ⟨-, ⟨cellB, hcB, hoB, hclB⟩, hPc⟩ := hp
  intro T hT X
  rcases vx_callVX X hx (C := C) (hh := hh) (bytes := bytes) (maxL := maxL) (ret := ret) ho hl hin hse hcode hy hK (by rw [hT]; exact hcB) hoB hclB hg (hsize.trans hml.symm) (argsL := As) (rest := rest) (fun sig h => hn.trans (hlen sig h)) hstack hW (by rw [hb]; exact hdg)
    (fun vm₁ hW₁ => ⟨hf.1, hf.2, hPc (T.setVm vm₁) hT hW₁⟩) with ⟨v, vm₁, ⟨U', l2, c2, s2⟩, hW₁, X', ⟨g', mk, t, L, e1, e2, hq, h1, hL, h2, h3⟩, st⟩ | ⟨q, vm₁, ⟨U', l2, c2, s2⟩, hW₁, X', ⟨g', mk, t, L, E, ce, e1, e2, hq, hce, hcv, hcl, h1, hL, h2, h3⟩, st⟩
  · dsimp only [Pt.U, Pt.locs, Pt.cells, Pt.slots] at X' e1 e2 h1 h2 h3 st
    subst h1; subst h2; subst h3
    exact Or.inl ⟨v, (T.setVm vm₁).calling g' mk (Value.ref b :: As).toArray, t, U', L, hT, X', hL, e1, e2, hq, st⟩
  · dsimp only [Pt.U, Pt.locs, Pt.cells, Pt.slots] at X' e1 e2 h1 h2 h3 st hcl
    subst h1; subst h2; subst h3
    exact Or.inr ⟨q, (T.setVm vm₁).calling g' mk (Value.ref b :: As).toArray, t, U', L, E, ce, hT, X', hL, e1, e2, hq, hce, hcv, vx_cls hW₁ hcl, st⟩
theorem vx_runSX {hh : List (Nat × Nat × Nat × Nat)} (S : CallFix p m c cc nL s args Ts own) (hM : vx_Met l y ws rm Pc Qc XC mc ms free) (cw : vx_CSW R s args own index y bytes maxL ret hh ws rm mc ms n) (hp : PreS s H Pc As)
    (hg : g.method = m) (hn : As.length = n) (hsize : g.locals.size = nL) (hstack : g.stack = As.reverse ++ rest) (hW : 2 * g.monitorRoom + (rest.map fun v => v.category).sum ≤ 8) (hdg : decode cc g.pc = .ok (.invokestatic index, 3)) (hf : cells + mc ≤ R.cells ∧ slots + ms ≤ R.slots) :
    vx_Run p l e R s m args below meth c H locs cells slots mc ms g rest (Qc As.toArray) XC free := by
  obtain ⟨⟨hrc, hrs, hfr, hlo, hws, hcw⟩, hcode, hini, hy, hlen, hl, hstt⟩ := cw
  have hK : vx_Back l R p e below s args y 3 8 (PreOf R mc ms Pc) (PostOf Qc mc ms free) (vx_Post XC mc ms free) := vx_backW (hh := hh) (bytes := bytes) (maxL := maxL) (ret := ret) hM hp.1 hrc hrs hfr hlo hws hcw (fun a' U hW => word_at hW (Or.inl (by first | rfl | simp [Cond.onTables, Cond.keeps, Cond.steady])) hini)
  obtain ⟨hx, hb, hml, ho, -⟩ := S
  intro T hT X
  rcases vx_callSX X hx (hh := hh) (bytes := bytes) (maxL := maxL) (ret := ret) ho hl hstt hini hcode hy hK hg (hsize.trans hml.symm) (argsL := As) (rest := rest) (fun sig h => hn.trans (hlen sig h)) hstack hW (by rw [hb]; exact hdg)
    (fun vm₁ hW₁ => ⟨hf.1, hf.2, hp.2 (T.setVm vm₁) hT hW₁⟩) with ⟨v, vm₁, ⟨U', l2, c2, s2⟩, hW₁, X', ⟨g', mk, t, L, e1, e2, hq, h1, hL, h2, h3⟩, st⟩ | ⟨q, vm₁, ⟨U', l2, c2, s2⟩, hW₁, X', ⟨g', mk, t, L, E, ce, e1, e2, hq, hce, hcv, hcl, h1, hL, h2, h3⟩, st⟩
  · dsimp only [Pt.U, Pt.locs, Pt.cells, Pt.slots] at X' e1 e2 h1 h2 h3 st
    subst h1; subst h2; subst h3
    exact Or.inl ⟨v, (T.setVm vm₁).calling g' mk As.toArray, t, U', L, hT, X', hL, e1, e2, hq, st⟩
  · dsimp only [Pt.U, Pt.locs, Pt.cells, Pt.slots] at X' e1 e2 h1 h2 h3 st hcl
    subst h1; subst h2; subst h3
    exact Or.inr ⟨q, (T.setVm vm₁).calling g' mk As.toArray, t, U', L, E, ce, hT, X', hL, e1, e2, hq, hce, hcv, vx_cls hW₁ hcl, st⟩
end
end VXH
theorem vx_ofWH {l : Launch} {y : MethodName} {ws ws' : List Cond} {rm : Room} {Pc : Array Value → State → Prop} {Qc : Array Value → State → Outcome → State → Prop} {XC : String → State → State → Prop} {mc ms : Nat} {free : Addr → Prop} {cc : ByteArray} {maxL : Nat} {ret : Option FieldType} {hh : List (Nat × Nat × Nat × Nat)}
    (hy : plainName y.cls = true) (hw : ws = Cond.codeWith y cc maxL ret hh :: ws')
    (body : ∀ p e s m args below meth c s₁, BodyLoose p l y (headSpec ws rm) cc maxL ret e s m args below meth c s₁ → c.maxLocals = maxL → Pc args s →
      W p l e (headSpec ws rm).room s m args below meth c s.heap [] 0 0 (vx_MQ below Qc XC args s mc ms free) (entryFrame m args maxL)) : vx_Met l y ws rm Pc Qc XC mc ms free := by
  refine MetFree.of_bodyS (code := cc) (maxLocals := maxL) (ret := ret) hy ?_ ?_
  · intro args s m h hn
    obtain ⟨m9, meth, c, hn9, h1, h2, h3, h4, -, h5, h6, -⟩ := Cond.codeWith_spec (atoms_spec (ws := ws) h _ (by rw [hw]; exact List.mem_cons_self))
    cases hn.symm.trans hn9
    exact ⟨meth, c, h1, h2, h3, h4, h5, h6⟩
  · intro p e s m args below meth c s₁ B hml hP _
    have hh0 : s₁.heap = s.heap := by rw [B.state]; rfl
    obtain ⟨t, a1, o, b1, b2, b3⟩ := body p e s m args below meth c s₁ B hml hP s₁ hh0 (Stand.of_body B)
    exact ⟨t, o, a1, b1, b2, b3⟩
/-! ===== END ===== -/
end
section
def RX0 : String := "VipBoard$Keys"
def TX0 : u_T := fun k => match k with
  | 0 => ("VipBoard$Keys", "down", "[Z", true)
  | _ => ("VipBoard$Keys", "asked", "I", false)
def tyX0 : Nat → FieldType := fun k => match k with
  | 0 => .array .boolean
  | _ => .int
theorem nmX0 : ∀ a, a < 2 → ∀ b, b < 2 → a ≠ b → (TX0 a).2.1 ≠ (TX0 b).2.1 := by decide +kernel
theorem tyX0_ok : ∀ k, k < 2 → parseFieldDescriptor (TX0 k).2.2.1 = some (tyX0 k) := by decide +kernel
abbrev cX0_init : ByteArray := prog_2_method_1_code
def yX0_init : MethodName := ⟨RX0, "<init>", "()V"⟩
abbrev cX0_move : ByteArray := prog_2_method_2_code
def yX0_move : MethodName := ⟨RX0, "move", "(IZ)V"⟩
abbrev cX0_isDown : ByteArray := prog_2_method_3_code
def yX0_isDown : MethodName := ⟨RX0, "isDown", "(I)Z"⟩
abbrev cX0_least : ByteArray := prog_2_method_4_code
def yX0_least : MethodName := ⟨RX0, "least", "()I"⟩
abbrev cX0_ask : ByteArray := prog_2_method_5_code
def yX0_ask : MethodName := ⟨RX0, "ask", "(I)V"⟩
abbrev cX0_asked : ByteArray := prog_2_method_6_code
def yX0_asked : MethodName := ⟨RX0, "asked", "()I"⟩
abbrev cX0_askedIsDown : ByteArray := prog_2_method_7_code
def yX0_askedIsDown : MethodName := ⟨RX0, "askedIsDown", "()Z"⟩
def RX1 : String := "VipBoard$Language"
def TX1 : u_T := fun k => match k with
  | 0 => ("VipBoard$Language", "memory", "LVipBoard$Memory;", true)
  | 1 => ("VipBoard$Language", "keys", "LVipBoard$Keys;", true)
  | 2 => ("VipBoard$Language", "timers", "LVipBoard$Timers;", true)
  | 3 => ("VipBoard$Language", "variables", "[I", true)
  | 4 => ("VipBoard$Language", "stack", "[I", true)
  | 5 => ("VipBoard$Language", "depth", "I", false)
  | 6 => ("VipBoard$Language", "index", "I", false)
  | 7 => ("VipBoard$Language", "pc", "I", false)
  | _ => ("VipBoard$Language", "random", "I", false)
def tyX1 : Nat → FieldType := fun k => match k with
  | 0 => .object "VipBoard$Memory"
  | 1 => .object "VipBoard$Keys"
  | 2 => .object "VipBoard$Timers"
  | 3 => .array .int
  | 4 => .array .int
  | 5 => .int
  | 6 => .int
  | 7 => .int
  | _ => .int
theorem nmX1 : ∀ a, a < 9 → ∀ b, b < 9 → a ≠ b → (TX1 a).2.1 ≠ (TX1 b).2.1 := by decide +kernel
theorem tyX1_ok : ∀ k, k < 9 → parseFieldDescriptor (TX1 k).2.2.1 = some (tyX1 k) := by decide +kernel
abbrev cX1_init : ByteArray := prog_3_method_1_code
def yX1_init : MethodName := ⟨RX1, "<init>", "(LVipBoard$Memory;LVipBoard$Keys;LVipBoard$Timers;)V"⟩
abbrev cX1_restart : ByteArray := prog_3_method_2_code
def yX1_restart : MethodName := ⟨RX1, "restart", "(I)V"⟩
abbrev cX1_part : ByteArray := prog_3_method_3_code
def yX1_part : MethodName := ⟨RX1, "part", "(I)I"⟩
abbrev cX1_step : ByteArray := prog_3_method_4_code
def yX1_step : MethodName := ⟨RX1, "step", "()I"⟩
abbrev cX1_variable : ByteArray := prog_3_method_5_code
def yX1_variable : MethodName := ⟨RX1, "variable", "(I)I"⟩
abbrev cX1_putVariable : ByteArray := prog_3_method_6_code
def yX1_putVariable : MethodName := ⟨RX1, "putVariable", "(II)V"⟩
abbrev cX1_putIndex : ByteArray := prog_3_method_7_code
def yX1_putIndex : MethodName := ⟨RX1, "putIndex", "(I)V"⟩
abbrev cX1_jump : ByteArray := prog_3_method_8_code
def yX1_jump : MethodName := ⟨RX1, "jump", "(I)V"⟩
abbrev cX1_skipIf : ByteArray := prog_3_method_9_code
def yX1_skipIf : MethodName := ⟨RX1, "skipIf", "(Z)I"⟩
abbrev cX1_execute : ByteArray := prog_3_method_10_code
def yX1_execute : MethodName := ⟨RX1, "execute", "(I)I"⟩
abbrev cX1_clearOrLeave : ByteArray := prog_3_method_11_code
def yX1_clearOrLeave : MethodName := ⟨RX1, "clearOrLeave", "(I)I"⟩
abbrev cX1_clear : ByteArray := prog_3_method_12_code
def yX1_clear : MethodName := ⟨RX1, "clear", "()V"⟩
abbrev cX1_leave : ByteArray := prog_3_method_13_code
def yX1_leave : MethodName := ⟨RX1, "leave", "()I"⟩
abbrev cX1_enter : ByteArray := prog_3_method_14_code
def yX1_enter : MethodName := ⟨RX1, "enter", "(I)I"⟩
abbrev cX1_compare : ByteArray := prog_3_method_15_code
def yX1_compare : MethodName := ⟨RX1, "compare", "(IZ)I"⟩
abbrev cX1_combine : ByteArray := prog_3_method_16_code
def yX1_combine : MethodName := ⟨RX1, "combine", "(III)I"⟩
abbrev cX1_putWithFlag : ByteArray := prog_3_method_17_code
def yX1_putWithFlag : MethodName := ⟨RX1, "putWithFlag", "(IIZ)I"⟩
abbrev cX1_skipByKey : ByteArray := prog_3_method_18_code
def yX1_skipByKey : MethodName := ⟨RX1, "skipByKey", "(IZ)I"⟩
abbrev cX1_executeSystem : ByteArray := prog_3_method_19_code
def yX1_executeSystem : MethodName := ⟨RX1, "executeSystem", "(II)I"⟩
abbrev cX1_takeKey : ByteArray := prog_3_method_20_code
def yX1_takeKey : MethodName := ⟨RX1, "takeKey", "(I)I"⟩
abbrev cX1_executeStore : ByteArray := prog_3_method_21_code
def yX1_executeStore : MethodName := ⟨RX1, "executeStore", "(II)I"⟩
abbrev cX1_putDigits : ByteArray := prog_3_method_22_code
def yX1_putDigits : MethodName := ⟨RX1, "putDigits", "(I)V"⟩
abbrev cX1_saveVariables : ByteArray := prog_3_method_23_code
def yX1_saveVariables : MethodName := ⟨RX1, "saveVariables", "(I)V"⟩
abbrev cX1_loadVariables : ByteArray := prog_3_method_24_code
def yX1_loadVariables : MethodName := ⟨RX1, "loadVariables", "(I)V"⟩
abbrev cX1_draw : ByteArray := prog_3_method_25_code
def yX1_draw : MethodName := ⟨RX1, "draw", "(III)V"⟩
abbrev cX1_drawByte : ByteArray := prog_3_method_26_code
def yX1_drawByte : MethodName := ⟨RX1, "drawByte", "(III)Z"⟩
abbrev cX1_flip : ByteArray := prog_3_method_27_code
def yX1_flip : MethodName := ⟨RX1, "flip", "(II)Z"⟩
def RX2 : String := "VipBoard$Memory"
def TX2 : u_T := fun k => match k with
  | _ => ("VipBoard$Memory", "bytes", "[I", true)
def tyX2 : Nat → FieldType := fun k => match k with
  | _ => .array .int
theorem nmX2 : ∀ a, a < 1 → ∀ b, b < 1 → a ≠ b → (TX2 a).2.1 ≠ (TX2 b).2.1 := by decide +kernel
theorem tyX2_ok : ∀ k, k < 1 → parseFieldDescriptor (TX2 k).2.2.1 = some (tyX2 k) := by decide +kernel
abbrev cX2_init : ByteArray := prog_4_method_1_code
def yX2_init : MethodName := ⟨RX2, "<init>", "()V"⟩
abbrev cX2_read : ByteArray := prog_4_method_2_code
def yX2_read : MethodName := ⟨RX2, "read", "(I)I"⟩
abbrev cX2_write : ByteArray := prog_4_method_3_code
def yX2_write : MethodName := ⟨RX2, "write", "(II)V"⟩
abbrev cX2_pair : ByteArray := prog_4_method_4_code
def yX2_pair : MethodName := ⟨RX2, "pair", "(I)I"⟩
def RX3 : String := "VipBoard$Picture"
def TX3 : u_T := fun k => match k with
  | 0 => ("VipBoard$Picture", "timers", "LVipBoard$Timers;", true)
  | 1 => ("VipBoard$Picture", "screen", "[I", true)
  | 2 => ("VipBoard$Picture", "on", "Z", false)
  | 3 => ("VipBoard$Picture", "line", "I", false)
  | 4 => ("VipBoard$Picture", "place", "I", false)
  | 5 => ("VipBoard$Picture", "frames", "I", false)
  | 6 => ("VipBoard$Picture", "fetched", "Z", false)
  | _ => ("VipBoard$Picture", "interrupted", "Z", false)
def tyX3 : Nat → FieldType := fun k => match k with
  | 0 => .object "VipBoard$Timers"
  | 1 => .array .int
  | 2 => .boolean
  | 3 => .int
  | 4 => .int
  | 5 => .int
  | 6 => .boolean
  | _ => .boolean
theorem nmX3 : ∀ a, a < 8 → ∀ b, b < 8 → a ≠ b → (TX3 a).2.1 ≠ (TX3 b).2.1 := by decide +kernel
theorem tyX3_ok : ∀ k, k < 8 → parseFieldDescriptor (TX3 k).2.2.1 = some (tyX3 k) := by decide +kernel
abbrev cX3_init : ByteArray := prog_5_method_1_code
def yX3_init : MethodName := ⟨RX3, "<init>", "(LVipBoard$Timers;)V"⟩
abbrev cX3_switchTo : ByteArray := prog_5_method_2_code
def yX3_switchTo : MethodName := ⟨RX3, "switchTo", "(Z)V"⟩
abbrev cX3_flag : ByteArray := prog_5_method_3_code
def yX3_flag : MethodName := ⟨RX3, "flag", "()Z"⟩
abbrev cX3_part : ByteArray := prog_5_method_4_code
def yX3_part : MethodName := ⟨RX3, "part", "(I)I"⟩
abbrev cX3_pass : ByteArray := prog_5_method_5_code
def yX3_pass : MethodName := ⟨RX3, "pass", "(I)V"⟩
abbrev cX3_endLine : ByteArray := prog_5_method_6_code
def yX3_endLine : MethodName := ⟨RX3, "endLine", "()V"⟩
abbrev cX3_rowIsDue : ByteArray := prog_5_method_7_code
def yX3_rowIsDue : MethodName := ⟨RX3, "rowIsDue", "()Z"⟩
abbrev cX3_isShownLine : ByteArray := prog_5_method_8_code
def yX3_isShownLine : MethodName := ⟨RX3, "isShownLine", "()Z"⟩
abbrev cX3_interruptIsDue : ByteArray := prog_5_method_9_code
def yX3_interruptIsDue : MethodName := ⟨RX3, "interruptIsDue", "()Z"⟩
abbrev cX3_noteInterrupt : ByteArray := prog_5_method_10_code
def yX3_noteInterrupt : MethodName := ⟨RX3, "noteInterrupt", "()V"⟩
abbrev cX3_noteFetch : ByteArray := prog_5_method_11_code
def yX3_noteFetch : MethodName := ⟨RX3, "noteFetch", "()V"⟩
abbrev cX3_keep : ByteArray := prog_5_method_12_code
def yX3_keep : MethodName := ⟨RX3, "keep", "(II)V"⟩
abbrev cX3_fetchedByte : ByteArray := prog_5_method_13_code
def yX3_fetchedByte : MethodName := ⟨RX3, "fetchedByte", "(II)I"⟩
abbrev cX3_spot : ByteArray := prog_5_method_14_code
def yX3_spot : MethodName := ⟨RX3, "spot", "(II)I"⟩
def RX4 : String := "VipBoard$Processor"
def TX4 : u_T := fun k => match k with
  | 0 => ("VipBoard$Processor", "memory", "LVipBoard$Memory;", true)
  | 1 => ("VipBoard$Processor", "keys", "LVipBoard$Keys;", true)
  | 2 => ("VipBoard$Processor", "picture", "LVipBoard$Picture;", true)
  | 3 => ("VipBoard$Processor", "registers", "[I", true)
  | 4 => ("VipBoard$Processor", "d", "I", false)
  | 5 => ("VipBoard$Processor", "df", "I", false)
  | 6 => ("VipBoard$Processor", "p", "I", false)
  | 7 => ("VipBoard$Processor", "x", "I", false)
  | 8 => ("VipBoard$Processor", "t", "I", false)
  | 9 => ("VipBoard$Processor", "ie", "I", false)
  | 10 => ("VipBoard$Processor", "q", "I", false)
  | _ => ("VipBoard$Processor", "idle", "Z", false)
def tyX4 : Nat → FieldType := fun k => match k with
  | 0 => .object "VipBoard$Memory"
  | 1 => .object "VipBoard$Keys"
  | 2 => .object "VipBoard$Picture"
  | 3 => .array .int
  | 4 => .int
  | 5 => .int
  | 6 => .int
  | 7 => .int
  | 8 => .int
  | 9 => .int
  | 10 => .int
  | _ => .boolean
theorem nmX4 : ∀ a, a < 12 → ∀ b, b < 12 → a ≠ b → (TX4 a).2.1 ≠ (TX4 b).2.1 := by decide +kernel
theorem tyX4_ok : ∀ k, k < 12 → parseFieldDescriptor (TX4 k).2.2.1 = some (tyX4 k) := by decide +kernel
abbrev cX4_init : ByteArray := prog_6_method_1_code
def yX4_init : MethodName := ⟨RX4, "<init>", "(LVipBoard$Memory;LVipBoard$Keys;LVipBoard$Picture;)V"⟩
abbrev cX4_part : ByteArray := prog_6_method_2_code
def yX4_part : MethodName := ⟨RX4, "part", "(I)I"⟩
abbrev cX4_mostOf : ByteArray := prog_6_method_3_code
def yX4_mostOf : MethodName := ⟨RX4, "mostOf", "(I)I"⟩
abbrev cX4_change : ByteArray := prog_6_method_4_code
def yX4_change : MethodName := ⟨RX4, "change", "(II)V"⟩
abbrev cX4_allowsInterrupt : ByteArray := prog_6_method_5_code
def yX4_allowsInterrupt : MethodName := ⟨RX4, "allowsInterrupt", "()Z"⟩
abbrev cX4_interrupt : ByteArray := prog_6_method_6_code
def yX4_interrupt : MethodName := ⟨RX4, "interrupt", "()V"⟩
abbrev cX4_wake : ByteArray := prog_6_method_7_code
def yX4_wake : MethodName := ⟨RX4, "wake", "()V"⟩
abbrev cX4_takeByte : ByteArray := prog_6_method_8_code
def yX4_takeByte : MethodName := ⟨RX4, "takeByte", "()I"⟩
abbrev cX4_act : ByteArray := prog_6_method_9_code
def yX4_act : MethodName := ⟨RX4, "act", "()I"⟩
abbrev cX4_register : ByteArray := prog_6_method_10_code
def yX4_register : MethodName := ⟨RX4, "register", "(I)I"⟩
abbrev cX4_putRegister : ByteArray := prog_6_method_11_code
def yX4_putRegister : MethodName := ⟨RX4, "putRegister", "(II)V"⟩
abbrev cX4_grow : ByteArray := prog_6_method_12_code
def yX4_grow : MethodName := ⟨RX4, "grow", "(II)V"⟩
abbrev cX4_at : ByteArray := prog_6_method_13_code
def yX4_at : MethodName := ⟨RX4, "at", "(I)I"⟩
abbrev cX4_putAt : ByteArray := prog_6_method_14_code
def yX4_putAt : MethodName := ⟨RX4, "putAt", "(II)V"⟩
abbrev cX4_take : ByteArray := prog_6_method_15_code
def yX4_take : MethodName := ⟨RX4, "take", "(I)I"⟩
abbrev cX4_execute : ByteArray := prog_6_method_16_code
def yX4_execute : MethodName := ⟨RX4, "execute", "(II)V"⟩
abbrev cX4_loadOrIdle : ByteArray := prog_6_method_17_code
def yX4_loadOrIdle : MethodName := ⟨RX4, "loadOrIdle", "(I)V"⟩
abbrev cX4_branch : ByteArray := prog_6_method_18_code
def yX4_branch : MethodName := ⟨RX4, "branch", "(I)V"⟩
abbrev cX4_holds : ByteArray := prog_6_method_19_code
def yX4_holds : MethodName := ⟨RX4, "holds", "(I)Z"⟩
abbrev cX4_transfer : ByteArray := prog_6_method_20_code
def yX4_transfer : MethodName := ⟨RX4, "transfer", "(I)V"⟩
abbrev cX4_output : ByteArray := prog_6_method_21_code
def yX4_output : MethodName := ⟨RX4, "output", "(II)V"⟩
abbrev cX4_control : ByteArray := prog_6_method_22_code
def yX4_control : MethodName := ⟨RX4, "control", "(I)V"⟩
abbrev cX4_resume : ByteArray := prog_6_method_23_code
def yX4_resume : MethodName := ⟨RX4, "resume", "(I)V"⟩
abbrev cX4_mark : ByteArray := prog_6_method_24_code
def yX4_mark : MethodName := ⟨RX4, "mark", "()V"⟩
abbrev cX4_goFar : ByteArray := prog_6_method_25_code
def yX4_goFar : MethodName := ⟨RX4, "goFar", "(I)V"⟩
abbrev cX4_branchFar : ByteArray := prog_6_method_26_code
def yX4_branchFar : MethodName := ⟨RX4, "branchFar", "(I)V"⟩
abbrev cX4_skips : ByteArray := prog_6_method_27_code
def yX4_skips : MethodName := ⟨RX4, "skips", "(I)Z"⟩
abbrev cX4_calculate : ByteArray := prog_6_method_28_code
def yX4_calculate : MethodName := ⟨RX4, "calculate", "(I)V"⟩
abbrev cX4_operand : ByteArray := prog_6_method_29_code
def yX4_operand : MethodName := ⟨RX4, "operand", "(I)I"⟩
abbrev cX4_combine : ByteArray := prog_6_method_30_code
def yX4_combine : MethodName := ⟨RX4, "combine", "(IIII)V"⟩
abbrev cX4_add : ByteArray := prog_6_method_31_code
def yX4_add : MethodName := ⟨RX4, "add", "(II)V"⟩
abbrev cX4_subtract : ByteArray := prog_6_method_32_code
def yX4_subtract : MethodName := ⟨RX4, "subtract", "(III)V"⟩
abbrev cX4_shiftRight : ByteArray := prog_6_method_33_code
def yX4_shiftRight : MethodName := ⟨RX4, "shiftRight", "(I)V"⟩
abbrev cX4_shiftLeft : ByteArray := prog_6_method_34_code
def yX4_shiftLeft : MethodName := ⟨RX4, "shiftLeft", "(I)V"⟩
def RX5 : String := "VipBoard$Timers"
def TX5 : u_T := fun k => match k with
  | 0 => ("VipBoard$Timers", "delay", "I", false)
  | _ => ("VipBoard$Timers", "tone", "I", false)
def tyX5 : Nat → FieldType := fun k => match k with
  | 0 => .int
  | _ => .int
theorem nmX5 : ∀ a, a < 2 → ∀ b, b < 2 → a ≠ b → (TX5 a).2.1 ≠ (TX5 b).2.1 := by decide +kernel
theorem tyX5_ok : ∀ k, k < 2 → parseFieldDescriptor (TX5 k).2.2.1 = some (tyX5 k) := by decide +kernel
abbrev cX5_init : ByteArray := prog_7_method_1_code
def yX5_init : MethodName := ⟨RX5, "<init>", "()V"⟩
abbrev cX5_delay : ByteArray := prog_7_method_2_code
def yX5_delay : MethodName := ⟨RX5, "delay", "()I"⟩
abbrev cX5_tone : ByteArray := prog_7_method_3_code
def yX5_tone : MethodName := ⟨RX5, "tone", "()I"⟩
abbrev cX5_setDelay : ByteArray := prog_7_method_4_code
def yX5_setDelay : MethodName := ⟨RX5, "setDelay", "(I)V"⟩
abbrev cX5_setTone : ByteArray := prog_7_method_5_code
def yX5_setTone : MethodName := ⟨RX5, "setTone", "(I)V"⟩
abbrev cX5_fall : ByteArray := prog_7_method_6_code
def yX5_fall : MethodName := ⟨RX5, "fall", "()V"⟩
def RX6 : String := "VipBoard"
def TX6 : u_T := fun k => match k with
  | 0 => ("VipBoard", "memory", "LVipBoard$Memory;", true)
  | 1 => ("VipBoard", "keys", "LVipBoard$Keys;", true)
  | 2 => ("VipBoard", "timers", "LVipBoard$Timers;", true)
  | 3 => ("VipBoard", "picture", "LVipBoard$Picture;", true)
  | 4 => ("VipBoard", "processor", "LVipBoard$Processor;", true)
  | _ => ("VipBoard", "language", "LVipBoard$Language;", true)
def tyX6 : Nat → FieldType := fun k => match k with
  | 0 => .object "VipBoard$Memory"
  | 1 => .object "VipBoard$Keys"
  | 2 => .object "VipBoard$Timers"
  | 3 => .object "VipBoard$Picture"
  | 4 => .object "VipBoard$Processor"
  | _ => .object "VipBoard$Language"
theorem nmX6 : ∀ a, a < 6 → ∀ b, b < 6 → a ≠ b → (TX6 a).2.1 ≠ (TX6 b).2.1 := by decide +kernel
theorem tyX6_ok : ∀ k, k < 6 → parseFieldDescriptor (TX6 k).2.2.1 = some (tyX6 k) := by decide +kernel
abbrev cX6_init : ByteArray := prog_1_method_1_code
def yX6_init : MethodName := ⟨RX6, "<init>", "()V"⟩
abbrev cX6_poke : ByteArray := prog_1_method_2_code
def yX6_poke : MethodName := ⟨RX6, "poke", "(II)V"⟩
abbrev cX6_peek : ByteArray := prog_1_method_3_code
def yX6_peek : MethodName := ⟨RX6, "peek", "(I)I"⟩
abbrev cX6_cpu : ByteArray := prog_1_method_4_code
def yX6_cpu : MethodName := ⟨RX6, "cpu", "(I)I"⟩
abbrev cX6_set : ByteArray := prog_1_method_5_code
def yX6_set : MethodName := ⟨RX6, "set", "(II)V"⟩
abbrev cX6_key : ByteArray := prog_1_method_6_code
def yX6_key : MethodName := ⟨RX6, "key", "(IZ)V"⟩
abbrev cX6_run : ByteArray := prog_1_method_7_code
def yX6_run : MethodName := ⟨RX6, "run", "(I)I"⟩
abbrev cX6_video : ByteArray := prog_1_method_8_code
def yX6_video : MethodName := ⟨RX6, "video", "(I)I"⟩
abbrev cX6_shown : ByteArray := prog_1_method_9_code
def yX6_shown : MethodName := ⟨RX6, "shown", "(II)I"⟩
abbrev cX6_chip : ByteArray := prog_1_method_10_code
def yX6_chip : MethodName := ⟨RX6, "chip", "(I)I"⟩
abbrev cX6_v : ByteArray := prog_1_method_11_code
def yX6_v : MethodName := ⟨RX6, "v", "(I)I"⟩
abbrev cX6_start : ByteArray := prog_1_method_12_code
def yX6_start : MethodName := ⟨RX6, "start", "(I)V"⟩
abbrev cX6_letVideoAct : ByteArray := prog_1_method_13_code
def yX6_letVideoAct : MethodName := ⟨RX6, "letVideoAct", "()I"⟩
abbrev cX6_fetchRow : ByteArray := prog_1_method_14_code
def yX6_fetchRow : MethodName := ⟨RX6, "fetchRow", "()V"⟩
def RX7 : String := "VipBoardModel"
def TX7 : u_T := fun k => match k with
  | 0 => ("VipBoardModel", "thrown", "I", false)
  | 1 => ("VipBoardModel", "memory", "[I", true)
  | 2 => ("VipBoardModel", "s", "[I", true)
  | 3 => ("VipBoardModel", "v", "[I", true)
  | 4 => ("VipBoardModel", "back", "[I", true)
  | 5 => ("VipBoardModel", "down", "[Z", true)
  | 6 => ("VipBoardModel", "on", "Z", false)
  | 7 => ("VipBoardModel", "line", "I", false)
  | 8 => ("VipBoardModel", "place", "I", false)
  | 9 => ("VipBoardModel", "frames", "I", false)
  | 10 => ("VipBoardModel", "fetched", "Z", false)
  | 11 => ("VipBoardModel", "interrupted", "Z", false)
  | 12 => ("VipBoardModel", "latch", "I", false)
  | _ => ("VipBoardModel", "shown", "[I", true)
def tyX7 : Nat → FieldType := fun k => match k with
  | 0 => .int
  | 1 => .array .int
  | 2 => .array .int
  | 3 => .array .int
  | 4 => .array .int
  | 5 => .array .boolean
  | 6 => .boolean
  | 7 => .int
  | 8 => .int
  | 9 => .int
  | 10 => .boolean
  | 11 => .boolean
  | 12 => .int
  | _ => .array .int
theorem nmX7 : ∀ a, a < 14 → ∀ b, b < 14 → a ≠ b → (TX7 a).2.1 ≠ (TX7 b).2.1 := by decide +kernel
theorem tyX7_ok : ∀ k, k < 14 → parseFieldDescriptor (TX7 k).2.2.1 = some (tyX7 k) := by decide +kernel
abbrev cX7_init : ByteArray := prog_9_method_1_code
def yX7_init : MethodName := ⟨RX7, "<init>", "()V"⟩
abbrev cX7_thrown : ByteArray := prog_9_method_2_code
def yX7_thrown : MethodName := ⟨RX7, "thrown", "()I"⟩
abbrev cX7_fails : ByteArray := prog_9_method_3_code
def yX7_fails : MethodName := ⟨RX7, "fails", "(ZI)Z"⟩
abbrev cX7_out : ByteArray := prog_9_method_4_code
def yX7_out : MethodName := ⟨RX7, "out", "(II)Z"⟩
abbrev cX7_byteAt : ByteArray := prog_9_method_5_code
def yX7_byteAt : MethodName := ⟨RX7, "byteAt", "(I)I"⟩
abbrev cX7_store : ByteArray := prog_9_method_6_code
def yX7_store : MethodName := ⟨RX7, "store", "(II)V"⟩
abbrev cX7_poke : ByteArray := prog_9_method_7_code
def yX7_poke : MethodName := ⟨RX7, "poke", "(II)V"⟩
abbrev cX7_peek : ByteArray := prog_9_method_8_code
def yX7_peek : MethodName := ⟨RX7, "peek", "(I)I"⟩
abbrev cX7_cpu : ByteArray := prog_9_method_9_code
def yX7_cpu : MethodName := ⟨RX7, "cpu", "(I)I"⟩
abbrev cX7_set : ByteArray := prog_9_method_10_code
def yX7_set : MethodName := ⟨RX7, "set", "(II)V"⟩
abbrev cX7_grow : ByteArray := prog_9_method_11_code
def yX7_grow : MethodName := ⟨RX7, "grow", "(II)V"⟩
abbrev cX7_m : ByteArray := prog_9_method_12_code
def yX7_m : MethodName := ⟨RX7, "m", "(I)I"⟩
abbrev cX7_next : ByteArray := prog_9_method_13_code
def yX7_next : MethodName := ⟨RX7, "next", "()I"⟩
abbrev cX7_low : ByteArray := prog_9_method_14_code
def yX7_low : MethodName := ⟨RX7, "low", "(II)V"⟩
abbrev cX7_sum : ByteArray := prog_9_method_15_code
def yX7_sum : MethodName := ⟨RX7, "sum", "(II)V"⟩
abbrev cX7_sumOn : ByteArray := prog_9_method_16_code
def yX7_sumOn : MethodName := ⟨RX7, "sumOn", "(I)V"⟩
abbrev cX7_less : ByteArray := prog_9_method_17_code
def yX7_less : MethodName := ⟨RX7, "less", "(III)V"⟩
abbrev cX7_right : ByteArray := prog_9_method_18_code
def yX7_right : MethodName := ⟨RX7, "right", "(I)V"⟩
abbrev cX7_left : ByteArray := prog_9_method_19_code
def yX7_left : MethodName := ⟨RX7, "left", "(I)V"⟩
abbrev cX7_isLight : ByteArray := prog_9_method_20_code
def yX7_isLight : MethodName := ⟨RX7, "isLight", "()Z"⟩
abbrev cX7_isSo : ByteArray := prog_9_method_21_code
def yX7_isSo : MethodName := ⟨RX7, "isSo", "(I)Z"⟩
abbrev cX7_branch : ByteArray := prog_9_method_22_code
def yX7_branch : MethodName := ⟨RX7, "branch", "(I)V"⟩
abbrev cX7_skips : ByteArray := prog_9_method_23_code
def yX7_skips : MethodName := ⟨RX7, "skips", "(I)Z"⟩
abbrev cX7_wide : ByteArray := prog_9_method_24_code
def yX7_wide : MethodName := ⟨RX7, "wide", "(I)V"⟩
abbrev cX7_port : ByteArray := prog_9_method_25_code
def yX7_port : MethodName := ⟨RX7, "port", "(I)V"⟩
abbrev cX7_comeBack : ByteArray := prog_9_method_26_code
def yX7_comeBack : MethodName := ⟨RX7, "comeBack", "(I)V"⟩
abbrev cX7_mark : ByteArray := prog_9_method_27_code
def yX7_mark : MethodName := ⟨RX7, "mark", "()V"⟩
abbrev cX7_seven : ByteArray := prog_9_method_28_code
def yX7_seven : MethodName := ⟨RX7, "seven", "(I)V"⟩
abbrev cX7_carries : ByteArray := prog_9_method_29_code
def yX7_carries : MethodName := ⟨RX7, "carries", "(II)V"⟩
abbrev cX7_reckon : ByteArray := prog_9_method_30_code
def yX7_reckon : MethodName := ⟨RX7, "reckon", "(I)V"⟩
abbrev cX7_moves : ByteArray := prog_9_method_31_code
def yX7_moves : MethodName := ⟨RX7, "moves", "(II)V"⟩
abbrev cX7_instruction : ByteArray := prog_9_method_32_code
def yX7_instruction : MethodName := ⟨RX7, "instruction", "()I"⟩
abbrev cX7_cycle : ByteArray := prog_9_method_33_code
def yX7_cycle : MethodName := ⟨RX7, "cycle", "()V"⟩
abbrev cX7_cycles : ByteArray := prog_9_method_34_code
def yX7_cycles : MethodName := ⟨RX7, "cycles", "(I)V"⟩
abbrev cX7_behindOne : ByteArray := prog_9_method_35_code
def yX7_behindOne : MethodName := ⟨RX7, "behindOne", "()I"⟩
abbrev cX7_run : ByteArray := prog_9_method_36_code
def yX7_run : MethodName := ⟨RX7, "run", "(I)I"⟩
abbrev cX7_video : ByteArray := prog_9_method_37_code
def yX7_video : MethodName := ⟨RX7, "video", "(I)I"⟩
abbrev cX7_shown : ByteArray := prog_9_method_38_code
def yX7_shown : MethodName := ⟨RX7, "shown", "(II)I"⟩
abbrev cX7_key : ByteArray := prog_9_method_39_code
def yX7_key : MethodName := ⟨RX7, "key", "(IZ)V"⟩
abbrev cX7_goesOn : ByteArray := prog_9_method_40_code
def yX7_goesOn : MethodName := ⟨RX7, "goesOn", "(Z)V"⟩
abbrev cX7_zero : ByteArray := prog_9_method_41_code
def yX7_zero : MethodName := ⟨RX7, "zero", "(I)I"⟩
abbrev cX7_call : ByteArray := prog_9_method_42_code
def yX7_call : MethodName := ⟨RX7, "call", "(I)I"⟩
abbrev cX7_eight : ByteArray := prog_9_method_43_code
def yX7_eight : MethodName := ⟨RX7, "eight", "(III)I"⟩
abbrev cX7_draw : ByteArray := prog_9_method_44_code
def yX7_draw : MethodName := ⟨RX7, "draw", "(III)V"⟩
abbrev cX7_leastKey : ByteArray := prog_9_method_45_code
def yX7_leastKey : MethodName := ⟨RX7, "leastKey", "()I"⟩
abbrev cX7_rows : ByteArray := prog_9_method_46_code
def yX7_rows : MethodName := ⟨RX7, "rows", "(IZ)V"⟩
abbrev cX7_fifteen : ByteArray := prog_9_method_47_code
def yX7_fifteen : MethodName := ⟨RX7, "fifteen", "(II)I"⟩
abbrev cX7_keyed : ByteArray := prog_9_method_48_code
def yX7_keyed : MethodName := ⟨RX7, "keyed", "(II)I"⟩
abbrev cX7_compared : ByteArray := prog_9_method_49_code
def yX7_compared : MethodName := ⟨RX7, "compared", "(IIIZ)I"⟩
abbrev cX7_random : ByteArray := prog_9_method_50_code
def yX7_random : MethodName := ⟨RX7, "random", "(II)I"⟩
abbrev cX7_step : ByteArray := prog_9_method_51_code
def yX7_step : MethodName := ⟨RX7, "step", "()I"⟩
abbrev cX7_simple : ByteArray := prog_9_method_52_code
def yX7_simple : MethodName := ⟨RX7, "simple", "(I)V"⟩
abbrev cX7_chip : ByteArray := prog_9_method_53_code
def yX7_chip : MethodName := ⟨RX7, "chip", "(I)I"⟩
abbrev cX7_v : ByteArray := prog_9_method_54_code
def yX7_v : MethodName := ⟨RX7, "v", "(I)I"⟩
abbrev cX7_start : ByteArray := prog_9_method_55_code
def yX7_start : MethodName := ⟨RX7, "start", "(I)V"⟩
def RL : String := "VipBoardLaw"
abbrev cL_poke : ByteArray := method_3_code
def yL_poke : MethodName := ⟨RL, "poke", "(LVipBoard;II)I"⟩
abbrev cL_cpu : ByteArray := method_4_code
def yL_cpu : MethodName := ⟨RL, "cpu", "(LVipBoard;I[J)I"⟩
abbrev cL_set : ByteArray := method_5_code
def yL_set : MethodName := ⟨RL, "set", "(LVipBoard;II)I"⟩
abbrev cL_key : ByteArray := method_6_code
def yL_key : MethodName := ⟨RL, "key", "(LVipBoard;IZ)I"⟩
abbrev cL_run : ByteArray := method_7_code
def yL_run : MethodName := ⟨RL, "run", "(LVipBoard;I[J)I"⟩
abbrev cL_video : ByteArray := method_8_code
def yL_video : MethodName := ⟨RL, "video", "(LVipBoard;I[J)I"⟩
abbrev cL_shown : ByteArray := method_9_code
def yL_shown : MethodName := ⟨RL, "shown", "(LVipBoard;II[J)I"⟩
abbrev cL_chip : ByteArray := method_10_code
def yL_chip : MethodName := ⟨RL, "chip", "(LVipBoard;I[J)I"⟩
abbrev cL_v : ByteArray := method_11_code
def yL_v : MethodName := ⟨RL, "v", "(LVipBoard;I[J)I"⟩
abbrev cL_start : ByteArray := method_12_code
def yL_start : MethodName := ⟨RL, "start", "(LVipBoard;I)I"⟩
abbrev cL_law : ByteArray := code
def yL_law : MethodName := ⟨RL, "law", "([I)Z"⟩
abbrev vwCl : List vw_C := [(RX0, TX0, 2), (RX1, TX1, 9), (RX2, TX2, 1), (RX3, TX3, 8), (RX4, TX4, 12), (RX5, TX5, 2), (RX6, TX6, 6), (RX7, TX7, 14)]
end
section
theorem dX0_init_0 : decode cX0_init 0 = .ok (.aload_n 0, 1) := by decide +kernel
theorem dX0_init_1 : decode cX0_init 1 = .ok (.invokespecial 1, 3) := by decide +kernel
theorem dX0_init_4 : decode cX0_init 4 = .ok (.aload_n 0, 1) := by decide +kernel
theorem dX0_init_5 : decode cX0_init 5 = .ok (.bipush 16, 2) := by decide +kernel
theorem dX0_init_7 : decode cX0_init 7 = .ok (.newarray .boolean, 2) := by decide +kernel
theorem dX0_init_9 : decode cX0_init 9 = .ok (.putfield 9, 3) := by decide +kernel
theorem dX0_init_12 : decode cX0_init 12 = .ok (.return_, 1) := by decide +kernel
theorem dX0_move_0 : decode cX0_move 0 = .ok (.aload_n 0, 1) := by decide +kernel
theorem dX0_move_1 : decode cX0_move 1 = .ok (.getfield 9, 3) := by decide +kernel
theorem dX0_move_4 : decode cX0_move 4 = .ok (.iload_n 1, 1) := by decide +kernel
theorem dX0_move_5 : decode cX0_move 5 = .ok (.bipush 15, 2) := by decide +kernel
theorem dX0_move_7 : decode cX0_move 7 = .ok (.iand, 1) := by decide +kernel
theorem dX0_move_8 : decode cX0_move 8 = .ok (.iload_n 2, 1) := by decide +kernel
theorem dX0_move_9 : decode cX0_move 9 = .ok (.bastore, 1) := by decide +kernel
theorem dX0_move_10 : decode cX0_move 10 = .ok (.return_, 1) := by decide +kernel
theorem dX0_isDown_0 : decode cX0_isDown 0 = .ok (.aload_n 0, 1) := by decide +kernel
theorem dX0_isDown_1 : decode cX0_isDown 1 = .ok (.getfield 9, 3) := by decide +kernel
theorem dX0_isDown_4 : decode cX0_isDown 4 = .ok (.iload_n 1, 1) := by decide +kernel
theorem dX0_isDown_5 : decode cX0_isDown 5 = .ok (.bipush 15, 2) := by decide +kernel
theorem dX0_isDown_7 : decode cX0_isDown 7 = .ok (.iand, 1) := by decide +kernel
theorem dX0_isDown_8 : decode cX0_isDown 8 = .ok (.baload, 1) := by decide +kernel
theorem dX0_isDown_9 : decode cX0_isDown 9 = .ok (.ireturn, 1) := by decide +kernel
theorem dX0_least_0 : decode cX0_least 0 = .ok (.iconst 0, 1) := by decide +kernel
theorem dX0_least_1 : decode cX0_least 1 = .ok (.istore_n 1, 1) := by decide +kernel
theorem dX0_least_2 : decode cX0_least 2 = .ok (.iload_n 1, 1) := by decide +kernel
theorem dX0_least_3 : decode cX0_least 3 = .ok (.bipush 16, 2) := by decide +kernel
theorem dX0_least_5 : decode cX0_least 5 = .ok (.if_icmp .ge 20, 3) := by decide +kernel
theorem dX0_least_8 : decode cX0_least 8 = .ok (.aload_n 0, 1) := by decide +kernel
theorem dX0_least_9 : decode cX0_least 9 = .ok (.getfield 9, 3) := by decide +kernel
theorem dX0_least_12 : decode cX0_least 12 = .ok (.iload_n 1, 1) := by decide +kernel
theorem dX0_least_13 : decode cX0_least 13 = .ok (.baload, 1) := by decide +kernel
theorem dX0_least_14 : decode cX0_least 14 = .ok (.ifCond .eq 5, 3) := by decide +kernel
theorem dX0_least_17 : decode cX0_least 17 = .ok (.iload_n 1, 1) := by decide +kernel
theorem dX0_least_18 : decode cX0_least 18 = .ok (.ireturn, 1) := by decide +kernel
theorem dX0_least_19 : decode cX0_least 19 = .ok (.iinc 1 1, 3) := by decide +kernel
theorem dX0_least_22 : decode cX0_least 22 = .ok (.goto (-20), 3) := by decide +kernel
theorem dX0_least_25 : decode cX0_least 25 = .ok (.iconst (-1), 1) := by decide +kernel
theorem dX0_least_26 : decode cX0_least 26 = .ok (.ireturn, 1) := by decide +kernel
theorem dX0_ask_0 : decode cX0_ask 0 = .ok (.aload_n 0, 1) := by decide +kernel
theorem dX0_ask_1 : decode cX0_ask 1 = .ok (.iload_n 1, 1) := by decide +kernel
theorem dX0_ask_2 : decode cX0_ask 2 = .ok (.bipush 15, 2) := by decide +kernel
theorem dX0_ask_4 : decode cX0_ask 4 = .ok (.iand, 1) := by decide +kernel
theorem dX0_ask_5 : decode cX0_ask 5 = .ok (.putfield 13, 3) := by decide +kernel
theorem dX0_ask_8 : decode cX0_ask 8 = .ok (.return_, 1) := by decide +kernel
theorem dX0_asked_0 : decode cX0_asked 0 = .ok (.aload_n 0, 1) := by decide +kernel
theorem dX0_asked_1 : decode cX0_asked 1 = .ok (.getfield 13, 3) := by decide +kernel
theorem dX0_asked_4 : decode cX0_asked 4 = .ok (.ireturn, 1) := by decide +kernel
theorem dX0_askedIsDown_0 : decode cX0_askedIsDown 0 = .ok (.aload_n 0, 1) := by decide +kernel
theorem dX0_askedIsDown_1 : decode cX0_askedIsDown 1 = .ok (.getfield 9, 3) := by decide +kernel
theorem dX0_askedIsDown_4 : decode cX0_askedIsDown 4 = .ok (.aload_n 0, 1) := by decide +kernel
theorem dX0_askedIsDown_5 : decode cX0_askedIsDown 5 = .ok (.getfield 13, 3) := by decide +kernel
theorem dX0_askedIsDown_8 : decode cX0_askedIsDown 8 = .ok (.bipush 15, 2) := by decide +kernel
theorem dX0_askedIsDown_10 : decode cX0_askedIsDown 10 = .ok (.iand, 1) := by decide +kernel
theorem dX0_askedIsDown_11 : decode cX0_askedIsDown 11 = .ok (.baload, 1) := by decide +kernel
theorem dX0_askedIsDown_12 : decode cX0_askedIsDown 12 = .ok (.ireturn, 1) := by decide +kernel
theorem dX2_init_0 : decode cX2_init 0 = .ok (.aload_n 0, 1) := by decide +kernel
theorem dX2_init_1 : decode cX2_init 1 = .ok (.invokespecial 1, 3) := by decide +kernel
theorem dX2_init_4 : decode cX2_init 4 = .ok (.aload_n 0, 1) := by decide +kernel
theorem dX2_init_5 : decode cX2_init 5 = .ok (.sipush 2048, 3) := by decide +kernel
theorem dX2_init_8 : decode cX2_init 8 = .ok (.newarray .int, 2) := by decide +kernel
theorem dX2_init_10 : decode cX2_init 10 = .ok (.putfield 9, 3) := by decide +kernel
theorem dX2_init_13 : decode cX2_init 13 = .ok (.return_, 1) := by decide +kernel
theorem dX2_read_0 : decode cX2_read 0 = .ok (.aload_n 0, 1) := by decide +kernel
theorem dX2_read_1 : decode cX2_read 1 = .ok (.getfield 9, 3) := by decide +kernel
theorem dX2_read_4 : decode cX2_read 4 = .ok (.iload_n 1, 1) := by decide +kernel
theorem dX2_read_5 : decode cX2_read 5 = .ok (.sipush 2047, 3) := by decide +kernel
theorem dX2_read_8 : decode cX2_read 8 = .ok (.iand, 1) := by decide +kernel
theorem dX2_read_9 : decode cX2_read 9 = .ok (.iaload, 1) := by decide +kernel
theorem dX2_read_10 : decode cX2_read 10 = .ok (.ireturn, 1) := by decide +kernel
theorem dX2_write_0 : decode cX2_write 0 = .ok (.aload_n 0, 1) := by decide +kernel
theorem dX2_write_1 : decode cX2_write 1 = .ok (.getfield 9, 3) := by decide +kernel
theorem dX2_write_4 : decode cX2_write 4 = .ok (.iload_n 1, 1) := by decide +kernel
theorem dX2_write_5 : decode cX2_write 5 = .ok (.sipush 2047, 3) := by decide +kernel
theorem dX2_write_8 : decode cX2_write 8 = .ok (.iand, 1) := by decide +kernel
theorem dX2_write_9 : decode cX2_write 9 = .ok (.iload_n 2, 1) := by decide +kernel
theorem dX2_write_10 : decode cX2_write 10 = .ok (.sipush 255, 3) := by decide +kernel
theorem dX2_write_13 : decode cX2_write 13 = .ok (.iand, 1) := by decide +kernel
theorem dX2_write_14 : decode cX2_write 14 = .ok (.iastore, 1) := by decide +kernel
theorem dX2_write_15 : decode cX2_write 15 = .ok (.return_, 1) := by decide +kernel
theorem dX2_pair_0 : decode cX2_pair 0 = .ok (.aload_n 0, 1) := by decide +kernel
theorem dX2_pair_1 : decode cX2_pair 1 = .ok (.iload_n 1, 1) := by decide +kernel
theorem dX2_pair_2 : decode cX2_pair 2 = .ok (.invokevirtual 13, 3) := by decide +kernel
theorem dX2_pair_5 : decode cX2_pair 5 = .ok (.sipush 256, 3) := by decide +kernel
theorem dX2_pair_8 : decode cX2_pair 8 = .ok (.imul, 1) := by decide +kernel
theorem dX2_pair_9 : decode cX2_pair 9 = .ok (.aload_n 0, 1) := by decide +kernel
theorem dX2_pair_10 : decode cX2_pair 10 = .ok (.iload_n 1, 1) := by decide +kernel
theorem dX2_pair_11 : decode cX2_pair 11 = .ok (.iconst 1, 1) := by decide +kernel
theorem dX2_pair_12 : decode cX2_pair 12 = .ok (.iadd, 1) := by decide +kernel
theorem dX2_pair_13 : decode cX2_pair 13 = .ok (.invokevirtual 13, 3) := by decide +kernel
theorem dX2_pair_16 : decode cX2_pair 16 = .ok (.iadd, 1) := by decide +kernel
theorem dX2_pair_17 : decode cX2_pair 17 = .ok (.ireturn, 1) := by decide +kernel
theorem dX3_init_0 : decode cX3_init 0 = .ok (.aload_n 0, 1) := by decide +kernel
theorem dX3_init_1 : decode cX3_init 1 = .ok (.invokespecial 1, 3) := by decide +kernel
theorem dX3_init_4 : decode cX3_init 4 = .ok (.aload_n 0, 1) := by decide +kernel
theorem dX3_init_5 : decode cX3_init 5 = .ok (.sipush 1024, 3) := by decide +kernel
theorem dX3_init_8 : decode cX3_init 8 = .ok (.newarray .int, 2) := by decide +kernel
theorem dX3_init_10 : decode cX3_init 10 = .ok (.putfield 9, 3) := by decide +kernel
theorem dX3_init_13 : decode cX3_init 13 = .ok (.aload_n 0, 1) := by decide +kernel
theorem dX3_init_14 : decode cX3_init 14 = .ok (.aload_n 1, 1) := by decide +kernel
theorem dX3_init_15 : decode cX3_init 15 = .ok (.putfield 13, 3) := by decide +kernel
theorem dX3_init_18 : decode cX3_init 18 = .ok (.return_, 1) := by decide +kernel
theorem dX3_switchTo_0 : decode cX3_switchTo 0 = .ok (.aload_n 0, 1) := by decide +kernel
theorem dX3_switchTo_1 : decode cX3_switchTo 1 = .ok (.iload_n 1, 1) := by decide +kernel
theorem dX3_switchTo_2 : decode cX3_switchTo 2 = .ok (.putfield 17, 3) := by decide +kernel
theorem dX3_switchTo_5 : decode cX3_switchTo 5 = .ok (.return_, 1) := by decide +kernel
theorem dX3_flag_0 : decode cX3_flag 0 = .ok (.aload_n 0, 1) := by decide +kernel
theorem dX3_flag_1 : decode cX3_flag 1 = .ok (.getfield 17, 3) := by decide +kernel
theorem dX3_flag_4 : decode cX3_flag 4 = .ok (.ifCond .eq 45, 3) := by decide +kernel
theorem dX3_flag_7 : decode cX3_flag 7 = .ok (.aload_n 0, 1) := by decide +kernel
theorem dX3_flag_8 : decode cX3_flag 8 = .ok (.getfield 21, 3) := by decide +kernel
theorem dX3_flag_11 : decode cX3_flag 11 = .ok (.bipush 60, 2) := by decide +kernel
theorem dX3_flag_13 : decode cX3_flag 13 = .ok (.if_icmp .lt 12, 3) := by decide +kernel
theorem dX3_flag_16 : decode cX3_flag 16 = .ok (.aload_n 0, 1) := by decide +kernel
theorem dX3_flag_17 : decode cX3_flag 17 = .ok (.getfield 21, 3) := by decide +kernel
theorem dX3_flag_20 : decode cX3_flag 20 = .ok (.bipush 63, 2) := by decide +kernel
theorem dX3_flag_22 : decode cX3_flag 22 = .ok (.if_icmp .le 23, 3) := by decide +kernel
theorem dX3_flag_25 : decode cX3_flag 25 = .ok (.aload_n 0, 1) := by decide +kernel
theorem dX3_flag_26 : decode cX3_flag 26 = .ok (.getfield 21, 3) := by decide +kernel
theorem dX3_flag_29 : decode cX3_flag 29 = .ok (.sipush 188, 3) := by decide +kernel
theorem dX3_flag_32 : decode cX3_flag 32 = .ok (.if_icmp .lt 17, 3) := by decide +kernel
theorem dX3_flag_35 : decode cX3_flag 35 = .ok (.aload_n 0, 1) := by decide +kernel
theorem dX3_flag_36 : decode cX3_flag 36 = .ok (.getfield 21, 3) := by decide +kernel
theorem dX3_flag_39 : decode cX3_flag 39 = .ok (.sipush 191, 3) := by decide +kernel
theorem dX3_flag_42 : decode cX3_flag 42 = .ok (.if_icmp .gt 7, 3) := by decide +kernel
theorem dX3_flag_45 : decode cX3_flag 45 = .ok (.iconst 1, 1) := by decide +kernel
theorem dX3_flag_46 : decode cX3_flag 46 = .ok (.goto 4, 3) := by decide +kernel
theorem dX3_flag_49 : decode cX3_flag 49 = .ok (.iconst 0, 1) := by decide +kernel
theorem dX3_flag_50 : decode cX3_flag 50 = .ok (.ireturn, 1) := by decide +kernel
theorem dX3_part_0 : decode cX3_part 0 = .ok (.iload_n 1, 1) := by decide +kernel
theorem dX3_part_1 : decode cX3_part 1 = .ok (.tableswitch 59 0 3 #[31, 44, 49, 54], 31) := by decide +kernel
theorem dX3_part_32 : decode cX3_part 32 = .ok (.aload_n 0, 1) := by decide +kernel
theorem dX3_part_33 : decode cX3_part 33 = .ok (.getfield 17, 3) := by decide +kernel
theorem dX3_part_36 : decode cX3_part 36 = .ok (.ifCond .eq 7, 3) := by decide +kernel
theorem dX3_part_39 : decode cX3_part 39 = .ok (.iconst 1, 1) := by decide +kernel
theorem dX3_part_40 : decode cX3_part 40 = .ok (.goto 4, 3) := by decide +kernel
theorem dX3_part_43 : decode cX3_part 43 = .ok (.iconst 0, 1) := by decide +kernel
theorem dX3_part_44 : decode cX3_part 44 = .ok (.ireturn, 1) := by decide +kernel
theorem dX3_part_45 : decode cX3_part 45 = .ok (.aload_n 0, 1) := by decide +kernel
theorem dX3_part_46 : decode cX3_part 46 = .ok (.getfield 21, 3) := by decide +kernel
theorem dX3_part_49 : decode cX3_part 49 = .ok (.ireturn, 1) := by decide +kernel
theorem dX3_part_50 : decode cX3_part 50 = .ok (.aload_n 0, 1) := by decide +kernel
theorem dX3_part_51 : decode cX3_part 51 = .ok (.getfield 25, 3) := by decide +kernel
theorem dX3_part_54 : decode cX3_part 54 = .ok (.ireturn, 1) := by decide +kernel
theorem dX3_part_55 : decode cX3_part 55 = .ok (.aload_n 0, 1) := by decide +kernel
theorem dX3_part_56 : decode cX3_part 56 = .ok (.getfield 28, 3) := by decide +kernel
theorem dX3_part_59 : decode cX3_part 59 = .ok (.ireturn, 1) := by decide +kernel
theorem dX3_part_60 : decode cX3_part 60 = .ok (.aload_n 0, 1) := by decide +kernel
theorem dX3_part_61 : decode cX3_part 61 = .ok (.invokevirtual 31, 3) := by decide +kernel
theorem dX3_part_64 : decode cX3_part 64 = .ok (.ifCond .eq 7, 3) := by decide +kernel
theorem dX3_part_67 : decode cX3_part 67 = .ok (.iconst 1, 1) := by decide +kernel
theorem dX3_part_68 : decode cX3_part 68 = .ok (.goto 4, 3) := by decide +kernel
theorem dX3_part_71 : decode cX3_part 71 = .ok (.iconst 0, 1) := by decide +kernel
theorem dX3_part_72 : decode cX3_part 72 = .ok (.ireturn, 1) := by decide +kernel
theorem dX3_pass_0 : decode cX3_pass 0 = .ok (.aload_n 0, 1) := by decide +kernel
theorem dX3_pass_1 : decode cX3_pass 1 = .ok (.dup, 1) := by decide +kernel
theorem dX3_pass_2 : decode cX3_pass 2 = .ok (.getfield 25, 3) := by decide +kernel
theorem dX3_pass_5 : decode cX3_pass 5 = .ok (.iload_n 1, 1) := by decide +kernel
theorem dX3_pass_6 : decode cX3_pass 6 = .ok (.iadd, 1) := by decide +kernel
theorem dX3_pass_7 : decode cX3_pass 7 = .ok (.putfield 25, 3) := by decide +kernel
theorem dX3_pass_10 : decode cX3_pass 10 = .ok (.aload_n 0, 1) := by decide +kernel
theorem dX3_pass_11 : decode cX3_pass 11 = .ok (.getfield 25, 3) := by decide +kernel
theorem dX3_pass_14 : decode cX3_pass 14 = .ok (.bipush 14, 2) := by decide +kernel
theorem dX3_pass_16 : decode cX3_pass 16 = .ok (.if_icmp .lt 18, 3) := by decide +kernel
theorem dX3_pass_19 : decode cX3_pass 19 = .ok (.aload_n 0, 1) := by decide +kernel
theorem dX3_pass_20 : decode cX3_pass 20 = .ok (.dup, 1) := by decide +kernel
theorem dX3_pass_21 : decode cX3_pass 21 = .ok (.getfield 25, 3) := by decide +kernel
theorem dX3_pass_24 : decode cX3_pass 24 = .ok (.bipush 14, 2) := by decide +kernel
theorem dX3_pass_26 : decode cX3_pass 26 = .ok (.isub, 1) := by decide +kernel
theorem dX3_pass_27 : decode cX3_pass 27 = .ok (.putfield 25, 3) := by decide +kernel
theorem dX3_pass_30 : decode cX3_pass 30 = .ok (.aload_n 0, 1) := by decide +kernel
theorem dX3_pass_31 : decode cX3_pass 31 = .ok (.invokevirtual 35, 3) := by decide +kernel
theorem dX3_pass_34 : decode cX3_pass 34 = .ok (.return_, 1) := by decide +kernel
theorem dX3_endLine_0 : decode cX3_endLine 0 = .ok (.aload_n 0, 1) := by decide +kernel
theorem dX3_endLine_1 : decode cX3_endLine 1 = .ok (.iconst 0, 1) := by decide +kernel
theorem dX3_endLine_2 : decode cX3_endLine 2 = .ok (.putfield 38, 3) := by decide +kernel
theorem dX3_endLine_5 : decode cX3_endLine 5 = .ok (.aload_n 0, 1) := by decide +kernel
theorem dX3_endLine_6 : decode cX3_endLine 6 = .ok (.dup, 1) := by decide +kernel
theorem dX3_endLine_7 : decode cX3_endLine 7 = .ok (.getfield 21, 3) := by decide +kernel
theorem dX3_endLine_10 : decode cX3_endLine 10 = .ok (.iconst 1, 1) := by decide +kernel
theorem dX3_endLine_11 : decode cX3_endLine 11 = .ok (.iadd, 1) := by decide +kernel
theorem dX3_endLine_12 : decode cX3_endLine 12 = .ok (.putfield 21, 3) := by decide +kernel
theorem dX3_endLine_15 : decode cX3_endLine 15 = .ok (.aload_n 0, 1) := by decide +kernel
theorem dX3_endLine_16 : decode cX3_endLine 16 = .ok (.getfield 21, 3) := by decide +kernel
theorem dX3_endLine_19 : decode cX3_endLine 19 = .ok (.sipush 262, 3) := by decide +kernel
theorem dX3_endLine_22 : decode cX3_endLine 22 = .ok (.if_icmp .lt 30, 3) := by decide +kernel
theorem dX3_endLine_25 : decode cX3_endLine 25 = .ok (.aload_n 0, 1) := by decide +kernel
theorem dX3_endLine_26 : decode cX3_endLine 26 = .ok (.iconst 0, 1) := by decide +kernel
theorem dX3_endLine_27 : decode cX3_endLine 27 = .ok (.putfield 21, 3) := by decide +kernel
theorem dX3_endLine_30 : decode cX3_endLine 30 = .ok (.aload_n 0, 1) := by decide +kernel
theorem dX3_endLine_31 : decode cX3_endLine 31 = .ok (.dup, 1) := by decide +kernel
theorem dX3_endLine_32 : decode cX3_endLine 32 = .ok (.getfield 28, 3) := by decide +kernel
theorem dX3_endLine_35 : decode cX3_endLine 35 = .ok (.iconst 1, 1) := by decide +kernel
theorem dX3_endLine_36 : decode cX3_endLine 36 = .ok (.iadd, 1) := by decide +kernel
theorem dX3_endLine_37 : decode cX3_endLine 37 = .ok (.putfield 28, 3) := by decide +kernel
theorem dX3_endLine_40 : decode cX3_endLine 40 = .ok (.aload_n 0, 1) := by decide +kernel
theorem dX3_endLine_41 : decode cX3_endLine 41 = .ok (.iconst 0, 1) := by decide +kernel
theorem dX3_endLine_42 : decode cX3_endLine 42 = .ok (.putfield 41, 3) := by decide +kernel
theorem dX3_endLine_45 : decode cX3_endLine 45 = .ok (.aload_n 0, 1) := by decide +kernel
theorem dX3_endLine_46 : decode cX3_endLine 46 = .ok (.getfield 13, 3) := by decide +kernel
theorem dX3_endLine_49 : decode cX3_endLine 49 = .ok (.invokevirtual 44, 3) := by decide +kernel
theorem dX3_endLine_52 : decode cX3_endLine 52 = .ok (.return_, 1) := by decide +kernel
theorem dX3_rowIsDue_0 : decode cX3_rowIsDue 0 = .ok (.aload_n 0, 1) := by decide +kernel
theorem dX3_rowIsDue_1 : decode cX3_rowIsDue 1 = .ok (.getfield 17, 3) := by decide +kernel
theorem dX3_rowIsDue_4 : decode cX3_rowIsDue 4 = .ok (.ifCond .eq 29, 3) := by decide +kernel
theorem dX3_rowIsDue_7 : decode cX3_rowIsDue 7 = .ok (.aload_n 0, 1) := by decide +kernel
theorem dX3_rowIsDue_8 : decode cX3_rowIsDue 8 = .ok (.getfield 38, 3) := by decide +kernel
theorem dX3_rowIsDue_11 : decode cX3_rowIsDue 11 = .ok (.ifCond .ne 22, 3) := by decide +kernel
theorem dX3_rowIsDue_14 : decode cX3_rowIsDue 14 = .ok (.aload_n 0, 1) := by decide +kernel
theorem dX3_rowIsDue_15 : decode cX3_rowIsDue 15 = .ok (.getfield 25, 3) := by decide +kernel
theorem dX3_rowIsDue_18 : decode cX3_rowIsDue 18 = .ok (.iconst 2, 1) := by decide +kernel
theorem dX3_rowIsDue_19 : decode cX3_rowIsDue 19 = .ok (.if_icmp .lt 14, 3) := by decide +kernel
theorem dX3_rowIsDue_22 : decode cX3_rowIsDue 22 = .ok (.aload_n 0, 1) := by decide +kernel
theorem dX3_rowIsDue_23 : decode cX3_rowIsDue 23 = .ok (.invokevirtual 49, 3) := by decide +kernel
theorem dX3_rowIsDue_26 : decode cX3_rowIsDue 26 = .ok (.ifCond .eq 7, 3) := by decide +kernel
theorem dX3_rowIsDue_29 : decode cX3_rowIsDue 29 = .ok (.iconst 1, 1) := by decide +kernel
theorem dX3_rowIsDue_30 : decode cX3_rowIsDue 30 = .ok (.goto 4, 3) := by decide +kernel
theorem dX3_rowIsDue_33 : decode cX3_rowIsDue 33 = .ok (.iconst 0, 1) := by decide +kernel
theorem dX3_rowIsDue_34 : decode cX3_rowIsDue 34 = .ok (.ireturn, 1) := by decide +kernel
theorem dX3_isShownLine_0 : decode cX3_isShownLine 0 = .ok (.aload_n 0, 1) := by decide +kernel
theorem dX3_isShownLine_1 : decode cX3_isShownLine 1 = .ok (.getfield 21, 3) := by decide +kernel
theorem dX3_isShownLine_4 : decode cX3_isShownLine 4 = .ok (.bipush 64, 2) := by decide +kernel
theorem dX3_isShownLine_6 : decode cX3_isShownLine 6 = .ok (.if_icmp .lt 17, 3) := by decide +kernel
theorem dX3_isShownLine_9 : decode cX3_isShownLine 9 = .ok (.aload_n 0, 1) := by decide +kernel
theorem dX3_isShownLine_10 : decode cX3_isShownLine 10 = .ok (.getfield 21, 3) := by decide +kernel
theorem dX3_isShownLine_13 : decode cX3_isShownLine 13 = .ok (.sipush 192, 3) := by decide +kernel
theorem dX3_isShownLine_16 : decode cX3_isShownLine 16 = .ok (.if_icmp .ge 7, 3) := by decide +kernel
theorem dX3_isShownLine_19 : decode cX3_isShownLine 19 = .ok (.iconst 1, 1) := by decide +kernel
theorem dX3_isShownLine_20 : decode cX3_isShownLine 20 = .ok (.goto 4, 3) := by decide +kernel
theorem dX3_isShownLine_23 : decode cX3_isShownLine 23 = .ok (.iconst 0, 1) := by decide +kernel
theorem dX3_isShownLine_24 : decode cX3_isShownLine 24 = .ok (.ireturn, 1) := by decide +kernel
theorem dX3_interruptIsDue_0 : decode cX3_interruptIsDue 0 = .ok (.aload_n 0, 1) := by decide +kernel
theorem dX3_interruptIsDue_1 : decode cX3_interruptIsDue 1 = .ok (.getfield 17, 3) := by decide +kernel
theorem dX3_interruptIsDue_4 : decode cX3_interruptIsDue 4 = .ok (.ifCond .eq 32, 3) := by decide +kernel
theorem dX3_interruptIsDue_7 : decode cX3_interruptIsDue 7 = .ok (.aload_n 0, 1) := by decide +kernel
theorem dX3_interruptIsDue_8 : decode cX3_interruptIsDue 8 = .ok (.getfield 41, 3) := by decide +kernel
theorem dX3_interruptIsDue_11 : decode cX3_interruptIsDue 11 = .ok (.ifCond .ne 25, 3) := by decide +kernel
theorem dX3_interruptIsDue_14 : decode cX3_interruptIsDue 14 = .ok (.aload_n 0, 1) := by decide +kernel
theorem dX3_interruptIsDue_15 : decode cX3_interruptIsDue 15 = .ok (.getfield 21, 3) := by decide +kernel
theorem dX3_interruptIsDue_18 : decode cX3_interruptIsDue 18 = .ok (.bipush 62, 2) := by decide +kernel
theorem dX3_interruptIsDue_20 : decode cX3_interruptIsDue 20 = .ok (.if_icmp .eq 12, 3) := by decide +kernel
theorem dX3_interruptIsDue_23 : decode cX3_interruptIsDue 23 = .ok (.aload_n 0, 1) := by decide +kernel
theorem dX3_interruptIsDue_24 : decode cX3_interruptIsDue 24 = .ok (.getfield 21, 3) := by decide +kernel
theorem dX3_interruptIsDue_27 : decode cX3_interruptIsDue 27 = .ok (.bipush 63, 2) := by decide +kernel
theorem dX3_interruptIsDue_29 : decode cX3_interruptIsDue 29 = .ok (.if_icmp .ne 7, 3) := by decide +kernel
theorem dX3_interruptIsDue_32 : decode cX3_interruptIsDue 32 = .ok (.iconst 1, 1) := by decide +kernel
theorem dX3_interruptIsDue_33 : decode cX3_interruptIsDue 33 = .ok (.goto 4, 3) := by decide +kernel
theorem dX3_interruptIsDue_36 : decode cX3_interruptIsDue 36 = .ok (.iconst 0, 1) := by decide +kernel
theorem dX3_interruptIsDue_37 : decode cX3_interruptIsDue 37 = .ok (.ireturn, 1) := by decide +kernel
theorem dX3_noteInterrupt_0 : decode cX3_noteInterrupt 0 = .ok (.aload_n 0, 1) := by decide +kernel
theorem dX3_noteInterrupt_1 : decode cX3_noteInterrupt 1 = .ok (.iconst 1, 1) := by decide +kernel
theorem dX3_noteInterrupt_2 : decode cX3_noteInterrupt 2 = .ok (.putfield 41, 3) := by decide +kernel
theorem dX3_noteInterrupt_5 : decode cX3_noteInterrupt 5 = .ok (.return_, 1) := by decide +kernel
theorem dX3_noteFetch_0 : decode cX3_noteFetch 0 = .ok (.aload_n 0, 1) := by decide +kernel
theorem dX3_noteFetch_1 : decode cX3_noteFetch 1 = .ok (.iconst 1, 1) := by decide +kernel
theorem dX3_noteFetch_2 : decode cX3_noteFetch 2 = .ok (.putfield 38, 3) := by decide +kernel
theorem dX3_noteFetch_5 : decode cX3_noteFetch 5 = .ok (.return_, 1) := by decide +kernel
theorem dX3_keep_0 : decode cX3_keep 0 = .ok (.aload_n 0, 1) := by decide +kernel
theorem dX3_keep_1 : decode cX3_keep 1 = .ok (.getfield 9, 3) := by decide +kernel
theorem dX3_keep_4 : decode cX3_keep 4 = .ok (.aload_n 0, 1) := by decide +kernel
theorem dX3_keep_5 : decode cX3_keep 5 = .ok (.getfield 21, 3) := by decide +kernel
theorem dX3_keep_8 : decode cX3_keep 8 = .ok (.bipush 64, 2) := by decide +kernel
theorem dX3_keep_10 : decode cX3_keep 10 = .ok (.isub, 1) := by decide +kernel
theorem dX3_keep_11 : decode cX3_keep 11 = .ok (.iload_n 1, 1) := by decide +kernel
theorem dX3_keep_12 : decode cX3_keep 12 = .ok (.invokestatic 52, 3) := by decide +kernel
theorem dX3_keep_15 : decode cX3_keep 15 = .ok (.iload_n 2, 1) := by decide +kernel
theorem dX3_keep_16 : decode cX3_keep 16 = .ok (.iastore, 1) := by decide +kernel
theorem dX3_keep_17 : decode cX3_keep 17 = .ok (.return_, 1) := by decide +kernel
theorem dX3_fetchedByte_0 : decode cX3_fetchedByte 0 = .ok (.aload_n 0, 1) := by decide +kernel
theorem dX3_fetchedByte_1 : decode cX3_fetchedByte 1 = .ok (.getfield 9, 3) := by decide +kernel
theorem dX3_fetchedByte_4 : decode cX3_fetchedByte 4 = .ok (.iload_n 1, 1) := by decide +kernel
theorem dX3_fetchedByte_5 : decode cX3_fetchedByte 5 = .ok (.iload_n 2, 1) := by decide +kernel
theorem dX3_fetchedByte_6 : decode cX3_fetchedByte 6 = .ok (.invokestatic 52, 3) := by decide +kernel
theorem dX3_fetchedByte_9 : decode cX3_fetchedByte 9 = .ok (.iaload, 1) := by decide +kernel
theorem dX3_fetchedByte_10 : decode cX3_fetchedByte 10 = .ok (.ireturn, 1) := by decide +kernel
theorem dX3_spot_0 : decode cX3_spot 0 = .ok (.iload_n 0, 1) := by decide +kernel
theorem dX3_spot_1 : decode cX3_spot 1 = .ok (.bipush 8, 2) := by decide +kernel
theorem dX3_spot_3 : decode cX3_spot 3 = .ok (.imul, 1) := by decide +kernel
theorem dX3_spot_4 : decode cX3_spot 4 = .ok (.iload_n 1, 1) := by decide +kernel
theorem dX3_spot_5 : decode cX3_spot 5 = .ok (.iadd, 1) := by decide +kernel
theorem dX3_spot_6 : decode cX3_spot 6 = .ok (.sipush 1023, 3) := by decide +kernel
theorem dX3_spot_9 : decode cX3_spot 9 = .ok (.iand, 1) := by decide +kernel
theorem dX3_spot_10 : decode cX3_spot 10 = .ok (.ireturn, 1) := by decide +kernel
theorem dX5_init_0 : decode cX5_init 0 = .ok (.aload_n 0, 1) := by decide +kernel
theorem dX5_init_1 : decode cX5_init 1 = .ok (.invokespecial 1, 3) := by decide +kernel
theorem dX5_init_4 : decode cX5_init 4 = .ok (.return_, 1) := by decide +kernel
theorem dX5_delay_0 : decode cX5_delay 0 = .ok (.aload_n 0, 1) := by decide +kernel
theorem dX5_delay_1 : decode cX5_delay 1 = .ok (.getfield 7, 3) := by decide +kernel
theorem dX5_delay_4 : decode cX5_delay 4 = .ok (.ireturn, 1) := by decide +kernel
theorem dX5_tone_0 : decode cX5_tone 0 = .ok (.aload_n 0, 1) := by decide +kernel
theorem dX5_tone_1 : decode cX5_tone 1 = .ok (.getfield 13, 3) := by decide +kernel
theorem dX5_tone_4 : decode cX5_tone 4 = .ok (.ireturn, 1) := by decide +kernel
theorem dX5_setDelay_0 : decode cX5_setDelay 0 = .ok (.aload_n 0, 1) := by decide +kernel
theorem dX5_setDelay_1 : decode cX5_setDelay 1 = .ok (.iload_n 1, 1) := by decide +kernel
theorem dX5_setDelay_2 : decode cX5_setDelay 2 = .ok (.sipush 255, 3) := by decide +kernel
theorem dX5_setDelay_5 : decode cX5_setDelay 5 = .ok (.iand, 1) := by decide +kernel
theorem dX5_setDelay_6 : decode cX5_setDelay 6 = .ok (.putfield 7, 3) := by decide +kernel
theorem dX5_setDelay_9 : decode cX5_setDelay 9 = .ok (.return_, 1) := by decide +kernel
theorem dX5_setTone_0 : decode cX5_setTone 0 = .ok (.aload_n 0, 1) := by decide +kernel
theorem dX5_setTone_1 : decode cX5_setTone 1 = .ok (.iload_n 1, 1) := by decide +kernel
theorem dX5_setTone_2 : decode cX5_setTone 2 = .ok (.sipush 255, 3) := by decide +kernel
theorem dX5_setTone_5 : decode cX5_setTone 5 = .ok (.iand, 1) := by decide +kernel
theorem dX5_setTone_6 : decode cX5_setTone 6 = .ok (.putfield 13, 3) := by decide +kernel
theorem dX5_setTone_9 : decode cX5_setTone 9 = .ok (.return_, 1) := by decide +kernel
theorem dX5_fall_0 : decode cX5_fall 0 = .ok (.aload_n 0, 1) := by decide +kernel
theorem dX5_fall_1 : decode cX5_fall 1 = .ok (.getfield 7, 3) := by decide +kernel
theorem dX5_fall_4 : decode cX5_fall 4 = .ok (.ifCond .le 13, 3) := by decide +kernel
theorem dX5_fall_7 : decode cX5_fall 7 = .ok (.aload_n 0, 1) := by decide +kernel
theorem dX5_fall_8 : decode cX5_fall 8 = .ok (.dup, 1) := by decide +kernel
theorem dX5_fall_9 : decode cX5_fall 9 = .ok (.getfield 7, 3) := by decide +kernel
theorem dX5_fall_12 : decode cX5_fall 12 = .ok (.iconst 1, 1) := by decide +kernel
theorem dX5_fall_13 : decode cX5_fall 13 = .ok (.isub, 1) := by decide +kernel
theorem dX5_fall_14 : decode cX5_fall 14 = .ok (.putfield 7, 3) := by decide +kernel
theorem dX5_fall_17 : decode cX5_fall 17 = .ok (.aload_n 0, 1) := by decide +kernel
theorem dX5_fall_18 : decode cX5_fall 18 = .ok (.getfield 13, 3) := by decide +kernel
theorem dX5_fall_21 : decode cX5_fall 21 = .ok (.ifCond .le 13, 3) := by decide +kernel
theorem dX5_fall_24 : decode cX5_fall 24 = .ok (.aload_n 0, 1) := by decide +kernel
theorem dX5_fall_25 : decode cX5_fall 25 = .ok (.dup, 1) := by decide +kernel
theorem dX5_fall_26 : decode cX5_fall 26 = .ok (.getfield 13, 3) := by decide +kernel
theorem dX5_fall_29 : decode cX5_fall 29 = .ok (.iconst 1, 1) := by decide +kernel
theorem dX5_fall_30 : decode cX5_fall 30 = .ok (.isub, 1) := by decide +kernel
theorem dX5_fall_31 : decode cX5_fall 31 = .ok (.putfield 13, 3) := by decide +kernel
theorem dX5_fall_34 : decode cX5_fall 34 = .ok (.return_, 1) := by decide +kernel
theorem dX6_init_0 : decode cX6_init 0 = .ok (.aload_n 0, 1) := by decide +kernel
theorem dX6_init_1 : decode cX6_init 1 = .ok (.invokespecial 1, 3) := by decide +kernel
theorem dX6_init_4 : decode cX6_init 4 = .ok (.aload_n 0, 1) := by decide +kernel
theorem dX6_init_5 : decode cX6_init 5 = .ok (.new 7, 3) := by decide +kernel
theorem dX6_init_8 : decode cX6_init 8 = .ok (.dup, 1) := by decide +kernel
theorem dX6_init_9 : decode cX6_init 9 = .ok (.invokespecial 9, 3) := by decide +kernel
theorem dX6_init_12 : decode cX6_init 12 = .ok (.putfield 10, 3) := by decide +kernel
theorem dX6_init_15 : decode cX6_init 15 = .ok (.aload_n 0, 1) := by decide +kernel
theorem dX6_init_16 : decode cX6_init 16 = .ok (.new 16, 3) := by decide +kernel
theorem dX6_init_19 : decode cX6_init 19 = .ok (.dup, 1) := by decide +kernel
theorem dX6_init_20 : decode cX6_init 20 = .ok (.invokespecial 18, 3) := by decide +kernel
theorem dX6_init_23 : decode cX6_init 23 = .ok (.putfield 19, 3) := by decide +kernel
theorem dX6_init_26 : decode cX6_init 26 = .ok (.aload_n 0, 1) := by decide +kernel
theorem dX6_init_27 : decode cX6_init 27 = .ok (.new 23, 3) := by decide +kernel
theorem dX6_init_30 : decode cX6_init 30 = .ok (.dup, 1) := by decide +kernel
theorem dX6_init_31 : decode cX6_init 31 = .ok (.invokespecial 25, 3) := by decide +kernel
theorem dX6_init_34 : decode cX6_init 34 = .ok (.putfield 26, 3) := by decide +kernel
theorem dX6_init_37 : decode cX6_init 37 = .ok (.aload_n 0, 1) := by decide +kernel
theorem dX6_init_38 : decode cX6_init 38 = .ok (.new 30, 3) := by decide +kernel
theorem dX6_init_41 : decode cX6_init 41 = .ok (.dup, 1) := by decide +kernel
theorem dX6_init_42 : decode cX6_init 42 = .ok (.aload_n 0, 1) := by decide +kernel
theorem dX6_init_43 : decode cX6_init 43 = .ok (.getfield 26, 3) := by decide +kernel
theorem dX6_init_46 : decode cX6_init 46 = .ok (.invokespecial 32, 3) := by decide +kernel
theorem dX6_init_49 : decode cX6_init 49 = .ok (.putfield 35, 3) := by decide +kernel
theorem dX6_init_52 : decode cX6_init 52 = .ok (.aload_n 0, 1) := by decide +kernel
theorem dX6_init_53 : decode cX6_init 53 = .ok (.new 39, 3) := by decide +kernel
theorem dX6_init_56 : decode cX6_init 56 = .ok (.dup, 1) := by decide +kernel
theorem dX6_init_57 : decode cX6_init 57 = .ok (.aload_n 0, 1) := by decide +kernel
theorem dX6_init_58 : decode cX6_init 58 = .ok (.getfield 10, 3) := by decide +kernel
theorem dX6_init_61 : decode cX6_init 61 = .ok (.aload_n 0, 1) := by decide +kernel
theorem dX6_init_62 : decode cX6_init 62 = .ok (.getfield 19, 3) := by decide +kernel
theorem dX6_init_65 : decode cX6_init 65 = .ok (.aload_n 0, 1) := by decide +kernel
theorem dX6_init_66 : decode cX6_init 66 = .ok (.getfield 35, 3) := by decide +kernel
theorem dX6_init_69 : decode cX6_init 69 = .ok (.invokespecial 41, 3) := by decide +kernel
theorem dX6_init_72 : decode cX6_init 72 = .ok (.putfield 44, 3) := by decide +kernel
theorem dX6_init_75 : decode cX6_init 75 = .ok (.aload_n 0, 1) := by decide +kernel
theorem dX6_init_76 : decode cX6_init 76 = .ok (.new 48, 3) := by decide +kernel
theorem dX6_init_79 : decode cX6_init 79 = .ok (.dup, 1) := by decide +kernel
theorem dX6_init_80 : decode cX6_init 80 = .ok (.aload_n 0, 1) := by decide +kernel
theorem dX6_init_81 : decode cX6_init 81 = .ok (.getfield 10, 3) := by decide +kernel
theorem dX6_init_84 : decode cX6_init 84 = .ok (.aload_n 0, 1) := by decide +kernel
theorem dX6_init_85 : decode cX6_init 85 = .ok (.getfield 19, 3) := by decide +kernel
theorem dX6_init_88 : decode cX6_init 88 = .ok (.aload_n 0, 1) := by decide +kernel
theorem dX6_init_89 : decode cX6_init 89 = .ok (.getfield 26, 3) := by decide +kernel
theorem dX6_init_92 : decode cX6_init 92 = .ok (.invokespecial 50, 3) := by decide +kernel
theorem dX6_init_95 : decode cX6_init 95 = .ok (.putfield 53, 3) := by decide +kernel
theorem dX6_init_98 : decode cX6_init 98 = .ok (.return_, 1) := by decide +kernel
theorem dX6_poke_0 : decode cX6_poke 0 = .ok (.iload_n 1, 1) := by decide +kernel
theorem dX6_poke_1 : decode cX6_poke 1 = .ok (.ifCond .lt 10, 3) := by decide +kernel
theorem dX6_poke_4 : decode cX6_poke 4 = .ok (.iload_n 1, 1) := by decide +kernel
theorem dX6_poke_5 : decode cX6_poke 5 = .ok (.sipush 2047, 3) := by decide +kernel
theorem dX6_poke_8 : decode cX6_poke 8 = .ok (.if_icmp .le 13, 3) := by decide +kernel
theorem dX6_poke_11 : decode cX6_poke 11 = .ok (.new 57, 3) := by decide +kernel
theorem dX6_poke_14 : decode cX6_poke 14 = .ok (.dup, 1) := by decide +kernel
theorem dX6_poke_15 : decode cX6_poke 15 = .ok (.ldc 59, 2) := by decide +kernel
theorem dX6_poke_17 : decode cX6_poke 17 = .ok (.invokespecial 61, 3) := by decide +kernel
theorem dX6_poke_20 : decode cX6_poke 20 = .ok (.athrow, 1) := by decide +kernel
theorem dX6_poke_21 : decode cX6_poke 21 = .ok (.iload_n 2, 1) := by decide +kernel
theorem dX6_poke_22 : decode cX6_poke 22 = .ok (.ifCond .lt 10, 3) := by decide +kernel
theorem dX6_poke_25 : decode cX6_poke 25 = .ok (.iload_n 2, 1) := by decide +kernel
theorem dX6_poke_26 : decode cX6_poke 26 = .ok (.sipush 255, 3) := by decide +kernel
theorem dX6_poke_29 : decode cX6_poke 29 = .ok (.if_icmp .le 13, 3) := by decide +kernel
theorem dX6_poke_32 : decode cX6_poke 32 = .ok (.new 57, 3) := by decide +kernel
theorem dX6_poke_35 : decode cX6_poke 35 = .ok (.dup, 1) := by decide +kernel
theorem dX6_poke_36 : decode cX6_poke 36 = .ok (.ldc 64, 2) := by decide +kernel
theorem dX6_poke_38 : decode cX6_poke 38 = .ok (.invokespecial 61, 3) := by decide +kernel
theorem dX6_poke_41 : decode cX6_poke 41 = .ok (.athrow, 1) := by decide +kernel
theorem dX6_poke_42 : decode cX6_poke 42 = .ok (.aload_n 0, 1) := by decide +kernel
theorem dX6_poke_43 : decode cX6_poke 43 = .ok (.getfield 10, 3) := by decide +kernel
theorem dX6_poke_46 : decode cX6_poke 46 = .ok (.iload_n 1, 1) := by decide +kernel
theorem dX6_poke_47 : decode cX6_poke 47 = .ok (.iload_n 2, 1) := by decide +kernel
theorem dX6_poke_48 : decode cX6_poke 48 = .ok (.invokevirtual 66, 3) := by decide +kernel
theorem dX6_poke_51 : decode cX6_poke 51 = .ok (.return_, 1) := by decide +kernel
theorem dX6_peek_0 : decode cX6_peek 0 = .ok (.iload_n 1, 1) := by decide +kernel
theorem dX6_peek_1 : decode cX6_peek 1 = .ok (.ifCond .lt 10, 3) := by decide +kernel
theorem dX6_peek_4 : decode cX6_peek 4 = .ok (.iload_n 1, 1) := by decide +kernel
theorem dX6_peek_5 : decode cX6_peek 5 = .ok (.sipush 2047, 3) := by decide +kernel
theorem dX6_peek_8 : decode cX6_peek 8 = .ok (.if_icmp .le 5, 3) := by decide +kernel
theorem dX6_peek_11 : decode cX6_peek 11 = .ok (.iconst (-1), 1) := by decide +kernel
theorem dX6_peek_12 : decode cX6_peek 12 = .ok (.ireturn, 1) := by decide +kernel
theorem dX6_peek_13 : decode cX6_peek 13 = .ok (.aload_n 0, 1) := by decide +kernel
theorem dX6_peek_14 : decode cX6_peek 14 = .ok (.getfield 10, 3) := by decide +kernel
theorem dX6_peek_17 : decode cX6_peek 17 = .ok (.iload_n 1, 1) := by decide +kernel
theorem dX6_peek_18 : decode cX6_peek 18 = .ok (.invokevirtual 70, 3) := by decide +kernel
theorem dX6_peek_21 : decode cX6_peek 21 = .ok (.ireturn, 1) := by decide +kernel
theorem dX6_cpu_0 : decode cX6_cpu 0 = .ok (.iload_n 1, 1) := by decide +kernel
theorem dX6_cpu_1 : decode cX6_cpu 1 = .ok (.ifCond .lt 9, 3) := by decide +kernel
theorem dX6_cpu_4 : decode cX6_cpu 4 = .ok (.iload_n 1, 1) := by decide +kernel
theorem dX6_cpu_5 : decode cX6_cpu 5 = .ok (.bipush 23, 2) := by decide +kernel
theorem dX6_cpu_7 : decode cX6_cpu 7 = .ok (.if_icmp .le 13, 3) := by decide +kernel
theorem dX6_cpu_10 : decode cX6_cpu 10 = .ok (.new 74, 3) := by decide +kernel
theorem dX6_cpu_13 : decode cX6_cpu 13 = .ok (.dup, 1) := by decide +kernel
theorem dX6_cpu_14 : decode cX6_cpu 14 = .ok (.ldc 76, 2) := by decide +kernel
theorem dX6_cpu_16 : decode cX6_cpu 16 = .ok (.invokespecial 78, 3) := by decide +kernel
theorem dX6_cpu_19 : decode cX6_cpu 19 = .ok (.athrow, 1) := by decide +kernel
theorem dX6_cpu_20 : decode cX6_cpu 20 = .ok (.aload_n 0, 1) := by decide +kernel
theorem dX6_cpu_21 : decode cX6_cpu 21 = .ok (.getfield 44, 3) := by decide +kernel
theorem dX6_cpu_24 : decode cX6_cpu 24 = .ok (.iload_n 1, 1) := by decide +kernel
theorem dX6_cpu_25 : decode cX6_cpu 25 = .ok (.invokevirtual 79, 3) := by decide +kernel
theorem dX6_cpu_28 : decode cX6_cpu 28 = .ok (.ireturn, 1) := by decide +kernel
theorem dX6_set_0 : decode cX6_set 0 = .ok (.iload_n 1, 1) := by decide +kernel
theorem dX6_set_1 : decode cX6_set 1 = .ok (.ifCond .lt 9, 3) := by decide +kernel
theorem dX6_set_4 : decode cX6_set 4 = .ok (.iload_n 1, 1) := by decide +kernel
theorem dX6_set_5 : decode cX6_set 5 = .ok (.bipush 23, 2) := by decide +kernel
theorem dX6_set_7 : decode cX6_set 7 = .ok (.if_icmp .lt 13, 3) := by decide +kernel
theorem dX6_set_10 : decode cX6_set 10 = .ok (.new 57, 3) := by decide +kernel
theorem dX6_set_13 : decode cX6_set 13 = .ok (.dup, 1) := by decide +kernel
theorem dX6_set_14 : decode cX6_set 14 = .ok (.ldc 82, 2) := by decide +kernel
theorem dX6_set_16 : decode cX6_set 16 = .ok (.invokespecial 61, 3) := by decide +kernel
theorem dX6_set_19 : decode cX6_set 19 = .ok (.athrow, 1) := by decide +kernel
theorem dX6_set_20 : decode cX6_set 20 = .ok (.iload_n 2, 1) := by decide +kernel
theorem dX6_set_21 : decode cX6_set 21 = .ok (.ifCond .lt 11, 3) := by decide +kernel
theorem dX6_set_24 : decode cX6_set 24 = .ok (.iload_n 2, 1) := by decide +kernel
theorem dX6_set_25 : decode cX6_set 25 = .ok (.iload_n 1, 1) := by decide +kernel
theorem dX6_set_26 : decode cX6_set 26 = .ok (.invokestatic 84, 3) := by decide +kernel
theorem dX6_set_29 : decode cX6_set 29 = .ok (.if_icmp .le 13, 3) := by decide +kernel
theorem dX6_set_32 : decode cX6_set 32 = .ok (.new 57, 3) := by decide +kernel
theorem dX6_set_35 : decode cX6_set 35 = .ok (.dup, 1) := by decide +kernel
theorem dX6_set_36 : decode cX6_set 36 = .ok (.ldc 87, 2) := by decide +kernel
theorem dX6_set_38 : decode cX6_set 38 = .ok (.invokespecial 61, 3) := by decide +kernel
theorem dX6_set_41 : decode cX6_set 41 = .ok (.athrow, 1) := by decide +kernel
theorem dX6_set_42 : decode cX6_set 42 = .ok (.aload_n 0, 1) := by decide +kernel
theorem dX6_set_43 : decode cX6_set 43 = .ok (.getfield 44, 3) := by decide +kernel
theorem dX6_set_46 : decode cX6_set 46 = .ok (.iload_n 1, 1) := by decide +kernel
theorem dX6_set_47 : decode cX6_set 47 = .ok (.iload_n 2, 1) := by decide +kernel
theorem dX6_set_48 : decode cX6_set 48 = .ok (.invokevirtual 89, 3) := by decide +kernel
theorem dX6_set_51 : decode cX6_set 51 = .ok (.return_, 1) := by decide +kernel
theorem dX6_key_0 : decode cX6_key 0 = .ok (.iload_n 1, 1) := by decide +kernel
theorem dX6_key_1 : decode cX6_key 1 = .ok (.ifCond .lt 9, 3) := by decide +kernel
theorem dX6_key_4 : decode cX6_key 4 = .ok (.iload_n 1, 1) := by decide +kernel
theorem dX6_key_5 : decode cX6_key 5 = .ok (.bipush 15, 2) := by decide +kernel
theorem dX6_key_7 : decode cX6_key 7 = .ok (.if_icmp .le 13, 3) := by decide +kernel
theorem dX6_key_10 : decode cX6_key 10 = .ok (.new 57, 3) := by decide +kernel
theorem dX6_key_13 : decode cX6_key 13 = .ok (.dup, 1) := by decide +kernel
theorem dX6_key_14 : decode cX6_key 14 = .ok (.ldc 92, 2) := by decide +kernel
theorem dX6_key_16 : decode cX6_key 16 = .ok (.invokespecial 61, 3) := by decide +kernel
theorem dX6_key_19 : decode cX6_key 19 = .ok (.athrow, 1) := by decide +kernel
theorem dX6_key_20 : decode cX6_key 20 = .ok (.aload_n 0, 1) := by decide +kernel
theorem dX6_key_21 : decode cX6_key 21 = .ok (.getfield 19, 3) := by decide +kernel
theorem dX6_key_24 : decode cX6_key 24 = .ok (.iload_n 1, 1) := by decide +kernel
theorem dX6_key_25 : decode cX6_key 25 = .ok (.iload_n 2, 1) := by decide +kernel
theorem dX6_key_26 : decode cX6_key 26 = .ok (.invokevirtual 94, 3) := by decide +kernel
theorem dX6_key_29 : decode cX6_key 29 = .ok (.return_, 1) := by decide +kernel
theorem dX6_run_0 : decode cX6_run 0 = .ok (.iload_n 1, 1) := by decide +kernel
theorem dX6_run_1 : decode cX6_run 1 = .ok (.iconst 1, 1) := by decide +kernel
theorem dX6_run_2 : decode cX6_run 2 = .ok (.if_icmp .lt 10, 3) := by decide +kernel
theorem dX6_run_5 : decode cX6_run 5 = .ok (.iload_n 1, 1) := by decide +kernel
theorem dX6_run_6 : decode cX6_run 6 = .ok (.sipush 4000, 3) := by decide +kernel
theorem dX6_run_9 : decode cX6_run 9 = .ok (.if_icmp .le 13, 3) := by decide +kernel
theorem dX6_run_12 : decode cX6_run 12 = .ok (.new 57, 3) := by decide +kernel
theorem dX6_run_15 : decode cX6_run 15 = .ok (.dup, 1) := by decide +kernel
theorem dX6_run_16 : decode cX6_run 16 = .ok (.ldc 98, 2) := by decide +kernel
theorem dX6_run_18 : decode cX6_run 18 = .ok (.invokespecial 61, 3) := by decide +kernel
theorem dX6_run_21 : decode cX6_run 21 = .ok (.athrow, 1) := by decide +kernel
theorem dX6_run_22 : decode cX6_run 22 = .ok (.iconst 0, 1) := by decide +kernel
theorem dX6_run_23 : decode cX6_run 23 = .ok (.istore_n 2, 1) := by decide +kernel
theorem dX6_run_24 : decode cX6_run 24 = .ok (.iconst 0, 1) := by decide +kernel
theorem dX6_run_25 : decode cX6_run 25 = .ok (.istore_n 3, 1) := by decide +kernel
theorem dX6_run_26 : decode cX6_run 26 = .ok (.iload_n 3, 1) := by decide +kernel
theorem dX6_run_27 : decode cX6_run 27 = .ok (.iload_n 1, 1) := by decide +kernel
theorem dX6_run_28 : decode cX6_run 28 = .ok (.if_icmp .ge 42, 3) := by decide +kernel
theorem dX6_run_31 : decode cX6_run 31 = .ok (.iload_n 2, 1) := by decide +kernel
theorem dX6_run_32 : decode cX6_run 32 = .ok (.iload_n 1, 1) := by decide +kernel
theorem dX6_run_33 : decode cX6_run 33 = .ok (.if_icmp .ge 37, 3) := by decide +kernel
theorem dX6_run_36 : decode cX6_run 36 = .ok (.aload_n 0, 1) := by decide +kernel
theorem dX6_run_37 : decode cX6_run 37 = .ok (.getfield 44, 3) := by decide +kernel
theorem dX6_run_40 : decode cX6_run 40 = .ok (.invokevirtual 100, 3) := by decide +kernel
theorem dX6_run_43 : decode cX6_run 43 = .ok (.istore 4, 2) := by decide +kernel
theorem dX6_run_45 : decode cX6_run 45 = .ok (.aload_n 0, 1) := by decide +kernel
theorem dX6_run_46 : decode cX6_run 46 = .ok (.getfield 35, 3) := by decide +kernel
theorem dX6_run_49 : decode cX6_run 49 = .ok (.iload 4, 2) := by decide +kernel
theorem dX6_run_51 : decode cX6_run 51 = .ok (.invokevirtual 104, 3) := by decide +kernel
theorem dX6_run_54 : decode cX6_run 54 = .ok (.iload_n 2, 1) := by decide +kernel
theorem dX6_run_55 : decode cX6_run 55 = .ok (.iload 4, 2) := by decide +kernel
theorem dX6_run_57 : decode cX6_run 57 = .ok (.aload_n 0, 1) := by decide +kernel
theorem dX6_run_58 : decode cX6_run 58 = .ok (.invokevirtual 108, 3) := by decide +kernel
theorem dX6_run_61 : decode cX6_run 61 = .ok (.iadd, 1) := by decide +kernel
theorem dX6_run_62 : decode cX6_run 62 = .ok (.iadd, 1) := by decide +kernel
theorem dX6_run_63 : decode cX6_run 63 = .ok (.istore_n 2, 1) := by decide +kernel
theorem dX6_run_64 : decode cX6_run 64 = .ok (.iinc 3 1, 3) := by decide +kernel
theorem dX6_run_67 : decode cX6_run 67 = .ok (.goto (-41), 3) := by decide +kernel
theorem dX6_run_70 : decode cX6_run 70 = .ok (.iload_n 2, 1) := by decide +kernel
theorem dX6_run_71 : decode cX6_run 71 = .ok (.ireturn, 1) := by decide +kernel
theorem dX6_video_0 : decode cX6_video 0 = .ok (.iload_n 1, 1) := by decide +kernel
theorem dX6_video_1 : decode cX6_video 1 = .ok (.ifCond .lt 8, 3) := by decide +kernel
theorem dX6_video_4 : decode cX6_video 4 = .ok (.iload_n 1, 1) := by decide +kernel
theorem dX6_video_5 : decode cX6_video 5 = .ok (.iconst 5, 1) := by decide +kernel
theorem dX6_video_6 : decode cX6_video 6 = .ok (.if_icmp .le 13, 3) := by decide +kernel
theorem dX6_video_9 : decode cX6_video 9 = .ok (.new 74, 3) := by decide +kernel
theorem dX6_video_12 : decode cX6_video 12 = .ok (.dup, 1) := by decide +kernel
theorem dX6_video_13 : decode cX6_video 13 = .ok (.ldc 111, 2) := by decide +kernel
theorem dX6_video_15 : decode cX6_video 15 = .ok (.invokespecial 78, 3) := by decide +kernel
theorem dX6_video_18 : decode cX6_video 18 = .ok (.athrow, 1) := by decide +kernel
theorem dX6_video_19 : decode cX6_video 19 = .ok (.iload_n 1, 1) := by decide +kernel
theorem dX6_video_20 : decode cX6_video 20 = .ok (.iconst 5, 1) := by decide +kernel
theorem dX6_video_21 : decode cX6_video 21 = .ok (.if_icmp .ne 13, 3) := by decide +kernel
theorem dX6_video_24 : decode cX6_video 24 = .ok (.aload_n 0, 1) := by decide +kernel
theorem dX6_video_25 : decode cX6_video 25 = .ok (.getfield 19, 3) := by decide +kernel
theorem dX6_video_28 : decode cX6_video 28 = .ok (.invokevirtual 113, 3) := by decide +kernel
theorem dX6_video_31 : decode cX6_video 31 = .ok (.goto 11, 3) := by decide +kernel
theorem dX6_video_34 : decode cX6_video 34 = .ok (.aload_n 0, 1) := by decide +kernel
theorem dX6_video_35 : decode cX6_video 35 = .ok (.getfield 35, 3) := by decide +kernel
theorem dX6_video_38 : decode cX6_video 38 = .ok (.iload_n 1, 1) := by decide +kernel
theorem dX6_video_39 : decode cX6_video 39 = .ok (.invokevirtual 116, 3) := by decide +kernel
theorem dX6_video_42 : decode cX6_video 42 = .ok (.ireturn, 1) := by decide +kernel
theorem dX6_shown_0 : decode cX6_shown 0 = .ok (.iload_n 1, 1) := by decide +kernel
theorem dX6_shown_1 : decode cX6_shown 1 = .ok (.ifCond .lt 10, 3) := by decide +kernel
theorem dX6_shown_4 : decode cX6_shown 4 = .ok (.iload_n 1, 1) := by decide +kernel
theorem dX6_shown_5 : decode cX6_shown 5 = .ok (.sipush 128, 3) := by decide +kernel
theorem dX6_shown_8 : decode cX6_shown 8 = .ok (.if_icmp .lt 13, 3) := by decide +kernel
theorem dX6_shown_11 : decode cX6_shown 11 = .ok (.new 74, 3) := by decide +kernel
theorem dX6_shown_14 : decode cX6_shown 14 = .ok (.dup, 1) := by decide +kernel
theorem dX6_shown_15 : decode cX6_shown 15 = .ok (.ldc 117, 2) := by decide +kernel
theorem dX6_shown_17 : decode cX6_shown 17 = .ok (.invokespecial 78, 3) := by decide +kernel
theorem dX6_shown_20 : decode cX6_shown 20 = .ok (.athrow, 1) := by decide +kernel
theorem dX6_shown_21 : decode cX6_shown 21 = .ok (.iload_n 2, 1) := by decide +kernel
theorem dX6_shown_22 : decode cX6_shown 22 = .ok (.ifCond .lt 9, 3) := by decide +kernel
theorem dX6_shown_25 : decode cX6_shown 25 = .ok (.iload_n 2, 1) := by decide +kernel
theorem dX6_shown_26 : decode cX6_shown 26 = .ok (.bipush 8, 2) := by decide +kernel
theorem dX6_shown_28 : decode cX6_shown 28 = .ok (.if_icmp .lt 13, 3) := by decide +kernel
theorem dX6_shown_31 : decode cX6_shown 31 = .ok (.new 74, 3) := by decide +kernel
theorem dX6_shown_34 : decode cX6_shown 34 = .ok (.dup, 1) := by decide +kernel
theorem dX6_shown_35 : decode cX6_shown 35 = .ok (.ldc 119, 2) := by decide +kernel
theorem dX6_shown_37 : decode cX6_shown 37 = .ok (.invokespecial 78, 3) := by decide +kernel
theorem dX6_shown_40 : decode cX6_shown 40 = .ok (.athrow, 1) := by decide +kernel
theorem dX6_shown_41 : decode cX6_shown 41 = .ok (.aload_n 0, 1) := by decide +kernel
theorem dX6_shown_42 : decode cX6_shown 42 = .ok (.getfield 35, 3) := by decide +kernel
theorem dX6_shown_45 : decode cX6_shown 45 = .ok (.iload_n 1, 1) := by decide +kernel
theorem dX6_shown_46 : decode cX6_shown 46 = .ok (.iload_n 2, 1) := by decide +kernel
theorem dX6_shown_47 : decode cX6_shown 47 = .ok (.invokevirtual 121, 3) := by decide +kernel
theorem dX6_shown_50 : decode cX6_shown 50 = .ok (.ireturn, 1) := by decide +kernel
theorem dX6_chip_0 : decode cX6_chip 0 = .ok (.iload_n 1, 1) := by decide +kernel
theorem dX6_chip_1 : decode cX6_chip 1 = .ok (.iconst 1, 1) := by decide +kernel
theorem dX6_chip_2 : decode cX6_chip 2 = .ok (.if_icmp .lt 10, 3) := by decide +kernel
theorem dX6_chip_5 : decode cX6_chip 5 = .ok (.iload_n 1, 1) := by decide +kernel
theorem dX6_chip_6 : decode cX6_chip 6 = .ok (.sipush 200, 3) := by decide +kernel
theorem dX6_chip_9 : decode cX6_chip 9 = .ok (.if_icmp .le 13, 3) := by decide +kernel
theorem dX6_chip_12 : decode cX6_chip 12 = .ok (.new 57, 3) := by decide +kernel
theorem dX6_chip_15 : decode cX6_chip 15 = .ok (.dup, 1) := by decide +kernel
theorem dX6_chip_16 : decode cX6_chip 16 = .ok (.ldc 125, 2) := by decide +kernel
theorem dX6_chip_18 : decode cX6_chip 18 = .ok (.invokespecial 61, 3) := by decide +kernel
theorem dX6_chip_21 : decode cX6_chip 21 = .ok (.athrow, 1) := by decide +kernel
theorem dX6_chip_22 : decode cX6_chip 22 = .ok (.iconst 0, 1) := by decide +kernel
theorem dX6_chip_23 : decode cX6_chip 23 = .ok (.istore_n 2, 1) := by decide +kernel
theorem dX6_chip_24 : decode cX6_chip 24 = .ok (.iload_n 2, 1) := by decide +kernel
theorem dX6_chip_25 : decode cX6_chip 25 = .ok (.iload_n 1, 1) := by decide +kernel
theorem dX6_chip_26 : decode cX6_chip 26 = .ok (.if_icmp .ge 54, 3) := by decide +kernel
theorem dX6_chip_29 : decode cX6_chip 29 = .ok (.aload_n 0, 1) := by decide +kernel
theorem dX6_chip_30 : decode cX6_chip 30 = .ok (.getfield 53, 3) := by decide +kernel
theorem dX6_chip_33 : decode cX6_chip 33 = .ok (.invokevirtual 127, 3) := by decide +kernel
theorem dX6_chip_36 : decode cX6_chip 36 = .ok (.istore_n 3, 1) := by decide +kernel
theorem dX6_chip_37 : decode cX6_chip 37 = .ok (.iload_n 3, 1) := by decide +kernel
theorem dX6_chip_38 : decode cX6_chip 38 = .ok (.iconst 1, 1) := by decide +kernel
theorem dX6_chip_39 : decode cX6_chip 39 = .ok (.if_icmp .ne 5, 3) := by decide +kernel
theorem dX6_chip_42 : decode cX6_chip 42 = .ok (.iload_n 2, 1) := by decide +kernel
theorem dX6_chip_43 : decode cX6_chip 43 = .ok (.ireturn, 1) := by decide +kernel
theorem dX6_chip_44 : decode cX6_chip 44 = .ok (.iload_n 3, 1) := by decide +kernel
theorem dX6_chip_45 : decode cX6_chip 45 = .ok (.iconst 2, 1) := by decide +kernel
theorem dX6_chip_46 : decode cX6_chip 46 = .ok (.if_icmp .ne 13, 3) := by decide +kernel
theorem dX6_chip_49 : decode cX6_chip 49 = .ok (.new 130, 3) := by decide +kernel
theorem dX6_chip_52 : decode cX6_chip 52 = .ok (.dup, 1) := by decide +kernel
theorem dX6_chip_53 : decode cX6_chip 53 = .ok (.ldc 132, 2) := by decide +kernel
theorem dX6_chip_55 : decode cX6_chip 55 = .ok (.invokespecial 134, 3) := by decide +kernel
theorem dX6_chip_58 : decode cX6_chip 58 = .ok (.athrow, 1) := by decide +kernel
theorem dX6_chip_59 : decode cX6_chip 59 = .ok (.iload_n 3, 1) := by decide +kernel
theorem dX6_chip_60 : decode cX6_chip 60 = .ok (.iconst 3, 1) := by decide +kernel
theorem dX6_chip_61 : decode cX6_chip 61 = .ok (.if_icmp .ne 13, 3) := by decide +kernel
theorem dX6_chip_64 : decode cX6_chip 64 = .ok (.new 135, 3) := by decide +kernel
theorem dX6_chip_67 : decode cX6_chip 67 = .ok (.dup, 1) := by decide +kernel
theorem dX6_chip_68 : decode cX6_chip 68 = .ok (.ldc 137, 2) := by decide +kernel
theorem dX6_chip_70 : decode cX6_chip 70 = .ok (.invokespecial 139, 3) := by decide +kernel
theorem dX6_chip_73 : decode cX6_chip 73 = .ok (.athrow, 1) := by decide +kernel
theorem dX6_chip_74 : decode cX6_chip 74 = .ok (.iinc 2 1, 3) := by decide +kernel
theorem dX6_chip_77 : decode cX6_chip 77 = .ok (.goto (-53), 3) := by decide +kernel
theorem dX6_chip_80 : decode cX6_chip 80 = .ok (.iload_n 1, 1) := by decide +kernel
theorem dX6_chip_81 : decode cX6_chip 81 = .ok (.ireturn, 1) := by decide +kernel
theorem dX6_v_0 : decode cX6_v 0 = .ok (.iload_n 1, 1) := by decide +kernel
theorem dX6_v_1 : decode cX6_v 1 = .ok (.ifCond .lt 9, 3) := by decide +kernel
theorem dX6_v_4 : decode cX6_v 4 = .ok (.iload_n 1, 1) := by decide +kernel
theorem dX6_v_5 : decode cX6_v 5 = .ok (.bipush 21, 2) := by decide +kernel
theorem dX6_v_7 : decode cX6_v 7 = .ok (.if_icmp .le 13, 3) := by decide +kernel
theorem dX6_v_10 : decode cX6_v 10 = .ok (.new 74, 3) := by decide +kernel
theorem dX6_v_13 : decode cX6_v 13 = .ok (.dup, 1) := by decide +kernel
theorem dX6_v_14 : decode cX6_v 14 = .ok (.ldc 140, 2) := by decide +kernel
theorem dX6_v_16 : decode cX6_v 16 = .ok (.invokespecial 78, 3) := by decide +kernel
theorem dX6_v_19 : decode cX6_v 19 = .ok (.athrow, 1) := by decide +kernel
theorem dX6_v_20 : decode cX6_v 20 = .ok (.iload_n 1, 1) := by decide +kernel
theorem dX6_v_21 : decode cX6_v 21 = .ok (.bipush 19, 2) := by decide +kernel
theorem dX6_v_23 : decode cX6_v 23 = .ok (.if_icmp .ne 11, 3) := by decide +kernel
theorem dX6_v_26 : decode cX6_v 26 = .ok (.aload_n 0, 1) := by decide +kernel
theorem dX6_v_27 : decode cX6_v 27 = .ok (.getfield 26, 3) := by decide +kernel
theorem dX6_v_30 : decode cX6_v 30 = .ok (.invokevirtual 142, 3) := by decide +kernel
theorem dX6_v_33 : decode cX6_v 33 = .ok (.ireturn, 1) := by decide +kernel
theorem dX6_v_34 : decode cX6_v 34 = .ok (.iload_n 1, 1) := by decide +kernel
theorem dX6_v_35 : decode cX6_v 35 = .ok (.bipush 20, 2) := by decide +kernel
theorem dX6_v_37 : decode cX6_v 37 = .ok (.if_icmp .ne 13, 3) := by decide +kernel
theorem dX6_v_40 : decode cX6_v 40 = .ok (.aload_n 0, 1) := by decide +kernel
theorem dX6_v_41 : decode cX6_v 41 = .ok (.getfield 26, 3) := by decide +kernel
theorem dX6_v_44 : decode cX6_v 44 = .ok (.invokevirtual 145, 3) := by decide +kernel
theorem dX6_v_47 : decode cX6_v 47 = .ok (.goto 11, 3) := by decide +kernel
theorem dX6_v_50 : decode cX6_v 50 = .ok (.aload_n 0, 1) := by decide +kernel
theorem dX6_v_51 : decode cX6_v 51 = .ok (.getfield 53, 3) := by decide +kernel
theorem dX6_v_54 : decode cX6_v 54 = .ok (.iload_n 1, 1) := by decide +kernel
theorem dX6_v_55 : decode cX6_v 55 = .ok (.invokevirtual 148, 3) := by decide +kernel
theorem dX6_v_58 : decode cX6_v 58 = .ok (.ireturn, 1) := by decide +kernel
theorem dX6_start_0 : decode cX6_start 0 = .ok (.iload_n 1, 1) := by decide +kernel
theorem dX6_start_1 : decode cX6_start 1 = .ok (.ifCond .lt 10, 3) := by decide +kernel
theorem dX6_start_4 : decode cX6_start 4 = .ok (.iload_n 1, 1) := by decide +kernel
theorem dX6_start_5 : decode cX6_start 5 = .ok (.sipush 2047, 3) := by decide +kernel
theorem dX6_start_8 : decode cX6_start 8 = .ok (.if_icmp .le 13, 3) := by decide +kernel
theorem dX6_start_11 : decode cX6_start 11 = .ok (.new 57, 3) := by decide +kernel
theorem dX6_start_14 : decode cX6_start 14 = .ok (.dup, 1) := by decide +kernel
theorem dX6_start_15 : decode cX6_start 15 = .ok (.ldc 149, 2) := by decide +kernel
theorem dX6_start_17 : decode cX6_start 17 = .ok (.invokespecial 61, 3) := by decide +kernel
theorem dX6_start_20 : decode cX6_start 20 = .ok (.athrow, 1) := by decide +kernel
theorem dX6_start_21 : decode cX6_start 21 = .ok (.aload_n 0, 1) := by decide +kernel
theorem dX6_start_22 : decode cX6_start 22 = .ok (.getfield 53, 3) := by decide +kernel
theorem dX6_start_25 : decode cX6_start 25 = .ok (.iload_n 1, 1) := by decide +kernel
theorem dX6_start_26 : decode cX6_start 26 = .ok (.invokevirtual 151, 3) := by decide +kernel
theorem dX6_start_29 : decode cX6_start 29 = .ok (.return_, 1) := by decide +kernel
theorem dX6_letVideoAct_0 : decode cX6_letVideoAct 0 = .ok (.aload_n 0, 1) := by decide +kernel
theorem dX6_letVideoAct_1 : decode cX6_letVideoAct 1 = .ok (.getfield 35, 3) := by decide +kernel
theorem dX6_letVideoAct_4 : decode cX6_letVideoAct 4 = .ok (.invokevirtual 154, 3) := by decide +kernel
theorem dX6_letVideoAct_7 : decode cX6_letVideoAct 7 = .ok (.ifCond .eq 10, 3) := by decide +kernel
theorem dX6_letVideoAct_10 : decode cX6_letVideoAct 10 = .ok (.aload_n 0, 1) := by decide +kernel
theorem dX6_letVideoAct_11 : decode cX6_letVideoAct 11 = .ok (.invokevirtual 158, 3) := by decide +kernel
theorem dX6_letVideoAct_14 : decode cX6_letVideoAct 14 = .ok (.bipush 8, 2) := by decide +kernel
theorem dX6_letVideoAct_16 : decode cX6_letVideoAct 16 = .ok (.ireturn, 1) := by decide +kernel
theorem dX6_letVideoAct_17 : decode cX6_letVideoAct 17 = .ok (.aload_n 0, 1) := by decide +kernel
theorem dX6_letVideoAct_18 : decode cX6_letVideoAct 18 = .ok (.getfield 35, 3) := by decide +kernel
theorem dX6_letVideoAct_21 : decode cX6_letVideoAct 21 = .ok (.invokevirtual 161, 3) := by decide +kernel
theorem dX6_letVideoAct_24 : decode cX6_letVideoAct 24 = .ok (.ifCond .eq 37, 3) := by decide +kernel
theorem dX6_letVideoAct_27 : decode cX6_letVideoAct 27 = .ok (.aload_n 0, 1) := by decide +kernel
theorem dX6_letVideoAct_28 : decode cX6_letVideoAct 28 = .ok (.getfield 44, 3) := by decide +kernel
theorem dX6_letVideoAct_31 : decode cX6_letVideoAct 31 = .ok (.invokevirtual 164, 3) := by decide +kernel
theorem dX6_letVideoAct_34 : decode cX6_letVideoAct 34 = .ok (.ifCond .eq 27, 3) := by decide +kernel
theorem dX6_letVideoAct_37 : decode cX6_letVideoAct 37 = .ok (.aload_n 0, 1) := by decide +kernel
theorem dX6_letVideoAct_38 : decode cX6_letVideoAct 38 = .ok (.getfield 44, 3) := by decide +kernel
theorem dX6_letVideoAct_41 : decode cX6_letVideoAct 41 = .ok (.invokevirtual 167, 3) := by decide +kernel
theorem dX6_letVideoAct_44 : decode cX6_letVideoAct 44 = .ok (.aload_n 0, 1) := by decide +kernel
theorem dX6_letVideoAct_45 : decode cX6_letVideoAct 45 = .ok (.getfield 35, 3) := by decide +kernel
theorem dX6_letVideoAct_48 : decode cX6_letVideoAct 48 = .ok (.invokevirtual 170, 3) := by decide +kernel
theorem dX6_letVideoAct_51 : decode cX6_letVideoAct 51 = .ok (.aload_n 0, 1) := by decide +kernel
theorem dX6_letVideoAct_52 : decode cX6_letVideoAct 52 = .ok (.getfield 35, 3) := by decide +kernel
theorem dX6_letVideoAct_55 : decode cX6_letVideoAct 55 = .ok (.iconst 1, 1) := by decide +kernel
theorem dX6_letVideoAct_56 : decode cX6_letVideoAct 56 = .ok (.invokevirtual 104, 3) := by decide +kernel
theorem dX6_letVideoAct_59 : decode cX6_letVideoAct 59 = .ok (.iconst 1, 1) := by decide +kernel
theorem dX6_letVideoAct_60 : decode cX6_letVideoAct 60 = .ok (.ireturn, 1) := by decide +kernel
theorem dX6_letVideoAct_61 : decode cX6_letVideoAct 61 = .ok (.iconst 0, 1) := by decide +kernel
theorem dX6_letVideoAct_62 : decode cX6_letVideoAct 62 = .ok (.ireturn, 1) := by decide +kernel
theorem dX6_fetchRow_0 : decode cX6_fetchRow 0 = .ok (.iconst 0, 1) := by decide +kernel
theorem dX6_fetchRow_1 : decode cX6_fetchRow 1 = .ok (.istore_n 1, 1) := by decide +kernel
theorem dX6_fetchRow_2 : decode cX6_fetchRow 2 = .ok (.iload_n 1, 1) := by decide +kernel
theorem dX6_fetchRow_3 : decode cX6_fetchRow 3 = .ok (.bipush 8, 2) := by decide +kernel
theorem dX6_fetchRow_5 : decode cX6_fetchRow 5 = .ok (.if_icmp .ge 24, 3) := by decide +kernel
theorem dX6_fetchRow_8 : decode cX6_fetchRow 8 = .ok (.aload_n 0, 1) := by decide +kernel
theorem dX6_fetchRow_9 : decode cX6_fetchRow 9 = .ok (.getfield 35, 3) := by decide +kernel
theorem dX6_fetchRow_12 : decode cX6_fetchRow 12 = .ok (.iload_n 1, 1) := by decide +kernel
theorem dX6_fetchRow_13 : decode cX6_fetchRow 13 = .ok (.aload_n 0, 1) := by decide +kernel
theorem dX6_fetchRow_14 : decode cX6_fetchRow 14 = .ok (.getfield 44, 3) := by decide +kernel
theorem dX6_fetchRow_17 : decode cX6_fetchRow 17 = .ok (.invokevirtual 173, 3) := by decide +kernel
theorem dX6_fetchRow_20 : decode cX6_fetchRow 20 = .ok (.invokevirtual 176, 3) := by decide +kernel
theorem dX6_fetchRow_23 : decode cX6_fetchRow 23 = .ok (.iinc 1 1, 3) := by decide +kernel
theorem dX6_fetchRow_26 : decode cX6_fetchRow 26 = .ok (.goto (-24), 3) := by decide +kernel
theorem dX6_fetchRow_29 : decode cX6_fetchRow 29 = .ok (.aload_n 0, 1) := by decide +kernel
theorem dX6_fetchRow_30 : decode cX6_fetchRow 30 = .ok (.getfield 35, 3) := by decide +kernel
theorem dX6_fetchRow_33 : decode cX6_fetchRow 33 = .ok (.invokevirtual 179, 3) := by decide +kernel
theorem dX6_fetchRow_36 : decode cX6_fetchRow 36 = .ok (.aload_n 0, 1) := by decide +kernel
theorem dX6_fetchRow_37 : decode cX6_fetchRow 37 = .ok (.getfield 35, 3) := by decide +kernel
theorem dX6_fetchRow_40 : decode cX6_fetchRow 40 = .ok (.bipush 8, 2) := by decide +kernel
theorem dX6_fetchRow_42 : decode cX6_fetchRow 42 = .ok (.invokevirtual 104, 3) := by decide +kernel
theorem dX6_fetchRow_45 : decode cX6_fetchRow 45 = .ok (.aload_n 0, 1) := by decide +kernel
theorem dX6_fetchRow_46 : decode cX6_fetchRow 46 = .ok (.getfield 44, 3) := by decide +kernel
theorem dX6_fetchRow_49 : decode cX6_fetchRow 49 = .ok (.invokevirtual 182, 3) := by decide +kernel
theorem dX6_fetchRow_52 : decode cX6_fetchRow 52 = .ok (.return_, 1) := by decide +kernel
end
section
theorem dX1_init_0 : decode cX1_init 0 = .ok (.aload_n 0, 1) := by decide +kernel
theorem dX1_init_1 : decode cX1_init 1 = .ok (.invokespecial 1, 3) := by decide +kernel
theorem dX1_init_4 : decode cX1_init 4 = .ok (.aload_n 0, 1) := by decide +kernel
theorem dX1_init_5 : decode cX1_init 5 = .ok (.bipush 16, 2) := by decide +kernel
theorem dX1_init_7 : decode cX1_init 7 = .ok (.newarray .int, 2) := by decide +kernel
theorem dX1_init_9 : decode cX1_init 9 = .ok (.putfield 9, 3) := by decide +kernel
theorem dX1_init_12 : decode cX1_init 12 = .ok (.aload_n 0, 1) := by decide +kernel
theorem dX1_init_13 : decode cX1_init 13 = .ok (.bipush 12, 2) := by decide +kernel
theorem dX1_init_15 : decode cX1_init 15 = .ok (.newarray .int, 2) := by decide +kernel
theorem dX1_init_17 : decode cX1_init 17 = .ok (.putfield 13, 3) := by decide +kernel
theorem dX1_init_20 : decode cX1_init 20 = .ok (.aload_n 0, 1) := by decide +kernel
theorem dX1_init_21 : decode cX1_init 21 = .ok (.sipush 512, 3) := by decide +kernel
theorem dX1_init_24 : decode cX1_init 24 = .ok (.putfield 16, 3) := by decide +kernel
theorem dX1_init_27 : decode cX1_init 27 = .ok (.aload_n 0, 1) := by decide +kernel
theorem dX1_init_28 : decode cX1_init 28 = .ok (.aload_n 1, 1) := by decide +kernel
theorem dX1_init_29 : decode cX1_init 29 = .ok (.putfield 20, 3) := by decide +kernel
theorem dX1_init_32 : decode cX1_init 32 = .ok (.aload_n 0, 1) := by decide +kernel
theorem dX1_init_33 : decode cX1_init 33 = .ok (.aload_n 2, 1) := by decide +kernel
theorem dX1_init_34 : decode cX1_init 34 = .ok (.putfield 24, 3) := by decide +kernel
theorem dX1_init_37 : decode cX1_init 37 = .ok (.aload_n 0, 1) := by decide +kernel
theorem dX1_init_38 : decode cX1_init 38 = .ok (.aload_n 3, 1) := by decide +kernel
theorem dX1_init_39 : decode cX1_init 39 = .ok (.putfield 28, 3) := by decide +kernel
theorem dX1_init_42 : decode cX1_init 42 = .ok (.return_, 1) := by decide +kernel
theorem dX1_restart_0 : decode cX1_restart 0 = .ok (.aload_n 0, 1) := by decide +kernel
theorem dX1_restart_1 : decode cX1_restart 1 = .ok (.iload_n 1, 1) := by decide +kernel
theorem dX1_restart_2 : decode cX1_restart 2 = .ok (.putfield 16, 3) := by decide +kernel
theorem dX1_restart_5 : decode cX1_restart 5 = .ok (.aload_n 0, 1) := by decide +kernel
theorem dX1_restart_6 : decode cX1_restart 6 = .ok (.iconst 0, 1) := by decide +kernel
theorem dX1_restart_7 : decode cX1_restart 7 = .ok (.putfield 32, 3) := by decide +kernel
theorem dX1_restart_10 : decode cX1_restart 10 = .ok (.return_, 1) := by decide +kernel
theorem dX1_part_0 : decode cX1_part 0 = .ok (.iload_n 1, 1) := by decide +kernel
theorem dX1_part_1 : decode cX1_part 1 = .ok (.tableswitch 59 16 21 #[39, 44, 49, 59, 59, 54], 39) := by decide +kernel
theorem dX1_part_40 : decode cX1_part 40 = .ok (.aload_n 0, 1) := by decide +kernel
theorem dX1_part_41 : decode cX1_part 41 = .ok (.getfield 35, 3) := by decide +kernel
theorem dX1_part_44 : decode cX1_part 44 = .ok (.ireturn, 1) := by decide +kernel
theorem dX1_part_45 : decode cX1_part 45 = .ok (.aload_n 0, 1) := by decide +kernel
theorem dX1_part_46 : decode cX1_part 46 = .ok (.getfield 16, 3) := by decide +kernel
theorem dX1_part_49 : decode cX1_part 49 = .ok (.ireturn, 1) := by decide +kernel
theorem dX1_part_50 : decode cX1_part 50 = .ok (.aload_n 0, 1) := by decide +kernel
theorem dX1_part_51 : decode cX1_part 51 = .ok (.getfield 32, 3) := by decide +kernel
theorem dX1_part_54 : decode cX1_part 54 = .ok (.ireturn, 1) := by decide +kernel
theorem dX1_part_55 : decode cX1_part 55 = .ok (.aload_n 0, 1) := by decide +kernel
theorem dX1_part_56 : decode cX1_part 56 = .ok (.getfield 38, 3) := by decide +kernel
theorem dX1_part_59 : decode cX1_part 59 = .ok (.ireturn, 1) := by decide +kernel
theorem dX1_part_60 : decode cX1_part 60 = .ok (.aload_n 0, 1) := by decide +kernel
theorem dX1_part_61 : decode cX1_part 61 = .ok (.iload_n 1, 1) := by decide +kernel
theorem dX1_part_62 : decode cX1_part 62 = .ok (.invokevirtual 41, 3) := by decide +kernel
theorem dX1_part_65 : decode cX1_part 65 = .ok (.ireturn, 1) := by decide +kernel
theorem dX1_step_0 : decode cX1_step 0 = .ok (.aload_n 0, 1) := by decide +kernel
theorem dX1_step_1 : decode cX1_step 1 = .ok (.getfield 16, 3) := by decide +kernel
theorem dX1_step_4 : decode cX1_step 4 = .ok (.istore_n 1, 1) := by decide +kernel
theorem dX1_step_5 : decode cX1_step 5 = .ok (.aload_n 0, 1) := by decide +kernel
theorem dX1_step_6 : decode cX1_step 6 = .ok (.getfield 20, 3) := by decide +kernel
theorem dX1_step_9 : decode cX1_step 9 = .ok (.aload_n 0, 1) := by decide +kernel
theorem dX1_step_10 : decode cX1_step 10 = .ok (.getfield 16, 3) := by decide +kernel
theorem dX1_step_13 : decode cX1_step 13 = .ok (.invokevirtual 45, 3) := by decide +kernel
theorem dX1_step_16 : decode cX1_step 16 = .ok (.istore_n 2, 1) := by decide +kernel
theorem dX1_step_17 : decode cX1_step 17 = .ok (.aload_n 0, 1) := by decide +kernel
theorem dX1_step_18 : decode cX1_step 18 = .ok (.aload_n 0, 1) := by decide +kernel
theorem dX1_step_19 : decode cX1_step 19 = .ok (.getfield 16, 3) := by decide +kernel
theorem dX1_step_22 : decode cX1_step 22 = .ok (.iconst 2, 1) := by decide +kernel
theorem dX1_step_23 : decode cX1_step 23 = .ok (.iadd, 1) := by decide +kernel
theorem dX1_step_24 : decode cX1_step 24 = .ok (.invokevirtual 50, 3) := by decide +kernel
theorem dX1_step_27 : decode cX1_step 27 = .ok (.aload_n 0, 1) := by decide +kernel
theorem dX1_step_28 : decode cX1_step 28 = .ok (.iload_n 2, 1) := by decide +kernel
theorem dX1_step_29 : decode cX1_step 29 = .ok (.invokevirtual 54, 3) := by decide +kernel
theorem dX1_step_32 : decode cX1_step 32 = .ok (.istore_n 3, 1) := by decide +kernel
theorem dX1_step_33 : decode cX1_step 33 = .ok (.iload_n 3, 1) := by decide +kernel
theorem dX1_step_34 : decode cX1_step 34 = .ok (.ifCond .eq 8, 3) := by decide +kernel
theorem dX1_step_37 : decode cX1_step 37 = .ok (.aload_n 0, 1) := by decide +kernel
theorem dX1_step_38 : decode cX1_step 38 = .ok (.iload_n 1, 1) := by decide +kernel
theorem dX1_step_39 : decode cX1_step 39 = .ok (.putfield 16, 3) := by decide +kernel
theorem dX1_step_42 : decode cX1_step 42 = .ok (.iload_n 3, 1) := by decide +kernel
theorem dX1_step_43 : decode cX1_step 43 = .ok (.ireturn, 1) := by decide +kernel
theorem dX1_variable_0 : decode cX1_variable 0 = .ok (.aload_n 0, 1) := by decide +kernel
theorem dX1_variable_1 : decode cX1_variable 1 = .ok (.getfield 9, 3) := by decide +kernel
theorem dX1_variable_4 : decode cX1_variable 4 = .ok (.iload_n 1, 1) := by decide +kernel
theorem dX1_variable_5 : decode cX1_variable 5 = .ok (.bipush 15, 2) := by decide +kernel
theorem dX1_variable_7 : decode cX1_variable 7 = .ok (.iand, 1) := by decide +kernel
theorem dX1_variable_8 : decode cX1_variable 8 = .ok (.iaload, 1) := by decide +kernel
theorem dX1_variable_9 : decode cX1_variable 9 = .ok (.ireturn, 1) := by decide +kernel
theorem dX1_putVariable_0 : decode cX1_putVariable 0 = .ok (.aload_n 0, 1) := by decide +kernel
theorem dX1_putVariable_1 : decode cX1_putVariable 1 = .ok (.getfield 9, 3) := by decide +kernel
theorem dX1_putVariable_4 : decode cX1_putVariable 4 = .ok (.iload_n 1, 1) := by decide +kernel
theorem dX1_putVariable_5 : decode cX1_putVariable 5 = .ok (.bipush 15, 2) := by decide +kernel
theorem dX1_putVariable_7 : decode cX1_putVariable 7 = .ok (.iand, 1) := by decide +kernel
theorem dX1_putVariable_8 : decode cX1_putVariable 8 = .ok (.iload_n 2, 1) := by decide +kernel
theorem dX1_putVariable_9 : decode cX1_putVariable 9 = .ok (.sipush 255, 3) := by decide +kernel
theorem dX1_putVariable_12 : decode cX1_putVariable 12 = .ok (.iand, 1) := by decide +kernel
theorem dX1_putVariable_13 : decode cX1_putVariable 13 = .ok (.iastore, 1) := by decide +kernel
theorem dX1_putVariable_14 : decode cX1_putVariable 14 = .ok (.return_, 1) := by decide +kernel
theorem dX1_putIndex_0 : decode cX1_putIndex 0 = .ok (.aload_n 0, 1) := by decide +kernel
theorem dX1_putIndex_1 : decode cX1_putIndex 1 = .ok (.iload_n 1, 1) := by decide +kernel
theorem dX1_putIndex_2 : decode cX1_putIndex 2 = .ok (.sipush 4095, 3) := by decide +kernel
theorem dX1_putIndex_5 : decode cX1_putIndex 5 = .ok (.iand, 1) := by decide +kernel
theorem dX1_putIndex_6 : decode cX1_putIndex 6 = .ok (.putfield 35, 3) := by decide +kernel
theorem dX1_putIndex_9 : decode cX1_putIndex 9 = .ok (.return_, 1) := by decide +kernel
theorem dX1_jump_0 : decode cX1_jump 0 = .ok (.aload_n 0, 1) := by decide +kernel
theorem dX1_jump_1 : decode cX1_jump 1 = .ok (.iload_n 1, 1) := by decide +kernel
theorem dX1_jump_2 : decode cX1_jump 2 = .ok (.sipush 4095, 3) := by decide +kernel
theorem dX1_jump_5 : decode cX1_jump 5 = .ok (.iand, 1) := by decide +kernel
theorem dX1_jump_6 : decode cX1_jump 6 = .ok (.putfield 16, 3) := by decide +kernel
theorem dX1_jump_9 : decode cX1_jump 9 = .ok (.return_, 1) := by decide +kernel
theorem dX1_skipIf_0 : decode cX1_skipIf 0 = .ok (.iload_n 1, 1) := by decide +kernel
theorem dX1_skipIf_1 : decode cX1_skipIf 1 = .ok (.ifCond .eq 13, 3) := by decide +kernel
theorem dX1_skipIf_4 : decode cX1_skipIf 4 = .ok (.aload_n 0, 1) := by decide +kernel
theorem dX1_skipIf_5 : decode cX1_skipIf 5 = .ok (.aload_n 0, 1) := by decide +kernel
theorem dX1_skipIf_6 : decode cX1_skipIf 6 = .ok (.getfield 16, 3) := by decide +kernel
theorem dX1_skipIf_9 : decode cX1_skipIf 9 = .ok (.iconst 2, 1) := by decide +kernel
theorem dX1_skipIf_10 : decode cX1_skipIf 10 = .ok (.iadd, 1) := by decide +kernel
theorem dX1_skipIf_11 : decode cX1_skipIf 11 = .ok (.invokevirtual 50, 3) := by decide +kernel
theorem dX1_skipIf_14 : decode cX1_skipIf 14 = .ok (.iconst 0, 1) := by decide +kernel
theorem dX1_skipIf_15 : decode cX1_skipIf 15 = .ok (.ireturn, 1) := by decide +kernel
theorem dX1_execute_0 : decode cX1_execute 0 = .ok (.iload_n 1, 1) := by decide +kernel
theorem dX1_execute_1 : decode cX1_execute 1 = .ok (.bipush 8, 2) := by decide +kernel
theorem dX1_execute_3 : decode cX1_execute 3 = .ok (.ishr, 1) := by decide +kernel
theorem dX1_execute_4 : decode cX1_execute 4 = .ok (.bipush 15, 2) := by decide +kernel
theorem dX1_execute_6 : decode cX1_execute 6 = .ok (.iand, 1) := by decide +kernel
theorem dX1_execute_7 : decode cX1_execute 7 = .ok (.istore_n 2, 1) := by decide +kernel
theorem dX1_execute_8 : decode cX1_execute 8 = .ok (.iload_n 1, 1) := by decide +kernel
theorem dX1_execute_9 : decode cX1_execute 9 = .ok (.iconst 4, 1) := by decide +kernel
theorem dX1_execute_10 : decode cX1_execute 10 = .ok (.ishr, 1) := by decide +kernel
theorem dX1_execute_11 : decode cX1_execute 11 = .ok (.bipush 15, 2) := by decide +kernel
theorem dX1_execute_13 : decode cX1_execute 13 = .ok (.iand, 1) := by decide +kernel
theorem dX1_execute_14 : decode cX1_execute 14 = .ok (.istore_n 3, 1) := by decide +kernel
theorem dX1_execute_15 : decode cX1_execute 15 = .ok (.iload_n 1, 1) := by decide +kernel
theorem dX1_execute_16 : decode cX1_execute 16 = .ok (.sipush 255, 3) := by decide +kernel
theorem dX1_execute_19 : decode cX1_execute 19 = .ok (.iand, 1) := by decide +kernel
theorem dX1_execute_20 : decode cX1_execute 20 = .ok (.istore 4, 2) := by decide +kernel
theorem dX1_execute_22 : decode cX1_execute 22 = .ok (.iload_n 1, 1) := by decide +kernel
theorem dX1_execute_23 : decode cX1_execute 23 = .ok (.bipush 12, 2) := by decide +kernel
theorem dX1_execute_25 : decode cX1_execute 25 = .ok (.ishr, 1) := by decide +kernel
theorem dX1_execute_26 : decode cX1_execute 26 = .ok (.tableswitch 289 0 14 #[74, 80, 87, 93, 113, 133, 157, 166, 181, 133, 196, 203, 220, 250, 270], 74) := by decide +kernel
theorem dX1_execute_100 : decode cX1_execute 100 = .ok (.aload_n 0, 1) := by decide +kernel
theorem dX1_execute_101 : decode cX1_execute 101 = .ok (.iload_n 1, 1) := by decide +kernel
theorem dX1_execute_102 : decode cX1_execute 102 = .ok (.invokevirtual 57, 3) := by decide +kernel
theorem dX1_execute_105 : decode cX1_execute 105 = .ok (.ireturn, 1) := by decide +kernel
theorem dX1_execute_106 : decode cX1_execute 106 = .ok (.aload_n 0, 1) := by decide +kernel
theorem dX1_execute_107 : decode cX1_execute 107 = .ok (.iload_n 1, 1) := by decide +kernel
theorem dX1_execute_108 : decode cX1_execute 108 = .ok (.invokevirtual 50, 3) := by decide +kernel
theorem dX1_execute_111 : decode cX1_execute 111 = .ok (.iconst 0, 1) := by decide +kernel
theorem dX1_execute_112 : decode cX1_execute 112 = .ok (.ireturn, 1) := by decide +kernel
theorem dX1_execute_113 : decode cX1_execute 113 = .ok (.aload_n 0, 1) := by decide +kernel
theorem dX1_execute_114 : decode cX1_execute 114 = .ok (.iload_n 1, 1) := by decide +kernel
theorem dX1_execute_115 : decode cX1_execute 115 = .ok (.invokevirtual 60, 3) := by decide +kernel
theorem dX1_execute_118 : decode cX1_execute 118 = .ok (.ireturn, 1) := by decide +kernel
theorem dX1_execute_119 : decode cX1_execute 119 = .ok (.aload_n 0, 1) := by decide +kernel
theorem dX1_execute_120 : decode cX1_execute 120 = .ok (.aload_n 0, 1) := by decide +kernel
theorem dX1_execute_121 : decode cX1_execute 121 = .ok (.iload_n 2, 1) := by decide +kernel
theorem dX1_execute_122 : decode cX1_execute 122 = .ok (.invokevirtual 41, 3) := by decide +kernel
theorem dX1_execute_125 : decode cX1_execute 125 = .ok (.iload 4, 2) := by decide +kernel
theorem dX1_execute_127 : decode cX1_execute 127 = .ok (.if_icmp .ne 7, 3) := by decide +kernel
theorem dX1_execute_130 : decode cX1_execute 130 = .ok (.iconst 1, 1) := by decide +kernel
theorem dX1_execute_131 : decode cX1_execute 131 = .ok (.goto 4, 3) := by decide +kernel
theorem dX1_execute_134 : decode cX1_execute 134 = .ok (.iconst 0, 1) := by decide +kernel
theorem dX1_execute_135 : decode cX1_execute 135 = .ok (.invokevirtual 63, 3) := by decide +kernel
theorem dX1_execute_138 : decode cX1_execute 138 = .ok (.ireturn, 1) := by decide +kernel
theorem dX1_execute_139 : decode cX1_execute 139 = .ok (.aload_n 0, 1) := by decide +kernel
theorem dX1_execute_140 : decode cX1_execute 140 = .ok (.aload_n 0, 1) := by decide +kernel
theorem dX1_execute_141 : decode cX1_execute 141 = .ok (.iload_n 2, 1) := by decide +kernel
theorem dX1_execute_142 : decode cX1_execute 142 = .ok (.invokevirtual 41, 3) := by decide +kernel
theorem dX1_execute_145 : decode cX1_execute 145 = .ok (.iload 4, 2) := by decide +kernel
theorem dX1_execute_147 : decode cX1_execute 147 = .ok (.if_icmp .eq 7, 3) := by decide +kernel
theorem dX1_execute_150 : decode cX1_execute 150 = .ok (.iconst 1, 1) := by decide +kernel
theorem dX1_execute_151 : decode cX1_execute 151 = .ok (.goto 4, 3) := by decide +kernel
theorem dX1_execute_154 : decode cX1_execute 154 = .ok (.iconst 0, 1) := by decide +kernel
theorem dX1_execute_155 : decode cX1_execute 155 = .ok (.invokevirtual 63, 3) := by decide +kernel
theorem dX1_execute_158 : decode cX1_execute 158 = .ok (.ireturn, 1) := by decide +kernel
theorem dX1_execute_159 : decode cX1_execute 159 = .ok (.aload_n 0, 1) := by decide +kernel
theorem dX1_execute_160 : decode cX1_execute 160 = .ok (.iload_n 1, 1) := by decide +kernel
theorem dX1_execute_161 : decode cX1_execute 161 = .ok (.aload_n 0, 1) := by decide +kernel
theorem dX1_execute_162 : decode cX1_execute 162 = .ok (.iload_n 2, 1) := by decide +kernel
theorem dX1_execute_163 : decode cX1_execute 163 = .ok (.invokevirtual 41, 3) := by decide +kernel
theorem dX1_execute_166 : decode cX1_execute 166 = .ok (.aload_n 0, 1) := by decide +kernel
theorem dX1_execute_167 : decode cX1_execute 167 = .ok (.iload_n 3, 1) := by decide +kernel
theorem dX1_execute_168 : decode cX1_execute 168 = .ok (.invokevirtual 41, 3) := by decide +kernel
theorem dX1_execute_171 : decode cX1_execute 171 = .ok (.if_icmp .ne 7, 3) := by decide +kernel
theorem dX1_execute_174 : decode cX1_execute 174 = .ok (.iconst 1, 1) := by decide +kernel
theorem dX1_execute_175 : decode cX1_execute 175 = .ok (.goto 4, 3) := by decide +kernel
theorem dX1_execute_178 : decode cX1_execute 178 = .ok (.iconst 0, 1) := by decide +kernel
theorem dX1_execute_179 : decode cX1_execute 179 = .ok (.invokevirtual 67, 3) := by decide +kernel
theorem dX1_execute_182 : decode cX1_execute 182 = .ok (.ireturn, 1) := by decide +kernel
theorem dX1_execute_183 : decode cX1_execute 183 = .ok (.aload_n 0, 1) := by decide +kernel
theorem dX1_execute_184 : decode cX1_execute 184 = .ok (.iload_n 2, 1) := by decide +kernel
theorem dX1_execute_185 : decode cX1_execute 185 = .ok (.iload 4, 2) := by decide +kernel
theorem dX1_execute_187 : decode cX1_execute 187 = .ok (.invokevirtual 71, 3) := by decide +kernel
theorem dX1_execute_190 : decode cX1_execute 190 = .ok (.iconst 0, 1) := by decide +kernel
theorem dX1_execute_191 : decode cX1_execute 191 = .ok (.ireturn, 1) := by decide +kernel
theorem dX1_execute_192 : decode cX1_execute 192 = .ok (.aload_n 0, 1) := by decide +kernel
theorem dX1_execute_193 : decode cX1_execute 193 = .ok (.iload_n 2, 1) := by decide +kernel
theorem dX1_execute_194 : decode cX1_execute 194 = .ok (.aload_n 0, 1) := by decide +kernel
theorem dX1_execute_195 : decode cX1_execute 195 = .ok (.iload_n 2, 1) := by decide +kernel
theorem dX1_execute_196 : decode cX1_execute 196 = .ok (.invokevirtual 41, 3) := by decide +kernel
theorem dX1_execute_199 : decode cX1_execute 199 = .ok (.iload 4, 2) := by decide +kernel
theorem dX1_execute_201 : decode cX1_execute 201 = .ok (.iadd, 1) := by decide +kernel
theorem dX1_execute_202 : decode cX1_execute 202 = .ok (.invokevirtual 71, 3) := by decide +kernel
theorem dX1_execute_205 : decode cX1_execute 205 = .ok (.iconst 0, 1) := by decide +kernel
theorem dX1_execute_206 : decode cX1_execute 206 = .ok (.ireturn, 1) := by decide +kernel
theorem dX1_execute_207 : decode cX1_execute 207 = .ok (.aload_n 0, 1) := by decide +kernel
theorem dX1_execute_208 : decode cX1_execute 208 = .ok (.iload_n 1, 1) := by decide +kernel
theorem dX1_execute_209 : decode cX1_execute 209 = .ok (.bipush 15, 2) := by decide +kernel
theorem dX1_execute_211 : decode cX1_execute 211 = .ok (.iand, 1) := by decide +kernel
theorem dX1_execute_212 : decode cX1_execute 212 = .ok (.iload_n 2, 1) := by decide +kernel
theorem dX1_execute_213 : decode cX1_execute 213 = .ok (.aload_n 0, 1) := by decide +kernel
theorem dX1_execute_214 : decode cX1_execute 214 = .ok (.iload_n 3, 1) := by decide +kernel
theorem dX1_execute_215 : decode cX1_execute 215 = .ok (.invokevirtual 41, 3) := by decide +kernel
theorem dX1_execute_218 : decode cX1_execute 218 = .ok (.invokevirtual 75, 3) := by decide +kernel
theorem dX1_execute_221 : decode cX1_execute 221 = .ok (.ireturn, 1) := by decide +kernel
theorem dX1_execute_222 : decode cX1_execute 222 = .ok (.aload_n 0, 1) := by decide +kernel
theorem dX1_execute_223 : decode cX1_execute 223 = .ok (.iload_n 1, 1) := by decide +kernel
theorem dX1_execute_224 : decode cX1_execute 224 = .ok (.invokevirtual 79, 3) := by decide +kernel
theorem dX1_execute_227 : decode cX1_execute 227 = .ok (.iconst 0, 1) := by decide +kernel
theorem dX1_execute_228 : decode cX1_execute 228 = .ok (.ireturn, 1) := by decide +kernel
theorem dX1_execute_229 : decode cX1_execute 229 = .ok (.aload_n 0, 1) := by decide +kernel
theorem dX1_execute_230 : decode cX1_execute 230 = .ok (.iload_n 1, 1) := by decide +kernel
theorem dX1_execute_231 : decode cX1_execute 231 = .ok (.sipush 4095, 3) := by decide +kernel
theorem dX1_execute_234 : decode cX1_execute 234 = .ok (.iand, 1) := by decide +kernel
theorem dX1_execute_235 : decode cX1_execute 235 = .ok (.aload_n 0, 1) := by decide +kernel
theorem dX1_execute_236 : decode cX1_execute 236 = .ok (.iconst 0, 1) := by decide +kernel
theorem dX1_execute_237 : decode cX1_execute 237 = .ok (.invokevirtual 41, 3) := by decide +kernel
theorem dX1_execute_240 : decode cX1_execute 240 = .ok (.iadd, 1) := by decide +kernel
theorem dX1_execute_241 : decode cX1_execute 241 = .ok (.invokevirtual 50, 3) := by decide +kernel
theorem dX1_execute_244 : decode cX1_execute 244 = .ok (.iconst 0, 1) := by decide +kernel
theorem dX1_execute_245 : decode cX1_execute 245 = .ok (.ireturn, 1) := by decide +kernel
theorem dX1_execute_246 : decode cX1_execute 246 = .ok (.aload_n 0, 1) := by decide +kernel
theorem dX1_execute_247 : decode cX1_execute 247 = .ok (.aload_n 0, 1) := by decide +kernel
theorem dX1_execute_248 : decode cX1_execute 248 = .ok (.getfield 38, 3) := by decide +kernel
theorem dX1_execute_251 : decode cX1_execute 251 = .ok (.iconst 5, 1) := by decide +kernel
theorem dX1_execute_252 : decode cX1_execute 252 = .ok (.imul, 1) := by decide +kernel
theorem dX1_execute_253 : decode cX1_execute 253 = .ok (.iconst 1, 1) := by decide +kernel
theorem dX1_execute_254 : decode cX1_execute 254 = .ok (.iadd, 1) := by decide +kernel
theorem dX1_execute_255 : decode cX1_execute 255 = .ok (.sipush 255, 3) := by decide +kernel
theorem dX1_execute_258 : decode cX1_execute 258 = .ok (.iand, 1) := by decide +kernel
theorem dX1_execute_259 : decode cX1_execute 259 = .ok (.putfield 38, 3) := by decide +kernel
theorem dX1_execute_262 : decode cX1_execute 262 = .ok (.aload_n 0, 1) := by decide +kernel
theorem dX1_execute_263 : decode cX1_execute 263 = .ok (.iload_n 2, 1) := by decide +kernel
theorem dX1_execute_264 : decode cX1_execute 264 = .ok (.aload_n 0, 1) := by decide +kernel
theorem dX1_execute_265 : decode cX1_execute 265 = .ok (.getfield 38, 3) := by decide +kernel
theorem dX1_execute_268 : decode cX1_execute 268 = .ok (.iload 4, 2) := by decide +kernel
theorem dX1_execute_270 : decode cX1_execute 270 = .ok (.iand, 1) := by decide +kernel
theorem dX1_execute_271 : decode cX1_execute 271 = .ok (.invokevirtual 71, 3) := by decide +kernel
theorem dX1_execute_274 : decode cX1_execute 274 = .ok (.iconst 0, 1) := by decide +kernel
theorem dX1_execute_275 : decode cX1_execute 275 = .ok (.ireturn, 1) := by decide +kernel
theorem dX1_execute_276 : decode cX1_execute 276 = .ok (.aload_n 0, 1) := by decide +kernel
theorem dX1_execute_277 : decode cX1_execute 277 = .ok (.aload_n 0, 1) := by decide +kernel
theorem dX1_execute_278 : decode cX1_execute 278 = .ok (.iload_n 2, 1) := by decide +kernel
theorem dX1_execute_279 : decode cX1_execute 279 = .ok (.invokevirtual 41, 3) := by decide +kernel
theorem dX1_execute_282 : decode cX1_execute 282 = .ok (.aload_n 0, 1) := by decide +kernel
theorem dX1_execute_283 : decode cX1_execute 283 = .ok (.iload_n 3, 1) := by decide +kernel
theorem dX1_execute_284 : decode cX1_execute 284 = .ok (.invokevirtual 41, 3) := by decide +kernel
theorem dX1_execute_287 : decode cX1_execute 287 = .ok (.iload_n 1, 1) := by decide +kernel
theorem dX1_execute_288 : decode cX1_execute 288 = .ok (.bipush 15, 2) := by decide +kernel
theorem dX1_execute_290 : decode cX1_execute 290 = .ok (.iand, 1) := by decide +kernel
theorem dX1_execute_291 : decode cX1_execute 291 = .ok (.invokevirtual 82, 3) := by decide +kernel
theorem dX1_execute_294 : decode cX1_execute 294 = .ok (.iconst 0, 1) := by decide +kernel
theorem dX1_execute_295 : decode cX1_execute 295 = .ok (.ireturn, 1) := by decide +kernel
theorem dX1_execute_296 : decode cX1_execute 296 = .ok (.aload_n 0, 1) := by decide +kernel
theorem dX1_execute_297 : decode cX1_execute 297 = .ok (.iload 4, 2) := by decide +kernel
theorem dX1_execute_299 : decode cX1_execute 299 = .ok (.aload_n 0, 1) := by decide +kernel
theorem dX1_execute_300 : decode cX1_execute 300 = .ok (.getfield 24, 3) := by decide +kernel
theorem dX1_execute_303 : decode cX1_execute 303 = .ok (.aload_n 0, 1) := by decide +kernel
theorem dX1_execute_304 : decode cX1_execute 304 = .ok (.iload_n 2, 1) := by decide +kernel
theorem dX1_execute_305 : decode cX1_execute 305 = .ok (.invokevirtual 41, 3) := by decide +kernel
theorem dX1_execute_308 : decode cX1_execute 308 = .ok (.invokevirtual 86, 3) := by decide +kernel
theorem dX1_execute_311 : decode cX1_execute 311 = .ok (.invokevirtual 92, 3) := by decide +kernel
theorem dX1_execute_314 : decode cX1_execute 314 = .ok (.ireturn, 1) := by decide +kernel
theorem dX1_execute_315 : decode cX1_execute 315 = .ok (.iload 4, 2) := by decide +kernel
theorem dX1_execute_317 : decode cX1_execute 317 = .ok (.bipush 48, 2) := by decide +kernel
theorem dX1_execute_319 : decode cX1_execute 319 = .ok (.if_icmp .lt 13, 3) := by decide +kernel
theorem dX1_execute_322 : decode cX1_execute 322 = .ok (.aload_n 0, 1) := by decide +kernel
theorem dX1_execute_323 : decode cX1_execute 323 = .ok (.iload_n 2, 1) := by decide +kernel
theorem dX1_execute_324 : decode cX1_execute 324 = .ok (.iload 4, 2) := by decide +kernel
theorem dX1_execute_326 : decode cX1_execute 326 = .ok (.invokevirtual 95, 3) := by decide +kernel
theorem dX1_execute_329 : decode cX1_execute 329 = .ok (.goto 10, 3) := by decide +kernel
theorem dX1_execute_332 : decode cX1_execute 332 = .ok (.aload_n 0, 1) := by decide +kernel
theorem dX1_execute_333 : decode cX1_execute 333 = .ok (.iload_n 2, 1) := by decide +kernel
theorem dX1_execute_334 : decode cX1_execute 334 = .ok (.iload 4, 2) := by decide +kernel
theorem dX1_execute_336 : decode cX1_execute 336 = .ok (.invokevirtual 99, 3) := by decide +kernel
theorem dX1_execute_339 : decode cX1_execute 339 = .ok (.ireturn, 1) := by decide +kernel
theorem dX1_clearOrLeave_0 : decode cX1_clearOrLeave 0 = .ok (.iload_n 1, 1) := by decide +kernel
theorem dX1_clearOrLeave_1 : decode cX1_clearOrLeave 1 = .ok (.sipush 224, 3) := by decide +kernel
theorem dX1_clearOrLeave_4 : decode cX1_clearOrLeave 4 = .ok (.if_icmp .ne 9, 3) := by decide +kernel
theorem dX1_clearOrLeave_7 : decode cX1_clearOrLeave 7 = .ok (.aload_n 0, 1) := by decide +kernel
theorem dX1_clearOrLeave_8 : decode cX1_clearOrLeave 8 = .ok (.invokevirtual 102, 3) := by decide +kernel
theorem dX1_clearOrLeave_11 : decode cX1_clearOrLeave 11 = .ok (.iconst 0, 1) := by decide +kernel
theorem dX1_clearOrLeave_12 : decode cX1_clearOrLeave 12 = .ok (.ireturn, 1) := by decide +kernel
theorem dX1_clearOrLeave_13 : decode cX1_clearOrLeave 13 = .ok (.iload_n 1, 1) := by decide +kernel
theorem dX1_clearOrLeave_14 : decode cX1_clearOrLeave 14 = .ok (.sipush 238, 3) := by decide +kernel
theorem dX1_clearOrLeave_17 : decode cX1_clearOrLeave 17 = .ok (.if_icmp .ne 10, 3) := by decide +kernel
theorem dX1_clearOrLeave_20 : decode cX1_clearOrLeave 20 = .ok (.aload_n 0, 1) := by decide +kernel
theorem dX1_clearOrLeave_21 : decode cX1_clearOrLeave 21 = .ok (.invokevirtual 105, 3) := by decide +kernel
theorem dX1_clearOrLeave_24 : decode cX1_clearOrLeave 24 = .ok (.goto 4, 3) := by decide +kernel
theorem dX1_clearOrLeave_27 : decode cX1_clearOrLeave 27 = .ok (.iconst 2, 1) := by decide +kernel
theorem dX1_clearOrLeave_28 : decode cX1_clearOrLeave 28 = .ok (.ireturn, 1) := by decide +kernel
theorem dX1_clear_0 : decode cX1_clear 0 = .ok (.iconst 0, 1) := by decide +kernel
theorem dX1_clear_1 : decode cX1_clear 1 = .ok (.istore_n 1, 1) := by decide +kernel
theorem dX1_clear_2 : decode cX1_clear 2 = .ok (.iload_n 1, 1) := by decide +kernel
theorem dX1_clear_3 : decode cX1_clear 3 = .ok (.sipush 256, 3) := by decide +kernel
theorem dX1_clear_6 : decode cX1_clear 6 = .ok (.if_icmp .ge 22, 3) := by decide +kernel
theorem dX1_clear_9 : decode cX1_clear 9 = .ok (.aload_n 0, 1) := by decide +kernel
theorem dX1_clear_10 : decode cX1_clear 10 = .ok (.getfield 20, 3) := by decide +kernel
theorem dX1_clear_13 : decode cX1_clear 13 = .ok (.sipush 1792, 3) := by decide +kernel
theorem dX1_clear_16 : decode cX1_clear 16 = .ok (.iload_n 1, 1) := by decide +kernel
theorem dX1_clear_17 : decode cX1_clear 17 = .ok (.iadd, 1) := by decide +kernel
theorem dX1_clear_18 : decode cX1_clear 18 = .ok (.iconst 0, 1) := by decide +kernel
theorem dX1_clear_19 : decode cX1_clear 19 = .ok (.invokevirtual 109, 3) := by decide +kernel
theorem dX1_clear_22 : decode cX1_clear 22 = .ok (.iinc 1 1, 3) := by decide +kernel
theorem dX1_clear_25 : decode cX1_clear 25 = .ok (.goto (-23), 3) := by decide +kernel
theorem dX1_clear_28 : decode cX1_clear 28 = .ok (.return_, 1) := by decide +kernel
theorem dX1_leave_0 : decode cX1_leave 0 = .ok (.aload_n 0, 1) := by decide +kernel
theorem dX1_leave_1 : decode cX1_leave 1 = .ok (.getfield 32, 3) := by decide +kernel
theorem dX1_leave_4 : decode cX1_leave 4 = .ok (.ifCond .le 12, 3) := by decide +kernel
theorem dX1_leave_7 : decode cX1_leave 7 = .ok (.aload_n 0, 1) := by decide +kernel
theorem dX1_leave_8 : decode cX1_leave 8 = .ok (.getfield 32, 3) := by decide +kernel
theorem dX1_leave_11 : decode cX1_leave 11 = .ok (.bipush 12, 2) := by decide +kernel
theorem dX1_leave_13 : decode cX1_leave 13 = .ok (.if_icmp .le 5, 3) := by decide +kernel
theorem dX1_leave_16 : decode cX1_leave 16 = .ok (.iconst 3, 1) := by decide +kernel
theorem dX1_leave_17 : decode cX1_leave 17 = .ok (.ireturn, 1) := by decide +kernel
theorem dX1_leave_18 : decode cX1_leave 18 = .ok (.aload_n 0, 1) := by decide +kernel
theorem dX1_leave_19 : decode cX1_leave 19 = .ok (.dup, 1) := by decide +kernel
theorem dX1_leave_20 : decode cX1_leave 20 = .ok (.getfield 32, 3) := by decide +kernel
theorem dX1_leave_23 : decode cX1_leave 23 = .ok (.iconst 1, 1) := by decide +kernel
theorem dX1_leave_24 : decode cX1_leave 24 = .ok (.isub, 1) := by decide +kernel
theorem dX1_leave_25 : decode cX1_leave 25 = .ok (.putfield 32, 3) := by decide +kernel
theorem dX1_leave_28 : decode cX1_leave 28 = .ok (.aload_n 0, 1) := by decide +kernel
theorem dX1_leave_29 : decode cX1_leave 29 = .ok (.aload_n 0, 1) := by decide +kernel
theorem dX1_leave_30 : decode cX1_leave 30 = .ok (.getfield 13, 3) := by decide +kernel
theorem dX1_leave_33 : decode cX1_leave 33 = .ok (.aload_n 0, 1) := by decide +kernel
theorem dX1_leave_34 : decode cX1_leave 34 = .ok (.getfield 32, 3) := by decide +kernel
theorem dX1_leave_37 : decode cX1_leave 37 = .ok (.iaload, 1) := by decide +kernel
theorem dX1_leave_38 : decode cX1_leave 38 = .ok (.invokevirtual 50, 3) := by decide +kernel
theorem dX1_leave_41 : decode cX1_leave 41 = .ok (.iconst 0, 1) := by decide +kernel
theorem dX1_leave_42 : decode cX1_leave 42 = .ok (.ireturn, 1) := by decide +kernel
theorem dX1_enter_0 : decode cX1_enter 0 = .ok (.aload_n 0, 1) := by decide +kernel
theorem dX1_enter_1 : decode cX1_enter 1 = .ok (.getfield 32, 3) := by decide +kernel
theorem dX1_enter_4 : decode cX1_enter 4 = .ok (.ifCond .lt 12, 3) := by decide +kernel
theorem dX1_enter_7 : decode cX1_enter 7 = .ok (.aload_n 0, 1) := by decide +kernel
theorem dX1_enter_8 : decode cX1_enter 8 = .ok (.getfield 32, 3) := by decide +kernel
theorem dX1_enter_11 : decode cX1_enter 11 = .ok (.bipush 12, 2) := by decide +kernel
theorem dX1_enter_13 : decode cX1_enter 13 = .ok (.if_icmp .lt 5, 3) := by decide +kernel
theorem dX1_enter_16 : decode cX1_enter 16 = .ok (.iconst 3, 1) := by decide +kernel
theorem dX1_enter_17 : decode cX1_enter 17 = .ok (.ireturn, 1) := by decide +kernel
theorem dX1_enter_18 : decode cX1_enter 18 = .ok (.aload_n 0, 1) := by decide +kernel
theorem dX1_enter_19 : decode cX1_enter 19 = .ok (.getfield 13, 3) := by decide +kernel
theorem dX1_enter_22 : decode cX1_enter 22 = .ok (.aload_n 0, 1) := by decide +kernel
theorem dX1_enter_23 : decode cX1_enter 23 = .ok (.getfield 32, 3) := by decide +kernel
theorem dX1_enter_26 : decode cX1_enter 26 = .ok (.aload_n 0, 1) := by decide +kernel
theorem dX1_enter_27 : decode cX1_enter 27 = .ok (.getfield 16, 3) := by decide +kernel
theorem dX1_enter_30 : decode cX1_enter 30 = .ok (.iastore, 1) := by decide +kernel
theorem dX1_enter_31 : decode cX1_enter 31 = .ok (.aload_n 0, 1) := by decide +kernel
theorem dX1_enter_32 : decode cX1_enter 32 = .ok (.dup, 1) := by decide +kernel
theorem dX1_enter_33 : decode cX1_enter 33 = .ok (.getfield 32, 3) := by decide +kernel
theorem dX1_enter_36 : decode cX1_enter 36 = .ok (.iconst 1, 1) := by decide +kernel
theorem dX1_enter_37 : decode cX1_enter 37 = .ok (.iadd, 1) := by decide +kernel
theorem dX1_enter_38 : decode cX1_enter 38 = .ok (.putfield 32, 3) := by decide +kernel
theorem dX1_enter_41 : decode cX1_enter 41 = .ok (.aload_n 0, 1) := by decide +kernel
theorem dX1_enter_42 : decode cX1_enter 42 = .ok (.iload_n 1, 1) := by decide +kernel
theorem dX1_enter_43 : decode cX1_enter 43 = .ok (.invokevirtual 50, 3) := by decide +kernel
theorem dX1_enter_46 : decode cX1_enter 46 = .ok (.iconst 0, 1) := by decide +kernel
theorem dX1_enter_47 : decode cX1_enter 47 = .ok (.ireturn, 1) := by decide +kernel
theorem dX1_compare_0 : decode cX1_compare 0 = .ok (.iload_n 1, 1) := by decide +kernel
theorem dX1_compare_1 : decode cX1_compare 1 = .ok (.bipush 15, 2) := by decide +kernel
theorem dX1_compare_3 : decode cX1_compare 3 = .ok (.iand, 1) := by decide +kernel
theorem dX1_compare_4 : decode cX1_compare 4 = .ok (.ifCond .eq 5, 3) := by decide +kernel
theorem dX1_compare_7 : decode cX1_compare 7 = .ok (.iconst 2, 1) := by decide +kernel
theorem dX1_compare_8 : decode cX1_compare 8 = .ok (.ireturn, 1) := by decide +kernel
theorem dX1_compare_9 : decode cX1_compare 9 = .ok (.aload_n 0, 1) := by decide +kernel
theorem dX1_compare_10 : decode cX1_compare 10 = .ok (.iload_n 1, 1) := by decide +kernel
theorem dX1_compare_11 : decode cX1_compare 11 = .ok (.bipush 12, 2) := by decide +kernel
theorem dX1_compare_13 : decode cX1_compare 13 = .ok (.ishr, 1) := by decide +kernel
theorem dX1_compare_14 : decode cX1_compare 14 = .ok (.iconst 5, 1) := by decide +kernel
theorem dX1_compare_15 : decode cX1_compare 15 = .ok (.if_icmp .ne 7, 3) := by decide +kernel
theorem dX1_compare_18 : decode cX1_compare 18 = .ok (.iload_n 2, 1) := by decide +kernel
theorem dX1_compare_19 : decode cX1_compare 19 = .ok (.goto 12, 3) := by decide +kernel
theorem dX1_compare_22 : decode cX1_compare 22 = .ok (.iload_n 2, 1) := by decide +kernel
theorem dX1_compare_23 : decode cX1_compare 23 = .ok (.ifCond .ne 7, 3) := by decide +kernel
theorem dX1_compare_26 : decode cX1_compare 26 = .ok (.iconst 1, 1) := by decide +kernel
theorem dX1_compare_27 : decode cX1_compare 27 = .ok (.goto 4, 3) := by decide +kernel
theorem dX1_compare_30 : decode cX1_compare 30 = .ok (.iconst 0, 1) := by decide +kernel
theorem dX1_compare_31 : decode cX1_compare 31 = .ok (.invokevirtual 63, 3) := by decide +kernel
theorem dX1_compare_34 : decode cX1_compare 34 = .ok (.ireturn, 1) := by decide +kernel
theorem dX1_combine_0 : decode cX1_combine 0 = .ok (.aload_n 0, 1) := by decide +kernel
theorem dX1_combine_1 : decode cX1_combine 1 = .ok (.iload_n 2, 1) := by decide +kernel
theorem dX1_combine_2 : decode cX1_combine 2 = .ok (.invokevirtual 41, 3) := by decide +kernel
theorem dX1_combine_5 : decode cX1_combine 5 = .ok (.istore 4, 2) := by decide +kernel
theorem dX1_combine_7 : decode cX1_combine 7 = .ok (.iload_n 1, 1) := by decide +kernel
theorem dX1_combine_8 : decode cX1_combine 8 = .ok (.tableswitch 225 0 14 #[76, 84, 95, 106, 117, 142, 163, 184, 225, 225, 225, 225, 225, 225, 205], 76) := by decide +kernel
theorem dX1_combine_84 : decode cX1_combine 84 = .ok (.aload_n 0, 1) := by decide +kernel
theorem dX1_combine_85 : decode cX1_combine 85 = .ok (.iload_n 2, 1) := by decide +kernel
theorem dX1_combine_86 : decode cX1_combine 86 = .ok (.iload_n 3, 1) := by decide +kernel
theorem dX1_combine_87 : decode cX1_combine 87 = .ok (.invokevirtual 71, 3) := by decide +kernel
theorem dX1_combine_90 : decode cX1_combine 90 = .ok (.iconst 0, 1) := by decide +kernel
theorem dX1_combine_91 : decode cX1_combine 91 = .ok (.ireturn, 1) := by decide +kernel
theorem dX1_combine_92 : decode cX1_combine 92 = .ok (.aload_n 0, 1) := by decide +kernel
theorem dX1_combine_93 : decode cX1_combine 93 = .ok (.iload_n 2, 1) := by decide +kernel
theorem dX1_combine_94 : decode cX1_combine 94 = .ok (.iload 4, 2) := by decide +kernel
theorem dX1_combine_96 : decode cX1_combine 96 = .ok (.iload_n 3, 1) := by decide +kernel
theorem dX1_combine_97 : decode cX1_combine 97 = .ok (.ior, 1) := by decide +kernel
theorem dX1_combine_98 : decode cX1_combine 98 = .ok (.invokevirtual 71, 3) := by decide +kernel
theorem dX1_combine_101 : decode cX1_combine 101 = .ok (.iconst 0, 1) := by decide +kernel
theorem dX1_combine_102 : decode cX1_combine 102 = .ok (.ireturn, 1) := by decide +kernel
theorem dX1_combine_103 : decode cX1_combine 103 = .ok (.aload_n 0, 1) := by decide +kernel
theorem dX1_combine_104 : decode cX1_combine 104 = .ok (.iload_n 2, 1) := by decide +kernel
theorem dX1_combine_105 : decode cX1_combine 105 = .ok (.iload 4, 2) := by decide +kernel
theorem dX1_combine_107 : decode cX1_combine 107 = .ok (.iload_n 3, 1) := by decide +kernel
theorem dX1_combine_108 : decode cX1_combine 108 = .ok (.iand, 1) := by decide +kernel
theorem dX1_combine_109 : decode cX1_combine 109 = .ok (.invokevirtual 71, 3) := by decide +kernel
theorem dX1_combine_112 : decode cX1_combine 112 = .ok (.iconst 0, 1) := by decide +kernel
theorem dX1_combine_113 : decode cX1_combine 113 = .ok (.ireturn, 1) := by decide +kernel
theorem dX1_combine_114 : decode cX1_combine 114 = .ok (.aload_n 0, 1) := by decide +kernel
theorem dX1_combine_115 : decode cX1_combine 115 = .ok (.iload_n 2, 1) := by decide +kernel
theorem dX1_combine_116 : decode cX1_combine 116 = .ok (.iload 4, 2) := by decide +kernel
theorem dX1_combine_118 : decode cX1_combine 118 = .ok (.iload_n 3, 1) := by decide +kernel
theorem dX1_combine_119 : decode cX1_combine 119 = .ok (.ixor, 1) := by decide +kernel
theorem dX1_combine_120 : decode cX1_combine 120 = .ok (.invokevirtual 71, 3) := by decide +kernel
theorem dX1_combine_123 : decode cX1_combine 123 = .ok (.iconst 0, 1) := by decide +kernel
theorem dX1_combine_124 : decode cX1_combine 124 = .ok (.ireturn, 1) := by decide +kernel
theorem dX1_combine_125 : decode cX1_combine 125 = .ok (.aload_n 0, 1) := by decide +kernel
theorem dX1_combine_126 : decode cX1_combine 126 = .ok (.iload_n 2, 1) := by decide +kernel
theorem dX1_combine_127 : decode cX1_combine 127 = .ok (.iload 4, 2) := by decide +kernel
theorem dX1_combine_129 : decode cX1_combine 129 = .ok (.iload_n 3, 1) := by decide +kernel
theorem dX1_combine_130 : decode cX1_combine 130 = .ok (.iadd, 1) := by decide +kernel
theorem dX1_combine_131 : decode cX1_combine 131 = .ok (.iload 4, 2) := by decide +kernel
theorem dX1_combine_133 : decode cX1_combine 133 = .ok (.iload_n 3, 1) := by decide +kernel
theorem dX1_combine_134 : decode cX1_combine 134 = .ok (.iadd, 1) := by decide +kernel
theorem dX1_combine_135 : decode cX1_combine 135 = .ok (.sipush 255, 3) := by decide +kernel
theorem dX1_combine_138 : decode cX1_combine 138 = .ok (.if_icmp .le 7, 3) := by decide +kernel
theorem dX1_combine_141 : decode cX1_combine 141 = .ok (.iconst 1, 1) := by decide +kernel
theorem dX1_combine_142 : decode cX1_combine 142 = .ok (.goto 4, 3) := by decide +kernel
theorem dX1_combine_145 : decode cX1_combine 145 = .ok (.iconst 0, 1) := by decide +kernel
theorem dX1_combine_146 : decode cX1_combine 146 = .ok (.invokevirtual 112, 3) := by decide +kernel
theorem dX1_combine_149 : decode cX1_combine 149 = .ok (.ireturn, 1) := by decide +kernel
theorem dX1_combine_150 : decode cX1_combine 150 = .ok (.aload_n 0, 1) := by decide +kernel
theorem dX1_combine_151 : decode cX1_combine 151 = .ok (.iload_n 2, 1) := by decide +kernel
theorem dX1_combine_152 : decode cX1_combine 152 = .ok (.iload 4, 2) := by decide +kernel
theorem dX1_combine_154 : decode cX1_combine 154 = .ok (.iload_n 3, 1) := by decide +kernel
theorem dX1_combine_155 : decode cX1_combine 155 = .ok (.isub, 1) := by decide +kernel
theorem dX1_combine_156 : decode cX1_combine 156 = .ok (.iload 4, 2) := by decide +kernel
theorem dX1_combine_158 : decode cX1_combine 158 = .ok (.iload_n 3, 1) := by decide +kernel
theorem dX1_combine_159 : decode cX1_combine 159 = .ok (.if_icmp .lt 7, 3) := by decide +kernel
theorem dX1_combine_162 : decode cX1_combine 162 = .ok (.iconst 1, 1) := by decide +kernel
theorem dX1_combine_163 : decode cX1_combine 163 = .ok (.goto 4, 3) := by decide +kernel
theorem dX1_combine_166 : decode cX1_combine 166 = .ok (.iconst 0, 1) := by decide +kernel
theorem dX1_combine_167 : decode cX1_combine 167 = .ok (.invokevirtual 112, 3) := by decide +kernel
theorem dX1_combine_170 : decode cX1_combine 170 = .ok (.ireturn, 1) := by decide +kernel
theorem dX1_combine_171 : decode cX1_combine 171 = .ok (.aload_n 0, 1) := by decide +kernel
theorem dX1_combine_172 : decode cX1_combine 172 = .ok (.iload_n 2, 1) := by decide +kernel
theorem dX1_combine_173 : decode cX1_combine 173 = .ok (.iload_n 3, 1) := by decide +kernel
theorem dX1_combine_174 : decode cX1_combine 174 = .ok (.iconst 1, 1) := by decide +kernel
theorem dX1_combine_175 : decode cX1_combine 175 = .ok (.ishr, 1) := by decide +kernel
theorem dX1_combine_176 : decode cX1_combine 176 = .ok (.iload_n 3, 1) := by decide +kernel
theorem dX1_combine_177 : decode cX1_combine 177 = .ok (.iconst 1, 1) := by decide +kernel
theorem dX1_combine_178 : decode cX1_combine 178 = .ok (.iand, 1) := by decide +kernel
theorem dX1_combine_179 : decode cX1_combine 179 = .ok (.iconst 1, 1) := by decide +kernel
theorem dX1_combine_180 : decode cX1_combine 180 = .ok (.if_icmp .ne 7, 3) := by decide +kernel
theorem dX1_combine_183 : decode cX1_combine 183 = .ok (.iconst 1, 1) := by decide +kernel
theorem dX1_combine_184 : decode cX1_combine 184 = .ok (.goto 4, 3) := by decide +kernel
theorem dX1_combine_187 : decode cX1_combine 187 = .ok (.iconst 0, 1) := by decide +kernel
theorem dX1_combine_188 : decode cX1_combine 188 = .ok (.invokevirtual 112, 3) := by decide +kernel
theorem dX1_combine_191 : decode cX1_combine 191 = .ok (.ireturn, 1) := by decide +kernel
theorem dX1_combine_192 : decode cX1_combine 192 = .ok (.aload_n 0, 1) := by decide +kernel
theorem dX1_combine_193 : decode cX1_combine 193 = .ok (.iload_n 2, 1) := by decide +kernel
theorem dX1_combine_194 : decode cX1_combine 194 = .ok (.iload_n 3, 1) := by decide +kernel
theorem dX1_combine_195 : decode cX1_combine 195 = .ok (.iload 4, 2) := by decide +kernel
theorem dX1_combine_197 : decode cX1_combine 197 = .ok (.isub, 1) := by decide +kernel
theorem dX1_combine_198 : decode cX1_combine 198 = .ok (.iload_n 3, 1) := by decide +kernel
theorem dX1_combine_199 : decode cX1_combine 199 = .ok (.iload 4, 2) := by decide +kernel
theorem dX1_combine_201 : decode cX1_combine 201 = .ok (.if_icmp .lt 7, 3) := by decide +kernel
theorem dX1_combine_204 : decode cX1_combine 204 = .ok (.iconst 1, 1) := by decide +kernel
theorem dX1_combine_205 : decode cX1_combine 205 = .ok (.goto 4, 3) := by decide +kernel
theorem dX1_combine_208 : decode cX1_combine 208 = .ok (.iconst 0, 1) := by decide +kernel
theorem dX1_combine_209 : decode cX1_combine 209 = .ok (.invokevirtual 112, 3) := by decide +kernel
theorem dX1_combine_212 : decode cX1_combine 212 = .ok (.ireturn, 1) := by decide +kernel
theorem dX1_combine_213 : decode cX1_combine 213 = .ok (.aload_n 0, 1) := by decide +kernel
theorem dX1_combine_214 : decode cX1_combine 214 = .ok (.iload_n 2, 1) := by decide +kernel
theorem dX1_combine_215 : decode cX1_combine 215 = .ok (.iload_n 3, 1) := by decide +kernel
theorem dX1_combine_216 : decode cX1_combine 216 = .ok (.iconst 1, 1) := by decide +kernel
theorem dX1_combine_217 : decode cX1_combine 217 = .ok (.ishl, 1) := by decide +kernel
theorem dX1_combine_218 : decode cX1_combine 218 = .ok (.iload_n 3, 1) := by decide +kernel
theorem dX1_combine_219 : decode cX1_combine 219 = .ok (.bipush 127, 2) := by decide +kernel
theorem dX1_combine_221 : decode cX1_combine 221 = .ok (.if_icmp .le 7, 3) := by decide +kernel
theorem dX1_combine_224 : decode cX1_combine 224 = .ok (.iconst 1, 1) := by decide +kernel
theorem dX1_combine_225 : decode cX1_combine 225 = .ok (.goto 4, 3) := by decide +kernel
theorem dX1_combine_228 : decode cX1_combine 228 = .ok (.iconst 0, 1) := by decide +kernel
theorem dX1_combine_229 : decode cX1_combine 229 = .ok (.invokevirtual 112, 3) := by decide +kernel
theorem dX1_combine_232 : decode cX1_combine 232 = .ok (.ireturn, 1) := by decide +kernel
theorem dX1_combine_233 : decode cX1_combine 233 = .ok (.iconst 2, 1) := by decide +kernel
theorem dX1_combine_234 : decode cX1_combine 234 = .ok (.ireturn, 1) := by decide +kernel
theorem dX1_putWithFlag_0 : decode cX1_putWithFlag 0 = .ok (.aload_n 0, 1) := by decide +kernel
theorem dX1_putWithFlag_1 : decode cX1_putWithFlag 1 = .ok (.iload_n 1, 1) := by decide +kernel
theorem dX1_putWithFlag_2 : decode cX1_putWithFlag 2 = .ok (.iload_n 2, 1) := by decide +kernel
theorem dX1_putWithFlag_3 : decode cX1_putWithFlag 3 = .ok (.invokevirtual 71, 3) := by decide +kernel
theorem dX1_putWithFlag_6 : decode cX1_putWithFlag 6 = .ok (.aload_n 0, 1) := by decide +kernel
theorem dX1_putWithFlag_7 : decode cX1_putWithFlag 7 = .ok (.bipush 15, 2) := by decide +kernel
theorem dX1_putWithFlag_9 : decode cX1_putWithFlag 9 = .ok (.iload_n 3, 1) := by decide +kernel
theorem dX1_putWithFlag_10 : decode cX1_putWithFlag 10 = .ok (.ifCond .eq 7, 3) := by decide +kernel
theorem dX1_putWithFlag_13 : decode cX1_putWithFlag 13 = .ok (.iconst 1, 1) := by decide +kernel
theorem dX1_putWithFlag_14 : decode cX1_putWithFlag 14 = .ok (.goto 4, 3) := by decide +kernel
theorem dX1_putWithFlag_17 : decode cX1_putWithFlag 17 = .ok (.iconst 0, 1) := by decide +kernel
theorem dX1_putWithFlag_18 : decode cX1_putWithFlag 18 = .ok (.invokevirtual 71, 3) := by decide +kernel
theorem dX1_putWithFlag_21 : decode cX1_putWithFlag 21 = .ok (.iconst 0, 1) := by decide +kernel
theorem dX1_putWithFlag_22 : decode cX1_putWithFlag 22 = .ok (.ireturn, 1) := by decide +kernel
theorem dX1_skipByKey_0 : decode cX1_skipByKey 0 = .ok (.iload_n 1, 1) := by decide +kernel
theorem dX1_skipByKey_1 : decode cX1_skipByKey 1 = .ok (.sipush 158, 3) := by decide +kernel
theorem dX1_skipByKey_4 : decode cX1_skipByKey 4 = .ok (.if_icmp .ne 9, 3) := by decide +kernel
theorem dX1_skipByKey_7 : decode cX1_skipByKey 7 = .ok (.aload_n 0, 1) := by decide +kernel
theorem dX1_skipByKey_8 : decode cX1_skipByKey 8 = .ok (.iload_n 2, 1) := by decide +kernel
theorem dX1_skipByKey_9 : decode cX1_skipByKey 9 = .ok (.invokevirtual 63, 3) := by decide +kernel
theorem dX1_skipByKey_12 : decode cX1_skipByKey 12 = .ok (.ireturn, 1) := by decide +kernel
theorem dX1_skipByKey_13 : decode cX1_skipByKey 13 = .ok (.iload_n 1, 1) := by decide +kernel
theorem dX1_skipByKey_14 : decode cX1_skipByKey 14 = .ok (.sipush 161, 3) := by decide +kernel
theorem dX1_skipByKey_17 : decode cX1_skipByKey 17 = .ok (.if_icmp .ne 19, 3) := by decide +kernel
theorem dX1_skipByKey_20 : decode cX1_skipByKey 20 = .ok (.aload_n 0, 1) := by decide +kernel
theorem dX1_skipByKey_21 : decode cX1_skipByKey 21 = .ok (.iload_n 2, 1) := by decide +kernel
theorem dX1_skipByKey_22 : decode cX1_skipByKey 22 = .ok (.ifCond .ne 7, 3) := by decide +kernel
theorem dX1_skipByKey_25 : decode cX1_skipByKey 25 = .ok (.iconst 1, 1) := by decide +kernel
theorem dX1_skipByKey_26 : decode cX1_skipByKey 26 = .ok (.goto 4, 3) := by decide +kernel
theorem dX1_skipByKey_29 : decode cX1_skipByKey 29 = .ok (.iconst 0, 1) := by decide +kernel
theorem dX1_skipByKey_30 : decode cX1_skipByKey 30 = .ok (.invokevirtual 63, 3) := by decide +kernel
theorem dX1_skipByKey_33 : decode cX1_skipByKey 33 = .ok (.goto 4, 3) := by decide +kernel
theorem dX1_skipByKey_36 : decode cX1_skipByKey 36 = .ok (.iconst 2, 1) := by decide +kernel
theorem dX1_skipByKey_37 : decode cX1_skipByKey 37 = .ok (.ireturn, 1) := by decide +kernel
theorem dX1_executeSystem_0 : decode cX1_executeSystem 0 = .ok (.iload_n 2, 1) := by decide +kernel
theorem dX1_executeSystem_1 : decode cX1_executeSystem 1 = .ok (.lookupswitch 139 #[(7, 59), (10, 73), (21, 79), (24, 93), (30, 107), (41, 123)], 59) := by decide +kernel
theorem dX1_executeSystem_60 : decode cX1_executeSystem 60 = .ok (.aload_n 0, 1) := by decide +kernel
theorem dX1_executeSystem_61 : decode cX1_executeSystem 61 = .ok (.iload_n 1, 1) := by decide +kernel
theorem dX1_executeSystem_62 : decode cX1_executeSystem 62 = .ok (.aload_n 0, 1) := by decide +kernel
theorem dX1_executeSystem_63 : decode cX1_executeSystem 63 = .ok (.getfield 28, 3) := by decide +kernel
theorem dX1_executeSystem_66 : decode cX1_executeSystem 66 = .ok (.invokevirtual 116, 3) := by decide +kernel
theorem dX1_executeSystem_69 : decode cX1_executeSystem 69 = .ok (.invokevirtual 71, 3) := by decide +kernel
theorem dX1_executeSystem_72 : decode cX1_executeSystem 72 = .ok (.iconst 0, 1) := by decide +kernel
theorem dX1_executeSystem_73 : decode cX1_executeSystem 73 = .ok (.ireturn, 1) := by decide +kernel
theorem dX1_executeSystem_74 : decode cX1_executeSystem 74 = .ok (.aload_n 0, 1) := by decide +kernel
theorem dX1_executeSystem_75 : decode cX1_executeSystem 75 = .ok (.iload_n 1, 1) := by decide +kernel
theorem dX1_executeSystem_76 : decode cX1_executeSystem 76 = .ok (.invokevirtual 121, 3) := by decide +kernel
theorem dX1_executeSystem_79 : decode cX1_executeSystem 79 = .ok (.ireturn, 1) := by decide +kernel
theorem dX1_executeSystem_80 : decode cX1_executeSystem 80 = .ok (.aload_n 0, 1) := by decide +kernel
theorem dX1_executeSystem_81 : decode cX1_executeSystem 81 = .ok (.getfield 28, 3) := by decide +kernel
theorem dX1_executeSystem_84 : decode cX1_executeSystem 84 = .ok (.aload_n 0, 1) := by decide +kernel
theorem dX1_executeSystem_85 : decode cX1_executeSystem 85 = .ok (.iload_n 1, 1) := by decide +kernel
theorem dX1_executeSystem_86 : decode cX1_executeSystem 86 = .ok (.invokevirtual 41, 3) := by decide +kernel
theorem dX1_executeSystem_89 : decode cX1_executeSystem 89 = .ok (.invokevirtual 124, 3) := by decide +kernel
theorem dX1_executeSystem_92 : decode cX1_executeSystem 92 = .ok (.iconst 0, 1) := by decide +kernel
theorem dX1_executeSystem_93 : decode cX1_executeSystem 93 = .ok (.ireturn, 1) := by decide +kernel
theorem dX1_executeSystem_94 : decode cX1_executeSystem 94 = .ok (.aload_n 0, 1) := by decide +kernel
theorem dX1_executeSystem_95 : decode cX1_executeSystem 95 = .ok (.getfield 28, 3) := by decide +kernel
theorem dX1_executeSystem_98 : decode cX1_executeSystem 98 = .ok (.aload_n 0, 1) := by decide +kernel
theorem dX1_executeSystem_99 : decode cX1_executeSystem 99 = .ok (.iload_n 1, 1) := by decide +kernel
theorem dX1_executeSystem_100 : decode cX1_executeSystem 100 = .ok (.invokevirtual 41, 3) := by decide +kernel
theorem dX1_executeSystem_103 : decode cX1_executeSystem 103 = .ok (.invokevirtual 127, 3) := by decide +kernel
theorem dX1_executeSystem_106 : decode cX1_executeSystem 106 = .ok (.iconst 0, 1) := by decide +kernel
theorem dX1_executeSystem_107 : decode cX1_executeSystem 107 = .ok (.ireturn, 1) := by decide +kernel
theorem dX1_executeSystem_108 : decode cX1_executeSystem 108 = .ok (.aload_n 0, 1) := by decide +kernel
theorem dX1_executeSystem_109 : decode cX1_executeSystem 109 = .ok (.aload_n 0, 1) := by decide +kernel
theorem dX1_executeSystem_110 : decode cX1_executeSystem 110 = .ok (.getfield 35, 3) := by decide +kernel
theorem dX1_executeSystem_113 : decode cX1_executeSystem 113 = .ok (.aload_n 0, 1) := by decide +kernel
theorem dX1_executeSystem_114 : decode cX1_executeSystem 114 = .ok (.iload_n 1, 1) := by decide +kernel
theorem dX1_executeSystem_115 : decode cX1_executeSystem 115 = .ok (.invokevirtual 41, 3) := by decide +kernel
theorem dX1_executeSystem_118 : decode cX1_executeSystem 118 = .ok (.iadd, 1) := by decide +kernel
theorem dX1_executeSystem_119 : decode cX1_executeSystem 119 = .ok (.invokevirtual 79, 3) := by decide +kernel
theorem dX1_executeSystem_122 : decode cX1_executeSystem 122 = .ok (.iconst 0, 1) := by decide +kernel
theorem dX1_executeSystem_123 : decode cX1_executeSystem 123 = .ok (.ireturn, 1) := by decide +kernel
theorem dX1_executeSystem_124 : decode cX1_executeSystem 124 = .ok (.aload_n 0, 1) := by decide +kernel
theorem dX1_executeSystem_125 : decode cX1_executeSystem 125 = .ok (.iconst 5, 1) := by decide +kernel
theorem dX1_executeSystem_126 : decode cX1_executeSystem 126 = .ok (.aload_n 0, 1) := by decide +kernel
theorem dX1_executeSystem_127 : decode cX1_executeSystem 127 = .ok (.iload_n 1, 1) := by decide +kernel
theorem dX1_executeSystem_128 : decode cX1_executeSystem 128 = .ok (.invokevirtual 41, 3) := by decide +kernel
theorem dX1_executeSystem_131 : decode cX1_executeSystem 131 = .ok (.bipush 15, 2) := by decide +kernel
theorem dX1_executeSystem_133 : decode cX1_executeSystem 133 = .ok (.iand, 1) := by decide +kernel
theorem dX1_executeSystem_134 : decode cX1_executeSystem 134 = .ok (.imul, 1) := by decide +kernel
theorem dX1_executeSystem_135 : decode cX1_executeSystem 135 = .ok (.invokevirtual 79, 3) := by decide +kernel
theorem dX1_executeSystem_138 : decode cX1_executeSystem 138 = .ok (.iconst 0, 1) := by decide +kernel
theorem dX1_executeSystem_139 : decode cX1_executeSystem 139 = .ok (.ireturn, 1) := by decide +kernel
theorem dX1_executeSystem_140 : decode cX1_executeSystem 140 = .ok (.iconst 2, 1) := by decide +kernel
theorem dX1_executeSystem_141 : decode cX1_executeSystem 141 = .ok (.ireturn, 1) := by decide +kernel
theorem dX1_takeKey_0 : decode cX1_takeKey 0 = .ok (.aload_n 0, 1) := by decide +kernel
theorem dX1_takeKey_1 : decode cX1_takeKey 1 = .ok (.getfield 24, 3) := by decide +kernel
theorem dX1_takeKey_4 : decode cX1_takeKey 4 = .ok (.invokevirtual 130, 3) := by decide +kernel
theorem dX1_takeKey_7 : decode cX1_takeKey 7 = .ok (.istore_n 2, 1) := by decide +kernel
theorem dX1_takeKey_8 : decode cX1_takeKey 8 = .ok (.iload_n 2, 1) := by decide +kernel
theorem dX1_takeKey_9 : decode cX1_takeKey 9 = .ok (.ifCond .ge 5, 3) := by decide +kernel
theorem dX1_takeKey_12 : decode cX1_takeKey 12 = .ok (.iconst 1, 1) := by decide +kernel
theorem dX1_takeKey_13 : decode cX1_takeKey 13 = .ok (.ireturn, 1) := by decide +kernel
theorem dX1_takeKey_14 : decode cX1_takeKey 14 = .ok (.aload_n 0, 1) := by decide +kernel
theorem dX1_takeKey_15 : decode cX1_takeKey 15 = .ok (.iload_n 1, 1) := by decide +kernel
theorem dX1_takeKey_16 : decode cX1_takeKey 16 = .ok (.iload_n 2, 1) := by decide +kernel
theorem dX1_takeKey_17 : decode cX1_takeKey 17 = .ok (.invokevirtual 71, 3) := by decide +kernel
theorem dX1_takeKey_20 : decode cX1_takeKey 20 = .ok (.iconst 0, 1) := by decide +kernel
theorem dX1_takeKey_21 : decode cX1_takeKey 21 = .ok (.ireturn, 1) := by decide +kernel
theorem dX1_executeStore_0 : decode cX1_executeStore 0 = .ok (.iload_n 2, 1) := by decide +kernel
theorem dX1_executeStore_1 : decode cX1_executeStore 1 = .ok (.lookupswitch 60 #[(51, 35), (85, 46), (101, 53)], 35) := by decide +kernel
theorem dX1_executeStore_36 : decode cX1_executeStore 36 = .ok (.aload_n 0, 1) := by decide +kernel
theorem dX1_executeStore_37 : decode cX1_executeStore 37 = .ok (.aload_n 0, 1) := by decide +kernel
theorem dX1_executeStore_38 : decode cX1_executeStore 38 = .ok (.iload_n 1, 1) := by decide +kernel
theorem dX1_executeStore_39 : decode cX1_executeStore 39 = .ok (.invokevirtual 41, 3) := by decide +kernel
theorem dX1_executeStore_42 : decode cX1_executeStore 42 = .ok (.invokevirtual 133, 3) := by decide +kernel
theorem dX1_executeStore_45 : decode cX1_executeStore 45 = .ok (.iconst 0, 1) := by decide +kernel
theorem dX1_executeStore_46 : decode cX1_executeStore 46 = .ok (.ireturn, 1) := by decide +kernel
theorem dX1_executeStore_47 : decode cX1_executeStore 47 = .ok (.aload_n 0, 1) := by decide +kernel
theorem dX1_executeStore_48 : decode cX1_executeStore 48 = .ok (.iload_n 1, 1) := by decide +kernel
theorem dX1_executeStore_49 : decode cX1_executeStore 49 = .ok (.invokevirtual 136, 3) := by decide +kernel
theorem dX1_executeStore_52 : decode cX1_executeStore 52 = .ok (.iconst 0, 1) := by decide +kernel
theorem dX1_executeStore_53 : decode cX1_executeStore 53 = .ok (.ireturn, 1) := by decide +kernel
theorem dX1_executeStore_54 : decode cX1_executeStore 54 = .ok (.aload_n 0, 1) := by decide +kernel
theorem dX1_executeStore_55 : decode cX1_executeStore 55 = .ok (.iload_n 1, 1) := by decide +kernel
theorem dX1_executeStore_56 : decode cX1_executeStore 56 = .ok (.invokevirtual 139, 3) := by decide +kernel
theorem dX1_executeStore_59 : decode cX1_executeStore 59 = .ok (.iconst 0, 1) := by decide +kernel
theorem dX1_executeStore_60 : decode cX1_executeStore 60 = .ok (.ireturn, 1) := by decide +kernel
theorem dX1_executeStore_61 : decode cX1_executeStore 61 = .ok (.iconst 2, 1) := by decide +kernel
theorem dX1_executeStore_62 : decode cX1_executeStore 62 = .ok (.ireturn, 1) := by decide +kernel
theorem dX1_putDigits_0 : decode cX1_putDigits 0 = .ok (.aload_n 0, 1) := by decide +kernel
theorem dX1_putDigits_1 : decode cX1_putDigits 1 = .ok (.getfield 20, 3) := by decide +kernel
theorem dX1_putDigits_4 : decode cX1_putDigits 4 = .ok (.aload_n 0, 1) := by decide +kernel
theorem dX1_putDigits_5 : decode cX1_putDigits 5 = .ok (.getfield 35, 3) := by decide +kernel
theorem dX1_putDigits_8 : decode cX1_putDigits 8 = .ok (.iload_n 1, 1) := by decide +kernel
theorem dX1_putDigits_9 : decode cX1_putDigits 9 = .ok (.bipush 100, 2) := by decide +kernel
theorem dX1_putDigits_11 : decode cX1_putDigits 11 = .ok (.idiv, 1) := by decide +kernel
theorem dX1_putDigits_12 : decode cX1_putDigits 12 = .ok (.invokevirtual 109, 3) := by decide +kernel
theorem dX1_putDigits_15 : decode cX1_putDigits 15 = .ok (.aload_n 0, 1) := by decide +kernel
theorem dX1_putDigits_16 : decode cX1_putDigits 16 = .ok (.getfield 20, 3) := by decide +kernel
theorem dX1_putDigits_19 : decode cX1_putDigits 19 = .ok (.aload_n 0, 1) := by decide +kernel
theorem dX1_putDigits_20 : decode cX1_putDigits 20 = .ok (.getfield 35, 3) := by decide +kernel
theorem dX1_putDigits_23 : decode cX1_putDigits 23 = .ok (.iconst 1, 1) := by decide +kernel
theorem dX1_putDigits_24 : decode cX1_putDigits 24 = .ok (.iadd, 1) := by decide +kernel
theorem dX1_putDigits_25 : decode cX1_putDigits 25 = .ok (.iload_n 1, 1) := by decide +kernel
theorem dX1_putDigits_26 : decode cX1_putDigits 26 = .ok (.bipush 10, 2) := by decide +kernel
theorem dX1_putDigits_28 : decode cX1_putDigits 28 = .ok (.idiv, 1) := by decide +kernel
theorem dX1_putDigits_29 : decode cX1_putDigits 29 = .ok (.bipush 10, 2) := by decide +kernel
theorem dX1_putDigits_31 : decode cX1_putDigits 31 = .ok (.irem, 1) := by decide +kernel
theorem dX1_putDigits_32 : decode cX1_putDigits 32 = .ok (.invokevirtual 109, 3) := by decide +kernel
theorem dX1_putDigits_35 : decode cX1_putDigits 35 = .ok (.aload_n 0, 1) := by decide +kernel
theorem dX1_putDigits_36 : decode cX1_putDigits 36 = .ok (.getfield 20, 3) := by decide +kernel
theorem dX1_putDigits_39 : decode cX1_putDigits 39 = .ok (.aload_n 0, 1) := by decide +kernel
theorem dX1_putDigits_40 : decode cX1_putDigits 40 = .ok (.getfield 35, 3) := by decide +kernel
theorem dX1_putDigits_43 : decode cX1_putDigits 43 = .ok (.iconst 2, 1) := by decide +kernel
theorem dX1_putDigits_44 : decode cX1_putDigits 44 = .ok (.iadd, 1) := by decide +kernel
theorem dX1_putDigits_45 : decode cX1_putDigits 45 = .ok (.iload_n 1, 1) := by decide +kernel
theorem dX1_putDigits_46 : decode cX1_putDigits 46 = .ok (.bipush 10, 2) := by decide +kernel
theorem dX1_putDigits_48 : decode cX1_putDigits 48 = .ok (.irem, 1) := by decide +kernel
theorem dX1_putDigits_49 : decode cX1_putDigits 49 = .ok (.invokevirtual 109, 3) := by decide +kernel
theorem dX1_putDigits_52 : decode cX1_putDigits 52 = .ok (.return_, 1) := by decide +kernel
theorem dX1_saveVariables_0 : decode cX1_saveVariables 0 = .ok (.iconst 0, 1) := by decide +kernel
theorem dX1_saveVariables_1 : decode cX1_saveVariables 1 = .ok (.istore_n 2, 1) := by decide +kernel
theorem dX1_saveVariables_2 : decode cX1_saveVariables 2 = .ok (.iload_n 2, 1) := by decide +kernel
theorem dX1_saveVariables_3 : decode cX1_saveVariables 3 = .ok (.iload_n 1, 1) := by decide +kernel
theorem dX1_saveVariables_4 : decode cX1_saveVariables 4 = .ok (.if_icmp .gt 27, 3) := by decide +kernel
theorem dX1_saveVariables_7 : decode cX1_saveVariables 7 = .ok (.aload_n 0, 1) := by decide +kernel
theorem dX1_saveVariables_8 : decode cX1_saveVariables 8 = .ok (.getfield 20, 3) := by decide +kernel
theorem dX1_saveVariables_11 : decode cX1_saveVariables 11 = .ok (.aload_n 0, 1) := by decide +kernel
theorem dX1_saveVariables_12 : decode cX1_saveVariables 12 = .ok (.getfield 35, 3) := by decide +kernel
theorem dX1_saveVariables_15 : decode cX1_saveVariables 15 = .ok (.iload_n 2, 1) := by decide +kernel
theorem dX1_saveVariables_16 : decode cX1_saveVariables 16 = .ok (.iadd, 1) := by decide +kernel
theorem dX1_saveVariables_17 : decode cX1_saveVariables 17 = .ok (.aload_n 0, 1) := by decide +kernel
theorem dX1_saveVariables_18 : decode cX1_saveVariables 18 = .ok (.iload_n 2, 1) := by decide +kernel
theorem dX1_saveVariables_19 : decode cX1_saveVariables 19 = .ok (.invokevirtual 41, 3) := by decide +kernel
theorem dX1_saveVariables_22 : decode cX1_saveVariables 22 = .ok (.invokevirtual 109, 3) := by decide +kernel
theorem dX1_saveVariables_25 : decode cX1_saveVariables 25 = .ok (.iinc 2 1, 3) := by decide +kernel
theorem dX1_saveVariables_28 : decode cX1_saveVariables 28 = .ok (.goto (-26), 3) := by decide +kernel
theorem dX1_saveVariables_31 : decode cX1_saveVariables 31 = .ok (.aload_n 0, 1) := by decide +kernel
theorem dX1_saveVariables_32 : decode cX1_saveVariables 32 = .ok (.aload_n 0, 1) := by decide +kernel
theorem dX1_saveVariables_33 : decode cX1_saveVariables 33 = .ok (.getfield 35, 3) := by decide +kernel
theorem dX1_saveVariables_36 : decode cX1_saveVariables 36 = .ok (.iload_n 1, 1) := by decide +kernel
theorem dX1_saveVariables_37 : decode cX1_saveVariables 37 = .ok (.iadd, 1) := by decide +kernel
theorem dX1_saveVariables_38 : decode cX1_saveVariables 38 = .ok (.iconst 1, 1) := by decide +kernel
theorem dX1_saveVariables_39 : decode cX1_saveVariables 39 = .ok (.iadd, 1) := by decide +kernel
theorem dX1_saveVariables_40 : decode cX1_saveVariables 40 = .ok (.invokevirtual 79, 3) := by decide +kernel
theorem dX1_saveVariables_43 : decode cX1_saveVariables 43 = .ok (.return_, 1) := by decide +kernel
theorem dX1_loadVariables_0 : decode cX1_loadVariables 0 = .ok (.iconst 0, 1) := by decide +kernel
theorem dX1_loadVariables_1 : decode cX1_loadVariables 1 = .ok (.istore_n 2, 1) := by decide +kernel
theorem dX1_loadVariables_2 : decode cX1_loadVariables 2 = .ok (.iload_n 2, 1) := by decide +kernel
theorem dX1_loadVariables_3 : decode cX1_loadVariables 3 = .ok (.iload_n 1, 1) := by decide +kernel
theorem dX1_loadVariables_4 : decode cX1_loadVariables 4 = .ok (.if_icmp .gt 27, 3) := by decide +kernel
theorem dX1_loadVariables_7 : decode cX1_loadVariables 7 = .ok (.aload_n 0, 1) := by decide +kernel
theorem dX1_loadVariables_8 : decode cX1_loadVariables 8 = .ok (.iload_n 2, 1) := by decide +kernel
theorem dX1_loadVariables_9 : decode cX1_loadVariables 9 = .ok (.aload_n 0, 1) := by decide +kernel
theorem dX1_loadVariables_10 : decode cX1_loadVariables 10 = .ok (.getfield 20, 3) := by decide +kernel
theorem dX1_loadVariables_13 : decode cX1_loadVariables 13 = .ok (.aload_n 0, 1) := by decide +kernel
theorem dX1_loadVariables_14 : decode cX1_loadVariables 14 = .ok (.getfield 35, 3) := by decide +kernel
theorem dX1_loadVariables_17 : decode cX1_loadVariables 17 = .ok (.iload_n 2, 1) := by decide +kernel
theorem dX1_loadVariables_18 : decode cX1_loadVariables 18 = .ok (.iadd, 1) := by decide +kernel
theorem dX1_loadVariables_19 : decode cX1_loadVariables 19 = .ok (.invokevirtual 142, 3) := by decide +kernel
theorem dX1_loadVariables_22 : decode cX1_loadVariables 22 = .ok (.invokevirtual 71, 3) := by decide +kernel
theorem dX1_loadVariables_25 : decode cX1_loadVariables 25 = .ok (.iinc 2 1, 3) := by decide +kernel
theorem dX1_loadVariables_28 : decode cX1_loadVariables 28 = .ok (.goto (-26), 3) := by decide +kernel
theorem dX1_loadVariables_31 : decode cX1_loadVariables 31 = .ok (.aload_n 0, 1) := by decide +kernel
theorem dX1_loadVariables_32 : decode cX1_loadVariables 32 = .ok (.aload_n 0, 1) := by decide +kernel
theorem dX1_loadVariables_33 : decode cX1_loadVariables 33 = .ok (.getfield 35, 3) := by decide +kernel
theorem dX1_loadVariables_36 : decode cX1_loadVariables 36 = .ok (.iload_n 1, 1) := by decide +kernel
theorem dX1_loadVariables_37 : decode cX1_loadVariables 37 = .ok (.iadd, 1) := by decide +kernel
theorem dX1_loadVariables_38 : decode cX1_loadVariables 38 = .ok (.iconst 1, 1) := by decide +kernel
theorem dX1_loadVariables_39 : decode cX1_loadVariables 39 = .ok (.iadd, 1) := by decide +kernel
theorem dX1_loadVariables_40 : decode cX1_loadVariables 40 = .ok (.invokevirtual 79, 3) := by decide +kernel
theorem dX1_loadVariables_43 : decode cX1_loadVariables 43 = .ok (.return_, 1) := by decide +kernel
theorem dX1_draw_0 : decode cX1_draw 0 = .ok (.iload_n 1, 1) := by decide +kernel
theorem dX1_draw_1 : decode cX1_draw 1 = .ok (.bipush 63, 2) := by decide +kernel
theorem dX1_draw_3 : decode cX1_draw 3 = .ok (.iand, 1) := by decide +kernel
theorem dX1_draw_4 : decode cX1_draw 4 = .ok (.istore 4, 2) := by decide +kernel
theorem dX1_draw_6 : decode cX1_draw 6 = .ok (.iload_n 2, 1) := by decide +kernel
theorem dX1_draw_7 : decode cX1_draw 7 = .ok (.bipush 31, 2) := by decide +kernel
theorem dX1_draw_9 : decode cX1_draw 9 = .ok (.iand, 1) := by decide +kernel
theorem dX1_draw_10 : decode cX1_draw 10 = .ok (.istore 5, 2) := by decide +kernel
theorem dX1_draw_12 : decode cX1_draw 12 = .ok (.iconst 0, 1) := by decide +kernel
theorem dX1_draw_13 : decode cX1_draw 13 = .ok (.istore 6, 2) := by decide +kernel
theorem dX1_draw_15 : decode cX1_draw 15 = .ok (.iconst 0, 1) := by decide +kernel
theorem dX1_draw_16 : decode cX1_draw 16 = .ok (.istore 7, 2) := by decide +kernel
theorem dX1_draw_18 : decode cX1_draw 18 = .ok (.iload 7, 2) := by decide +kernel
theorem dX1_draw_20 : decode cX1_draw 20 = .ok (.iload_n 3, 1) := by decide +kernel
theorem dX1_draw_21 : decode cX1_draw 21 = .ok (.if_icmp .ge 50, 3) := by decide +kernel
theorem dX1_draw_24 : decode cX1_draw 24 = .ok (.iload 5, 2) := by decide +kernel
theorem dX1_draw_26 : decode cX1_draw 26 = .ok (.iload 7, 2) := by decide +kernel
theorem dX1_draw_28 : decode cX1_draw 28 = .ok (.iadd, 1) := by decide +kernel
theorem dX1_draw_29 : decode cX1_draw 29 = .ok (.bipush 32, 2) := by decide +kernel
theorem dX1_draw_31 : decode cX1_draw 31 = .ok (.if_icmp .ge 40, 3) := by decide +kernel
theorem dX1_draw_34 : decode cX1_draw 34 = .ok (.aload_n 0, 1) := by decide +kernel
theorem dX1_draw_35 : decode cX1_draw 35 = .ok (.iload 5, 2) := by decide +kernel
theorem dX1_draw_37 : decode cX1_draw 37 = .ok (.iload 7, 2) := by decide +kernel
theorem dX1_draw_39 : decode cX1_draw 39 = .ok (.iadd, 1) := by decide +kernel
theorem dX1_draw_40 : decode cX1_draw 40 = .ok (.iload 4, 2) := by decide +kernel
theorem dX1_draw_42 : decode cX1_draw 42 = .ok (.aload_n 0, 1) := by decide +kernel
theorem dX1_draw_43 : decode cX1_draw 43 = .ok (.getfield 20, 3) := by decide +kernel
theorem dX1_draw_46 : decode cX1_draw 46 = .ok (.aload_n 0, 1) := by decide +kernel
theorem dX1_draw_47 : decode cX1_draw 47 = .ok (.getfield 35, 3) := by decide +kernel
theorem dX1_draw_50 : decode cX1_draw 50 = .ok (.iload 7, 2) := by decide +kernel
theorem dX1_draw_52 : decode cX1_draw 52 = .ok (.iadd, 1) := by decide +kernel
theorem dX1_draw_53 : decode cX1_draw 53 = .ok (.invokevirtual 142, 3) := by decide +kernel
theorem dX1_draw_56 : decode cX1_draw 56 = .ok (.invokevirtual 145, 3) := by decide +kernel
theorem dX1_draw_59 : decode cX1_draw 59 = .ok (.ifCond .eq 6, 3) := by decide +kernel
theorem dX1_draw_62 : decode cX1_draw 62 = .ok (.iconst 1, 1) := by decide +kernel
theorem dX1_draw_63 : decode cX1_draw 63 = .ok (.istore 6, 2) := by decide +kernel
theorem dX1_draw_65 : decode cX1_draw 65 = .ok (.iinc 7 1, 3) := by decide +kernel
theorem dX1_draw_68 : decode cX1_draw 68 = .ok (.goto (-50), 3) := by decide +kernel
theorem dX1_draw_71 : decode cX1_draw 71 = .ok (.aload_n 0, 1) := by decide +kernel
theorem dX1_draw_72 : decode cX1_draw 72 = .ok (.bipush 15, 2) := by decide +kernel
theorem dX1_draw_74 : decode cX1_draw 74 = .ok (.iload 6, 2) := by decide +kernel
theorem dX1_draw_76 : decode cX1_draw 76 = .ok (.ifCond .eq 7, 3) := by decide +kernel
theorem dX1_draw_79 : decode cX1_draw 79 = .ok (.iconst 1, 1) := by decide +kernel
theorem dX1_draw_80 : decode cX1_draw 80 = .ok (.goto 4, 3) := by decide +kernel
theorem dX1_draw_83 : decode cX1_draw 83 = .ok (.iconst 0, 1) := by decide +kernel
theorem dX1_draw_84 : decode cX1_draw 84 = .ok (.invokevirtual 71, 3) := by decide +kernel
theorem dX1_draw_87 : decode cX1_draw 87 = .ok (.return_, 1) := by decide +kernel
theorem dX1_drawByte_0 : decode cX1_drawByte 0 = .ok (.sipush 1792, 3) := by decide +kernel
theorem dX1_drawByte_3 : decode cX1_drawByte 3 = .ok (.iload_n 1, 1) := by decide +kernel
theorem dX1_drawByte_4 : decode cX1_drawByte 4 = .ok (.bipush 8, 2) := by decide +kernel
theorem dX1_drawByte_6 : decode cX1_drawByte 6 = .ok (.imul, 1) := by decide +kernel
theorem dX1_drawByte_7 : decode cX1_drawByte 7 = .ok (.iadd, 1) := by decide +kernel
theorem dX1_drawByte_8 : decode cX1_drawByte 8 = .ok (.iload_n 2, 1) := by decide +kernel
theorem dX1_drawByte_9 : decode cX1_drawByte 9 = .ok (.bipush 8, 2) := by decide +kernel
theorem dX1_drawByte_11 : decode cX1_drawByte 11 = .ok (.idiv, 1) := by decide +kernel
theorem dX1_drawByte_12 : decode cX1_drawByte 12 = .ok (.iadd, 1) := by decide +kernel
theorem dX1_drawByte_13 : decode cX1_drawByte 13 = .ok (.istore 4, 2) := by decide +kernel
theorem dX1_drawByte_15 : decode cX1_drawByte 15 = .ok (.iload_n 2, 1) := by decide +kernel
theorem dX1_drawByte_16 : decode cX1_drawByte 16 = .ok (.bipush 8, 2) := by decide +kernel
theorem dX1_drawByte_18 : decode cX1_drawByte 18 = .ok (.irem, 1) := by decide +kernel
theorem dX1_drawByte_19 : decode cX1_drawByte 19 = .ok (.istore 5, 2) := by decide +kernel
theorem dX1_drawByte_21 : decode cX1_drawByte 21 = .ok (.aload_n 0, 1) := by decide +kernel
theorem dX1_drawByte_22 : decode cX1_drawByte 22 = .ok (.iload 4, 2) := by decide +kernel
theorem dX1_drawByte_24 : decode cX1_drawByte 24 = .ok (.iload_n 3, 1) := by decide +kernel
theorem dX1_drawByte_25 : decode cX1_drawByte 25 = .ok (.iload 5, 2) := by decide +kernel
theorem dX1_drawByte_27 : decode cX1_drawByte 27 = .ok (.ishr, 1) := by decide +kernel
theorem dX1_drawByte_28 : decode cX1_drawByte 28 = .ok (.invokevirtual 149, 3) := by decide +kernel
theorem dX1_drawByte_31 : decode cX1_drawByte 31 = .ok (.istore 6, 2) := by decide +kernel
theorem dX1_drawByte_33 : decode cX1_drawByte 33 = .ok (.iload_n 2, 1) := by decide +kernel
theorem dX1_drawByte_34 : decode cX1_drawByte 34 = .ok (.bipush 8, 2) := by decide +kernel
theorem dX1_drawByte_36 : decode cX1_drawByte 36 = .ok (.idiv, 1) := by decide +kernel
theorem dX1_drawByte_37 : decode cX1_drawByte 37 = .ok (.bipush 7, 2) := by decide +kernel
theorem dX1_drawByte_39 : decode cX1_drawByte 39 = .ok (.if_icmp .ge 28, 3) := by decide +kernel
theorem dX1_drawByte_42 : decode cX1_drawByte 42 = .ok (.aload_n 0, 1) := by decide +kernel
theorem dX1_drawByte_43 : decode cX1_drawByte 43 = .ok (.iload 4, 2) := by decide +kernel
theorem dX1_drawByte_45 : decode cX1_drawByte 45 = .ok (.iconst 1, 1) := by decide +kernel
theorem dX1_drawByte_46 : decode cX1_drawByte 46 = .ok (.iadd, 1) := by decide +kernel
theorem dX1_drawByte_47 : decode cX1_drawByte 47 = .ok (.iload_n 3, 1) := by decide +kernel
theorem dX1_drawByte_48 : decode cX1_drawByte 48 = .ok (.bipush 8, 2) := by decide +kernel
theorem dX1_drawByte_50 : decode cX1_drawByte 50 = .ok (.iload 5, 2) := by decide +kernel
theorem dX1_drawByte_52 : decode cX1_drawByte 52 = .ok (.isub, 1) := by decide +kernel
theorem dX1_drawByte_53 : decode cX1_drawByte 53 = .ok (.ishl, 1) := by decide +kernel
theorem dX1_drawByte_54 : decode cX1_drawByte 54 = .ok (.sipush 255, 3) := by decide +kernel
theorem dX1_drawByte_57 : decode cX1_drawByte 57 = .ok (.iand, 1) := by decide +kernel
theorem dX1_drawByte_58 : decode cX1_drawByte 58 = .ok (.invokevirtual 149, 3) := by decide +kernel
theorem dX1_drawByte_61 : decode cX1_drawByte 61 = .ok (.ifCond .eq 6, 3) := by decide +kernel
theorem dX1_drawByte_64 : decode cX1_drawByte 64 = .ok (.iconst 1, 1) := by decide +kernel
theorem dX1_drawByte_65 : decode cX1_drawByte 65 = .ok (.istore 6, 2) := by decide +kernel
theorem dX1_drawByte_67 : decode cX1_drawByte 67 = .ok (.iload 6, 2) := by decide +kernel
theorem dX1_drawByte_69 : decode cX1_drawByte 69 = .ok (.ireturn, 1) := by decide +kernel
theorem dX1_flip_0 : decode cX1_flip 0 = .ok (.aload_n 0, 1) := by decide +kernel
theorem dX1_flip_1 : decode cX1_flip 1 = .ok (.getfield 20, 3) := by decide +kernel
theorem dX1_flip_4 : decode cX1_flip 4 = .ok (.iload_n 1, 1) := by decide +kernel
theorem dX1_flip_5 : decode cX1_flip 5 = .ok (.invokevirtual 142, 3) := by decide +kernel
theorem dX1_flip_8 : decode cX1_flip 8 = .ok (.istore_n 3, 1) := by decide +kernel
theorem dX1_flip_9 : decode cX1_flip 9 = .ok (.aload_n 0, 1) := by decide +kernel
theorem dX1_flip_10 : decode cX1_flip 10 = .ok (.getfield 20, 3) := by decide +kernel
theorem dX1_flip_13 : decode cX1_flip 13 = .ok (.iload_n 1, 1) := by decide +kernel
theorem dX1_flip_14 : decode cX1_flip 14 = .ok (.iload_n 3, 1) := by decide +kernel
theorem dX1_flip_15 : decode cX1_flip 15 = .ok (.iload_n 2, 1) := by decide +kernel
theorem dX1_flip_16 : decode cX1_flip 16 = .ok (.ixor, 1) := by decide +kernel
theorem dX1_flip_17 : decode cX1_flip 17 = .ok (.invokevirtual 109, 3) := by decide +kernel
theorem dX1_flip_20 : decode cX1_flip 20 = .ok (.iload_n 3, 1) := by decide +kernel
theorem dX1_flip_21 : decode cX1_flip 21 = .ok (.iload_n 2, 1) := by decide +kernel
theorem dX1_flip_22 : decode cX1_flip 22 = .ok (.iand, 1) := by decide +kernel
theorem dX1_flip_23 : decode cX1_flip 23 = .ok (.ifCond .eq 7, 3) := by decide +kernel
theorem dX1_flip_26 : decode cX1_flip 26 = .ok (.iconst 1, 1) := by decide +kernel
theorem dX1_flip_27 : decode cX1_flip 27 = .ok (.goto 4, 3) := by decide +kernel
theorem dX1_flip_30 : decode cX1_flip 30 = .ok (.iconst 0, 1) := by decide +kernel
theorem dX1_flip_31 : decode cX1_flip 31 = .ok (.ireturn, 1) := by decide +kernel
end
section
theorem dX4_init_0 : decode cX4_init 0 = .ok (.aload_n 0, 1) := by decide +kernel
theorem dX4_init_1 : decode cX4_init 1 = .ok (.invokespecial 1, 3) := by decide +kernel
theorem dX4_init_4 : decode cX4_init 4 = .ok (.aload_n 0, 1) := by decide +kernel
theorem dX4_init_5 : decode cX4_init 5 = .ok (.bipush 16, 2) := by decide +kernel
theorem dX4_init_7 : decode cX4_init 7 = .ok (.newarray .int, 2) := by decide +kernel
theorem dX4_init_9 : decode cX4_init 9 = .ok (.putfield 9, 3) := by decide +kernel
theorem dX4_init_12 : decode cX4_init 12 = .ok (.aload_n 0, 1) := by decide +kernel
theorem dX4_init_13 : decode cX4_init 13 = .ok (.iconst 1, 1) := by decide +kernel
theorem dX4_init_14 : decode cX4_init 14 = .ok (.putfield 13, 3) := by decide +kernel
theorem dX4_init_17 : decode cX4_init 17 = .ok (.aload_n 0, 1) := by decide +kernel
theorem dX4_init_18 : decode cX4_init 18 = .ok (.aload_n 1, 1) := by decide +kernel
theorem dX4_init_19 : decode cX4_init 19 = .ok (.putfield 17, 3) := by decide +kernel
theorem dX4_init_22 : decode cX4_init 22 = .ok (.aload_n 0, 1) := by decide +kernel
theorem dX4_init_23 : decode cX4_init 23 = .ok (.aload_n 2, 1) := by decide +kernel
theorem dX4_init_24 : decode cX4_init 24 = .ok (.putfield 21, 3) := by decide +kernel
theorem dX4_init_27 : decode cX4_init 27 = .ok (.aload_n 0, 1) := by decide +kernel
theorem dX4_init_28 : decode cX4_init 28 = .ok (.aload_n 3, 1) := by decide +kernel
theorem dX4_init_29 : decode cX4_init 29 = .ok (.putfield 25, 3) := by decide +kernel
theorem dX4_init_32 : decode cX4_init 32 = .ok (.return_, 1) := by decide +kernel
theorem dX4_part_0 : decode cX4_part 0 = .ok (.iload_n 1, 1) := by decide +kernel
theorem dX4_part_1 : decode cX4_part 1 = .ok (.tableswitch 95 16 23 #[47, 52, 57, 62, 67, 72, 77, 82], 47) := by decide +kernel
theorem dX4_part_48 : decode cX4_part 48 = .ok (.aload_n 0, 1) := by decide +kernel
theorem dX4_part_49 : decode cX4_part 49 = .ok (.getfield 29, 3) := by decide +kernel
theorem dX4_part_52 : decode cX4_part 52 = .ok (.ireturn, 1) := by decide +kernel
theorem dX4_part_53 : decode cX4_part 53 = .ok (.aload_n 0, 1) := by decide +kernel
theorem dX4_part_54 : decode cX4_part 54 = .ok (.getfield 32, 3) := by decide +kernel
theorem dX4_part_57 : decode cX4_part 57 = .ok (.ireturn, 1) := by decide +kernel
theorem dX4_part_58 : decode cX4_part 58 = .ok (.aload_n 0, 1) := by decide +kernel
theorem dX4_part_59 : decode cX4_part 59 = .ok (.getfield 35, 3) := by decide +kernel
theorem dX4_part_62 : decode cX4_part 62 = .ok (.ireturn, 1) := by decide +kernel
theorem dX4_part_63 : decode cX4_part 63 = .ok (.aload_n 0, 1) := by decide +kernel
theorem dX4_part_64 : decode cX4_part 64 = .ok (.getfield 38, 3) := by decide +kernel
theorem dX4_part_67 : decode cX4_part 67 = .ok (.ireturn, 1) := by decide +kernel
theorem dX4_part_68 : decode cX4_part 68 = .ok (.aload_n 0, 1) := by decide +kernel
theorem dX4_part_69 : decode cX4_part 69 = .ok (.getfield 41, 3) := by decide +kernel
theorem dX4_part_72 : decode cX4_part 72 = .ok (.ireturn, 1) := by decide +kernel
theorem dX4_part_73 : decode cX4_part 73 = .ok (.aload_n 0, 1) := by decide +kernel
theorem dX4_part_74 : decode cX4_part 74 = .ok (.getfield 13, 3) := by decide +kernel
theorem dX4_part_77 : decode cX4_part 77 = .ok (.ireturn, 1) := by decide +kernel
theorem dX4_part_78 : decode cX4_part 78 = .ok (.aload_n 0, 1) := by decide +kernel
theorem dX4_part_79 : decode cX4_part 79 = .ok (.getfield 44, 3) := by decide +kernel
theorem dX4_part_82 : decode cX4_part 82 = .ok (.ireturn, 1) := by decide +kernel
theorem dX4_part_83 : decode cX4_part 83 = .ok (.aload_n 0, 1) := by decide +kernel
theorem dX4_part_84 : decode cX4_part 84 = .ok (.getfield 47, 3) := by decide +kernel
theorem dX4_part_87 : decode cX4_part 87 = .ok (.ifCond .eq 7, 3) := by decide +kernel
theorem dX4_part_90 : decode cX4_part 90 = .ok (.iconst 1, 1) := by decide +kernel
theorem dX4_part_91 : decode cX4_part 91 = .ok (.goto 4, 3) := by decide +kernel
theorem dX4_part_94 : decode cX4_part 94 = .ok (.iconst 0, 1) := by decide +kernel
theorem dX4_part_95 : decode cX4_part 95 = .ok (.ireturn, 1) := by decide +kernel
theorem dX4_part_96 : decode cX4_part 96 = .ok (.aload_n 0, 1) := by decide +kernel
theorem dX4_part_97 : decode cX4_part 97 = .ok (.iload_n 1, 1) := by decide +kernel
theorem dX4_part_98 : decode cX4_part 98 = .ok (.invokevirtual 51, 3) := by decide +kernel
theorem dX4_part_101 : decode cX4_part 101 = .ok (.ireturn, 1) := by decide +kernel
theorem dX4_mostOf_0 : decode cX4_mostOf 0 = .ok (.iload_n 0, 1) := by decide +kernel
theorem dX4_mostOf_1 : decode cX4_mostOf 1 = .ok (.tableswitch 52 16 22 #[43, 50, 47, 47, 43, 50, 50], 43) := by decide +kernel
theorem dX4_mostOf_44 : decode cX4_mostOf 44 = .ok (.sipush 255, 3) := by decide +kernel
theorem dX4_mostOf_47 : decode cX4_mostOf 47 = .ok (.ireturn, 1) := by decide +kernel
theorem dX4_mostOf_48 : decode cX4_mostOf 48 = .ok (.bipush 15, 2) := by decide +kernel
theorem dX4_mostOf_50 : decode cX4_mostOf 50 = .ok (.ireturn, 1) := by decide +kernel
theorem dX4_mostOf_51 : decode cX4_mostOf 51 = .ok (.iconst 1, 1) := by decide +kernel
theorem dX4_mostOf_52 : decode cX4_mostOf 52 = .ok (.ireturn, 1) := by decide +kernel
theorem dX4_mostOf_53 : decode cX4_mostOf 53 = .ok (.ldc 55, 2) := by decide +kernel
theorem dX4_mostOf_55 : decode cX4_mostOf 55 = .ok (.ireturn, 1) := by decide +kernel
theorem dX4_change_0 : decode cX4_change 0 = .ok (.iload_n 1, 1) := by decide +kernel
theorem dX4_change_1 : decode cX4_change 1 = .ok (.tableswitch 99 16 22 #[43, 51, 59, 67, 75, 83, 91], 43) := by decide +kernel
theorem dX4_change_44 : decode cX4_change 44 = .ok (.aload_n 0, 1) := by decide +kernel
theorem dX4_change_45 : decode cX4_change 45 = .ok (.iload_n 2, 1) := by decide +kernel
theorem dX4_change_46 : decode cX4_change 46 = .ok (.putfield 29, 3) := by decide +kernel
theorem dX4_change_49 : decode cX4_change 49 = .ok (.goto 57, 3) := by decide +kernel
theorem dX4_change_52 : decode cX4_change 52 = .ok (.aload_n 0, 1) := by decide +kernel
theorem dX4_change_53 : decode cX4_change 53 = .ok (.iload_n 2, 1) := by decide +kernel
theorem dX4_change_54 : decode cX4_change 54 = .ok (.putfield 32, 3) := by decide +kernel
theorem dX4_change_57 : decode cX4_change 57 = .ok (.goto 49, 3) := by decide +kernel
theorem dX4_change_60 : decode cX4_change 60 = .ok (.aload_n 0, 1) := by decide +kernel
theorem dX4_change_61 : decode cX4_change 61 = .ok (.iload_n 2, 1) := by decide +kernel
theorem dX4_change_62 : decode cX4_change 62 = .ok (.putfield 35, 3) := by decide +kernel
theorem dX4_change_65 : decode cX4_change 65 = .ok (.goto 41, 3) := by decide +kernel
theorem dX4_change_68 : decode cX4_change 68 = .ok (.aload_n 0, 1) := by decide +kernel
theorem dX4_change_69 : decode cX4_change 69 = .ok (.iload_n 2, 1) := by decide +kernel
theorem dX4_change_70 : decode cX4_change 70 = .ok (.putfield 38, 3) := by decide +kernel
theorem dX4_change_73 : decode cX4_change 73 = .ok (.goto 33, 3) := by decide +kernel
theorem dX4_change_76 : decode cX4_change 76 = .ok (.aload_n 0, 1) := by decide +kernel
theorem dX4_change_77 : decode cX4_change 77 = .ok (.iload_n 2, 1) := by decide +kernel
theorem dX4_change_78 : decode cX4_change 78 = .ok (.putfield 41, 3) := by decide +kernel
theorem dX4_change_81 : decode cX4_change 81 = .ok (.goto 25, 3) := by decide +kernel
theorem dX4_change_84 : decode cX4_change 84 = .ok (.aload_n 0, 1) := by decide +kernel
theorem dX4_change_85 : decode cX4_change 85 = .ok (.iload_n 2, 1) := by decide +kernel
theorem dX4_change_86 : decode cX4_change 86 = .ok (.putfield 13, 3) := by decide +kernel
theorem dX4_change_89 : decode cX4_change 89 = .ok (.goto 17, 3) := by decide +kernel
theorem dX4_change_92 : decode cX4_change 92 = .ok (.aload_n 0, 1) := by decide +kernel
theorem dX4_change_93 : decode cX4_change 93 = .ok (.iload_n 2, 1) := by decide +kernel
theorem dX4_change_94 : decode cX4_change 94 = .ok (.putfield 44, 3) := by decide +kernel
theorem dX4_change_97 : decode cX4_change 97 = .ok (.goto 9, 3) := by decide +kernel
theorem dX4_change_100 : decode cX4_change 100 = .ok (.aload_n 0, 1) := by decide +kernel
theorem dX4_change_101 : decode cX4_change 101 = .ok (.iload_n 1, 1) := by decide +kernel
theorem dX4_change_102 : decode cX4_change 102 = .ok (.iload_n 2, 1) := by decide +kernel
theorem dX4_change_103 : decode cX4_change 103 = .ok (.invokevirtual 56, 3) := by decide +kernel
theorem dX4_change_106 : decode cX4_change 106 = .ok (.return_, 1) := by decide +kernel
theorem dX4_allowsInterrupt_0 : decode cX4_allowsInterrupt 0 = .ok (.aload_n 0, 1) := by decide +kernel
theorem dX4_allowsInterrupt_1 : decode cX4_allowsInterrupt 1 = .ok (.getfield 13, 3) := by decide +kernel
theorem dX4_allowsInterrupt_4 : decode cX4_allowsInterrupt 4 = .ok (.iconst 1, 1) := by decide +kernel
theorem dX4_allowsInterrupt_5 : decode cX4_allowsInterrupt 5 = .ok (.if_icmp .ne 7, 3) := by decide +kernel
theorem dX4_allowsInterrupt_8 : decode cX4_allowsInterrupt 8 = .ok (.iconst 1, 1) := by decide +kernel
theorem dX4_allowsInterrupt_9 : decode cX4_allowsInterrupt 9 = .ok (.goto 4, 3) := by decide +kernel
theorem dX4_allowsInterrupt_12 : decode cX4_allowsInterrupt 12 = .ok (.iconst 0, 1) := by decide +kernel
theorem dX4_allowsInterrupt_13 : decode cX4_allowsInterrupt 13 = .ok (.ireturn, 1) := by decide +kernel
theorem dX4_interrupt_0 : decode cX4_interrupt 0 = .ok (.aload_n 0, 1) := by decide +kernel
theorem dX4_interrupt_1 : decode cX4_interrupt 1 = .ok (.bipush 16, 2) := by decide +kernel
theorem dX4_interrupt_3 : decode cX4_interrupt 3 = .ok (.aload_n 0, 1) := by decide +kernel
theorem dX4_interrupt_4 : decode cX4_interrupt 4 = .ok (.getfield 38, 3) := by decide +kernel
theorem dX4_interrupt_7 : decode cX4_interrupt 7 = .ok (.imul, 1) := by decide +kernel
theorem dX4_interrupt_8 : decode cX4_interrupt 8 = .ok (.aload_n 0, 1) := by decide +kernel
theorem dX4_interrupt_9 : decode cX4_interrupt 9 = .ok (.getfield 35, 3) := by decide +kernel
theorem dX4_interrupt_12 : decode cX4_interrupt 12 = .ok (.iadd, 1) := by decide +kernel
theorem dX4_interrupt_13 : decode cX4_interrupt 13 = .ok (.putfield 41, 3) := by decide +kernel
theorem dX4_interrupt_16 : decode cX4_interrupt 16 = .ok (.aload_n 0, 1) := by decide +kernel
theorem dX4_interrupt_17 : decode cX4_interrupt 17 = .ok (.iconst 2, 1) := by decide +kernel
theorem dX4_interrupt_18 : decode cX4_interrupt 18 = .ok (.putfield 38, 3) := by decide +kernel
theorem dX4_interrupt_21 : decode cX4_interrupt 21 = .ok (.aload_n 0, 1) := by decide +kernel
theorem dX4_interrupt_22 : decode cX4_interrupt 22 = .ok (.iconst 1, 1) := by decide +kernel
theorem dX4_interrupt_23 : decode cX4_interrupt 23 = .ok (.putfield 35, 3) := by decide +kernel
theorem dX4_interrupt_26 : decode cX4_interrupt 26 = .ok (.aload_n 0, 1) := by decide +kernel
theorem dX4_interrupt_27 : decode cX4_interrupt 27 = .ok (.iconst 0, 1) := by decide +kernel
theorem dX4_interrupt_28 : decode cX4_interrupt 28 = .ok (.putfield 13, 3) := by decide +kernel
theorem dX4_interrupt_31 : decode cX4_interrupt 31 = .ok (.aload_n 0, 1) := by decide +kernel
theorem dX4_interrupt_32 : decode cX4_interrupt 32 = .ok (.invokevirtual 60, 3) := by decide +kernel
theorem dX4_interrupt_35 : decode cX4_interrupt 35 = .ok (.return_, 1) := by decide +kernel
theorem dX4_wake_0 : decode cX4_wake 0 = .ok (.aload_n 0, 1) := by decide +kernel
theorem dX4_wake_1 : decode cX4_wake 1 = .ok (.iconst 0, 1) := by decide +kernel
theorem dX4_wake_2 : decode cX4_wake 2 = .ok (.putfield 47, 3) := by decide +kernel
theorem dX4_wake_5 : decode cX4_wake 5 = .ok (.return_, 1) := by decide +kernel
theorem dX4_takeByte_0 : decode cX4_takeByte 0 = .ok (.aload_n 0, 1) := by decide +kernel
theorem dX4_takeByte_1 : decode cX4_takeByte 1 = .ok (.iconst 0, 1) := by decide +kernel
theorem dX4_takeByte_2 : decode cX4_takeByte 2 = .ok (.invokevirtual 63, 3) := by decide +kernel
theorem dX4_takeByte_5 : decode cX4_takeByte 5 = .ok (.ireturn, 1) := by decide +kernel
theorem dX4_act_0 : decode cX4_act 0 = .ok (.aload_n 0, 1) := by decide +kernel
theorem dX4_act_1 : decode cX4_act 1 = .ok (.getfield 47, 3) := by decide +kernel
theorem dX4_act_4 : decode cX4_act 4 = .ok (.ifCond .eq 5, 3) := by decide +kernel
theorem dX4_act_7 : decode cX4_act 7 = .ok (.iconst 1, 1) := by decide +kernel
theorem dX4_act_8 : decode cX4_act 8 = .ok (.ireturn, 1) := by decide +kernel
theorem dX4_act_9 : decode cX4_act 9 = .ok (.aload_n 0, 1) := by decide +kernel
theorem dX4_act_10 : decode cX4_act 10 = .ok (.aload_n 0, 1) := by decide +kernel
theorem dX4_act_11 : decode cX4_act 11 = .ok (.getfield 35, 3) := by decide +kernel
theorem dX4_act_14 : decode cX4_act 14 = .ok (.invokevirtual 63, 3) := by decide +kernel
theorem dX4_act_17 : decode cX4_act 17 = .ok (.istore_n 1, 1) := by decide +kernel
theorem dX4_act_18 : decode cX4_act 18 = .ok (.aload_n 0, 1) := by decide +kernel
theorem dX4_act_19 : decode cX4_act 19 = .ok (.iload_n 1, 1) := by decide +kernel
theorem dX4_act_20 : decode cX4_act 20 = .ok (.iconst 4, 1) := by decide +kernel
theorem dX4_act_21 : decode cX4_act 21 = .ok (.ishr, 1) := by decide +kernel
theorem dX4_act_22 : decode cX4_act 22 = .ok (.iload_n 1, 1) := by decide +kernel
theorem dX4_act_23 : decode cX4_act 23 = .ok (.bipush 15, 2) := by decide +kernel
theorem dX4_act_25 : decode cX4_act 25 = .ok (.iand, 1) := by decide +kernel
theorem dX4_act_26 : decode cX4_act 26 = .ok (.invokevirtual 66, 3) := by decide +kernel
theorem dX4_act_29 : decode cX4_act 29 = .ok (.iload_n 1, 1) := by decide +kernel
theorem dX4_act_30 : decode cX4_act 30 = .ok (.iconst 4, 1) := by decide +kernel
theorem dX4_act_31 : decode cX4_act 31 = .ok (.ishr, 1) := by decide +kernel
theorem dX4_act_32 : decode cX4_act 32 = .ok (.bipush 12, 2) := by decide +kernel
theorem dX4_act_34 : decode cX4_act 34 = .ok (.if_icmp .ne 7, 3) := by decide +kernel
theorem dX4_act_37 : decode cX4_act 37 = .ok (.iconst 3, 1) := by decide +kernel
theorem dX4_act_38 : decode cX4_act 38 = .ok (.goto 4, 3) := by decide +kernel
theorem dX4_act_41 : decode cX4_act 41 = .ok (.iconst 2, 1) := by decide +kernel
theorem dX4_act_42 : decode cX4_act 42 = .ok (.ireturn, 1) := by decide +kernel
theorem dX4_register_0 : decode cX4_register 0 = .ok (.aload_n 0, 1) := by decide +kernel
theorem dX4_register_1 : decode cX4_register 1 = .ok (.getfield 9, 3) := by decide +kernel
theorem dX4_register_4 : decode cX4_register 4 = .ok (.iload_n 1, 1) := by decide +kernel
theorem dX4_register_5 : decode cX4_register 5 = .ok (.bipush 15, 2) := by decide +kernel
theorem dX4_register_7 : decode cX4_register 7 = .ok (.iand, 1) := by decide +kernel
theorem dX4_register_8 : decode cX4_register 8 = .ok (.iaload, 1) := by decide +kernel
theorem dX4_register_9 : decode cX4_register 9 = .ok (.ireturn, 1) := by decide +kernel
theorem dX4_putRegister_0 : decode cX4_putRegister 0 = .ok (.aload_n 0, 1) := by decide +kernel
theorem dX4_putRegister_1 : decode cX4_putRegister 1 = .ok (.getfield 9, 3) := by decide +kernel
theorem dX4_putRegister_4 : decode cX4_putRegister 4 = .ok (.iload_n 1, 1) := by decide +kernel
theorem dX4_putRegister_5 : decode cX4_putRegister 5 = .ok (.bipush 15, 2) := by decide +kernel
theorem dX4_putRegister_7 : decode cX4_putRegister 7 = .ok (.iand, 1) := by decide +kernel
theorem dX4_putRegister_8 : decode cX4_putRegister 8 = .ok (.iload_n 2, 1) := by decide +kernel
theorem dX4_putRegister_9 : decode cX4_putRegister 9 = .ok (.ldc 55, 2) := by decide +kernel
theorem dX4_putRegister_11 : decode cX4_putRegister 11 = .ok (.iand, 1) := by decide +kernel
theorem dX4_putRegister_12 : decode cX4_putRegister 12 = .ok (.iastore, 1) := by decide +kernel
theorem dX4_putRegister_13 : decode cX4_putRegister 13 = .ok (.return_, 1) := by decide +kernel
theorem dX4_grow_0 : decode cX4_grow 0 = .ok (.aload_n 0, 1) := by decide +kernel
theorem dX4_grow_1 : decode cX4_grow 1 = .ok (.iload_n 1, 1) := by decide +kernel
theorem dX4_grow_2 : decode cX4_grow 2 = .ok (.aload_n 0, 1) := by decide +kernel
theorem dX4_grow_3 : decode cX4_grow 3 = .ok (.iload_n 1, 1) := by decide +kernel
theorem dX4_grow_4 : decode cX4_grow 4 = .ok (.invokevirtual 51, 3) := by decide +kernel
theorem dX4_grow_7 : decode cX4_grow 7 = .ok (.iload_n 2, 1) := by decide +kernel
theorem dX4_grow_8 : decode cX4_grow 8 = .ok (.iadd, 1) := by decide +kernel
theorem dX4_grow_9 : decode cX4_grow 9 = .ok (.invokevirtual 56, 3) := by decide +kernel
theorem dX4_grow_12 : decode cX4_grow 12 = .ok (.return_, 1) := by decide +kernel
theorem dX4_at_0 : decode cX4_at 0 = .ok (.aload_n 0, 1) := by decide +kernel
theorem dX4_at_1 : decode cX4_at 1 = .ok (.getfield 17, 3) := by decide +kernel
theorem dX4_at_4 : decode cX4_at 4 = .ok (.aload_n 0, 1) := by decide +kernel
theorem dX4_at_5 : decode cX4_at 5 = .ok (.iload_n 1, 1) := by decide +kernel
theorem dX4_at_6 : decode cX4_at 6 = .ok (.invokevirtual 51, 3) := by decide +kernel
theorem dX4_at_9 : decode cX4_at 9 = .ok (.invokevirtual 69, 3) := by decide +kernel
theorem dX4_at_12 : decode cX4_at 12 = .ok (.ireturn, 1) := by decide +kernel
theorem dX4_putAt_0 : decode cX4_putAt 0 = .ok (.aload_n 0, 1) := by decide +kernel
theorem dX4_putAt_1 : decode cX4_putAt 1 = .ok (.getfield 17, 3) := by decide +kernel
theorem dX4_putAt_4 : decode cX4_putAt 4 = .ok (.aload_n 0, 1) := by decide +kernel
theorem dX4_putAt_5 : decode cX4_putAt 5 = .ok (.iload_n 1, 1) := by decide +kernel
theorem dX4_putAt_6 : decode cX4_putAt 6 = .ok (.invokevirtual 51, 3) := by decide +kernel
theorem dX4_putAt_9 : decode cX4_putAt 9 = .ok (.iload_n 2, 1) := by decide +kernel
theorem dX4_putAt_10 : decode cX4_putAt 10 = .ok (.invokevirtual 74, 3) := by decide +kernel
theorem dX4_putAt_13 : decode cX4_putAt 13 = .ok (.return_, 1) := by decide +kernel
theorem dX4_take_0 : decode cX4_take 0 = .ok (.aload_n 0, 1) := by decide +kernel
theorem dX4_take_1 : decode cX4_take 1 = .ok (.getfield 9, 3) := by decide +kernel
theorem dX4_take_4 : decode cX4_take 4 = .ok (.iload_n 1, 1) := by decide +kernel
theorem dX4_take_5 : decode cX4_take 5 = .ok (.bipush 15, 2) := by decide +kernel
theorem dX4_take_7 : decode cX4_take 7 = .ok (.iand, 1) := by decide +kernel
theorem dX4_take_8 : decode cX4_take 8 = .ok (.iaload, 1) := by decide +kernel
theorem dX4_take_9 : decode cX4_take 9 = .ok (.istore_n 2, 1) := by decide +kernel
theorem dX4_take_10 : decode cX4_take 10 = .ok (.aload_n 0, 1) := by decide +kernel
theorem dX4_take_11 : decode cX4_take 11 = .ok (.getfield 9, 3) := by decide +kernel
theorem dX4_take_14 : decode cX4_take 14 = .ok (.iload_n 1, 1) := by decide +kernel
theorem dX4_take_15 : decode cX4_take 15 = .ok (.bipush 15, 2) := by decide +kernel
theorem dX4_take_17 : decode cX4_take 17 = .ok (.iand, 1) := by decide +kernel
theorem dX4_take_18 : decode cX4_take 18 = .ok (.iload_n 2, 1) := by decide +kernel
theorem dX4_take_19 : decode cX4_take 19 = .ok (.iconst 1, 1) := by decide +kernel
theorem dX4_take_20 : decode cX4_take 20 = .ok (.iadd, 1) := by decide +kernel
theorem dX4_take_21 : decode cX4_take 21 = .ok (.ldc 55, 2) := by decide +kernel
theorem dX4_take_23 : decode cX4_take 23 = .ok (.iand, 1) := by decide +kernel
theorem dX4_take_24 : decode cX4_take 24 = .ok (.iastore, 1) := by decide +kernel
theorem dX4_take_25 : decode cX4_take 25 = .ok (.aload_n 0, 1) := by decide +kernel
theorem dX4_take_26 : decode cX4_take 26 = .ok (.getfield 17, 3) := by decide +kernel
theorem dX4_take_29 : decode cX4_take 29 = .ok (.iload_n 2, 1) := by decide +kernel
theorem dX4_take_30 : decode cX4_take 30 = .ok (.invokevirtual 69, 3) := by decide +kernel
theorem dX4_take_33 : decode cX4_take 33 = .ok (.ireturn, 1) := by decide +kernel
theorem dX4_execute_0 : decode cX4_execute 0 = .ok (.iload_n 1, 1) := by decide +kernel
theorem dX4_execute_1 : decode cX4_execute 1 = .ok (.tableswitch 251 0 14 #[75, 83, 92, 101, 109, 121, 133, 141, 149, 165, 180, 201, 227, 235, 243], 75) := by decide +kernel
theorem dX4_execute_76 : decode cX4_execute 76 = .ok (.aload_n 0, 1) := by decide +kernel
theorem dX4_execute_77 : decode cX4_execute 77 = .ok (.iload_n 2, 1) := by decide +kernel
theorem dX4_execute_78 : decode cX4_execute 78 = .ok (.invokevirtual 77, 3) := by decide +kernel
theorem dX4_execute_81 : decode cX4_execute 81 = .ok (.goto 176, 3) := by decide +kernel
theorem dX4_execute_84 : decode cX4_execute 84 = .ok (.aload_n 0, 1) := by decide +kernel
theorem dX4_execute_85 : decode cX4_execute 85 = .ok (.iload_n 2, 1) := by decide +kernel
theorem dX4_execute_86 : decode cX4_execute 86 = .ok (.iconst 1, 1) := by decide +kernel
theorem dX4_execute_87 : decode cX4_execute 87 = .ok (.invokevirtual 81, 3) := by decide +kernel
theorem dX4_execute_90 : decode cX4_execute 90 = .ok (.goto 167, 3) := by decide +kernel
theorem dX4_execute_93 : decode cX4_execute 93 = .ok (.aload_n 0, 1) := by decide +kernel
theorem dX4_execute_94 : decode cX4_execute 94 = .ok (.iload_n 2, 1) := by decide +kernel
theorem dX4_execute_95 : decode cX4_execute 95 = .ok (.iconst (-1), 1) := by decide +kernel
theorem dX4_execute_96 : decode cX4_execute 96 = .ok (.invokevirtual 81, 3) := by decide +kernel
theorem dX4_execute_99 : decode cX4_execute 99 = .ok (.goto 158, 3) := by decide +kernel
theorem dX4_execute_102 : decode cX4_execute 102 = .ok (.aload_n 0, 1) := by decide +kernel
theorem dX4_execute_103 : decode cX4_execute 103 = .ok (.iload_n 2, 1) := by decide +kernel
theorem dX4_execute_104 : decode cX4_execute 104 = .ok (.invokevirtual 84, 3) := by decide +kernel
theorem dX4_execute_107 : decode cX4_execute 107 = .ok (.goto 150, 3) := by decide +kernel
theorem dX4_execute_110 : decode cX4_execute 110 = .ok (.aload_n 0, 1) := by decide +kernel
theorem dX4_execute_111 : decode cX4_execute 111 = .ok (.aload_n 0, 1) := by decide +kernel
theorem dX4_execute_112 : decode cX4_execute 112 = .ok (.iload_n 2, 1) := by decide +kernel
theorem dX4_execute_113 : decode cX4_execute 113 = .ok (.invokevirtual 63, 3) := by decide +kernel
theorem dX4_execute_116 : decode cX4_execute 116 = .ok (.putfield 29, 3) := by decide +kernel
theorem dX4_execute_119 : decode cX4_execute 119 = .ok (.goto 138, 3) := by decide +kernel
theorem dX4_execute_122 : decode cX4_execute 122 = .ok (.aload_n 0, 1) := by decide +kernel
theorem dX4_execute_123 : decode cX4_execute 123 = .ok (.iload_n 2, 1) := by decide +kernel
theorem dX4_execute_124 : decode cX4_execute 124 = .ok (.aload_n 0, 1) := by decide +kernel
theorem dX4_execute_125 : decode cX4_execute 125 = .ok (.getfield 29, 3) := by decide +kernel
theorem dX4_execute_128 : decode cX4_execute 128 = .ok (.invokevirtual 87, 3) := by decide +kernel
theorem dX4_execute_131 : decode cX4_execute 131 = .ok (.goto 126, 3) := by decide +kernel
theorem dX4_execute_134 : decode cX4_execute 134 = .ok (.aload_n 0, 1) := by decide +kernel
theorem dX4_execute_135 : decode cX4_execute 135 = .ok (.iload_n 2, 1) := by decide +kernel
theorem dX4_execute_136 : decode cX4_execute 136 = .ok (.invokevirtual 90, 3) := by decide +kernel
theorem dX4_execute_139 : decode cX4_execute 139 = .ok (.goto 118, 3) := by decide +kernel
theorem dX4_execute_142 : decode cX4_execute 142 = .ok (.aload_n 0, 1) := by decide +kernel
theorem dX4_execute_143 : decode cX4_execute 143 = .ok (.iload_n 2, 1) := by decide +kernel
theorem dX4_execute_144 : decode cX4_execute 144 = .ok (.invokevirtual 93, 3) := by decide +kernel
theorem dX4_execute_147 : decode cX4_execute 147 = .ok (.goto 110, 3) := by decide +kernel
theorem dX4_execute_150 : decode cX4_execute 150 = .ok (.aload_n 0, 1) := by decide +kernel
theorem dX4_execute_151 : decode cX4_execute 151 = .ok (.aload_n 0, 1) := by decide +kernel
theorem dX4_execute_152 : decode cX4_execute 152 = .ok (.iload_n 2, 1) := by decide +kernel
theorem dX4_execute_153 : decode cX4_execute 153 = .ok (.invokevirtual 51, 3) := by decide +kernel
theorem dX4_execute_156 : decode cX4_execute 156 = .ok (.sipush 255, 3) := by decide +kernel
theorem dX4_execute_159 : decode cX4_execute 159 = .ok (.iand, 1) := by decide +kernel
theorem dX4_execute_160 : decode cX4_execute 160 = .ok (.putfield 29, 3) := by decide +kernel
theorem dX4_execute_163 : decode cX4_execute 163 = .ok (.goto 94, 3) := by decide +kernel
theorem dX4_execute_166 : decode cX4_execute 166 = .ok (.aload_n 0, 1) := by decide +kernel
theorem dX4_execute_167 : decode cX4_execute 167 = .ok (.aload_n 0, 1) := by decide +kernel
theorem dX4_execute_168 : decode cX4_execute 168 = .ok (.iload_n 2, 1) := by decide +kernel
theorem dX4_execute_169 : decode cX4_execute 169 = .ok (.invokevirtual 51, 3) := by decide +kernel
theorem dX4_execute_172 : decode cX4_execute 172 = .ok (.bipush 8, 2) := by decide +kernel
theorem dX4_execute_174 : decode cX4_execute 174 = .ok (.ishr, 1) := by decide +kernel
theorem dX4_execute_175 : decode cX4_execute 175 = .ok (.putfield 29, 3) := by decide +kernel
theorem dX4_execute_178 : decode cX4_execute 178 = .ok (.goto 79, 3) := by decide +kernel
theorem dX4_execute_181 : decode cX4_execute 181 = .ok (.aload_n 0, 1) := by decide +kernel
theorem dX4_execute_182 : decode cX4_execute 182 = .ok (.iload_n 2, 1) := by decide +kernel
theorem dX4_execute_183 : decode cX4_execute 183 = .ok (.aload_n 0, 1) := by decide +kernel
theorem dX4_execute_184 : decode cX4_execute 184 = .ok (.iload_n 2, 1) := by decide +kernel
theorem dX4_execute_185 : decode cX4_execute 185 = .ok (.invokevirtual 51, 3) := by decide +kernel
theorem dX4_execute_188 : decode cX4_execute 188 = .ok (.ldc 96, 2) := by decide +kernel
theorem dX4_execute_190 : decode cX4_execute 190 = .ok (.iand, 1) := by decide +kernel
theorem dX4_execute_191 : decode cX4_execute 191 = .ok (.aload_n 0, 1) := by decide +kernel
theorem dX4_execute_192 : decode cX4_execute 192 = .ok (.getfield 29, 3) := by decide +kernel
theorem dX4_execute_195 : decode cX4_execute 195 = .ok (.iadd, 1) := by decide +kernel
theorem dX4_execute_196 : decode cX4_execute 196 = .ok (.invokevirtual 56, 3) := by decide +kernel
theorem dX4_execute_199 : decode cX4_execute 199 = .ok (.goto 58, 3) := by decide +kernel
theorem dX4_execute_202 : decode cX4_execute 202 = .ok (.aload_n 0, 1) := by decide +kernel
theorem dX4_execute_203 : decode cX4_execute 203 = .ok (.iload_n 2, 1) := by decide +kernel
theorem dX4_execute_204 : decode cX4_execute 204 = .ok (.aload_n 0, 1) := by decide +kernel
theorem dX4_execute_205 : decode cX4_execute 205 = .ok (.iload_n 2, 1) := by decide +kernel
theorem dX4_execute_206 : decode cX4_execute 206 = .ok (.invokevirtual 51, 3) := by decide +kernel
theorem dX4_execute_209 : decode cX4_execute 209 = .ok (.sipush 255, 3) := by decide +kernel
theorem dX4_execute_212 : decode cX4_execute 212 = .ok (.iand, 1) := by decide +kernel
theorem dX4_execute_213 : decode cX4_execute 213 = .ok (.sipush 256, 3) := by decide +kernel
theorem dX4_execute_216 : decode cX4_execute 216 = .ok (.aload_n 0, 1) := by decide +kernel
theorem dX4_execute_217 : decode cX4_execute 217 = .ok (.getfield 29, 3) := by decide +kernel
theorem dX4_execute_220 : decode cX4_execute 220 = .ok (.imul, 1) := by decide +kernel
theorem dX4_execute_221 : decode cX4_execute 221 = .ok (.iadd, 1) := by decide +kernel
theorem dX4_execute_222 : decode cX4_execute 222 = .ok (.invokevirtual 56, 3) := by decide +kernel
theorem dX4_execute_225 : decode cX4_execute 225 = .ok (.goto 32, 3) := by decide +kernel
theorem dX4_execute_228 : decode cX4_execute 228 = .ok (.aload_n 0, 1) := by decide +kernel
theorem dX4_execute_229 : decode cX4_execute 229 = .ok (.iload_n 2, 1) := by decide +kernel
theorem dX4_execute_230 : decode cX4_execute 230 = .ok (.invokevirtual 97, 3) := by decide +kernel
theorem dX4_execute_233 : decode cX4_execute 233 = .ok (.goto 24, 3) := by decide +kernel
theorem dX4_execute_236 : decode cX4_execute 236 = .ok (.aload_n 0, 1) := by decide +kernel
theorem dX4_execute_237 : decode cX4_execute 237 = .ok (.iload_n 2, 1) := by decide +kernel
theorem dX4_execute_238 : decode cX4_execute 238 = .ok (.putfield 35, 3) := by decide +kernel
theorem dX4_execute_241 : decode cX4_execute 241 = .ok (.goto 16, 3) := by decide +kernel
theorem dX4_execute_244 : decode cX4_execute 244 = .ok (.aload_n 0, 1) := by decide +kernel
theorem dX4_execute_245 : decode cX4_execute 245 = .ok (.iload_n 2, 1) := by decide +kernel
theorem dX4_execute_246 : decode cX4_execute 246 = .ok (.putfield 38, 3) := by decide +kernel
theorem dX4_execute_249 : decode cX4_execute 249 = .ok (.goto 8, 3) := by decide +kernel
theorem dX4_execute_252 : decode cX4_execute 252 = .ok (.aload_n 0, 1) := by decide +kernel
theorem dX4_execute_253 : decode cX4_execute 253 = .ok (.iload_n 2, 1) := by decide +kernel
theorem dX4_execute_254 : decode cX4_execute 254 = .ok (.invokevirtual 100, 3) := by decide +kernel
theorem dX4_execute_257 : decode cX4_execute 257 = .ok (.return_, 1) := by decide +kernel
theorem dX4_loadOrIdle_0 : decode cX4_loadOrIdle 0 = .ok (.iload_n 1, 1) := by decide +kernel
theorem dX4_loadOrIdle_1 : decode cX4_loadOrIdle 1 = .ok (.ifCond .ne 11, 3) := by decide +kernel
theorem dX4_loadOrIdle_4 : decode cX4_loadOrIdle 4 = .ok (.aload_n 0, 1) := by decide +kernel
theorem dX4_loadOrIdle_5 : decode cX4_loadOrIdle 5 = .ok (.iconst 1, 1) := by decide +kernel
theorem dX4_loadOrIdle_6 : decode cX4_loadOrIdle 6 = .ok (.putfield 47, 3) := by decide +kernel
theorem dX4_loadOrIdle_9 : decode cX4_loadOrIdle 9 = .ok (.goto 12, 3) := by decide +kernel
theorem dX4_loadOrIdle_12 : decode cX4_loadOrIdle 12 = .ok (.aload_n 0, 1) := by decide +kernel
theorem dX4_loadOrIdle_13 : decode cX4_loadOrIdle 13 = .ok (.aload_n 0, 1) := by decide +kernel
theorem dX4_loadOrIdle_14 : decode cX4_loadOrIdle 14 = .ok (.iload_n 1, 1) := by decide +kernel
theorem dX4_loadOrIdle_15 : decode cX4_loadOrIdle 15 = .ok (.invokevirtual 103, 3) := by decide +kernel
theorem dX4_loadOrIdle_18 : decode cX4_loadOrIdle 18 = .ok (.putfield 29, 3) := by decide +kernel
theorem dX4_loadOrIdle_21 : decode cX4_loadOrIdle 21 = .ok (.return_, 1) := by decide +kernel
theorem dX4_branch_0 : decode cX4_branch 0 = .ok (.aload_n 0, 1) := by decide +kernel
theorem dX4_branch_1 : decode cX4_branch 1 = .ok (.iload_n 1, 1) := by decide +kernel
theorem dX4_branch_2 : decode cX4_branch 2 = .ok (.invokevirtual 106, 3) := by decide +kernel
theorem dX4_branch_5 : decode cX4_branch 5 = .ok (.ifCond .eq 34, 3) := by decide +kernel
theorem dX4_branch_8 : decode cX4_branch 8 = .ok (.aload_n 0, 1) := by decide +kernel
theorem dX4_branch_9 : decode cX4_branch 9 = .ok (.aload_n 0, 1) := by decide +kernel
theorem dX4_branch_10 : decode cX4_branch 10 = .ok (.getfield 35, 3) := by decide +kernel
theorem dX4_branch_13 : decode cX4_branch 13 = .ok (.aload_n 0, 1) := by decide +kernel
theorem dX4_branch_14 : decode cX4_branch 14 = .ok (.aload_n 0, 1) := by decide +kernel
theorem dX4_branch_15 : decode cX4_branch 15 = .ok (.getfield 35, 3) := by decide +kernel
theorem dX4_branch_18 : decode cX4_branch 18 = .ok (.invokevirtual 51, 3) := by decide +kernel
theorem dX4_branch_21 : decode cX4_branch 21 = .ok (.ldc 96, 2) := by decide +kernel
theorem dX4_branch_23 : decode cX4_branch 23 = .ok (.iand, 1) := by decide +kernel
theorem dX4_branch_24 : decode cX4_branch 24 = .ok (.aload_n 0, 1) := by decide +kernel
theorem dX4_branch_25 : decode cX4_branch 25 = .ok (.aload_n 0, 1) := by decide +kernel
theorem dX4_branch_26 : decode cX4_branch 26 = .ok (.getfield 35, 3) := by decide +kernel
theorem dX4_branch_29 : decode cX4_branch 29 = .ok (.invokevirtual 103, 3) := by decide +kernel
theorem dX4_branch_32 : decode cX4_branch 32 = .ok (.iadd, 1) := by decide +kernel
theorem dX4_branch_33 : decode cX4_branch 33 = .ok (.invokevirtual 56, 3) := by decide +kernel
theorem dX4_branch_36 : decode cX4_branch 36 = .ok (.goto 12, 3) := by decide +kernel
theorem dX4_branch_39 : decode cX4_branch 39 = .ok (.aload_n 0, 1) := by decide +kernel
theorem dX4_branch_40 : decode cX4_branch 40 = .ok (.aload_n 0, 1) := by decide +kernel
theorem dX4_branch_41 : decode cX4_branch 41 = .ok (.getfield 35, 3) := by decide +kernel
theorem dX4_branch_44 : decode cX4_branch 44 = .ok (.iconst 1, 1) := by decide +kernel
theorem dX4_branch_45 : decode cX4_branch 45 = .ok (.invokevirtual 81, 3) := by decide +kernel
theorem dX4_branch_48 : decode cX4_branch 48 = .ok (.return_, 1) := by decide +kernel
theorem dX4_holds_0 : decode cX4_holds 0 = .ok (.iload_n 1, 1) := by decide +kernel
theorem dX4_holds_1 : decode cX4_holds 1 = .ok (.bipush 8, 2) := by decide +kernel
theorem dX4_holds_3 : decode cX4_holds 3 = .ok (.if_icmp .lt 7, 3) := by decide +kernel
theorem dX4_holds_6 : decode cX4_holds 6 = .ok (.iconst 1, 1) := by decide +kernel
theorem dX4_holds_7 : decode cX4_holds 7 = .ok (.goto 4, 3) := by decide +kernel
theorem dX4_holds_10 : decode cX4_holds 10 = .ok (.iconst 0, 1) := by decide +kernel
theorem dX4_holds_11 : decode cX4_holds 11 = .ok (.istore_n 2, 1) := by decide +kernel
theorem dX4_holds_12 : decode cX4_holds 12 = .ok (.iload_n 1, 1) := by decide +kernel
theorem dX4_holds_13 : decode cX4_holds 13 = .ok (.bipush 7, 2) := by decide +kernel
theorem dX4_holds_15 : decode cX4_holds 15 = .ok (.iand, 1) := by decide +kernel
theorem dX4_holds_16 : decode cX4_holds 16 = .ok (.tableswitch 156 0 6 #[44, 54, 77, 99, 122, 156, 139], 44) := by decide +kernel
theorem dX4_holds_60 : decode cX4_holds 60 = .ok (.iload_n 2, 1) := by decide +kernel
theorem dX4_holds_61 : decode cX4_holds 61 = .ok (.ifCond .ne 7, 3) := by decide +kernel
theorem dX4_holds_64 : decode cX4_holds 64 = .ok (.iconst 1, 1) := by decide +kernel
theorem dX4_holds_65 : decode cX4_holds 65 = .ok (.goto 4, 3) := by decide +kernel
theorem dX4_holds_68 : decode cX4_holds 68 = .ok (.iconst 0, 1) := by decide +kernel
theorem dX4_holds_69 : decode cX4_holds 69 = .ok (.ireturn, 1) := by decide +kernel
theorem dX4_holds_70 : decode cX4_holds 70 = .ok (.aload_n 0, 1) := by decide +kernel
theorem dX4_holds_71 : decode cX4_holds 71 = .ok (.getfield 44, 3) := by decide +kernel
theorem dX4_holds_74 : decode cX4_holds 74 = .ok (.iconst 1, 1) := by decide +kernel
theorem dX4_holds_75 : decode cX4_holds 75 = .ok (.if_icmp .ne 7, 3) := by decide +kernel
theorem dX4_holds_78 : decode cX4_holds 78 = .ok (.iconst 1, 1) := by decide +kernel
theorem dX4_holds_79 : decode cX4_holds 79 = .ok (.goto 4, 3) := by decide +kernel
theorem dX4_holds_82 : decode cX4_holds 82 = .ok (.iconst 0, 1) := by decide +kernel
theorem dX4_holds_83 : decode cX4_holds 83 = .ok (.iload_n 2, 1) := by decide +kernel
theorem dX4_holds_84 : decode cX4_holds 84 = .ok (.if_icmp .eq 7, 3) := by decide +kernel
theorem dX4_holds_87 : decode cX4_holds 87 = .ok (.iconst 1, 1) := by decide +kernel
theorem dX4_holds_88 : decode cX4_holds 88 = .ok (.goto 4, 3) := by decide +kernel
theorem dX4_holds_91 : decode cX4_holds 91 = .ok (.iconst 0, 1) := by decide +kernel
theorem dX4_holds_92 : decode cX4_holds 92 = .ok (.ireturn, 1) := by decide +kernel
theorem dX4_holds_93 : decode cX4_holds 93 = .ok (.aload_n 0, 1) := by decide +kernel
theorem dX4_holds_94 : decode cX4_holds 94 = .ok (.getfield 29, 3) := by decide +kernel
theorem dX4_holds_97 : decode cX4_holds 97 = .ok (.ifCond .ne 7, 3) := by decide +kernel
theorem dX4_holds_100 : decode cX4_holds 100 = .ok (.iconst 1, 1) := by decide +kernel
theorem dX4_holds_101 : decode cX4_holds 101 = .ok (.goto 4, 3) := by decide +kernel
theorem dX4_holds_104 : decode cX4_holds 104 = .ok (.iconst 0, 1) := by decide +kernel
theorem dX4_holds_105 : decode cX4_holds 105 = .ok (.iload_n 2, 1) := by decide +kernel
theorem dX4_holds_106 : decode cX4_holds 106 = .ok (.if_icmp .eq 7, 3) := by decide +kernel
theorem dX4_holds_109 : decode cX4_holds 109 = .ok (.iconst 1, 1) := by decide +kernel
theorem dX4_holds_110 : decode cX4_holds 110 = .ok (.goto 4, 3) := by decide +kernel
theorem dX4_holds_113 : decode cX4_holds 113 = .ok (.iconst 0, 1) := by decide +kernel
theorem dX4_holds_114 : decode cX4_holds 114 = .ok (.ireturn, 1) := by decide +kernel
theorem dX4_holds_115 : decode cX4_holds 115 = .ok (.aload_n 0, 1) := by decide +kernel
theorem dX4_holds_116 : decode cX4_holds 116 = .ok (.getfield 32, 3) := by decide +kernel
theorem dX4_holds_119 : decode cX4_holds 119 = .ok (.iconst 1, 1) := by decide +kernel
theorem dX4_holds_120 : decode cX4_holds 120 = .ok (.if_icmp .ne 7, 3) := by decide +kernel
theorem dX4_holds_123 : decode cX4_holds 123 = .ok (.iconst 1, 1) := by decide +kernel
theorem dX4_holds_124 : decode cX4_holds 124 = .ok (.goto 4, 3) := by decide +kernel
theorem dX4_holds_127 : decode cX4_holds 127 = .ok (.iconst 0, 1) := by decide +kernel
theorem dX4_holds_128 : decode cX4_holds 128 = .ok (.iload_n 2, 1) := by decide +kernel
theorem dX4_holds_129 : decode cX4_holds 129 = .ok (.if_icmp .eq 7, 3) := by decide +kernel
theorem dX4_holds_132 : decode cX4_holds 132 = .ok (.iconst 1, 1) := by decide +kernel
theorem dX4_holds_133 : decode cX4_holds 133 = .ok (.goto 4, 3) := by decide +kernel
theorem dX4_holds_136 : decode cX4_holds 136 = .ok (.iconst 0, 1) := by decide +kernel
theorem dX4_holds_137 : decode cX4_holds 137 = .ok (.ireturn, 1) := by decide +kernel
theorem dX4_holds_138 : decode cX4_holds 138 = .ok (.aload_n 0, 1) := by decide +kernel
theorem dX4_holds_139 : decode cX4_holds 139 = .ok (.getfield 25, 3) := by decide +kernel
theorem dX4_holds_142 : decode cX4_holds 142 = .ok (.invokevirtual 110, 3) := by decide +kernel
theorem dX4_holds_145 : decode cX4_holds 145 = .ok (.iload_n 2, 1) := by decide +kernel
theorem dX4_holds_146 : decode cX4_holds 146 = .ok (.if_icmp .eq 7, 3) := by decide +kernel
theorem dX4_holds_149 : decode cX4_holds 149 = .ok (.iconst 1, 1) := by decide +kernel
theorem dX4_holds_150 : decode cX4_holds 150 = .ok (.goto 4, 3) := by decide +kernel
theorem dX4_holds_153 : decode cX4_holds 153 = .ok (.iconst 0, 1) := by decide +kernel
theorem dX4_holds_154 : decode cX4_holds 154 = .ok (.ireturn, 1) := by decide +kernel
theorem dX4_holds_155 : decode cX4_holds 155 = .ok (.aload_n 0, 1) := by decide +kernel
theorem dX4_holds_156 : decode cX4_holds 156 = .ok (.getfield 21, 3) := by decide +kernel
theorem dX4_holds_159 : decode cX4_holds 159 = .ok (.invokevirtual 116, 3) := by decide +kernel
theorem dX4_holds_162 : decode cX4_holds 162 = .ok (.iload_n 2, 1) := by decide +kernel
theorem dX4_holds_163 : decode cX4_holds 163 = .ok (.if_icmp .eq 7, 3) := by decide +kernel
theorem dX4_holds_166 : decode cX4_holds 166 = .ok (.iconst 1, 1) := by decide +kernel
theorem dX4_holds_167 : decode cX4_holds 167 = .ok (.goto 4, 3) := by decide +kernel
theorem dX4_holds_170 : decode cX4_holds 170 = .ok (.iconst 0, 1) := by decide +kernel
theorem dX4_holds_171 : decode cX4_holds 171 = .ok (.ireturn, 1) := by decide +kernel
theorem dX4_holds_172 : decode cX4_holds 172 = .ok (.iload_n 2, 1) := by decide +kernel
theorem dX4_holds_173 : decode cX4_holds 173 = .ok (.ireturn, 1) := by decide +kernel
theorem dX4_transfer_0 : decode cX4_transfer 0 = .ok (.iload_n 1, 1) := by decide +kernel
theorem dX4_transfer_1 : decode cX4_transfer 1 = .ok (.ifCond .ne 15, 3) := by decide +kernel
theorem dX4_transfer_4 : decode cX4_transfer 4 = .ok (.aload_n 0, 1) := by decide +kernel
theorem dX4_transfer_5 : decode cX4_transfer 5 = .ok (.aload_n 0, 1) := by decide +kernel
theorem dX4_transfer_6 : decode cX4_transfer 6 = .ok (.getfield 38, 3) := by decide +kernel
theorem dX4_transfer_9 : decode cX4_transfer 9 = .ok (.iconst 1, 1) := by decide +kernel
theorem dX4_transfer_10 : decode cX4_transfer 10 = .ok (.invokevirtual 81, 3) := by decide +kernel
theorem dX4_transfer_13 : decode cX4_transfer 13 = .ok (.goto 59, 3) := by decide +kernel
theorem dX4_transfer_16 : decode cX4_transfer 16 = .ok (.iload_n 1, 1) := by decide +kernel
theorem dX4_transfer_17 : decode cX4_transfer 17 = .ok (.bipush 8, 2) := by decide +kernel
theorem dX4_transfer_19 : decode cX4_transfer 19 = .ok (.if_icmp .ge 19, 3) := by decide +kernel
theorem dX4_transfer_22 : decode cX4_transfer 22 = .ok (.aload_n 0, 1) := by decide +kernel
theorem dX4_transfer_23 : decode cX4_transfer 23 = .ok (.iload_n 1, 1) := by decide +kernel
theorem dX4_transfer_24 : decode cX4_transfer 24 = .ok (.aload_n 0, 1) := by decide +kernel
theorem dX4_transfer_25 : decode cX4_transfer 25 = .ok (.aload_n 0, 1) := by decide +kernel
theorem dX4_transfer_26 : decode cX4_transfer 26 = .ok (.getfield 38, 3) := by decide +kernel
theorem dX4_transfer_29 : decode cX4_transfer 29 = .ok (.invokevirtual 63, 3) := by decide +kernel
theorem dX4_transfer_32 : decode cX4_transfer 32 = .ok (.invokevirtual 121, 3) := by decide +kernel
theorem dX4_transfer_35 : decode cX4_transfer 35 = .ok (.goto 37, 3) := by decide +kernel
theorem dX4_transfer_38 : decode cX4_transfer 38 = .ok (.iload_n 1, 1) := by decide +kernel
theorem dX4_transfer_39 : decode cX4_transfer 39 = .ok (.bipush 8, 2) := by decide +kernel
theorem dX4_transfer_41 : decode cX4_transfer 41 = .ok (.if_icmp .le 31, 3) := by decide +kernel
theorem dX4_transfer_44 : decode cX4_transfer 44 = .ok (.aload_n 0, 1) := by decide +kernel
theorem dX4_transfer_45 : decode cX4_transfer 45 = .ok (.aload_n 0, 1) := by decide +kernel
theorem dX4_transfer_46 : decode cX4_transfer 46 = .ok (.getfield 38, 3) := by decide +kernel
theorem dX4_transfer_49 : decode cX4_transfer 49 = .ok (.iconst 0, 1) := by decide +kernel
theorem dX4_transfer_50 : decode cX4_transfer 50 = .ok (.invokevirtual 87, 3) := by decide +kernel
theorem dX4_transfer_53 : decode cX4_transfer 53 = .ok (.aload_n 0, 1) := by decide +kernel
theorem dX4_transfer_54 : decode cX4_transfer 54 = .ok (.iconst 0, 1) := by decide +kernel
theorem dX4_transfer_55 : decode cX4_transfer 55 = .ok (.putfield 29, 3) := by decide +kernel
theorem dX4_transfer_58 : decode cX4_transfer 58 = .ok (.iload_n 1, 1) := by decide +kernel
theorem dX4_transfer_59 : decode cX4_transfer 59 = .ok (.bipush 9, 2) := by decide +kernel
theorem dX4_transfer_61 : decode cX4_transfer 61 = .ok (.if_icmp .ne 11, 3) := by decide +kernel
theorem dX4_transfer_64 : decode cX4_transfer 64 = .ok (.aload_n 0, 1) := by decide +kernel
theorem dX4_transfer_65 : decode cX4_transfer 65 = .ok (.getfield 25, 3) := by decide +kernel
theorem dX4_transfer_68 : decode cX4_transfer 68 = .ok (.iconst 1, 1) := by decide +kernel
theorem dX4_transfer_69 : decode cX4_transfer 69 = .ok (.invokevirtual 124, 3) := by decide +kernel
theorem dX4_transfer_72 : decode cX4_transfer 72 = .ok (.return_, 1) := by decide +kernel
theorem dX4_output_0 : decode cX4_output 0 = .ok (.iload_n 1, 1) := by decide +kernel
theorem dX4_output_1 : decode cX4_output 1 = .ok (.iconst 1, 1) := by decide +kernel
theorem dX4_output_2 : decode cX4_output 2 = .ok (.if_icmp .ne 14, 3) := by decide +kernel
theorem dX4_output_5 : decode cX4_output 5 = .ok (.aload_n 0, 1) := by decide +kernel
theorem dX4_output_6 : decode cX4_output 6 = .ok (.getfield 25, 3) := by decide +kernel
theorem dX4_output_9 : decode cX4_output 9 = .ok (.iconst 0, 1) := by decide +kernel
theorem dX4_output_10 : decode cX4_output 10 = .ok (.invokevirtual 124, 3) := by decide +kernel
theorem dX4_output_13 : decode cX4_output 13 = .ok (.goto 16, 3) := by decide +kernel
theorem dX4_output_16 : decode cX4_output 16 = .ok (.iload_n 1, 1) := by decide +kernel
theorem dX4_output_17 : decode cX4_output 17 = .ok (.iconst 2, 1) := by decide +kernel
theorem dX4_output_18 : decode cX4_output 18 = .ok (.if_icmp .ne 11, 3) := by decide +kernel
theorem dX4_output_21 : decode cX4_output 21 = .ok (.aload_n 0, 1) := by decide +kernel
theorem dX4_output_22 : decode cX4_output 22 = .ok (.getfield 21, 3) := by decide +kernel
theorem dX4_output_25 : decode cX4_output 25 = .ok (.iload_n 2, 1) := by decide +kernel
theorem dX4_output_26 : decode cX4_output 26 = .ok (.invokevirtual 128, 3) := by decide +kernel
theorem dX4_output_29 : decode cX4_output 29 = .ok (.return_, 1) := by decide +kernel
theorem dX4_control_0 : decode cX4_control 0 = .ok (.iload_n 1, 1) := by decide +kernel
theorem dX4_control_1 : decode cX4_control 1 = .ok (.tableswitch 179 0 14 #[75, 75, 85, 100, 179, 179, 124, 179, 135, 150, 157, 157, 179, 179, 168], 75) := by decide +kernel
theorem dX4_control_76 : decode cX4_control 76 = .ok (.aload_n 0, 1) := by decide +kernel
theorem dX4_control_77 : decode cX4_control 77 = .ok (.iconst 1, 1) := by decide +kernel
theorem dX4_control_78 : decode cX4_control 78 = .ok (.iload_n 1, 1) := by decide +kernel
theorem dX4_control_79 : decode cX4_control 79 = .ok (.isub, 1) := by decide +kernel
theorem dX4_control_80 : decode cX4_control 80 = .ok (.invokevirtual 131, 3) := by decide +kernel
theorem dX4_control_83 : decode cX4_control 83 = .ok (.goto 120, 3) := by decide +kernel
theorem dX4_control_86 : decode cX4_control 86 = .ok (.aload_n 0, 1) := by decide +kernel
theorem dX4_control_87 : decode cX4_control 87 = .ok (.aload_n 0, 1) := by decide +kernel
theorem dX4_control_88 : decode cX4_control 88 = .ok (.aload_n 0, 1) := by decide +kernel
theorem dX4_control_89 : decode cX4_control 89 = .ok (.getfield 38, 3) := by decide +kernel
theorem dX4_control_92 : decode cX4_control 92 = .ok (.invokevirtual 63, 3) := by decide +kernel
theorem dX4_control_95 : decode cX4_control 95 = .ok (.putfield 29, 3) := by decide +kernel
theorem dX4_control_98 : decode cX4_control 98 = .ok (.goto 105, 3) := by decide +kernel
theorem dX4_control_101 : decode cX4_control 101 = .ok (.aload_n 0, 1) := by decide +kernel
theorem dX4_control_102 : decode cX4_control 102 = .ok (.aload_n 0, 1) := by decide +kernel
theorem dX4_control_103 : decode cX4_control 103 = .ok (.getfield 38, 3) := by decide +kernel
theorem dX4_control_106 : decode cX4_control 106 = .ok (.aload_n 0, 1) := by decide +kernel
theorem dX4_control_107 : decode cX4_control 107 = .ok (.getfield 29, 3) := by decide +kernel
theorem dX4_control_110 : decode cX4_control 110 = .ok (.invokevirtual 87, 3) := by decide +kernel
theorem dX4_control_113 : decode cX4_control 113 = .ok (.aload_n 0, 1) := by decide +kernel
theorem dX4_control_114 : decode cX4_control 114 = .ok (.aload_n 0, 1) := by decide +kernel
theorem dX4_control_115 : decode cX4_control 115 = .ok (.getfield 38, 3) := by decide +kernel
theorem dX4_control_118 : decode cX4_control 118 = .ok (.iconst (-1), 1) := by decide +kernel
theorem dX4_control_119 : decode cX4_control 119 = .ok (.invokevirtual 81, 3) := by decide +kernel
theorem dX4_control_122 : decode cX4_control 122 = .ok (.goto 81, 3) := by decide +kernel
theorem dX4_control_125 : decode cX4_control 125 = .ok (.aload_n 0, 1) := by decide +kernel
theorem dX4_control_126 : decode cX4_control 126 = .ok (.aload_n 0, 1) := by decide +kernel
theorem dX4_control_127 : decode cX4_control 127 = .ok (.getfield 32, 3) := by decide +kernel
theorem dX4_control_130 : decode cX4_control 130 = .ok (.invokevirtual 134, 3) := by decide +kernel
theorem dX4_control_133 : decode cX4_control 133 = .ok (.goto 70, 3) := by decide +kernel
theorem dX4_control_136 : decode cX4_control 136 = .ok (.aload_n 0, 1) := by decide +kernel
theorem dX4_control_137 : decode cX4_control 137 = .ok (.aload_n 0, 1) := by decide +kernel
theorem dX4_control_138 : decode cX4_control 138 = .ok (.getfield 38, 3) := by decide +kernel
theorem dX4_control_141 : decode cX4_control 141 = .ok (.aload_n 0, 1) := by decide +kernel
theorem dX4_control_142 : decode cX4_control 142 = .ok (.getfield 41, 3) := by decide +kernel
theorem dX4_control_145 : decode cX4_control 145 = .ok (.invokevirtual 87, 3) := by decide +kernel
theorem dX4_control_148 : decode cX4_control 148 = .ok (.goto 55, 3) := by decide +kernel
theorem dX4_control_151 : decode cX4_control 151 = .ok (.aload_n 0, 1) := by decide +kernel
theorem dX4_control_152 : decode cX4_control 152 = .ok (.invokevirtual 137, 3) := by decide +kernel
theorem dX4_control_155 : decode cX4_control 155 = .ok (.goto 48, 3) := by decide +kernel
theorem dX4_control_158 : decode cX4_control 158 = .ok (.aload_n 0, 1) := by decide +kernel
theorem dX4_control_159 : decode cX4_control 159 = .ok (.iload_n 1, 1) := by decide +kernel
theorem dX4_control_160 : decode cX4_control 160 = .ok (.bipush 10, 2) := by decide +kernel
theorem dX4_control_162 : decode cX4_control 162 = .ok (.isub, 1) := by decide +kernel
theorem dX4_control_163 : decode cX4_control 163 = .ok (.putfield 44, 3) := by decide +kernel
theorem dX4_control_166 : decode cX4_control 166 = .ok (.goto 37, 3) := by decide +kernel
theorem dX4_control_169 : decode cX4_control 169 = .ok (.aload_n 0, 1) := by decide +kernel
theorem dX4_control_170 : decode cX4_control 170 = .ok (.aload_n 0, 1) := by decide +kernel
theorem dX4_control_171 : decode cX4_control 171 = .ok (.getfield 32, 3) := by decide +kernel
theorem dX4_control_174 : decode cX4_control 174 = .ok (.invokevirtual 140, 3) := by decide +kernel
theorem dX4_control_177 : decode cX4_control 177 = .ok (.goto 26, 3) := by decide +kernel
theorem dX4_control_180 : decode cX4_control 180 = .ok (.aload_n 0, 1) := by decide +kernel
theorem dX4_control_181 : decode cX4_control 181 = .ok (.iload_n 1, 1) := by decide +kernel
theorem dX4_control_182 : decode cX4_control 182 = .ok (.bipush 7, 2) := by decide +kernel
theorem dX4_control_184 : decode cX4_control 184 = .ok (.iand, 1) := by decide +kernel
theorem dX4_control_185 : decode cX4_control 185 = .ok (.aload_n 0, 1) := by decide +kernel
theorem dX4_control_186 : decode cX4_control 186 = .ok (.iload_n 1, 1) := by decide +kernel
theorem dX4_control_187 : decode cX4_control 187 = .ok (.invokevirtual 143, 3) := by decide +kernel
theorem dX4_control_190 : decode cX4_control 190 = .ok (.aload_n 0, 1) := by decide +kernel
theorem dX4_control_191 : decode cX4_control 191 = .ok (.getfield 32, 3) := by decide +kernel
theorem dX4_control_194 : decode cX4_control 194 = .ok (.iconst 1, 1) := by decide +kernel
theorem dX4_control_195 : decode cX4_control 195 = .ok (.aload_n 0, 1) := by decide +kernel
theorem dX4_control_196 : decode cX4_control 196 = .ok (.getfield 32, 3) := by decide +kernel
theorem dX4_control_199 : decode cX4_control 199 = .ok (.isub, 1) := by decide +kernel
theorem dX4_control_200 : decode cX4_control 200 = .ok (.invokevirtual 146, 3) := by decide +kernel
theorem dX4_control_203 : decode cX4_control 203 = .ok (.return_, 1) := by decide +kernel
theorem dX4_resume_0 : decode cX4_resume 0 = .ok (.aload_n 0, 1) := by decide +kernel
theorem dX4_resume_1 : decode cX4_resume 1 = .ok (.aload_n 0, 1) := by decide +kernel
theorem dX4_resume_2 : decode cX4_resume 2 = .ok (.getfield 38, 3) := by decide +kernel
theorem dX4_resume_5 : decode cX4_resume 5 = .ok (.invokevirtual 63, 3) := by decide +kernel
theorem dX4_resume_8 : decode cX4_resume 8 = .ok (.istore_n 2, 1) := by decide +kernel
theorem dX4_resume_9 : decode cX4_resume 9 = .ok (.aload_n 0, 1) := by decide +kernel
theorem dX4_resume_10 : decode cX4_resume 10 = .ok (.iload_n 2, 1) := by decide +kernel
theorem dX4_resume_11 : decode cX4_resume 11 = .ok (.iconst 4, 1) := by decide +kernel
theorem dX4_resume_12 : decode cX4_resume 12 = .ok (.ishr, 1) := by decide +kernel
theorem dX4_resume_13 : decode cX4_resume 13 = .ok (.putfield 38, 3) := by decide +kernel
theorem dX4_resume_16 : decode cX4_resume 16 = .ok (.aload_n 0, 1) := by decide +kernel
theorem dX4_resume_17 : decode cX4_resume 17 = .ok (.iload_n 2, 1) := by decide +kernel
theorem dX4_resume_18 : decode cX4_resume 18 = .ok (.bipush 15, 2) := by decide +kernel
theorem dX4_resume_20 : decode cX4_resume 20 = .ok (.iand, 1) := by decide +kernel
theorem dX4_resume_21 : decode cX4_resume 21 = .ok (.putfield 35, 3) := by decide +kernel
theorem dX4_resume_24 : decode cX4_resume 24 = .ok (.aload_n 0, 1) := by decide +kernel
theorem dX4_resume_25 : decode cX4_resume 25 = .ok (.iload_n 1, 1) := by decide +kernel
theorem dX4_resume_26 : decode cX4_resume 26 = .ok (.putfield 13, 3) := by decide +kernel
theorem dX4_resume_29 : decode cX4_resume 29 = .ok (.return_, 1) := by decide +kernel
theorem dX4_mark_0 : decode cX4_mark 0 = .ok (.aload_n 0, 1) := by decide +kernel
theorem dX4_mark_1 : decode cX4_mark 1 = .ok (.bipush 16, 2) := by decide +kernel
theorem dX4_mark_3 : decode cX4_mark 3 = .ok (.aload_n 0, 1) := by decide +kernel
theorem dX4_mark_4 : decode cX4_mark 4 = .ok (.getfield 38, 3) := by decide +kernel
theorem dX4_mark_7 : decode cX4_mark 7 = .ok (.imul, 1) := by decide +kernel
theorem dX4_mark_8 : decode cX4_mark 8 = .ok (.aload_n 0, 1) := by decide +kernel
theorem dX4_mark_9 : decode cX4_mark 9 = .ok (.getfield 35, 3) := by decide +kernel
theorem dX4_mark_12 : decode cX4_mark 12 = .ok (.iadd, 1) := by decide +kernel
theorem dX4_mark_13 : decode cX4_mark 13 = .ok (.putfield 41, 3) := by decide +kernel
theorem dX4_mark_16 : decode cX4_mark 16 = .ok (.aload_n 0, 1) := by decide +kernel
theorem dX4_mark_17 : decode cX4_mark 17 = .ok (.iconst 2, 1) := by decide +kernel
theorem dX4_mark_18 : decode cX4_mark 18 = .ok (.aload_n 0, 1) := by decide +kernel
theorem dX4_mark_19 : decode cX4_mark 19 = .ok (.getfield 41, 3) := by decide +kernel
theorem dX4_mark_22 : decode cX4_mark 22 = .ok (.invokevirtual 87, 3) := by decide +kernel
theorem dX4_mark_25 : decode cX4_mark 25 = .ok (.aload_n 0, 1) := by decide +kernel
theorem dX4_mark_26 : decode cX4_mark 26 = .ok (.aload_n 0, 1) := by decide +kernel
theorem dX4_mark_27 : decode cX4_mark 27 = .ok (.getfield 35, 3) := by decide +kernel
theorem dX4_mark_30 : decode cX4_mark 30 = .ok (.putfield 38, 3) := by decide +kernel
theorem dX4_mark_33 : decode cX4_mark 33 = .ok (.aload_n 0, 1) := by decide +kernel
theorem dX4_mark_34 : decode cX4_mark 34 = .ok (.iconst 2, 1) := by decide +kernel
theorem dX4_mark_35 : decode cX4_mark 35 = .ok (.iconst (-1), 1) := by decide +kernel
theorem dX4_mark_36 : decode cX4_mark 36 = .ok (.invokevirtual 81, 3) := by decide +kernel
theorem dX4_mark_39 : decode cX4_mark 39 = .ok (.return_, 1) := by decide +kernel
theorem dX4_goFar_0 : decode cX4_goFar 0 = .ok (.iload_n 1, 1) := by decide +kernel
theorem dX4_goFar_1 : decode cX4_goFar 1 = .ok (.iconst 3, 1) := by decide +kernel
theorem dX4_goFar_2 : decode cX4_goFar 2 = .ok (.if_icmp .le 15, 3) := by decide +kernel
theorem dX4_goFar_5 : decode cX4_goFar 5 = .ok (.iload_n 1, 1) := by decide +kernel
theorem dX4_goFar_6 : decode cX4_goFar 6 = .ok (.bipush 9, 2) := by decide +kernel
theorem dX4_goFar_8 : decode cX4_goFar 8 = .ok (.if_icmp .lt 17, 3) := by decide +kernel
theorem dX4_goFar_11 : decode cX4_goFar 11 = .ok (.iload_n 1, 1) := by decide +kernel
theorem dX4_goFar_12 : decode cX4_goFar 12 = .ok (.bipush 11, 2) := by decide +kernel
theorem dX4_goFar_14 : decode cX4_goFar 14 = .ok (.if_icmp .gt 11, 3) := by decide +kernel
theorem dX4_goFar_17 : decode cX4_goFar 17 = .ok (.aload_n 0, 1) := by decide +kernel
theorem dX4_goFar_18 : decode cX4_goFar 18 = .ok (.iload_n 1, 1) := by decide +kernel
theorem dX4_goFar_19 : decode cX4_goFar 19 = .ok (.invokevirtual 150, 3) := by decide +kernel
theorem dX4_goFar_22 : decode cX4_goFar 22 = .ok (.goto 20, 3) := by decide +kernel
theorem dX4_goFar_25 : decode cX4_goFar 25 = .ok (.aload_n 0, 1) := by decide +kernel
theorem dX4_goFar_26 : decode cX4_goFar 26 = .ok (.iload_n 1, 1) := by decide +kernel
theorem dX4_goFar_27 : decode cX4_goFar 27 = .ok (.invokevirtual 153, 3) := by decide +kernel
theorem dX4_goFar_30 : decode cX4_goFar 30 = .ok (.ifCond .eq 12, 3) := by decide +kernel
theorem dX4_goFar_33 : decode cX4_goFar 33 = .ok (.aload_n 0, 1) := by decide +kernel
theorem dX4_goFar_34 : decode cX4_goFar 34 = .ok (.aload_n 0, 1) := by decide +kernel
theorem dX4_goFar_35 : decode cX4_goFar 35 = .ok (.getfield 35, 3) := by decide +kernel
theorem dX4_goFar_38 : decode cX4_goFar 38 = .ok (.iconst 2, 1) := by decide +kernel
theorem dX4_goFar_39 : decode cX4_goFar 39 = .ok (.invokevirtual 81, 3) := by decide +kernel
theorem dX4_goFar_42 : decode cX4_goFar 42 = .ok (.return_, 1) := by decide +kernel
theorem dX4_branchFar_0 : decode cX4_branchFar 0 = .ok (.aload_n 0, 1) := by decide +kernel
theorem dX4_branchFar_1 : decode cX4_branchFar 1 = .ok (.iload_n 1, 1) := by decide +kernel
theorem dX4_branchFar_2 : decode cX4_branchFar 2 = .ok (.invokevirtual 106, 3) := by decide +kernel
theorem dX4_branchFar_5 : decode cX4_branchFar 5 = .ok (.ifCond .eq 29, 3) := by decide +kernel
theorem dX4_branchFar_8 : decode cX4_branchFar 8 = .ok (.aload_n 0, 1) := by decide +kernel
theorem dX4_branchFar_9 : decode cX4_branchFar 9 = .ok (.aload_n 0, 1) := by decide +kernel
theorem dX4_branchFar_10 : decode cX4_branchFar 10 = .ok (.getfield 35, 3) := by decide +kernel
theorem dX4_branchFar_13 : decode cX4_branchFar 13 = .ok (.aload_n 0, 1) := by decide +kernel
theorem dX4_branchFar_14 : decode cX4_branchFar 14 = .ok (.getfield 17, 3) := by decide +kernel
theorem dX4_branchFar_17 : decode cX4_branchFar 17 = .ok (.aload_n 0, 1) := by decide +kernel
theorem dX4_branchFar_18 : decode cX4_branchFar 18 = .ok (.aload_n 0, 1) := by decide +kernel
theorem dX4_branchFar_19 : decode cX4_branchFar 19 = .ok (.getfield 35, 3) := by decide +kernel
theorem dX4_branchFar_22 : decode cX4_branchFar 22 = .ok (.invokevirtual 51, 3) := by decide +kernel
theorem dX4_branchFar_25 : decode cX4_branchFar 25 = .ok (.invokevirtual 156, 3) := by decide +kernel
theorem dX4_branchFar_28 : decode cX4_branchFar 28 = .ok (.invokevirtual 56, 3) := by decide +kernel
theorem dX4_branchFar_31 : decode cX4_branchFar 31 = .ok (.goto 12, 3) := by decide +kernel
theorem dX4_branchFar_34 : decode cX4_branchFar 34 = .ok (.aload_n 0, 1) := by decide +kernel
theorem dX4_branchFar_35 : decode cX4_branchFar 35 = .ok (.aload_n 0, 1) := by decide +kernel
theorem dX4_branchFar_36 : decode cX4_branchFar 36 = .ok (.getfield 35, 3) := by decide +kernel
theorem dX4_branchFar_39 : decode cX4_branchFar 39 = .ok (.iconst 2, 1) := by decide +kernel
theorem dX4_branchFar_40 : decode cX4_branchFar 40 = .ok (.invokevirtual 81, 3) := by decide +kernel
theorem dX4_branchFar_43 : decode cX4_branchFar 43 = .ok (.return_, 1) := by decide +kernel
theorem dX4_skips_0 : decode cX4_skips 0 = .ok (.iload_n 1, 1) := by decide +kernel
theorem dX4_skips_1 : decode cX4_skips 1 = .ok (.tableswitch 155 5 15 #[59, 72, 85, 98, 155, 155, 155, 100, 114, 128, 141], 59) := by decide +kernel
theorem dX4_skips_60 : decode cX4_skips 60 = .ok (.aload_n 0, 1) := by decide +kernel
theorem dX4_skips_61 : decode cX4_skips 61 = .ok (.getfield 44, 3) := by decide +kernel
theorem dX4_skips_64 : decode cX4_skips 64 = .ok (.ifCond .ne 7, 3) := by decide +kernel
theorem dX4_skips_67 : decode cX4_skips 67 = .ok (.iconst 1, 1) := by decide +kernel
theorem dX4_skips_68 : decode cX4_skips 68 = .ok (.goto 4, 3) := by decide +kernel
theorem dX4_skips_71 : decode cX4_skips 71 = .ok (.iconst 0, 1) := by decide +kernel
theorem dX4_skips_72 : decode cX4_skips 72 = .ok (.ireturn, 1) := by decide +kernel
theorem dX4_skips_73 : decode cX4_skips 73 = .ok (.aload_n 0, 1) := by decide +kernel
theorem dX4_skips_74 : decode cX4_skips 74 = .ok (.getfield 29, 3) := by decide +kernel
theorem dX4_skips_77 : decode cX4_skips 77 = .ok (.ifCond .eq 7, 3) := by decide +kernel
theorem dX4_skips_80 : decode cX4_skips 80 = .ok (.iconst 1, 1) := by decide +kernel
theorem dX4_skips_81 : decode cX4_skips 81 = .ok (.goto 4, 3) := by decide +kernel
theorem dX4_skips_84 : decode cX4_skips 84 = .ok (.iconst 0, 1) := by decide +kernel
theorem dX4_skips_85 : decode cX4_skips 85 = .ok (.ireturn, 1) := by decide +kernel
theorem dX4_skips_86 : decode cX4_skips 86 = .ok (.aload_n 0, 1) := by decide +kernel
theorem dX4_skips_87 : decode cX4_skips 87 = .ok (.getfield 32, 3) := by decide +kernel
theorem dX4_skips_90 : decode cX4_skips 90 = .ok (.ifCond .ne 7, 3) := by decide +kernel
theorem dX4_skips_93 : decode cX4_skips 93 = .ok (.iconst 1, 1) := by decide +kernel
theorem dX4_skips_94 : decode cX4_skips 94 = .ok (.goto 4, 3) := by decide +kernel
theorem dX4_skips_97 : decode cX4_skips 97 = .ok (.iconst 0, 1) := by decide +kernel
theorem dX4_skips_98 : decode cX4_skips 98 = .ok (.ireturn, 1) := by decide +kernel
theorem dX4_skips_99 : decode cX4_skips 99 = .ok (.iconst 1, 1) := by decide +kernel
theorem dX4_skips_100 : decode cX4_skips 100 = .ok (.ireturn, 1) := by decide +kernel
theorem dX4_skips_101 : decode cX4_skips 101 = .ok (.aload_n 0, 1) := by decide +kernel
theorem dX4_skips_102 : decode cX4_skips 102 = .ok (.getfield 13, 3) := by decide +kernel
theorem dX4_skips_105 : decode cX4_skips 105 = .ok (.iconst 1, 1) := by decide +kernel
theorem dX4_skips_106 : decode cX4_skips 106 = .ok (.if_icmp .ne 7, 3) := by decide +kernel
theorem dX4_skips_109 : decode cX4_skips 109 = .ok (.iconst 1, 1) := by decide +kernel
theorem dX4_skips_110 : decode cX4_skips 110 = .ok (.goto 4, 3) := by decide +kernel
theorem dX4_skips_113 : decode cX4_skips 113 = .ok (.iconst 0, 1) := by decide +kernel
theorem dX4_skips_114 : decode cX4_skips 114 = .ok (.ireturn, 1) := by decide +kernel
theorem dX4_skips_115 : decode cX4_skips 115 = .ok (.aload_n 0, 1) := by decide +kernel
theorem dX4_skips_116 : decode cX4_skips 116 = .ok (.getfield 44, 3) := by decide +kernel
theorem dX4_skips_119 : decode cX4_skips 119 = .ok (.iconst 1, 1) := by decide +kernel
theorem dX4_skips_120 : decode cX4_skips 120 = .ok (.if_icmp .ne 7, 3) := by decide +kernel
theorem dX4_skips_123 : decode cX4_skips 123 = .ok (.iconst 1, 1) := by decide +kernel
theorem dX4_skips_124 : decode cX4_skips 124 = .ok (.goto 4, 3) := by decide +kernel
theorem dX4_skips_127 : decode cX4_skips 127 = .ok (.iconst 0, 1) := by decide +kernel
theorem dX4_skips_128 : decode cX4_skips 128 = .ok (.ireturn, 1) := by decide +kernel
theorem dX4_skips_129 : decode cX4_skips 129 = .ok (.aload_n 0, 1) := by decide +kernel
theorem dX4_skips_130 : decode cX4_skips 130 = .ok (.getfield 29, 3) := by decide +kernel
theorem dX4_skips_133 : decode cX4_skips 133 = .ok (.ifCond .ne 7, 3) := by decide +kernel
theorem dX4_skips_136 : decode cX4_skips 136 = .ok (.iconst 1, 1) := by decide +kernel
theorem dX4_skips_137 : decode cX4_skips 137 = .ok (.goto 4, 3) := by decide +kernel
theorem dX4_skips_140 : decode cX4_skips 140 = .ok (.iconst 0, 1) := by decide +kernel
theorem dX4_skips_141 : decode cX4_skips 141 = .ok (.ireturn, 1) := by decide +kernel
theorem dX4_skips_142 : decode cX4_skips 142 = .ok (.aload_n 0, 1) := by decide +kernel
theorem dX4_skips_143 : decode cX4_skips 143 = .ok (.getfield 32, 3) := by decide +kernel
theorem dX4_skips_146 : decode cX4_skips 146 = .ok (.iconst 1, 1) := by decide +kernel
theorem dX4_skips_147 : decode cX4_skips 147 = .ok (.if_icmp .ne 7, 3) := by decide +kernel
theorem dX4_skips_150 : decode cX4_skips 150 = .ok (.iconst 1, 1) := by decide +kernel
theorem dX4_skips_151 : decode cX4_skips 151 = .ok (.goto 4, 3) := by decide +kernel
theorem dX4_skips_154 : decode cX4_skips 154 = .ok (.iconst 0, 1) := by decide +kernel
theorem dX4_skips_155 : decode cX4_skips 155 = .ok (.ireturn, 1) := by decide +kernel
theorem dX4_skips_156 : decode cX4_skips 156 = .ok (.iconst 0, 1) := by decide +kernel
theorem dX4_skips_157 : decode cX4_skips 157 = .ok (.ireturn, 1) := by decide +kernel
theorem dX4_calculate_0 : decode cX4_calculate 0 = .ok (.iload_n 1, 1) := by decide +kernel
theorem dX4_calculate_1 : decode cX4_calculate 1 = .ok (.bipush 6, 2) := by decide +kernel
theorem dX4_calculate_3 : decode cX4_calculate 3 = .ok (.if_icmp .ne 11, 3) := by decide +kernel
theorem dX4_calculate_6 : decode cX4_calculate 6 = .ok (.aload_n 0, 1) := by decide +kernel
theorem dX4_calculate_7 : decode cX4_calculate 7 = .ok (.iconst 0, 1) := by decide +kernel
theorem dX4_calculate_8 : decode cX4_calculate 8 = .ok (.invokevirtual 134, 3) := by decide +kernel
theorem dX4_calculate_11 : decode cX4_calculate 11 = .ok (.goto 32, 3) := by decide +kernel
theorem dX4_calculate_14 : decode cX4_calculate 14 = .ok (.iload_n 1, 1) := by decide +kernel
theorem dX4_calculate_15 : decode cX4_calculate 15 = .ok (.bipush 14, 2) := by decide +kernel
theorem dX4_calculate_17 : decode cX4_calculate 17 = .ok (.if_icmp .ne 11, 3) := by decide +kernel
theorem dX4_calculate_20 : decode cX4_calculate 20 = .ok (.aload_n 0, 1) := by decide +kernel
theorem dX4_calculate_21 : decode cX4_calculate 21 = .ok (.iconst 0, 1) := by decide +kernel
theorem dX4_calculate_22 : decode cX4_calculate 22 = .ok (.invokevirtual 140, 3) := by decide +kernel
theorem dX4_calculate_25 : decode cX4_calculate 25 = .ok (.goto 18, 3) := by decide +kernel
theorem dX4_calculate_28 : decode cX4_calculate 28 = .ok (.aload_n 0, 1) := by decide +kernel
theorem dX4_calculate_29 : decode cX4_calculate 29 = .ok (.iload_n 1, 1) := by decide +kernel
theorem dX4_calculate_30 : decode cX4_calculate 30 = .ok (.bipush 7, 2) := by decide +kernel
theorem dX4_calculate_32 : decode cX4_calculate 32 = .ok (.iand, 1) := by decide +kernel
theorem dX4_calculate_33 : decode cX4_calculate 33 = .ok (.aload_n 0, 1) := by decide +kernel
theorem dX4_calculate_34 : decode cX4_calculate 34 = .ok (.iload_n 1, 1) := by decide +kernel
theorem dX4_calculate_35 : decode cX4_calculate 35 = .ok (.invokevirtual 143, 3) := by decide +kernel
theorem dX4_calculate_38 : decode cX4_calculate 38 = .ok (.iconst 0, 1) := by decide +kernel
theorem dX4_calculate_39 : decode cX4_calculate 39 = .ok (.iconst 0, 1) := by decide +kernel
theorem dX4_calculate_40 : decode cX4_calculate 40 = .ok (.invokevirtual 146, 3) := by decide +kernel
theorem dX4_calculate_43 : decode cX4_calculate 43 = .ok (.return_, 1) := by decide +kernel
theorem dX4_operand_0 : decode cX4_operand 0 = .ok (.iload_n 1, 1) := by decide +kernel
theorem dX4_operand_1 : decode cX4_operand 1 = .ok (.bipush 8, 2) := by decide +kernel
theorem dX4_operand_3 : decode cX4_operand 3 = .ok (.if_icmp .ge 14, 3) := by decide +kernel
theorem dX4_operand_6 : decode cX4_operand 6 = .ok (.aload_n 0, 1) := by decide +kernel
theorem dX4_operand_7 : decode cX4_operand 7 = .ok (.aload_n 0, 1) := by decide +kernel
theorem dX4_operand_8 : decode cX4_operand 8 = .ok (.getfield 38, 3) := by decide +kernel
theorem dX4_operand_11 : decode cX4_operand 11 = .ok (.invokevirtual 103, 3) := by decide +kernel
theorem dX4_operand_14 : decode cX4_operand 14 = .ok (.goto 11, 3) := by decide +kernel
theorem dX4_operand_17 : decode cX4_operand 17 = .ok (.aload_n 0, 1) := by decide +kernel
theorem dX4_operand_18 : decode cX4_operand 18 = .ok (.aload_n 0, 1) := by decide +kernel
theorem dX4_operand_19 : decode cX4_operand 19 = .ok (.getfield 35, 3) := by decide +kernel
theorem dX4_operand_22 : decode cX4_operand 22 = .ok (.invokevirtual 63, 3) := by decide +kernel
theorem dX4_operand_25 : decode cX4_operand 25 = .ok (.ireturn, 1) := by decide +kernel
theorem dX4_combine_0 : decode cX4_combine 0 = .ok (.iload_n 1, 1) := by decide +kernel
theorem dX4_combine_1 : decode cX4_combine 1 = .ok (.tableswitch 109 0 5 #[39, 47, 60, 73, 86, 95], 39) := by decide +kernel
theorem dX4_combine_40 : decode cX4_combine 40 = .ok (.aload_n 0, 1) := by decide +kernel
theorem dX4_combine_41 : decode cX4_combine 41 = .ok (.iload_n 2, 1) := by decide +kernel
theorem dX4_combine_42 : decode cX4_combine 42 = .ok (.putfield 29, 3) := by decide +kernel
theorem dX4_combine_45 : decode cX4_combine 45 = .ok (.goto 76, 3) := by decide +kernel
theorem dX4_combine_48 : decode cX4_combine 48 = .ok (.aload_n 0, 1) := by decide +kernel
theorem dX4_combine_49 : decode cX4_combine 49 = .ok (.aload_n 0, 1) := by decide +kernel
theorem dX4_combine_50 : decode cX4_combine 50 = .ok (.getfield 29, 3) := by decide +kernel
theorem dX4_combine_53 : decode cX4_combine 53 = .ok (.iload_n 2, 1) := by decide +kernel
theorem dX4_combine_54 : decode cX4_combine 54 = .ok (.ior, 1) := by decide +kernel
theorem dX4_combine_55 : decode cX4_combine 55 = .ok (.putfield 29, 3) := by decide +kernel
theorem dX4_combine_58 : decode cX4_combine 58 = .ok (.goto 63, 3) := by decide +kernel
theorem dX4_combine_61 : decode cX4_combine 61 = .ok (.aload_n 0, 1) := by decide +kernel
theorem dX4_combine_62 : decode cX4_combine 62 = .ok (.aload_n 0, 1) := by decide +kernel
theorem dX4_combine_63 : decode cX4_combine 63 = .ok (.getfield 29, 3) := by decide +kernel
theorem dX4_combine_66 : decode cX4_combine 66 = .ok (.iload_n 2, 1) := by decide +kernel
theorem dX4_combine_67 : decode cX4_combine 67 = .ok (.iand, 1) := by decide +kernel
theorem dX4_combine_68 : decode cX4_combine 68 = .ok (.putfield 29, 3) := by decide +kernel
theorem dX4_combine_71 : decode cX4_combine 71 = .ok (.goto 50, 3) := by decide +kernel
theorem dX4_combine_74 : decode cX4_combine 74 = .ok (.aload_n 0, 1) := by decide +kernel
theorem dX4_combine_75 : decode cX4_combine 75 = .ok (.aload_n 0, 1) := by decide +kernel
theorem dX4_combine_76 : decode cX4_combine 76 = .ok (.getfield 29, 3) := by decide +kernel
theorem dX4_combine_79 : decode cX4_combine 79 = .ok (.iload_n 2, 1) := by decide +kernel
theorem dX4_combine_80 : decode cX4_combine 80 = .ok (.ixor, 1) := by decide +kernel
theorem dX4_combine_81 : decode cX4_combine 81 = .ok (.putfield 29, 3) := by decide +kernel
theorem dX4_combine_84 : decode cX4_combine 84 = .ok (.goto 37, 3) := by decide +kernel
theorem dX4_combine_87 : decode cX4_combine 87 = .ok (.aload_n 0, 1) := by decide +kernel
theorem dX4_combine_88 : decode cX4_combine 88 = .ok (.iload_n 2, 1) := by decide +kernel
theorem dX4_combine_89 : decode cX4_combine 89 = .ok (.iload_n 3, 1) := by decide +kernel
theorem dX4_combine_90 : decode cX4_combine 90 = .ok (.invokevirtual 159, 3) := by decide +kernel
theorem dX4_combine_93 : decode cX4_combine 93 = .ok (.goto 28, 3) := by decide +kernel
theorem dX4_combine_96 : decode cX4_combine 96 = .ok (.aload_n 0, 1) := by decide +kernel
theorem dX4_combine_97 : decode cX4_combine 97 = .ok (.iload_n 2, 1) := by decide +kernel
theorem dX4_combine_98 : decode cX4_combine 98 = .ok (.aload_n 0, 1) := by decide +kernel
theorem dX4_combine_99 : decode cX4_combine 99 = .ok (.getfield 29, 3) := by decide +kernel
theorem dX4_combine_102 : decode cX4_combine 102 = .ok (.iload 4, 2) := by decide +kernel
theorem dX4_combine_104 : decode cX4_combine 104 = .ok (.invokevirtual 162, 3) := by decide +kernel
theorem dX4_combine_107 : decode cX4_combine 107 = .ok (.goto 14, 3) := by decide +kernel
theorem dX4_combine_110 : decode cX4_combine 110 = .ok (.aload_n 0, 1) := by decide +kernel
theorem dX4_combine_111 : decode cX4_combine 111 = .ok (.aload_n 0, 1) := by decide +kernel
theorem dX4_combine_112 : decode cX4_combine 112 = .ok (.getfield 29, 3) := by decide +kernel
theorem dX4_combine_115 : decode cX4_combine 115 = .ok (.iload_n 2, 1) := by decide +kernel
theorem dX4_combine_116 : decode cX4_combine 116 = .ok (.iload 4, 2) := by decide +kernel
theorem dX4_combine_118 : decode cX4_combine 118 = .ok (.invokevirtual 162, 3) := by decide +kernel
theorem dX4_combine_121 : decode cX4_combine 121 = .ok (.return_, 1) := by decide +kernel
theorem dX4_add_0 : decode cX4_add 0 = .ok (.iload_n 1, 1) := by decide +kernel
theorem dX4_add_1 : decode cX4_add 1 = .ok (.aload_n 0, 1) := by decide +kernel
theorem dX4_add_2 : decode cX4_add 2 = .ok (.getfield 29, 3) := by decide +kernel
theorem dX4_add_5 : decode cX4_add 5 = .ok (.iadd, 1) := by decide +kernel
theorem dX4_add_6 : decode cX4_add 6 = .ok (.iload_n 2, 1) := by decide +kernel
theorem dX4_add_7 : decode cX4_add 7 = .ok (.iadd, 1) := by decide +kernel
theorem dX4_add_8 : decode cX4_add 8 = .ok (.istore_n 3, 1) := by decide +kernel
theorem dX4_add_9 : decode cX4_add 9 = .ok (.aload_n 0, 1) := by decide +kernel
theorem dX4_add_10 : decode cX4_add 10 = .ok (.iload_n 3, 1) := by decide +kernel
theorem dX4_add_11 : decode cX4_add 11 = .ok (.sipush 255, 3) := by decide +kernel
theorem dX4_add_14 : decode cX4_add 14 = .ok (.iand, 1) := by decide +kernel
theorem dX4_add_15 : decode cX4_add 15 = .ok (.putfield 29, 3) := by decide +kernel
theorem dX4_add_18 : decode cX4_add 18 = .ok (.aload_n 0, 1) := by decide +kernel
theorem dX4_add_19 : decode cX4_add 19 = .ok (.iload_n 3, 1) := by decide +kernel
theorem dX4_add_20 : decode cX4_add 20 = .ok (.bipush 8, 2) := by decide +kernel
theorem dX4_add_22 : decode cX4_add 22 = .ok (.ishr, 1) := by decide +kernel
theorem dX4_add_23 : decode cX4_add 23 = .ok (.putfield 32, 3) := by decide +kernel
theorem dX4_add_26 : decode cX4_add 26 = .ok (.return_, 1) := by decide +kernel
theorem dX4_subtract_0 : decode cX4_subtract 0 = .ok (.iload_n 1, 1) := by decide +kernel
theorem dX4_subtract_1 : decode cX4_subtract 1 = .ok (.iload_n 2, 1) := by decide +kernel
theorem dX4_subtract_2 : decode cX4_subtract 2 = .ok (.isub, 1) := by decide +kernel
theorem dX4_subtract_3 : decode cX4_subtract 3 = .ok (.iload_n 3, 1) := by decide +kernel
theorem dX4_subtract_4 : decode cX4_subtract 4 = .ok (.isub, 1) := by decide +kernel
theorem dX4_subtract_5 : decode cX4_subtract 5 = .ok (.istore 4, 2) := by decide +kernel
theorem dX4_subtract_7 : decode cX4_subtract 7 = .ok (.aload_n 0, 1) := by decide +kernel
theorem dX4_subtract_8 : decode cX4_subtract 8 = .ok (.iload 4, 2) := by decide +kernel
theorem dX4_subtract_10 : decode cX4_subtract 10 = .ok (.sipush 255, 3) := by decide +kernel
theorem dX4_subtract_13 : decode cX4_subtract 13 = .ok (.iand, 1) := by decide +kernel
theorem dX4_subtract_14 : decode cX4_subtract 14 = .ok (.putfield 29, 3) := by decide +kernel
theorem dX4_subtract_17 : decode cX4_subtract 17 = .ok (.aload_n 0, 1) := by decide +kernel
theorem dX4_subtract_18 : decode cX4_subtract 18 = .ok (.iload 4, 2) := by decide +kernel
theorem dX4_subtract_20 : decode cX4_subtract 20 = .ok (.ifCond .lt 7, 3) := by decide +kernel
theorem dX4_subtract_23 : decode cX4_subtract 23 = .ok (.iconst 1, 1) := by decide +kernel
theorem dX4_subtract_24 : decode cX4_subtract 24 = .ok (.goto 4, 3) := by decide +kernel
theorem dX4_subtract_27 : decode cX4_subtract 27 = .ok (.iconst 0, 1) := by decide +kernel
theorem dX4_subtract_28 : decode cX4_subtract 28 = .ok (.putfield 32, 3) := by decide +kernel
theorem dX4_subtract_31 : decode cX4_subtract 31 = .ok (.return_, 1) := by decide +kernel
theorem dX4_shiftRight_0 : decode cX4_shiftRight 0 = .ok (.aload_n 0, 1) := by decide +kernel
theorem dX4_shiftRight_1 : decode cX4_shiftRight 1 = .ok (.getfield 29, 3) := by decide +kernel
theorem dX4_shiftRight_4 : decode cX4_shiftRight 4 = .ok (.iconst 1, 1) := by decide +kernel
theorem dX4_shiftRight_5 : decode cX4_shiftRight 5 = .ok (.iand, 1) := by decide +kernel
theorem dX4_shiftRight_6 : decode cX4_shiftRight 6 = .ok (.istore_n 2, 1) := by decide +kernel
theorem dX4_shiftRight_7 : decode cX4_shiftRight 7 = .ok (.aload_n 0, 1) := by decide +kernel
theorem dX4_shiftRight_8 : decode cX4_shiftRight 8 = .ok (.aload_n 0, 1) := by decide +kernel
theorem dX4_shiftRight_9 : decode cX4_shiftRight 9 = .ok (.getfield 29, 3) := by decide +kernel
theorem dX4_shiftRight_12 : decode cX4_shiftRight 12 = .ok (.iconst 1, 1) := by decide +kernel
theorem dX4_shiftRight_13 : decode cX4_shiftRight 13 = .ok (.ishr, 1) := by decide +kernel
theorem dX4_shiftRight_14 : decode cX4_shiftRight 14 = .ok (.iload_n 1, 1) := by decide +kernel
theorem dX4_shiftRight_15 : decode cX4_shiftRight 15 = .ok (.bipush 7, 2) := by decide +kernel
theorem dX4_shiftRight_17 : decode cX4_shiftRight 17 = .ok (.ishl, 1) := by decide +kernel
theorem dX4_shiftRight_18 : decode cX4_shiftRight 18 = .ok (.ior, 1) := by decide +kernel
theorem dX4_shiftRight_19 : decode cX4_shiftRight 19 = .ok (.putfield 29, 3) := by decide +kernel
theorem dX4_shiftRight_22 : decode cX4_shiftRight 22 = .ok (.aload_n 0, 1) := by decide +kernel
theorem dX4_shiftRight_23 : decode cX4_shiftRight 23 = .ok (.iload_n 2, 1) := by decide +kernel
theorem dX4_shiftRight_24 : decode cX4_shiftRight 24 = .ok (.putfield 32, 3) := by decide +kernel
theorem dX4_shiftRight_27 : decode cX4_shiftRight 27 = .ok (.return_, 1) := by decide +kernel
theorem dX4_shiftLeft_0 : decode cX4_shiftLeft 0 = .ok (.aload_n 0, 1) := by decide +kernel
theorem dX4_shiftLeft_1 : decode cX4_shiftLeft 1 = .ok (.getfield 29, 3) := by decide +kernel
theorem dX4_shiftLeft_4 : decode cX4_shiftLeft 4 = .ok (.bipush 7, 2) := by decide +kernel
theorem dX4_shiftLeft_6 : decode cX4_shiftLeft 6 = .ok (.ishr, 1) := by decide +kernel
theorem dX4_shiftLeft_7 : decode cX4_shiftLeft 7 = .ok (.istore_n 2, 1) := by decide +kernel
theorem dX4_shiftLeft_8 : decode cX4_shiftLeft 8 = .ok (.aload_n 0, 1) := by decide +kernel
theorem dX4_shiftLeft_9 : decode cX4_shiftLeft 9 = .ok (.aload_n 0, 1) := by decide +kernel
theorem dX4_shiftLeft_10 : decode cX4_shiftLeft 10 = .ok (.getfield 29, 3) := by decide +kernel
theorem dX4_shiftLeft_13 : decode cX4_shiftLeft 13 = .ok (.iconst 1, 1) := by decide +kernel
theorem dX4_shiftLeft_14 : decode cX4_shiftLeft 14 = .ok (.ishl, 1) := by decide +kernel
theorem dX4_shiftLeft_15 : decode cX4_shiftLeft 15 = .ok (.sipush 255, 3) := by decide +kernel
theorem dX4_shiftLeft_18 : decode cX4_shiftLeft 18 = .ok (.iand, 1) := by decide +kernel
theorem dX4_shiftLeft_19 : decode cX4_shiftLeft 19 = .ok (.iload_n 1, 1) := by decide +kernel
theorem dX4_shiftLeft_20 : decode cX4_shiftLeft 20 = .ok (.ior, 1) := by decide +kernel
theorem dX4_shiftLeft_21 : decode cX4_shiftLeft 21 = .ok (.putfield 29, 3) := by decide +kernel
theorem dX4_shiftLeft_24 : decode cX4_shiftLeft 24 = .ok (.aload_n 0, 1) := by decide +kernel
theorem dX4_shiftLeft_25 : decode cX4_shiftLeft 25 = .ok (.iload_n 2, 1) := by decide +kernel
theorem dX4_shiftLeft_26 : decode cX4_shiftLeft 26 = .ok (.putfield 32, 3) := by decide +kernel
theorem dX4_shiftLeft_29 : decode cX4_shiftLeft 29 = .ok (.return_, 1) := by decide +kernel
end
section
theorem dX7_init_0 : decode cX7_init 0 = .ok (.aload_n 0, 1) := by decide +kernel
theorem dX7_init_1 : decode cX7_init 1 = .ok (.invokespecial 1, 3) := by decide +kernel
theorem dX7_init_4 : decode cX7_init 4 = .ok (.aload_n 0, 1) := by decide +kernel
theorem dX7_init_5 : decode cX7_init 5 = .ok (.sipush 2048, 3) := by decide +kernel
theorem dX7_init_8 : decode cX7_init 8 = .ok (.newarray .int, 2) := by decide +kernel
theorem dX7_init_10 : decode cX7_init 10 = .ok (.putfield 7, 3) := by decide +kernel
theorem dX7_init_13 : decode cX7_init 13 = .ok (.aload_n 0, 1) := by decide +kernel
theorem dX7_init_14 : decode cX7_init 14 = .ok (.bipush 24, 2) := by decide +kernel
theorem dX7_init_16 : decode cX7_init 16 = .ok (.newarray .int, 2) := by decide +kernel
theorem dX7_init_18 : decode cX7_init 18 = .ok (.putfield 13, 3) := by decide +kernel
theorem dX7_init_21 : decode cX7_init 21 = .ok (.aload_n 0, 1) := by decide +kernel
theorem dX7_init_22 : decode cX7_init 22 = .ok (.bipush 22, 2) := by decide +kernel
theorem dX7_init_24 : decode cX7_init 24 = .ok (.newarray .int, 2) := by decide +kernel
theorem dX7_init_26 : decode cX7_init 26 = .ok (.putfield 16, 3) := by decide +kernel
theorem dX7_init_29 : decode cX7_init 29 = .ok (.aload_n 0, 1) := by decide +kernel
theorem dX7_init_30 : decode cX7_init 30 = .ok (.bipush 12, 2) := by decide +kernel
theorem dX7_init_32 : decode cX7_init 32 = .ok (.newarray .int, 2) := by decide +kernel
theorem dX7_init_34 : decode cX7_init 34 = .ok (.putfield 19, 3) := by decide +kernel
theorem dX7_init_37 : decode cX7_init 37 = .ok (.aload_n 0, 1) := by decide +kernel
theorem dX7_init_38 : decode cX7_init 38 = .ok (.bipush 16, 2) := by decide +kernel
theorem dX7_init_40 : decode cX7_init 40 = .ok (.newarray .boolean, 2) := by decide +kernel
theorem dX7_init_42 : decode cX7_init 42 = .ok (.putfield 22, 3) := by decide +kernel
theorem dX7_init_45 : decode cX7_init 45 = .ok (.aload_n 0, 1) := by decide +kernel
theorem dX7_init_46 : decode cX7_init 46 = .ok (.sipush 1024, 3) := by decide +kernel
theorem dX7_init_49 : decode cX7_init 49 = .ok (.newarray .int, 2) := by decide +kernel
theorem dX7_init_51 : decode cX7_init 51 = .ok (.putfield 26, 3) := by decide +kernel
theorem dX7_init_54 : decode cX7_init 54 = .ok (.aload_n 0, 1) := by decide +kernel
theorem dX7_init_55 : decode cX7_init 55 = .ok (.getfield 13, 3) := by decide +kernel
theorem dX7_init_58 : decode cX7_init 58 = .ok (.bipush 21, 2) := by decide +kernel
theorem dX7_init_60 : decode cX7_init 60 = .ok (.iconst 1, 1) := by decide +kernel
theorem dX7_init_61 : decode cX7_init 61 = .ok (.iastore, 1) := by decide +kernel
theorem dX7_init_62 : decode cX7_init 62 = .ok (.aload_n 0, 1) := by decide +kernel
theorem dX7_init_63 : decode cX7_init 63 = .ok (.getfield 16, 3) := by decide +kernel
theorem dX7_init_66 : decode cX7_init 66 = .ok (.bipush 17, 2) := by decide +kernel
theorem dX7_init_68 : decode cX7_init 68 = .ok (.sipush 512, 3) := by decide +kernel
theorem dX7_init_71 : decode cX7_init 71 = .ok (.iastore, 1) := by decide +kernel
theorem dX7_init_72 : decode cX7_init 72 = .ok (.return_, 1) := by decide +kernel
theorem dX7_thrown_0 : decode cX7_thrown 0 = .ok (.aload_n 0, 1) := by decide +kernel
theorem dX7_thrown_1 : decode cX7_thrown 1 = .ok (.getfield 29, 3) := by decide +kernel
theorem dX7_thrown_4 : decode cX7_thrown 4 = .ok (.ireturn, 1) := by decide +kernel
theorem dX7_fails_0 : decode cX7_fails 0 = .ok (.aload_n 0, 1) := by decide +kernel
theorem dX7_fails_1 : decode cX7_fails 1 = .ok (.iload_n 1, 1) := by decide +kernel
theorem dX7_fails_2 : decode cX7_fails 2 = .ok (.ifCond .eq 7, 3) := by decide +kernel
theorem dX7_fails_5 : decode cX7_fails 5 = .ok (.iload_n 2, 1) := by decide +kernel
theorem dX7_fails_6 : decode cX7_fails 6 = .ok (.goto 4, 3) := by decide +kernel
theorem dX7_fails_9 : decode cX7_fails 9 = .ok (.iconst 0, 1) := by decide +kernel
theorem dX7_fails_10 : decode cX7_fails 10 = .ok (.putfield 29, 3) := by decide +kernel
theorem dX7_fails_13 : decode cX7_fails 13 = .ok (.iload_n 1, 1) := by decide +kernel
theorem dX7_fails_14 : decode cX7_fails 14 = .ok (.ireturn, 1) := by decide +kernel
theorem dX7_out_0 : decode cX7_out 0 = .ok (.iload_n 0, 1) := by decide +kernel
theorem dX7_out_1 : decode cX7_out 1 = .ok (.ifCond .lt 8, 3) := by decide +kernel
theorem dX7_out_4 : decode cX7_out 4 = .ok (.iload_n 0, 1) := by decide +kernel
theorem dX7_out_5 : decode cX7_out 5 = .ok (.iload_n 1, 1) := by decide +kernel
theorem dX7_out_6 : decode cX7_out 6 = .ok (.if_icmp .lt 7, 3) := by decide +kernel
theorem dX7_out_9 : decode cX7_out 9 = .ok (.iconst 1, 1) := by decide +kernel
theorem dX7_out_10 : decode cX7_out 10 = .ok (.goto 4, 3) := by decide +kernel
theorem dX7_out_13 : decode cX7_out 13 = .ok (.iconst 0, 1) := by decide +kernel
theorem dX7_out_14 : decode cX7_out 14 = .ok (.ireturn, 1) := by decide +kernel
theorem dX7_byteAt_0 : decode cX7_byteAt 0 = .ok (.aload_n 0, 1) := by decide +kernel
theorem dX7_byteAt_1 : decode cX7_byteAt 1 = .ok (.getfield 7, 3) := by decide +kernel
theorem dX7_byteAt_4 : decode cX7_byteAt 4 = .ok (.iload_n 1, 1) := by decide +kernel
theorem dX7_byteAt_5 : decode cX7_byteAt 5 = .ok (.sipush 2047, 3) := by decide +kernel
theorem dX7_byteAt_8 : decode cX7_byteAt 8 = .ok (.iand, 1) := by decide +kernel
theorem dX7_byteAt_9 : decode cX7_byteAt 9 = .ok (.iaload, 1) := by decide +kernel
theorem dX7_byteAt_10 : decode cX7_byteAt 10 = .ok (.ireturn, 1) := by decide +kernel
theorem dX7_store_0 : decode cX7_store 0 = .ok (.aload_n 0, 1) := by decide +kernel
theorem dX7_store_1 : decode cX7_store 1 = .ok (.getfield 7, 3) := by decide +kernel
theorem dX7_store_4 : decode cX7_store 4 = .ok (.iload_n 1, 1) := by decide +kernel
theorem dX7_store_5 : decode cX7_store 5 = .ok (.sipush 2047, 3) := by decide +kernel
theorem dX7_store_8 : decode cX7_store 8 = .ok (.iand, 1) := by decide +kernel
theorem dX7_store_9 : decode cX7_store 9 = .ok (.iload_n 2, 1) := by decide +kernel
theorem dX7_store_10 : decode cX7_store 10 = .ok (.sipush 255, 3) := by decide +kernel
theorem dX7_store_13 : decode cX7_store 13 = .ok (.iand, 1) := by decide +kernel
theorem dX7_store_14 : decode cX7_store 14 = .ok (.iastore, 1) := by decide +kernel
theorem dX7_store_15 : decode cX7_store 15 = .ok (.return_, 1) := by decide +kernel
theorem dX7_poke_0 : decode cX7_poke 0 = .ok (.aload_n 0, 1) := by decide +kernel
theorem dX7_poke_1 : decode cX7_poke 1 = .ok (.iload_n 1, 1) := by decide +kernel
theorem dX7_poke_2 : decode cX7_poke 2 = .ok (.sipush 2048, 3) := by decide +kernel
theorem dX7_poke_5 : decode cX7_poke 5 = .ok (.invokestatic 33, 3) := by decide +kernel
theorem dX7_poke_8 : decode cX7_poke 8 = .ok (.ifCond .ne 13, 3) := by decide +kernel
theorem dX7_poke_11 : decode cX7_poke 11 = .ok (.iload_n 2, 1) := by decide +kernel
theorem dX7_poke_12 : decode cX7_poke 12 = .ok (.sipush 256, 3) := by decide +kernel
theorem dX7_poke_15 : decode cX7_poke 15 = .ok (.invokestatic 33, 3) := by decide +kernel
theorem dX7_poke_18 : decode cX7_poke 18 = .ok (.ifCond .eq 7, 3) := by decide +kernel
theorem dX7_poke_21 : decode cX7_poke 21 = .ok (.iconst 1, 1) := by decide +kernel
theorem dX7_poke_22 : decode cX7_poke 22 = .ok (.goto 4, 3) := by decide +kernel
theorem dX7_poke_25 : decode cX7_poke 25 = .ok (.iconst 0, 1) := by decide +kernel
theorem dX7_poke_26 : decode cX7_poke 26 = .ok (.iconst 1, 1) := by decide +kernel
theorem dX7_poke_27 : decode cX7_poke 27 = .ok (.invokevirtual 37, 3) := by decide +kernel
theorem dX7_poke_30 : decode cX7_poke 30 = .ok (.ifCond .eq 4, 3) := by decide +kernel
theorem dX7_poke_33 : decode cX7_poke 33 = .ok (.return_, 1) := by decide +kernel
theorem dX7_poke_34 : decode cX7_poke 34 = .ok (.aload_n 0, 1) := by decide +kernel
theorem dX7_poke_35 : decode cX7_poke 35 = .ok (.getfield 7, 3) := by decide +kernel
theorem dX7_poke_38 : decode cX7_poke 38 = .ok (.iload_n 1, 1) := by decide +kernel
theorem dX7_poke_39 : decode cX7_poke 39 = .ok (.iload_n 2, 1) := by decide +kernel
theorem dX7_poke_40 : decode cX7_poke 40 = .ok (.iastore, 1) := by decide +kernel
theorem dX7_poke_41 : decode cX7_poke 41 = .ok (.return_, 1) := by decide +kernel
theorem dX7_peek_0 : decode cX7_peek 0 = .ok (.aload_n 0, 1) := by decide +kernel
theorem dX7_peek_1 : decode cX7_peek 1 = .ok (.iconst 0, 1) := by decide +kernel
theorem dX7_peek_2 : decode cX7_peek 2 = .ok (.putfield 29, 3) := by decide +kernel
theorem dX7_peek_5 : decode cX7_peek 5 = .ok (.iload_n 1, 1) := by decide +kernel
theorem dX7_peek_6 : decode cX7_peek 6 = .ok (.sipush 2048, 3) := by decide +kernel
theorem dX7_peek_9 : decode cX7_peek 9 = .ok (.invokestatic 33, 3) := by decide +kernel
theorem dX7_peek_12 : decode cX7_peek 12 = .ok (.ifCond .eq 7, 3) := by decide +kernel
theorem dX7_peek_15 : decode cX7_peek 15 = .ok (.iconst (-1), 1) := by decide +kernel
theorem dX7_peek_16 : decode cX7_peek 16 = .ok (.goto 9, 3) := by decide +kernel
theorem dX7_peek_19 : decode cX7_peek 19 = .ok (.aload_n 0, 1) := by decide +kernel
theorem dX7_peek_20 : decode cX7_peek 20 = .ok (.getfield 7, 3) := by decide +kernel
theorem dX7_peek_23 : decode cX7_peek 23 = .ok (.iload_n 1, 1) := by decide +kernel
theorem dX7_peek_24 : decode cX7_peek 24 = .ok (.iaload, 1) := by decide +kernel
theorem dX7_peek_25 : decode cX7_peek 25 = .ok (.ireturn, 1) := by decide +kernel
theorem dX7_cpu_0 : decode cX7_cpu 0 = .ok (.aload_n 0, 1) := by decide +kernel
theorem dX7_cpu_1 : decode cX7_cpu 1 = .ok (.iload_n 1, 1) := by decide +kernel
theorem dX7_cpu_2 : decode cX7_cpu 2 = .ok (.bipush 24, 2) := by decide +kernel
theorem dX7_cpu_4 : decode cX7_cpu 4 = .ok (.invokestatic 33, 3) := by decide +kernel
theorem dX7_cpu_7 : decode cX7_cpu 7 = .ok (.iconst 1, 1) := by decide +kernel
theorem dX7_cpu_8 : decode cX7_cpu 8 = .ok (.invokevirtual 37, 3) := by decide +kernel
theorem dX7_cpu_11 : decode cX7_cpu 11 = .ok (.ifCond .eq 7, 3) := by decide +kernel
theorem dX7_cpu_14 : decode cX7_cpu 14 = .ok (.iconst 0, 1) := by decide +kernel
theorem dX7_cpu_15 : decode cX7_cpu 15 = .ok (.goto 9, 3) := by decide +kernel
theorem dX7_cpu_18 : decode cX7_cpu 18 = .ok (.aload_n 0, 1) := by decide +kernel
theorem dX7_cpu_19 : decode cX7_cpu 19 = .ok (.getfield 13, 3) := by decide +kernel
theorem dX7_cpu_22 : decode cX7_cpu 22 = .ok (.iload_n 1, 1) := by decide +kernel
theorem dX7_cpu_23 : decode cX7_cpu 23 = .ok (.iaload, 1) := by decide +kernel
theorem dX7_cpu_24 : decode cX7_cpu 24 = .ok (.ireturn, 1) := by decide +kernel
theorem dX7_set_0 : decode cX7_set 0 = .ok (.iload_n 1, 1) := by decide +kernel
theorem dX7_set_1 : decode cX7_set 1 = .ok (.bipush 16, 2) := by decide +kernel
theorem dX7_set_3 : decode cX7_set 3 = .ok (.if_icmp .ge 8, 3) := by decide +kernel
theorem dX7_set_6 : decode cX7_set 6 = .ok (.ldc 41, 2) := by decide +kernel
theorem dX7_set_8 : decode cX7_set 8 = .ok (.goto 39, 3) := by decide +kernel
theorem dX7_set_11 : decode cX7_set 11 = .ok (.iload_n 1, 1) := by decide +kernel
theorem dX7_set_12 : decode cX7_set 12 = .ok (.bipush 16, 2) := by decide +kernel
theorem dX7_set_14 : decode cX7_set 14 = .ok (.if_icmp .eq 9, 3) := by decide +kernel
theorem dX7_set_17 : decode cX7_set 17 = .ok (.iload_n 1, 1) := by decide +kernel
theorem dX7_set_18 : decode cX7_set 18 = .ok (.bipush 20, 2) := by decide +kernel
theorem dX7_set_20 : decode cX7_set 20 = .ok (.if_icmp .ne 9, 3) := by decide +kernel
theorem dX7_set_23 : decode cX7_set 23 = .ok (.sipush 256, 3) := by decide +kernel
theorem dX7_set_26 : decode cX7_set 26 = .ok (.goto 21, 3) := by decide +kernel
theorem dX7_set_29 : decode cX7_set 29 = .ok (.iload_n 1, 1) := by decide +kernel
theorem dX7_set_30 : decode cX7_set 30 = .ok (.bipush 18, 2) := by decide +kernel
theorem dX7_set_32 : decode cX7_set 32 = .ok (.if_icmp .eq 9, 3) := by decide +kernel
theorem dX7_set_35 : decode cX7_set 35 = .ok (.iload_n 1, 1) := by decide +kernel
theorem dX7_set_36 : decode cX7_set 36 = .ok (.bipush 19, 2) := by decide +kernel
theorem dX7_set_38 : decode cX7_set 38 = .ok (.if_icmp .ne 8, 3) := by decide +kernel
theorem dX7_set_41 : decode cX7_set 41 = .ok (.bipush 16, 2) := by decide +kernel
theorem dX7_set_43 : decode cX7_set 43 = .ok (.goto 4, 3) := by decide +kernel
theorem dX7_set_46 : decode cX7_set 46 = .ok (.iconst 2, 1) := by decide +kernel
theorem dX7_set_47 : decode cX7_set 47 = .ok (.istore_n 3, 1) := by decide +kernel
theorem dX7_set_48 : decode cX7_set 48 = .ok (.aload_n 0, 1) := by decide +kernel
theorem dX7_set_49 : decode cX7_set 49 = .ok (.iload_n 1, 1) := by decide +kernel
theorem dX7_set_50 : decode cX7_set 50 = .ok (.bipush 23, 2) := by decide +kernel
theorem dX7_set_52 : decode cX7_set 52 = .ok (.invokestatic 33, 3) := by decide +kernel
theorem dX7_set_55 : decode cX7_set 55 = .ok (.ifCond .ne 11, 3) := by decide +kernel
theorem dX7_set_58 : decode cX7_set 58 = .ok (.iload_n 2, 1) := by decide +kernel
theorem dX7_set_59 : decode cX7_set 59 = .ok (.iload_n 3, 1) := by decide +kernel
theorem dX7_set_60 : decode cX7_set 60 = .ok (.invokestatic 33, 3) := by decide +kernel
theorem dX7_set_63 : decode cX7_set 63 = .ok (.ifCond .eq 7, 3) := by decide +kernel
theorem dX7_set_66 : decode cX7_set 66 = .ok (.iconst 1, 1) := by decide +kernel
theorem dX7_set_67 : decode cX7_set 67 = .ok (.goto 4, 3) := by decide +kernel
theorem dX7_set_70 : decode cX7_set 70 = .ok (.iconst 0, 1) := by decide +kernel
theorem dX7_set_71 : decode cX7_set 71 = .ok (.iconst 1, 1) := by decide +kernel
theorem dX7_set_72 : decode cX7_set 72 = .ok (.invokevirtual 37, 3) := by decide +kernel
theorem dX7_set_75 : decode cX7_set 75 = .ok (.ifCond .eq 4, 3) := by decide +kernel
theorem dX7_set_78 : decode cX7_set 78 = .ok (.return_, 1) := by decide +kernel
theorem dX7_set_79 : decode cX7_set 79 = .ok (.aload_n 0, 1) := by decide +kernel
theorem dX7_set_80 : decode cX7_set 80 = .ok (.getfield 13, 3) := by decide +kernel
theorem dX7_set_83 : decode cX7_set 83 = .ok (.iload_n 1, 1) := by decide +kernel
theorem dX7_set_84 : decode cX7_set 84 = .ok (.iload_n 2, 1) := by decide +kernel
theorem dX7_set_85 : decode cX7_set 85 = .ok (.iastore, 1) := by decide +kernel
theorem dX7_set_86 : decode cX7_set 86 = .ok (.return_, 1) := by decide +kernel
theorem dX7_grow_0 : decode cX7_grow 0 = .ok (.aload_n 0, 1) := by decide +kernel
theorem dX7_grow_1 : decode cX7_grow 1 = .ok (.getfield 13, 3) := by decide +kernel
theorem dX7_grow_4 : decode cX7_grow 4 = .ok (.iload_n 1, 1) := by decide +kernel
theorem dX7_grow_5 : decode cX7_grow 5 = .ok (.aload_n 0, 1) := by decide +kernel
theorem dX7_grow_6 : decode cX7_grow 6 = .ok (.getfield 13, 3) := by decide +kernel
theorem dX7_grow_9 : decode cX7_grow 9 = .ok (.iload_n 1, 1) := by decide +kernel
theorem dX7_grow_10 : decode cX7_grow 10 = .ok (.iaload, 1) := by decide +kernel
theorem dX7_grow_11 : decode cX7_grow 11 = .ok (.iload_n 2, 1) := by decide +kernel
theorem dX7_grow_12 : decode cX7_grow 12 = .ok (.iadd, 1) := by decide +kernel
theorem dX7_grow_13 : decode cX7_grow 13 = .ok (.ldc 42, 2) := by decide +kernel
theorem dX7_grow_15 : decode cX7_grow 15 = .ok (.iand, 1) := by decide +kernel
theorem dX7_grow_16 : decode cX7_grow 16 = .ok (.iastore, 1) := by decide +kernel
theorem dX7_grow_17 : decode cX7_grow 17 = .ok (.return_, 1) := by decide +kernel
theorem dX7_m_0 : decode cX7_m 0 = .ok (.aload_n 0, 1) := by decide +kernel
theorem dX7_m_1 : decode cX7_m 1 = .ok (.aload_n 0, 1) := by decide +kernel
theorem dX7_m_2 : decode cX7_m 2 = .ok (.getfield 13, 3) := by decide +kernel
theorem dX7_m_5 : decode cX7_m 5 = .ok (.iload_n 1, 1) := by decide +kernel
theorem dX7_m_6 : decode cX7_m 6 = .ok (.iaload, 1) := by decide +kernel
theorem dX7_m_7 : decode cX7_m 7 = .ok (.invokevirtual 43, 3) := by decide +kernel
theorem dX7_m_10 : decode cX7_m 10 = .ok (.ireturn, 1) := by decide +kernel
theorem dX7_next_0 : decode cX7_next 0 = .ok (.aload_n 0, 1) := by decide +kernel
theorem dX7_next_1 : decode cX7_next 1 = .ok (.aload_n 0, 1) := by decide +kernel
theorem dX7_next_2 : decode cX7_next 2 = .ok (.getfield 13, 3) := by decide +kernel
theorem dX7_next_5 : decode cX7_next 5 = .ok (.bipush 18, 2) := by decide +kernel
theorem dX7_next_7 : decode cX7_next 7 = .ok (.iaload, 1) := by decide +kernel
theorem dX7_next_8 : decode cX7_next 8 = .ok (.invokevirtual 47, 3) := by decide +kernel
theorem dX7_next_11 : decode cX7_next 11 = .ok (.istore_n 1, 1) := by decide +kernel
theorem dX7_next_12 : decode cX7_next 12 = .ok (.aload_n 0, 1) := by decide +kernel
theorem dX7_next_13 : decode cX7_next 13 = .ok (.aload_n 0, 1) := by decide +kernel
theorem dX7_next_14 : decode cX7_next 14 = .ok (.getfield 13, 3) := by decide +kernel
theorem dX7_next_17 : decode cX7_next 17 = .ok (.bipush 18, 2) := by decide +kernel
theorem dX7_next_19 : decode cX7_next 19 = .ok (.iaload, 1) := by decide +kernel
theorem dX7_next_20 : decode cX7_next 20 = .ok (.iconst 1, 1) := by decide +kernel
theorem dX7_next_21 : decode cX7_next 21 = .ok (.invokevirtual 50, 3) := by decide +kernel
theorem dX7_next_24 : decode cX7_next 24 = .ok (.iload_n 1, 1) := by decide +kernel
theorem dX7_next_25 : decode cX7_next 25 = .ok (.ireturn, 1) := by decide +kernel
theorem dX7_low_0 : decode cX7_low 0 = .ok (.aload_n 0, 1) := by decide +kernel
theorem dX7_low_1 : decode cX7_low 1 = .ok (.getfield 13, 3) := by decide +kernel
theorem dX7_low_4 : decode cX7_low 4 = .ok (.iload_n 1, 1) := by decide +kernel
theorem dX7_low_5 : decode cX7_low 5 = .ok (.aload_n 0, 1) := by decide +kernel
theorem dX7_low_6 : decode cX7_low 6 = .ok (.getfield 13, 3) := by decide +kernel
theorem dX7_low_9 : decode cX7_low 9 = .ok (.iload_n 1, 1) := by decide +kernel
theorem dX7_low_10 : decode cX7_low 10 = .ok (.iaload, 1) := by decide +kernel
theorem dX7_low_11 : decode cX7_low 11 = .ok (.ldc 54, 2) := by decide +kernel
theorem dX7_low_13 : decode cX7_low 13 = .ok (.iand, 1) := by decide +kernel
theorem dX7_low_14 : decode cX7_low 14 = .ok (.iload_n 2, 1) := by decide +kernel
theorem dX7_low_15 : decode cX7_low 15 = .ok (.ior, 1) := by decide +kernel
theorem dX7_low_16 : decode cX7_low 16 = .ok (.iastore, 1) := by decide +kernel
theorem dX7_low_17 : decode cX7_low 17 = .ok (.return_, 1) := by decide +kernel
theorem dX7_sum_0 : decode cX7_sum 0 = .ok (.aload_n 0, 1) := by decide +kernel
theorem dX7_sum_1 : decode cX7_sum 1 = .ok (.getfield 13, 3) := by decide +kernel
theorem dX7_sum_4 : decode cX7_sum 4 = .ok (.bipush 16, 2) := by decide +kernel
theorem dX7_sum_6 : decode cX7_sum 6 = .ok (.iload_n 1, 1) := by decide +kernel
theorem dX7_sum_7 : decode cX7_sum 7 = .ok (.iload_n 2, 1) := by decide +kernel
theorem dX7_sum_8 : decode cX7_sum 8 = .ok (.iadd, 1) := by decide +kernel
theorem dX7_sum_9 : decode cX7_sum 9 = .ok (.sipush 255, 3) := by decide +kernel
theorem dX7_sum_12 : decode cX7_sum 12 = .ok (.iand, 1) := by decide +kernel
theorem dX7_sum_13 : decode cX7_sum 13 = .ok (.iastore, 1) := by decide +kernel
theorem dX7_sum_14 : decode cX7_sum 14 = .ok (.aload_n 0, 1) := by decide +kernel
theorem dX7_sum_15 : decode cX7_sum 15 = .ok (.getfield 13, 3) := by decide +kernel
theorem dX7_sum_18 : decode cX7_sum 18 = .ok (.bipush 17, 2) := by decide +kernel
theorem dX7_sum_20 : decode cX7_sum 20 = .ok (.iload_n 1, 1) := by decide +kernel
theorem dX7_sum_21 : decode cX7_sum 21 = .ok (.iload_n 2, 1) := by decide +kernel
theorem dX7_sum_22 : decode cX7_sum 22 = .ok (.iadd, 1) := by decide +kernel
theorem dX7_sum_23 : decode cX7_sum 23 = .ok (.bipush 8, 2) := by decide +kernel
theorem dX7_sum_25 : decode cX7_sum 25 = .ok (.ishr, 1) := by decide +kernel
theorem dX7_sum_26 : decode cX7_sum 26 = .ok (.iastore, 1) := by decide +kernel
theorem dX7_sum_27 : decode cX7_sum 27 = .ok (.return_, 1) := by decide +kernel
theorem dX7_sumOn_0 : decode cX7_sumOn 0 = .ok (.iload_n 1, 1) := by decide +kernel
theorem dX7_sumOn_1 : decode cX7_sumOn 1 = .ok (.aload_n 0, 1) := by decide +kernel
theorem dX7_sumOn_2 : decode cX7_sumOn 2 = .ok (.getfield 13, 3) := by decide +kernel
theorem dX7_sumOn_5 : decode cX7_sumOn 5 = .ok (.bipush 16, 2) := by decide +kernel
theorem dX7_sumOn_7 : decode cX7_sumOn 7 = .ok (.iaload, 1) := by decide +kernel
theorem dX7_sumOn_8 : decode cX7_sumOn 8 = .ok (.iadd, 1) := by decide +kernel
theorem dX7_sumOn_9 : decode cX7_sumOn 9 = .ok (.aload_n 0, 1) := by decide +kernel
theorem dX7_sumOn_10 : decode cX7_sumOn 10 = .ok (.getfield 13, 3) := by decide +kernel
theorem dX7_sumOn_13 : decode cX7_sumOn 13 = .ok (.bipush 17, 2) := by decide +kernel
theorem dX7_sumOn_15 : decode cX7_sumOn 15 = .ok (.iaload, 1) := by decide +kernel
theorem dX7_sumOn_16 : decode cX7_sumOn 16 = .ok (.iadd, 1) := by decide +kernel
theorem dX7_sumOn_17 : decode cX7_sumOn 17 = .ok (.istore_n 2, 1) := by decide +kernel
theorem dX7_sumOn_18 : decode cX7_sumOn 18 = .ok (.aload_n 0, 1) := by decide +kernel
theorem dX7_sumOn_19 : decode cX7_sumOn 19 = .ok (.getfield 13, 3) := by decide +kernel
theorem dX7_sumOn_22 : decode cX7_sumOn 22 = .ok (.bipush 16, 2) := by decide +kernel
theorem dX7_sumOn_24 : decode cX7_sumOn 24 = .ok (.iload_n 2, 1) := by decide +kernel
theorem dX7_sumOn_25 : decode cX7_sumOn 25 = .ok (.sipush 255, 3) := by decide +kernel
theorem dX7_sumOn_28 : decode cX7_sumOn 28 = .ok (.iand, 1) := by decide +kernel
theorem dX7_sumOn_29 : decode cX7_sumOn 29 = .ok (.iastore, 1) := by decide +kernel
theorem dX7_sumOn_30 : decode cX7_sumOn 30 = .ok (.aload_n 0, 1) := by decide +kernel
theorem dX7_sumOn_31 : decode cX7_sumOn 31 = .ok (.getfield 13, 3) := by decide +kernel
theorem dX7_sumOn_34 : decode cX7_sumOn 34 = .ok (.bipush 17, 2) := by decide +kernel
theorem dX7_sumOn_36 : decode cX7_sumOn 36 = .ok (.iload_n 2, 1) := by decide +kernel
theorem dX7_sumOn_37 : decode cX7_sumOn 37 = .ok (.bipush 8, 2) := by decide +kernel
theorem dX7_sumOn_39 : decode cX7_sumOn 39 = .ok (.ishr, 1) := by decide +kernel
theorem dX7_sumOn_40 : decode cX7_sumOn 40 = .ok (.iastore, 1) := by decide +kernel
theorem dX7_sumOn_41 : decode cX7_sumOn 41 = .ok (.return_, 1) := by decide +kernel
theorem dX7_less_0 : decode cX7_less 0 = .ok (.iload_n 1, 1) := by decide +kernel
theorem dX7_less_1 : decode cX7_less 1 = .ok (.iload_n 2, 1) := by decide +kernel
theorem dX7_less_2 : decode cX7_less 2 = .ok (.isub, 1) := by decide +kernel
theorem dX7_less_3 : decode cX7_less 3 = .ok (.iload_n 3, 1) := by decide +kernel
theorem dX7_less_4 : decode cX7_less 4 = .ok (.isub, 1) := by decide +kernel
theorem dX7_less_5 : decode cX7_less 5 = .ok (.istore 4, 2) := by decide +kernel
theorem dX7_less_7 : decode cX7_less 7 = .ok (.aload_n 0, 1) := by decide +kernel
theorem dX7_less_8 : decode cX7_less 8 = .ok (.getfield 13, 3) := by decide +kernel
theorem dX7_less_11 : decode cX7_less 11 = .ok (.bipush 16, 2) := by decide +kernel
theorem dX7_less_13 : decode cX7_less 13 = .ok (.iload 4, 2) := by decide +kernel
theorem dX7_less_15 : decode cX7_less 15 = .ok (.sipush 255, 3) := by decide +kernel
theorem dX7_less_18 : decode cX7_less 18 = .ok (.iand, 1) := by decide +kernel
theorem dX7_less_19 : decode cX7_less 19 = .ok (.iastore, 1) := by decide +kernel
theorem dX7_less_20 : decode cX7_less 20 = .ok (.aload_n 0, 1) := by decide +kernel
theorem dX7_less_21 : decode cX7_less 21 = .ok (.getfield 13, 3) := by decide +kernel
theorem dX7_less_24 : decode cX7_less 24 = .ok (.bipush 17, 2) := by decide +kernel
theorem dX7_less_26 : decode cX7_less 26 = .ok (.iload 4, 2) := by decide +kernel
theorem dX7_less_28 : decode cX7_less 28 = .ok (.ifCond .ge 7, 3) := by decide +kernel
theorem dX7_less_31 : decode cX7_less 31 = .ok (.iconst 0, 1) := by decide +kernel
theorem dX7_less_32 : decode cX7_less 32 = .ok (.goto 4, 3) := by decide +kernel
theorem dX7_less_35 : decode cX7_less 35 = .ok (.iconst 1, 1) := by decide +kernel
theorem dX7_less_36 : decode cX7_less 36 = .ok (.iastore, 1) := by decide +kernel
theorem dX7_less_37 : decode cX7_less 37 = .ok (.return_, 1) := by decide +kernel
theorem dX7_right_0 : decode cX7_right 0 = .ok (.aload_n 0, 1) := by decide +kernel
theorem dX7_right_1 : decode cX7_right 1 = .ok (.getfield 13, 3) := by decide +kernel
theorem dX7_right_4 : decode cX7_right 4 = .ok (.bipush 16, 2) := by decide +kernel
theorem dX7_right_6 : decode cX7_right 6 = .ok (.iaload, 1) := by decide +kernel
theorem dX7_right_7 : decode cX7_right 7 = .ok (.iconst 1, 1) := by decide +kernel
theorem dX7_right_8 : decode cX7_right 8 = .ok (.iand, 1) := by decide +kernel
theorem dX7_right_9 : decode cX7_right 9 = .ok (.istore_n 2, 1) := by decide +kernel
theorem dX7_right_10 : decode cX7_right 10 = .ok (.aload_n 0, 1) := by decide +kernel
theorem dX7_right_11 : decode cX7_right 11 = .ok (.getfield 13, 3) := by decide +kernel
theorem dX7_right_14 : decode cX7_right 14 = .ok (.bipush 16, 2) := by decide +kernel
theorem dX7_right_16 : decode cX7_right 16 = .ok (.aload_n 0, 1) := by decide +kernel
theorem dX7_right_17 : decode cX7_right 17 = .ok (.getfield 13, 3) := by decide +kernel
theorem dX7_right_20 : decode cX7_right 20 = .ok (.bipush 16, 2) := by decide +kernel
theorem dX7_right_22 : decode cX7_right 22 = .ok (.iaload, 1) := by decide +kernel
theorem dX7_right_23 : decode cX7_right 23 = .ok (.iconst 1, 1) := by decide +kernel
theorem dX7_right_24 : decode cX7_right 24 = .ok (.ishr, 1) := by decide +kernel
theorem dX7_right_25 : decode cX7_right 25 = .ok (.iload_n 1, 1) := by decide +kernel
theorem dX7_right_26 : decode cX7_right 26 = .ok (.bipush 7, 2) := by decide +kernel
theorem dX7_right_28 : decode cX7_right 28 = .ok (.ishl, 1) := by decide +kernel
theorem dX7_right_29 : decode cX7_right 29 = .ok (.ior, 1) := by decide +kernel
theorem dX7_right_30 : decode cX7_right 30 = .ok (.iastore, 1) := by decide +kernel
theorem dX7_right_31 : decode cX7_right 31 = .ok (.aload_n 0, 1) := by decide +kernel
theorem dX7_right_32 : decode cX7_right 32 = .ok (.getfield 13, 3) := by decide +kernel
theorem dX7_right_35 : decode cX7_right 35 = .ok (.bipush 17, 2) := by decide +kernel
theorem dX7_right_37 : decode cX7_right 37 = .ok (.iload_n 2, 1) := by decide +kernel
theorem dX7_right_38 : decode cX7_right 38 = .ok (.iastore, 1) := by decide +kernel
theorem dX7_right_39 : decode cX7_right 39 = .ok (.return_, 1) := by decide +kernel
theorem dX7_left_0 : decode cX7_left 0 = .ok (.aload_n 0, 1) := by decide +kernel
theorem dX7_left_1 : decode cX7_left 1 = .ok (.getfield 13, 3) := by decide +kernel
theorem dX7_left_4 : decode cX7_left 4 = .ok (.bipush 16, 2) := by decide +kernel
theorem dX7_left_6 : decode cX7_left 6 = .ok (.iaload, 1) := by decide +kernel
theorem dX7_left_7 : decode cX7_left 7 = .ok (.iconst 1, 1) := by decide +kernel
theorem dX7_left_8 : decode cX7_left 8 = .ok (.ishl, 1) := by decide +kernel
theorem dX7_left_9 : decode cX7_left 9 = .ok (.iload_n 1, 1) := by decide +kernel
theorem dX7_left_10 : decode cX7_left 10 = .ok (.ior, 1) := by decide +kernel
theorem dX7_left_11 : decode cX7_left 11 = .ok (.istore_n 2, 1) := by decide +kernel
theorem dX7_left_12 : decode cX7_left 12 = .ok (.aload_n 0, 1) := by decide +kernel
theorem dX7_left_13 : decode cX7_left 13 = .ok (.getfield 13, 3) := by decide +kernel
theorem dX7_left_16 : decode cX7_left 16 = .ok (.bipush 16, 2) := by decide +kernel
theorem dX7_left_18 : decode cX7_left 18 = .ok (.iload_n 2, 1) := by decide +kernel
theorem dX7_left_19 : decode cX7_left 19 = .ok (.sipush 255, 3) := by decide +kernel
theorem dX7_left_22 : decode cX7_left 22 = .ok (.iand, 1) := by decide +kernel
theorem dX7_left_23 : decode cX7_left 23 = .ok (.iastore, 1) := by decide +kernel
theorem dX7_left_24 : decode cX7_left 24 = .ok (.aload_n 0, 1) := by decide +kernel
theorem dX7_left_25 : decode cX7_left 25 = .ok (.getfield 13, 3) := by decide +kernel
theorem dX7_left_28 : decode cX7_left 28 = .ok (.bipush 17, 2) := by decide +kernel
theorem dX7_left_30 : decode cX7_left 30 = .ok (.iload_n 2, 1) := by decide +kernel
theorem dX7_left_31 : decode cX7_left 31 = .ok (.bipush 8, 2) := by decide +kernel
theorem dX7_left_33 : decode cX7_left 33 = .ok (.ishr, 1) := by decide +kernel
theorem dX7_left_34 : decode cX7_left 34 = .ok (.iastore, 1) := by decide +kernel
theorem dX7_left_35 : decode cX7_left 35 = .ok (.return_, 1) := by decide +kernel
theorem dX7_isLight_0 : decode cX7_isLight 0 = .ok (.aload_n 0, 1) := by decide +kernel
theorem dX7_isLight_1 : decode cX7_isLight 1 = .ok (.getfield 55, 3) := by decide +kernel
theorem dX7_isLight_4 : decode cX7_isLight 4 = .ok (.ifCond .eq 45, 3) := by decide +kernel
theorem dX7_isLight_7 : decode cX7_isLight 7 = .ok (.aload_n 0, 1) := by decide +kernel
theorem dX7_isLight_8 : decode cX7_isLight 8 = .ok (.getfield 59, 3) := by decide +kernel
theorem dX7_isLight_11 : decode cX7_isLight 11 = .ok (.bipush 60, 2) := by decide +kernel
theorem dX7_isLight_13 : decode cX7_isLight 13 = .ok (.if_icmp .lt 12, 3) := by decide +kernel
theorem dX7_isLight_16 : decode cX7_isLight 16 = .ok (.aload_n 0, 1) := by decide +kernel
theorem dX7_isLight_17 : decode cX7_isLight 17 = .ok (.getfield 59, 3) := by decide +kernel
theorem dX7_isLight_20 : decode cX7_isLight 20 = .ok (.bipush 64, 2) := by decide +kernel
theorem dX7_isLight_22 : decode cX7_isLight 22 = .ok (.if_icmp .lt 23, 3) := by decide +kernel
theorem dX7_isLight_25 : decode cX7_isLight 25 = .ok (.aload_n 0, 1) := by decide +kernel
theorem dX7_isLight_26 : decode cX7_isLight 26 = .ok (.getfield 59, 3) := by decide +kernel
theorem dX7_isLight_29 : decode cX7_isLight 29 = .ok (.sipush 188, 3) := by decide +kernel
theorem dX7_isLight_32 : decode cX7_isLight 32 = .ok (.if_icmp .lt 17, 3) := by decide +kernel
theorem dX7_isLight_35 : decode cX7_isLight 35 = .ok (.aload_n 0, 1) := by decide +kernel
theorem dX7_isLight_36 : decode cX7_isLight 36 = .ok (.getfield 59, 3) := by decide +kernel
theorem dX7_isLight_39 : decode cX7_isLight 39 = .ok (.sipush 192, 3) := by decide +kernel
theorem dX7_isLight_42 : decode cX7_isLight 42 = .ok (.if_icmp .ge 7, 3) := by decide +kernel
theorem dX7_isLight_45 : decode cX7_isLight 45 = .ok (.iconst 1, 1) := by decide +kernel
theorem dX7_isLight_46 : decode cX7_isLight 46 = .ok (.goto 4, 3) := by decide +kernel
theorem dX7_isLight_49 : decode cX7_isLight 49 = .ok (.iconst 0, 1) := by decide +kernel
theorem dX7_isLight_50 : decode cX7_isLight 50 = .ok (.ireturn, 1) := by decide +kernel
theorem dX7_isSo_0 : decode cX7_isSo 0 = .ok (.iload_n 1, 1) := by decide +kernel
theorem dX7_isSo_1 : decode cX7_isSo 1 = .ok (.bipush 7, 2) := by decide +kernel
theorem dX7_isSo_3 : decode cX7_isSo 3 = .ok (.iand, 1) := by decide +kernel
theorem dX7_isSo_4 : decode cX7_isSo 4 = .ok (.tableswitch 214 0 6 #[44, 54, 90, 125, 161, 214, 185], 44) := by decide +kernel
theorem dX7_isSo_48 : decode cX7_isSo 48 = .ok (.iload_n 1, 1) := by decide +kernel
theorem dX7_isSo_49 : decode cX7_isSo 49 = .ok (.ifCond .ne 7, 3) := by decide +kernel
theorem dX7_isSo_52 : decode cX7_isSo 52 = .ok (.iconst 1, 1) := by decide +kernel
theorem dX7_isSo_53 : decode cX7_isSo 53 = .ok (.goto 4, 3) := by decide +kernel
theorem dX7_isSo_56 : decode cX7_isSo 56 = .ok (.iconst 0, 1) := by decide +kernel
theorem dX7_isSo_57 : decode cX7_isSo 57 = .ok (.ireturn, 1) := by decide +kernel
theorem dX7_isSo_58 : decode cX7_isSo 58 = .ok (.aload_n 0, 1) := by decide +kernel
theorem dX7_isSo_59 : decode cX7_isSo 59 = .ok (.getfield 13, 3) := by decide +kernel
theorem dX7_isSo_62 : decode cX7_isSo 62 = .ok (.bipush 22, 2) := by decide +kernel
theorem dX7_isSo_64 : decode cX7_isSo 64 = .ok (.iaload, 1) := by decide +kernel
theorem dX7_isSo_65 : decode cX7_isSo 65 = .ok (.iconst 1, 1) := by decide +kernel
theorem dX7_isSo_66 : decode cX7_isSo 66 = .ok (.if_icmp .ne 7, 3) := by decide +kernel
theorem dX7_isSo_69 : decode cX7_isSo 69 = .ok (.iconst 1, 1) := by decide +kernel
theorem dX7_isSo_70 : decode cX7_isSo 70 = .ok (.goto 4, 3) := by decide +kernel
theorem dX7_isSo_73 : decode cX7_isSo 73 = .ok (.iconst 0, 1) := by decide +kernel
theorem dX7_isSo_74 : decode cX7_isSo 74 = .ok (.iload_n 1, 1) := by decide +kernel
theorem dX7_isSo_75 : decode cX7_isSo 75 = .ok (.bipush 8, 2) := by decide +kernel
theorem dX7_isSo_77 : decode cX7_isSo 77 = .ok (.if_icmp .ge 7, 3) := by decide +kernel
theorem dX7_isSo_80 : decode cX7_isSo 80 = .ok (.iconst 1, 1) := by decide +kernel
theorem dX7_isSo_81 : decode cX7_isSo 81 = .ok (.goto 4, 3) := by decide +kernel
theorem dX7_isSo_84 : decode cX7_isSo 84 = .ok (.iconst 0, 1) := by decide +kernel
theorem dX7_isSo_85 : decode cX7_isSo 85 = .ok (.if_icmp .ne 7, 3) := by decide +kernel
theorem dX7_isSo_88 : decode cX7_isSo 88 = .ok (.iconst 1, 1) := by decide +kernel
theorem dX7_isSo_89 : decode cX7_isSo 89 = .ok (.goto 4, 3) := by decide +kernel
theorem dX7_isSo_92 : decode cX7_isSo 92 = .ok (.iconst 0, 1) := by decide +kernel
theorem dX7_isSo_93 : decode cX7_isSo 93 = .ok (.ireturn, 1) := by decide +kernel
theorem dX7_isSo_94 : decode cX7_isSo 94 = .ok (.aload_n 0, 1) := by decide +kernel
theorem dX7_isSo_95 : decode cX7_isSo 95 = .ok (.getfield 13, 3) := by decide +kernel
theorem dX7_isSo_98 : decode cX7_isSo 98 = .ok (.bipush 16, 2) := by decide +kernel
theorem dX7_isSo_100 : decode cX7_isSo 100 = .ok (.iaload, 1) := by decide +kernel
theorem dX7_isSo_101 : decode cX7_isSo 101 = .ok (.ifCond .ne 7, 3) := by decide +kernel
theorem dX7_isSo_104 : decode cX7_isSo 104 = .ok (.iconst 1, 1) := by decide +kernel
theorem dX7_isSo_105 : decode cX7_isSo 105 = .ok (.goto 4, 3) := by decide +kernel
theorem dX7_isSo_108 : decode cX7_isSo 108 = .ok (.iconst 0, 1) := by decide +kernel
theorem dX7_isSo_109 : decode cX7_isSo 109 = .ok (.iload_n 1, 1) := by decide +kernel
theorem dX7_isSo_110 : decode cX7_isSo 110 = .ok (.bipush 8, 2) := by decide +kernel
theorem dX7_isSo_112 : decode cX7_isSo 112 = .ok (.if_icmp .ge 7, 3) := by decide +kernel
theorem dX7_isSo_115 : decode cX7_isSo 115 = .ok (.iconst 1, 1) := by decide +kernel
theorem dX7_isSo_116 : decode cX7_isSo 116 = .ok (.goto 4, 3) := by decide +kernel
theorem dX7_isSo_119 : decode cX7_isSo 119 = .ok (.iconst 0, 1) := by decide +kernel
theorem dX7_isSo_120 : decode cX7_isSo 120 = .ok (.if_icmp .ne 7, 3) := by decide +kernel
theorem dX7_isSo_123 : decode cX7_isSo 123 = .ok (.iconst 1, 1) := by decide +kernel
theorem dX7_isSo_124 : decode cX7_isSo 124 = .ok (.goto 4, 3) := by decide +kernel
theorem dX7_isSo_127 : decode cX7_isSo 127 = .ok (.iconst 0, 1) := by decide +kernel
theorem dX7_isSo_128 : decode cX7_isSo 128 = .ok (.ireturn, 1) := by decide +kernel
theorem dX7_isSo_129 : decode cX7_isSo 129 = .ok (.aload_n 0, 1) := by decide +kernel
theorem dX7_isSo_130 : decode cX7_isSo 130 = .ok (.getfield 13, 3) := by decide +kernel
theorem dX7_isSo_133 : decode cX7_isSo 133 = .ok (.bipush 17, 2) := by decide +kernel
theorem dX7_isSo_135 : decode cX7_isSo 135 = .ok (.iaload, 1) := by decide +kernel
theorem dX7_isSo_136 : decode cX7_isSo 136 = .ok (.iconst 1, 1) := by decide +kernel
theorem dX7_isSo_137 : decode cX7_isSo 137 = .ok (.if_icmp .ne 7, 3) := by decide +kernel
theorem dX7_isSo_140 : decode cX7_isSo 140 = .ok (.iconst 1, 1) := by decide +kernel
theorem dX7_isSo_141 : decode cX7_isSo 141 = .ok (.goto 4, 3) := by decide +kernel
theorem dX7_isSo_144 : decode cX7_isSo 144 = .ok (.iconst 0, 1) := by decide +kernel
theorem dX7_isSo_145 : decode cX7_isSo 145 = .ok (.iload_n 1, 1) := by decide +kernel
theorem dX7_isSo_146 : decode cX7_isSo 146 = .ok (.bipush 8, 2) := by decide +kernel
theorem dX7_isSo_148 : decode cX7_isSo 148 = .ok (.if_icmp .ge 7, 3) := by decide +kernel
theorem dX7_isSo_151 : decode cX7_isSo 151 = .ok (.iconst 1, 1) := by decide +kernel
theorem dX7_isSo_152 : decode cX7_isSo 152 = .ok (.goto 4, 3) := by decide +kernel
theorem dX7_isSo_155 : decode cX7_isSo 155 = .ok (.iconst 0, 1) := by decide +kernel
theorem dX7_isSo_156 : decode cX7_isSo 156 = .ok (.if_icmp .ne 7, 3) := by decide +kernel
theorem dX7_isSo_159 : decode cX7_isSo 159 = .ok (.iconst 1, 1) := by decide +kernel
theorem dX7_isSo_160 : decode cX7_isSo 160 = .ok (.goto 4, 3) := by decide +kernel
theorem dX7_isSo_163 : decode cX7_isSo 163 = .ok (.iconst 0, 1) := by decide +kernel
theorem dX7_isSo_164 : decode cX7_isSo 164 = .ok (.ireturn, 1) := by decide +kernel
theorem dX7_isSo_165 : decode cX7_isSo 165 = .ok (.aload_n 0, 1) := by decide +kernel
theorem dX7_isSo_166 : decode cX7_isSo 166 = .ok (.invokevirtual 62, 3) := by decide +kernel
theorem dX7_isSo_169 : decode cX7_isSo 169 = .ok (.iload_n 1, 1) := by decide +kernel
theorem dX7_isSo_170 : decode cX7_isSo 170 = .ok (.bipush 8, 2) := by decide +kernel
theorem dX7_isSo_172 : decode cX7_isSo 172 = .ok (.if_icmp .ge 7, 3) := by decide +kernel
theorem dX7_isSo_175 : decode cX7_isSo 175 = .ok (.iconst 1, 1) := by decide +kernel
theorem dX7_isSo_176 : decode cX7_isSo 176 = .ok (.goto 4, 3) := by decide +kernel
theorem dX7_isSo_179 : decode cX7_isSo 179 = .ok (.iconst 0, 1) := by decide +kernel
theorem dX7_isSo_180 : decode cX7_isSo 180 = .ok (.if_icmp .ne 7, 3) := by decide +kernel
theorem dX7_isSo_183 : decode cX7_isSo 183 = .ok (.iconst 1, 1) := by decide +kernel
theorem dX7_isSo_184 : decode cX7_isSo 184 = .ok (.goto 4, 3) := by decide +kernel
theorem dX7_isSo_187 : decode cX7_isSo 187 = .ok (.iconst 0, 1) := by decide +kernel
theorem dX7_isSo_188 : decode cX7_isSo 188 = .ok (.ireturn, 1) := by decide +kernel
theorem dX7_isSo_189 : decode cX7_isSo 189 = .ok (.aload_n 0, 1) := by decide +kernel
theorem dX7_isSo_190 : decode cX7_isSo 190 = .ok (.getfield 22, 3) := by decide +kernel
theorem dX7_isSo_193 : decode cX7_isSo 193 = .ok (.aload_n 0, 1) := by decide +kernel
theorem dX7_isSo_194 : decode cX7_isSo 194 = .ok (.getfield 66, 3) := by decide +kernel
theorem dX7_isSo_197 : decode cX7_isSo 197 = .ok (.baload, 1) := by decide +kernel
theorem dX7_isSo_198 : decode cX7_isSo 198 = .ok (.iload_n 1, 1) := by decide +kernel
theorem dX7_isSo_199 : decode cX7_isSo 199 = .ok (.bipush 8, 2) := by decide +kernel
theorem dX7_isSo_201 : decode cX7_isSo 201 = .ok (.if_icmp .ge 7, 3) := by decide +kernel
theorem dX7_isSo_204 : decode cX7_isSo 204 = .ok (.iconst 1, 1) := by decide +kernel
theorem dX7_isSo_205 : decode cX7_isSo 205 = .ok (.goto 4, 3) := by decide +kernel
theorem dX7_isSo_208 : decode cX7_isSo 208 = .ok (.iconst 0, 1) := by decide +kernel
theorem dX7_isSo_209 : decode cX7_isSo 209 = .ok (.if_icmp .ne 7, 3) := by decide +kernel
theorem dX7_isSo_212 : decode cX7_isSo 212 = .ok (.iconst 1, 1) := by decide +kernel
theorem dX7_isSo_213 : decode cX7_isSo 213 = .ok (.goto 4, 3) := by decide +kernel
theorem dX7_isSo_216 : decode cX7_isSo 216 = .ok (.iconst 0, 1) := by decide +kernel
theorem dX7_isSo_217 : decode cX7_isSo 217 = .ok (.ireturn, 1) := by decide +kernel
theorem dX7_isSo_218 : decode cX7_isSo 218 = .ok (.iload_n 1, 1) := by decide +kernel
theorem dX7_isSo_219 : decode cX7_isSo 219 = .ok (.bipush 8, 2) := by decide +kernel
theorem dX7_isSo_221 : decode cX7_isSo 221 = .ok (.if_icmp .le 7, 3) := by decide +kernel
theorem dX7_isSo_224 : decode cX7_isSo 224 = .ok (.iconst 1, 1) := by decide +kernel
theorem dX7_isSo_225 : decode cX7_isSo 225 = .ok (.goto 4, 3) := by decide +kernel
theorem dX7_isSo_228 : decode cX7_isSo 228 = .ok (.iconst 0, 1) := by decide +kernel
theorem dX7_isSo_229 : decode cX7_isSo 229 = .ok (.ireturn, 1) := by decide +kernel
theorem dX7_branch_0 : decode cX7_branch 0 = .ok (.aload_n 0, 1) := by decide +kernel
theorem dX7_branch_1 : decode cX7_branch 1 = .ok (.aload_n 0, 1) := by decide +kernel
theorem dX7_branch_2 : decode cX7_branch 2 = .ok (.getfield 13, 3) := by decide +kernel
theorem dX7_branch_5 : decode cX7_branch 5 = .ok (.bipush 18, 2) := by decide +kernel
theorem dX7_branch_7 : decode cX7_branch 7 = .ok (.iaload, 1) := by decide +kernel
theorem dX7_branch_8 : decode cX7_branch 8 = .ok (.invokevirtual 47, 3) := by decide +kernel
theorem dX7_branch_11 : decode cX7_branch 11 = .ok (.istore_n 2, 1) := by decide +kernel
theorem dX7_branch_12 : decode cX7_branch 12 = .ok (.aload_n 0, 1) := by decide +kernel
theorem dX7_branch_13 : decode cX7_branch 13 = .ok (.iload_n 1, 1) := by decide +kernel
theorem dX7_branch_14 : decode cX7_branch 14 = .ok (.invokevirtual 69, 3) := by decide +kernel
theorem dX7_branch_17 : decode cX7_branch 17 = .ok (.ifCond .eq 18, 3) := by decide +kernel
theorem dX7_branch_20 : decode cX7_branch 20 = .ok (.aload_n 0, 1) := by decide +kernel
theorem dX7_branch_21 : decode cX7_branch 21 = .ok (.aload_n 0, 1) := by decide +kernel
theorem dX7_branch_22 : decode cX7_branch 22 = .ok (.getfield 13, 3) := by decide +kernel
theorem dX7_branch_25 : decode cX7_branch 25 = .ok (.bipush 18, 2) := by decide +kernel
theorem dX7_branch_27 : decode cX7_branch 27 = .ok (.iaload, 1) := by decide +kernel
theorem dX7_branch_28 : decode cX7_branch 28 = .ok (.iload_n 2, 1) := by decide +kernel
theorem dX7_branch_29 : decode cX7_branch 29 = .ok (.invokevirtual 73, 3) := by decide +kernel
theorem dX7_branch_32 : decode cX7_branch 32 = .ok (.goto 15, 3) := by decide +kernel
theorem dX7_branch_35 : decode cX7_branch 35 = .ok (.aload_n 0, 1) := by decide +kernel
theorem dX7_branch_36 : decode cX7_branch 36 = .ok (.aload_n 0, 1) := by decide +kernel
theorem dX7_branch_37 : decode cX7_branch 37 = .ok (.getfield 13, 3) := by decide +kernel
theorem dX7_branch_40 : decode cX7_branch 40 = .ok (.bipush 18, 2) := by decide +kernel
theorem dX7_branch_42 : decode cX7_branch 42 = .ok (.iaload, 1) := by decide +kernel
theorem dX7_branch_43 : decode cX7_branch 43 = .ok (.iconst 1, 1) := by decide +kernel
theorem dX7_branch_44 : decode cX7_branch 44 = .ok (.invokevirtual 50, 3) := by decide +kernel
theorem dX7_branch_47 : decode cX7_branch 47 = .ok (.return_, 1) := by decide +kernel
theorem dX7_skips_0 : decode cX7_skips 0 = .ok (.iload_n 1, 1) := by decide +kernel
theorem dX7_skips_1 : decode cX7_skips 1 = .ok (.tableswitch 176 5 15 #[59, 75, 91, 107, 176, 176, 176, 109, 126, 143, 159], 59) := by decide +kernel
theorem dX7_skips_60 : decode cX7_skips 60 = .ok (.aload_n 0, 1) := by decide +kernel
theorem dX7_skips_61 : decode cX7_skips 61 = .ok (.getfield 13, 3) := by decide +kernel
theorem dX7_skips_64 : decode cX7_skips 64 = .ok (.bipush 22, 2) := by decide +kernel
theorem dX7_skips_66 : decode cX7_skips 66 = .ok (.iaload, 1) := by decide +kernel
theorem dX7_skips_67 : decode cX7_skips 67 = .ok (.ifCond .ne 7, 3) := by decide +kernel
theorem dX7_skips_70 : decode cX7_skips 70 = .ok (.iconst 1, 1) := by decide +kernel
theorem dX7_skips_71 : decode cX7_skips 71 = .ok (.goto 4, 3) := by decide +kernel
theorem dX7_skips_74 : decode cX7_skips 74 = .ok (.iconst 0, 1) := by decide +kernel
theorem dX7_skips_75 : decode cX7_skips 75 = .ok (.ireturn, 1) := by decide +kernel
theorem dX7_skips_76 : decode cX7_skips 76 = .ok (.aload_n 0, 1) := by decide +kernel
theorem dX7_skips_77 : decode cX7_skips 77 = .ok (.getfield 13, 3) := by decide +kernel
theorem dX7_skips_80 : decode cX7_skips 80 = .ok (.bipush 16, 2) := by decide +kernel
theorem dX7_skips_82 : decode cX7_skips 82 = .ok (.iaload, 1) := by decide +kernel
theorem dX7_skips_83 : decode cX7_skips 83 = .ok (.ifCond .eq 7, 3) := by decide +kernel
theorem dX7_skips_86 : decode cX7_skips 86 = .ok (.iconst 1, 1) := by decide +kernel
theorem dX7_skips_87 : decode cX7_skips 87 = .ok (.goto 4, 3) := by decide +kernel
theorem dX7_skips_90 : decode cX7_skips 90 = .ok (.iconst 0, 1) := by decide +kernel
theorem dX7_skips_91 : decode cX7_skips 91 = .ok (.ireturn, 1) := by decide +kernel
theorem dX7_skips_92 : decode cX7_skips 92 = .ok (.aload_n 0, 1) := by decide +kernel
theorem dX7_skips_93 : decode cX7_skips 93 = .ok (.getfield 13, 3) := by decide +kernel
theorem dX7_skips_96 : decode cX7_skips 96 = .ok (.bipush 17, 2) := by decide +kernel
theorem dX7_skips_98 : decode cX7_skips 98 = .ok (.iaload, 1) := by decide +kernel
theorem dX7_skips_99 : decode cX7_skips 99 = .ok (.ifCond .ne 7, 3) := by decide +kernel
theorem dX7_skips_102 : decode cX7_skips 102 = .ok (.iconst 1, 1) := by decide +kernel
theorem dX7_skips_103 : decode cX7_skips 103 = .ok (.goto 4, 3) := by decide +kernel
theorem dX7_skips_106 : decode cX7_skips 106 = .ok (.iconst 0, 1) := by decide +kernel
theorem dX7_skips_107 : decode cX7_skips 107 = .ok (.ireturn, 1) := by decide +kernel
theorem dX7_skips_108 : decode cX7_skips 108 = .ok (.iconst 1, 1) := by decide +kernel
theorem dX7_skips_109 : decode cX7_skips 109 = .ok (.ireturn, 1) := by decide +kernel
theorem dX7_skips_110 : decode cX7_skips 110 = .ok (.aload_n 0, 1) := by decide +kernel
theorem dX7_skips_111 : decode cX7_skips 111 = .ok (.getfield 13, 3) := by decide +kernel
theorem dX7_skips_114 : decode cX7_skips 114 = .ok (.bipush 21, 2) := by decide +kernel
theorem dX7_skips_116 : decode cX7_skips 116 = .ok (.iaload, 1) := by decide +kernel
theorem dX7_skips_117 : decode cX7_skips 117 = .ok (.iconst 1, 1) := by decide +kernel
theorem dX7_skips_118 : decode cX7_skips 118 = .ok (.if_icmp .ne 7, 3) := by decide +kernel
theorem dX7_skips_121 : decode cX7_skips 121 = .ok (.iconst 1, 1) := by decide +kernel
theorem dX7_skips_122 : decode cX7_skips 122 = .ok (.goto 4, 3) := by decide +kernel
theorem dX7_skips_125 : decode cX7_skips 125 = .ok (.iconst 0, 1) := by decide +kernel
theorem dX7_skips_126 : decode cX7_skips 126 = .ok (.ireturn, 1) := by decide +kernel
theorem dX7_skips_127 : decode cX7_skips 127 = .ok (.aload_n 0, 1) := by decide +kernel
theorem dX7_skips_128 : decode cX7_skips 128 = .ok (.getfield 13, 3) := by decide +kernel
theorem dX7_skips_131 : decode cX7_skips 131 = .ok (.bipush 22, 2) := by decide +kernel
theorem dX7_skips_133 : decode cX7_skips 133 = .ok (.iaload, 1) := by decide +kernel
theorem dX7_skips_134 : decode cX7_skips 134 = .ok (.iconst 1, 1) := by decide +kernel
theorem dX7_skips_135 : decode cX7_skips 135 = .ok (.if_icmp .ne 7, 3) := by decide +kernel
theorem dX7_skips_138 : decode cX7_skips 138 = .ok (.iconst 1, 1) := by decide +kernel
theorem dX7_skips_139 : decode cX7_skips 139 = .ok (.goto 4, 3) := by decide +kernel
theorem dX7_skips_142 : decode cX7_skips 142 = .ok (.iconst 0, 1) := by decide +kernel
theorem dX7_skips_143 : decode cX7_skips 143 = .ok (.ireturn, 1) := by decide +kernel
theorem dX7_skips_144 : decode cX7_skips 144 = .ok (.aload_n 0, 1) := by decide +kernel
theorem dX7_skips_145 : decode cX7_skips 145 = .ok (.getfield 13, 3) := by decide +kernel
theorem dX7_skips_148 : decode cX7_skips 148 = .ok (.bipush 16, 2) := by decide +kernel
theorem dX7_skips_150 : decode cX7_skips 150 = .ok (.iaload, 1) := by decide +kernel
theorem dX7_skips_151 : decode cX7_skips 151 = .ok (.ifCond .ne 7, 3) := by decide +kernel
theorem dX7_skips_154 : decode cX7_skips 154 = .ok (.iconst 1, 1) := by decide +kernel
theorem dX7_skips_155 : decode cX7_skips 155 = .ok (.goto 4, 3) := by decide +kernel
theorem dX7_skips_158 : decode cX7_skips 158 = .ok (.iconst 0, 1) := by decide +kernel
theorem dX7_skips_159 : decode cX7_skips 159 = .ok (.ireturn, 1) := by decide +kernel
theorem dX7_skips_160 : decode cX7_skips 160 = .ok (.aload_n 0, 1) := by decide +kernel
theorem dX7_skips_161 : decode cX7_skips 161 = .ok (.getfield 13, 3) := by decide +kernel
theorem dX7_skips_164 : decode cX7_skips 164 = .ok (.bipush 17, 2) := by decide +kernel
theorem dX7_skips_166 : decode cX7_skips 166 = .ok (.iaload, 1) := by decide +kernel
theorem dX7_skips_167 : decode cX7_skips 167 = .ok (.iconst 1, 1) := by decide +kernel
theorem dX7_skips_168 : decode cX7_skips 168 = .ok (.if_icmp .ne 7, 3) := by decide +kernel
theorem dX7_skips_171 : decode cX7_skips 171 = .ok (.iconst 1, 1) := by decide +kernel
theorem dX7_skips_172 : decode cX7_skips 172 = .ok (.goto 4, 3) := by decide +kernel
theorem dX7_skips_175 : decode cX7_skips 175 = .ok (.iconst 0, 1) := by decide +kernel
theorem dX7_skips_176 : decode cX7_skips 176 = .ok (.ireturn, 1) := by decide +kernel
theorem dX7_skips_177 : decode cX7_skips 177 = .ok (.iconst 0, 1) := by decide +kernel
theorem dX7_skips_178 : decode cX7_skips 178 = .ok (.ireturn, 1) := by decide +kernel
theorem dX7_wide_0 : decode cX7_wide 0 = .ok (.iload_n 1, 1) := by decide +kernel
theorem dX7_wide_1 : decode cX7_wide 1 = .ok (.bipush 7, 2) := by decide +kernel
theorem dX7_wide_3 : decode cX7_wide 3 = .ok (.iand, 1) := by decide +kernel
theorem dX7_wide_4 : decode cX7_wide 4 = .ok (.iconst 4, 1) := by decide +kernel
theorem dX7_wide_5 : decode cX7_wide 5 = .ok (.if_icmp .ge 82, 3) := by decide +kernel
theorem dX7_wide_8 : decode cX7_wide 8 = .ok (.iload_n 1, 1) := by decide +kernel
theorem dX7_wide_9 : decode cX7_wide 9 = .ok (.bipush 8, 2) := by decide +kernel
theorem dX7_wide_11 : decode cX7_wide 11 = .ok (.if_icmp .eq 76, 3) := by decide +kernel
theorem dX7_wide_14 : decode cX7_wide 14 = .ok (.aload_n 0, 1) := by decide +kernel
theorem dX7_wide_15 : decode cX7_wide 15 = .ok (.aload_n 0, 1) := by decide +kernel
theorem dX7_wide_16 : decode cX7_wide 16 = .ok (.getfield 13, 3) := by decide +kernel
theorem dX7_wide_19 : decode cX7_wide 19 = .ok (.bipush 18, 2) := by decide +kernel
theorem dX7_wide_21 : decode cX7_wide 21 = .ok (.iaload, 1) := by decide +kernel
theorem dX7_wide_22 : decode cX7_wide 22 = .ok (.invokevirtual 47, 3) := by decide +kernel
theorem dX7_wide_25 : decode cX7_wide 25 = .ok (.bipush 8, 2) := by decide +kernel
theorem dX7_wide_27 : decode cX7_wide 27 = .ok (.ishl, 1) := by decide +kernel
theorem dX7_wide_28 : decode cX7_wide 28 = .ok (.aload_n 0, 1) := by decide +kernel
theorem dX7_wide_29 : decode cX7_wide 29 = .ok (.aload_n 0, 1) := by decide +kernel
theorem dX7_wide_30 : decode cX7_wide 30 = .ok (.getfield 13, 3) := by decide +kernel
theorem dX7_wide_33 : decode cX7_wide 33 = .ok (.aload_n 0, 1) := by decide +kernel
theorem dX7_wide_34 : decode cX7_wide 34 = .ok (.getfield 13, 3) := by decide +kernel
theorem dX7_wide_37 : decode cX7_wide 37 = .ok (.bipush 18, 2) := by decide +kernel
theorem dX7_wide_39 : decode cX7_wide 39 = .ok (.iaload, 1) := by decide +kernel
theorem dX7_wide_40 : decode cX7_wide 40 = .ok (.iaload, 1) := by decide +kernel
theorem dX7_wide_41 : decode cX7_wide 41 = .ok (.iconst 1, 1) := by decide +kernel
theorem dX7_wide_42 : decode cX7_wide 42 = .ok (.iadd, 1) := by decide +kernel
theorem dX7_wide_43 : decode cX7_wide 43 = .ok (.invokevirtual 43, 3) := by decide +kernel
theorem dX7_wide_46 : decode cX7_wide 46 = .ok (.ior, 1) := by decide +kernel
theorem dX7_wide_47 : decode cX7_wide 47 = .ok (.istore_n 2, 1) := by decide +kernel
theorem dX7_wide_48 : decode cX7_wide 48 = .ok (.aload_n 0, 1) := by decide +kernel
theorem dX7_wide_49 : decode cX7_wide 49 = .ok (.iload_n 1, 1) := by decide +kernel
theorem dX7_wide_50 : decode cX7_wide 50 = .ok (.invokevirtual 69, 3) := by decide +kernel
theorem dX7_wide_53 : decode cX7_wide 53 = .ok (.ifCond .eq 19, 3) := by decide +kernel
theorem dX7_wide_56 : decode cX7_wide 56 = .ok (.aload_n 0, 1) := by decide +kernel
theorem dX7_wide_57 : decode cX7_wide 57 = .ok (.getfield 13, 3) := by decide +kernel
theorem dX7_wide_60 : decode cX7_wide 60 = .ok (.aload_n 0, 1) := by decide +kernel
theorem dX7_wide_61 : decode cX7_wide 61 = .ok (.getfield 13, 3) := by decide +kernel
theorem dX7_wide_64 : decode cX7_wide 64 = .ok (.bipush 18, 2) := by decide +kernel
theorem dX7_wide_66 : decode cX7_wide 66 = .ok (.iaload, 1) := by decide +kernel
theorem dX7_wide_67 : decode cX7_wide 67 = .ok (.iload_n 2, 1) := by decide +kernel
theorem dX7_wide_68 : decode cX7_wide 68 = .ok (.iastore, 1) := by decide +kernel
theorem dX7_wide_69 : decode cX7_wide 69 = .ok (.goto 15, 3) := by decide +kernel
theorem dX7_wide_72 : decode cX7_wide 72 = .ok (.aload_n 0, 1) := by decide +kernel
theorem dX7_wide_73 : decode cX7_wide 73 = .ok (.aload_n 0, 1) := by decide +kernel
theorem dX7_wide_74 : decode cX7_wide 74 = .ok (.getfield 13, 3) := by decide +kernel
theorem dX7_wide_77 : decode cX7_wide 77 = .ok (.bipush 18, 2) := by decide +kernel
theorem dX7_wide_79 : decode cX7_wide 79 = .ok (.iaload, 1) := by decide +kernel
theorem dX7_wide_80 : decode cX7_wide 80 = .ok (.iconst 2, 1) := by decide +kernel
theorem dX7_wide_81 : decode cX7_wide 81 = .ok (.invokevirtual 50, 3) := by decide +kernel
theorem dX7_wide_84 : decode cX7_wide 84 = .ok (.goto 23, 3) := by decide +kernel
theorem dX7_wide_87 : decode cX7_wide 87 = .ok (.aload_n 0, 1) := by decide +kernel
theorem dX7_wide_88 : decode cX7_wide 88 = .ok (.iload_n 1, 1) := by decide +kernel
theorem dX7_wide_89 : decode cX7_wide 89 = .ok (.invokevirtual 76, 3) := by decide +kernel
theorem dX7_wide_92 : decode cX7_wide 92 = .ok (.ifCond .eq 15, 3) := by decide +kernel
theorem dX7_wide_95 : decode cX7_wide 95 = .ok (.aload_n 0, 1) := by decide +kernel
theorem dX7_wide_96 : decode cX7_wide 96 = .ok (.aload_n 0, 1) := by decide +kernel
theorem dX7_wide_97 : decode cX7_wide 97 = .ok (.getfield 13, 3) := by decide +kernel
theorem dX7_wide_100 : decode cX7_wide 100 = .ok (.bipush 18, 2) := by decide +kernel
theorem dX7_wide_102 : decode cX7_wide 102 = .ok (.iaload, 1) := by decide +kernel
theorem dX7_wide_103 : decode cX7_wide 103 = .ok (.iconst 2, 1) := by decide +kernel
theorem dX7_wide_104 : decode cX7_wide 104 = .ok (.invokevirtual 50, 3) := by decide +kernel
theorem dX7_wide_107 : decode cX7_wide 107 = .ok (.return_, 1) := by decide +kernel
theorem dX7_port_0 : decode cX7_port 0 = .ok (.iload_n 1, 1) := by decide +kernel
theorem dX7_port_1 : decode cX7_port 1 = .ok (.bipush 8, 2) := by decide +kernel
theorem dX7_port_3 : decode cX7_port 3 = .ok (.if_icmp .ne 4, 3) := by decide +kernel
theorem dX7_port_6 : decode cX7_port 6 = .ok (.return_, 1) := by decide +kernel
theorem dX7_port_7 : decode cX7_port 7 = .ok (.iload_n 1, 1) := by decide +kernel
theorem dX7_port_8 : decode cX7_port 8 = .ok (.bipush 8, 2) := by decide +kernel
theorem dX7_port_10 : decode cX7_port 10 = .ok (.if_icmp .le 51, 3) := by decide +kernel
theorem dX7_port_13 : decode cX7_port 13 = .ok (.aload_n 0, 1) := by decide +kernel
theorem dX7_port_14 : decode cX7_port 14 = .ok (.aload_n 0, 1) := by decide +kernel
theorem dX7_port_15 : decode cX7_port 15 = .ok (.getfield 13, 3) := by decide +kernel
theorem dX7_port_18 : decode cX7_port 18 = .ok (.aload_n 0, 1) := by decide +kernel
theorem dX7_port_19 : decode cX7_port 19 = .ok (.getfield 13, 3) := by decide +kernel
theorem dX7_port_22 : decode cX7_port 22 = .ok (.bipush 19, 2) := by decide +kernel
theorem dX7_port_24 : decode cX7_port 24 = .ok (.iaload, 1) := by decide +kernel
theorem dX7_port_25 : decode cX7_port 25 = .ok (.iaload, 1) := by decide +kernel
theorem dX7_port_26 : decode cX7_port 26 = .ok (.iconst 0, 1) := by decide +kernel
theorem dX7_port_27 : decode cX7_port 27 = .ok (.invokevirtual 79, 3) := by decide +kernel
theorem dX7_port_30 : decode cX7_port 30 = .ok (.aload_n 0, 1) := by decide +kernel
theorem dX7_port_31 : decode cX7_port 31 = .ok (.getfield 13, 3) := by decide +kernel
theorem dX7_port_34 : decode cX7_port 34 = .ok (.bipush 16, 2) := by decide +kernel
theorem dX7_port_36 : decode cX7_port 36 = .ok (.iconst 0, 1) := by decide +kernel
theorem dX7_port_37 : decode cX7_port 37 = .ok (.iastore, 1) := by decide +kernel
theorem dX7_port_38 : decode cX7_port 38 = .ok (.aload_n 0, 1) := by decide +kernel
theorem dX7_port_39 : decode cX7_port 39 = .ok (.aload_n 0, 1) := by decide +kernel
theorem dX7_port_40 : decode cX7_port 40 = .ok (.getfield 55, 3) := by decide +kernel
theorem dX7_port_43 : decode cX7_port 43 = .ok (.ifCond .ne 9, 3) := by decide +kernel
theorem dX7_port_46 : decode cX7_port 46 = .ok (.iload_n 1, 1) := by decide +kernel
theorem dX7_port_47 : decode cX7_port 47 = .ok (.bipush 9, 2) := by decide +kernel
theorem dX7_port_49 : decode cX7_port 49 = .ok (.if_icmp .ne 7, 3) := by decide +kernel
theorem dX7_port_52 : decode cX7_port 52 = .ok (.iconst 1, 1) := by decide +kernel
theorem dX7_port_53 : decode cX7_port 53 = .ok (.goto 4, 3) := by decide +kernel
theorem dX7_port_56 : decode cX7_port 56 = .ok (.iconst 0, 1) := by decide +kernel
theorem dX7_port_57 : decode cX7_port 57 = .ok (.putfield 55, 3) := by decide +kernel
theorem dX7_port_60 : decode cX7_port 60 = .ok (.return_, 1) := by decide +kernel
theorem dX7_port_61 : decode cX7_port 61 = .ok (.iload_n 1, 1) := by decide +kernel
theorem dX7_port_62 : decode cX7_port 62 = .ok (.iconst 1, 1) := by decide +kernel
theorem dX7_port_63 : decode cX7_port 63 = .ok (.if_icmp .ne 8, 3) := by decide +kernel
theorem dX7_port_66 : decode cX7_port 66 = .ok (.aload_n 0, 1) := by decide +kernel
theorem dX7_port_67 : decode cX7_port 67 = .ok (.iconst 0, 1) := by decide +kernel
theorem dX7_port_68 : decode cX7_port 68 = .ok (.putfield 55, 3) := by decide +kernel
theorem dX7_port_71 : decode cX7_port 71 = .ok (.iload_n 1, 1) := by decide +kernel
theorem dX7_port_72 : decode cX7_port 72 = .ok (.iconst 2, 1) := by decide +kernel
theorem dX7_port_73 : decode cX7_port 73 = .ok (.if_icmp .ne 21, 3) := by decide +kernel
theorem dX7_port_76 : decode cX7_port 76 = .ok (.aload_n 0, 1) := by decide +kernel
theorem dX7_port_77 : decode cX7_port 77 = .ok (.aload_n 0, 1) := by decide +kernel
theorem dX7_port_78 : decode cX7_port 78 = .ok (.aload_n 0, 1) := by decide +kernel
theorem dX7_port_79 : decode cX7_port 79 = .ok (.getfield 13, 3) := by decide +kernel
theorem dX7_port_82 : decode cX7_port 82 = .ok (.bipush 19, 2) := by decide +kernel
theorem dX7_port_84 : decode cX7_port 84 = .ok (.iaload, 1) := by decide +kernel
theorem dX7_port_85 : decode cX7_port 85 = .ok (.invokevirtual 47, 3) := by decide +kernel
theorem dX7_port_88 : decode cX7_port 88 = .ok (.bipush 15, 2) := by decide +kernel
theorem dX7_port_90 : decode cX7_port 90 = .ok (.iand, 1) := by decide +kernel
theorem dX7_port_91 : decode cX7_port 91 = .ok (.putfield 66, 3) := by decide +kernel
theorem dX7_port_94 : decode cX7_port 94 = .ok (.aload_n 0, 1) := by decide +kernel
theorem dX7_port_95 : decode cX7_port 95 = .ok (.aload_n 0, 1) := by decide +kernel
theorem dX7_port_96 : decode cX7_port 96 = .ok (.getfield 13, 3) := by decide +kernel
theorem dX7_port_99 : decode cX7_port 99 = .ok (.bipush 19, 2) := by decide +kernel
theorem dX7_port_101 : decode cX7_port 101 = .ok (.iaload, 1) := by decide +kernel
theorem dX7_port_102 : decode cX7_port 102 = .ok (.iconst 1, 1) := by decide +kernel
theorem dX7_port_103 : decode cX7_port 103 = .ok (.invokevirtual 50, 3) := by decide +kernel
theorem dX7_port_106 : decode cX7_port 106 = .ok (.return_, 1) := by decide +kernel
theorem dX7_comeBack_0 : decode cX7_comeBack 0 = .ok (.aload_n 0, 1) := by decide +kernel
theorem dX7_comeBack_1 : decode cX7_comeBack 1 = .ok (.aload_n 0, 1) := by decide +kernel
theorem dX7_comeBack_2 : decode cX7_comeBack 2 = .ok (.getfield 13, 3) := by decide +kernel
theorem dX7_comeBack_5 : decode cX7_comeBack 5 = .ok (.bipush 19, 2) := by decide +kernel
theorem dX7_comeBack_7 : decode cX7_comeBack 7 = .ok (.iaload, 1) := by decide +kernel
theorem dX7_comeBack_8 : decode cX7_comeBack 8 = .ok (.invokevirtual 47, 3) := by decide +kernel
theorem dX7_comeBack_11 : decode cX7_comeBack 11 = .ok (.istore_n 2, 1) := by decide +kernel
theorem dX7_comeBack_12 : decode cX7_comeBack 12 = .ok (.aload_n 0, 1) := by decide +kernel
theorem dX7_comeBack_13 : decode cX7_comeBack 13 = .ok (.aload_n 0, 1) := by decide +kernel
theorem dX7_comeBack_14 : decode cX7_comeBack 14 = .ok (.getfield 13, 3) := by decide +kernel
theorem dX7_comeBack_17 : decode cX7_comeBack 17 = .ok (.bipush 19, 2) := by decide +kernel
theorem dX7_comeBack_19 : decode cX7_comeBack 19 = .ok (.iaload, 1) := by decide +kernel
theorem dX7_comeBack_20 : decode cX7_comeBack 20 = .ok (.iconst 1, 1) := by decide +kernel
theorem dX7_comeBack_21 : decode cX7_comeBack 21 = .ok (.invokevirtual 50, 3) := by decide +kernel
theorem dX7_comeBack_24 : decode cX7_comeBack 24 = .ok (.aload_n 0, 1) := by decide +kernel
theorem dX7_comeBack_25 : decode cX7_comeBack 25 = .ok (.getfield 13, 3) := by decide +kernel
theorem dX7_comeBack_28 : decode cX7_comeBack 28 = .ok (.bipush 19, 2) := by decide +kernel
theorem dX7_comeBack_30 : decode cX7_comeBack 30 = .ok (.iload_n 2, 1) := by decide +kernel
theorem dX7_comeBack_31 : decode cX7_comeBack 31 = .ok (.iconst 4, 1) := by decide +kernel
theorem dX7_comeBack_32 : decode cX7_comeBack 32 = .ok (.ishr, 1) := by decide +kernel
theorem dX7_comeBack_33 : decode cX7_comeBack 33 = .ok (.iastore, 1) := by decide +kernel
theorem dX7_comeBack_34 : decode cX7_comeBack 34 = .ok (.aload_n 0, 1) := by decide +kernel
theorem dX7_comeBack_35 : decode cX7_comeBack 35 = .ok (.getfield 13, 3) := by decide +kernel
theorem dX7_comeBack_38 : decode cX7_comeBack 38 = .ok (.bipush 18, 2) := by decide +kernel
theorem dX7_comeBack_40 : decode cX7_comeBack 40 = .ok (.iload_n 2, 1) := by decide +kernel
theorem dX7_comeBack_41 : decode cX7_comeBack 41 = .ok (.bipush 15, 2) := by decide +kernel
theorem dX7_comeBack_43 : decode cX7_comeBack 43 = .ok (.iand, 1) := by decide +kernel
theorem dX7_comeBack_44 : decode cX7_comeBack 44 = .ok (.iastore, 1) := by decide +kernel
theorem dX7_comeBack_45 : decode cX7_comeBack 45 = .ok (.aload_n 0, 1) := by decide +kernel
theorem dX7_comeBack_46 : decode cX7_comeBack 46 = .ok (.getfield 13, 3) := by decide +kernel
theorem dX7_comeBack_49 : decode cX7_comeBack 49 = .ok (.bipush 21, 2) := by decide +kernel
theorem dX7_comeBack_51 : decode cX7_comeBack 51 = .ok (.iload_n 1, 1) := by decide +kernel
theorem dX7_comeBack_52 : decode cX7_comeBack 52 = .ok (.iastore, 1) := by decide +kernel
theorem dX7_comeBack_53 : decode cX7_comeBack 53 = .ok (.return_, 1) := by decide +kernel
theorem dX7_mark_0 : decode cX7_mark 0 = .ok (.aload_n 0, 1) := by decide +kernel
theorem dX7_mark_1 : decode cX7_mark 1 = .ok (.getfield 13, 3) := by decide +kernel
theorem dX7_mark_4 : decode cX7_mark 4 = .ok (.bipush 20, 2) := by decide +kernel
theorem dX7_mark_6 : decode cX7_mark 6 = .ok (.bipush 16, 2) := by decide +kernel
theorem dX7_mark_8 : decode cX7_mark 8 = .ok (.aload_n 0, 1) := by decide +kernel
theorem dX7_mark_9 : decode cX7_mark 9 = .ok (.getfield 13, 3) := by decide +kernel
theorem dX7_mark_12 : decode cX7_mark 12 = .ok (.bipush 19, 2) := by decide +kernel
theorem dX7_mark_14 : decode cX7_mark 14 = .ok (.iaload, 1) := by decide +kernel
theorem dX7_mark_15 : decode cX7_mark 15 = .ok (.imul, 1) := by decide +kernel
theorem dX7_mark_16 : decode cX7_mark 16 = .ok (.aload_n 0, 1) := by decide +kernel
theorem dX7_mark_17 : decode cX7_mark 17 = .ok (.getfield 13, 3) := by decide +kernel
theorem dX7_mark_20 : decode cX7_mark 20 = .ok (.bipush 18, 2) := by decide +kernel
theorem dX7_mark_22 : decode cX7_mark 22 = .ok (.iaload, 1) := by decide +kernel
theorem dX7_mark_23 : decode cX7_mark 23 = .ok (.iadd, 1) := by decide +kernel
theorem dX7_mark_24 : decode cX7_mark 24 = .ok (.iastore, 1) := by decide +kernel
theorem dX7_mark_25 : decode cX7_mark 25 = .ok (.aload_n 0, 1) := by decide +kernel
theorem dX7_mark_26 : decode cX7_mark 26 = .ok (.aload_n 0, 1) := by decide +kernel
theorem dX7_mark_27 : decode cX7_mark 27 = .ok (.getfield 13, 3) := by decide +kernel
theorem dX7_mark_30 : decode cX7_mark 30 = .ok (.iconst 2, 1) := by decide +kernel
theorem dX7_mark_31 : decode cX7_mark 31 = .ok (.iaload, 1) := by decide +kernel
theorem dX7_mark_32 : decode cX7_mark 32 = .ok (.aload_n 0, 1) := by decide +kernel
theorem dX7_mark_33 : decode cX7_mark 33 = .ok (.getfield 13, 3) := by decide +kernel
theorem dX7_mark_36 : decode cX7_mark 36 = .ok (.bipush 20, 2) := by decide +kernel
theorem dX7_mark_38 : decode cX7_mark 38 = .ok (.iaload, 1) := by decide +kernel
theorem dX7_mark_39 : decode cX7_mark 39 = .ok (.invokevirtual 79, 3) := by decide +kernel
theorem dX7_mark_42 : decode cX7_mark 42 = .ok (.aload_n 0, 1) := by decide +kernel
theorem dX7_mark_43 : decode cX7_mark 43 = .ok (.getfield 13, 3) := by decide +kernel
theorem dX7_mark_46 : decode cX7_mark 46 = .ok (.bipush 19, 2) := by decide +kernel
theorem dX7_mark_48 : decode cX7_mark 48 = .ok (.aload_n 0, 1) := by decide +kernel
theorem dX7_mark_49 : decode cX7_mark 49 = .ok (.getfield 13, 3) := by decide +kernel
theorem dX7_mark_52 : decode cX7_mark 52 = .ok (.bipush 18, 2) := by decide +kernel
theorem dX7_mark_54 : decode cX7_mark 54 = .ok (.iaload, 1) := by decide +kernel
theorem dX7_mark_55 : decode cX7_mark 55 = .ok (.iastore, 1) := by decide +kernel
theorem dX7_mark_56 : decode cX7_mark 56 = .ok (.aload_n 0, 1) := by decide +kernel
theorem dX7_mark_57 : decode cX7_mark 57 = .ok (.iconst 2, 1) := by decide +kernel
theorem dX7_mark_58 : decode cX7_mark 58 = .ok (.iconst (-1), 1) := by decide +kernel
theorem dX7_mark_59 : decode cX7_mark 59 = .ok (.invokevirtual 50, 3) := by decide +kernel
theorem dX7_mark_62 : decode cX7_mark 62 = .ok (.return_, 1) := by decide +kernel
theorem dX7_seven_0 : decode cX7_seven 0 = .ok (.iload_n 1, 1) := by decide +kernel
theorem dX7_seven_1 : decode cX7_seven 1 = .ok (.tableswitch 231 0 14 #[75, 75, 85, 118, 231, 231, 156, 231, 170, 196, 203, 203, 231, 231, 217], 75) := by decide +kernel
theorem dX7_seven_76 : decode cX7_seven 76 = .ok (.aload_n 0, 1) := by decide +kernel
theorem dX7_seven_77 : decode cX7_seven 77 = .ok (.iconst 1, 1) := by decide +kernel
theorem dX7_seven_78 : decode cX7_seven 78 = .ok (.iload_n 1, 1) := by decide +kernel
theorem dX7_seven_79 : decode cX7_seven 79 = .ok (.isub, 1) := by decide +kernel
theorem dX7_seven_80 : decode cX7_seven 80 = .ok (.invokevirtual 82, 3) := by decide +kernel
theorem dX7_seven_83 : decode cX7_seven 83 = .ok (.goto 181, 3) := by decide +kernel
theorem dX7_seven_86 : decode cX7_seven 86 = .ok (.aload_n 0, 1) := by decide +kernel
theorem dX7_seven_87 : decode cX7_seven 87 = .ok (.getfield 13, 3) := by decide +kernel
theorem dX7_seven_90 : decode cX7_seven 90 = .ok (.bipush 16, 2) := by decide +kernel
theorem dX7_seven_92 : decode cX7_seven 92 = .ok (.aload_n 0, 1) := by decide +kernel
theorem dX7_seven_93 : decode cX7_seven 93 = .ok (.aload_n 0, 1) := by decide +kernel
theorem dX7_seven_94 : decode cX7_seven 94 = .ok (.getfield 13, 3) := by decide +kernel
theorem dX7_seven_97 : decode cX7_seven 97 = .ok (.bipush 19, 2) := by decide +kernel
theorem dX7_seven_99 : decode cX7_seven 99 = .ok (.iaload, 1) := by decide +kernel
theorem dX7_seven_100 : decode cX7_seven 100 = .ok (.invokevirtual 47, 3) := by decide +kernel
theorem dX7_seven_103 : decode cX7_seven 103 = .ok (.iastore, 1) := by decide +kernel
theorem dX7_seven_104 : decode cX7_seven 104 = .ok (.aload_n 0, 1) := by decide +kernel
theorem dX7_seven_105 : decode cX7_seven 105 = .ok (.aload_n 0, 1) := by decide +kernel
theorem dX7_seven_106 : decode cX7_seven 106 = .ok (.getfield 13, 3) := by decide +kernel
theorem dX7_seven_109 : decode cX7_seven 109 = .ok (.bipush 19, 2) := by decide +kernel
theorem dX7_seven_111 : decode cX7_seven 111 = .ok (.iaload, 1) := by decide +kernel
theorem dX7_seven_112 : decode cX7_seven 112 = .ok (.iconst 1, 1) := by decide +kernel
theorem dX7_seven_113 : decode cX7_seven 113 = .ok (.invokevirtual 50, 3) := by decide +kernel
theorem dX7_seven_116 : decode cX7_seven 116 = .ok (.goto 148, 3) := by decide +kernel
theorem dX7_seven_119 : decode cX7_seven 119 = .ok (.aload_n 0, 1) := by decide +kernel
theorem dX7_seven_120 : decode cX7_seven 120 = .ok (.aload_n 0, 1) := by decide +kernel
theorem dX7_seven_121 : decode cX7_seven 121 = .ok (.getfield 13, 3) := by decide +kernel
theorem dX7_seven_124 : decode cX7_seven 124 = .ok (.aload_n 0, 1) := by decide +kernel
theorem dX7_seven_125 : decode cX7_seven 125 = .ok (.getfield 13, 3) := by decide +kernel
theorem dX7_seven_128 : decode cX7_seven 128 = .ok (.bipush 19, 2) := by decide +kernel
theorem dX7_seven_130 : decode cX7_seven 130 = .ok (.iaload, 1) := by decide +kernel
theorem dX7_seven_131 : decode cX7_seven 131 = .ok (.iaload, 1) := by decide +kernel
theorem dX7_seven_132 : decode cX7_seven 132 = .ok (.aload_n 0, 1) := by decide +kernel
theorem dX7_seven_133 : decode cX7_seven 133 = .ok (.getfield 13, 3) := by decide +kernel
theorem dX7_seven_136 : decode cX7_seven 136 = .ok (.bipush 16, 2) := by decide +kernel
theorem dX7_seven_138 : decode cX7_seven 138 = .ok (.iaload, 1) := by decide +kernel
theorem dX7_seven_139 : decode cX7_seven 139 = .ok (.invokevirtual 79, 3) := by decide +kernel
theorem dX7_seven_142 : decode cX7_seven 142 = .ok (.aload_n 0, 1) := by decide +kernel
theorem dX7_seven_143 : decode cX7_seven 143 = .ok (.aload_n 0, 1) := by decide +kernel
theorem dX7_seven_144 : decode cX7_seven 144 = .ok (.getfield 13, 3) := by decide +kernel
theorem dX7_seven_147 : decode cX7_seven 147 = .ok (.bipush 19, 2) := by decide +kernel
theorem dX7_seven_149 : decode cX7_seven 149 = .ok (.iaload, 1) := by decide +kernel
theorem dX7_seven_150 : decode cX7_seven 150 = .ok (.iconst (-1), 1) := by decide +kernel
theorem dX7_seven_151 : decode cX7_seven 151 = .ok (.invokevirtual 50, 3) := by decide +kernel
theorem dX7_seven_154 : decode cX7_seven 154 = .ok (.goto 110, 3) := by decide +kernel
theorem dX7_seven_157 : decode cX7_seven 157 = .ok (.aload_n 0, 1) := by decide +kernel
theorem dX7_seven_158 : decode cX7_seven 158 = .ok (.aload_n 0, 1) := by decide +kernel
theorem dX7_seven_159 : decode cX7_seven 159 = .ok (.getfield 13, 3) := by decide +kernel
theorem dX7_seven_162 : decode cX7_seven 162 = .ok (.bipush 17, 2) := by decide +kernel
theorem dX7_seven_164 : decode cX7_seven 164 = .ok (.iaload, 1) := by decide +kernel
theorem dX7_seven_165 : decode cX7_seven 165 = .ok (.invokevirtual 86, 3) := by decide +kernel
theorem dX7_seven_168 : decode cX7_seven 168 = .ok (.goto 96, 3) := by decide +kernel
theorem dX7_seven_171 : decode cX7_seven 171 = .ok (.aload_n 0, 1) := by decide +kernel
theorem dX7_seven_172 : decode cX7_seven 172 = .ok (.aload_n 0, 1) := by decide +kernel
theorem dX7_seven_173 : decode cX7_seven 173 = .ok (.getfield 13, 3) := by decide +kernel
theorem dX7_seven_176 : decode cX7_seven 176 = .ok (.aload_n 0, 1) := by decide +kernel
theorem dX7_seven_177 : decode cX7_seven 177 = .ok (.getfield 13, 3) := by decide +kernel
theorem dX7_seven_180 : decode cX7_seven 180 = .ok (.bipush 19, 2) := by decide +kernel
theorem dX7_seven_182 : decode cX7_seven 182 = .ok (.iaload, 1) := by decide +kernel
theorem dX7_seven_183 : decode cX7_seven 183 = .ok (.iaload, 1) := by decide +kernel
theorem dX7_seven_184 : decode cX7_seven 184 = .ok (.aload_n 0, 1) := by decide +kernel
theorem dX7_seven_185 : decode cX7_seven 185 = .ok (.getfield 13, 3) := by decide +kernel
theorem dX7_seven_188 : decode cX7_seven 188 = .ok (.bipush 20, 2) := by decide +kernel
theorem dX7_seven_190 : decode cX7_seven 190 = .ok (.iaload, 1) := by decide +kernel
theorem dX7_seven_191 : decode cX7_seven 191 = .ok (.invokevirtual 79, 3) := by decide +kernel
theorem dX7_seven_194 : decode cX7_seven 194 = .ok (.goto 70, 3) := by decide +kernel
theorem dX7_seven_197 : decode cX7_seven 197 = .ok (.aload_n 0, 1) := by decide +kernel
theorem dX7_seven_198 : decode cX7_seven 198 = .ok (.invokevirtual 89, 3) := by decide +kernel
theorem dX7_seven_201 : decode cX7_seven 201 = .ok (.goto 63, 3) := by decide +kernel
theorem dX7_seven_204 : decode cX7_seven 204 = .ok (.aload_n 0, 1) := by decide +kernel
theorem dX7_seven_205 : decode cX7_seven 205 = .ok (.getfield 13, 3) := by decide +kernel
theorem dX7_seven_208 : decode cX7_seven 208 = .ok (.bipush 22, 2) := by decide +kernel
theorem dX7_seven_210 : decode cX7_seven 210 = .ok (.iload_n 1, 1) := by decide +kernel
theorem dX7_seven_211 : decode cX7_seven 211 = .ok (.bipush 10, 2) := by decide +kernel
theorem dX7_seven_213 : decode cX7_seven 213 = .ok (.isub, 1) := by decide +kernel
theorem dX7_seven_214 : decode cX7_seven 214 = .ok (.iastore, 1) := by decide +kernel
theorem dX7_seven_215 : decode cX7_seven 215 = .ok (.goto 49, 3) := by decide +kernel
theorem dX7_seven_218 : decode cX7_seven 218 = .ok (.aload_n 0, 1) := by decide +kernel
theorem dX7_seven_219 : decode cX7_seven 219 = .ok (.aload_n 0, 1) := by decide +kernel
theorem dX7_seven_220 : decode cX7_seven 220 = .ok (.getfield 13, 3) := by decide +kernel
theorem dX7_seven_223 : decode cX7_seven 223 = .ok (.bipush 17, 2) := by decide +kernel
theorem dX7_seven_225 : decode cX7_seven 225 = .ok (.iaload, 1) := by decide +kernel
theorem dX7_seven_226 : decode cX7_seven 226 = .ok (.invokevirtual 92, 3) := by decide +kernel
theorem dX7_seven_229 : decode cX7_seven 229 = .ok (.goto 35, 3) := by decide +kernel
theorem dX7_seven_232 : decode cX7_seven 232 = .ok (.aload_n 0, 1) := by decide +kernel
theorem dX7_seven_233 : decode cX7_seven 233 = .ok (.iload_n 1, 1) := by decide +kernel
theorem dX7_seven_234 : decode cX7_seven 234 = .ok (.bipush 7, 2) := by decide +kernel
theorem dX7_seven_236 : decode cX7_seven 236 = .ok (.iand, 1) := by decide +kernel
theorem dX7_seven_237 : decode cX7_seven 237 = .ok (.iload_n 1, 1) := by decide +kernel
theorem dX7_seven_238 : decode cX7_seven 238 = .ok (.bipush 8, 2) := by decide +kernel
theorem dX7_seven_240 : decode cX7_seven 240 = .ok (.if_icmp .ge 17, 3) := by decide +kernel
theorem dX7_seven_243 : decode cX7_seven 243 = .ok (.aload_n 0, 1) := by decide +kernel
theorem dX7_seven_244 : decode cX7_seven 244 = .ok (.aload_n 0, 1) := by decide +kernel
theorem dX7_seven_245 : decode cX7_seven 245 = .ok (.getfield 13, 3) := by decide +kernel
theorem dX7_seven_248 : decode cX7_seven 248 = .ok (.bipush 19, 2) := by decide +kernel
theorem dX7_seven_250 : decode cX7_seven 250 = .ok (.iaload, 1) := by decide +kernel
theorem dX7_seven_251 : decode cX7_seven 251 = .ok (.invokevirtual 47, 3) := by decide +kernel
theorem dX7_seven_254 : decode cX7_seven 254 = .ok (.goto 7, 3) := by decide +kernel
theorem dX7_seven_257 : decode cX7_seven 257 = .ok (.aload_n 0, 1) := by decide +kernel
theorem dX7_seven_258 : decode cX7_seven 258 = .ok (.invokevirtual 95, 3) := by decide +kernel
theorem dX7_seven_261 : decode cX7_seven 261 = .ok (.invokevirtual 99, 3) := by decide +kernel
theorem dX7_seven_264 : decode cX7_seven 264 = .ok (.return_, 1) := by decide +kernel
theorem dX7_carries_0 : decode cX7_carries 0 = .ok (.iload_n 1, 1) := by decide +kernel
theorem dX7_carries_1 : decode cX7_carries 1 = .ok (.iconst 4, 1) := by decide +kernel
theorem dX7_carries_2 : decode cX7_carries 2 = .ok (.if_icmp .ne 11, 3) := by decide +kernel
theorem dX7_carries_5 : decode cX7_carries 5 = .ok (.aload_n 0, 1) := by decide +kernel
theorem dX7_carries_6 : decode cX7_carries 6 = .ok (.iload_n 2, 1) := by decide +kernel
theorem dX7_carries_7 : decode cX7_carries 7 = .ok (.invokevirtual 102, 3) := by decide +kernel
theorem dX7_carries_10 : decode cX7_carries 10 = .ok (.goto 53, 3) := by decide +kernel
theorem dX7_carries_13 : decode cX7_carries 13 = .ok (.iload_n 1, 1) := by decide +kernel
theorem dX7_carries_14 : decode cX7_carries 14 = .ok (.iconst 5, 1) := by decide +kernel
theorem dX7_carries_15 : decode cX7_carries 15 = .ok (.if_icmp .ne 27, 3) := by decide +kernel
theorem dX7_carries_18 : decode cX7_carries 18 = .ok (.aload_n 0, 1) := by decide +kernel
theorem dX7_carries_19 : decode cX7_carries 19 = .ok (.iload_n 2, 1) := by decide +kernel
theorem dX7_carries_20 : decode cX7_carries 20 = .ok (.aload_n 0, 1) := by decide +kernel
theorem dX7_carries_21 : decode cX7_carries 21 = .ok (.getfield 13, 3) := by decide +kernel
theorem dX7_carries_24 : decode cX7_carries 24 = .ok (.bipush 16, 2) := by decide +kernel
theorem dX7_carries_26 : decode cX7_carries 26 = .ok (.iaload, 1) := by decide +kernel
theorem dX7_carries_27 : decode cX7_carries 27 = .ok (.iconst 1, 1) := by decide +kernel
theorem dX7_carries_28 : decode cX7_carries 28 = .ok (.aload_n 0, 1) := by decide +kernel
theorem dX7_carries_29 : decode cX7_carries 29 = .ok (.getfield 13, 3) := by decide +kernel
theorem dX7_carries_32 : decode cX7_carries 32 = .ok (.bipush 17, 2) := by decide +kernel
theorem dX7_carries_34 : decode cX7_carries 34 = .ok (.iaload, 1) := by decide +kernel
theorem dX7_carries_35 : decode cX7_carries 35 = .ok (.isub, 1) := by decide +kernel
theorem dX7_carries_36 : decode cX7_carries 36 = .ok (.invokevirtual 105, 3) := by decide +kernel
theorem dX7_carries_39 : decode cX7_carries 39 = .ok (.goto 24, 3) := by decide +kernel
theorem dX7_carries_42 : decode cX7_carries 42 = .ok (.aload_n 0, 1) := by decide +kernel
theorem dX7_carries_43 : decode cX7_carries 43 = .ok (.aload_n 0, 1) := by decide +kernel
theorem dX7_carries_44 : decode cX7_carries 44 = .ok (.getfield 13, 3) := by decide +kernel
theorem dX7_carries_47 : decode cX7_carries 47 = .ok (.bipush 16, 2) := by decide +kernel
theorem dX7_carries_49 : decode cX7_carries 49 = .ok (.iaload, 1) := by decide +kernel
theorem dX7_carries_50 : decode cX7_carries 50 = .ok (.iload_n 2, 1) := by decide +kernel
theorem dX7_carries_51 : decode cX7_carries 51 = .ok (.iconst 1, 1) := by decide +kernel
theorem dX7_carries_52 : decode cX7_carries 52 = .ok (.aload_n 0, 1) := by decide +kernel
theorem dX7_carries_53 : decode cX7_carries 53 = .ok (.getfield 13, 3) := by decide +kernel
theorem dX7_carries_56 : decode cX7_carries 56 = .ok (.bipush 17, 2) := by decide +kernel
theorem dX7_carries_58 : decode cX7_carries 58 = .ok (.iaload, 1) := by decide +kernel
theorem dX7_carries_59 : decode cX7_carries 59 = .ok (.isub, 1) := by decide +kernel
theorem dX7_carries_60 : decode cX7_carries 60 = .ok (.invokevirtual 105, 3) := by decide +kernel
theorem dX7_carries_63 : decode cX7_carries 63 = .ok (.return_, 1) := by decide +kernel
theorem dX7_reckon_0 : decode cX7_reckon 0 = .ok (.iload_n 1, 1) := by decide +kernel
theorem dX7_reckon_1 : decode cX7_reckon 1 = .ok (.bipush 6, 2) := by decide +kernel
theorem dX7_reckon_3 : decode cX7_reckon 3 = .ok (.if_icmp .ne 9, 3) := by decide +kernel
theorem dX7_reckon_6 : decode cX7_reckon 6 = .ok (.aload_n 0, 1) := by decide +kernel
theorem dX7_reckon_7 : decode cX7_reckon 7 = .ok (.iconst 0, 1) := by decide +kernel
theorem dX7_reckon_8 : decode cX7_reckon 8 = .ok (.invokevirtual 86, 3) := by decide +kernel
theorem dX7_reckon_11 : decode cX7_reckon 11 = .ok (.return_, 1) := by decide +kernel
theorem dX7_reckon_12 : decode cX7_reckon 12 = .ok (.iload_n 1, 1) := by decide +kernel
theorem dX7_reckon_13 : decode cX7_reckon 13 = .ok (.bipush 14, 2) := by decide +kernel
theorem dX7_reckon_15 : decode cX7_reckon 15 = .ok (.if_icmp .ne 9, 3) := by decide +kernel
theorem dX7_reckon_18 : decode cX7_reckon 18 = .ok (.aload_n 0, 1) := by decide +kernel
theorem dX7_reckon_19 : decode cX7_reckon 19 = .ok (.iconst 0, 1) := by decide +kernel
theorem dX7_reckon_20 : decode cX7_reckon 20 = .ok (.invokevirtual 92, 3) := by decide +kernel
theorem dX7_reckon_23 : decode cX7_reckon 23 = .ok (.return_, 1) := by decide +kernel
theorem dX7_reckon_24 : decode cX7_reckon 24 = .ok (.iload_n 1, 1) := by decide +kernel
theorem dX7_reckon_25 : decode cX7_reckon 25 = .ok (.bipush 8, 2) := by decide +kernel
theorem dX7_reckon_27 : decode cX7_reckon 27 = .ok (.if_icmp .ge 17, 3) := by decide +kernel
theorem dX7_reckon_30 : decode cX7_reckon 30 = .ok (.aload_n 0, 1) := by decide +kernel
theorem dX7_reckon_31 : decode cX7_reckon 31 = .ok (.aload_n 0, 1) := by decide +kernel
theorem dX7_reckon_32 : decode cX7_reckon 32 = .ok (.getfield 13, 3) := by decide +kernel
theorem dX7_reckon_35 : decode cX7_reckon 35 = .ok (.bipush 19, 2) := by decide +kernel
theorem dX7_reckon_37 : decode cX7_reckon 37 = .ok (.iaload, 1) := by decide +kernel
theorem dX7_reckon_38 : decode cX7_reckon 38 = .ok (.invokevirtual 47, 3) := by decide +kernel
theorem dX7_reckon_41 : decode cX7_reckon 41 = .ok (.goto 7, 3) := by decide +kernel
theorem dX7_reckon_44 : decode cX7_reckon 44 = .ok (.aload_n 0, 1) := by decide +kernel
theorem dX7_reckon_45 : decode cX7_reckon 45 = .ok (.invokevirtual 95, 3) := by decide +kernel
theorem dX7_reckon_48 : decode cX7_reckon 48 = .ok (.istore_n 2, 1) := by decide +kernel
theorem dX7_reckon_49 : decode cX7_reckon 49 = .ok (.iload_n 1, 1) := by decide +kernel
theorem dX7_reckon_50 : decode cX7_reckon 50 = .ok (.bipush 7, 2) := by decide +kernel
theorem dX7_reckon_52 : decode cX7_reckon 52 = .ok (.iand, 1) := by decide +kernel
theorem dX7_reckon_53 : decode cX7_reckon 53 = .ok (.tableswitch 123 0 5 #[39, 50, 64, 78, 92, 107], 39) := by decide +kernel
theorem dX7_reckon_92 : decode cX7_reckon 92 = .ok (.aload_n 0, 1) := by decide +kernel
theorem dX7_reckon_93 : decode cX7_reckon 93 = .ok (.getfield 13, 3) := by decide +kernel
theorem dX7_reckon_96 : decode cX7_reckon 96 = .ok (.bipush 16, 2) := by decide +kernel
theorem dX7_reckon_98 : decode cX7_reckon 98 = .ok (.iload_n 2, 1) := by decide +kernel
theorem dX7_reckon_99 : decode cX7_reckon 99 = .ok (.iastore, 1) := by decide +kernel
theorem dX7_reckon_100 : decode cX7_reckon 100 = .ok (.goto 89, 3) := by decide +kernel
theorem dX7_reckon_103 : decode cX7_reckon 103 = .ok (.aload_n 0, 1) := by decide +kernel
theorem dX7_reckon_104 : decode cX7_reckon 104 = .ok (.getfield 13, 3) := by decide +kernel
theorem dX7_reckon_107 : decode cX7_reckon 107 = .ok (.bipush 16, 2) := by decide +kernel
theorem dX7_reckon_109 : decode cX7_reckon 109 = .ok (.dup2, 1) := by decide +kernel
theorem dX7_reckon_110 : decode cX7_reckon 110 = .ok (.iaload, 1) := by decide +kernel
theorem dX7_reckon_111 : decode cX7_reckon 111 = .ok (.iload_n 2, 1) := by decide +kernel
theorem dX7_reckon_112 : decode cX7_reckon 112 = .ok (.ior, 1) := by decide +kernel
theorem dX7_reckon_113 : decode cX7_reckon 113 = .ok (.iastore, 1) := by decide +kernel
theorem dX7_reckon_114 : decode cX7_reckon 114 = .ok (.goto 75, 3) := by decide +kernel
theorem dX7_reckon_117 : decode cX7_reckon 117 = .ok (.aload_n 0, 1) := by decide +kernel
theorem dX7_reckon_118 : decode cX7_reckon 118 = .ok (.getfield 13, 3) := by decide +kernel
theorem dX7_reckon_121 : decode cX7_reckon 121 = .ok (.bipush 16, 2) := by decide +kernel
theorem dX7_reckon_123 : decode cX7_reckon 123 = .ok (.dup2, 1) := by decide +kernel
theorem dX7_reckon_124 : decode cX7_reckon 124 = .ok (.iaload, 1) := by decide +kernel
theorem dX7_reckon_125 : decode cX7_reckon 125 = .ok (.iload_n 2, 1) := by decide +kernel
theorem dX7_reckon_126 : decode cX7_reckon 126 = .ok (.iand, 1) := by decide +kernel
theorem dX7_reckon_127 : decode cX7_reckon 127 = .ok (.iastore, 1) := by decide +kernel
theorem dX7_reckon_128 : decode cX7_reckon 128 = .ok (.goto 61, 3) := by decide +kernel
theorem dX7_reckon_131 : decode cX7_reckon 131 = .ok (.aload_n 0, 1) := by decide +kernel
theorem dX7_reckon_132 : decode cX7_reckon 132 = .ok (.getfield 13, 3) := by decide +kernel
theorem dX7_reckon_135 : decode cX7_reckon 135 = .ok (.bipush 16, 2) := by decide +kernel
theorem dX7_reckon_137 : decode cX7_reckon 137 = .ok (.dup2, 1) := by decide +kernel
theorem dX7_reckon_138 : decode cX7_reckon 138 = .ok (.iaload, 1) := by decide +kernel
theorem dX7_reckon_139 : decode cX7_reckon 139 = .ok (.iload_n 2, 1) := by decide +kernel
theorem dX7_reckon_140 : decode cX7_reckon 140 = .ok (.ixor, 1) := by decide +kernel
theorem dX7_reckon_141 : decode cX7_reckon 141 = .ok (.iastore, 1) := by decide +kernel
theorem dX7_reckon_142 : decode cX7_reckon 142 = .ok (.goto 47, 3) := by decide +kernel
theorem dX7_reckon_145 : decode cX7_reckon 145 = .ok (.aload_n 0, 1) := by decide +kernel
theorem dX7_reckon_146 : decode cX7_reckon 146 = .ok (.iload_n 2, 1) := by decide +kernel
theorem dX7_reckon_147 : decode cX7_reckon 147 = .ok (.aload_n 0, 1) := by decide +kernel
theorem dX7_reckon_148 : decode cX7_reckon 148 = .ok (.getfield 13, 3) := by decide +kernel
theorem dX7_reckon_151 : decode cX7_reckon 151 = .ok (.bipush 16, 2) := by decide +kernel
theorem dX7_reckon_153 : decode cX7_reckon 153 = .ok (.iaload, 1) := by decide +kernel
theorem dX7_reckon_154 : decode cX7_reckon 154 = .ok (.invokevirtual 109, 3) := by decide +kernel
theorem dX7_reckon_157 : decode cX7_reckon 157 = .ok (.goto 32, 3) := by decide +kernel
theorem dX7_reckon_160 : decode cX7_reckon 160 = .ok (.aload_n 0, 1) := by decide +kernel
theorem dX7_reckon_161 : decode cX7_reckon 161 = .ok (.iload_n 2, 1) := by decide +kernel
theorem dX7_reckon_162 : decode cX7_reckon 162 = .ok (.aload_n 0, 1) := by decide +kernel
theorem dX7_reckon_163 : decode cX7_reckon 163 = .ok (.getfield 13, 3) := by decide +kernel
theorem dX7_reckon_166 : decode cX7_reckon 166 = .ok (.bipush 16, 2) := by decide +kernel
theorem dX7_reckon_168 : decode cX7_reckon 168 = .ok (.iaload, 1) := by decide +kernel
theorem dX7_reckon_169 : decode cX7_reckon 169 = .ok (.iconst 0, 1) := by decide +kernel
theorem dX7_reckon_170 : decode cX7_reckon 170 = .ok (.invokevirtual 105, 3) := by decide +kernel
theorem dX7_reckon_173 : decode cX7_reckon 173 = .ok (.goto 16, 3) := by decide +kernel
theorem dX7_reckon_176 : decode cX7_reckon 176 = .ok (.aload_n 0, 1) := by decide +kernel
theorem dX7_reckon_177 : decode cX7_reckon 177 = .ok (.aload_n 0, 1) := by decide +kernel
theorem dX7_reckon_178 : decode cX7_reckon 178 = .ok (.getfield 13, 3) := by decide +kernel
theorem dX7_reckon_181 : decode cX7_reckon 181 = .ok (.bipush 16, 2) := by decide +kernel
theorem dX7_reckon_183 : decode cX7_reckon 183 = .ok (.iaload, 1) := by decide +kernel
theorem dX7_reckon_184 : decode cX7_reckon 184 = .ok (.iload_n 2, 1) := by decide +kernel
theorem dX7_reckon_185 : decode cX7_reckon 185 = .ok (.iconst 0, 1) := by decide +kernel
theorem dX7_reckon_186 : decode cX7_reckon 186 = .ok (.invokevirtual 105, 3) := by decide +kernel
theorem dX7_reckon_189 : decode cX7_reckon 189 = .ok (.return_, 1) := by decide +kernel
theorem dX7_moves_0 : decode cX7_moves 0 = .ok (.iload_n 1, 1) := by decide +kernel
theorem dX7_moves_1 : decode cX7_moves 1 = .ok (.tableswitch 215 1 14 #[71, 80, 215, 215, 89, 215, 215, 109, 129, 148, 163, 215, 193, 204], 71) := by decide +kernel
theorem dX7_moves_72 : decode cX7_moves 72 = .ok (.aload_n 0, 1) := by decide +kernel
theorem dX7_moves_73 : decode cX7_moves 73 = .ok (.iload_n 2, 1) := by decide +kernel
theorem dX7_moves_74 : decode cX7_moves 74 = .ok (.iconst 1, 1) := by decide +kernel
theorem dX7_moves_75 : decode cX7_moves 75 = .ok (.invokevirtual 50, 3) := by decide +kernel
theorem dX7_moves_78 : decode cX7_moves 78 = .ok (.goto 161, 3) := by decide +kernel
theorem dX7_moves_81 : decode cX7_moves 81 = .ok (.aload_n 0, 1) := by decide +kernel
theorem dX7_moves_82 : decode cX7_moves 82 = .ok (.iload_n 2, 1) := by decide +kernel
theorem dX7_moves_83 : decode cX7_moves 83 = .ok (.iconst (-1), 1) := by decide +kernel
theorem dX7_moves_84 : decode cX7_moves 84 = .ok (.invokevirtual 50, 3) := by decide +kernel
theorem dX7_moves_87 : decode cX7_moves 87 = .ok (.goto 152, 3) := by decide +kernel
theorem dX7_moves_90 : decode cX7_moves 90 = .ok (.aload_n 0, 1) := by decide +kernel
theorem dX7_moves_91 : decode cX7_moves 91 = .ok (.aload_n 0, 1) := by decide +kernel
theorem dX7_moves_92 : decode cX7_moves 92 = .ok (.getfield 13, 3) := by decide +kernel
theorem dX7_moves_95 : decode cX7_moves 95 = .ok (.iload_n 2, 1) := by decide +kernel
theorem dX7_moves_96 : decode cX7_moves 96 = .ok (.iaload, 1) := by decide +kernel
theorem dX7_moves_97 : decode cX7_moves 97 = .ok (.aload_n 0, 1) := by decide +kernel
theorem dX7_moves_98 : decode cX7_moves 98 = .ok (.getfield 13, 3) := by decide +kernel
theorem dX7_moves_101 : decode cX7_moves 101 = .ok (.bipush 16, 2) := by decide +kernel
theorem dX7_moves_103 : decode cX7_moves 103 = .ok (.iaload, 1) := by decide +kernel
theorem dX7_moves_104 : decode cX7_moves 104 = .ok (.invokevirtual 79, 3) := by decide +kernel
theorem dX7_moves_107 : decode cX7_moves 107 = .ok (.goto 132, 3) := by decide +kernel
theorem dX7_moves_110 : decode cX7_moves 110 = .ok (.aload_n 0, 1) := by decide +kernel
theorem dX7_moves_111 : decode cX7_moves 111 = .ok (.getfield 13, 3) := by decide +kernel
theorem dX7_moves_114 : decode cX7_moves 114 = .ok (.bipush 16, 2) := by decide +kernel
theorem dX7_moves_116 : decode cX7_moves 116 = .ok (.aload_n 0, 1) := by decide +kernel
theorem dX7_moves_117 : decode cX7_moves 117 = .ok (.getfield 13, 3) := by decide +kernel
theorem dX7_moves_120 : decode cX7_moves 120 = .ok (.iload_n 2, 1) := by decide +kernel
theorem dX7_moves_121 : decode cX7_moves 121 = .ok (.iaload, 1) := by decide +kernel
theorem dX7_moves_122 : decode cX7_moves 122 = .ok (.sipush 255, 3) := by decide +kernel
theorem dX7_moves_125 : decode cX7_moves 125 = .ok (.iand, 1) := by decide +kernel
theorem dX7_moves_126 : decode cX7_moves 126 = .ok (.iastore, 1) := by decide +kernel
theorem dX7_moves_127 : decode cX7_moves 127 = .ok (.goto 112, 3) := by decide +kernel
theorem dX7_moves_130 : decode cX7_moves 130 = .ok (.aload_n 0, 1) := by decide +kernel
theorem dX7_moves_131 : decode cX7_moves 131 = .ok (.getfield 13, 3) := by decide +kernel
theorem dX7_moves_134 : decode cX7_moves 134 = .ok (.bipush 16, 2) := by decide +kernel
theorem dX7_moves_136 : decode cX7_moves 136 = .ok (.aload_n 0, 1) := by decide +kernel
theorem dX7_moves_137 : decode cX7_moves 137 = .ok (.getfield 13, 3) := by decide +kernel
theorem dX7_moves_140 : decode cX7_moves 140 = .ok (.iload_n 2, 1) := by decide +kernel
theorem dX7_moves_141 : decode cX7_moves 141 = .ok (.iaload, 1) := by decide +kernel
theorem dX7_moves_142 : decode cX7_moves 142 = .ok (.bipush 8, 2) := by decide +kernel
theorem dX7_moves_144 : decode cX7_moves 144 = .ok (.ishr, 1) := by decide +kernel
theorem dX7_moves_145 : decode cX7_moves 145 = .ok (.iastore, 1) := by decide +kernel
theorem dX7_moves_146 : decode cX7_moves 146 = .ok (.goto 93, 3) := by decide +kernel
theorem dX7_moves_149 : decode cX7_moves 149 = .ok (.aload_n 0, 1) := by decide +kernel
theorem dX7_moves_150 : decode cX7_moves 150 = .ok (.iload_n 2, 1) := by decide +kernel
theorem dX7_moves_151 : decode cX7_moves 151 = .ok (.aload_n 0, 1) := by decide +kernel
theorem dX7_moves_152 : decode cX7_moves 152 = .ok (.getfield 13, 3) := by decide +kernel
theorem dX7_moves_155 : decode cX7_moves 155 = .ok (.bipush 16, 2) := by decide +kernel
theorem dX7_moves_157 : decode cX7_moves 157 = .ok (.iaload, 1) := by decide +kernel
theorem dX7_moves_158 : decode cX7_moves 158 = .ok (.invokevirtual 73, 3) := by decide +kernel
theorem dX7_moves_161 : decode cX7_moves 161 = .ok (.goto 78, 3) := by decide +kernel
theorem dX7_moves_164 : decode cX7_moves 164 = .ok (.aload_n 0, 1) := by decide +kernel
theorem dX7_moves_165 : decode cX7_moves 165 = .ok (.getfield 13, 3) := by decide +kernel
theorem dX7_moves_168 : decode cX7_moves 168 = .ok (.iload_n 2, 1) := by decide +kernel
theorem dX7_moves_169 : decode cX7_moves 169 = .ok (.aload_n 0, 1) := by decide +kernel
theorem dX7_moves_170 : decode cX7_moves 170 = .ok (.getfield 13, 3) := by decide +kernel
theorem dX7_moves_173 : decode cX7_moves 173 = .ok (.bipush 16, 2) := by decide +kernel
theorem dX7_moves_175 : decode cX7_moves 175 = .ok (.iaload, 1) := by decide +kernel
theorem dX7_moves_176 : decode cX7_moves 176 = .ok (.bipush 8, 2) := by decide +kernel
theorem dX7_moves_178 : decode cX7_moves 178 = .ok (.ishl, 1) := by decide +kernel
theorem dX7_moves_179 : decode cX7_moves 179 = .ok (.aload_n 0, 1) := by decide +kernel
theorem dX7_moves_180 : decode cX7_moves 180 = .ok (.getfield 13, 3) := by decide +kernel
theorem dX7_moves_183 : decode cX7_moves 183 = .ok (.iload_n 2, 1) := by decide +kernel
theorem dX7_moves_184 : decode cX7_moves 184 = .ok (.iaload, 1) := by decide +kernel
theorem dX7_moves_185 : decode cX7_moves 185 = .ok (.sipush 255, 3) := by decide +kernel
theorem dX7_moves_188 : decode cX7_moves 188 = .ok (.iand, 1) := by decide +kernel
theorem dX7_moves_189 : decode cX7_moves 189 = .ok (.ior, 1) := by decide +kernel
theorem dX7_moves_190 : decode cX7_moves 190 = .ok (.iastore, 1) := by decide +kernel
theorem dX7_moves_191 : decode cX7_moves 191 = .ok (.goto 48, 3) := by decide +kernel
theorem dX7_moves_194 : decode cX7_moves 194 = .ok (.aload_n 0, 1) := by decide +kernel
theorem dX7_moves_195 : decode cX7_moves 195 = .ok (.getfield 13, 3) := by decide +kernel
theorem dX7_moves_198 : decode cX7_moves 198 = .ok (.bipush 18, 2) := by decide +kernel
theorem dX7_moves_200 : decode cX7_moves 200 = .ok (.iload_n 2, 1) := by decide +kernel
theorem dX7_moves_201 : decode cX7_moves 201 = .ok (.iastore, 1) := by decide +kernel
theorem dX7_moves_202 : decode cX7_moves 202 = .ok (.goto 37, 3) := by decide +kernel
theorem dX7_moves_205 : decode cX7_moves 205 = .ok (.aload_n 0, 1) := by decide +kernel
theorem dX7_moves_206 : decode cX7_moves 206 = .ok (.getfield 13, 3) := by decide +kernel
theorem dX7_moves_209 : decode cX7_moves 209 = .ok (.bipush 19, 2) := by decide +kernel
theorem dX7_moves_211 : decode cX7_moves 211 = .ok (.iload_n 2, 1) := by decide +kernel
theorem dX7_moves_212 : decode cX7_moves 212 = .ok (.iastore, 1) := by decide +kernel
theorem dX7_moves_213 : decode cX7_moves 213 = .ok (.goto 26, 3) := by decide +kernel
theorem dX7_moves_216 : decode cX7_moves 216 = .ok (.aload_n 0, 1) := by decide +kernel
theorem dX7_moves_217 : decode cX7_moves 217 = .ok (.getfield 13, 3) := by decide +kernel
theorem dX7_moves_220 : decode cX7_moves 220 = .ok (.bipush 16, 2) := by decide +kernel
theorem dX7_moves_222 : decode cX7_moves 222 = .ok (.aload_n 0, 1) := by decide +kernel
theorem dX7_moves_223 : decode cX7_moves 223 = .ok (.iload_n 2, 1) := by decide +kernel
theorem dX7_moves_224 : decode cX7_moves 224 = .ok (.invokevirtual 47, 3) := by decide +kernel
theorem dX7_moves_227 : decode cX7_moves 227 = .ok (.iastore, 1) := by decide +kernel
theorem dX7_moves_228 : decode cX7_moves 228 = .ok (.iload_n 1, 1) := by decide +kernel
theorem dX7_moves_229 : decode cX7_moves 229 = .ok (.iconst 4, 1) := by decide +kernel
theorem dX7_moves_230 : decode cX7_moves 230 = .ok (.if_icmp .ne 9, 3) := by decide +kernel
theorem dX7_moves_233 : decode cX7_moves 233 = .ok (.aload_n 0, 1) := by decide +kernel
theorem dX7_moves_234 : decode cX7_moves 234 = .ok (.iload_n 2, 1) := by decide +kernel
theorem dX7_moves_235 : decode cX7_moves 235 = .ok (.iconst 1, 1) := by decide +kernel
theorem dX7_moves_236 : decode cX7_moves 236 = .ok (.invokevirtual 50, 3) := by decide +kernel
theorem dX7_moves_239 : decode cX7_moves 239 = .ok (.return_, 1) := by decide +kernel
theorem dX7_instruction_0 : decode cX7_instruction 0 = .ok (.aload_n 0, 1) := by decide +kernel
theorem dX7_instruction_1 : decode cX7_instruction 1 = .ok (.getfield 13, 3) := by decide +kernel
theorem dX7_instruction_4 : decode cX7_instruction 4 = .ok (.bipush 23, 2) := by decide +kernel
theorem dX7_instruction_6 : decode cX7_instruction 6 = .ok (.iaload, 1) := by decide +kernel
theorem dX7_instruction_7 : decode cX7_instruction 7 = .ok (.iconst 1, 1) := by decide +kernel
theorem dX7_instruction_8 : decode cX7_instruction 8 = .ok (.if_icmp .ne 5, 3) := by decide +kernel
theorem dX7_instruction_11 : decode cX7_instruction 11 = .ok (.iconst 1, 1) := by decide +kernel
theorem dX7_instruction_12 : decode cX7_instruction 12 = .ok (.ireturn, 1) := by decide +kernel
theorem dX7_instruction_13 : decode cX7_instruction 13 = .ok (.aload_n 0, 1) := by decide +kernel
theorem dX7_instruction_14 : decode cX7_instruction 14 = .ok (.invokevirtual 95, 3) := by decide +kernel
theorem dX7_instruction_17 : decode cX7_instruction 17 = .ok (.istore_n 1, 1) := by decide +kernel
theorem dX7_instruction_18 : decode cX7_instruction 18 = .ok (.iload_n 1, 1) := by decide +kernel
theorem dX7_instruction_19 : decode cX7_instruction 19 = .ok (.iconst 4, 1) := by decide +kernel
theorem dX7_instruction_20 : decode cX7_instruction 20 = .ok (.ishr, 1) := by decide +kernel
theorem dX7_instruction_21 : decode cX7_instruction 21 = .ok (.istore_n 2, 1) := by decide +kernel
theorem dX7_instruction_22 : decode cX7_instruction 22 = .ok (.iload_n 1, 1) := by decide +kernel
theorem dX7_instruction_23 : decode cX7_instruction 23 = .ok (.bipush 15, 2) := by decide +kernel
theorem dX7_instruction_25 : decode cX7_instruction 25 = .ok (.iand, 1) := by decide +kernel
theorem dX7_instruction_26 : decode cX7_instruction 26 = .ok (.istore_n 3, 1) := by decide +kernel
theorem dX7_instruction_27 : decode cX7_instruction 27 = .ok (.iload_n 1, 1) := by decide +kernel
theorem dX7_instruction_28 : decode cX7_instruction 28 = .ok (.ifCond .ne 14, 3) := by decide +kernel
theorem dX7_instruction_31 : decode cX7_instruction 31 = .ok (.aload_n 0, 1) := by decide +kernel
theorem dX7_instruction_32 : decode cX7_instruction 32 = .ok (.getfield 13, 3) := by decide +kernel
theorem dX7_instruction_35 : decode cX7_instruction 35 = .ok (.bipush 23, 2) := by decide +kernel
theorem dX7_instruction_37 : decode cX7_instruction 37 = .ok (.iconst 1, 1) := by decide +kernel
theorem dX7_instruction_38 : decode cX7_instruction 38 = .ok (.iastore, 1) := by decide +kernel
theorem dX7_instruction_39 : decode cX7_instruction 39 = .ok (.goto 103, 3) := by decide +kernel
theorem dX7_instruction_42 : decode cX7_instruction 42 = .ok (.iload_n 2, 1) := by decide +kernel
theorem dX7_instruction_43 : decode cX7_instruction 43 = .ok (.iconst 3, 1) := by decide +kernel
theorem dX7_instruction_44 : decode cX7_instruction 44 = .ok (.if_icmp .ne 11, 3) := by decide +kernel
theorem dX7_instruction_47 : decode cX7_instruction 47 = .ok (.aload_n 0, 1) := by decide +kernel
theorem dX7_instruction_48 : decode cX7_instruction 48 = .ok (.iload_n 3, 1) := by decide +kernel
theorem dX7_instruction_49 : decode cX7_instruction 49 = .ok (.invokevirtual 112, 3) := by decide +kernel
theorem dX7_instruction_52 : decode cX7_instruction 52 = .ok (.goto 90, 3) := by decide +kernel
theorem dX7_instruction_55 : decode cX7_instruction 55 = .ok (.iload_n 2, 1) := by decide +kernel
theorem dX7_instruction_56 : decode cX7_instruction 56 = .ok (.bipush 6, 2) := by decide +kernel
theorem dX7_instruction_58 : decode cX7_instruction 58 = .ok (.if_icmp .ne 22, 3) := by decide +kernel
theorem dX7_instruction_61 : decode cX7_instruction 61 = .ok (.iload_n 3, 1) := by decide +kernel
theorem dX7_instruction_62 : decode cX7_instruction 62 = .ok (.ifCond .ne 18, 3) := by decide +kernel
theorem dX7_instruction_65 : decode cX7_instruction 65 = .ok (.aload_n 0, 1) := by decide +kernel
theorem dX7_instruction_66 : decode cX7_instruction 66 = .ok (.aload_n 0, 1) := by decide +kernel
theorem dX7_instruction_67 : decode cX7_instruction 67 = .ok (.getfield 13, 3) := by decide +kernel
theorem dX7_instruction_70 : decode cX7_instruction 70 = .ok (.bipush 19, 2) := by decide +kernel
theorem dX7_instruction_72 : decode cX7_instruction 72 = .ok (.iaload, 1) := by decide +kernel
theorem dX7_instruction_73 : decode cX7_instruction 73 = .ok (.iconst 1, 1) := by decide +kernel
theorem dX7_instruction_74 : decode cX7_instruction 74 = .ok (.invokevirtual 50, 3) := by decide +kernel
theorem dX7_instruction_77 : decode cX7_instruction 77 = .ok (.goto 65, 3) := by decide +kernel
theorem dX7_instruction_80 : decode cX7_instruction 80 = .ok (.iload_n 2, 1) := by decide +kernel
theorem dX7_instruction_81 : decode cX7_instruction 81 = .ok (.bipush 6, 2) := by decide +kernel
theorem dX7_instruction_83 : decode cX7_instruction 83 = .ok (.if_icmp .ne 11, 3) := by decide +kernel
theorem dX7_instruction_86 : decode cX7_instruction 86 = .ok (.aload_n 0, 1) := by decide +kernel
theorem dX7_instruction_87 : decode cX7_instruction 87 = .ok (.iload_n 3, 1) := by decide +kernel
theorem dX7_instruction_88 : decode cX7_instruction 88 = .ok (.invokevirtual 115, 3) := by decide +kernel
theorem dX7_instruction_91 : decode cX7_instruction 91 = .ok (.goto 51, 3) := by decide +kernel
theorem dX7_instruction_94 : decode cX7_instruction 94 = .ok (.iload_n 2, 1) := by decide +kernel
theorem dX7_instruction_95 : decode cX7_instruction 95 = .ok (.bipush 7, 2) := by decide +kernel
theorem dX7_instruction_97 : decode cX7_instruction 97 = .ok (.if_icmp .ne 11, 3) := by decide +kernel
theorem dX7_instruction_100 : decode cX7_instruction 100 = .ok (.aload_n 0, 1) := by decide +kernel
theorem dX7_instruction_101 : decode cX7_instruction 101 = .ok (.iload_n 3, 1) := by decide +kernel
theorem dX7_instruction_102 : decode cX7_instruction 102 = .ok (.invokevirtual 118, 3) := by decide +kernel
theorem dX7_instruction_105 : decode cX7_instruction 105 = .ok (.goto 37, 3) := by decide +kernel
theorem dX7_instruction_108 : decode cX7_instruction 108 = .ok (.iload_n 2, 1) := by decide +kernel
theorem dX7_instruction_109 : decode cX7_instruction 109 = .ok (.bipush 12, 2) := by decide +kernel
theorem dX7_instruction_111 : decode cX7_instruction 111 = .ok (.if_icmp .ne 11, 3) := by decide +kernel
theorem dX7_instruction_114 : decode cX7_instruction 114 = .ok (.aload_n 0, 1) := by decide +kernel
theorem dX7_instruction_115 : decode cX7_instruction 115 = .ok (.iload_n 3, 1) := by decide +kernel
theorem dX7_instruction_116 : decode cX7_instruction 116 = .ok (.invokevirtual 121, 3) := by decide +kernel
theorem dX7_instruction_119 : decode cX7_instruction 119 = .ok (.goto 23, 3) := by decide +kernel
theorem dX7_instruction_122 : decode cX7_instruction 122 = .ok (.iload_n 2, 1) := by decide +kernel
theorem dX7_instruction_123 : decode cX7_instruction 123 = .ok (.bipush 15, 2) := by decide +kernel
theorem dX7_instruction_125 : decode cX7_instruction 125 = .ok (.if_icmp .ne 11, 3) := by decide +kernel
theorem dX7_instruction_128 : decode cX7_instruction 128 = .ok (.aload_n 0, 1) := by decide +kernel
theorem dX7_instruction_129 : decode cX7_instruction 129 = .ok (.iload_n 3, 1) := by decide +kernel
theorem dX7_instruction_130 : decode cX7_instruction 130 = .ok (.invokevirtual 124, 3) := by decide +kernel
theorem dX7_instruction_133 : decode cX7_instruction 133 = .ok (.goto 9, 3) := by decide +kernel
theorem dX7_instruction_136 : decode cX7_instruction 136 = .ok (.aload_n 0, 1) := by decide +kernel
theorem dX7_instruction_137 : decode cX7_instruction 137 = .ok (.iload_n 2, 1) := by decide +kernel
theorem dX7_instruction_138 : decode cX7_instruction 138 = .ok (.iload_n 3, 1) := by decide +kernel
theorem dX7_instruction_139 : decode cX7_instruction 139 = .ok (.invokevirtual 127, 3) := by decide +kernel
theorem dX7_instruction_142 : decode cX7_instruction 142 = .ok (.iload_n 2, 1) := by decide +kernel
theorem dX7_instruction_143 : decode cX7_instruction 143 = .ok (.bipush 12, 2) := by decide +kernel
theorem dX7_instruction_145 : decode cX7_instruction 145 = .ok (.if_icmp .ne 7, 3) := by decide +kernel
theorem dX7_instruction_148 : decode cX7_instruction 148 = .ok (.iconst 3, 1) := by decide +kernel
theorem dX7_instruction_149 : decode cX7_instruction 149 = .ok (.goto 4, 3) := by decide +kernel
theorem dX7_instruction_152 : decode cX7_instruction 152 = .ok (.iconst 2, 1) := by decide +kernel
theorem dX7_instruction_153 : decode cX7_instruction 153 = .ok (.ireturn, 1) := by decide +kernel
theorem dX7_cycle_0 : decode cX7_cycle 0 = .ok (.aload_n 0, 1) := by decide +kernel
theorem dX7_cycle_1 : decode cX7_cycle 1 = .ok (.dup, 1) := by decide +kernel
theorem dX7_cycle_2 : decode cX7_cycle 2 = .ok (.getfield 130, 3) := by decide +kernel
theorem dX7_cycle_5 : decode cX7_cycle 5 = .ok (.iconst 1, 1) := by decide +kernel
theorem dX7_cycle_6 : decode cX7_cycle 6 = .ok (.iadd, 1) := by decide +kernel
theorem dX7_cycle_7 : decode cX7_cycle 7 = .ok (.putfield 130, 3) := by decide +kernel
theorem dX7_cycle_10 : decode cX7_cycle 10 = .ok (.aload_n 0, 1) := by decide +kernel
theorem dX7_cycle_11 : decode cX7_cycle 11 = .ok (.getfield 130, 3) := by decide +kernel
theorem dX7_cycle_14 : decode cX7_cycle 14 = .ok (.bipush 14, 2) := by decide +kernel
theorem dX7_cycle_16 : decode cX7_cycle 16 = .ok (.if_icmp .ge 4, 3) := by decide +kernel
theorem dX7_cycle_19 : decode cX7_cycle 19 = .ok (.return_, 1) := by decide +kernel
theorem dX7_cycle_20 : decode cX7_cycle 20 = .ok (.aload_n 0, 1) := by decide +kernel
theorem dX7_cycle_21 : decode cX7_cycle 21 = .ok (.iconst 0, 1) := by decide +kernel
theorem dX7_cycle_22 : decode cX7_cycle 22 = .ok (.putfield 130, 3) := by decide +kernel
theorem dX7_cycle_25 : decode cX7_cycle 25 = .ok (.aload_n 0, 1) := by decide +kernel
theorem dX7_cycle_26 : decode cX7_cycle 26 = .ok (.iconst 0, 1) := by decide +kernel
theorem dX7_cycle_27 : decode cX7_cycle 27 = .ok (.putfield 133, 3) := by decide +kernel
theorem dX7_cycle_30 : decode cX7_cycle 30 = .ok (.aload_n 0, 1) := by decide +kernel
theorem dX7_cycle_31 : decode cX7_cycle 31 = .ok (.dup, 1) := by decide +kernel
theorem dX7_cycle_32 : decode cX7_cycle 32 = .ok (.getfield 59, 3) := by decide +kernel
theorem dX7_cycle_35 : decode cX7_cycle 35 = .ok (.iconst 1, 1) := by decide +kernel
theorem dX7_cycle_36 : decode cX7_cycle 36 = .ok (.iadd, 1) := by decide +kernel
theorem dX7_cycle_37 : decode cX7_cycle 37 = .ok (.putfield 59, 3) := by decide +kernel
end
section
theorem dX7_cycle_40 : decode cX7_cycle 40 = .ok (.aload_n 0, 1) := by decide +kernel
theorem dX7_cycle_41 : decode cX7_cycle 41 = .ok (.getfield 59, 3) := by decide +kernel
theorem dX7_cycle_44 : decode cX7_cycle 44 = .ok (.sipush 262, 3) := by decide +kernel
theorem dX7_cycle_47 : decode cX7_cycle 47 = .ok (.if_icmp .ge 4, 3) := by decide +kernel
theorem dX7_cycle_50 : decode cX7_cycle 50 = .ok (.return_, 1) := by decide +kernel
theorem dX7_cycle_51 : decode cX7_cycle 51 = .ok (.aload_n 0, 1) := by decide +kernel
theorem dX7_cycle_52 : decode cX7_cycle 52 = .ok (.iconst 0, 1) := by decide +kernel
theorem dX7_cycle_53 : decode cX7_cycle 53 = .ok (.putfield 59, 3) := by decide +kernel
theorem dX7_cycle_56 : decode cX7_cycle 56 = .ok (.aload_n 0, 1) := by decide +kernel
theorem dX7_cycle_57 : decode cX7_cycle 57 = .ok (.iconst 0, 1) := by decide +kernel
theorem dX7_cycle_58 : decode cX7_cycle 58 = .ok (.putfield 136, 3) := by decide +kernel
theorem dX7_cycle_61 : decode cX7_cycle 61 = .ok (.aload_n 0, 1) := by decide +kernel
theorem dX7_cycle_62 : decode cX7_cycle 62 = .ok (.dup, 1) := by decide +kernel
theorem dX7_cycle_63 : decode cX7_cycle 63 = .ok (.getfield 139, 3) := by decide +kernel
theorem dX7_cycle_66 : decode cX7_cycle 66 = .ok (.iconst 1, 1) := by decide +kernel
theorem dX7_cycle_67 : decode cX7_cycle 67 = .ok (.iadd, 1) := by decide +kernel
theorem dX7_cycle_68 : decode cX7_cycle 68 = .ok (.putfield 139, 3) := by decide +kernel
theorem dX7_cycle_71 : decode cX7_cycle 71 = .ok (.aload_n 0, 1) := by decide +kernel
theorem dX7_cycle_72 : decode cX7_cycle 72 = .ok (.getfield 16, 3) := by decide +kernel
theorem dX7_cycle_75 : decode cX7_cycle 75 = .ok (.bipush 19, 2) := by decide +kernel
theorem dX7_cycle_77 : decode cX7_cycle 77 = .ok (.iaload, 1) := by decide +kernel
theorem dX7_cycle_78 : decode cX7_cycle 78 = .ok (.ifCond .le 14, 3) := by decide +kernel
theorem dX7_cycle_81 : decode cX7_cycle 81 = .ok (.aload_n 0, 1) := by decide +kernel
theorem dX7_cycle_82 : decode cX7_cycle 82 = .ok (.getfield 16, 3) := by decide +kernel
theorem dX7_cycle_85 : decode cX7_cycle 85 = .ok (.bipush 19, 2) := by decide +kernel
theorem dX7_cycle_87 : decode cX7_cycle 87 = .ok (.dup2, 1) := by decide +kernel
theorem dX7_cycle_88 : decode cX7_cycle 88 = .ok (.iaload, 1) := by decide +kernel
theorem dX7_cycle_89 : decode cX7_cycle 89 = .ok (.iconst 1, 1) := by decide +kernel
theorem dX7_cycle_90 : decode cX7_cycle 90 = .ok (.isub, 1) := by decide +kernel
theorem dX7_cycle_91 : decode cX7_cycle 91 = .ok (.iastore, 1) := by decide +kernel
theorem dX7_cycle_92 : decode cX7_cycle 92 = .ok (.aload_n 0, 1) := by decide +kernel
theorem dX7_cycle_93 : decode cX7_cycle 93 = .ok (.getfield 16, 3) := by decide +kernel
theorem dX7_cycle_96 : decode cX7_cycle 96 = .ok (.bipush 20, 2) := by decide +kernel
theorem dX7_cycle_98 : decode cX7_cycle 98 = .ok (.iaload, 1) := by decide +kernel
theorem dX7_cycle_99 : decode cX7_cycle 99 = .ok (.ifCond .le 14, 3) := by decide +kernel
theorem dX7_cycle_102 : decode cX7_cycle 102 = .ok (.aload_n 0, 1) := by decide +kernel
theorem dX7_cycle_103 : decode cX7_cycle 103 = .ok (.getfield 16, 3) := by decide +kernel
theorem dX7_cycle_106 : decode cX7_cycle 106 = .ok (.bipush 20, 2) := by decide +kernel
theorem dX7_cycle_108 : decode cX7_cycle 108 = .ok (.dup2, 1) := by decide +kernel
theorem dX7_cycle_109 : decode cX7_cycle 109 = .ok (.iaload, 1) := by decide +kernel
theorem dX7_cycle_110 : decode cX7_cycle 110 = .ok (.iconst 1, 1) := by decide +kernel
theorem dX7_cycle_111 : decode cX7_cycle 111 = .ok (.isub, 1) := by decide +kernel
theorem dX7_cycle_112 : decode cX7_cycle 112 = .ok (.iastore, 1) := by decide +kernel
theorem dX7_cycle_113 : decode cX7_cycle 113 = .ok (.return_, 1) := by decide +kernel
theorem dX7_cycles_0 : decode cX7_cycles 0 = .ok (.iconst 0, 1) := by decide +kernel
theorem dX7_cycles_1 : decode cX7_cycles 1 = .ok (.istore_n 2, 1) := by decide +kernel
theorem dX7_cycles_2 : decode cX7_cycles 2 = .ok (.iload_n 2, 1) := by decide +kernel
theorem dX7_cycles_3 : decode cX7_cycles 3 = .ok (.iload_n 1, 1) := by decide +kernel
theorem dX7_cycles_4 : decode cX7_cycles 4 = .ok (.if_icmp .ge 13, 3) := by decide +kernel
theorem dX7_cycles_7 : decode cX7_cycles 7 = .ok (.aload_n 0, 1) := by decide +kernel
theorem dX7_cycles_8 : decode cX7_cycles 8 = .ok (.invokevirtual 142, 3) := by decide +kernel
theorem dX7_cycles_11 : decode cX7_cycles 11 = .ok (.iinc 2 1, 3) := by decide +kernel
theorem dX7_cycles_14 : decode cX7_cycles 14 = .ok (.goto (-12), 3) := by decide +kernel
theorem dX7_cycles_17 : decode cX7_cycles 17 = .ok (.return_, 1) := by decide +kernel
theorem dX7_behindOne_0 : decode cX7_behindOne 0 = .ok (.aload_n 0, 1) := by decide +kernel
theorem dX7_behindOne_1 : decode cX7_behindOne 1 = .ok (.getfield 55, 3) := by decide +kernel
theorem dX7_behindOne_4 : decode cX7_behindOne 4 = .ok (.ifCond .ne 5, 3) := by decide +kernel
theorem dX7_behindOne_7 : decode cX7_behindOne 7 = .ok (.iconst 0, 1) := by decide +kernel
theorem dX7_behindOne_8 : decode cX7_behindOne 8 = .ok (.ireturn, 1) := by decide +kernel
theorem dX7_behindOne_9 : decode cX7_behindOne 9 = .ok (.aload_n 0, 1) := by decide +kernel
theorem dX7_behindOne_10 : decode cX7_behindOne 10 = .ok (.getfield 59, 3) := by decide +kernel
theorem dX7_behindOne_13 : decode cX7_behindOne 13 = .ok (.bipush 64, 2) := by decide +kernel
theorem dX7_behindOne_15 : decode cX7_behindOne 15 = .ok (.if_icmp .lt 86, 3) := by decide +kernel
theorem dX7_behindOne_18 : decode cX7_behindOne 18 = .ok (.aload_n 0, 1) := by decide +kernel
theorem dX7_behindOne_19 : decode cX7_behindOne 19 = .ok (.getfield 59, 3) := by decide +kernel
theorem dX7_behindOne_22 : decode cX7_behindOne 22 = .ok (.sipush 192, 3) := by decide +kernel
theorem dX7_behindOne_25 : decode cX7_behindOne 25 = .ok (.if_icmp .ge 76, 3) := by decide +kernel
theorem dX7_behindOne_28 : decode cX7_behindOne 28 = .ok (.aload_n 0, 1) := by decide +kernel
theorem dX7_behindOne_29 : decode cX7_behindOne 29 = .ok (.getfield 133, 3) := by decide +kernel
theorem dX7_behindOne_32 : decode cX7_behindOne 32 = .ok (.ifCond .ne 69, 3) := by decide +kernel
theorem dX7_behindOne_35 : decode cX7_behindOne 35 = .ok (.aload_n 0, 1) := by decide +kernel
theorem dX7_behindOne_36 : decode cX7_behindOne 36 = .ok (.getfield 130, 3) := by decide +kernel
theorem dX7_behindOne_39 : decode cX7_behindOne 39 = .ok (.iconst 2, 1) := by decide +kernel
theorem dX7_behindOne_40 : decode cX7_behindOne 40 = .ok (.if_icmp .lt 61, 3) := by decide +kernel
theorem dX7_behindOne_43 : decode cX7_behindOne 43 = .ok (.iconst 0, 1) := by decide +kernel
theorem dX7_behindOne_44 : decode cX7_behindOne 44 = .ok (.istore_n 1, 1) := by decide +kernel
theorem dX7_behindOne_45 : decode cX7_behindOne 45 = .ok (.iload_n 1, 1) := by decide +kernel
theorem dX7_behindOne_46 : decode cX7_behindOne 46 = .ok (.bipush 8, 2) := by decide +kernel
theorem dX7_behindOne_48 : decode cX7_behindOne 48 = .ok (.if_icmp .ge 37, 3) := by decide +kernel
theorem dX7_behindOne_51 : decode cX7_behindOne 51 = .ok (.aload_n 0, 1) := by decide +kernel
theorem dX7_behindOne_52 : decode cX7_behindOne 52 = .ok (.getfield 26, 3) := by decide +kernel
theorem dX7_behindOne_55 : decode cX7_behindOne 55 = .ok (.bipush 8, 2) := by decide +kernel
theorem dX7_behindOne_57 : decode cX7_behindOne 57 = .ok (.aload_n 0, 1) := by decide +kernel
theorem dX7_behindOne_58 : decode cX7_behindOne 58 = .ok (.getfield 59, 3) := by decide +kernel
theorem dX7_behindOne_61 : decode cX7_behindOne 61 = .ok (.bipush 64, 2) := by decide +kernel
theorem dX7_behindOne_63 : decode cX7_behindOne 63 = .ok (.isub, 1) := by decide +kernel
theorem dX7_behindOne_64 : decode cX7_behindOne 64 = .ok (.imul, 1) := by decide +kernel
theorem dX7_behindOne_65 : decode cX7_behindOne 65 = .ok (.iload_n 1, 1) := by decide +kernel
theorem dX7_behindOne_66 : decode cX7_behindOne 66 = .ok (.iadd, 1) := by decide +kernel
theorem dX7_behindOne_67 : decode cX7_behindOne 67 = .ok (.aload_n 0, 1) := by decide +kernel
theorem dX7_behindOne_68 : decode cX7_behindOne 68 = .ok (.iconst 0, 1) := by decide +kernel
theorem dX7_behindOne_69 : decode cX7_behindOne 69 = .ok (.invokevirtual 47, 3) := by decide +kernel
theorem dX7_behindOne_72 : decode cX7_behindOne 72 = .ok (.iastore, 1) := by decide +kernel
theorem dX7_behindOne_73 : decode cX7_behindOne 73 = .ok (.aload_n 0, 1) := by decide +kernel
theorem dX7_behindOne_74 : decode cX7_behindOne 74 = .ok (.iconst 0, 1) := by decide +kernel
theorem dX7_behindOne_75 : decode cX7_behindOne 75 = .ok (.iconst 1, 1) := by decide +kernel
theorem dX7_behindOne_76 : decode cX7_behindOne 76 = .ok (.invokevirtual 50, 3) := by decide +kernel
theorem dX7_behindOne_79 : decode cX7_behindOne 79 = .ok (.iinc 1 1, 3) := by decide +kernel
theorem dX7_behindOne_82 : decode cX7_behindOne 82 = .ok (.goto (-37), 3) := by decide +kernel
theorem dX7_behindOne_85 : decode cX7_behindOne 85 = .ok (.aload_n 0, 1) := by decide +kernel
theorem dX7_behindOne_86 : decode cX7_behindOne 86 = .ok (.iconst 1, 1) := by decide +kernel
theorem dX7_behindOne_87 : decode cX7_behindOne 87 = .ok (.putfield 133, 3) := by decide +kernel
theorem dX7_behindOne_90 : decode cX7_behindOne 90 = .ok (.aload_n 0, 1) := by decide +kernel
theorem dX7_behindOne_91 : decode cX7_behindOne 91 = .ok (.getfield 13, 3) := by decide +kernel
theorem dX7_behindOne_94 : decode cX7_behindOne 94 = .ok (.bipush 23, 2) := by decide +kernel
theorem dX7_behindOne_96 : decode cX7_behindOne 96 = .ok (.iconst 0, 1) := by decide +kernel
theorem dX7_behindOne_97 : decode cX7_behindOne 97 = .ok (.iastore, 1) := by decide +kernel
theorem dX7_behindOne_98 : decode cX7_behindOne 98 = .ok (.bipush 8, 2) := by decide +kernel
theorem dX7_behindOne_100 : decode cX7_behindOne 100 = .ok (.ireturn, 1) := by decide +kernel
theorem dX7_behindOne_101 : decode cX7_behindOne 101 = .ok (.aload_n 0, 1) := by decide +kernel
theorem dX7_behindOne_102 : decode cX7_behindOne 102 = .ok (.getfield 59, 3) := by decide +kernel
theorem dX7_behindOne_105 : decode cX7_behindOne 105 = .ok (.bipush 62, 2) := by decide +kernel
theorem dX7_behindOne_107 : decode cX7_behindOne 107 = .ok (.if_icmp .eq 12, 3) := by decide +kernel
theorem dX7_behindOne_110 : decode cX7_behindOne 110 = .ok (.aload_n 0, 1) := by decide +kernel
theorem dX7_behindOne_111 : decode cX7_behindOne 111 = .ok (.getfield 59, 3) := by decide +kernel
theorem dX7_behindOne_114 : decode cX7_behindOne 114 = .ok (.bipush 63, 2) := by decide +kernel
theorem dX7_behindOne_116 : decode cX7_behindOne 116 = .ok (.if_icmp .ne 85, 3) := by decide +kernel
theorem dX7_behindOne_119 : decode cX7_behindOne 119 = .ok (.aload_n 0, 1) := by decide +kernel
theorem dX7_behindOne_120 : decode cX7_behindOne 120 = .ok (.getfield 13, 3) := by decide +kernel
theorem dX7_behindOne_123 : decode cX7_behindOne 123 = .ok (.bipush 21, 2) := by decide +kernel
theorem dX7_behindOne_125 : decode cX7_behindOne 125 = .ok (.iaload, 1) := by decide +kernel
theorem dX7_behindOne_126 : decode cX7_behindOne 126 = .ok (.iconst 1, 1) := by decide +kernel
theorem dX7_behindOne_127 : decode cX7_behindOne 127 = .ok (.if_icmp .ne 74, 3) := by decide +kernel
theorem dX7_behindOne_130 : decode cX7_behindOne 130 = .ok (.aload_n 0, 1) := by decide +kernel
theorem dX7_behindOne_131 : decode cX7_behindOne 131 = .ok (.getfield 136, 3) := by decide +kernel
theorem dX7_behindOne_134 : decode cX7_behindOne 134 = .ok (.ifCond .ne 67, 3) := by decide +kernel
theorem dX7_behindOne_137 : decode cX7_behindOne 137 = .ok (.aload_n 0, 1) := by decide +kernel
theorem dX7_behindOne_138 : decode cX7_behindOne 138 = .ok (.getfield 13, 3) := by decide +kernel
theorem dX7_behindOne_141 : decode cX7_behindOne 141 = .ok (.bipush 20, 2) := by decide +kernel
theorem dX7_behindOne_143 : decode cX7_behindOne 143 = .ok (.bipush 16, 2) := by decide +kernel
theorem dX7_behindOne_145 : decode cX7_behindOne 145 = .ok (.aload_n 0, 1) := by decide +kernel
theorem dX7_behindOne_146 : decode cX7_behindOne 146 = .ok (.getfield 13, 3) := by decide +kernel
theorem dX7_behindOne_149 : decode cX7_behindOne 149 = .ok (.bipush 19, 2) := by decide +kernel
theorem dX7_behindOne_151 : decode cX7_behindOne 151 = .ok (.iaload, 1) := by decide +kernel
theorem dX7_behindOne_152 : decode cX7_behindOne 152 = .ok (.imul, 1) := by decide +kernel
theorem dX7_behindOne_153 : decode cX7_behindOne 153 = .ok (.aload_n 0, 1) := by decide +kernel
theorem dX7_behindOne_154 : decode cX7_behindOne 154 = .ok (.getfield 13, 3) := by decide +kernel
theorem dX7_behindOne_157 : decode cX7_behindOne 157 = .ok (.bipush 18, 2) := by decide +kernel
theorem dX7_behindOne_159 : decode cX7_behindOne 159 = .ok (.iaload, 1) := by decide +kernel
theorem dX7_behindOne_160 : decode cX7_behindOne 160 = .ok (.iadd, 1) := by decide +kernel
theorem dX7_behindOne_161 : decode cX7_behindOne 161 = .ok (.iastore, 1) := by decide +kernel
theorem dX7_behindOne_162 : decode cX7_behindOne 162 = .ok (.aload_n 0, 1) := by decide +kernel
theorem dX7_behindOne_163 : decode cX7_behindOne 163 = .ok (.getfield 13, 3) := by decide +kernel
theorem dX7_behindOne_166 : decode cX7_behindOne 166 = .ok (.bipush 19, 2) := by decide +kernel
theorem dX7_behindOne_168 : decode cX7_behindOne 168 = .ok (.iconst 2, 1) := by decide +kernel
theorem dX7_behindOne_169 : decode cX7_behindOne 169 = .ok (.iastore, 1) := by decide +kernel
theorem dX7_behindOne_170 : decode cX7_behindOne 170 = .ok (.aload_n 0, 1) := by decide +kernel
theorem dX7_behindOne_171 : decode cX7_behindOne 171 = .ok (.getfield 13, 3) := by decide +kernel
theorem dX7_behindOne_174 : decode cX7_behindOne 174 = .ok (.bipush 18, 2) := by decide +kernel
theorem dX7_behindOne_176 : decode cX7_behindOne 176 = .ok (.iconst 1, 1) := by decide +kernel
theorem dX7_behindOne_177 : decode cX7_behindOne 177 = .ok (.iastore, 1) := by decide +kernel
theorem dX7_behindOne_178 : decode cX7_behindOne 178 = .ok (.aload_n 0, 1) := by decide +kernel
theorem dX7_behindOne_179 : decode cX7_behindOne 179 = .ok (.getfield 13, 3) := by decide +kernel
theorem dX7_behindOne_182 : decode cX7_behindOne 182 = .ok (.bipush 21, 2) := by decide +kernel
theorem dX7_behindOne_184 : decode cX7_behindOne 184 = .ok (.iconst 0, 1) := by decide +kernel
theorem dX7_behindOne_185 : decode cX7_behindOne 185 = .ok (.iastore, 1) := by decide +kernel
theorem dX7_behindOne_186 : decode cX7_behindOne 186 = .ok (.aload_n 0, 1) := by decide +kernel
theorem dX7_behindOne_187 : decode cX7_behindOne 187 = .ok (.getfield 13, 3) := by decide +kernel
theorem dX7_behindOne_190 : decode cX7_behindOne 190 = .ok (.bipush 23, 2) := by decide +kernel
theorem dX7_behindOne_192 : decode cX7_behindOne 192 = .ok (.iconst 0, 1) := by decide +kernel
theorem dX7_behindOne_193 : decode cX7_behindOne 193 = .ok (.iastore, 1) := by decide +kernel
theorem dX7_behindOne_194 : decode cX7_behindOne 194 = .ok (.aload_n 0, 1) := by decide +kernel
theorem dX7_behindOne_195 : decode cX7_behindOne 195 = .ok (.iconst 1, 1) := by decide +kernel
theorem dX7_behindOne_196 : decode cX7_behindOne 196 = .ok (.putfield 136, 3) := by decide +kernel
theorem dX7_behindOne_199 : decode cX7_behindOne 199 = .ok (.iconst 1, 1) := by decide +kernel
theorem dX7_behindOne_200 : decode cX7_behindOne 200 = .ok (.ireturn, 1) := by decide +kernel
theorem dX7_behindOne_201 : decode cX7_behindOne 201 = .ok (.iconst 0, 1) := by decide +kernel
theorem dX7_behindOne_202 : decode cX7_behindOne 202 = .ok (.ireturn, 1) := by decide +kernel
theorem dX7_run_0 : decode cX7_run 0 = .ok (.aload_n 0, 1) := by decide +kernel
theorem dX7_run_1 : decode cX7_run 1 = .ok (.iload_n 1, 1) := by decide +kernel
theorem dX7_run_2 : decode cX7_run 2 = .ok (.iconst 1, 1) := by decide +kernel
theorem dX7_run_3 : decode cX7_run 3 = .ok (.if_icmp .lt 10, 3) := by decide +kernel
theorem dX7_run_6 : decode cX7_run 6 = .ok (.iload_n 1, 1) := by decide +kernel
theorem dX7_run_7 : decode cX7_run 7 = .ok (.sipush 4000, 3) := by decide +kernel
theorem dX7_run_10 : decode cX7_run 10 = .ok (.if_icmp .le 7, 3) := by decide +kernel
theorem dX7_run_13 : decode cX7_run 13 = .ok (.iconst 1, 1) := by decide +kernel
theorem dX7_run_14 : decode cX7_run 14 = .ok (.goto 4, 3) := by decide +kernel
theorem dX7_run_17 : decode cX7_run 17 = .ok (.iconst 0, 1) := by decide +kernel
theorem dX7_run_18 : decode cX7_run 18 = .ok (.iconst 1, 1) := by decide +kernel
theorem dX7_run_19 : decode cX7_run 19 = .ok (.invokevirtual 37, 3) := by decide +kernel
theorem dX7_run_22 : decode cX7_run 22 = .ok (.ifCond .eq 5, 3) := by decide +kernel
theorem dX7_run_25 : decode cX7_run 25 = .ok (.iconst 0, 1) := by decide +kernel
theorem dX7_run_26 : decode cX7_run 26 = .ok (.ireturn, 1) := by decide +kernel
theorem dX7_run_27 : decode cX7_run 27 = .ok (.iconst 0, 1) := by decide +kernel
theorem dX7_run_28 : decode cX7_run 28 = .ok (.istore_n 2, 1) := by decide +kernel
theorem dX7_run_29 : decode cX7_run 29 = .ok (.iload_n 2, 1) := by decide +kernel
theorem dX7_run_30 : decode cX7_run 30 = .ok (.iload_n 1, 1) := by decide +kernel
theorem dX7_run_31 : decode cX7_run 31 = .ok (.if_icmp .ge 35, 3) := by decide +kernel
theorem dX7_run_34 : decode cX7_run 34 = .ok (.aload_n 0, 1) := by decide +kernel
theorem dX7_run_35 : decode cX7_run 35 = .ok (.invokevirtual 145, 3) := by decide +kernel
theorem dX7_run_38 : decode cX7_run 38 = .ok (.istore_n 3, 1) := by decide +kernel
theorem dX7_run_39 : decode cX7_run 39 = .ok (.aload_n 0, 1) := by decide +kernel
theorem dX7_run_40 : decode cX7_run 40 = .ok (.iload_n 3, 1) := by decide +kernel
theorem dX7_run_41 : decode cX7_run 41 = .ok (.invokevirtual 148, 3) := by decide +kernel
theorem dX7_run_44 : decode cX7_run 44 = .ok (.aload_n 0, 1) := by decide +kernel
theorem dX7_run_45 : decode cX7_run 45 = .ok (.invokevirtual 151, 3) := by decide +kernel
theorem dX7_run_48 : decode cX7_run 48 = .ok (.istore 4, 2) := by decide +kernel
theorem dX7_run_50 : decode cX7_run 50 = .ok (.aload_n 0, 1) := by decide +kernel
theorem dX7_run_51 : decode cX7_run 51 = .ok (.iload 4, 2) := by decide +kernel
theorem dX7_run_53 : decode cX7_run 53 = .ok (.invokevirtual 148, 3) := by decide +kernel
theorem dX7_run_56 : decode cX7_run 56 = .ok (.iload_n 2, 1) := by decide +kernel
theorem dX7_run_57 : decode cX7_run 57 = .ok (.iload_n 3, 1) := by decide +kernel
theorem dX7_run_58 : decode cX7_run 58 = .ok (.iload 4, 2) := by decide +kernel
theorem dX7_run_60 : decode cX7_run 60 = .ok (.iadd, 1) := by decide +kernel
theorem dX7_run_61 : decode cX7_run 61 = .ok (.iadd, 1) := by decide +kernel
theorem dX7_run_62 : decode cX7_run 62 = .ok (.istore_n 2, 1) := by decide +kernel
theorem dX7_run_63 : decode cX7_run 63 = .ok (.goto (-34), 3) := by decide +kernel
theorem dX7_run_66 : decode cX7_run 66 = .ok (.iload_n 2, 1) := by decide +kernel
theorem dX7_run_67 : decode cX7_run 67 = .ok (.ireturn, 1) := by decide +kernel
theorem dX7_video_0 : decode cX7_video 0 = .ok (.aload_n 0, 1) := by decide +kernel
theorem dX7_video_1 : decode cX7_video 1 = .ok (.iload_n 1, 1) := by decide +kernel
theorem dX7_video_2 : decode cX7_video 2 = .ok (.bipush 6, 2) := by decide +kernel
theorem dX7_video_4 : decode cX7_video 4 = .ok (.invokestatic 33, 3) := by decide +kernel
theorem dX7_video_7 : decode cX7_video 7 = .ok (.iconst 1, 1) := by decide +kernel
theorem dX7_video_8 : decode cX7_video 8 = .ok (.invokevirtual 37, 3) := by decide +kernel
theorem dX7_video_11 : decode cX7_video 11 = .ok (.ifCond .eq 5, 3) := by decide +kernel
theorem dX7_video_14 : decode cX7_video 14 = .ok (.iconst 0, 1) := by decide +kernel
theorem dX7_video_15 : decode cX7_video 15 = .ok (.ireturn, 1) := by decide +kernel
theorem dX7_video_16 : decode cX7_video 16 = .ok (.iload_n 1, 1) := by decide +kernel
theorem dX7_video_17 : decode cX7_video 17 = .ok (.tableswitch 76 0 4 #[35, 48, 53, 58, 63], 35) := by decide +kernel
theorem dX7_video_52 : decode cX7_video 52 = .ok (.aload_n 0, 1) := by decide +kernel
theorem dX7_video_53 : decode cX7_video 53 = .ok (.getfield 55, 3) := by decide +kernel
theorem dX7_video_56 : decode cX7_video 56 = .ok (.ifCond .eq 7, 3) := by decide +kernel
theorem dX7_video_59 : decode cX7_video 59 = .ok (.iconst 1, 1) := by decide +kernel
theorem dX7_video_60 : decode cX7_video 60 = .ok (.goto 4, 3) := by decide +kernel
theorem dX7_video_63 : decode cX7_video 63 = .ok (.iconst 0, 1) := by decide +kernel
theorem dX7_video_64 : decode cX7_video 64 = .ok (.ireturn, 1) := by decide +kernel
theorem dX7_video_65 : decode cX7_video 65 = .ok (.aload_n 0, 1) := by decide +kernel
theorem dX7_video_66 : decode cX7_video 66 = .ok (.getfield 59, 3) := by decide +kernel
theorem dX7_video_69 : decode cX7_video 69 = .ok (.ireturn, 1) := by decide +kernel
theorem dX7_video_70 : decode cX7_video 70 = .ok (.aload_n 0, 1) := by decide +kernel
theorem dX7_video_71 : decode cX7_video 71 = .ok (.getfield 130, 3) := by decide +kernel
theorem dX7_video_74 : decode cX7_video 74 = .ok (.ireturn, 1) := by decide +kernel
theorem dX7_video_75 : decode cX7_video 75 = .ok (.aload_n 0, 1) := by decide +kernel
theorem dX7_video_76 : decode cX7_video 76 = .ok (.getfield 139, 3) := by decide +kernel
theorem dX7_video_79 : decode cX7_video 79 = .ok (.ireturn, 1) := by decide +kernel
theorem dX7_video_80 : decode cX7_video 80 = .ok (.aload_n 0, 1) := by decide +kernel
theorem dX7_video_81 : decode cX7_video 81 = .ok (.invokevirtual 62, 3) := by decide +kernel
theorem dX7_video_84 : decode cX7_video 84 = .ok (.ifCond .eq 7, 3) := by decide +kernel
theorem dX7_video_87 : decode cX7_video 87 = .ok (.iconst 1, 1) := by decide +kernel
theorem dX7_video_88 : decode cX7_video 88 = .ok (.goto 4, 3) := by decide +kernel
theorem dX7_video_91 : decode cX7_video 91 = .ok (.iconst 0, 1) := by decide +kernel
theorem dX7_video_92 : decode cX7_video 92 = .ok (.ireturn, 1) := by decide +kernel
theorem dX7_video_93 : decode cX7_video 93 = .ok (.aload_n 0, 1) := by decide +kernel
theorem dX7_video_94 : decode cX7_video 94 = .ok (.getfield 66, 3) := by decide +kernel
theorem dX7_video_97 : decode cX7_video 97 = .ok (.ireturn, 1) := by decide +kernel
theorem dX7_shown_0 : decode cX7_shown 0 = .ok (.aload_n 0, 1) := by decide +kernel
theorem dX7_shown_1 : decode cX7_shown 1 = .ok (.iload_n 1, 1) := by decide +kernel
theorem dX7_shown_2 : decode cX7_shown 2 = .ok (.sipush 128, 3) := by decide +kernel
theorem dX7_shown_5 : decode cX7_shown 5 = .ok (.invokestatic 33, 3) := by decide +kernel
theorem dX7_shown_8 : decode cX7_shown 8 = .ok (.ifCond .ne 12, 3) := by decide +kernel
theorem dX7_shown_11 : decode cX7_shown 11 = .ok (.iload_n 2, 1) := by decide +kernel
theorem dX7_shown_12 : decode cX7_shown 12 = .ok (.bipush 8, 2) := by decide +kernel
theorem dX7_shown_14 : decode cX7_shown 14 = .ok (.invokestatic 33, 3) := by decide +kernel
theorem dX7_shown_17 : decode cX7_shown 17 = .ok (.ifCond .eq 7, 3) := by decide +kernel
theorem dX7_shown_20 : decode cX7_shown 20 = .ok (.iconst 1, 1) := by decide +kernel
theorem dX7_shown_21 : decode cX7_shown 21 = .ok (.goto 4, 3) := by decide +kernel
theorem dX7_shown_24 : decode cX7_shown 24 = .ok (.iconst 0, 1) := by decide +kernel
theorem dX7_shown_25 : decode cX7_shown 25 = .ok (.iconst 1, 1) := by decide +kernel
theorem dX7_shown_26 : decode cX7_shown 26 = .ok (.invokevirtual 37, 3) := by decide +kernel
theorem dX7_shown_29 : decode cX7_shown 29 = .ok (.ifCond .eq 7, 3) := by decide +kernel
theorem dX7_shown_32 : decode cX7_shown 32 = .ok (.iconst 0, 1) := by decide +kernel
theorem dX7_shown_33 : decode cX7_shown 33 = .ok (.goto 14, 3) := by decide +kernel
theorem dX7_shown_36 : decode cX7_shown 36 = .ok (.aload_n 0, 1) := by decide +kernel
theorem dX7_shown_37 : decode cX7_shown 37 = .ok (.getfield 26, 3) := by decide +kernel
theorem dX7_shown_40 : decode cX7_shown 40 = .ok (.bipush 8, 2) := by decide +kernel
theorem dX7_shown_42 : decode cX7_shown 42 = .ok (.iload_n 1, 1) := by decide +kernel
theorem dX7_shown_43 : decode cX7_shown 43 = .ok (.imul, 1) := by decide +kernel
theorem dX7_shown_44 : decode cX7_shown 44 = .ok (.iload_n 2, 1) := by decide +kernel
theorem dX7_shown_45 : decode cX7_shown 45 = .ok (.iadd, 1) := by decide +kernel
theorem dX7_shown_46 : decode cX7_shown 46 = .ok (.iaload, 1) := by decide +kernel
theorem dX7_shown_47 : decode cX7_shown 47 = .ok (.ireturn, 1) := by decide +kernel
theorem dX7_key_0 : decode cX7_key 0 = .ok (.aload_n 0, 1) := by decide +kernel
theorem dX7_key_1 : decode cX7_key 1 = .ok (.iload_n 1, 1) := by decide +kernel
theorem dX7_key_2 : decode cX7_key 2 = .ok (.bipush 16, 2) := by decide +kernel
theorem dX7_key_4 : decode cX7_key 4 = .ok (.invokestatic 33, 3) := by decide +kernel
theorem dX7_key_7 : decode cX7_key 7 = .ok (.iconst 1, 1) := by decide +kernel
theorem dX7_key_8 : decode cX7_key 8 = .ok (.invokevirtual 37, 3) := by decide +kernel
theorem dX7_key_11 : decode cX7_key 11 = .ok (.ifCond .eq 4, 3) := by decide +kernel
theorem dX7_key_14 : decode cX7_key 14 = .ok (.return_, 1) := by decide +kernel
theorem dX7_key_15 : decode cX7_key 15 = .ok (.aload_n 0, 1) := by decide +kernel
theorem dX7_key_16 : decode cX7_key 16 = .ok (.getfield 22, 3) := by decide +kernel
theorem dX7_key_19 : decode cX7_key 19 = .ok (.iload_n 1, 1) := by decide +kernel
theorem dX7_key_20 : decode cX7_key 20 = .ok (.iload_n 2, 1) := by decide +kernel
theorem dX7_key_21 : decode cX7_key 21 = .ok (.bastore, 1) := by decide +kernel
theorem dX7_key_22 : decode cX7_key 22 = .ok (.return_, 1) := by decide +kernel
theorem dX7_goesOn_0 : decode cX7_goesOn 0 = .ok (.aload_n 0, 1) := by decide +kernel
theorem dX7_goesOn_1 : decode cX7_goesOn 1 = .ok (.getfield 16, 3) := by decide +kernel
theorem dX7_goesOn_4 : decode cX7_goesOn 4 = .ok (.bipush 17, 2) := by decide +kernel
theorem dX7_goesOn_6 : decode cX7_goesOn 6 = .ok (.aload_n 0, 1) := by decide +kernel
theorem dX7_goesOn_7 : decode cX7_goesOn 7 = .ok (.getfield 16, 3) := by decide +kernel
theorem dX7_goesOn_10 : decode cX7_goesOn 10 = .ok (.bipush 17, 2) := by decide +kernel
theorem dX7_goesOn_12 : decode cX7_goesOn 12 = .ok (.iaload, 1) := by decide +kernel
theorem dX7_goesOn_13 : decode cX7_goesOn 13 = .ok (.iload_n 1, 1) := by decide +kernel
theorem dX7_goesOn_14 : decode cX7_goesOn 14 = .ok (.ifCond .eq 7, 3) := by decide +kernel
theorem dX7_goesOn_17 : decode cX7_goesOn 17 = .ok (.iconst 4, 1) := by decide +kernel
theorem dX7_goesOn_18 : decode cX7_goesOn 18 = .ok (.goto 4, 3) := by decide +kernel
theorem dX7_goesOn_21 : decode cX7_goesOn 21 = .ok (.iconst 2, 1) := by decide +kernel
theorem dX7_goesOn_22 : decode cX7_goesOn 22 = .ok (.iadd, 1) := by decide +kernel
theorem dX7_goesOn_23 : decode cX7_goesOn 23 = .ok (.sipush 4095, 3) := by decide +kernel
theorem dX7_goesOn_26 : decode cX7_goesOn 26 = .ok (.iand, 1) := by decide +kernel
theorem dX7_goesOn_27 : decode cX7_goesOn 27 = .ok (.iastore, 1) := by decide +kernel
theorem dX7_goesOn_28 : decode cX7_goesOn 28 = .ok (.return_, 1) := by decide +kernel
theorem dX7_zero_0 : decode cX7_zero 0 = .ok (.iload_n 1, 1) := by decide +kernel
theorem dX7_zero_1 : decode cX7_zero 1 = .ok (.sipush 224, 3) := by decide +kernel
theorem dX7_zero_4 : decode cX7_zero 4 = .ok (.if_icmp .ne 34, 3) := by decide +kernel
theorem dX7_zero_7 : decode cX7_zero 7 = .ok (.sipush 1792, 3) := by decide +kernel
theorem dX7_zero_10 : decode cX7_zero 10 = .ok (.istore_n 2, 1) := by decide +kernel
theorem dX7_zero_11 : decode cX7_zero 11 = .ok (.iload_n 2, 1) := by decide +kernel
theorem dX7_zero_12 : decode cX7_zero 12 = .ok (.sipush 2048, 3) := by decide +kernel
theorem dX7_zero_15 : decode cX7_zero 15 = .ok (.if_icmp .ge 16, 3) := by decide +kernel
theorem dX7_zero_18 : decode cX7_zero 18 = .ok (.aload_n 0, 1) := by decide +kernel
theorem dX7_zero_19 : decode cX7_zero 19 = .ok (.getfield 7, 3) := by decide +kernel
theorem dX7_zero_22 : decode cX7_zero 22 = .ok (.iload_n 2, 1) := by decide +kernel
theorem dX7_zero_23 : decode cX7_zero 23 = .ok (.iconst 0, 1) := by decide +kernel
theorem dX7_zero_24 : decode cX7_zero 24 = .ok (.iastore, 1) := by decide +kernel
theorem dX7_zero_25 : decode cX7_zero 25 = .ok (.iinc 2 1, 3) := by decide +kernel
theorem dX7_zero_28 : decode cX7_zero 28 = .ok (.goto (-17), 3) := by decide +kernel
theorem dX7_zero_31 : decode cX7_zero 31 = .ok (.aload_n 0, 1) := by decide +kernel
theorem dX7_zero_32 : decode cX7_zero 32 = .ok (.iconst 0, 1) := by decide +kernel
theorem dX7_zero_33 : decode cX7_zero 33 = .ok (.invokevirtual 154, 3) := by decide +kernel
theorem dX7_zero_36 : decode cX7_zero 36 = .ok (.iconst 0, 1) := by decide +kernel
theorem dX7_zero_37 : decode cX7_zero 37 = .ok (.ireturn, 1) := by decide +kernel
theorem dX7_zero_38 : decode cX7_zero 38 = .ok (.iload_n 1, 1) := by decide +kernel
theorem dX7_zero_39 : decode cX7_zero 39 = .ok (.sipush 238, 3) := by decide +kernel
theorem dX7_zero_42 : decode cX7_zero 42 = .ok (.if_icmp .eq 5, 3) := by decide +kernel
theorem dX7_zero_45 : decode cX7_zero 45 = .ok (.iconst 1, 1) := by decide +kernel
theorem dX7_zero_46 : decode cX7_zero 46 = .ok (.ireturn, 1) := by decide +kernel
theorem dX7_zero_47 : decode cX7_zero 47 = .ok (.aload_n 0, 1) := by decide +kernel
theorem dX7_zero_48 : decode cX7_zero 48 = .ok (.getfield 16, 3) := by decide +kernel
theorem dX7_zero_51 : decode cX7_zero 51 = .ok (.bipush 18, 2) := by decide +kernel
theorem dX7_zero_53 : decode cX7_zero 53 = .ok (.iaload, 1) := by decide +kernel
theorem dX7_zero_54 : decode cX7_zero 54 = .ok (.ifCond .ne 5, 3) := by decide +kernel
theorem dX7_zero_57 : decode cX7_zero 57 = .ok (.iconst 2, 1) := by decide +kernel
theorem dX7_zero_58 : decode cX7_zero 58 = .ok (.ireturn, 1) := by decide +kernel
theorem dX7_zero_59 : decode cX7_zero 59 = .ok (.aload_n 0, 1) := by decide +kernel
theorem dX7_zero_60 : decode cX7_zero 60 = .ok (.getfield 16, 3) := by decide +kernel
theorem dX7_zero_63 : decode cX7_zero 63 = .ok (.bipush 18, 2) := by decide +kernel
theorem dX7_zero_65 : decode cX7_zero 65 = .ok (.dup2, 1) := by decide +kernel
theorem dX7_zero_66 : decode cX7_zero 66 = .ok (.iaload, 1) := by decide +kernel
theorem dX7_zero_67 : decode cX7_zero 67 = .ok (.iconst 1, 1) := by decide +kernel
theorem dX7_zero_68 : decode cX7_zero 68 = .ok (.isub, 1) := by decide +kernel
theorem dX7_zero_69 : decode cX7_zero 69 = .ok (.iastore, 1) := by decide +kernel
theorem dX7_zero_70 : decode cX7_zero 70 = .ok (.aload_n 0, 1) := by decide +kernel
theorem dX7_zero_71 : decode cX7_zero 71 = .ok (.getfield 16, 3) := by decide +kernel
theorem dX7_zero_74 : decode cX7_zero 74 = .ok (.bipush 17, 2) := by decide +kernel
theorem dX7_zero_76 : decode cX7_zero 76 = .ok (.aload_n 0, 1) := by decide +kernel
theorem dX7_zero_77 : decode cX7_zero 77 = .ok (.getfield 19, 3) := by decide +kernel
theorem dX7_zero_80 : decode cX7_zero 80 = .ok (.aload_n 0, 1) := by decide +kernel
theorem dX7_zero_81 : decode cX7_zero 81 = .ok (.getfield 16, 3) := by decide +kernel
theorem dX7_zero_84 : decode cX7_zero 84 = .ok (.bipush 18, 2) := by decide +kernel
theorem dX7_zero_86 : decode cX7_zero 86 = .ok (.iaload, 1) := by decide +kernel
theorem dX7_zero_87 : decode cX7_zero 87 = .ok (.iaload, 1) := by decide +kernel
theorem dX7_zero_88 : decode cX7_zero 88 = .ok (.iastore, 1) := by decide +kernel
theorem dX7_zero_89 : decode cX7_zero 89 = .ok (.iconst 0, 1) := by decide +kernel
theorem dX7_zero_90 : decode cX7_zero 90 = .ok (.ireturn, 1) := by decide +kernel
theorem dX7_call_0 : decode cX7_call 0 = .ok (.aload_n 0, 1) := by decide +kernel
theorem dX7_call_1 : decode cX7_call 1 = .ok (.getfield 16, 3) := by decide +kernel
theorem dX7_call_4 : decode cX7_call 4 = .ok (.bipush 18, 2) := by decide +kernel
theorem dX7_call_6 : decode cX7_call 6 = .ok (.iaload, 1) := by decide +kernel
theorem dX7_call_7 : decode cX7_call 7 = .ok (.bipush 12, 2) := by decide +kernel
theorem dX7_call_9 : decode cX7_call 9 = .ok (.if_icmp .ne 5, 3) := by decide +kernel
theorem dX7_call_12 : decode cX7_call 12 = .ok (.iconst 2, 1) := by decide +kernel
theorem dX7_call_13 : decode cX7_call 13 = .ok (.ireturn, 1) := by decide +kernel
theorem dX7_call_14 : decode cX7_call 14 = .ok (.aload_n 0, 1) := by decide +kernel
theorem dX7_call_15 : decode cX7_call 15 = .ok (.getfield 19, 3) := by decide +kernel
theorem dX7_call_18 : decode cX7_call 18 = .ok (.aload_n 0, 1) := by decide +kernel
theorem dX7_call_19 : decode cX7_call 19 = .ok (.getfield 16, 3) := by decide +kernel
theorem dX7_call_22 : decode cX7_call 22 = .ok (.bipush 18, 2) := by decide +kernel
theorem dX7_call_24 : decode cX7_call 24 = .ok (.iaload, 1) := by decide +kernel
theorem dX7_call_25 : decode cX7_call 25 = .ok (.aload_n 0, 1) := by decide +kernel
theorem dX7_call_26 : decode cX7_call 26 = .ok (.getfield 16, 3) := by decide +kernel
theorem dX7_call_29 : decode cX7_call 29 = .ok (.bipush 17, 2) := by decide +kernel
theorem dX7_call_31 : decode cX7_call 31 = .ok (.iaload, 1) := by decide +kernel
theorem dX7_call_32 : decode cX7_call 32 = .ok (.iconst 2, 1) := by decide +kernel
theorem dX7_call_33 : decode cX7_call 33 = .ok (.iadd, 1) := by decide +kernel
theorem dX7_call_34 : decode cX7_call 34 = .ok (.sipush 4095, 3) := by decide +kernel
theorem dX7_call_37 : decode cX7_call 37 = .ok (.iand, 1) := by decide +kernel
theorem dX7_call_38 : decode cX7_call 38 = .ok (.iastore, 1) := by decide +kernel
theorem dX7_call_39 : decode cX7_call 39 = .ok (.aload_n 0, 1) := by decide +kernel
theorem dX7_call_40 : decode cX7_call 40 = .ok (.getfield 16, 3) := by decide +kernel
theorem dX7_call_43 : decode cX7_call 43 = .ok (.bipush 18, 2) := by decide +kernel
theorem dX7_call_45 : decode cX7_call 45 = .ok (.dup2, 1) := by decide +kernel
theorem dX7_call_46 : decode cX7_call 46 = .ok (.iaload, 1) := by decide +kernel
theorem dX7_call_47 : decode cX7_call 47 = .ok (.iconst 1, 1) := by decide +kernel
theorem dX7_call_48 : decode cX7_call 48 = .ok (.iadd, 1) := by decide +kernel
theorem dX7_call_49 : decode cX7_call 49 = .ok (.iastore, 1) := by decide +kernel
theorem dX7_call_50 : decode cX7_call 50 = .ok (.aload_n 0, 1) := by decide +kernel
theorem dX7_call_51 : decode cX7_call 51 = .ok (.getfield 16, 3) := by decide +kernel
theorem dX7_call_54 : decode cX7_call 54 = .ok (.bipush 17, 2) := by decide +kernel
theorem dX7_call_56 : decode cX7_call 56 = .ok (.iload_n 1, 1) := by decide +kernel
theorem dX7_call_57 : decode cX7_call 57 = .ok (.iastore, 1) := by decide +kernel
theorem dX7_call_58 : decode cX7_call 58 = .ok (.iconst 0, 1) := by decide +kernel
theorem dX7_call_59 : decode cX7_call 59 = .ok (.ireturn, 1) := by decide +kernel
theorem dX7_eight_0 : decode cX7_eight 0 = .ok (.aload_n 0, 1) := by decide +kernel
theorem dX7_eight_1 : decode cX7_eight 1 = .ok (.getfield 16, 3) := by decide +kernel
theorem dX7_eight_4 : decode cX7_eight 4 = .ok (.iload_n 1, 1) := by decide +kernel
theorem dX7_eight_5 : decode cX7_eight 5 = .ok (.iaload, 1) := by decide +kernel
theorem dX7_eight_6 : decode cX7_eight 6 = .ok (.istore 4, 2) := by decide +kernel
theorem dX7_eight_8 : decode cX7_eight 8 = .ok (.aload_n 0, 1) := by decide +kernel
theorem dX7_eight_9 : decode cX7_eight 9 = .ok (.getfield 16, 3) := by decide +kernel
theorem dX7_eight_12 : decode cX7_eight 12 = .ok (.iload_n 2, 1) := by decide +kernel
theorem dX7_eight_13 : decode cX7_eight 13 = .ok (.iaload, 1) := by decide +kernel
theorem dX7_eight_14 : decode cX7_eight 14 = .ok (.istore 5, 2) := by decide +kernel
theorem dX7_eight_16 : decode cX7_eight 16 = .ok (.iload_n 3, 1) := by decide +kernel
theorem dX7_eight_17 : decode cX7_eight 17 = .ok (.ifCond .ne 8, 3) := by decide +kernel
theorem dX7_eight_20 : decode cX7_eight 20 = .ok (.iload 5, 2) := by decide +kernel
theorem dX7_eight_22 : decode cX7_eight 22 = .ok (.goto 99, 3) := by decide +kernel
theorem dX7_eight_25 : decode cX7_eight 25 = .ok (.iload_n 3, 1) := by decide +kernel
theorem dX7_eight_26 : decode cX7_eight 26 = .ok (.iconst 1, 1) := by decide +kernel
theorem dX7_eight_27 : decode cX7_eight 27 = .ok (.if_icmp .ne 11, 3) := by decide +kernel
theorem dX7_eight_30 : decode cX7_eight 30 = .ok (.iload 4, 2) := by decide +kernel
theorem dX7_eight_32 : decode cX7_eight 32 = .ok (.iload 5, 2) := by decide +kernel
theorem dX7_eight_34 : decode cX7_eight 34 = .ok (.ior, 1) := by decide +kernel
theorem dX7_eight_35 : decode cX7_eight 35 = .ok (.goto 86, 3) := by decide +kernel
theorem dX7_eight_38 : decode cX7_eight 38 = .ok (.iload_n 3, 1) := by decide +kernel
theorem dX7_eight_39 : decode cX7_eight 39 = .ok (.iconst 2, 1) := by decide +kernel
theorem dX7_eight_40 : decode cX7_eight 40 = .ok (.if_icmp .ne 11, 3) := by decide +kernel
theorem dX7_eight_43 : decode cX7_eight 43 = .ok (.iload 4, 2) := by decide +kernel
theorem dX7_eight_45 : decode cX7_eight 45 = .ok (.iload 5, 2) := by decide +kernel
theorem dX7_eight_47 : decode cX7_eight 47 = .ok (.iand, 1) := by decide +kernel
theorem dX7_eight_48 : decode cX7_eight 48 = .ok (.goto 73, 3) := by decide +kernel
theorem dX7_eight_51 : decode cX7_eight 51 = .ok (.iload_n 3, 1) := by decide +kernel
theorem dX7_eight_52 : decode cX7_eight 52 = .ok (.iconst 3, 1) := by decide +kernel
theorem dX7_eight_53 : decode cX7_eight 53 = .ok (.if_icmp .ne 11, 3) := by decide +kernel
theorem dX7_eight_56 : decode cX7_eight 56 = .ok (.iload 4, 2) := by decide +kernel
theorem dX7_eight_58 : decode cX7_eight 58 = .ok (.iload 5, 2) := by decide +kernel
theorem dX7_eight_60 : decode cX7_eight 60 = .ok (.ixor, 1) := by decide +kernel
theorem dX7_eight_61 : decode cX7_eight 61 = .ok (.goto 60, 3) := by decide +kernel
theorem dX7_eight_64 : decode cX7_eight 64 = .ok (.iload_n 3, 1) := by decide +kernel
theorem dX7_eight_65 : decode cX7_eight 65 = .ok (.iconst 4, 1) := by decide +kernel
theorem dX7_eight_66 : decode cX7_eight 66 = .ok (.if_icmp .ne 11, 3) := by decide +kernel
theorem dX7_eight_69 : decode cX7_eight 69 = .ok (.iload 4, 2) := by decide +kernel
theorem dX7_eight_71 : decode cX7_eight 71 = .ok (.iload 5, 2) := by decide +kernel
theorem dX7_eight_73 : decode cX7_eight 73 = .ok (.iadd, 1) := by decide +kernel
theorem dX7_eight_74 : decode cX7_eight 74 = .ok (.goto 47, 3) := by decide +kernel
theorem dX7_eight_77 : decode cX7_eight 77 = .ok (.iload_n 3, 1) := by decide +kernel
theorem dX7_eight_78 : decode cX7_eight 78 = .ok (.iconst 5, 1) := by decide +kernel
theorem dX7_eight_79 : decode cX7_eight 79 = .ok (.if_icmp .ne 11, 3) := by decide +kernel
theorem dX7_eight_82 : decode cX7_eight 82 = .ok (.iload 4, 2) := by decide +kernel
theorem dX7_eight_84 : decode cX7_eight 84 = .ok (.iload 5, 2) := by decide +kernel
theorem dX7_eight_86 : decode cX7_eight 86 = .ok (.isub, 1) := by decide +kernel
theorem dX7_eight_87 : decode cX7_eight 87 = .ok (.goto 34, 3) := by decide +kernel
theorem dX7_eight_90 : decode cX7_eight 90 = .ok (.iload_n 3, 1) := by decide +kernel
theorem dX7_eight_91 : decode cX7_eight 91 = .ok (.bipush 6, 2) := by decide +kernel
theorem dX7_eight_93 : decode cX7_eight 93 = .ok (.if_icmp .ne 10, 3) := by decide +kernel
theorem dX7_eight_96 : decode cX7_eight 96 = .ok (.iload 5, 2) := by decide +kernel
theorem dX7_eight_98 : decode cX7_eight 98 = .ok (.iconst 1, 1) := by decide +kernel
theorem dX7_eight_99 : decode cX7_eight 99 = .ok (.ishr, 1) := by decide +kernel
theorem dX7_eight_100 : decode cX7_eight 100 = .ok (.goto 21, 3) := by decide +kernel
theorem dX7_eight_103 : decode cX7_eight 103 = .ok (.iload_n 3, 1) := by decide +kernel
theorem dX7_eight_104 : decode cX7_eight 104 = .ok (.bipush 7, 2) := by decide +kernel
theorem dX7_eight_106 : decode cX7_eight 106 = .ok (.if_icmp .ne 11, 3) := by decide +kernel
theorem dX7_eight_109 : decode cX7_eight 109 = .ok (.iload 5, 2) := by decide +kernel
theorem dX7_eight_111 : decode cX7_eight 111 = .ok (.iload 4, 2) := by decide +kernel
theorem dX7_eight_113 : decode cX7_eight 113 = .ok (.isub, 1) := by decide +kernel
theorem dX7_eight_114 : decode cX7_eight 114 = .ok (.goto 7, 3) := by decide +kernel
theorem dX7_eight_117 : decode cX7_eight 117 = .ok (.iload 5, 2) := by decide +kernel
theorem dX7_eight_119 : decode cX7_eight 119 = .ok (.iconst 1, 1) := by decide +kernel
theorem dX7_eight_120 : decode cX7_eight 120 = .ok (.ishl, 1) := by decide +kernel
theorem dX7_eight_121 : decode cX7_eight 121 = .ok (.istore 6, 2) := by decide +kernel
theorem dX7_eight_123 : decode cX7_eight 123 = .ok (.iload_n 3, 1) := by decide +kernel
theorem dX7_eight_124 : decode cX7_eight 124 = .ok (.bipush 7, 2) := by decide +kernel
theorem dX7_eight_126 : decode cX7_eight 126 = .ok (.if_icmp .le 11, 3) := by decide +kernel
theorem dX7_eight_129 : decode cX7_eight 129 = .ok (.iload_n 3, 1) := by decide +kernel
theorem dX7_eight_130 : decode cX7_eight 130 = .ok (.bipush 14, 2) := by decide +kernel
theorem dX7_eight_132 : decode cX7_eight 132 = .ok (.if_icmp .eq 5, 3) := by decide +kernel
theorem dX7_eight_135 : decode cX7_eight 135 = .ok (.iconst 1, 1) := by decide +kernel
theorem dX7_eight_136 : decode cX7_eight 136 = .ok (.ireturn, 1) := by decide +kernel
theorem dX7_eight_137 : decode cX7_eight 137 = .ok (.aload_n 0, 1) := by decide +kernel
theorem dX7_eight_138 : decode cX7_eight 138 = .ok (.getfield 16, 3) := by decide +kernel
theorem dX7_eight_141 : decode cX7_eight 141 = .ok (.iload_n 1, 1) := by decide +kernel
theorem dX7_eight_142 : decode cX7_eight 142 = .ok (.iload 6, 2) := by decide +kernel
theorem dX7_eight_144 : decode cX7_eight 144 = .ok (.sipush 255, 3) := by decide +kernel
theorem dX7_eight_147 : decode cX7_eight 147 = .ok (.iand, 1) := by decide +kernel
theorem dX7_eight_148 : decode cX7_eight 148 = .ok (.iastore, 1) := by decide +kernel
theorem dX7_eight_149 : decode cX7_eight 149 = .ok (.iload_n 3, 1) := by decide +kernel
theorem dX7_eight_150 : decode cX7_eight 150 = .ok (.iconst 4, 1) := by decide +kernel
theorem dX7_eight_151 : decode cX7_eight 151 = .ok (.if_icmp .ne 15, 3) := by decide +kernel
theorem dX7_eight_154 : decode cX7_eight 154 = .ok (.aload_n 0, 1) := by decide +kernel
theorem dX7_eight_155 : decode cX7_eight 155 = .ok (.getfield 16, 3) := by decide +kernel
theorem dX7_eight_158 : decode cX7_eight 158 = .ok (.bipush 15, 2) := by decide +kernel
theorem dX7_eight_160 : decode cX7_eight 160 = .ok (.iload 6, 2) := by decide +kernel
theorem dX7_eight_162 : decode cX7_eight 162 = .ok (.bipush 8, 2) := by decide +kernel
theorem dX7_eight_164 : decode cX7_eight 164 = .ok (.ishr, 1) := by decide +kernel
theorem dX7_eight_165 : decode cX7_eight 165 = .ok (.iastore, 1) := by decide +kernel
theorem dX7_eight_166 : decode cX7_eight 166 = .ok (.iload_n 3, 1) := by decide +kernel
theorem dX7_eight_167 : decode cX7_eight 167 = .ok (.iconst 5, 1) := by decide +kernel
theorem dX7_eight_168 : decode cX7_eight 168 = .ok (.if_icmp .eq 9, 3) := by decide +kernel
theorem dX7_eight_171 : decode cX7_eight 171 = .ok (.iload_n 3, 1) := by decide +kernel
theorem dX7_eight_172 : decode cX7_eight 172 = .ok (.bipush 7, 2) := by decide +kernel
theorem dX7_eight_174 : decode cX7_eight 174 = .ok (.if_icmp .ne 20, 3) := by decide +kernel
theorem dX7_eight_177 : decode cX7_eight 177 = .ok (.aload_n 0, 1) := by decide +kernel
theorem dX7_eight_178 : decode cX7_eight 178 = .ok (.getfield 16, 3) := by decide +kernel
theorem dX7_eight_181 : decode cX7_eight 181 = .ok (.bipush 15, 2) := by decide +kernel
theorem dX7_eight_183 : decode cX7_eight 183 = .ok (.iload 6, 2) := by decide +kernel
theorem dX7_eight_185 : decode cX7_eight 185 = .ok (.ifCond .ge 7, 3) := by decide +kernel
theorem dX7_eight_188 : decode cX7_eight 188 = .ok (.iconst 0, 1) := by decide +kernel
theorem dX7_eight_189 : decode cX7_eight 189 = .ok (.goto 4, 3) := by decide +kernel
theorem dX7_eight_192 : decode cX7_eight 192 = .ok (.iconst 1, 1) := by decide +kernel
theorem dX7_eight_193 : decode cX7_eight 193 = .ok (.iastore, 1) := by decide +kernel
theorem dX7_eight_194 : decode cX7_eight 194 = .ok (.iload_n 3, 1) := by decide +kernel
theorem dX7_eight_195 : decode cX7_eight 195 = .ok (.bipush 6, 2) := by decide +kernel
theorem dX7_eight_197 : decode cX7_eight 197 = .ok (.if_icmp .ne 14, 3) := by decide +kernel
theorem dX7_eight_200 : decode cX7_eight 200 = .ok (.aload_n 0, 1) := by decide +kernel
theorem dX7_eight_201 : decode cX7_eight 201 = .ok (.getfield 16, 3) := by decide +kernel
theorem dX7_eight_204 : decode cX7_eight 204 = .ok (.bipush 15, 2) := by decide +kernel
theorem dX7_eight_206 : decode cX7_eight 206 = .ok (.iload 5, 2) := by decide +kernel
theorem dX7_eight_208 : decode cX7_eight 208 = .ok (.iconst 1, 1) := by decide +kernel
theorem dX7_eight_209 : decode cX7_eight 209 = .ok (.iand, 1) := by decide +kernel
theorem dX7_eight_210 : decode cX7_eight 210 = .ok (.iastore, 1) := by decide +kernel
theorem dX7_eight_211 : decode cX7_eight 211 = .ok (.iload_n 3, 1) := by decide +kernel
theorem dX7_eight_212 : decode cX7_eight 212 = .ok (.bipush 14, 2) := by decide +kernel
theorem dX7_eight_214 : decode cX7_eight 214 = .ok (.if_icmp .ne 15, 3) := by decide +kernel
theorem dX7_eight_217 : decode cX7_eight 217 = .ok (.aload_n 0, 1) := by decide +kernel
theorem dX7_eight_218 : decode cX7_eight 218 = .ok (.getfield 16, 3) := by decide +kernel
theorem dX7_eight_221 : decode cX7_eight 221 = .ok (.bipush 15, 2) := by decide +kernel
theorem dX7_eight_223 : decode cX7_eight 223 = .ok (.iload 5, 2) := by decide +kernel
theorem dX7_eight_225 : decode cX7_eight 225 = .ok (.bipush 7, 2) := by decide +kernel
theorem dX7_eight_227 : decode cX7_eight 227 = .ok (.ishr, 1) := by decide +kernel
theorem dX7_eight_228 : decode cX7_eight 228 = .ok (.iastore, 1) := by decide +kernel
theorem dX7_eight_229 : decode cX7_eight 229 = .ok (.aload_n 0, 1) := by decide +kernel
theorem dX7_eight_230 : decode cX7_eight 230 = .ok (.iconst 0, 1) := by decide +kernel
theorem dX7_eight_231 : decode cX7_eight 231 = .ok (.invokevirtual 154, 3) := by decide +kernel
theorem dX7_eight_234 : decode cX7_eight 234 = .ok (.iconst 0, 1) := by decide +kernel
theorem dX7_eight_235 : decode cX7_eight 235 = .ok (.ireturn, 1) := by decide +kernel
theorem dX7_draw_0 : decode cX7_draw 0 = .ok (.aload_n 0, 1) := by decide +kernel
theorem dX7_draw_1 : decode cX7_draw 1 = .ok (.getfield 16, 3) := by decide +kernel
theorem dX7_draw_4 : decode cX7_draw 4 = .ok (.iload_n 1, 1) := by decide +kernel
theorem dX7_draw_5 : decode cX7_draw 5 = .ok (.iaload, 1) := by decide +kernel
theorem dX7_draw_6 : decode cX7_draw 6 = .ok (.bipush 63, 2) := by decide +kernel
theorem dX7_draw_8 : decode cX7_draw 8 = .ok (.iand, 1) := by decide +kernel
theorem dX7_draw_9 : decode cX7_draw 9 = .ok (.istore 4, 2) := by decide +kernel
theorem dX7_draw_11 : decode cX7_draw 11 = .ok (.aload_n 0, 1) := by decide +kernel
theorem dX7_draw_12 : decode cX7_draw 12 = .ok (.getfield 16, 3) := by decide +kernel
theorem dX7_draw_15 : decode cX7_draw 15 = .ok (.iload_n 2, 1) := by decide +kernel
theorem dX7_draw_16 : decode cX7_draw 16 = .ok (.iaload, 1) := by decide +kernel
theorem dX7_draw_17 : decode cX7_draw 17 = .ok (.bipush 31, 2) := by decide +kernel
theorem dX7_draw_19 : decode cX7_draw 19 = .ok (.iand, 1) := by decide +kernel
theorem dX7_draw_20 : decode cX7_draw 20 = .ok (.istore 5, 2) := by decide +kernel
theorem dX7_draw_22 : decode cX7_draw 22 = .ok (.iconst 0, 1) := by decide +kernel
theorem dX7_draw_23 : decode cX7_draw 23 = .ok (.istore 6, 2) := by decide +kernel
theorem dX7_draw_25 : decode cX7_draw 25 = .ok (.iconst 0, 1) := by decide +kernel
theorem dX7_draw_26 : decode cX7_draw 26 = .ok (.istore 7, 2) := by decide +kernel
theorem dX7_draw_28 : decode cX7_draw 28 = .ok (.iload 7, 2) := by decide +kernel
theorem dX7_draw_30 : decode cX7_draw 30 = .ok (.iload_n 3, 1) := by decide +kernel
theorem dX7_draw_31 : decode cX7_draw 31 = .ok (.if_icmp .ge 140, 3) := by decide +kernel
theorem dX7_draw_34 : decode cX7_draw 34 = .ok (.iload 5, 2) := by decide +kernel
theorem dX7_draw_36 : decode cX7_draw 36 = .ok (.iload 7, 2) := by decide +kernel
theorem dX7_draw_38 : decode cX7_draw 38 = .ok (.iadd, 1) := by decide +kernel
theorem dX7_draw_39 : decode cX7_draw 39 = .ok (.bipush 32, 2) := by decide +kernel
theorem dX7_draw_41 : decode cX7_draw 41 = .ok (.if_icmp .ge 130, 3) := by decide +kernel
theorem dX7_draw_44 : decode cX7_draw 44 = .ok (.aload_n 0, 1) := by decide +kernel
theorem dX7_draw_45 : decode cX7_draw 45 = .ok (.aload_n 0, 1) := by decide +kernel
theorem dX7_draw_46 : decode cX7_draw 46 = .ok (.getfield 16, 3) := by decide +kernel
theorem dX7_draw_49 : decode cX7_draw 49 = .ok (.bipush 16, 2) := by decide +kernel
theorem dX7_draw_51 : decode cX7_draw 51 = .ok (.iaload, 1) := by decide +kernel
theorem dX7_draw_52 : decode cX7_draw 52 = .ok (.iload 7, 2) := by decide +kernel
theorem dX7_draw_54 : decode cX7_draw 54 = .ok (.iadd, 1) := by decide +kernel
theorem dX7_draw_55 : decode cX7_draw 55 = .ok (.invokevirtual 43, 3) := by decide +kernel
theorem dX7_draw_58 : decode cX7_draw 58 = .ok (.istore 8, 2) := by decide +kernel
theorem dX7_draw_60 : decode cX7_draw 60 = .ok (.iconst 0, 1) := by decide +kernel
theorem dX7_draw_61 : decode cX7_draw 61 = .ok (.istore 9, 2) := by decide +kernel
theorem dX7_draw_63 : decode cX7_draw 63 = .ok (.iload 9, 2) := by decide +kernel
theorem dX7_draw_65 : decode cX7_draw 65 = .ok (.bipush 8, 2) := by decide +kernel
theorem dX7_draw_67 : decode cX7_draw 67 = .ok (.if_icmp .ge 98, 3) := by decide +kernel
theorem dX7_draw_70 : decode cX7_draw 70 = .ok (.iload 4, 2) := by decide +kernel
theorem dX7_draw_72 : decode cX7_draw 72 = .ok (.iload 9, 2) := by decide +kernel
theorem dX7_draw_74 : decode cX7_draw 74 = .ok (.iadd, 1) := by decide +kernel
theorem dX7_draw_75 : decode cX7_draw 75 = .ok (.bipush 64, 2) := by decide +kernel
theorem dX7_draw_77 : decode cX7_draw 77 = .ok (.if_icmp .ge 88, 3) := by decide +kernel
theorem dX7_draw_80 : decode cX7_draw 80 = .ok (.iload 8, 2) := by decide +kernel
theorem dX7_draw_82 : decode cX7_draw 82 = .ok (.bipush 7, 2) := by decide +kernel
theorem dX7_draw_84 : decode cX7_draw 84 = .ok (.iload 9, 2) := by decide +kernel
theorem dX7_draw_86 : decode cX7_draw 86 = .ok (.isub, 1) := by decide +kernel
theorem dX7_draw_87 : decode cX7_draw 87 = .ok (.ishr, 1) := by decide +kernel
theorem dX7_draw_88 : decode cX7_draw 88 = .ok (.iconst 1, 1) := by decide +kernel
theorem dX7_draw_89 : decode cX7_draw 89 = .ok (.iand, 1) := by decide +kernel
theorem dX7_draw_90 : decode cX7_draw 90 = .ok (.ifCond .ne 6, 3) := by decide +kernel
theorem dX7_draw_93 : decode cX7_draw 93 = .ok (.goto 66, 3) := by decide +kernel
theorem dX7_draw_96 : decode cX7_draw 96 = .ok (.sipush 1792, 3) := by decide +kernel
theorem dX7_draw_99 : decode cX7_draw 99 = .ok (.bipush 8, 2) := by decide +kernel
theorem dX7_draw_101 : decode cX7_draw 101 = .ok (.iload 5, 2) := by decide +kernel
theorem dX7_draw_103 : decode cX7_draw 103 = .ok (.iload 7, 2) := by decide +kernel
theorem dX7_draw_105 : decode cX7_draw 105 = .ok (.iadd, 1) := by decide +kernel
theorem dX7_draw_106 : decode cX7_draw 106 = .ok (.imul, 1) := by decide +kernel
theorem dX7_draw_107 : decode cX7_draw 107 = .ok (.iadd, 1) := by decide +kernel
theorem dX7_draw_108 : decode cX7_draw 108 = .ok (.iload 4, 2) := by decide +kernel
theorem dX7_draw_110 : decode cX7_draw 110 = .ok (.iload 9, 2) := by decide +kernel
theorem dX7_draw_112 : decode cX7_draw 112 = .ok (.iadd, 1) := by decide +kernel
theorem dX7_draw_113 : decode cX7_draw 113 = .ok (.iconst 3, 1) := by decide +kernel
theorem dX7_draw_114 : decode cX7_draw 114 = .ok (.ishr, 1) := by decide +kernel
theorem dX7_draw_115 : decode cX7_draw 115 = .ok (.iadd, 1) := by decide +kernel
theorem dX7_draw_116 : decode cX7_draw 116 = .ok (.istore 10, 2) := by decide +kernel
theorem dX7_draw_118 : decode cX7_draw 118 = .ok (.sipush 128, 3) := by decide +kernel
theorem dX7_draw_121 : decode cX7_draw 121 = .ok (.iload 4, 2) := by decide +kernel
theorem dX7_draw_123 : decode cX7_draw 123 = .ok (.iload 9, 2) := by decide +kernel
theorem dX7_draw_125 : decode cX7_draw 125 = .ok (.iadd, 1) := by decide +kernel
theorem dX7_draw_126 : decode cX7_draw 126 = .ok (.bipush 7, 2) := by decide +kernel
theorem dX7_draw_128 : decode cX7_draw 128 = .ok (.iand, 1) := by decide +kernel
theorem dX7_draw_129 : decode cX7_draw 129 = .ok (.ishr, 1) := by decide +kernel
theorem dX7_draw_130 : decode cX7_draw 130 = .ok (.istore 11, 2) := by decide +kernel
theorem dX7_draw_132 : decode cX7_draw 132 = .ok (.iload 6, 2) := by decide +kernel
theorem dX7_draw_134 : decode cX7_draw 134 = .ok (.aload_n 0, 1) := by decide +kernel
theorem dX7_draw_135 : decode cX7_draw 135 = .ok (.getfield 7, 3) := by decide +kernel
theorem dX7_draw_138 : decode cX7_draw 138 = .ok (.iload 10, 2) := by decide +kernel
theorem dX7_draw_140 : decode cX7_draw 140 = .ok (.iaload, 1) := by decide +kernel
theorem dX7_draw_141 : decode cX7_draw 141 = .ok (.iload 11, 2) := by decide +kernel
theorem dX7_draw_143 : decode cX7_draw 143 = .ok (.iand, 1) := by decide +kernel
theorem dX7_draw_144 : decode cX7_draw 144 = .ok (.ior, 1) := by decide +kernel
theorem dX7_draw_145 : decode cX7_draw 145 = .ok (.istore 6, 2) := by decide +kernel
theorem dX7_draw_147 : decode cX7_draw 147 = .ok (.aload_n 0, 1) := by decide +kernel
theorem dX7_draw_148 : decode cX7_draw 148 = .ok (.getfield 7, 3) := by decide +kernel
theorem dX7_draw_151 : decode cX7_draw 151 = .ok (.iload 10, 2) := by decide +kernel
theorem dX7_draw_153 : decode cX7_draw 153 = .ok (.dup2, 1) := by decide +kernel
theorem dX7_draw_154 : decode cX7_draw 154 = .ok (.iaload, 1) := by decide +kernel
theorem dX7_draw_155 : decode cX7_draw 155 = .ok (.iload 11, 2) := by decide +kernel
theorem dX7_draw_157 : decode cX7_draw 157 = .ok (.ixor, 1) := by decide +kernel
theorem dX7_draw_158 : decode cX7_draw 158 = .ok (.iastore, 1) := by decide +kernel
theorem dX7_draw_159 : decode cX7_draw 159 = .ok (.iinc 9 1, 3) := by decide +kernel
theorem dX7_draw_162 : decode cX7_draw 162 = .ok (.goto (-99), 3) := by decide +kernel
theorem dX7_draw_165 : decode cX7_draw 165 = .ok (.iinc 7 1, 3) := by decide +kernel
theorem dX7_draw_168 : decode cX7_draw 168 = .ok (.goto (-140), 3) := by decide +kernel
theorem dX7_draw_171 : decode cX7_draw 171 = .ok (.aload_n 0, 1) := by decide +kernel
theorem dX7_draw_172 : decode cX7_draw 172 = .ok (.getfield 16, 3) := by decide +kernel
theorem dX7_draw_175 : decode cX7_draw 175 = .ok (.bipush 15, 2) := by decide +kernel
theorem dX7_draw_177 : decode cX7_draw 177 = .ok (.iload 6, 2) := by decide +kernel
theorem dX7_draw_179 : decode cX7_draw 179 = .ok (.ifCond .eq 7, 3) := by decide +kernel
theorem dX7_draw_182 : decode cX7_draw 182 = .ok (.iconst 1, 1) := by decide +kernel
theorem dX7_draw_183 : decode cX7_draw 183 = .ok (.goto 4, 3) := by decide +kernel
theorem dX7_draw_186 : decode cX7_draw 186 = .ok (.iconst 0, 1) := by decide +kernel
theorem dX7_draw_187 : decode cX7_draw 187 = .ok (.iastore, 1) := by decide +kernel
theorem dX7_draw_188 : decode cX7_draw 188 = .ok (.return_, 1) := by decide +kernel
theorem dX7_leastKey_0 : decode cX7_leastKey 0 = .ok (.iconst 0, 1) := by decide +kernel
theorem dX7_leastKey_1 : decode cX7_leastKey 1 = .ok (.istore_n 1, 1) := by decide +kernel
theorem dX7_leastKey_2 : decode cX7_leastKey 2 = .ok (.iload_n 1, 1) := by decide +kernel
theorem dX7_leastKey_3 : decode cX7_leastKey 3 = .ok (.bipush 16, 2) := by decide +kernel
theorem dX7_leastKey_5 : decode cX7_leastKey 5 = .ok (.if_icmp .ge 20, 3) := by decide +kernel
theorem dX7_leastKey_8 : decode cX7_leastKey 8 = .ok (.aload_n 0, 1) := by decide +kernel
theorem dX7_leastKey_9 : decode cX7_leastKey 9 = .ok (.getfield 22, 3) := by decide +kernel
theorem dX7_leastKey_12 : decode cX7_leastKey 12 = .ok (.iload_n 1, 1) := by decide +kernel
theorem dX7_leastKey_13 : decode cX7_leastKey 13 = .ok (.baload, 1) := by decide +kernel
theorem dX7_leastKey_14 : decode cX7_leastKey 14 = .ok (.ifCond .eq 5, 3) := by decide +kernel
theorem dX7_leastKey_17 : decode cX7_leastKey 17 = .ok (.iload_n 1, 1) := by decide +kernel
theorem dX7_leastKey_18 : decode cX7_leastKey 18 = .ok (.ireturn, 1) := by decide +kernel
theorem dX7_leastKey_19 : decode cX7_leastKey 19 = .ok (.iinc 1 1, 3) := by decide +kernel
theorem dX7_leastKey_22 : decode cX7_leastKey 22 = .ok (.goto (-20), 3) := by decide +kernel
theorem dX7_leastKey_25 : decode cX7_leastKey 25 = .ok (.iconst (-1), 1) := by decide +kernel
theorem dX7_leastKey_26 : decode cX7_leastKey 26 = .ok (.ireturn, 1) := by decide +kernel
theorem dX7_rows_0 : decode cX7_rows 0 = .ok (.iconst 0, 1) := by decide +kernel
theorem dX7_rows_1 : decode cX7_rows 1 = .ok (.istore_n 3, 1) := by decide +kernel
theorem dX7_rows_2 : decode cX7_rows 2 = .ok (.iload_n 3, 1) := by decide +kernel
theorem dX7_rows_3 : decode cX7_rows 3 = .ok (.iload_n 1, 1) := by decide +kernel
theorem dX7_rows_4 : decode cX7_rows 4 = .ok (.if_icmp .gt 54, 3) := by decide +kernel
theorem dX7_rows_7 : decode cX7_rows 7 = .ok (.iload_n 2, 1) := by decide +kernel
theorem dX7_rows_8 : decode cX7_rows 8 = .ok (.ifCond .eq 25, 3) := by decide +kernel
theorem dX7_rows_11 : decode cX7_rows 11 = .ok (.aload_n 0, 1) := by decide +kernel
theorem dX7_rows_12 : decode cX7_rows 12 = .ok (.aload_n 0, 1) := by decide +kernel
theorem dX7_rows_13 : decode cX7_rows 13 = .ok (.getfield 16, 3) := by decide +kernel
theorem dX7_rows_16 : decode cX7_rows 16 = .ok (.bipush 16, 2) := by decide +kernel
theorem dX7_rows_18 : decode cX7_rows 18 = .ok (.iaload, 1) := by decide +kernel
theorem dX7_rows_19 : decode cX7_rows 19 = .ok (.iload_n 3, 1) := by decide +kernel
theorem dX7_rows_20 : decode cX7_rows 20 = .ok (.iadd, 1) := by decide +kernel
theorem dX7_rows_21 : decode cX7_rows 21 = .ok (.aload_n 0, 1) := by decide +kernel
theorem dX7_rows_22 : decode cX7_rows 22 = .ok (.getfield 16, 3) := by decide +kernel
theorem dX7_rows_25 : decode cX7_rows 25 = .ok (.iload_n 3, 1) := by decide +kernel
theorem dX7_rows_26 : decode cX7_rows 26 = .ok (.iaload, 1) := by decide +kernel
theorem dX7_rows_27 : decode cX7_rows 27 = .ok (.invokevirtual 79, 3) := by decide +kernel
theorem dX7_rows_30 : decode cX7_rows 30 = .ok (.goto 22, 3) := by decide +kernel
theorem dX7_rows_33 : decode cX7_rows 33 = .ok (.aload_n 0, 1) := by decide +kernel
theorem dX7_rows_34 : decode cX7_rows 34 = .ok (.getfield 16, 3) := by decide +kernel
theorem dX7_rows_37 : decode cX7_rows 37 = .ok (.iload_n 3, 1) := by decide +kernel
theorem dX7_rows_38 : decode cX7_rows 38 = .ok (.aload_n 0, 1) := by decide +kernel
theorem dX7_rows_39 : decode cX7_rows 39 = .ok (.aload_n 0, 1) := by decide +kernel
theorem dX7_rows_40 : decode cX7_rows 40 = .ok (.getfield 16, 3) := by decide +kernel
theorem dX7_rows_43 : decode cX7_rows 43 = .ok (.bipush 16, 2) := by decide +kernel
theorem dX7_rows_45 : decode cX7_rows 45 = .ok (.iaload, 1) := by decide +kernel
theorem dX7_rows_46 : decode cX7_rows 46 = .ok (.iload_n 3, 1) := by decide +kernel
theorem dX7_rows_47 : decode cX7_rows 47 = .ok (.iadd, 1) := by decide +kernel
theorem dX7_rows_48 : decode cX7_rows 48 = .ok (.invokevirtual 43, 3) := by decide +kernel
theorem dX7_rows_51 : decode cX7_rows 51 = .ok (.iastore, 1) := by decide +kernel
theorem dX7_rows_52 : decode cX7_rows 52 = .ok (.iinc 3 1, 3) := by decide +kernel
theorem dX7_rows_55 : decode cX7_rows 55 = .ok (.goto (-53), 3) := by decide +kernel
theorem dX7_rows_58 : decode cX7_rows 58 = .ok (.aload_n 0, 1) := by decide +kernel
theorem dX7_rows_59 : decode cX7_rows 59 = .ok (.getfield 16, 3) := by decide +kernel
theorem dX7_rows_62 : decode cX7_rows 62 = .ok (.bipush 16, 2) := by decide +kernel
theorem dX7_rows_64 : decode cX7_rows 64 = .ok (.aload_n 0, 1) := by decide +kernel
theorem dX7_rows_65 : decode cX7_rows 65 = .ok (.getfield 16, 3) := by decide +kernel
theorem dX7_rows_68 : decode cX7_rows 68 = .ok (.bipush 16, 2) := by decide +kernel
theorem dX7_rows_70 : decode cX7_rows 70 = .ok (.iaload, 1) := by decide +kernel
theorem dX7_rows_71 : decode cX7_rows 71 = .ok (.iload_n 1, 1) := by decide +kernel
theorem dX7_rows_72 : decode cX7_rows 72 = .ok (.iadd, 1) := by decide +kernel
theorem dX7_rows_73 : decode cX7_rows 73 = .ok (.iconst 1, 1) := by decide +kernel
theorem dX7_rows_74 : decode cX7_rows 74 = .ok (.iadd, 1) := by decide +kernel
theorem dX7_rows_75 : decode cX7_rows 75 = .ok (.sipush 4095, 3) := by decide +kernel
theorem dX7_rows_78 : decode cX7_rows 78 = .ok (.iand, 1) := by decide +kernel
theorem dX7_rows_79 : decode cX7_rows 79 = .ok (.iastore, 1) := by decide +kernel
theorem dX7_rows_80 : decode cX7_rows 80 = .ok (.return_, 1) := by decide +kernel
theorem dX7_fifteen_0 : decode cX7_fifteen 0 = .ok (.iload_n 2, 1) := by decide +kernel
theorem dX7_fifteen_1 : decode cX7_fifteen 1 = .ok (.lookupswitch 290 #[(7, 83), (10, 99), (21, 120), (24, 136), (30, 152), (41, 180), (51, 201), (85, 271), (101, 271)], 83) := by decide +kernel
theorem dX7_fifteen_84 : decode cX7_fifteen 84 = .ok (.aload_n 0, 1) := by decide +kernel
theorem dX7_fifteen_85 : decode cX7_fifteen 85 = .ok (.getfield 16, 3) := by decide +kernel
theorem dX7_fifteen_88 : decode cX7_fifteen 88 = .ok (.iload_n 1, 1) := by decide +kernel
theorem dX7_fifteen_89 : decode cX7_fifteen 89 = .ok (.aload_n 0, 1) := by decide +kernel
theorem dX7_fifteen_90 : decode cX7_fifteen 90 = .ok (.getfield 16, 3) := by decide +kernel
theorem dX7_fifteen_93 : decode cX7_fifteen 93 = .ok (.bipush 19, 2) := by decide +kernel
theorem dX7_fifteen_95 : decode cX7_fifteen 95 = .ok (.iaload, 1) := by decide +kernel
theorem dX7_fifteen_96 : decode cX7_fifteen 96 = .ok (.iastore, 1) := by decide +kernel
theorem dX7_fifteen_97 : decode cX7_fifteen 97 = .ok (.goto 196, 3) := by decide +kernel
theorem dX7_fifteen_100 : decode cX7_fifteen 100 = .ok (.aload_n 0, 1) := by decide +kernel
theorem dX7_fifteen_101 : decode cX7_fifteen 101 = .ok (.invokevirtual 158, 3) := by decide +kernel
theorem dX7_fifteen_104 : decode cX7_fifteen 104 = .ok (.istore_n 3, 1) := by decide +kernel
theorem dX7_fifteen_105 : decode cX7_fifteen 105 = .ok (.iload_n 3, 1) := by decide +kernel
theorem dX7_fifteen_106 : decode cX7_fifteen 106 = .ok (.ifCond .ge 5, 3) := by decide +kernel
theorem dX7_fifteen_109 : decode cX7_fifteen 109 = .ok (.iconst 3, 1) := by decide +kernel
theorem dX7_fifteen_110 : decode cX7_fifteen 110 = .ok (.ireturn, 1) := by decide +kernel
theorem dX7_fifteen_111 : decode cX7_fifteen 111 = .ok (.aload_n 0, 1) := by decide +kernel
theorem dX7_fifteen_112 : decode cX7_fifteen 112 = .ok (.getfield 16, 3) := by decide +kernel
theorem dX7_fifteen_115 : decode cX7_fifteen 115 = .ok (.iload_n 1, 1) := by decide +kernel
theorem dX7_fifteen_116 : decode cX7_fifteen 116 = .ok (.iload_n 3, 1) := by decide +kernel
theorem dX7_fifteen_117 : decode cX7_fifteen 117 = .ok (.iastore, 1) := by decide +kernel
theorem dX7_fifteen_118 : decode cX7_fifteen 118 = .ok (.goto 175, 3) := by decide +kernel
theorem dX7_fifteen_121 : decode cX7_fifteen 121 = .ok (.aload_n 0, 1) := by decide +kernel
theorem dX7_fifteen_122 : decode cX7_fifteen 122 = .ok (.getfield 16, 3) := by decide +kernel
theorem dX7_fifteen_125 : decode cX7_fifteen 125 = .ok (.bipush 19, 2) := by decide +kernel
theorem dX7_fifteen_127 : decode cX7_fifteen 127 = .ok (.aload_n 0, 1) := by decide +kernel
theorem dX7_fifteen_128 : decode cX7_fifteen 128 = .ok (.getfield 16, 3) := by decide +kernel
theorem dX7_fifteen_131 : decode cX7_fifteen 131 = .ok (.iload_n 1, 1) := by decide +kernel
theorem dX7_fifteen_132 : decode cX7_fifteen 132 = .ok (.iaload, 1) := by decide +kernel
theorem dX7_fifteen_133 : decode cX7_fifteen 133 = .ok (.iastore, 1) := by decide +kernel
theorem dX7_fifteen_134 : decode cX7_fifteen 134 = .ok (.goto 159, 3) := by decide +kernel
theorem dX7_fifteen_137 : decode cX7_fifteen 137 = .ok (.aload_n 0, 1) := by decide +kernel
theorem dX7_fifteen_138 : decode cX7_fifteen 138 = .ok (.getfield 16, 3) := by decide +kernel
theorem dX7_fifteen_141 : decode cX7_fifteen 141 = .ok (.bipush 20, 2) := by decide +kernel
theorem dX7_fifteen_143 : decode cX7_fifteen 143 = .ok (.aload_n 0, 1) := by decide +kernel
theorem dX7_fifteen_144 : decode cX7_fifteen 144 = .ok (.getfield 16, 3) := by decide +kernel
theorem dX7_fifteen_147 : decode cX7_fifteen 147 = .ok (.iload_n 1, 1) := by decide +kernel
theorem dX7_fifteen_148 : decode cX7_fifteen 148 = .ok (.iaload, 1) := by decide +kernel
theorem dX7_fifteen_149 : decode cX7_fifteen 149 = .ok (.iastore, 1) := by decide +kernel
theorem dX7_fifteen_150 : decode cX7_fifteen 150 = .ok (.goto 143, 3) := by decide +kernel
theorem dX7_fifteen_153 : decode cX7_fifteen 153 = .ok (.aload_n 0, 1) := by decide +kernel
theorem dX7_fifteen_154 : decode cX7_fifteen 154 = .ok (.getfield 16, 3) := by decide +kernel
theorem dX7_fifteen_157 : decode cX7_fifteen 157 = .ok (.bipush 16, 2) := by decide +kernel
theorem dX7_fifteen_159 : decode cX7_fifteen 159 = .ok (.aload_n 0, 1) := by decide +kernel
theorem dX7_fifteen_160 : decode cX7_fifteen 160 = .ok (.getfield 16, 3) := by decide +kernel
theorem dX7_fifteen_163 : decode cX7_fifteen 163 = .ok (.bipush 16, 2) := by decide +kernel
theorem dX7_fifteen_165 : decode cX7_fifteen 165 = .ok (.iaload, 1) := by decide +kernel
theorem dX7_fifteen_166 : decode cX7_fifteen 166 = .ok (.aload_n 0, 1) := by decide +kernel
theorem dX7_fifteen_167 : decode cX7_fifteen 167 = .ok (.getfield 16, 3) := by decide +kernel
theorem dX7_fifteen_170 : decode cX7_fifteen 170 = .ok (.iload_n 1, 1) := by decide +kernel
theorem dX7_fifteen_171 : decode cX7_fifteen 171 = .ok (.iaload, 1) := by decide +kernel
theorem dX7_fifteen_172 : decode cX7_fifteen 172 = .ok (.iadd, 1) := by decide +kernel
theorem dX7_fifteen_173 : decode cX7_fifteen 173 = .ok (.sipush 4095, 3) := by decide +kernel
theorem dX7_fifteen_176 : decode cX7_fifteen 176 = .ok (.iand, 1) := by decide +kernel
theorem dX7_fifteen_177 : decode cX7_fifteen 177 = .ok (.iastore, 1) := by decide +kernel
theorem dX7_fifteen_178 : decode cX7_fifteen 178 = .ok (.goto 115, 3) := by decide +kernel
theorem dX7_fifteen_181 : decode cX7_fifteen 181 = .ok (.aload_n 0, 1) := by decide +kernel
theorem dX7_fifteen_182 : decode cX7_fifteen 182 = .ok (.getfield 16, 3) := by decide +kernel
theorem dX7_fifteen_185 : decode cX7_fifteen 185 = .ok (.bipush 16, 2) := by decide +kernel
theorem dX7_fifteen_187 : decode cX7_fifteen 187 = .ok (.iconst 5, 1) := by decide +kernel
theorem dX7_fifteen_188 : decode cX7_fifteen 188 = .ok (.aload_n 0, 1) := by decide +kernel
theorem dX7_fifteen_189 : decode cX7_fifteen 189 = .ok (.getfield 16, 3) := by decide +kernel
theorem dX7_fifteen_192 : decode cX7_fifteen 192 = .ok (.iload_n 1, 1) := by decide +kernel
theorem dX7_fifteen_193 : decode cX7_fifteen 193 = .ok (.iaload, 1) := by decide +kernel
theorem dX7_fifteen_194 : decode cX7_fifteen 194 = .ok (.bipush 15, 2) := by decide +kernel
theorem dX7_fifteen_196 : decode cX7_fifteen 196 = .ok (.iand, 1) := by decide +kernel
theorem dX7_fifteen_197 : decode cX7_fifteen 197 = .ok (.imul, 1) := by decide +kernel
theorem dX7_fifteen_198 : decode cX7_fifteen 198 = .ok (.iastore, 1) := by decide +kernel
theorem dX7_fifteen_199 : decode cX7_fifteen 199 = .ok (.goto 94, 3) := by decide +kernel
theorem dX7_fifteen_202 : decode cX7_fifteen 202 = .ok (.aload_n 0, 1) := by decide +kernel
theorem dX7_fifteen_203 : decode cX7_fifteen 203 = .ok (.aload_n 0, 1) := by decide +kernel
theorem dX7_fifteen_204 : decode cX7_fifteen 204 = .ok (.getfield 16, 3) := by decide +kernel
theorem dX7_fifteen_207 : decode cX7_fifteen 207 = .ok (.bipush 16, 2) := by decide +kernel
theorem dX7_fifteen_209 : decode cX7_fifteen 209 = .ok (.iaload, 1) := by decide +kernel
theorem dX7_fifteen_210 : decode cX7_fifteen 210 = .ok (.aload_n 0, 1) := by decide +kernel
theorem dX7_fifteen_211 : decode cX7_fifteen 211 = .ok (.getfield 16, 3) := by decide +kernel
theorem dX7_fifteen_214 : decode cX7_fifteen 214 = .ok (.iload_n 1, 1) := by decide +kernel
theorem dX7_fifteen_215 : decode cX7_fifteen 215 = .ok (.iaload, 1) := by decide +kernel
theorem dX7_fifteen_216 : decode cX7_fifteen 216 = .ok (.bipush 100, 2) := by decide +kernel
theorem dX7_fifteen_218 : decode cX7_fifteen 218 = .ok (.idiv, 1) := by decide +kernel
theorem dX7_fifteen_219 : decode cX7_fifteen 219 = .ok (.invokevirtual 79, 3) := by decide +kernel
theorem dX7_fifteen_222 : decode cX7_fifteen 222 = .ok (.aload_n 0, 1) := by decide +kernel
theorem dX7_fifteen_223 : decode cX7_fifteen 223 = .ok (.aload_n 0, 1) := by decide +kernel
theorem dX7_fifteen_224 : decode cX7_fifteen 224 = .ok (.getfield 16, 3) := by decide +kernel
theorem dX7_fifteen_227 : decode cX7_fifteen 227 = .ok (.bipush 16, 2) := by decide +kernel
theorem dX7_fifteen_229 : decode cX7_fifteen 229 = .ok (.iaload, 1) := by decide +kernel
theorem dX7_fifteen_230 : decode cX7_fifteen 230 = .ok (.iconst 1, 1) := by decide +kernel
theorem dX7_fifteen_231 : decode cX7_fifteen 231 = .ok (.iadd, 1) := by decide +kernel
theorem dX7_fifteen_232 : decode cX7_fifteen 232 = .ok (.aload_n 0, 1) := by decide +kernel
theorem dX7_fifteen_233 : decode cX7_fifteen 233 = .ok (.getfield 16, 3) := by decide +kernel
theorem dX7_fifteen_236 : decode cX7_fifteen 236 = .ok (.iload_n 1, 1) := by decide +kernel
theorem dX7_fifteen_237 : decode cX7_fifteen 237 = .ok (.iaload, 1) := by decide +kernel
theorem dX7_fifteen_238 : decode cX7_fifteen 238 = .ok (.bipush 10, 2) := by decide +kernel
theorem dX7_fifteen_240 : decode cX7_fifteen 240 = .ok (.idiv, 1) := by decide +kernel
theorem dX7_fifteen_241 : decode cX7_fifteen 241 = .ok (.bipush 10, 2) := by decide +kernel
theorem dX7_fifteen_243 : decode cX7_fifteen 243 = .ok (.irem, 1) := by decide +kernel
theorem dX7_fifteen_244 : decode cX7_fifteen 244 = .ok (.invokevirtual 79, 3) := by decide +kernel
theorem dX7_fifteen_247 : decode cX7_fifteen 247 = .ok (.aload_n 0, 1) := by decide +kernel
theorem dX7_fifteen_248 : decode cX7_fifteen 248 = .ok (.aload_n 0, 1) := by decide +kernel
theorem dX7_fifteen_249 : decode cX7_fifteen 249 = .ok (.getfield 16, 3) := by decide +kernel
theorem dX7_fifteen_252 : decode cX7_fifteen 252 = .ok (.bipush 16, 2) := by decide +kernel
theorem dX7_fifteen_254 : decode cX7_fifteen 254 = .ok (.iaload, 1) := by decide +kernel
theorem dX7_fifteen_255 : decode cX7_fifteen 255 = .ok (.iconst 2, 1) := by decide +kernel
theorem dX7_fifteen_256 : decode cX7_fifteen 256 = .ok (.iadd, 1) := by decide +kernel
theorem dX7_fifteen_257 : decode cX7_fifteen 257 = .ok (.aload_n 0, 1) := by decide +kernel
theorem dX7_fifteen_258 : decode cX7_fifteen 258 = .ok (.getfield 16, 3) := by decide +kernel
theorem dX7_fifteen_261 : decode cX7_fifteen 261 = .ok (.iload_n 1, 1) := by decide +kernel
theorem dX7_fifteen_262 : decode cX7_fifteen 262 = .ok (.iaload, 1) := by decide +kernel
theorem dX7_fifteen_263 : decode cX7_fifteen 263 = .ok (.bipush 10, 2) := by decide +kernel
theorem dX7_fifteen_265 : decode cX7_fifteen 265 = .ok (.irem, 1) := by decide +kernel
theorem dX7_fifteen_266 : decode cX7_fifteen 266 = .ok (.invokevirtual 79, 3) := by decide +kernel
theorem dX7_fifteen_269 : decode cX7_fifteen 269 = .ok (.goto 24, 3) := by decide +kernel
theorem dX7_fifteen_272 : decode cX7_fifteen 272 = .ok (.aload_n 0, 1) := by decide +kernel
theorem dX7_fifteen_273 : decode cX7_fifteen 273 = .ok (.iload_n 1, 1) := by decide +kernel
theorem dX7_fifteen_274 : decode cX7_fifteen 274 = .ok (.iload_n 2, 1) := by decide +kernel
theorem dX7_fifteen_275 : decode cX7_fifteen 275 = .ok (.bipush 85, 2) := by decide +kernel
theorem dX7_fifteen_277 : decode cX7_fifteen 277 = .ok (.if_icmp .ne 7, 3) := by decide +kernel
theorem dX7_fifteen_280 : decode cX7_fifteen 280 = .ok (.iconst 1, 1) := by decide +kernel
theorem dX7_fifteen_281 : decode cX7_fifteen 281 = .ok (.goto 4, 3) := by decide +kernel
theorem dX7_fifteen_284 : decode cX7_fifteen 284 = .ok (.iconst 0, 1) := by decide +kernel
theorem dX7_fifteen_285 : decode cX7_fifteen 285 = .ok (.invokevirtual 161, 3) := by decide +kernel
theorem dX7_fifteen_288 : decode cX7_fifteen 288 = .ok (.goto 5, 3) := by decide +kernel
theorem dX7_fifteen_291 : decode cX7_fifteen 291 = .ok (.iconst 1, 1) := by decide +kernel
theorem dX7_fifteen_292 : decode cX7_fifteen 292 = .ok (.ireturn, 1) := by decide +kernel
theorem dX7_fifteen_293 : decode cX7_fifteen 293 = .ok (.aload_n 0, 1) := by decide +kernel
theorem dX7_fifteen_294 : decode cX7_fifteen 294 = .ok (.iconst 0, 1) := by decide +kernel
theorem dX7_fifteen_295 : decode cX7_fifteen 295 = .ok (.invokevirtual 154, 3) := by decide +kernel
theorem dX7_fifteen_298 : decode cX7_fifteen 298 = .ok (.iconst 0, 1) := by decide +kernel
theorem dX7_fifteen_299 : decode cX7_fifteen 299 = .ok (.ireturn, 1) := by decide +kernel
theorem dX7_keyed_0 : decode cX7_keyed 0 = .ok (.iload_n 2, 1) := by decide +kernel
theorem dX7_keyed_1 : decode cX7_keyed 1 = .ok (.sipush 158, 3) := by decide +kernel
theorem dX7_keyed_4 : decode cX7_keyed 4 = .ok (.if_icmp .eq 12, 3) := by decide +kernel
theorem dX7_keyed_7 : decode cX7_keyed 7 = .ok (.iload_n 2, 1) := by decide +kernel
theorem dX7_keyed_8 : decode cX7_keyed 8 = .ok (.sipush 161, 3) := by decide +kernel
theorem dX7_keyed_11 : decode cX7_keyed 11 = .ok (.if_icmp .eq 5, 3) := by decide +kernel
theorem dX7_keyed_14 : decode cX7_keyed 14 = .ok (.iconst 1, 1) := by decide +kernel
theorem dX7_keyed_15 : decode cX7_keyed 15 = .ok (.ireturn, 1) := by decide +kernel
theorem dX7_keyed_16 : decode cX7_keyed 16 = .ok (.aload_n 0, 1) := by decide +kernel
theorem dX7_keyed_17 : decode cX7_keyed 17 = .ok (.aload_n 0, 1) := by decide +kernel
theorem dX7_keyed_18 : decode cX7_keyed 18 = .ok (.getfield 22, 3) := by decide +kernel
theorem dX7_keyed_21 : decode cX7_keyed 21 = .ok (.aload_n 0, 1) := by decide +kernel
theorem dX7_keyed_22 : decode cX7_keyed 22 = .ok (.getfield 16, 3) := by decide +kernel
theorem dX7_keyed_25 : decode cX7_keyed 25 = .ok (.iload_n 1, 1) := by decide +kernel
theorem dX7_keyed_26 : decode cX7_keyed 26 = .ok (.iaload, 1) := by decide +kernel
theorem dX7_keyed_27 : decode cX7_keyed 27 = .ok (.bipush 15, 2) := by decide +kernel
theorem dX7_keyed_29 : decode cX7_keyed 29 = .ok (.iand, 1) := by decide +kernel
theorem dX7_keyed_30 : decode cX7_keyed 30 = .ok (.baload, 1) := by decide +kernel
theorem dX7_keyed_31 : decode cX7_keyed 31 = .ok (.iload_n 2, 1) := by decide +kernel
theorem dX7_keyed_32 : decode cX7_keyed 32 = .ok (.sipush 158, 3) := by decide +kernel
theorem dX7_keyed_35 : decode cX7_keyed 35 = .ok (.if_icmp .ne 7, 3) := by decide +kernel
theorem dX7_keyed_38 : decode cX7_keyed 38 = .ok (.iconst 1, 1) := by decide +kernel
theorem dX7_keyed_39 : decode cX7_keyed 39 = .ok (.goto 4, 3) := by decide +kernel
theorem dX7_keyed_42 : decode cX7_keyed 42 = .ok (.iconst 0, 1) := by decide +kernel
theorem dX7_keyed_43 : decode cX7_keyed 43 = .ok (.if_icmp .ne 7, 3) := by decide +kernel
theorem dX7_keyed_46 : decode cX7_keyed 46 = .ok (.iconst 1, 1) := by decide +kernel
theorem dX7_keyed_47 : decode cX7_keyed 47 = .ok (.goto 4, 3) := by decide +kernel
theorem dX7_keyed_50 : decode cX7_keyed 50 = .ok (.iconst 0, 1) := by decide +kernel
theorem dX7_keyed_51 : decode cX7_keyed 51 = .ok (.invokevirtual 154, 3) := by decide +kernel
theorem dX7_keyed_54 : decode cX7_keyed 54 = .ok (.iconst 0, 1) := by decide +kernel
theorem dX7_keyed_55 : decode cX7_keyed 55 = .ok (.ireturn, 1) := by decide +kernel
theorem dX7_compared_0 : decode cX7_compared 0 = .ok (.iload_n 3, 1) := by decide +kernel
theorem dX7_compared_1 : decode cX7_compared 1 = .ok (.ifCond .eq 5, 3) := by decide +kernel
theorem dX7_compared_4 : decode cX7_compared 4 = .ok (.iconst 1, 1) := by decide +kernel
theorem dX7_compared_5 : decode cX7_compared 5 = .ok (.ireturn, 1) := by decide +kernel
theorem dX7_compared_6 : decode cX7_compared 6 = .ok (.aload_n 0, 1) := by decide +kernel
theorem dX7_compared_7 : decode cX7_compared 7 = .ok (.aload_n 0, 1) := by decide +kernel
theorem dX7_compared_8 : decode cX7_compared 8 = .ok (.getfield 16, 3) := by decide +kernel
theorem dX7_compared_11 : decode cX7_compared 11 = .ok (.iload_n 1, 1) := by decide +kernel
theorem dX7_compared_12 : decode cX7_compared 12 = .ok (.iaload, 1) := by decide +kernel
theorem dX7_compared_13 : decode cX7_compared 13 = .ok (.aload_n 0, 1) := by decide +kernel
theorem dX7_compared_14 : decode cX7_compared 14 = .ok (.getfield 16, 3) := by decide +kernel
theorem dX7_compared_17 : decode cX7_compared 17 = .ok (.iload_n 2, 1) := by decide +kernel
theorem dX7_compared_18 : decode cX7_compared 18 = .ok (.iaload, 1) := by decide +kernel
theorem dX7_compared_19 : decode cX7_compared 19 = .ok (.if_icmp .ne 7, 3) := by decide +kernel
theorem dX7_compared_22 : decode cX7_compared 22 = .ok (.iconst 1, 1) := by decide +kernel
theorem dX7_compared_23 : decode cX7_compared 23 = .ok (.goto 4, 3) := by decide +kernel
theorem dX7_compared_26 : decode cX7_compared 26 = .ok (.iconst 0, 1) := by decide +kernel
theorem dX7_compared_27 : decode cX7_compared 27 = .ok (.iload 4, 2) := by decide +kernel
theorem dX7_compared_29 : decode cX7_compared 29 = .ok (.if_icmp .ne 7, 3) := by decide +kernel
theorem dX7_compared_32 : decode cX7_compared 32 = .ok (.iconst 1, 1) := by decide +kernel
theorem dX7_compared_33 : decode cX7_compared 33 = .ok (.goto 4, 3) := by decide +kernel
theorem dX7_compared_36 : decode cX7_compared 36 = .ok (.iconst 0, 1) := by decide +kernel
theorem dX7_compared_37 : decode cX7_compared 37 = .ok (.invokevirtual 154, 3) := by decide +kernel
theorem dX7_compared_40 : decode cX7_compared 40 = .ok (.iconst 0, 1) := by decide +kernel
theorem dX7_compared_41 : decode cX7_compared 41 = .ok (.ireturn, 1) := by decide +kernel
theorem dX7_random_0 : decode cX7_random 0 = .ok (.aload_n 0, 1) := by decide +kernel
theorem dX7_random_1 : decode cX7_random 1 = .ok (.getfield 16, 3) := by decide +kernel
theorem dX7_random_4 : decode cX7_random 4 = .ok (.bipush 21, 2) := by decide +kernel
theorem dX7_random_6 : decode cX7_random 6 = .ok (.iconst 5, 1) := by decide +kernel
theorem dX7_random_7 : decode cX7_random 7 = .ok (.aload_n 0, 1) := by decide +kernel
theorem dX7_random_8 : decode cX7_random 8 = .ok (.getfield 16, 3) := by decide +kernel
theorem dX7_random_11 : decode cX7_random 11 = .ok (.bipush 21, 2) := by decide +kernel
theorem dX7_random_13 : decode cX7_random 13 = .ok (.iaload, 1) := by decide +kernel
theorem dX7_random_14 : decode cX7_random 14 = .ok (.imul, 1) := by decide +kernel
theorem dX7_random_15 : decode cX7_random 15 = .ok (.iconst 1, 1) := by decide +kernel
theorem dX7_random_16 : decode cX7_random 16 = .ok (.iadd, 1) := by decide +kernel
theorem dX7_random_17 : decode cX7_random 17 = .ok (.sipush 255, 3) := by decide +kernel
theorem dX7_random_20 : decode cX7_random 20 = .ok (.iand, 1) := by decide +kernel
theorem dX7_random_21 : decode cX7_random 21 = .ok (.iastore, 1) := by decide +kernel
theorem dX7_random_22 : decode cX7_random 22 = .ok (.aload_n 0, 1) := by decide +kernel
theorem dX7_random_23 : decode cX7_random 23 = .ok (.getfield 16, 3) := by decide +kernel
theorem dX7_random_26 : decode cX7_random 26 = .ok (.iload_n 1, 1) := by decide +kernel
theorem dX7_random_27 : decode cX7_random 27 = .ok (.aload_n 0, 1) := by decide +kernel
theorem dX7_random_28 : decode cX7_random 28 = .ok (.getfield 16, 3) := by decide +kernel
theorem dX7_random_31 : decode cX7_random 31 = .ok (.bipush 21, 2) := by decide +kernel
theorem dX7_random_33 : decode cX7_random 33 = .ok (.iaload, 1) := by decide +kernel
theorem dX7_random_34 : decode cX7_random 34 = .ok (.iload_n 2, 1) := by decide +kernel
theorem dX7_random_35 : decode cX7_random 35 = .ok (.iand, 1) := by decide +kernel
theorem dX7_random_36 : decode cX7_random 36 = .ok (.iastore, 1) := by decide +kernel
theorem dX7_random_37 : decode cX7_random 37 = .ok (.iconst 0, 1) := by decide +kernel
theorem dX7_random_38 : decode cX7_random 38 = .ok (.ireturn, 1) := by decide +kernel
theorem dX7_step_0 : decode cX7_step 0 = .ok (.aload_n 0, 1) := by decide +kernel
theorem dX7_step_1 : decode cX7_step 1 = .ok (.aload_n 0, 1) := by decide +kernel
theorem dX7_step_2 : decode cX7_step 2 = .ok (.getfield 16, 3) := by decide +kernel
theorem dX7_step_5 : decode cX7_step 5 = .ok (.bipush 17, 2) := by decide +kernel
theorem dX7_step_7 : decode cX7_step 7 = .ok (.iaload, 1) := by decide +kernel
theorem dX7_step_8 : decode cX7_step 8 = .ok (.invokevirtual 43, 3) := by decide +kernel
theorem dX7_step_11 : decode cX7_step 11 = .ok (.bipush 8, 2) := by decide +kernel
theorem dX7_step_13 : decode cX7_step 13 = .ok (.ishl, 1) := by decide +kernel
theorem dX7_step_14 : decode cX7_step 14 = .ok (.aload_n 0, 1) := by decide +kernel
theorem dX7_step_15 : decode cX7_step 15 = .ok (.aload_n 0, 1) := by decide +kernel
theorem dX7_step_16 : decode cX7_step 16 = .ok (.getfield 16, 3) := by decide +kernel
theorem dX7_step_19 : decode cX7_step 19 = .ok (.bipush 17, 2) := by decide +kernel
theorem dX7_step_21 : decode cX7_step 21 = .ok (.iaload, 1) := by decide +kernel
theorem dX7_step_22 : decode cX7_step 22 = .ok (.iconst 1, 1) := by decide +kernel
theorem dX7_step_23 : decode cX7_step 23 = .ok (.iadd, 1) := by decide +kernel
theorem dX7_step_24 : decode cX7_step 24 = .ok (.invokevirtual 43, 3) := by decide +kernel
theorem dX7_step_27 : decode cX7_step 27 = .ok (.ior, 1) := by decide +kernel
theorem dX7_step_28 : decode cX7_step 28 = .ok (.istore_n 1, 1) := by decide +kernel
theorem dX7_step_29 : decode cX7_step 29 = .ok (.iload_n 1, 1) := by decide +kernel
theorem dX7_step_30 : decode cX7_step 30 = .ok (.bipush 8, 2) := by decide +kernel
theorem dX7_step_32 : decode cX7_step 32 = .ok (.ishr, 1) := by decide +kernel
theorem dX7_step_33 : decode cX7_step 33 = .ok (.bipush 15, 2) := by decide +kernel
theorem dX7_step_35 : decode cX7_step 35 = .ok (.iand, 1) := by decide +kernel
theorem dX7_step_36 : decode cX7_step 36 = .ok (.istore_n 2, 1) := by decide +kernel
theorem dX7_step_37 : decode cX7_step 37 = .ok (.iload_n 1, 1) := by decide +kernel
theorem dX7_step_38 : decode cX7_step 38 = .ok (.iconst 4, 1) := by decide +kernel
theorem dX7_step_39 : decode cX7_step 39 = .ok (.ishr, 1) := by decide +kernel
theorem dX7_step_40 : decode cX7_step 40 = .ok (.bipush 15, 2) := by decide +kernel
theorem dX7_step_42 : decode cX7_step 42 = .ok (.iand, 1) := by decide +kernel
theorem dX7_step_43 : decode cX7_step 43 = .ok (.istore_n 3, 1) := by decide +kernel
theorem dX7_step_44 : decode cX7_step 44 = .ok (.iload_n 1, 1) := by decide +kernel
theorem dX7_step_45 : decode cX7_step 45 = .ok (.bipush 15, 2) := by decide +kernel
theorem dX7_step_47 : decode cX7_step 47 = .ok (.iand, 1) := by decide +kernel
theorem dX7_step_48 : decode cX7_step 48 = .ok (.istore 4, 2) := by decide +kernel
theorem dX7_step_50 : decode cX7_step 50 = .ok (.iload_n 1, 1) := by decide +kernel
theorem dX7_step_51 : decode cX7_step 51 = .ok (.sipush 255, 3) := by decide +kernel
theorem dX7_step_54 : decode cX7_step 54 = .ok (.iand, 1) := by decide +kernel
theorem dX7_step_55 : decode cX7_step 55 = .ok (.istore 5, 2) := by decide +kernel
theorem dX7_step_57 : decode cX7_step 57 = .ok (.iload_n 1, 1) := by decide +kernel
theorem dX7_step_58 : decode cX7_step 58 = .ok (.sipush 4095, 3) := by decide +kernel
theorem dX7_step_61 : decode cX7_step 61 = .ok (.iand, 1) := by decide +kernel
theorem dX7_step_62 : decode cX7_step 62 = .ok (.istore 6, 2) := by decide +kernel
theorem dX7_step_64 : decode cX7_step 64 = .ok (.iload_n 1, 1) := by decide +kernel
theorem dX7_step_65 : decode cX7_step 65 = .ok (.bipush 12, 2) := by decide +kernel
theorem dX7_step_67 : decode cX7_step 67 = .ok (.ishr, 1) := by decide +kernel
theorem dX7_step_68 : decode cX7_step 68 = .ok (.tableswitch 215 0 15 #[80, 86, 97, 104, 126, 148, 215, 215, 158, 167, 215, 177, 215, 215, 199, 207], 80) := by decide +kernel
theorem dX7_step_148 : decode cX7_step 148 = .ok (.aload_n 0, 1) := by decide +kernel
theorem dX7_step_149 : decode cX7_step 149 = .ok (.iload_n 1, 1) := by decide +kernel
theorem dX7_step_150 : decode cX7_step 150 = .ok (.invokevirtual 165, 3) := by decide +kernel
theorem dX7_step_153 : decode cX7_step 153 = .ok (.ireturn, 1) := by decide +kernel
theorem dX7_step_154 : decode cX7_step 154 = .ok (.aload_n 0, 1) := by decide +kernel
theorem dX7_step_155 : decode cX7_step 155 = .ok (.getfield 16, 3) := by decide +kernel
theorem dX7_step_158 : decode cX7_step 158 = .ok (.bipush 17, 2) := by decide +kernel
theorem dX7_step_160 : decode cX7_step 160 = .ok (.iload 6, 2) := by decide +kernel
theorem dX7_step_162 : decode cX7_step 162 = .ok (.iastore, 1) := by decide +kernel
theorem dX7_step_163 : decode cX7_step 163 = .ok (.iconst 0, 1) := by decide +kernel
theorem dX7_step_164 : decode cX7_step 164 = .ok (.ireturn, 1) := by decide +kernel
theorem dX7_step_165 : decode cX7_step 165 = .ok (.aload_n 0, 1) := by decide +kernel
theorem dX7_step_166 : decode cX7_step 166 = .ok (.iload 6, 2) := by decide +kernel
theorem dX7_step_168 : decode cX7_step 168 = .ok (.invokevirtual 168, 3) := by decide +kernel
theorem dX7_step_171 : decode cX7_step 171 = .ok (.ireturn, 1) := by decide +kernel
theorem dX7_step_172 : decode cX7_step 172 = .ok (.aload_n 0, 1) := by decide +kernel
theorem dX7_step_173 : decode cX7_step 173 = .ok (.aload_n 0, 1) := by decide +kernel
theorem dX7_step_174 : decode cX7_step 174 = .ok (.getfield 16, 3) := by decide +kernel
theorem dX7_step_177 : decode cX7_step 177 = .ok (.iload_n 2, 1) := by decide +kernel
theorem dX7_step_178 : decode cX7_step 178 = .ok (.iaload, 1) := by decide +kernel
theorem dX7_step_179 : decode cX7_step 179 = .ok (.iload 5, 2) := by decide +kernel
theorem dX7_step_181 : decode cX7_step 181 = .ok (.if_icmp .ne 7, 3) := by decide +kernel
theorem dX7_step_184 : decode cX7_step 184 = .ok (.iconst 1, 1) := by decide +kernel
theorem dX7_step_185 : decode cX7_step 185 = .ok (.goto 4, 3) := by decide +kernel
theorem dX7_step_188 : decode cX7_step 188 = .ok (.iconst 0, 1) := by decide +kernel
theorem dX7_step_189 : decode cX7_step 189 = .ok (.invokevirtual 154, 3) := by decide +kernel
theorem dX7_step_192 : decode cX7_step 192 = .ok (.iconst 0, 1) := by decide +kernel
theorem dX7_step_193 : decode cX7_step 193 = .ok (.ireturn, 1) := by decide +kernel
theorem dX7_step_194 : decode cX7_step 194 = .ok (.aload_n 0, 1) := by decide +kernel
theorem dX7_step_195 : decode cX7_step 195 = .ok (.aload_n 0, 1) := by decide +kernel
theorem dX7_step_196 : decode cX7_step 196 = .ok (.getfield 16, 3) := by decide +kernel
theorem dX7_step_199 : decode cX7_step 199 = .ok (.iload_n 2, 1) := by decide +kernel
theorem dX7_step_200 : decode cX7_step 200 = .ok (.iaload, 1) := by decide +kernel
theorem dX7_step_201 : decode cX7_step 201 = .ok (.iload 5, 2) := by decide +kernel
theorem dX7_step_203 : decode cX7_step 203 = .ok (.if_icmp .eq 7, 3) := by decide +kernel
theorem dX7_step_206 : decode cX7_step 206 = .ok (.iconst 1, 1) := by decide +kernel
theorem dX7_step_207 : decode cX7_step 207 = .ok (.goto 4, 3) := by decide +kernel
theorem dX7_step_210 : decode cX7_step 210 = .ok (.iconst 0, 1) := by decide +kernel
theorem dX7_step_211 : decode cX7_step 211 = .ok (.invokevirtual 154, 3) := by decide +kernel
theorem dX7_step_214 : decode cX7_step 214 = .ok (.iconst 0, 1) := by decide +kernel
theorem dX7_step_215 : decode cX7_step 215 = .ok (.ireturn, 1) := by decide +kernel
theorem dX7_step_216 : decode cX7_step 216 = .ok (.aload_n 0, 1) := by decide +kernel
theorem dX7_step_217 : decode cX7_step 217 = .ok (.iload_n 2, 1) := by decide +kernel
theorem dX7_step_218 : decode cX7_step 218 = .ok (.iload_n 3, 1) := by decide +kernel
theorem dX7_step_219 : decode cX7_step 219 = .ok (.iload 4, 2) := by decide +kernel
theorem dX7_step_221 : decode cX7_step 221 = .ok (.iconst 1, 1) := by decide +kernel
theorem dX7_step_222 : decode cX7_step 222 = .ok (.invokevirtual 171, 3) := by decide +kernel
theorem dX7_step_225 : decode cX7_step 225 = .ok (.ireturn, 1) := by decide +kernel
theorem dX7_step_226 : decode cX7_step 226 = .ok (.aload_n 0, 1) := by decide +kernel
theorem dX7_step_227 : decode cX7_step 227 = .ok (.iload_n 2, 1) := by decide +kernel
theorem dX7_step_228 : decode cX7_step 228 = .ok (.iload_n 3, 1) := by decide +kernel
theorem dX7_step_229 : decode cX7_step 229 = .ok (.iload 4, 2) := by decide +kernel
theorem dX7_step_231 : decode cX7_step 231 = .ok (.invokevirtual 175, 3) := by decide +kernel
theorem dX7_step_234 : decode cX7_step 234 = .ok (.ireturn, 1) := by decide +kernel
theorem dX7_step_235 : decode cX7_step 235 = .ok (.aload_n 0, 1) := by decide +kernel
theorem dX7_step_236 : decode cX7_step 236 = .ok (.iload_n 2, 1) := by decide +kernel
theorem dX7_step_237 : decode cX7_step 237 = .ok (.iload_n 3, 1) := by decide +kernel
theorem dX7_step_238 : decode cX7_step 238 = .ok (.iload 4, 2) := by decide +kernel
theorem dX7_step_240 : decode cX7_step 240 = .ok (.iconst 0, 1) := by decide +kernel
theorem dX7_step_241 : decode cX7_step 241 = .ok (.invokevirtual 171, 3) := by decide +kernel
theorem dX7_step_244 : decode cX7_step 244 = .ok (.ireturn, 1) := by decide +kernel
theorem dX7_step_245 : decode cX7_step 245 = .ok (.aload_n 0, 1) := by decide +kernel
theorem dX7_step_246 : decode cX7_step 246 = .ok (.getfield 16, 3) := by decide +kernel
theorem dX7_step_249 : decode cX7_step 249 = .ok (.bipush 17, 2) := by decide +kernel
theorem dX7_step_251 : decode cX7_step 251 = .ok (.iload 6, 2) := by decide +kernel
theorem dX7_step_253 : decode cX7_step 253 = .ok (.aload_n 0, 1) := by decide +kernel
theorem dX7_step_254 : decode cX7_step 254 = .ok (.getfield 16, 3) := by decide +kernel
theorem dX7_step_257 : decode cX7_step 257 = .ok (.iconst 0, 1) := by decide +kernel
theorem dX7_step_258 : decode cX7_step 258 = .ok (.iaload, 1) := by decide +kernel
theorem dX7_step_259 : decode cX7_step 259 = .ok (.iadd, 1) := by decide +kernel
theorem dX7_step_260 : decode cX7_step 260 = .ok (.sipush 4095, 3) := by decide +kernel
theorem dX7_step_263 : decode cX7_step 263 = .ok (.iand, 1) := by decide +kernel
theorem dX7_step_264 : decode cX7_step 264 = .ok (.iastore, 1) := by decide +kernel
theorem dX7_step_265 : decode cX7_step 265 = .ok (.iconst 0, 1) := by decide +kernel
theorem dX7_step_266 : decode cX7_step 266 = .ok (.ireturn, 1) := by decide +kernel
theorem dX7_step_267 : decode cX7_step 267 = .ok (.aload_n 0, 1) := by decide +kernel
theorem dX7_step_268 : decode cX7_step 268 = .ok (.iload_n 2, 1) := by decide +kernel
theorem dX7_step_269 : decode cX7_step 269 = .ok (.iload 5, 2) := by decide +kernel
theorem dX7_step_271 : decode cX7_step 271 = .ok (.invokevirtual 179, 3) := by decide +kernel
theorem dX7_step_274 : decode cX7_step 274 = .ok (.ireturn, 1) := by decide +kernel
theorem dX7_step_275 : decode cX7_step 275 = .ok (.aload_n 0, 1) := by decide +kernel
theorem dX7_step_276 : decode cX7_step 276 = .ok (.iload_n 2, 1) := by decide +kernel
theorem dX7_step_277 : decode cX7_step 277 = .ok (.iload 5, 2) := by decide +kernel
theorem dX7_step_279 : decode cX7_step 279 = .ok (.invokevirtual 183, 3) := by decide +kernel
theorem dX7_step_282 : decode cX7_step 282 = .ok (.ireturn, 1) := by decide +kernel
theorem dX7_step_283 : decode cX7_step 283 = .ok (.aload_n 0, 1) := by decide +kernel
theorem dX7_step_284 : decode cX7_step 284 = .ok (.iload_n 1, 1) := by decide +kernel
theorem dX7_step_285 : decode cX7_step 285 = .ok (.invokevirtual 186, 3) := by decide +kernel
theorem dX7_step_288 : decode cX7_step 288 = .ok (.iconst 0, 1) := by decide +kernel
theorem dX7_step_289 : decode cX7_step 289 = .ok (.ireturn, 1) := by decide +kernel
theorem dX7_simple_0 : decode cX7_simple 0 = .ok (.iload_n 1, 1) := by decide +kernel
theorem dX7_simple_1 : decode cX7_simple 1 = .ok (.bipush 8, 2) := by decide +kernel
theorem dX7_simple_3 : decode cX7_simple 3 = .ok (.ishr, 1) := by decide +kernel
theorem dX7_simple_4 : decode cX7_simple 4 = .ok (.bipush 15, 2) := by decide +kernel
theorem dX7_simple_6 : decode cX7_simple 6 = .ok (.iand, 1) := by decide +kernel
theorem dX7_simple_7 : decode cX7_simple 7 = .ok (.istore_n 2, 1) := by decide +kernel
theorem dX7_simple_8 : decode cX7_simple 8 = .ok (.iload_n 1, 1) := by decide +kernel
theorem dX7_simple_9 : decode cX7_simple 9 = .ok (.sipush 255, 3) := by decide +kernel
theorem dX7_simple_12 : decode cX7_simple 12 = .ok (.iand, 1) := by decide +kernel
theorem dX7_simple_13 : decode cX7_simple 13 = .ok (.istore_n 3, 1) := by decide +kernel
theorem dX7_simple_14 : decode cX7_simple 14 = .ok (.iload_n 1, 1) := by decide +kernel
theorem dX7_simple_15 : decode cX7_simple 15 = .ok (.bipush 12, 2) := by decide +kernel
theorem dX7_simple_17 : decode cX7_simple 17 = .ok (.ishr, 1) := by decide +kernel
theorem dX7_simple_18 : decode cX7_simple 18 = .ok (.tableswitch 98 6 12 #[42, 52, 98, 98, 73, 98, 88], 42) := by decide +kernel
theorem dX7_simple_60 : decode cX7_simple 60 = .ok (.aload_n 0, 1) := by decide +kernel
theorem dX7_simple_61 : decode cX7_simple 61 = .ok (.getfield 16, 3) := by decide +kernel
theorem dX7_simple_64 : decode cX7_simple 64 = .ok (.iload_n 2, 1) := by decide +kernel
theorem dX7_simple_65 : decode cX7_simple 65 = .ok (.iload_n 3, 1) := by decide +kernel
theorem dX7_simple_66 : decode cX7_simple 66 = .ok (.iastore, 1) := by decide +kernel
theorem dX7_simple_67 : decode cX7_simple 67 = .ok (.goto 64, 3) := by decide +kernel
theorem dX7_simple_70 : decode cX7_simple 70 = .ok (.aload_n 0, 1) := by decide +kernel
theorem dX7_simple_71 : decode cX7_simple 71 = .ok (.getfield 16, 3) := by decide +kernel
theorem dX7_simple_74 : decode cX7_simple 74 = .ok (.iload_n 2, 1) := by decide +kernel
theorem dX7_simple_75 : decode cX7_simple 75 = .ok (.aload_n 0, 1) := by decide +kernel
theorem dX7_simple_76 : decode cX7_simple 76 = .ok (.getfield 16, 3) := by decide +kernel
theorem dX7_simple_79 : decode cX7_simple 79 = .ok (.iload_n 2, 1) := by decide +kernel
theorem dX7_simple_80 : decode cX7_simple 80 = .ok (.iaload, 1) := by decide +kernel
theorem dX7_simple_81 : decode cX7_simple 81 = .ok (.iload_n 3, 1) := by decide +kernel
theorem dX7_simple_82 : decode cX7_simple 82 = .ok (.iadd, 1) := by decide +kernel
theorem dX7_simple_83 : decode cX7_simple 83 = .ok (.sipush 255, 3) := by decide +kernel
theorem dX7_simple_86 : decode cX7_simple 86 = .ok (.iand, 1) := by decide +kernel
theorem dX7_simple_87 : decode cX7_simple 87 = .ok (.iastore, 1) := by decide +kernel
theorem dX7_simple_88 : decode cX7_simple 88 = .ok (.goto 43, 3) := by decide +kernel
theorem dX7_simple_91 : decode cX7_simple 91 = .ok (.aload_n 0, 1) := by decide +kernel
theorem dX7_simple_92 : decode cX7_simple 92 = .ok (.getfield 16, 3) := by decide +kernel
theorem dX7_simple_95 : decode cX7_simple 95 = .ok (.bipush 16, 2) := by decide +kernel
theorem dX7_simple_97 : decode cX7_simple 97 = .ok (.iload_n 1, 1) := by decide +kernel
theorem dX7_simple_98 : decode cX7_simple 98 = .ok (.sipush 4095, 3) := by decide +kernel
theorem dX7_simple_101 : decode cX7_simple 101 = .ok (.iand, 1) := by decide +kernel
theorem dX7_simple_102 : decode cX7_simple 102 = .ok (.iastore, 1) := by decide +kernel
theorem dX7_simple_103 : decode cX7_simple 103 = .ok (.goto 28, 3) := by decide +kernel
theorem dX7_simple_106 : decode cX7_simple 106 = .ok (.aload_n 0, 1) := by decide +kernel
theorem dX7_simple_107 : decode cX7_simple 107 = .ok (.iload_n 2, 1) := by decide +kernel
theorem dX7_simple_108 : decode cX7_simple 108 = .ok (.iload_n 3, 1) := by decide +kernel
theorem dX7_simple_109 : decode cX7_simple 109 = .ok (.invokevirtual 189, 3) := by decide +kernel
theorem dX7_simple_112 : decode cX7_simple 112 = .ok (.pop, 1) := by decide +kernel
theorem dX7_simple_113 : decode cX7_simple 113 = .ok (.goto 18, 3) := by decide +kernel
theorem dX7_simple_116 : decode cX7_simple 116 = .ok (.aload_n 0, 1) := by decide +kernel
theorem dX7_simple_117 : decode cX7_simple 117 = .ok (.iload_n 2, 1) := by decide +kernel
theorem dX7_simple_118 : decode cX7_simple 118 = .ok (.iload_n 1, 1) := by decide +kernel
theorem dX7_simple_119 : decode cX7_simple 119 = .ok (.iconst 4, 1) := by decide +kernel
theorem dX7_simple_120 : decode cX7_simple 120 = .ok (.ishr, 1) := by decide +kernel
theorem dX7_simple_121 : decode cX7_simple 121 = .ok (.bipush 15, 2) := by decide +kernel
theorem dX7_simple_123 : decode cX7_simple 123 = .ok (.iand, 1) := by decide +kernel
theorem dX7_simple_124 : decode cX7_simple 124 = .ok (.iload_n 1, 1) := by decide +kernel
theorem dX7_simple_125 : decode cX7_simple 125 = .ok (.bipush 15, 2) := by decide +kernel
theorem dX7_simple_127 : decode cX7_simple 127 = .ok (.iand, 1) := by decide +kernel
theorem dX7_simple_128 : decode cX7_simple 128 = .ok (.invokevirtual 192, 3) := by decide +kernel
theorem dX7_simple_131 : decode cX7_simple 131 = .ok (.aload_n 0, 1) := by decide +kernel
theorem dX7_simple_132 : decode cX7_simple 132 = .ok (.iconst 0, 1) := by decide +kernel
theorem dX7_simple_133 : decode cX7_simple 133 = .ok (.invokevirtual 154, 3) := by decide +kernel
theorem dX7_simple_136 : decode cX7_simple 136 = .ok (.return_, 1) := by decide +kernel
theorem dX7_chip_0 : decode cX7_chip 0 = .ok (.aload_n 0, 1) := by decide +kernel
theorem dX7_chip_1 : decode cX7_chip 1 = .ok (.iload_n 1, 1) := by decide +kernel
theorem dX7_chip_2 : decode cX7_chip 2 = .ok (.iconst 1, 1) := by decide +kernel
theorem dX7_chip_3 : decode cX7_chip 3 = .ok (.if_icmp .lt 10, 3) := by decide +kernel
theorem dX7_chip_6 : decode cX7_chip 6 = .ok (.iload_n 1, 1) := by decide +kernel
theorem dX7_chip_7 : decode cX7_chip 7 = .ok (.sipush 200, 3) := by decide +kernel
theorem dX7_chip_10 : decode cX7_chip 10 = .ok (.if_icmp .le 7, 3) := by decide +kernel
theorem dX7_chip_13 : decode cX7_chip 13 = .ok (.iconst 1, 1) := by decide +kernel
theorem dX7_chip_14 : decode cX7_chip 14 = .ok (.goto 4, 3) := by decide +kernel
theorem dX7_chip_17 : decode cX7_chip 17 = .ok (.iconst 0, 1) := by decide +kernel
theorem dX7_chip_18 : decode cX7_chip 18 = .ok (.iconst 1, 1) := by decide +kernel
theorem dX7_chip_19 : decode cX7_chip 19 = .ok (.invokevirtual 37, 3) := by decide +kernel
theorem dX7_chip_22 : decode cX7_chip 22 = .ok (.ifCond .eq 5, 3) := by decide +kernel
theorem dX7_chip_25 : decode cX7_chip 25 = .ok (.iconst 0, 1) := by decide +kernel
theorem dX7_chip_26 : decode cX7_chip 26 = .ok (.ireturn, 1) := by decide +kernel
theorem dX7_chip_27 : decode cX7_chip 27 = .ok (.iconst 0, 1) := by decide +kernel
theorem dX7_chip_28 : decode cX7_chip 28 = .ok (.istore_n 2, 1) := by decide +kernel
theorem dX7_chip_29 : decode cX7_chip 29 = .ok (.iload_n 2, 1) := by decide +kernel
theorem dX7_chip_30 : decode cX7_chip 30 = .ok (.iload_n 1, 1) := by decide +kernel
theorem dX7_chip_31 : decode cX7_chip 31 = .ok (.if_icmp .ge 49, 3) := by decide +kernel
theorem dX7_chip_34 : decode cX7_chip 34 = .ok (.aload_n 0, 1) := by decide +kernel
theorem dX7_chip_35 : decode cX7_chip 35 = .ok (.invokevirtual 195, 3) := by decide +kernel
theorem dX7_chip_38 : decode cX7_chip 38 = .ok (.istore_n 3, 1) := by decide +kernel
theorem dX7_chip_39 : decode cX7_chip 39 = .ok (.iload_n 3, 1) := by decide +kernel
theorem dX7_chip_40 : decode cX7_chip 40 = .ok (.iconst 3, 1) := by decide +kernel
theorem dX7_chip_41 : decode cX7_chip 41 = .ok (.if_icmp .ne 5, 3) := by decide +kernel
theorem dX7_chip_44 : decode cX7_chip 44 = .ok (.iload_n 2, 1) := by decide +kernel
theorem dX7_chip_45 : decode cX7_chip 45 = .ok (.ireturn, 1) := by decide +kernel
theorem dX7_chip_46 : decode cX7_chip 46 = .ok (.aload_n 0, 1) := by decide +kernel
theorem dX7_chip_47 : decode cX7_chip 47 = .ok (.iload_n 3, 1) := by decide +kernel
theorem dX7_chip_48 : decode cX7_chip 48 = .ok (.ifCond .eq 7, 3) := by decide +kernel
theorem dX7_chip_51 : decode cX7_chip 51 = .ok (.iconst 1, 1) := by decide +kernel
theorem dX7_chip_52 : decode cX7_chip 52 = .ok (.goto 4, 3) := by decide +kernel
theorem dX7_chip_55 : decode cX7_chip 55 = .ok (.iconst 0, 1) := by decide +kernel
theorem dX7_chip_56 : decode cX7_chip 56 = .ok (.iload_n 3, 1) := by decide +kernel
theorem dX7_chip_57 : decode cX7_chip 57 = .ok (.iconst 1, 1) := by decide +kernel
theorem dX7_chip_58 : decode cX7_chip 58 = .ok (.if_icmp .ne 7, 3) := by decide +kernel
theorem dX7_chip_61 : decode cX7_chip 61 = .ok (.iconst 2, 1) := by decide +kernel
theorem dX7_chip_62 : decode cX7_chip 62 = .ok (.goto 4, 3) := by decide +kernel
theorem dX7_chip_65 : decode cX7_chip 65 = .ok (.iconst 3, 1) := by decide +kernel
theorem dX7_chip_66 : decode cX7_chip 66 = .ok (.invokevirtual 37, 3) := by decide +kernel
theorem dX7_chip_69 : decode cX7_chip 69 = .ok (.ifCond .eq 5, 3) := by decide +kernel
theorem dX7_chip_72 : decode cX7_chip 72 = .ok (.iconst 0, 1) := by decide +kernel
theorem dX7_chip_73 : decode cX7_chip 73 = .ok (.ireturn, 1) := by decide +kernel
theorem dX7_chip_74 : decode cX7_chip 74 = .ok (.iinc 2 1, 3) := by decide +kernel
theorem dX7_chip_77 : decode cX7_chip 77 = .ok (.goto (-48), 3) := by decide +kernel
theorem dX7_chip_80 : decode cX7_chip 80 = .ok (.iload_n 1, 1) := by decide +kernel
theorem dX7_chip_81 : decode cX7_chip 81 = .ok (.ireturn, 1) := by decide +kernel
theorem dX7_v_0 : decode cX7_v 0 = .ok (.aload_n 0, 1) := by decide +kernel
theorem dX7_v_1 : decode cX7_v 1 = .ok (.iload_n 1, 1) := by decide +kernel
theorem dX7_v_2 : decode cX7_v 2 = .ok (.bipush 22, 2) := by decide +kernel
theorem dX7_v_4 : decode cX7_v 4 = .ok (.invokestatic 33, 3) := by decide +kernel
theorem dX7_v_7 : decode cX7_v 7 = .ok (.iconst 1, 1) := by decide +kernel
theorem dX7_v_8 : decode cX7_v 8 = .ok (.invokevirtual 37, 3) := by decide +kernel
theorem dX7_v_11 : decode cX7_v 11 = .ok (.ifCond .eq 7, 3) := by decide +kernel
theorem dX7_v_14 : decode cX7_v 14 = .ok (.iconst 0, 1) := by decide +kernel
theorem dX7_v_15 : decode cX7_v 15 = .ok (.goto 9, 3) := by decide +kernel
theorem dX7_v_18 : decode cX7_v 18 = .ok (.aload_n 0, 1) := by decide +kernel
theorem dX7_v_19 : decode cX7_v 19 = .ok (.getfield 16, 3) := by decide +kernel
theorem dX7_v_22 : decode cX7_v 22 = .ok (.iload_n 1, 1) := by decide +kernel
theorem dX7_v_23 : decode cX7_v 23 = .ok (.iaload, 1) := by decide +kernel
theorem dX7_v_24 : decode cX7_v 24 = .ok (.ireturn, 1) := by decide +kernel
theorem dX7_start_0 : decode cX7_start 0 = .ok (.aload_n 0, 1) := by decide +kernel
theorem dX7_start_1 : decode cX7_start 1 = .ok (.iload_n 1, 1) := by decide +kernel
theorem dX7_start_2 : decode cX7_start 2 = .ok (.sipush 2048, 3) := by decide +kernel
theorem dX7_start_5 : decode cX7_start 5 = .ok (.invokestatic 33, 3) := by decide +kernel
theorem dX7_start_8 : decode cX7_start 8 = .ok (.iconst 1, 1) := by decide +kernel
theorem dX7_start_9 : decode cX7_start 9 = .ok (.invokevirtual 37, 3) := by decide +kernel
theorem dX7_start_12 : decode cX7_start 12 = .ok (.ifCond .eq 4, 3) := by decide +kernel
theorem dX7_start_15 : decode cX7_start 15 = .ok (.return_, 1) := by decide +kernel
theorem dX7_start_16 : decode cX7_start 16 = .ok (.aload_n 0, 1) := by decide +kernel
theorem dX7_start_17 : decode cX7_start 17 = .ok (.getfield 16, 3) := by decide +kernel
theorem dX7_start_20 : decode cX7_start 20 = .ok (.bipush 17, 2) := by decide +kernel
theorem dX7_start_22 : decode cX7_start 22 = .ok (.iload_n 1, 1) := by decide +kernel
theorem dX7_start_23 : decode cX7_start 23 = .ok (.iastore, 1) := by decide +kernel
theorem dX7_start_24 : decode cX7_start 24 = .ok (.aload_n 0, 1) := by decide +kernel
theorem dX7_start_25 : decode cX7_start 25 = .ok (.getfield 16, 3) := by decide +kernel
theorem dX7_start_28 : decode cX7_start 28 = .ok (.bipush 18, 2) := by decide +kernel
theorem dX7_start_30 : decode cX7_start 30 = .ok (.iconst 0, 1) := by decide +kernel
theorem dX7_start_31 : decode cX7_start 31 = .ok (.iastore, 1) := by decide +kernel
theorem dX7_start_32 : decode cX7_start 32 = .ok (.return_, 1) := by decide +kernel
end
section
theorem dL_poke_0 : decode cL_poke 0 = .ok (.aload_n 0, 1) := by decide +kernel
theorem dL_poke_1 : decode cL_poke 1 = .ok (.iload_n 1, 1) := by decide +kernel
theorem dL_poke_2 : decode cL_poke 2 = .ok (.iload_n 2, 1) := by decide +kernel
theorem dL_poke_3 : decode cL_poke 3 = .ok (.invokevirtual 7, 3) := by decide +kernel
theorem dL_poke_6 : decode cL_poke 6 = .ok (.goto 6, 3) := by decide +kernel
theorem dL_poke_9 : decode cL_poke 9 = .ok (.astore_n 3, 1) := by decide +kernel
theorem dL_poke_10 : decode cL_poke 10 = .ok (.iconst 1, 1) := by decide +kernel
theorem dL_poke_11 : decode cL_poke 11 = .ok (.ireturn, 1) := by decide +kernel
theorem dL_poke_12 : decode cL_poke 12 = .ok (.iconst 0, 1) := by decide +kernel
theorem dL_poke_13 : decode cL_poke 13 = .ok (.ireturn, 1) := by decide +kernel
theorem dL_cpu_0 : decode cL_cpu 0 = .ok (.aload_n 2, 1) := by decide +kernel
theorem dL_cpu_1 : decode cL_cpu 1 = .ok (.iconst 0, 1) := by decide +kernel
theorem dL_cpu_2 : decode cL_cpu 2 = .ok (.aload_n 0, 1) := by decide +kernel
theorem dL_cpu_3 : decode cL_cpu 3 = .ok (.iload_n 1, 1) := by decide +kernel
theorem dL_cpu_4 : decode cL_cpu 4 = .ok (.invokevirtual 15, 3) := by decide +kernel
theorem dL_cpu_7 : decode cL_cpu 7 = .ok (.i2l, 1) := by decide +kernel
theorem dL_cpu_8 : decode cL_cpu 8 = .ok (.lastore, 1) := by decide +kernel
theorem dL_cpu_9 : decode cL_cpu 9 = .ok (.goto 6, 3) := by decide +kernel
theorem dL_cpu_12 : decode cL_cpu 12 = .ok (.astore_n 3, 1) := by decide +kernel
theorem dL_cpu_13 : decode cL_cpu 13 = .ok (.iconst 1, 1) := by decide +kernel
theorem dL_cpu_14 : decode cL_cpu 14 = .ok (.ireturn, 1) := by decide +kernel
theorem dL_cpu_15 : decode cL_cpu 15 = .ok (.iconst 0, 1) := by decide +kernel
theorem dL_cpu_16 : decode cL_cpu 16 = .ok (.ireturn, 1) := by decide +kernel
theorem dL_set_0 : decode cL_set 0 = .ok (.aload_n 0, 1) := by decide +kernel
theorem dL_set_1 : decode cL_set 1 = .ok (.iload_n 1, 1) := by decide +kernel
theorem dL_set_2 : decode cL_set 2 = .ok (.iload_n 2, 1) := by decide +kernel
theorem dL_set_3 : decode cL_set 3 = .ok (.invokevirtual 21, 3) := by decide +kernel
theorem dL_set_6 : decode cL_set 6 = .ok (.goto 6, 3) := by decide +kernel
theorem dL_set_9 : decode cL_set 9 = .ok (.astore_n 3, 1) := by decide +kernel
theorem dL_set_10 : decode cL_set 10 = .ok (.iconst 1, 1) := by decide +kernel
theorem dL_set_11 : decode cL_set 11 = .ok (.ireturn, 1) := by decide +kernel
theorem dL_set_12 : decode cL_set 12 = .ok (.iconst 0, 1) := by decide +kernel
theorem dL_set_13 : decode cL_set 13 = .ok (.ireturn, 1) := by decide +kernel
theorem dL_key_0 : decode cL_key 0 = .ok (.aload_n 0, 1) := by decide +kernel
theorem dL_key_1 : decode cL_key 1 = .ok (.iload_n 1, 1) := by decide +kernel
theorem dL_key_2 : decode cL_key 2 = .ok (.iload_n 2, 1) := by decide +kernel
theorem dL_key_3 : decode cL_key 3 = .ok (.invokevirtual 24, 3) := by decide +kernel
theorem dL_key_6 : decode cL_key 6 = .ok (.goto 6, 3) := by decide +kernel
theorem dL_key_9 : decode cL_key 9 = .ok (.astore_n 3, 1) := by decide +kernel
theorem dL_key_10 : decode cL_key 10 = .ok (.iconst 1, 1) := by decide +kernel
theorem dL_key_11 : decode cL_key 11 = .ok (.ireturn, 1) := by decide +kernel
theorem dL_key_12 : decode cL_key 12 = .ok (.iconst 0, 1) := by decide +kernel
theorem dL_key_13 : decode cL_key 13 = .ok (.ireturn, 1) := by decide +kernel
theorem dL_run_0 : decode cL_run 0 = .ok (.aload_n 2, 1) := by decide +kernel
theorem dL_run_1 : decode cL_run 1 = .ok (.iconst 0, 1) := by decide +kernel
theorem dL_run_2 : decode cL_run 2 = .ok (.aload_n 0, 1) := by decide +kernel
theorem dL_run_3 : decode cL_run 3 = .ok (.iload_n 1, 1) := by decide +kernel
theorem dL_run_4 : decode cL_run 4 = .ok (.invokevirtual 28, 3) := by decide +kernel
theorem dL_run_7 : decode cL_run 7 = .ok (.i2l, 1) := by decide +kernel
theorem dL_run_8 : decode cL_run 8 = .ok (.lastore, 1) := by decide +kernel
theorem dL_run_9 : decode cL_run 9 = .ok (.goto 6, 3) := by decide +kernel
theorem dL_run_12 : decode cL_run 12 = .ok (.astore_n 3, 1) := by decide +kernel
theorem dL_run_13 : decode cL_run 13 = .ok (.iconst 1, 1) := by decide +kernel
theorem dL_run_14 : decode cL_run 14 = .ok (.ireturn, 1) := by decide +kernel
theorem dL_run_15 : decode cL_run 15 = .ok (.iconst 0, 1) := by decide +kernel
theorem dL_run_16 : decode cL_run 16 = .ok (.ireturn, 1) := by decide +kernel
theorem dL_video_0 : decode cL_video 0 = .ok (.aload_n 2, 1) := by decide +kernel
theorem dL_video_1 : decode cL_video 1 = .ok (.iconst 0, 1) := by decide +kernel
theorem dL_video_2 : decode cL_video 2 = .ok (.aload_n 0, 1) := by decide +kernel
theorem dL_video_3 : decode cL_video 3 = .ok (.iload_n 1, 1) := by decide +kernel
theorem dL_video_4 : decode cL_video 4 = .ok (.invokevirtual 31, 3) := by decide +kernel
theorem dL_video_7 : decode cL_video 7 = .ok (.i2l, 1) := by decide +kernel
theorem dL_video_8 : decode cL_video 8 = .ok (.lastore, 1) := by decide +kernel
theorem dL_video_9 : decode cL_video 9 = .ok (.goto 6, 3) := by decide +kernel
theorem dL_video_12 : decode cL_video 12 = .ok (.astore_n 3, 1) := by decide +kernel
theorem dL_video_13 : decode cL_video 13 = .ok (.iconst 1, 1) := by decide +kernel
theorem dL_video_14 : decode cL_video 14 = .ok (.ireturn, 1) := by decide +kernel
theorem dL_video_15 : decode cL_video 15 = .ok (.iconst 0, 1) := by decide +kernel
theorem dL_video_16 : decode cL_video 16 = .ok (.ireturn, 1) := by decide +kernel
theorem dL_shown_0 : decode cL_shown 0 = .ok (.aload_n 3, 1) := by decide +kernel
theorem dL_shown_1 : decode cL_shown 1 = .ok (.iconst 0, 1) := by decide +kernel
theorem dL_shown_2 : decode cL_shown 2 = .ok (.aload_n 0, 1) := by decide +kernel
theorem dL_shown_3 : decode cL_shown 3 = .ok (.iload_n 1, 1) := by decide +kernel
theorem dL_shown_4 : decode cL_shown 4 = .ok (.iload_n 2, 1) := by decide +kernel
theorem dL_shown_5 : decode cL_shown 5 = .ok (.invokevirtual 34, 3) := by decide +kernel
theorem dL_shown_8 : decode cL_shown 8 = .ok (.i2l, 1) := by decide +kernel
theorem dL_shown_9 : decode cL_shown 9 = .ok (.lastore, 1) := by decide +kernel
theorem dL_shown_10 : decode cL_shown 10 = .ok (.goto 7, 3) := by decide +kernel
theorem dL_shown_13 : decode cL_shown 13 = .ok (.astore 4, 2) := by decide +kernel
theorem dL_shown_15 : decode cL_shown 15 = .ok (.iconst 1, 1) := by decide +kernel
theorem dL_shown_16 : decode cL_shown 16 = .ok (.ireturn, 1) := by decide +kernel
theorem dL_shown_17 : decode cL_shown 17 = .ok (.iconst 0, 1) := by decide +kernel
theorem dL_shown_18 : decode cL_shown 18 = .ok (.ireturn, 1) := by decide +kernel
theorem dL_chip_0 : decode cL_chip 0 = .ok (.aload_n 2, 1) := by decide +kernel
theorem dL_chip_1 : decode cL_chip 1 = .ok (.iconst 0, 1) := by decide +kernel
theorem dL_chip_2 : decode cL_chip 2 = .ok (.aload_n 0, 1) := by decide +kernel
theorem dL_chip_3 : decode cL_chip 3 = .ok (.iload_n 1, 1) := by decide +kernel
theorem dL_chip_4 : decode cL_chip 4 = .ok (.invokevirtual 38, 3) := by decide +kernel
theorem dL_chip_7 : decode cL_chip 7 = .ok (.i2l, 1) := by decide +kernel
theorem dL_chip_8 : decode cL_chip 8 = .ok (.lastore, 1) := by decide +kernel
theorem dL_chip_9 : decode cL_chip 9 = .ok (.goto 12, 3) := by decide +kernel
theorem dL_chip_12 : decode cL_chip 12 = .ok (.astore_n 3, 1) := by decide +kernel
theorem dL_chip_13 : decode cL_chip 13 = .ok (.iconst 1, 1) := by decide +kernel
theorem dL_chip_14 : decode cL_chip 14 = .ok (.ireturn, 1) := by decide +kernel
theorem dL_chip_15 : decode cL_chip 15 = .ok (.astore_n 3, 1) := by decide +kernel
theorem dL_chip_16 : decode cL_chip 16 = .ok (.iconst 2, 1) := by decide +kernel
theorem dL_chip_17 : decode cL_chip 17 = .ok (.ireturn, 1) := by decide +kernel
theorem dL_chip_18 : decode cL_chip 18 = .ok (.astore_n 3, 1) := by decide +kernel
theorem dL_chip_19 : decode cL_chip 19 = .ok (.iconst 3, 1) := by decide +kernel
theorem dL_chip_20 : decode cL_chip 20 = .ok (.ireturn, 1) := by decide +kernel
theorem dL_chip_21 : decode cL_chip 21 = .ok (.iconst 0, 1) := by decide +kernel
theorem dL_chip_22 : decode cL_chip 22 = .ok (.ireturn, 1) := by decide +kernel
theorem dL_v_0 : decode cL_v 0 = .ok (.aload_n 2, 1) := by decide +kernel
theorem dL_v_1 : decode cL_v 1 = .ok (.iconst 0, 1) := by decide +kernel
theorem dL_v_2 : decode cL_v 2 = .ok (.aload_n 0, 1) := by decide +kernel
theorem dL_v_3 : decode cL_v 3 = .ok (.iload_n 1, 1) := by decide +kernel
theorem dL_v_4 : decode cL_v 4 = .ok (.invokevirtual 45, 3) := by decide +kernel
theorem dL_v_7 : decode cL_v 7 = .ok (.i2l, 1) := by decide +kernel
theorem dL_v_8 : decode cL_v 8 = .ok (.lastore, 1) := by decide +kernel
theorem dL_v_9 : decode cL_v 9 = .ok (.goto 6, 3) := by decide +kernel
theorem dL_v_12 : decode cL_v 12 = .ok (.astore_n 3, 1) := by decide +kernel
theorem dL_v_13 : decode cL_v 13 = .ok (.iconst 1, 1) := by decide +kernel
theorem dL_v_14 : decode cL_v 14 = .ok (.ireturn, 1) := by decide +kernel
theorem dL_v_15 : decode cL_v 15 = .ok (.iconst 0, 1) := by decide +kernel
theorem dL_v_16 : decode cL_v 16 = .ok (.ireturn, 1) := by decide +kernel
theorem dL_start_0 : decode cL_start 0 = .ok (.aload_n 0, 1) := by decide +kernel
theorem dL_start_1 : decode cL_start 1 = .ok (.iload_n 1, 1) := by decide +kernel
theorem dL_start_2 : decode cL_start 2 = .ok (.invokevirtual 48, 3) := by decide +kernel
theorem dL_start_5 : decode cL_start 5 = .ok (.goto 6, 3) := by decide +kernel
theorem dL_start_8 : decode cL_start 8 = .ok (.astore_n 2, 1) := by decide +kernel
theorem dL_start_9 : decode cL_start 9 = .ok (.iconst 1, 1) := by decide +kernel
theorem dL_start_10 : decode cL_start 10 = .ok (.ireturn, 1) := by decide +kernel
theorem dL_start_11 : decode cL_start 11 = .ok (.iconst 0, 1) := by decide +kernel
theorem dL_start_12 : decode cL_start 12 = .ok (.ireturn, 1) := by decide +kernel
theorem dL_law_0 : decode cL_law 0 = .ok (.new 8, 3) := by decide +kernel
theorem dL_law_3 : decode cL_law 3 = .ok (.dup, 1) := by decide +kernel
theorem dL_law_4 : decode cL_law 4 = .ok (.invokespecial 52, 3) := by decide +kernel
theorem dL_law_7 : decode cL_law 7 = .ok (.astore_n 1, 1) := by decide +kernel
theorem dL_law_8 : decode cL_law 8 = .ok (.new 53, 3) := by decide +kernel
theorem dL_law_11 : decode cL_law 11 = .ok (.dup, 1) := by decide +kernel
theorem dL_law_12 : decode cL_law 12 = .ok (.invokespecial 55, 3) := by decide +kernel
theorem dL_law_15 : decode cL_law 15 = .ok (.astore_n 2, 1) := by decide +kernel
theorem dL_law_16 : decode cL_law 16 = .ok (.iconst 1, 1) := by decide +kernel
theorem dL_law_17 : decode cL_law 17 = .ok (.newarray .long, 2) := by decide +kernel
theorem dL_law_19 : decode cL_law 19 = .ok (.astore_n 3, 1) := by decide +kernel
theorem dL_law_20 : decode cL_law 20 = .ok (.iconst 0, 1) := by decide +kernel
theorem dL_law_21 : decode cL_law 21 = .ok (.istore 4, 2) := by decide +kernel
theorem dL_law_23 : decode cL_law 23 = .ok (.iload 4, 2) := by decide +kernel
theorem dL_law_25 : decode cL_law 25 = .ok (.aload_n 0, 1) := by decide +kernel
theorem dL_law_26 : decode cL_law 26 = .ok (.arraylength, 1) := by decide +kernel
theorem dL_law_27 : decode cL_law 27 = .ok (.iconst 3, 1) := by decide +kernel
theorem dL_law_28 : decode cL_law 28 = .ok (.isub, 1) := by decide +kernel
theorem dL_law_29 : decode cL_law 29 = .ok (.if_icmp .gt 642, 3) := by decide +kernel
theorem dL_law_32 : decode cL_law 32 = .ok (.aload_n 0, 1) := by decide +kernel
theorem dL_law_33 : decode cL_law 33 = .ok (.iload 4, 2) := by decide +kernel
theorem dL_law_35 : decode cL_law 35 = .ok (.iaload, 1) := by decide +kernel
theorem dL_law_36 : decode cL_law 36 = .ok (.bipush 15, 2) := by decide +kernel
theorem dL_law_38 : decode cL_law 38 = .ok (.iand, 1) := by decide +kernel
theorem dL_law_39 : decode cL_law 39 = .ok (.tableswitch 626 0 10 #[57, 105, 130, 186, 234, 298, 354, 410, 478, 534, 590], 57) := by decide +kernel
theorem dL_law_96 : decode cL_law 96 = .ok (.aload_n 1, 1) := by decide +kernel
theorem dL_law_97 : decode cL_law 97 = .ok (.aload_n 0, 1) := by decide +kernel
theorem dL_law_98 : decode cL_law 98 = .ok (.iload 4, 2) := by decide +kernel
theorem dL_law_100 : decode cL_law 100 = .ok (.iconst 1, 1) := by decide +kernel
theorem dL_law_101 : decode cL_law 101 = .ok (.iadd, 1) := by decide +kernel
theorem dL_law_102 : decode cL_law 102 = .ok (.iaload, 1) := by decide +kernel
theorem dL_law_103 : decode cL_law 103 = .ok (.aload_n 0, 1) := by decide +kernel
theorem dL_law_104 : decode cL_law 104 = .ok (.iload 4, 2) := by decide +kernel
theorem dL_law_106 : decode cL_law 106 = .ok (.iconst 2, 1) := by decide +kernel
theorem dL_law_107 : decode cL_law 107 = .ok (.iadd, 1) := by decide +kernel
theorem dL_law_108 : decode cL_law 108 = .ok (.iaload, 1) := by decide +kernel
theorem dL_law_109 : decode cL_law 109 = .ok (.invokestatic 56, 3) := by decide +kernel
theorem dL_law_112 : decode cL_law 112 = .ok (.istore 5, 2) := by decide +kernel
theorem dL_law_114 : decode cL_law 114 = .ok (.aload_n 2, 1) := by decide +kernel
theorem dL_law_115 : decode cL_law 115 = .ok (.aload_n 0, 1) := by decide +kernel
theorem dL_law_116 : decode cL_law 116 = .ok (.iload 4, 2) := by decide +kernel
theorem dL_law_118 : decode cL_law 118 = .ok (.iconst 1, 1) := by decide +kernel
theorem dL_law_119 : decode cL_law 119 = .ok (.iadd, 1) := by decide +kernel
theorem dL_law_120 : decode cL_law 120 = .ok (.iaload, 1) := by decide +kernel
theorem dL_law_121 : decode cL_law 121 = .ok (.aload_n 0, 1) := by decide +kernel
theorem dL_law_122 : decode cL_law 122 = .ok (.iload 4, 2) := by decide +kernel
theorem dL_law_124 : decode cL_law 124 = .ok (.iconst 2, 1) := by decide +kernel
theorem dL_law_125 : decode cL_law 125 = .ok (.iadd, 1) := by decide +kernel
theorem dL_law_126 : decode cL_law 126 = .ok (.iaload, 1) := by decide +kernel
theorem dL_law_127 : decode cL_law 127 = .ok (.invokevirtual 61, 3) := by decide +kernel
theorem dL_law_130 : decode cL_law 130 = .ok (.aload_n 2, 1) := by decide +kernel
theorem dL_law_131 : decode cL_law 131 = .ok (.invokevirtual 62, 3) := by decide +kernel
theorem dL_law_134 : decode cL_law 134 = .ok (.iload 5, 2) := by decide +kernel
theorem dL_law_136 : decode cL_law 136 = .ok (.if_icmp .eq 5, 3) := by decide +kernel
theorem dL_law_139 : decode cL_law 139 = .ok (.iconst 0, 1) := by decide +kernel
theorem dL_law_140 : decode cL_law 140 = .ok (.ireturn, 1) := by decide +kernel
theorem dL_law_141 : decode cL_law 141 = .ok (.goto 524, 3) := by decide +kernel
theorem dL_law_144 : decode cL_law 144 = .ok (.aload_n 1, 1) := by decide +kernel
theorem dL_law_145 : decode cL_law 145 = .ok (.aload_n 0, 1) := by decide +kernel
theorem dL_law_146 : decode cL_law 146 = .ok (.iload 4, 2) := by decide +kernel
theorem dL_law_148 : decode cL_law 148 = .ok (.iconst 1, 1) := by decide +kernel
theorem dL_law_149 : decode cL_law 149 = .ok (.iadd, 1) := by decide +kernel
theorem dL_law_150 : decode cL_law 150 = .ok (.iaload, 1) := by decide +kernel
theorem dL_law_151 : decode cL_law 151 = .ok (.invokevirtual 66, 3) := by decide +kernel
theorem dL_law_154 : decode cL_law 154 = .ok (.aload_n 2, 1) := by decide +kernel
theorem dL_law_155 : decode cL_law 155 = .ok (.aload_n 0, 1) := by decide +kernel
theorem dL_law_156 : decode cL_law 156 = .ok (.iload 4, 2) := by decide +kernel
theorem dL_law_158 : decode cL_law 158 = .ok (.iconst 1, 1) := by decide +kernel
theorem dL_law_159 : decode cL_law 159 = .ok (.iadd, 1) := by decide +kernel
theorem dL_law_160 : decode cL_law 160 = .ok (.iaload, 1) := by decide +kernel
theorem dL_law_161 : decode cL_law 161 = .ok (.invokevirtual 69, 3) := by decide +kernel
theorem dL_law_164 : decode cL_law 164 = .ok (.if_icmp .eq 501, 3) := by decide +kernel
theorem dL_law_167 : decode cL_law 167 = .ok (.iconst 0, 1) := by decide +kernel
theorem dL_law_168 : decode cL_law 168 = .ok (.ireturn, 1) := by decide +kernel
theorem dL_law_169 : decode cL_law 169 = .ok (.aload_n 1, 1) := by decide +kernel
theorem dL_law_170 : decode cL_law 170 = .ok (.aload_n 0, 1) := by decide +kernel
theorem dL_law_171 : decode cL_law 171 = .ok (.iload 4, 2) := by decide +kernel
theorem dL_law_173 : decode cL_law 173 = .ok (.iconst 1, 1) := by decide +kernel
theorem dL_law_174 : decode cL_law 174 = .ok (.iadd, 1) := by decide +kernel
theorem dL_law_175 : decode cL_law 175 = .ok (.iaload, 1) := by decide +kernel
theorem dL_law_176 : decode cL_law 176 = .ok (.aload_n 3, 1) := by decide +kernel
theorem dL_law_177 : decode cL_law 177 = .ok (.invokestatic 70, 3) := by decide +kernel
theorem dL_law_180 : decode cL_law 180 = .ok (.istore 5, 2) := by decide +kernel
theorem dL_law_182 : decode cL_law 182 = .ok (.aload_n 2, 1) := by decide +kernel
theorem dL_law_183 : decode cL_law 183 = .ok (.aload_n 0, 1) := by decide +kernel
theorem dL_law_184 : decode cL_law 184 = .ok (.iload 4, 2) := by decide +kernel
theorem dL_law_186 : decode cL_law 186 = .ok (.iconst 1, 1) := by decide +kernel
theorem dL_law_187 : decode cL_law 187 = .ok (.iadd, 1) := by decide +kernel
theorem dL_law_188 : decode cL_law 188 = .ok (.iaload, 1) := by decide +kernel
theorem dL_law_189 : decode cL_law 189 = .ok (.invokevirtual 73, 3) := by decide +kernel
theorem dL_law_192 : decode cL_law 192 = .ok (.istore 6, 2) := by decide +kernel
theorem dL_law_194 : decode cL_law 194 = .ok (.aload_n 2, 1) := by decide +kernel
theorem dL_law_195 : decode cL_law 195 = .ok (.invokevirtual 62, 3) := by decide +kernel
theorem dL_law_198 : decode cL_law 198 = .ok (.iload 5, 2) := by decide +kernel
theorem dL_law_200 : decode cL_law 200 = .ok (.if_icmp .eq 5, 3) := by decide +kernel
theorem dL_law_203 : decode cL_law 203 = .ok (.iconst 0, 1) := by decide +kernel
theorem dL_law_204 : decode cL_law 204 = .ok (.ireturn, 1) := by decide +kernel
theorem dL_law_205 : decode cL_law 205 = .ok (.iload 5, 2) := by decide +kernel
theorem dL_law_207 : decode cL_law 207 = .ok (.ifCond .ne 15, 3) := by decide +kernel
theorem dL_law_210 : decode cL_law 210 = .ok (.aload_n 3, 1) := by decide +kernel
theorem dL_law_211 : decode cL_law 211 = .ok (.iconst 0, 1) := by decide +kernel
theorem dL_law_212 : decode cL_law 212 = .ok (.laload, 1) := by decide +kernel
theorem dL_law_213 : decode cL_law 213 = .ok (.iload 6, 2) := by decide +kernel
theorem dL_law_215 : decode cL_law 215 = .ok (.i2l, 1) := by decide +kernel
theorem dL_law_216 : decode cL_law 216 = .ok (.lcmp, 1) := by decide +kernel
theorem dL_law_217 : decode cL_law 217 = .ok (.ifCond .eq 5, 3) := by decide +kernel
theorem dL_law_220 : decode cL_law 220 = .ok (.iconst 0, 1) := by decide +kernel
theorem dL_law_221 : decode cL_law 221 = .ok (.ireturn, 1) := by decide +kernel
theorem dL_law_222 : decode cL_law 222 = .ok (.goto 443, 3) := by decide +kernel
theorem dL_law_225 : decode cL_law 225 = .ok (.aload_n 1, 1) := by decide +kernel
theorem dL_law_226 : decode cL_law 226 = .ok (.aload_n 0, 1) := by decide +kernel
theorem dL_law_227 : decode cL_law 227 = .ok (.iload 4, 2) := by decide +kernel
theorem dL_law_229 : decode cL_law 229 = .ok (.iconst 1, 1) := by decide +kernel
theorem dL_law_230 : decode cL_law 230 = .ok (.iadd, 1) := by decide +kernel
theorem dL_law_231 : decode cL_law 231 = .ok (.iaload, 1) := by decide +kernel
theorem dL_law_232 : decode cL_law 232 = .ok (.aload_n 0, 1) := by decide +kernel
theorem dL_law_233 : decode cL_law 233 = .ok (.iload 4, 2) := by decide +kernel
theorem dL_law_235 : decode cL_law 235 = .ok (.iconst 2, 1) := by decide +kernel
theorem dL_law_236 : decode cL_law 236 = .ok (.iadd, 1) := by decide +kernel
theorem dL_law_237 : decode cL_law 237 = .ok (.iaload, 1) := by decide +kernel
theorem dL_law_238 : decode cL_law 238 = .ok (.invokestatic 74, 3) := by decide +kernel
theorem dL_law_241 : decode cL_law 241 = .ok (.istore 5, 2) := by decide +kernel
theorem dL_law_243 : decode cL_law 243 = .ok (.aload_n 2, 1) := by decide +kernel
theorem dL_law_244 : decode cL_law 244 = .ok (.aload_n 0, 1) := by decide +kernel
theorem dL_law_245 : decode cL_law 245 = .ok (.iload 4, 2) := by decide +kernel
theorem dL_law_247 : decode cL_law 247 = .ok (.iconst 1, 1) := by decide +kernel
theorem dL_law_248 : decode cL_law 248 = .ok (.iadd, 1) := by decide +kernel
theorem dL_law_249 : decode cL_law 249 = .ok (.iaload, 1) := by decide +kernel
theorem dL_law_250 : decode cL_law 250 = .ok (.aload_n 0, 1) := by decide +kernel
theorem dL_law_251 : decode cL_law 251 = .ok (.iload 4, 2) := by decide +kernel
theorem dL_law_253 : decode cL_law 253 = .ok (.iconst 2, 1) := by decide +kernel
theorem dL_law_254 : decode cL_law 254 = .ok (.iadd, 1) := by decide +kernel
theorem dL_law_255 : decode cL_law 255 = .ok (.iaload, 1) := by decide +kernel
theorem dL_law_256 : decode cL_law 256 = .ok (.invokevirtual 76, 3) := by decide +kernel
theorem dL_law_259 : decode cL_law 259 = .ok (.aload_n 2, 1) := by decide +kernel
theorem dL_law_260 : decode cL_law 260 = .ok (.invokevirtual 62, 3) := by decide +kernel
theorem dL_law_263 : decode cL_law 263 = .ok (.iload 5, 2) := by decide +kernel
theorem dL_law_265 : decode cL_law 265 = .ok (.if_icmp .eq 5, 3) := by decide +kernel
theorem dL_law_268 : decode cL_law 268 = .ok (.iconst 0, 1) := by decide +kernel
theorem dL_law_269 : decode cL_law 269 = .ok (.ireturn, 1) := by decide +kernel
theorem dL_law_270 : decode cL_law 270 = .ok (.goto 395, 3) := by decide +kernel
theorem dL_law_273 : decode cL_law 273 = .ok (.aload_n 1, 1) := by decide +kernel
theorem dL_law_274 : decode cL_law 274 = .ok (.aload_n 0, 1) := by decide +kernel
theorem dL_law_275 : decode cL_law 275 = .ok (.iload 4, 2) := by decide +kernel
theorem dL_law_277 : decode cL_law 277 = .ok (.iconst 1, 1) := by decide +kernel
theorem dL_law_278 : decode cL_law 278 = .ok (.iadd, 1) := by decide +kernel
theorem dL_law_279 : decode cL_law 279 = .ok (.iaload, 1) := by decide +kernel
theorem dL_law_280 : decode cL_law 280 = .ok (.aload_n 0, 1) := by decide +kernel
theorem dL_law_281 : decode cL_law 281 = .ok (.iload 4, 2) := by decide +kernel
theorem dL_law_283 : decode cL_law 283 = .ok (.iconst 2, 1) := by decide +kernel
theorem dL_law_284 : decode cL_law 284 = .ok (.iadd, 1) := by decide +kernel
theorem dL_law_285 : decode cL_law 285 = .ok (.iaload, 1) := by decide +kernel
theorem dL_law_286 : decode cL_law 286 = .ok (.ifCond .eq 7, 3) := by decide +kernel
theorem dL_law_289 : decode cL_law 289 = .ok (.iconst 1, 1) := by decide +kernel
theorem dL_law_290 : decode cL_law 290 = .ok (.goto 4, 3) := by decide +kernel
theorem dL_law_293 : decode cL_law 293 = .ok (.iconst 0, 1) := by decide +kernel
theorem dL_law_294 : decode cL_law 294 = .ok (.invokestatic 77, 3) := by decide +kernel
theorem dL_law_297 : decode cL_law 297 = .ok (.istore 5, 2) := by decide +kernel
theorem dL_law_299 : decode cL_law 299 = .ok (.aload_n 2, 1) := by decide +kernel
theorem dL_law_300 : decode cL_law 300 = .ok (.aload_n 0, 1) := by decide +kernel
theorem dL_law_301 : decode cL_law 301 = .ok (.iload 4, 2) := by decide +kernel
theorem dL_law_303 : decode cL_law 303 = .ok (.iconst 1, 1) := by decide +kernel
theorem dL_law_304 : decode cL_law 304 = .ok (.iadd, 1) := by decide +kernel
theorem dL_law_305 : decode cL_law 305 = .ok (.iaload, 1) := by decide +kernel
theorem dL_law_306 : decode cL_law 306 = .ok (.aload_n 0, 1) := by decide +kernel
theorem dL_law_307 : decode cL_law 307 = .ok (.iload 4, 2) := by decide +kernel
theorem dL_law_309 : decode cL_law 309 = .ok (.iconst 2, 1) := by decide +kernel
theorem dL_law_310 : decode cL_law 310 = .ok (.iadd, 1) := by decide +kernel
theorem dL_law_311 : decode cL_law 311 = .ok (.iaload, 1) := by decide +kernel
theorem dL_law_312 : decode cL_law 312 = .ok (.ifCond .eq 7, 3) := by decide +kernel
theorem dL_law_315 : decode cL_law 315 = .ok (.iconst 1, 1) := by decide +kernel
theorem dL_law_316 : decode cL_law 316 = .ok (.goto 4, 3) := by decide +kernel
theorem dL_law_319 : decode cL_law 319 = .ok (.iconst 0, 1) := by decide +kernel
theorem dL_law_320 : decode cL_law 320 = .ok (.invokevirtual 80, 3) := by decide +kernel
theorem dL_law_323 : decode cL_law 323 = .ok (.aload_n 2, 1) := by decide +kernel
theorem dL_law_324 : decode cL_law 324 = .ok (.invokevirtual 62, 3) := by decide +kernel
theorem dL_law_327 : decode cL_law 327 = .ok (.iload 5, 2) := by decide +kernel
theorem dL_law_329 : decode cL_law 329 = .ok (.if_icmp .eq 5, 3) := by decide +kernel
theorem dL_law_332 : decode cL_law 332 = .ok (.iconst 0, 1) := by decide +kernel
theorem dL_law_333 : decode cL_law 333 = .ok (.ireturn, 1) := by decide +kernel
theorem dL_law_334 : decode cL_law 334 = .ok (.goto 331, 3) := by decide +kernel
theorem dL_law_337 : decode cL_law 337 = .ok (.aload_n 1, 1) := by decide +kernel
theorem dL_law_338 : decode cL_law 338 = .ok (.aload_n 0, 1) := by decide +kernel
theorem dL_law_339 : decode cL_law 339 = .ok (.iload 4, 2) := by decide +kernel
theorem dL_law_341 : decode cL_law 341 = .ok (.iconst 1, 1) := by decide +kernel
theorem dL_law_342 : decode cL_law 342 = .ok (.iadd, 1) := by decide +kernel
theorem dL_law_343 : decode cL_law 343 = .ok (.iaload, 1) := by decide +kernel
theorem dL_law_344 : decode cL_law 344 = .ok (.aload_n 3, 1) := by decide +kernel
theorem dL_law_345 : decode cL_law 345 = .ok (.invokestatic 81, 3) := by decide +kernel
theorem dL_law_348 : decode cL_law 348 = .ok (.istore 5, 2) := by decide +kernel
theorem dL_law_350 : decode cL_law 350 = .ok (.aload_n 2, 1) := by decide +kernel
theorem dL_law_351 : decode cL_law 351 = .ok (.aload_n 0, 1) := by decide +kernel
theorem dL_law_352 : decode cL_law 352 = .ok (.iload 4, 2) := by decide +kernel
theorem dL_law_354 : decode cL_law 354 = .ok (.iconst 1, 1) := by decide +kernel
theorem dL_law_355 : decode cL_law 355 = .ok (.iadd, 1) := by decide +kernel
theorem dL_law_356 : decode cL_law 356 = .ok (.iaload, 1) := by decide +kernel
theorem dL_law_357 : decode cL_law 357 = .ok (.invokevirtual 83, 3) := by decide +kernel
theorem dL_law_360 : decode cL_law 360 = .ok (.istore 6, 2) := by decide +kernel
theorem dL_law_362 : decode cL_law 362 = .ok (.aload_n 2, 1) := by decide +kernel
theorem dL_law_363 : decode cL_law 363 = .ok (.invokevirtual 62, 3) := by decide +kernel
theorem dL_law_366 : decode cL_law 366 = .ok (.iload 5, 2) := by decide +kernel
theorem dL_law_368 : decode cL_law 368 = .ok (.if_icmp .eq 5, 3) := by decide +kernel
theorem dL_law_371 : decode cL_law 371 = .ok (.iconst 0, 1) := by decide +kernel
theorem dL_law_372 : decode cL_law 372 = .ok (.ireturn, 1) := by decide +kernel
theorem dL_law_373 : decode cL_law 373 = .ok (.iload 5, 2) := by decide +kernel
theorem dL_law_375 : decode cL_law 375 = .ok (.ifCond .ne 15, 3) := by decide +kernel
theorem dL_law_378 : decode cL_law 378 = .ok (.aload_n 3, 1) := by decide +kernel
theorem dL_law_379 : decode cL_law 379 = .ok (.iconst 0, 1) := by decide +kernel
theorem dL_law_380 : decode cL_law 380 = .ok (.laload, 1) := by decide +kernel
theorem dL_law_381 : decode cL_law 381 = .ok (.iload 6, 2) := by decide +kernel
theorem dL_law_383 : decode cL_law 383 = .ok (.i2l, 1) := by decide +kernel
theorem dL_law_384 : decode cL_law 384 = .ok (.lcmp, 1) := by decide +kernel
theorem dL_law_385 : decode cL_law 385 = .ok (.ifCond .eq 5, 3) := by decide +kernel
theorem dL_law_388 : decode cL_law 388 = .ok (.iconst 0, 1) := by decide +kernel
theorem dL_law_389 : decode cL_law 389 = .ok (.ireturn, 1) := by decide +kernel
theorem dL_law_390 : decode cL_law 390 = .ok (.goto 275, 3) := by decide +kernel
theorem dL_law_393 : decode cL_law 393 = .ok (.aload_n 1, 1) := by decide +kernel
theorem dL_law_394 : decode cL_law 394 = .ok (.aload_n 0, 1) := by decide +kernel
theorem dL_law_395 : decode cL_law 395 = .ok (.iload 4, 2) := by decide +kernel
theorem dL_law_397 : decode cL_law 397 = .ok (.iconst 1, 1) := by decide +kernel
theorem dL_law_398 : decode cL_law 398 = .ok (.iadd, 1) := by decide +kernel
theorem dL_law_399 : decode cL_law 399 = .ok (.iaload, 1) := by decide +kernel
theorem dL_law_400 : decode cL_law 400 = .ok (.aload_n 3, 1) := by decide +kernel
theorem dL_law_401 : decode cL_law 401 = .ok (.invokestatic 84, 3) := by decide +kernel
theorem dL_law_404 : decode cL_law 404 = .ok (.istore 5, 2) := by decide +kernel
theorem dL_law_406 : decode cL_law 406 = .ok (.aload_n 2, 1) := by decide +kernel
theorem dL_law_407 : decode cL_law 407 = .ok (.aload_n 0, 1) := by decide +kernel
theorem dL_law_408 : decode cL_law 408 = .ok (.iload 4, 2) := by decide +kernel
theorem dL_law_410 : decode cL_law 410 = .ok (.iconst 1, 1) := by decide +kernel
theorem dL_law_411 : decode cL_law 411 = .ok (.iadd, 1) := by decide +kernel
theorem dL_law_412 : decode cL_law 412 = .ok (.iaload, 1) := by decide +kernel
theorem dL_law_413 : decode cL_law 413 = .ok (.invokevirtual 86, 3) := by decide +kernel
theorem dL_law_416 : decode cL_law 416 = .ok (.istore 6, 2) := by decide +kernel
theorem dL_law_418 : decode cL_law 418 = .ok (.aload_n 2, 1) := by decide +kernel
theorem dL_law_419 : decode cL_law 419 = .ok (.invokevirtual 62, 3) := by decide +kernel
theorem dL_law_422 : decode cL_law 422 = .ok (.iload 5, 2) := by decide +kernel
theorem dL_law_424 : decode cL_law 424 = .ok (.if_icmp .eq 5, 3) := by decide +kernel
theorem dL_law_427 : decode cL_law 427 = .ok (.iconst 0, 1) := by decide +kernel
theorem dL_law_428 : decode cL_law 428 = .ok (.ireturn, 1) := by decide +kernel
theorem dL_law_429 : decode cL_law 429 = .ok (.iload 5, 2) := by decide +kernel
theorem dL_law_431 : decode cL_law 431 = .ok (.ifCond .ne 15, 3) := by decide +kernel
theorem dL_law_434 : decode cL_law 434 = .ok (.aload_n 3, 1) := by decide +kernel
theorem dL_law_435 : decode cL_law 435 = .ok (.iconst 0, 1) := by decide +kernel
theorem dL_law_436 : decode cL_law 436 = .ok (.laload, 1) := by decide +kernel
theorem dL_law_437 : decode cL_law 437 = .ok (.iload 6, 2) := by decide +kernel
theorem dL_law_439 : decode cL_law 439 = .ok (.i2l, 1) := by decide +kernel
theorem dL_law_440 : decode cL_law 440 = .ok (.lcmp, 1) := by decide +kernel
theorem dL_law_441 : decode cL_law 441 = .ok (.ifCond .eq 5, 3) := by decide +kernel
theorem dL_law_444 : decode cL_law 444 = .ok (.iconst 0, 1) := by decide +kernel
theorem dL_law_445 : decode cL_law 445 = .ok (.ireturn, 1) := by decide +kernel
theorem dL_law_446 : decode cL_law 446 = .ok (.goto 219, 3) := by decide +kernel
theorem dL_law_449 : decode cL_law 449 = .ok (.aload_n 1, 1) := by decide +kernel
theorem dL_law_450 : decode cL_law 450 = .ok (.aload_n 0, 1) := by decide +kernel
theorem dL_law_451 : decode cL_law 451 = .ok (.iload 4, 2) := by decide +kernel
theorem dL_law_453 : decode cL_law 453 = .ok (.iconst 1, 1) := by decide +kernel
theorem dL_law_454 : decode cL_law 454 = .ok (.iadd, 1) := by decide +kernel
theorem dL_law_455 : decode cL_law 455 = .ok (.iaload, 1) := by decide +kernel
theorem dL_law_456 : decode cL_law 456 = .ok (.aload_n 0, 1) := by decide +kernel
theorem dL_law_457 : decode cL_law 457 = .ok (.iload 4, 2) := by decide +kernel
theorem dL_law_459 : decode cL_law 459 = .ok (.iconst 2, 1) := by decide +kernel
theorem dL_law_460 : decode cL_law 460 = .ok (.iadd, 1) := by decide +kernel
theorem dL_law_461 : decode cL_law 461 = .ok (.iaload, 1) := by decide +kernel
theorem dL_law_462 : decode cL_law 462 = .ok (.aload_n 3, 1) := by decide +kernel
theorem dL_law_463 : decode cL_law 463 = .ok (.invokestatic 87, 3) := by decide +kernel
theorem dL_law_466 : decode cL_law 466 = .ok (.istore 5, 2) := by decide +kernel
theorem dL_law_468 : decode cL_law 468 = .ok (.aload_n 2, 1) := by decide +kernel
theorem dL_law_469 : decode cL_law 469 = .ok (.aload_n 0, 1) := by decide +kernel
theorem dL_law_470 : decode cL_law 470 = .ok (.iload 4, 2) := by decide +kernel
theorem dL_law_472 : decode cL_law 472 = .ok (.iconst 1, 1) := by decide +kernel
theorem dL_law_473 : decode cL_law 473 = .ok (.iadd, 1) := by decide +kernel
theorem dL_law_474 : decode cL_law 474 = .ok (.iaload, 1) := by decide +kernel
theorem dL_law_475 : decode cL_law 475 = .ok (.aload_n 0, 1) := by decide +kernel
theorem dL_law_476 : decode cL_law 476 = .ok (.iload 4, 2) := by decide +kernel
theorem dL_law_478 : decode cL_law 478 = .ok (.iconst 2, 1) := by decide +kernel
theorem dL_law_479 : decode cL_law 479 = .ok (.iadd, 1) := by decide +kernel
theorem dL_law_480 : decode cL_law 480 = .ok (.iaload, 1) := by decide +kernel
theorem dL_law_481 : decode cL_law 481 = .ok (.invokevirtual 90, 3) := by decide +kernel
theorem dL_law_484 : decode cL_law 484 = .ok (.istore 6, 2) := by decide +kernel
theorem dL_law_486 : decode cL_law 486 = .ok (.aload_n 2, 1) := by decide +kernel
theorem dL_law_487 : decode cL_law 487 = .ok (.invokevirtual 62, 3) := by decide +kernel
theorem dL_law_490 : decode cL_law 490 = .ok (.iload 5, 2) := by decide +kernel
theorem dL_law_492 : decode cL_law 492 = .ok (.if_icmp .eq 5, 3) := by decide +kernel
theorem dL_law_495 : decode cL_law 495 = .ok (.iconst 0, 1) := by decide +kernel
theorem dL_law_496 : decode cL_law 496 = .ok (.ireturn, 1) := by decide +kernel
theorem dL_law_497 : decode cL_law 497 = .ok (.iload 5, 2) := by decide +kernel
theorem dL_law_499 : decode cL_law 499 = .ok (.ifCond .ne 15, 3) := by decide +kernel
theorem dL_law_502 : decode cL_law 502 = .ok (.aload_n 3, 1) := by decide +kernel
theorem dL_law_503 : decode cL_law 503 = .ok (.iconst 0, 1) := by decide +kernel
theorem dL_law_504 : decode cL_law 504 = .ok (.laload, 1) := by decide +kernel
theorem dL_law_505 : decode cL_law 505 = .ok (.iload 6, 2) := by decide +kernel
theorem dL_law_507 : decode cL_law 507 = .ok (.i2l, 1) := by decide +kernel
theorem dL_law_508 : decode cL_law 508 = .ok (.lcmp, 1) := by decide +kernel
theorem dL_law_509 : decode cL_law 509 = .ok (.ifCond .eq 5, 3) := by decide +kernel
theorem dL_law_512 : decode cL_law 512 = .ok (.iconst 0, 1) := by decide +kernel
theorem dL_law_513 : decode cL_law 513 = .ok (.ireturn, 1) := by decide +kernel
theorem dL_law_514 : decode cL_law 514 = .ok (.goto 151, 3) := by decide +kernel
theorem dL_law_517 : decode cL_law 517 = .ok (.aload_n 1, 1) := by decide +kernel
theorem dL_law_518 : decode cL_law 518 = .ok (.aload_n 0, 1) := by decide +kernel
theorem dL_law_519 : decode cL_law 519 = .ok (.iload 4, 2) := by decide +kernel
theorem dL_law_521 : decode cL_law 521 = .ok (.iconst 1, 1) := by decide +kernel
theorem dL_law_522 : decode cL_law 522 = .ok (.iadd, 1) := by decide +kernel
theorem dL_law_523 : decode cL_law 523 = .ok (.iaload, 1) := by decide +kernel
theorem dL_law_524 : decode cL_law 524 = .ok (.aload_n 3, 1) := by decide +kernel
theorem dL_law_525 : decode cL_law 525 = .ok (.invokestatic 91, 3) := by decide +kernel
theorem dL_law_528 : decode cL_law 528 = .ok (.istore 5, 2) := by decide +kernel
theorem dL_law_530 : decode cL_law 530 = .ok (.aload_n 2, 1) := by decide +kernel
theorem dL_law_531 : decode cL_law 531 = .ok (.aload_n 0, 1) := by decide +kernel
theorem dL_law_532 : decode cL_law 532 = .ok (.iload 4, 2) := by decide +kernel
theorem dL_law_534 : decode cL_law 534 = .ok (.iconst 1, 1) := by decide +kernel
theorem dL_law_535 : decode cL_law 535 = .ok (.iadd, 1) := by decide +kernel
theorem dL_law_536 : decode cL_law 536 = .ok (.iaload, 1) := by decide +kernel
theorem dL_law_537 : decode cL_law 537 = .ok (.invokevirtual 93, 3) := by decide +kernel
theorem dL_law_540 : decode cL_law 540 = .ok (.istore 6, 2) := by decide +kernel
theorem dL_law_542 : decode cL_law 542 = .ok (.aload_n 2, 1) := by decide +kernel
theorem dL_law_543 : decode cL_law 543 = .ok (.invokevirtual 62, 3) := by decide +kernel
theorem dL_law_546 : decode cL_law 546 = .ok (.iload 5, 2) := by decide +kernel
theorem dL_law_548 : decode cL_law 548 = .ok (.if_icmp .eq 5, 3) := by decide +kernel
theorem dL_law_551 : decode cL_law 551 = .ok (.iconst 0, 1) := by decide +kernel
theorem dL_law_552 : decode cL_law 552 = .ok (.ireturn, 1) := by decide +kernel
theorem dL_law_553 : decode cL_law 553 = .ok (.iload 5, 2) := by decide +kernel
theorem dL_law_555 : decode cL_law 555 = .ok (.ifCond .ne 15, 3) := by decide +kernel
theorem dL_law_558 : decode cL_law 558 = .ok (.aload_n 3, 1) := by decide +kernel
theorem dL_law_559 : decode cL_law 559 = .ok (.iconst 0, 1) := by decide +kernel
theorem dL_law_560 : decode cL_law 560 = .ok (.laload, 1) := by decide +kernel
theorem dL_law_561 : decode cL_law 561 = .ok (.iload 6, 2) := by decide +kernel
theorem dL_law_563 : decode cL_law 563 = .ok (.i2l, 1) := by decide +kernel
theorem dL_law_564 : decode cL_law 564 = .ok (.lcmp, 1) := by decide +kernel
theorem dL_law_565 : decode cL_law 565 = .ok (.ifCond .eq 5, 3) := by decide +kernel
theorem dL_law_568 : decode cL_law 568 = .ok (.iconst 0, 1) := by decide +kernel
theorem dL_law_569 : decode cL_law 569 = .ok (.ireturn, 1) := by decide +kernel
theorem dL_law_570 : decode cL_law 570 = .ok (.goto 95, 3) := by decide +kernel
theorem dL_law_573 : decode cL_law 573 = .ok (.aload_n 1, 1) := by decide +kernel
theorem dL_law_574 : decode cL_law 574 = .ok (.aload_n 0, 1) := by decide +kernel
theorem dL_law_575 : decode cL_law 575 = .ok (.iload 4, 2) := by decide +kernel
theorem dL_law_577 : decode cL_law 577 = .ok (.iconst 1, 1) := by decide +kernel
theorem dL_law_578 : decode cL_law 578 = .ok (.iadd, 1) := by decide +kernel
theorem dL_law_579 : decode cL_law 579 = .ok (.iaload, 1) := by decide +kernel
theorem dL_law_580 : decode cL_law 580 = .ok (.aload_n 3, 1) := by decide +kernel
theorem dL_law_581 : decode cL_law 581 = .ok (.invokestatic 94, 3) := by decide +kernel
theorem dL_law_584 : decode cL_law 584 = .ok (.istore 5, 2) := by decide +kernel
theorem dL_law_586 : decode cL_law 586 = .ok (.aload_n 2, 1) := by decide +kernel
theorem dL_law_587 : decode cL_law 587 = .ok (.aload_n 0, 1) := by decide +kernel
theorem dL_law_588 : decode cL_law 588 = .ok (.iload 4, 2) := by decide +kernel
theorem dL_law_590 : decode cL_law 590 = .ok (.iconst 1, 1) := by decide +kernel
theorem dL_law_591 : decode cL_law 591 = .ok (.iadd, 1) := by decide +kernel
theorem dL_law_592 : decode cL_law 592 = .ok (.iaload, 1) := by decide +kernel
theorem dL_law_593 : decode cL_law 593 = .ok (.invokevirtual 96, 3) := by decide +kernel
theorem dL_law_596 : decode cL_law 596 = .ok (.istore 6, 2) := by decide +kernel
theorem dL_law_598 : decode cL_law 598 = .ok (.aload_n 2, 1) := by decide +kernel
theorem dL_law_599 : decode cL_law 599 = .ok (.invokevirtual 62, 3) := by decide +kernel
theorem dL_law_602 : decode cL_law 602 = .ok (.iload 5, 2) := by decide +kernel
theorem dL_law_604 : decode cL_law 604 = .ok (.if_icmp .eq 5, 3) := by decide +kernel
theorem dL_law_607 : decode cL_law 607 = .ok (.iconst 0, 1) := by decide +kernel
theorem dL_law_608 : decode cL_law 608 = .ok (.ireturn, 1) := by decide +kernel
theorem dL_law_609 : decode cL_law 609 = .ok (.iload 5, 2) := by decide +kernel
theorem dL_law_611 : decode cL_law 611 = .ok (.ifCond .ne 15, 3) := by decide +kernel
theorem dL_law_614 : decode cL_law 614 = .ok (.aload_n 3, 1) := by decide +kernel
theorem dL_law_615 : decode cL_law 615 = .ok (.iconst 0, 1) := by decide +kernel
theorem dL_law_616 : decode cL_law 616 = .ok (.laload, 1) := by decide +kernel
theorem dL_law_617 : decode cL_law 617 = .ok (.iload 6, 2) := by decide +kernel
theorem dL_law_619 : decode cL_law 619 = .ok (.i2l, 1) := by decide +kernel
theorem dL_law_620 : decode cL_law 620 = .ok (.lcmp, 1) := by decide +kernel
theorem dL_law_621 : decode cL_law 621 = .ok (.ifCond .eq 5, 3) := by decide +kernel
theorem dL_law_624 : decode cL_law 624 = .ok (.iconst 0, 1) := by decide +kernel
theorem dL_law_625 : decode cL_law 625 = .ok (.ireturn, 1) := by decide +kernel
theorem dL_law_626 : decode cL_law 626 = .ok (.goto 39, 3) := by decide +kernel
theorem dL_law_629 : decode cL_law 629 = .ok (.aload_n 1, 1) := by decide +kernel
theorem dL_law_630 : decode cL_law 630 = .ok (.aload_n 0, 1) := by decide +kernel
theorem dL_law_631 : decode cL_law 631 = .ok (.iload 4, 2) := by decide +kernel
theorem dL_law_633 : decode cL_law 633 = .ok (.iconst 1, 1) := by decide +kernel
theorem dL_law_634 : decode cL_law 634 = .ok (.iadd, 1) := by decide +kernel
theorem dL_law_635 : decode cL_law 635 = .ok (.iaload, 1) := by decide +kernel
theorem dL_law_636 : decode cL_law 636 = .ok (.invokestatic 97, 3) := by decide +kernel
theorem dL_law_639 : decode cL_law 639 = .ok (.istore 5, 2) := by decide +kernel
theorem dL_law_641 : decode cL_law 641 = .ok (.aload_n 2, 1) := by decide +kernel
theorem dL_law_642 : decode cL_law 642 = .ok (.aload_n 0, 1) := by decide +kernel
theorem dL_law_643 : decode cL_law 643 = .ok (.iload 4, 2) := by decide +kernel
theorem dL_law_645 : decode cL_law 645 = .ok (.iconst 1, 1) := by decide +kernel
theorem dL_law_646 : decode cL_law 646 = .ok (.iadd, 1) := by decide +kernel
theorem dL_law_647 : decode cL_law 647 = .ok (.iaload, 1) := by decide +kernel
theorem dL_law_648 : decode cL_law 648 = .ok (.invokevirtual 100, 3) := by decide +kernel
theorem dL_law_651 : decode cL_law 651 = .ok (.aload_n 2, 1) := by decide +kernel
theorem dL_law_652 : decode cL_law 652 = .ok (.invokevirtual 62, 3) := by decide +kernel
theorem dL_law_655 : decode cL_law 655 = .ok (.iload 5, 2) := by decide +kernel
theorem dL_law_657 : decode cL_law 657 = .ok (.if_icmp .eq 5, 3) := by decide +kernel
theorem dL_law_660 : decode cL_law 660 = .ok (.iconst 0, 1) := by decide +kernel
theorem dL_law_661 : decode cL_law 661 = .ok (.ireturn, 1) := by decide +kernel
theorem dL_law_662 : decode cL_law 662 = .ok (.goto 3, 3) := by decide +kernel
theorem dL_law_665 : decode cL_law 665 = .ok (.iinc 4 3, 3) := by decide +kernel
theorem dL_law_668 : decode cL_law 668 = .ok (.goto (-645), 3) := by decide +kernel
theorem dL_law_671 : decode cL_law 671 = .ok (.iconst 1, 1) := by decide +kernel
theorem dL_law_672 : decode cL_law 672 = .ok (.ireturn, 1) := by decide +kernel
end
section
/-- the tables' words that hold in every warmer state: every method's contract rests on these, all of them -/
def gtbl : List Cond := lw_tbl.filter goodWord
theorem gt_in : ∀ w ∈ gtbl, w ∈ lw_tbl := fun w h => (List.mem_filter.mp h).1
theorem gt_good : ∀ w ∈ gtbl, (w.onTables && w.keeps) = true ∨ ∃ ty, w = .arrayClass ty := fun w h => good_of_word (List.mem_filter.mp h).2
theorem gt_of (i : Nat) {w : Cond} (h : lw_tbl[i]? = some w) (g : goodWord w = true) : w ∈ gtbl := List.mem_filter.mpr ⟨List.mem_of_getElem? h, g⟩
theorem gt_goodIn {Ts ws : List Cond} (h1 : ∀ w ∈ gtbl, w ∈ Ts) (h2 : ∀ w ∈ ws, w ∈ gtbl) : GoodIn Ts ws := fun w h => ⟨h1 w (h2 w h), gt_good w (h2 w h)⟩
theorem kf_X0_13 : (.fieldLink RX0 13 "VipBoard$Keys" "asked" "I" : Cond) ∈ gtbl := gt_of 136 (by decide +kernel) (by decide +kernel)
theorem kf_X0_9 : (.fieldLink RX0 9 "VipBoard$Keys" "down" "[Z" : Cond) ∈ gtbl := gt_of 135 (by decide +kernel) (by decide +kernel)
theorem kf_X1_13 : (.fieldLink RX1 13 "VipBoard$Language" "stack" "[I" : Cond) ∈ gtbl := gt_of 240 (by decide +kernel) (by decide +kernel)
theorem kf_X1_16 : (.fieldLink RX1 16 "VipBoard$Language" "pc" "I" : Cond) ∈ gtbl := gt_of 243 (by decide +kernel) (by decide +kernel)
theorem kf_X1_20 : (.fieldLink RX1 20 "VipBoard$Language" "memory" "LVipBoard$Memory;" : Cond) ∈ gtbl := gt_of 236 (by decide +kernel) (by decide +kernel)
theorem kf_X1_24 : (.fieldLink RX1 24 "VipBoard$Language" "keys" "LVipBoard$Keys;" : Cond) ∈ gtbl := gt_of 237 (by decide +kernel) (by decide +kernel)
theorem kf_X1_28 : (.fieldLink RX1 28 "VipBoard$Language" "timers" "LVipBoard$Timers;" : Cond) ∈ gtbl := gt_of 238 (by decide +kernel) (by decide +kernel)
theorem kf_X1_32 : (.fieldLink RX1 32 "VipBoard$Language" "depth" "I" : Cond) ∈ gtbl := gt_of 241 (by decide +kernel) (by decide +kernel)
theorem kf_X1_35 : (.fieldLink RX1 35 "VipBoard$Language" "index" "I" : Cond) ∈ gtbl := gt_of 242 (by decide +kernel) (by decide +kernel)
theorem kf_X1_38 : (.fieldLink RX1 38 "VipBoard$Language" "random" "I" : Cond) ∈ gtbl := gt_of 244 (by decide +kernel) (by decide +kernel)
theorem kf_X1_9 : (.fieldLink RX1 9 "VipBoard$Language" "variables" "[I" : Cond) ∈ gtbl := gt_of 239 (by decide +kernel) (by decide +kernel)
theorem kf_X2_9 : (.fieldLink RX2 9 "VipBoard$Memory" "bytes" "[I" : Cond) ∈ gtbl := gt_of 124 (by decide +kernel) (by decide +kernel)
theorem kf_X3_13 : (.fieldLink RX3 13 "VipBoard$Picture" "timers" "LVipBoard$Timers;" : Cond) ∈ gtbl := gt_of 162 (by decide +kernel) (by decide +kernel)
theorem kf_X3_17 : (.fieldLink RX3 17 "VipBoard$Picture" "on" "Z" : Cond) ∈ gtbl := gt_of 164 (by decide +kernel) (by decide +kernel)
theorem kf_X3_21 : (.fieldLink RX3 21 "VipBoard$Picture" "line" "I" : Cond) ∈ gtbl := gt_of 165 (by decide +kernel) (by decide +kernel)
theorem kf_X3_25 : (.fieldLink RX3 25 "VipBoard$Picture" "place" "I" : Cond) ∈ gtbl := gt_of 166 (by decide +kernel) (by decide +kernel)
theorem kf_X3_28 : (.fieldLink RX3 28 "VipBoard$Picture" "frames" "I" : Cond) ∈ gtbl := gt_of 167 (by decide +kernel) (by decide +kernel)
theorem kf_X3_38 : (.fieldLink RX3 38 "VipBoard$Picture" "fetched" "Z" : Cond) ∈ gtbl := gt_of 168 (by decide +kernel) (by decide +kernel)
theorem kf_X3_41 : (.fieldLink RX3 41 "VipBoard$Picture" "interrupted" "Z" : Cond) ∈ gtbl := gt_of 169 (by decide +kernel) (by decide +kernel)
theorem kf_X3_9 : (.fieldLink RX3 9 "VipBoard$Picture" "screen" "[I" : Cond) ∈ gtbl := gt_of 163 (by decide +kernel) (by decide +kernel)
theorem kf_X4_13 : (.fieldLink RX4 13 "VipBoard$Processor" "ie" "I" : Cond) ∈ gtbl := gt_of 202 (by decide +kernel) (by decide +kernel)
theorem kf_X4_17 : (.fieldLink RX4 17 "VipBoard$Processor" "memory" "LVipBoard$Memory;" : Cond) ∈ gtbl := gt_of 193 (by decide +kernel) (by decide +kernel)
theorem kf_X4_21 : (.fieldLink RX4 21 "VipBoard$Processor" "keys" "LVipBoard$Keys;" : Cond) ∈ gtbl := gt_of 194 (by decide +kernel) (by decide +kernel)
theorem kf_X4_25 : (.fieldLink RX4 25 "VipBoard$Processor" "picture" "LVipBoard$Picture;" : Cond) ∈ gtbl := gt_of 195 (by decide +kernel) (by decide +kernel)
theorem kf_X4_29 : (.fieldLink RX4 29 "VipBoard$Processor" "d" "I" : Cond) ∈ gtbl := gt_of 197 (by decide +kernel) (by decide +kernel)
theorem kf_X4_32 : (.fieldLink RX4 32 "VipBoard$Processor" "df" "I" : Cond) ∈ gtbl := gt_of 198 (by decide +kernel) (by decide +kernel)
theorem kf_X4_35 : (.fieldLink RX4 35 "VipBoard$Processor" "p" "I" : Cond) ∈ gtbl := gt_of 199 (by decide +kernel) (by decide +kernel)
theorem kf_X4_38 : (.fieldLink RX4 38 "VipBoard$Processor" "x" "I" : Cond) ∈ gtbl := gt_of 200 (by decide +kernel) (by decide +kernel)
theorem kf_X4_41 : (.fieldLink RX4 41 "VipBoard$Processor" "t" "I" : Cond) ∈ gtbl := gt_of 201 (by decide +kernel) (by decide +kernel)
theorem kf_X4_44 : (.fieldLink RX4 44 "VipBoard$Processor" "q" "I" : Cond) ∈ gtbl := gt_of 203 (by decide +kernel) (by decide +kernel)
theorem kf_X4_47 : (.fieldLink RX4 47 "VipBoard$Processor" "idle" "Z" : Cond) ∈ gtbl := gt_of 204 (by decide +kernel) (by decide +kernel)
theorem kf_X4_9 : (.fieldLink RX4 9 "VipBoard$Processor" "registers" "[I" : Cond) ∈ gtbl := gt_of 196 (by decide +kernel) (by decide +kernel)
theorem kf_X5_13 : (.fieldLink RX5 13 "VipBoard$Timers" "tone" "I" : Cond) ∈ gtbl := gt_of 150 (by decide +kernel) (by decide +kernel)
theorem kf_X5_7 : (.fieldLink RX5 7 "VipBoard$Timers" "delay" "I" : Cond) ∈ gtbl := gt_of 149 (by decide +kernel) (by decide +kernel)
theorem kf_X6_10 : (.fieldLink RX6 10 "VipBoard" "memory" "LVipBoard$Memory;" : Cond) ∈ gtbl := gt_of 264 (by decide +kernel) (by decide +kernel)
theorem kf_X6_19 : (.fieldLink RX6 19 "VipBoard" "keys" "LVipBoard$Keys;" : Cond) ∈ gtbl := gt_of 265 (by decide +kernel) (by decide +kernel)
theorem kf_X6_26 : (.fieldLink RX6 26 "VipBoard" "timers" "LVipBoard$Timers;" : Cond) ∈ gtbl := gt_of 266 (by decide +kernel) (by decide +kernel)
theorem kf_X6_35 : (.fieldLink RX6 35 "VipBoard" "picture" "LVipBoard$Picture;" : Cond) ∈ gtbl := gt_of 267 (by decide +kernel) (by decide +kernel)
theorem kf_X6_44 : (.fieldLink RX6 44 "VipBoard" "processor" "LVipBoard$Processor;" : Cond) ∈ gtbl := gt_of 268 (by decide +kernel) (by decide +kernel)
theorem kf_X6_53 : (.fieldLink RX6 53 "VipBoard" "language" "LVipBoard$Language;" : Cond) ∈ gtbl := gt_of 269 (by decide +kernel) (by decide +kernel)
theorem kf_X7_13 : (.fieldLink RX7 13 "VipBoardModel" "s" "[I" : Cond) ∈ gtbl := gt_of 858 (by decide +kernel) (by decide +kernel)
theorem kf_X7_130 : (.fieldLink RX7 130 "VipBoardModel" "place" "I" : Cond) ∈ gtbl := gt_of 864 (by decide +kernel) (by decide +kernel)
theorem kf_X7_133 : (.fieldLink RX7 133 "VipBoardModel" "fetched" "Z" : Cond) ∈ gtbl := gt_of 866 (by decide +kernel) (by decide +kernel)
theorem kf_X7_136 : (.fieldLink RX7 136 "VipBoardModel" "interrupted" "Z" : Cond) ∈ gtbl := gt_of 867 (by decide +kernel) (by decide +kernel)
theorem kf_X7_139 : (.fieldLink RX7 139 "VipBoardModel" "frames" "I" : Cond) ∈ gtbl := gt_of 865 (by decide +kernel) (by decide +kernel)
theorem kf_X7_16 : (.fieldLink RX7 16 "VipBoardModel" "v" "[I" : Cond) ∈ gtbl := gt_of 859 (by decide +kernel) (by decide +kernel)
theorem kf_X7_19 : (.fieldLink RX7 19 "VipBoardModel" "back" "[I" : Cond) ∈ gtbl := gt_of 860 (by decide +kernel) (by decide +kernel)
theorem kf_X7_22 : (.fieldLink RX7 22 "VipBoardModel" "down" "[Z" : Cond) ∈ gtbl := gt_of 861 (by decide +kernel) (by decide +kernel)
theorem kf_X7_26 : (.fieldLink RX7 26 "VipBoardModel" "shown" "[I" : Cond) ∈ gtbl := gt_of 869 (by decide +kernel) (by decide +kernel)
theorem kf_X7_29 : (.fieldLink RX7 29 "VipBoardModel" "thrown" "I" : Cond) ∈ gtbl := gt_of 856 (by decide +kernel) (by decide +kernel)
theorem kf_X7_55 : (.fieldLink RX7 55 "VipBoardModel" "on" "Z" : Cond) ∈ gtbl := gt_of 862 (by decide +kernel) (by decide +kernel)
theorem kf_X7_59 : (.fieldLink RX7 59 "VipBoardModel" "line" "I" : Cond) ∈ gtbl := gt_of 863 (by decide +kernel) (by decide +kernel)
theorem kf_X7_66 : (.fieldLink RX7 66 "VipBoardModel" "latch" "I" : Cond) ∈ gtbl := gt_of 868 (by decide +kernel) (by decide +kernel)
theorem kf_X7_7 : (.fieldLink RX7 7 "VipBoardModel" "memory" "[I" : Cond) ∈ gtbl := gt_of 857 (by decide +kernel) (by decide +kernel)
theorem km_L_100 : (.methodLink RL 100 yX7_start : Cond) ∈ gtbl := gt_of 1113 (by decide +kernel) (by decide +kernel)
theorem km_L_15 : (.methodLink RL 15 yX6_cpu : Cond) ∈ gtbl := gt_of 377 (by decide +kernel) (by decide +kernel)
theorem km_L_21 : (.methodLink RL 21 yX6_set : Cond) ∈ gtbl := gt_of 408 (by decide +kernel) (by decide +kernel)
theorem km_L_24 : (.methodLink RL 24 yX6_key : Cond) ∈ gtbl := gt_of 429 (by decide +kernel) (by decide +kernel)
theorem km_L_28 : (.methodLink RL 28 yX6_run : Cond) ∈ gtbl := gt_of 441 (by decide +kernel) (by decide +kernel)
theorem km_L_31 : (.methodLink RL 31 yX6_video : Cond) ∈ gtbl := gt_of 633 (by decide +kernel) (by decide +kernel)
theorem km_L_34 : (.methodLink RL 34 yX6_shown : Cond) ∈ gtbl := gt_of 650 (by decide +kernel) (by decide +kernel)
theorem km_L_38 : (.methodLink RL 38 yX6_chip : Cond) ∈ gtbl := gt_of 665 (by decide +kernel) (by decide +kernel)
theorem km_L_45 : (.methodLink RL 45 yX6_v : Cond) ∈ gtbl := gt_of 824 (by decide +kernel) (by decide +kernel)
theorem km_L_48 : (.methodLink RL 48 yX6_start : Cond) ∈ gtbl := gt_of 841 (by decide +kernel) (by decide +kernel)
theorem km_L_52 : (.methodLink RL 52 yX6_init : Cond) ∈ gtbl := gt_of 112 (by decide +kernel) (by decide +kernel)
theorem km_L_55 : (.methodLink RL 55 yX7_init : Cond) ∈ gtbl := gt_of 852 (by decide +kernel) (by decide +kernel)
theorem km_L_56 : (.methodLink RL 56 yL_poke : Cond) ∈ gtbl := gt_of 291 (by decide +kernel) (by decide +kernel)
theorem km_L_61 : (.methodLink RL 61 yX7_poke : Cond) ∈ gtbl := gt_of 903 (by decide +kernel) (by decide +kernel)
theorem km_L_62 : (.methodLink RL 62 yX7_thrown : Cond) ∈ gtbl := gt_of 899 (by decide +kernel) (by decide +kernel)
theorem km_L_66 : (.methodLink RL 66 yX6_peek : Cond) ∈ gtbl := gt_of 283 (by decide +kernel) (by decide +kernel)
theorem km_L_69 : (.methodLink RL 69 yX7_peek : Cond) ∈ gtbl := gt_of 914 (by decide +kernel) (by decide +kernel)
theorem km_L_7 : (.methodLink RL 7 yX6_poke : Cond) ∈ gtbl := gt_of 295 (by decide +kernel) (by decide +kernel)
theorem km_L_70 : (.methodLink RL 70 yL_cpu : Cond) ∈ gtbl := gt_of 373 (by decide +kernel) (by decide +kernel)
theorem km_L_73 : (.methodLink RL 73 yX7_cpu : Cond) ∈ gtbl := gt_of 918 (by decide +kernel) (by decide +kernel)
theorem km_L_74 : (.methodLink RL 74 yL_set : Cond) ∈ gtbl := gt_of 405 (by decide +kernel) (by decide +kernel)
theorem km_L_76 : (.methodLink RL 76 yX7_set : Cond) ∈ gtbl := gt_of 922 (by decide +kernel) (by decide +kernel)
theorem km_L_77 : (.methodLink RL 77 yL_key : Cond) ∈ gtbl := gt_of 426 (by decide +kernel) (by decide +kernel)
theorem km_L_80 : (.methodLink RL 80 yX7_key : Cond) ∈ gtbl := gt_of 1049 (by decide +kernel) (by decide +kernel)
theorem km_L_81 : (.methodLink RL 81 yL_run : Cond) ∈ gtbl := gt_of 438 (by decide +kernel) (by decide +kernel)
theorem km_L_83 : (.methodLink RL 83 yX7_run : Cond) ∈ gtbl := gt_of 927 (by decide +kernel) (by decide +kernel)
theorem km_L_84 : (.methodLink RL 84 yL_video : Cond) ∈ gtbl := gt_of 630 (by decide +kernel) (by decide +kernel)
theorem km_L_86 : (.methodLink RL 86 yX7_video : Cond) ∈ gtbl := gt_of 1041 (by decide +kernel) (by decide +kernel)
theorem km_L_87 : (.methodLink RL 87 yL_shown : Cond) ∈ gtbl := gt_of 647 (by decide +kernel) (by decide +kernel)
theorem km_L_90 : (.methodLink RL 90 yX7_shown : Cond) ∈ gtbl := gt_of 1045 (by decide +kernel) (by decide +kernel)
theorem km_L_91 : (.methodLink RL 91 yL_chip : Cond) ∈ gtbl := gt_of 660 (by decide +kernel) (by decide +kernel)
theorem km_L_93 : (.methodLink RL 93 yX7_chip : Cond) ∈ gtbl := gt_of 1053 (by decide +kernel) (by decide +kernel)
theorem km_L_94 : (.methodLink RL 94 yL_v : Cond) ∈ gtbl := gt_of 821 (by decide +kernel) (by decide +kernel)
theorem km_L_96 : (.methodLink RL 96 yX7_v : Cond) ∈ gtbl := gt_of 1109 (by decide +kernel) (by decide +kernel)
theorem km_L_97 : (.methodLink RL 97 yL_start : Cond) ∈ gtbl := gt_of 838 (by decide +kernel) (by decide +kernel)
theorem km_X0_1 : (.methodLink RX0 1 objectInit : Cond) ∈ gtbl := gt_of 134 (by decide +kernel) (by decide +kernel)
theorem km_X1_1 : (.methodLink RX1 1 objectInit : Cond) ∈ gtbl := gt_of 235 (by decide +kernel) (by decide +kernel)
theorem km_X1_102 : (.methodLink RX1 102 yX1_clear : Cond) ∈ gtbl := gt_of 687 (by decide +kernel) (by decide +kernel)
theorem km_X1_105 : (.methodLink RX1 105 yX1_leave : Cond) ∈ gtbl := gt_of 692 (by decide +kernel) (by decide +kernel)
theorem km_X1_109 : (.methodLink RX1 109 yX2_write : Cond) ∈ gtbl := gt_of 691 (by decide +kernel) (by decide +kernel)
theorem km_X1_112 : (.methodLink RX1 112 yX1_putWithFlag : Cond) ∈ gtbl := gt_of 720 (by decide +kernel) (by decide +kernel)
theorem km_X1_116 : (.methodLink RX1 116 yX5_delay : Cond) ∈ gtbl := gt_of 769 (by decide +kernel) (by decide +kernel)
theorem km_X1_121 : (.methodLink RX1 121 yX1_takeKey : Cond) ∈ gtbl := gt_of 773 (by decide +kernel) (by decide +kernel)
theorem km_X1_124 : (.methodLink RX1 124 yX5_setDelay : Cond) ∈ gtbl := gt_of 781 (by decide +kernel) (by decide +kernel)
theorem km_X1_127 : (.methodLink RX1 127 yX5_setTone : Cond) ∈ gtbl := gt_of 785 (by decide +kernel) (by decide +kernel)
theorem km_X1_130 : (.methodLink RX1 130 yX0_least : Cond) ∈ gtbl := gt_of 777 (by decide +kernel) (by decide +kernel)
theorem km_X1_133 : (.methodLink RX1 133 yX1_putDigits : Cond) ∈ gtbl := gt_of 753 (by decide +kernel) (by decide +kernel)
theorem km_X1_136 : (.methodLink RX1 136 yX1_saveVariables : Cond) ∈ gtbl := gt_of 757 (by decide +kernel) (by decide +kernel)
theorem km_X1_139 : (.methodLink RX1 139 yX1_loadVariables : Cond) ∈ gtbl := gt_of 761 (by decide +kernel) (by decide +kernel)
theorem km_X1_142 : (.methodLink RX1 142 yX2_read : Cond) ∈ gtbl := gt_of 732 (by decide +kernel) (by decide +kernel)
theorem km_X1_145 : (.methodLink RX1 145 yX1_drawByte : Cond) ∈ gtbl := gt_of 733 (by decide +kernel) (by decide +kernel)
theorem km_X1_149 : (.methodLink RX1 149 yX1_flip : Cond) ∈ gtbl := gt_of 737 (by decide +kernel) (by decide +kernel)
theorem km_X1_41 : (.methodLink RX1 41 yX1_variable : Cond) ∈ gtbl := gt_of 700 (by decide +kernel) (by decide +kernel)
theorem km_X1_45 : (.methodLink RX1 45 yX2_pair : Cond) ∈ gtbl := gt_of 674 (by decide +kernel) (by decide +kernel)
theorem km_X1_50 : (.methodLink RX1 50 yX1_jump : Cond) ∈ gtbl := gt_of 675 (by decide +kernel) (by decide +kernel)
theorem km_X1_54 : (.methodLink RX1 54 yX1_execute : Cond) ∈ gtbl := gt_of 679 (by decide +kernel) (by decide +kernel)
theorem km_X1_57 : (.methodLink RX1 57 yX1_clearOrLeave : Cond) ∈ gtbl := gt_of 683 (by decide +kernel) (by decide +kernel)
theorem km_X1_60 : (.methodLink RX1 60 yX1_enter : Cond) ∈ gtbl := gt_of 696 (by decide +kernel) (by decide +kernel)
theorem km_X1_63 : (.methodLink RX1 63 yX1_skipIf : Cond) ∈ gtbl := gt_of 704 (by decide +kernel) (by decide +kernel)
theorem km_X1_67 : (.methodLink RX1 67 yX1_compare : Cond) ∈ gtbl := gt_of 708 (by decide +kernel) (by decide +kernel)
theorem km_X1_71 : (.methodLink RX1 71 yX1_putVariable : Cond) ∈ gtbl := gt_of 712 (by decide +kernel) (by decide +kernel)
theorem km_X1_75 : (.methodLink RX1 75 yX1_combine : Cond) ∈ gtbl := gt_of 716 (by decide +kernel) (by decide +kernel)
theorem km_X1_79 : (.methodLink RX1 79 yX1_putIndex : Cond) ∈ gtbl := gt_of 724 (by decide +kernel) (by decide +kernel)
theorem km_X1_82 : (.methodLink RX1 82 yX1_draw : Cond) ∈ gtbl := gt_of 728 (by decide +kernel) (by decide +kernel)
theorem km_X1_86 : (.methodLink RX1 86 yX0_isDown : Cond) ∈ gtbl := gt_of 741 (by decide +kernel) (by decide +kernel)
theorem km_X1_92 : (.methodLink RX1 92 yX1_skipByKey : Cond) ∈ gtbl := gt_of 745 (by decide +kernel) (by decide +kernel)
theorem km_X1_95 : (.methodLink RX1 95 yX1_executeStore : Cond) ∈ gtbl := gt_of 749 (by decide +kernel) (by decide +kernel)
theorem km_X1_99 : (.methodLink RX1 99 yX1_executeSystem : Cond) ∈ gtbl := gt_of 765 (by decide +kernel) (by decide +kernel)
theorem km_X2_1 : (.methodLink RX2 1 objectInit : Cond) ∈ gtbl := gt_of 123 (by decide +kernel) (by decide +kernel)
theorem km_X2_13 : (.methodLink RX2 13 yX2_read : Cond) ∈ gtbl := gt_of 557 (by decide +kernel) (by decide +kernel)
theorem km_X3_1 : (.methodLink RX3 1 objectInit : Cond) ∈ gtbl := gt_of 161 (by decide +kernel) (by decide +kernel)
theorem km_X3_31 : (.methodLink RX3 31 yX3_flag : Cond) ∈ gtbl := gt_of 646 (by decide +kernel) (by decide +kernel)
theorem km_X3_35 : (.methodLink RX3 35 yX3_endLine : Cond) ∈ gtbl := gt_of 570 (by decide +kernel) (by decide +kernel)
theorem km_X3_44 : (.methodLink RX3 44 yX5_fall : Cond) ∈ gtbl := gt_of 574 (by decide +kernel) (by decide +kernel)
theorem km_X3_49 : (.methodLink RX3 49 yX3_isShownLine : Cond) ∈ gtbl := gt_of 586 (by decide +kernel) (by decide +kernel)
theorem km_X3_52 : (.methodLink RX3 52 yX3_spot : Cond) ∈ gtbl := gt_of 602 (by decide +kernel) (by decide +kernel)
theorem km_X4_1 : (.methodLink RX4 1 objectInit : Cond) ∈ gtbl := gt_of 192 (by decide +kernel) (by decide +kernel)
theorem km_X4_100 : (.methodLink RX4 100 yX4_calculate : Cond) ∈ gtbl := gt_of 562 (by decide +kernel) (by decide +kernel)
theorem km_X4_103 : (.methodLink RX4 103 yX4_at : Cond) ∈ gtbl := gt_of 463 (by decide +kernel) (by decide +kernel)
theorem km_X4_106 : (.methodLink RX4 106 yX4_holds : Cond) ∈ gtbl := gt_of 475 (by decide +kernel) (by decide +kernel)
theorem km_X4_110 : (.methodLink RX4 110 yX3_flag : Cond) ∈ gtbl := gt_of 479 (by decide +kernel) (by decide +kernel)
theorem km_X4_116 : (.methodLink RX4 116 yX0_askedIsDown : Cond) ∈ gtbl := gt_of 483 (by decide +kernel) (by decide +kernel)
theorem km_X4_121 : (.methodLink RX4 121 yX4_output : Cond) ∈ gtbl := gt_of 497 (by decide +kernel) (by decide +kernel)
theorem km_X4_124 : (.methodLink RX4 124 yX3_switchTo : Cond) ∈ gtbl := gt_of 501 (by decide +kernel) (by decide +kernel)
theorem km_X4_128 : (.methodLink RX4 128 yX0_ask : Cond) ∈ gtbl := gt_of 505 (by decide +kernel) (by decide +kernel)
theorem km_X4_131 : (.methodLink RX4 131 yX4_resume : Cond) ∈ gtbl := gt_of 513 (by decide +kernel) (by decide +kernel)
theorem km_X4_134 : (.methodLink RX4 134 yX4_shiftRight : Cond) ∈ gtbl := gt_of 517 (by decide +kernel) (by decide +kernel)
theorem km_X4_137 : (.methodLink RX4 137 yX4_mark : Cond) ∈ gtbl := gt_of 521 (by decide +kernel) (by decide +kernel)
theorem km_X4_140 : (.methodLink RX4 140 yX4_shiftLeft : Cond) ∈ gtbl := gt_of 525 (by decide +kernel) (by decide +kernel)
theorem km_X4_143 : (.methodLink RX4 143 yX4_operand : Cond) ∈ gtbl := gt_of 529 (by decide +kernel) (by decide +kernel)
theorem km_X4_146 : (.methodLink RX4 146 yX4_combine : Cond) ∈ gtbl := gt_of 533 (by decide +kernel) (by decide +kernel)
theorem km_X4_150 : (.methodLink RX4 150 yX4_branchFar : Cond) ∈ gtbl := gt_of 549 (by decide +kernel) (by decide +kernel)
theorem km_X4_153 : (.methodLink RX4 153 yX4_skips : Cond) ∈ gtbl := gt_of 558 (by decide +kernel) (by decide +kernel)
theorem km_X4_156 : (.methodLink RX4 156 yX2_pair : Cond) ∈ gtbl := gt_of 553 (by decide +kernel) (by decide +kernel)
theorem km_X4_159 : (.methodLink RX4 159 yX4_add : Cond) ∈ gtbl := gt_of 537 (by decide +kernel) (by decide +kernel)
theorem km_X4_162 : (.methodLink RX4 162 yX4_subtract : Cond) ∈ gtbl := gt_of 541 (by decide +kernel) (by decide +kernel)
theorem km_X4_51 : (.methodLink RX4 51 yX4_register : Cond) ∈ gtbl := gt_of 401 (by decide +kernel) (by decide +kernel)
theorem km_X4_56 : (.methodLink RX4 56 yX4_putRegister : Cond) ∈ gtbl := gt_of 422 (by decide +kernel) (by decide +kernel)
theorem km_X4_60 : (.methodLink RX4 60 yX4_wake : Cond) ∈ gtbl := gt_of 625 (by decide +kernel) (by decide +kernel)
theorem km_X4_63 : (.methodLink RX4 63 yX4_take : Cond) ∈ gtbl := gt_of 450 (by decide +kernel) (by decide +kernel)
theorem km_X4_66 : (.methodLink RX4 66 yX4_execute : Cond) ∈ gtbl := gt_of 455 (by decide +kernel) (by decide +kernel)
theorem km_X4_69 : (.methodLink RX4 69 yX2_read : Cond) ∈ gtbl := gt_of 454 (by decide +kernel) (by decide +kernel)
theorem km_X4_74 : (.methodLink RX4 74 yX2_write : Cond) ∈ gtbl := gt_of 492 (by decide +kernel) (by decide +kernel)
theorem km_X4_77 : (.methodLink RX4 77 yX4_loadOrIdle : Cond) ∈ gtbl := gt_of 459 (by decide +kernel) (by decide +kernel)
theorem km_X4_81 : (.methodLink RX4 81 yX4_grow : Cond) ∈ gtbl := gt_of 467 (by decide +kernel) (by decide +kernel)
theorem km_X4_84 : (.methodLink RX4 84 yX4_branch : Cond) ∈ gtbl := gt_of 471 (by decide +kernel) (by decide +kernel)
theorem km_X4_87 : (.methodLink RX4 87 yX4_putAt : Cond) ∈ gtbl := gt_of 488 (by decide +kernel) (by decide +kernel)
theorem km_X4_90 : (.methodLink RX4 90 yX4_transfer : Cond) ∈ gtbl := gt_of 493 (by decide +kernel) (by decide +kernel)
theorem km_X4_93 : (.methodLink RX4 93 yX4_control : Cond) ∈ gtbl := gt_of 509 (by decide +kernel) (by decide +kernel)
theorem km_X4_97 : (.methodLink RX4 97 yX4_goFar : Cond) ∈ gtbl := gt_of 545 (by decide +kernel) (by decide +kernel)
theorem km_X5_1 : (.methodLink RX5 1 objectInit : Cond) ∈ gtbl := gt_of 148 (by decide +kernel) (by decide +kernel)
theorem km_X6_1 : (.methodLink RX6 1 objectInit : Cond) ∈ gtbl := gt_of 115 (by decide +kernel) (by decide +kernel)
theorem km_X6_100 : (.methodLink RX6 100 yX4_act : Cond) ∈ gtbl := gt_of 446 (by decide +kernel) (by decide +kernel)
theorem km_X6_104 : (.methodLink RX6 104 yX3_pass : Cond) ∈ gtbl := gt_of 566 (by decide +kernel) (by decide +kernel)
theorem km_X6_108 : (.methodLink RX6 108 yX6_letVideoAct : Cond) ∈ gtbl := gt_of 578 (by decide +kernel) (by decide +kernel)
theorem km_X6_113 : (.methodLink RX6 113 yX0_asked : Cond) ∈ gtbl := gt_of 638 (by decide +kernel) (by decide +kernel)
theorem km_X6_116 : (.methodLink RX6 116 yX3_part : Cond) ∈ gtbl := gt_of 642 (by decide +kernel) (by decide +kernel)
theorem km_X6_121 : (.methodLink RX6 121 yX3_fetchedByte : Cond) ∈ gtbl := gt_of 656 (by decide +kernel) (by decide +kernel)
theorem km_X6_127 : (.methodLink RX6 127 yX1_step : Cond) ∈ gtbl := gt_of 670 (by decide +kernel) (by decide +kernel)
theorem km_X6_142 : (.methodLink RX6 142 yX5_delay : Cond) ∈ gtbl := gt_of 829 (by decide +kernel) (by decide +kernel)
theorem km_X6_145 : (.methodLink RX6 145 yX5_tone : Cond) ∈ gtbl := gt_of 830 (by decide +kernel) (by decide +kernel)
theorem km_X6_148 : (.methodLink RX6 148 yX1_part : Cond) ∈ gtbl := gt_of 834 (by decide +kernel) (by decide +kernel)
theorem km_X6_151 : (.methodLink RX6 151 yX1_restart : Cond) ∈ gtbl := gt_of 846 (by decide +kernel) (by decide +kernel)
theorem km_X6_154 : (.methodLink RX6 154 yX3_rowIsDue : Cond) ∈ gtbl := gt_of 582 (by decide +kernel) (by decide +kernel)
theorem km_X6_158 : (.methodLink RX6 158 yX6_fetchRow : Cond) ∈ gtbl := gt_of 590 (by decide +kernel) (by decide +kernel)
theorem km_X6_161 : (.methodLink RX6 161 yX3_interruptIsDue : Cond) ∈ gtbl := gt_of 613 (by decide +kernel) (by decide +kernel)
theorem km_X6_164 : (.methodLink RX6 164 yX4_allowsInterrupt : Cond) ∈ gtbl := gt_of 617 (by decide +kernel) (by decide +kernel)
theorem km_X6_167 : (.methodLink RX6 167 yX4_interrupt : Cond) ∈ gtbl := gt_of 621 (by decide +kernel) (by decide +kernel)
theorem km_X6_170 : (.methodLink RX6 170 yX3_noteInterrupt : Cond) ∈ gtbl := gt_of 626 (by decide +kernel) (by decide +kernel)
theorem km_X6_173 : (.methodLink RX6 173 yX4_takeByte : Cond) ∈ gtbl := gt_of 594 (by decide +kernel) (by decide +kernel)
theorem km_X6_176 : (.methodLink RX6 176 yX3_keep : Cond) ∈ gtbl := gt_of 598 (by decide +kernel) (by decide +kernel)
theorem km_X6_179 : (.methodLink RX6 179 yX3_noteFetch : Cond) ∈ gtbl := gt_of 605 (by decide +kernel) (by decide +kernel)
theorem km_X6_182 : (.methodLink RX6 182 yX4_wake : Cond) ∈ gtbl := gt_of 609 (by decide +kernel) (by decide +kernel)
theorem km_X6_32 : (.methodLink RX6 32 yX3_init : Cond) ∈ gtbl := gt_of 158 (by decide +kernel) (by decide +kernel)
theorem km_X6_41 : (.methodLink RX6 41 yX4_init : Cond) ∈ gtbl := gt_of 189 (by decide +kernel) (by decide +kernel)
theorem km_X6_50 : (.methodLink RX6 50 yX1_init : Cond) ∈ gtbl := gt_of 232 (by decide +kernel) (by decide +kernel)
theorem km_X6_66 : (.methodLink RX6 66 yX2_write : Cond) ∈ gtbl := gt_of 369 (by decide +kernel) (by decide +kernel)
theorem km_X6_70 : (.methodLink RX6 70 yX2_read : Cond) ∈ gtbl := gt_of 287 (by decide +kernel) (by decide +kernel)
theorem km_X6_79 : (.methodLink RX6 79 yX4_part : Cond) ∈ gtbl := gt_of 397 (by decide +kernel) (by decide +kernel)
theorem km_X6_84 : (.methodLink RX6 84 yX4_mostOf : Cond) ∈ gtbl := gt_of 413 (by decide +kernel) (by decide +kernel)
theorem km_X6_89 : (.methodLink RX6 89 yX4_change : Cond) ∈ gtbl := gt_of 418 (by decide +kernel) (by decide +kernel)
theorem km_X6_94 : (.methodLink RX6 94 yX0_move : Cond) ∈ gtbl := gt_of 434 (by decide +kernel) (by decide +kernel)
theorem km_X7_1 : (.methodLink RX7 1 objectInit : Cond) ∈ gtbl := gt_of 855 (by decide +kernel) (by decide +kernel)
theorem km_X7_102 : (.methodLink RX7 102 yX7_sumOn : Cond) ∈ gtbl := gt_of 1001 (by decide +kernel) (by decide +kernel)
theorem km_X7_105 : (.methodLink RX7 105 yX7_less : Cond) ∈ gtbl := gt_of 1005 (by decide +kernel) (by decide +kernel)
theorem km_X7_109 : (.methodLink RX7 109 yX7_sum : Cond) ∈ gtbl := gt_of 1021 (by decide +kernel) (by decide +kernel)
theorem km_X7_112 : (.methodLink RX7 112 yX7_branch : Cond) ∈ gtbl := gt_of 952 (by decide +kernel) (by decide +kernel)
theorem km_X7_115 : (.methodLink RX7 115 yX7_port : Cond) ∈ gtbl := gt_of 969 (by decide +kernel) (by decide +kernel)
theorem km_X7_118 : (.methodLink RX7 118 yX7_seven : Cond) ∈ gtbl := gt_of 977 (by decide +kernel) (by decide +kernel)
theorem km_X7_121 : (.methodLink RX7 121 yX7_wide : Cond) ∈ gtbl := gt_of 1009 (by decide +kernel) (by decide +kernel)
theorem km_X7_124 : (.methodLink RX7 124 yX7_reckon : Cond) ∈ gtbl := gt_of 1017 (by decide +kernel) (by decide +kernel)
theorem km_X7_127 : (.methodLink RX7 127 yX7_moves : Cond) ∈ gtbl := gt_of 1025 (by decide +kernel) (by decide +kernel)
theorem km_X7_142 : (.methodLink RX7 142 yX7_cycle : Cond) ∈ gtbl := gt_of 1033 (by decide +kernel) (by decide +kernel)
theorem km_X7_145 : (.methodLink RX7 145 yX7_instruction : Cond) ∈ gtbl := gt_of 931 (by decide +kernel) (by decide +kernel)
theorem km_X7_148 : (.methodLink RX7 148 yX7_cycles : Cond) ∈ gtbl := gt_of 1029 (by decide +kernel) (by decide +kernel)
theorem km_X7_151 : (.methodLink RX7 151 yX7_behindOne : Cond) ∈ gtbl := gt_of 1037 (by decide +kernel) (by decide +kernel)
theorem km_X7_154 : (.methodLink RX7 154 yX7_goesOn : Cond) ∈ gtbl := gt_of 1065 (by decide +kernel) (by decide +kernel)
theorem km_X7_158 : (.methodLink RX7 158 yX7_leastKey : Cond) ∈ gtbl := gt_of 1089 (by decide +kernel) (by decide +kernel)
theorem km_X7_161 : (.methodLink RX7 161 yX7_rows : Cond) ∈ gtbl := gt_of 1093 (by decide +kernel) (by decide +kernel)
theorem km_X7_165 : (.methodLink RX7 165 yX7_zero : Cond) ∈ gtbl := gt_of 1061 (by decide +kernel) (by decide +kernel)
theorem km_X7_168 : (.methodLink RX7 168 yX7_call : Cond) ∈ gtbl := gt_of 1069 (by decide +kernel) (by decide +kernel)
theorem km_X7_171 : (.methodLink RX7 171 yX7_compared : Cond) ∈ gtbl := gt_of 1073 (by decide +kernel) (by decide +kernel)
theorem km_X7_175 : (.methodLink RX7 175 yX7_eight : Cond) ∈ gtbl := gt_of 1077 (by decide +kernel) (by decide +kernel)
theorem km_X7_179 : (.methodLink RX7 179 yX7_keyed : Cond) ∈ gtbl := gt_of 1081 (by decide +kernel) (by decide +kernel)
theorem km_X7_183 : (.methodLink RX7 183 yX7_fifteen : Cond) ∈ gtbl := gt_of 1085 (by decide +kernel) (by decide +kernel)
theorem km_X7_186 : (.methodLink RX7 186 yX7_simple : Cond) ∈ gtbl := gt_of 1097 (by decide +kernel) (by decide +kernel)
theorem km_X7_189 : (.methodLink RX7 189 yX7_random : Cond) ∈ gtbl := gt_of 1101 (by decide +kernel) (by decide +kernel)
theorem km_X7_192 : (.methodLink RX7 192 yX7_draw : Cond) ∈ gtbl := gt_of 1105 (by decide +kernel) (by decide +kernel)
theorem km_X7_195 : (.methodLink RX7 195 yX7_step : Cond) ∈ gtbl := gt_of 1057 (by decide +kernel) (by decide +kernel)
theorem km_X7_33 : (.methodLink RX7 33 yX7_out : Cond) ∈ gtbl := gt_of 907 (by decide +kernel) (by decide +kernel)
theorem km_X7_37 : (.methodLink RX7 37 yX7_fails : Cond) ∈ gtbl := gt_of 910 (by decide +kernel) (by decide +kernel)
theorem km_X7_43 : (.methodLink RX7 43 yX7_byteAt : Cond) ∈ gtbl := gt_of 943 (by decide +kernel) (by decide +kernel)
theorem km_X7_47 : (.methodLink RX7 47 yX7_m : Cond) ∈ gtbl := gt_of 939 (by decide +kernel) (by decide +kernel)
theorem km_X7_50 : (.methodLink RX7 50 yX7_grow : Cond) ∈ gtbl := gt_of 947 (by decide +kernel) (by decide +kernel)
theorem km_X7_62 : (.methodLink RX7 62 yX7_isLight : Cond) ∈ gtbl := gt_of 960 (by decide +kernel) (by decide +kernel)
theorem km_X7_69 : (.methodLink RX7 69 yX7_isSo : Cond) ∈ gtbl := gt_of 956 (by decide +kernel) (by decide +kernel)
theorem km_X7_73 : (.methodLink RX7 73 yX7_low : Cond) ∈ gtbl := gt_of 964 (by decide +kernel) (by decide +kernel)
theorem km_X7_76 : (.methodLink RX7 76 yX7_skips : Cond) ∈ gtbl := gt_of 1013 (by decide +kernel) (by decide +kernel)
theorem km_X7_79 : (.methodLink RX7 79 yX7_store : Cond) ∈ gtbl := gt_of 973 (by decide +kernel) (by decide +kernel)
theorem km_X7_82 : (.methodLink RX7 82 yX7_comeBack : Cond) ∈ gtbl := gt_of 981 (by decide +kernel) (by decide +kernel)
theorem km_X7_86 : (.methodLink RX7 86 yX7_right : Cond) ∈ gtbl := gt_of 985 (by decide +kernel) (by decide +kernel)
theorem km_X7_89 : (.methodLink RX7 89 yX7_mark : Cond) ∈ gtbl := gt_of 989 (by decide +kernel) (by decide +kernel)
theorem km_X7_92 : (.methodLink RX7 92 yX7_left : Cond) ∈ gtbl := gt_of 993 (by decide +kernel) (by decide +kernel)
theorem km_X7_95 : (.methodLink RX7 95 yX7_next : Cond) ∈ gtbl := gt_of 935 (by decide +kernel) (by decide +kernel)
theorem km_X7_99 : (.methodLink RX7 99 yX7_carries : Cond) ∈ gtbl := gt_of 997 (by decide +kernel) (by decide +kernel)
theorem kt_L_chip : (.static yL_chip : Cond) ∈ gtbl := gt_of 661 (by decide +kernel) (by decide +kernel)
theorem kc_L_chip : (.codeWith yL_chip cL_chip 4 (some .int) [(0, 9, 12, 13), (0, 9, 15, 41), (0, 9, 18, 43)] : Cond) ∈ gtbl := gt_of 662 (by decide +kernel) (by decide +kernel)
theorem kt_L_cpu : (.static yL_cpu : Cond) ∈ gtbl := gt_of 374 (by decide +kernel) (by decide +kernel)
theorem kc_L_cpu : (.codeWith yL_cpu cL_cpu 4 (some .int) [(0, 9, 12, 19)] : Cond) ∈ gtbl := gt_of 375 (by decide +kernel) (by decide +kernel)
theorem kt_L_key : (.static yL_key : Cond) ∈ gtbl := gt_of 427 (by decide +kernel) (by decide +kernel)
theorem kc_L_key : (.codeWith yL_key cL_key 4 (some .int) [(0, 6, 9, 13)] : Cond) ∈ gtbl := gt_of 428 (by decide +kernel) (by decide +kernel)
theorem kt_L_poke : (.static yL_poke : Cond) ∈ gtbl := gt_of 292 (by decide +kernel) (by decide +kernel)
theorem kc_L_poke : (.codeWith yL_poke cL_poke 4 (some .int) [(0, 6, 9, 13)] : Cond) ∈ gtbl := gt_of 293 (by decide +kernel) (by decide +kernel)
theorem kt_L_run : (.static yL_run : Cond) ∈ gtbl := gt_of 439 (by decide +kernel) (by decide +kernel)
theorem kc_L_run : (.codeWith yL_run cL_run 4 (some .int) [(0, 9, 12, 13)] : Cond) ∈ gtbl := gt_of 440 (by decide +kernel) (by decide +kernel)
theorem kt_L_set : (.static yL_set : Cond) ∈ gtbl := gt_of 406 (by decide +kernel) (by decide +kernel)
theorem kc_L_set : (.codeWith yL_set cL_set 4 (some .int) [(0, 6, 9, 13)] : Cond) ∈ gtbl := gt_of 407 (by decide +kernel) (by decide +kernel)
theorem kt_L_shown : (.static yL_shown : Cond) ∈ gtbl := gt_of 648 (by decide +kernel) (by decide +kernel)
theorem kc_L_shown : (.codeWith yL_shown cL_shown 5 (some .int) [(0, 10, 13, 19)] : Cond) ∈ gtbl := gt_of 649 (by decide +kernel) (by decide +kernel)
theorem kt_L_start : (.static yL_start : Cond) ∈ gtbl := gt_of 839 (by decide +kernel) (by decide +kernel)
theorem kc_L_start : (.codeWith yL_start cL_start 3 (some .int) [(0, 5, 8, 13)] : Cond) ∈ gtbl := gt_of 840 (by decide +kernel) (by decide +kernel)
theorem kt_L_v : (.static yL_v : Cond) ∈ gtbl := gt_of 822 (by decide +kernel) (by decide +kernel)
theorem kc_L_v : (.codeWith yL_v cL_v 4 (some .int) [(0, 9, 12, 19)] : Cond) ∈ gtbl := gt_of 823 (by decide +kernel) (by decide +kernel)
theorem kt_L_video : (.static yL_video : Cond) ∈ gtbl := gt_of 631 (by decide +kernel) (by decide +kernel)
theorem kc_L_video : (.codeWith yL_video cL_video 4 (some .int) [(0, 9, 12, 19)] : Cond) ∈ gtbl := gt_of 632 (by decide +kernel) (by decide +kernel)
theorem ki_X0_ask : (.instanceMethod yX0_ask : Cond) ∈ gtbl := gt_of 506 (by decide +kernel) (by decide +kernel)
theorem ks_X0_ask : (.selects RX0 yX0_ask yX0_ask : Cond) ∈ gtbl := gt_of 507 (by decide +kernel) (by decide +kernel)
theorem kc_X0_ask : (.code yX0_ask cX0_ask 2 none : Cond) ∈ gtbl := gt_of 508 (by decide +kernel) (by decide +kernel)
theorem ki_X0_asked : (.instanceMethod yX0_asked : Cond) ∈ gtbl := gt_of 639 (by decide +kernel) (by decide +kernel)
theorem ks_X0_asked : (.selects RX0 yX0_asked yX0_asked : Cond) ∈ gtbl := gt_of 640 (by decide +kernel) (by decide +kernel)
theorem kc_X0_asked : (.code yX0_asked cX0_asked 1 (some .int) : Cond) ∈ gtbl := gt_of 641 (by decide +kernel) (by decide +kernel)
theorem ki_X0_askedIsDown : (.instanceMethod yX0_askedIsDown : Cond) ∈ gtbl := gt_of 484 (by decide +kernel) (by decide +kernel)
theorem ks_X0_askedIsDown : (.selects RX0 yX0_askedIsDown yX0_askedIsDown : Cond) ∈ gtbl := gt_of 485 (by decide +kernel) (by decide +kernel)
theorem kc_X0_askedIsDown : (.code yX0_askedIsDown cX0_askedIsDown 1 (some .boolean) : Cond) ∈ gtbl := gt_of 486 (by decide +kernel) (by decide +kernel)
theorem ki_X0_init : (.instanceMethod yX0_init : Cond) ∈ gtbl := gt_of 132 (by decide +kernel) (by decide +kernel)
theorem kc_X0_init : (.code yX0_init cX0_init 1 none : Cond) ∈ gtbl := gt_of 133 (by decide +kernel) (by decide +kernel)
theorem ki_X0_isDown : (.instanceMethod yX0_isDown : Cond) ∈ gtbl := gt_of 742 (by decide +kernel) (by decide +kernel)
theorem ks_X0_isDown : (.selects RX0 yX0_isDown yX0_isDown : Cond) ∈ gtbl := gt_of 743 (by decide +kernel) (by decide +kernel)
theorem kc_X0_isDown : (.code yX0_isDown cX0_isDown 2 (some .boolean) : Cond) ∈ gtbl := gt_of 744 (by decide +kernel) (by decide +kernel)
theorem ki_X0_least : (.instanceMethod yX0_least : Cond) ∈ gtbl := gt_of 778 (by decide +kernel) (by decide +kernel)
theorem ks_X0_least : (.selects RX0 yX0_least yX0_least : Cond) ∈ gtbl := gt_of 779 (by decide +kernel) (by decide +kernel)
theorem kc_X0_least : (.code yX0_least cX0_least 2 (some .int) : Cond) ∈ gtbl := gt_of 780 (by decide +kernel) (by decide +kernel)
theorem ki_X0_move : (.instanceMethod yX0_move : Cond) ∈ gtbl := gt_of 435 (by decide +kernel) (by decide +kernel)
theorem ks_X0_move : (.selects RX0 yX0_move yX0_move : Cond) ∈ gtbl := gt_of 436 (by decide +kernel) (by decide +kernel)
theorem kc_X0_move : (.code yX0_move cX0_move 3 none : Cond) ∈ gtbl := gt_of 437 (by decide +kernel) (by decide +kernel)
theorem ki_X1_clear : (.instanceMethod yX1_clear : Cond) ∈ gtbl := gt_of 689 (by decide +kernel) (by decide +kernel)
theorem ks_X1_clear : (.selects RX1 yX1_clear yX1_clear : Cond) ∈ gtbl := gt_of 33 (by decide +kernel) (by decide +kernel)
theorem kc_X1_clear : (.code yX1_clear cX1_clear 2 none : Cond) ∈ gtbl := gt_of 690 (by decide +kernel) (by decide +kernel)
theorem ki_X1_clearOrLeave : (.instanceMethod yX1_clearOrLeave : Cond) ∈ gtbl := gt_of 685 (by decide +kernel) (by decide +kernel)
theorem ks_X1_clearOrLeave : (.selects RX1 yX1_clearOrLeave yX1_clearOrLeave : Cond) ∈ gtbl := gt_of 32 (by decide +kernel) (by decide +kernel)
theorem kc_X1_clearOrLeave : (.code yX1_clearOrLeave cX1_clearOrLeave 2 (some .int) : Cond) ∈ gtbl := gt_of 686 (by decide +kernel) (by decide +kernel)
theorem ki_X1_combine : (.instanceMethod yX1_combine : Cond) ∈ gtbl := gt_of 718 (by decide +kernel) (by decide +kernel)
theorem ks_X1_combine : (.selects RX1 yX1_combine yX1_combine : Cond) ∈ gtbl := gt_of 40 (by decide +kernel) (by decide +kernel)
theorem kc_X1_combine : (.code yX1_combine cX1_combine 5 (some .int) : Cond) ∈ gtbl := gt_of 719 (by decide +kernel) (by decide +kernel)
theorem ki_X1_compare : (.instanceMethod yX1_compare : Cond) ∈ gtbl := gt_of 710 (by decide +kernel) (by decide +kernel)
theorem ks_X1_compare : (.selects RX1 yX1_compare yX1_compare : Cond) ∈ gtbl := gt_of 38 (by decide +kernel) (by decide +kernel)
theorem kc_X1_compare : (.code yX1_compare cX1_compare 3 (some .int) : Cond) ∈ gtbl := gt_of 711 (by decide +kernel) (by decide +kernel)
theorem ki_X1_draw : (.instanceMethod yX1_draw : Cond) ∈ gtbl := gt_of 730 (by decide +kernel) (by decide +kernel)
theorem ks_X1_draw : (.selects RX1 yX1_draw yX1_draw : Cond) ∈ gtbl := gt_of 43 (by decide +kernel) (by decide +kernel)
theorem kc_X1_draw : (.code yX1_draw cX1_draw 8 none : Cond) ∈ gtbl := gt_of 731 (by decide +kernel) (by decide +kernel)
theorem ki_X1_drawByte : (.instanceMethod yX1_drawByte : Cond) ∈ gtbl := gt_of 735 (by decide +kernel) (by decide +kernel)
theorem ks_X1_drawByte : (.selects RX1 yX1_drawByte yX1_drawByte : Cond) ∈ gtbl := gt_of 44 (by decide +kernel) (by decide +kernel)
theorem kc_X1_drawByte : (.code yX1_drawByte cX1_drawByte 7 (some .boolean) : Cond) ∈ gtbl := gt_of 736 (by decide +kernel) (by decide +kernel)
theorem ki_X1_enter : (.instanceMethod yX1_enter : Cond) ∈ gtbl := gt_of 698 (by decide +kernel) (by decide +kernel)
theorem ks_X1_enter : (.selects RX1 yX1_enter yX1_enter : Cond) ∈ gtbl := gt_of 35 (by decide +kernel) (by decide +kernel)
theorem kc_X1_enter : (.code yX1_enter cX1_enter 2 (some .int) : Cond) ∈ gtbl := gt_of 699 (by decide +kernel) (by decide +kernel)
theorem ki_X1_execute : (.instanceMethod yX1_execute : Cond) ∈ gtbl := gt_of 681 (by decide +kernel) (by decide +kernel)
theorem ks_X1_execute : (.selects RX1 yX1_execute yX1_execute : Cond) ∈ gtbl := gt_of 31 (by decide +kernel) (by decide +kernel)
theorem kc_X1_execute : (.code yX1_execute cX1_execute 5 (some .int) : Cond) ∈ gtbl := gt_of 682 (by decide +kernel) (by decide +kernel)
theorem ki_X1_executeStore : (.instanceMethod yX1_executeStore : Cond) ∈ gtbl := gt_of 751 (by decide +kernel) (by decide +kernel)
theorem ks_X1_executeStore : (.selects RX1 yX1_executeStore yX1_executeStore : Cond) ∈ gtbl := gt_of 47 (by decide +kernel) (by decide +kernel)
theorem kc_X1_executeStore : (.code yX1_executeStore cX1_executeStore 3 (some .int) : Cond) ∈ gtbl := gt_of 752 (by decide +kernel) (by decide +kernel)
theorem ki_X1_executeSystem : (.instanceMethod yX1_executeSystem : Cond) ∈ gtbl := gt_of 767 (by decide +kernel) (by decide +kernel)
theorem ks_X1_executeSystem : (.selects RX1 yX1_executeSystem yX1_executeSystem : Cond) ∈ gtbl := gt_of 51 (by decide +kernel) (by decide +kernel)
theorem kc_X1_executeSystem : (.code yX1_executeSystem cX1_executeSystem 3 (some .int) : Cond) ∈ gtbl := gt_of 768 (by decide +kernel) (by decide +kernel)
theorem ki_X1_flip : (.instanceMethod yX1_flip : Cond) ∈ gtbl := gt_of 739 (by decide +kernel) (by decide +kernel)
theorem ks_X1_flip : (.selects RX1 yX1_flip yX1_flip : Cond) ∈ gtbl := gt_of 45 (by decide +kernel) (by decide +kernel)
theorem kc_X1_flip : (.code yX1_flip cX1_flip 4 (some .boolean) : Cond) ∈ gtbl := gt_of 740 (by decide +kernel) (by decide +kernel)
theorem ki_X1_init : (.instanceMethod yX1_init : Cond) ∈ gtbl := gt_of 233 (by decide +kernel) (by decide +kernel)
theorem kc_X1_init : (.code yX1_init cX1_init 4 none : Cond) ∈ gtbl := gt_of 234 (by decide +kernel) (by decide +kernel)
theorem ki_X1_jump : (.instanceMethod yX1_jump : Cond) ∈ gtbl := gt_of 677 (by decide +kernel) (by decide +kernel)
theorem ks_X1_jump : (.selects RX1 yX1_jump yX1_jump : Cond) ∈ gtbl := gt_of 30 (by decide +kernel) (by decide +kernel)
theorem kc_X1_jump : (.code yX1_jump cX1_jump 2 none : Cond) ∈ gtbl := gt_of 678 (by decide +kernel) (by decide +kernel)
theorem ki_X1_leave : (.instanceMethod yX1_leave : Cond) ∈ gtbl := gt_of 694 (by decide +kernel) (by decide +kernel)
theorem ks_X1_leave : (.selects RX1 yX1_leave yX1_leave : Cond) ∈ gtbl := gt_of 34 (by decide +kernel) (by decide +kernel)
theorem kc_X1_leave : (.code yX1_leave cX1_leave 1 (some .int) : Cond) ∈ gtbl := gt_of 695 (by decide +kernel) (by decide +kernel)
theorem ki_X1_loadVariables : (.instanceMethod yX1_loadVariables : Cond) ∈ gtbl := gt_of 763 (by decide +kernel) (by decide +kernel)
theorem ks_X1_loadVariables : (.selects RX1 yX1_loadVariables yX1_loadVariables : Cond) ∈ gtbl := gt_of 50 (by decide +kernel) (by decide +kernel)
theorem kc_X1_loadVariables : (.code yX1_loadVariables cX1_loadVariables 3 none : Cond) ∈ gtbl := gt_of 764 (by decide +kernel) (by decide +kernel)
theorem ki_X1_part : (.instanceMethod yX1_part : Cond) ∈ gtbl := gt_of 835 (by decide +kernel) (by decide +kernel)
theorem ks_X1_part : (.selects RX1 yX1_part yX1_part : Cond) ∈ gtbl := gt_of 836 (by decide +kernel) (by decide +kernel)
theorem kc_X1_part : (.code yX1_part cX1_part 2 (some .int) : Cond) ∈ gtbl := gt_of 837 (by decide +kernel) (by decide +kernel)
theorem ki_X1_putDigits : (.instanceMethod yX1_putDigits : Cond) ∈ gtbl := gt_of 755 (by decide +kernel) (by decide +kernel)
theorem ks_X1_putDigits : (.selects RX1 yX1_putDigits yX1_putDigits : Cond) ∈ gtbl := gt_of 48 (by decide +kernel) (by decide +kernel)
theorem kc_X1_putDigits : (.code yX1_putDigits cX1_putDigits 2 none : Cond) ∈ gtbl := gt_of 756 (by decide +kernel) (by decide +kernel)
theorem ki_X1_putIndex : (.instanceMethod yX1_putIndex : Cond) ∈ gtbl := gt_of 726 (by decide +kernel) (by decide +kernel)
theorem ks_X1_putIndex : (.selects RX1 yX1_putIndex yX1_putIndex : Cond) ∈ gtbl := gt_of 42 (by decide +kernel) (by decide +kernel)
theorem kc_X1_putIndex : (.code yX1_putIndex cX1_putIndex 2 none : Cond) ∈ gtbl := gt_of 727 (by decide +kernel) (by decide +kernel)
theorem ki_X1_putVariable : (.instanceMethod yX1_putVariable : Cond) ∈ gtbl := gt_of 714 (by decide +kernel) (by decide +kernel)
theorem ks_X1_putVariable : (.selects RX1 yX1_putVariable yX1_putVariable : Cond) ∈ gtbl := gt_of 39 (by decide +kernel) (by decide +kernel)
theorem kc_X1_putVariable : (.code yX1_putVariable cX1_putVariable 3 none : Cond) ∈ gtbl := gt_of 715 (by decide +kernel) (by decide +kernel)
theorem ki_X1_putWithFlag : (.instanceMethod yX1_putWithFlag : Cond) ∈ gtbl := gt_of 722 (by decide +kernel) (by decide +kernel)
theorem ks_X1_putWithFlag : (.selects RX1 yX1_putWithFlag yX1_putWithFlag : Cond) ∈ gtbl := gt_of 41 (by decide +kernel) (by decide +kernel)
theorem kc_X1_putWithFlag : (.code yX1_putWithFlag cX1_putWithFlag 4 (some .int) : Cond) ∈ gtbl := gt_of 723 (by decide +kernel) (by decide +kernel)
theorem ki_X1_restart : (.instanceMethod yX1_restart : Cond) ∈ gtbl := gt_of 847 (by decide +kernel) (by decide +kernel)
theorem ks_X1_restart : (.selects RX1 yX1_restart yX1_restart : Cond) ∈ gtbl := gt_of 848 (by decide +kernel) (by decide +kernel)
theorem kc_X1_restart : (.code yX1_restart cX1_restart 2 none : Cond) ∈ gtbl := gt_of 849 (by decide +kernel) (by decide +kernel)
theorem ki_X1_saveVariables : (.instanceMethod yX1_saveVariables : Cond) ∈ gtbl := gt_of 759 (by decide +kernel) (by decide +kernel)
theorem ks_X1_saveVariables : (.selects RX1 yX1_saveVariables yX1_saveVariables : Cond) ∈ gtbl := gt_of 49 (by decide +kernel) (by decide +kernel)
theorem kc_X1_saveVariables : (.code yX1_saveVariables cX1_saveVariables 3 none : Cond) ∈ gtbl := gt_of 760 (by decide +kernel) (by decide +kernel)
theorem ki_X1_skipByKey : (.instanceMethod yX1_skipByKey : Cond) ∈ gtbl := gt_of 747 (by decide +kernel) (by decide +kernel)
theorem ks_X1_skipByKey : (.selects RX1 yX1_skipByKey yX1_skipByKey : Cond) ∈ gtbl := gt_of 46 (by decide +kernel) (by decide +kernel)
theorem kc_X1_skipByKey : (.code yX1_skipByKey cX1_skipByKey 3 (some .int) : Cond) ∈ gtbl := gt_of 748 (by decide +kernel) (by decide +kernel)
theorem ki_X1_skipIf : (.instanceMethod yX1_skipIf : Cond) ∈ gtbl := gt_of 706 (by decide +kernel) (by decide +kernel)
theorem ks_X1_skipIf : (.selects RX1 yX1_skipIf yX1_skipIf : Cond) ∈ gtbl := gt_of 37 (by decide +kernel) (by decide +kernel)
theorem kc_X1_skipIf : (.code yX1_skipIf cX1_skipIf 2 (some .int) : Cond) ∈ gtbl := gt_of 707 (by decide +kernel) (by decide +kernel)
theorem ki_X1_step : (.instanceMethod yX1_step : Cond) ∈ gtbl := gt_of 671 (by decide +kernel) (by decide +kernel)
theorem ks_X1_step : (.selects RX1 yX1_step yX1_step : Cond) ∈ gtbl := gt_of 672 (by decide +kernel) (by decide +kernel)
theorem kc_X1_step : (.code yX1_step cX1_step 4 (some .int) : Cond) ∈ gtbl := gt_of 673 (by decide +kernel) (by decide +kernel)
theorem ki_X1_takeKey : (.instanceMethod yX1_takeKey : Cond) ∈ gtbl := gt_of 775 (by decide +kernel) (by decide +kernel)
theorem ks_X1_takeKey : (.selects RX1 yX1_takeKey yX1_takeKey : Cond) ∈ gtbl := gt_of 52 (by decide +kernel) (by decide +kernel)
theorem kc_X1_takeKey : (.code yX1_takeKey cX1_takeKey 3 (some .int) : Cond) ∈ gtbl := gt_of 776 (by decide +kernel) (by decide +kernel)
theorem ki_X1_variable : (.instanceMethod yX1_variable : Cond) ∈ gtbl := gt_of 702 (by decide +kernel) (by decide +kernel)
theorem ks_X1_variable : (.selects RX1 yX1_variable yX1_variable : Cond) ∈ gtbl := gt_of 36 (by decide +kernel) (by decide +kernel)
theorem kc_X1_variable : (.code yX1_variable cX1_variable 2 (some .int) : Cond) ∈ gtbl := gt_of 703 (by decide +kernel) (by decide +kernel)
theorem ki_X2_init : (.instanceMethod yX2_init : Cond) ∈ gtbl := gt_of 121 (by decide +kernel) (by decide +kernel)
theorem kc_X2_init : (.code yX2_init cX2_init 1 none : Cond) ∈ gtbl := gt_of 122 (by decide +kernel) (by decide +kernel)
theorem ki_X2_pair : (.instanceMethod yX2_pair : Cond) ∈ gtbl := gt_of 554 (by decide +kernel) (by decide +kernel)
theorem ks_X2_pair : (.selects RX2 yX2_pair yX2_pair : Cond) ∈ gtbl := gt_of 555 (by decide +kernel) (by decide +kernel)
theorem kc_X2_pair : (.code yX2_pair cX2_pair 2 (some .int) : Cond) ∈ gtbl := gt_of 556 (by decide +kernel) (by decide +kernel)
theorem ki_X2_read : (.instanceMethod yX2_read : Cond) ∈ gtbl := gt_of 288 (by decide +kernel) (by decide +kernel)
theorem ks_X2_read : (.selects RX2 yX2_read yX2_read : Cond) ∈ gtbl := gt_of 289 (by decide +kernel) (by decide +kernel)
theorem kc_X2_read : (.code yX2_read cX2_read 2 (some .int) : Cond) ∈ gtbl := gt_of 290 (by decide +kernel) (by decide +kernel)
theorem ki_X2_write : (.instanceMethod yX2_write : Cond) ∈ gtbl := gt_of 370 (by decide +kernel) (by decide +kernel)
theorem ks_X2_write : (.selects RX2 yX2_write yX2_write : Cond) ∈ gtbl := gt_of 371 (by decide +kernel) (by decide +kernel)
theorem kc_X2_write : (.code yX2_write cX2_write 3 none : Cond) ∈ gtbl := gt_of 372 (by decide +kernel) (by decide +kernel)
theorem ki_X3_endLine : (.instanceMethod yX3_endLine : Cond) ∈ gtbl := gt_of 572 (by decide +kernel) (by decide +kernel)
theorem ks_X3_endLine : (.selects RX3 yX3_endLine yX3_endLine : Cond) ∈ gtbl := gt_of 26 (by decide +kernel) (by decide +kernel)
theorem kc_X3_endLine : (.code yX3_endLine cX3_endLine 1 none : Cond) ∈ gtbl := gt_of 573 (by decide +kernel) (by decide +kernel)
theorem ki_X3_fetchedByte : (.instanceMethod yX3_fetchedByte : Cond) ∈ gtbl := gt_of 657 (by decide +kernel) (by decide +kernel)
theorem ks_X3_fetchedByte : (.selects RX3 yX3_fetchedByte yX3_fetchedByte : Cond) ∈ gtbl := gt_of 658 (by decide +kernel) (by decide +kernel)
theorem kc_X3_fetchedByte : (.code yX3_fetchedByte cX3_fetchedByte 3 (some .int) : Cond) ∈ gtbl := gt_of 659 (by decide +kernel) (by decide +kernel)
theorem ki_X3_flag : (.instanceMethod yX3_flag : Cond) ∈ gtbl := gt_of 480 (by decide +kernel) (by decide +kernel)
theorem ks_X3_flag : (.selects RX3 yX3_flag yX3_flag : Cond) ∈ gtbl := gt_of 481 (by decide +kernel) (by decide +kernel)
theorem kc_X3_flag : (.code yX3_flag cX3_flag 1 (some .boolean) : Cond) ∈ gtbl := gt_of 482 (by decide +kernel) (by decide +kernel)
theorem ki_X3_init : (.instanceMethod yX3_init : Cond) ∈ gtbl := gt_of 159 (by decide +kernel) (by decide +kernel)
theorem kc_X3_init : (.code yX3_init cX3_init 2 none : Cond) ∈ gtbl := gt_of 160 (by decide +kernel) (by decide +kernel)
theorem ki_X3_interruptIsDue : (.instanceMethod yX3_interruptIsDue : Cond) ∈ gtbl := gt_of 614 (by decide +kernel) (by decide +kernel)
theorem ks_X3_interruptIsDue : (.selects RX3 yX3_interruptIsDue yX3_interruptIsDue : Cond) ∈ gtbl := gt_of 615 (by decide +kernel) (by decide +kernel)
theorem kc_X3_interruptIsDue : (.code yX3_interruptIsDue cX3_interruptIsDue 1 (some .boolean) : Cond) ∈ gtbl := gt_of 616 (by decide +kernel) (by decide +kernel)
theorem ki_X3_isShownLine : (.instanceMethod yX3_isShownLine : Cond) ∈ gtbl := gt_of 588 (by decide +kernel) (by decide +kernel)
theorem ks_X3_isShownLine : (.selects RX3 yX3_isShownLine yX3_isShownLine : Cond) ∈ gtbl := gt_of 28 (by decide +kernel) (by decide +kernel)
theorem kc_X3_isShownLine : (.code yX3_isShownLine cX3_isShownLine 1 (some .boolean) : Cond) ∈ gtbl := gt_of 589 (by decide +kernel) (by decide +kernel)
theorem ki_X3_keep : (.instanceMethod yX3_keep : Cond) ∈ gtbl := gt_of 599 (by decide +kernel) (by decide +kernel)
theorem ks_X3_keep : (.selects RX3 yX3_keep yX3_keep : Cond) ∈ gtbl := gt_of 600 (by decide +kernel) (by decide +kernel)
theorem kc_X3_keep : (.code yX3_keep cX3_keep 3 none : Cond) ∈ gtbl := gt_of 601 (by decide +kernel) (by decide +kernel)
theorem ki_X3_noteFetch : (.instanceMethod yX3_noteFetch : Cond) ∈ gtbl := gt_of 606 (by decide +kernel) (by decide +kernel)
theorem ks_X3_noteFetch : (.selects RX3 yX3_noteFetch yX3_noteFetch : Cond) ∈ gtbl := gt_of 607 (by decide +kernel) (by decide +kernel)
theorem kc_X3_noteFetch : (.code yX3_noteFetch cX3_noteFetch 1 none : Cond) ∈ gtbl := gt_of 608 (by decide +kernel) (by decide +kernel)
theorem ki_X3_noteInterrupt : (.instanceMethod yX3_noteInterrupt : Cond) ∈ gtbl := gt_of 627 (by decide +kernel) (by decide +kernel)
theorem ks_X3_noteInterrupt : (.selects RX3 yX3_noteInterrupt yX3_noteInterrupt : Cond) ∈ gtbl := gt_of 628 (by decide +kernel) (by decide +kernel)
theorem kc_X3_noteInterrupt : (.code yX3_noteInterrupt cX3_noteInterrupt 1 none : Cond) ∈ gtbl := gt_of 629 (by decide +kernel) (by decide +kernel)
theorem ki_X3_part : (.instanceMethod yX3_part : Cond) ∈ gtbl := gt_of 643 (by decide +kernel) (by decide +kernel)
theorem ks_X3_part : (.selects RX3 yX3_part yX3_part : Cond) ∈ gtbl := gt_of 644 (by decide +kernel) (by decide +kernel)
theorem kc_X3_part : (.code yX3_part cX3_part 2 (some .int) : Cond) ∈ gtbl := gt_of 645 (by decide +kernel) (by decide +kernel)
theorem ki_X3_pass : (.instanceMethod yX3_pass : Cond) ∈ gtbl := gt_of 567 (by decide +kernel) (by decide +kernel)
theorem ks_X3_pass : (.selects RX3 yX3_pass yX3_pass : Cond) ∈ gtbl := gt_of 568 (by decide +kernel) (by decide +kernel)
theorem kc_X3_pass : (.code yX3_pass cX3_pass 2 none : Cond) ∈ gtbl := gt_of 569 (by decide +kernel) (by decide +kernel)
theorem ki_X3_rowIsDue : (.instanceMethod yX3_rowIsDue : Cond) ∈ gtbl := gt_of 583 (by decide +kernel) (by decide +kernel)
theorem ks_X3_rowIsDue : (.selects RX3 yX3_rowIsDue yX3_rowIsDue : Cond) ∈ gtbl := gt_of 584 (by decide +kernel) (by decide +kernel)
theorem kc_X3_rowIsDue : (.code yX3_rowIsDue cX3_rowIsDue 1 (some .boolean) : Cond) ∈ gtbl := gt_of 585 (by decide +kernel) (by decide +kernel)
theorem kt_X3_spot : (.static yX3_spot : Cond) ∈ gtbl := gt_of 603 (by decide +kernel) (by decide +kernel)
theorem kc_X3_spot : (.code yX3_spot cX3_spot 2 (some .int) : Cond) ∈ gtbl := gt_of 604 (by decide +kernel) (by decide +kernel)
theorem ki_X3_switchTo : (.instanceMethod yX3_switchTo : Cond) ∈ gtbl := gt_of 502 (by decide +kernel) (by decide +kernel)
theorem ks_X3_switchTo : (.selects RX3 yX3_switchTo yX3_switchTo : Cond) ∈ gtbl := gt_of 503 (by decide +kernel) (by decide +kernel)
theorem kc_X3_switchTo : (.code yX3_switchTo cX3_switchTo 2 none : Cond) ∈ gtbl := gt_of 504 (by decide +kernel) (by decide +kernel)
theorem ki_X4_act : (.instanceMethod yX4_act : Cond) ∈ gtbl := gt_of 447 (by decide +kernel) (by decide +kernel)
theorem ks_X4_act : (.selects RX4 yX4_act yX4_act : Cond) ∈ gtbl := gt_of 448 (by decide +kernel) (by decide +kernel)
theorem kc_X4_act : (.code yX4_act cX4_act 2 (some .int) : Cond) ∈ gtbl := gt_of 449 (by decide +kernel) (by decide +kernel)
theorem ki_X4_add : (.instanceMethod yX4_add : Cond) ∈ gtbl := gt_of 539 (by decide +kernel) (by decide +kernel)
theorem ks_X4_add : (.selects RX4 yX4_add yX4_add : Cond) ∈ gtbl := gt_of 20 (by decide +kernel) (by decide +kernel)
theorem kc_X4_add : (.code yX4_add cX4_add 4 none : Cond) ∈ gtbl := gt_of 540 (by decide +kernel) (by decide +kernel)
theorem ki_X4_allowsInterrupt : (.instanceMethod yX4_allowsInterrupt : Cond) ∈ gtbl := gt_of 618 (by decide +kernel) (by decide +kernel)
theorem ks_X4_allowsInterrupt : (.selects RX4 yX4_allowsInterrupt yX4_allowsInterrupt : Cond) ∈ gtbl := gt_of 619 (by decide +kernel) (by decide +kernel)
theorem kc_X4_allowsInterrupt : (.code yX4_allowsInterrupt cX4_allowsInterrupt 1 (some .boolean) : Cond) ∈ gtbl := gt_of 620 (by decide +kernel) (by decide +kernel)
theorem ki_X4_at : (.instanceMethod yX4_at : Cond) ∈ gtbl := gt_of 465 (by decide +kernel) (by decide +kernel)
theorem ks_X4_at : (.selects RX4 yX4_at yX4_at : Cond) ∈ gtbl := gt_of 6 (by decide +kernel) (by decide +kernel)
theorem kc_X4_at : (.code yX4_at cX4_at 2 (some .int) : Cond) ∈ gtbl := gt_of 466 (by decide +kernel) (by decide +kernel)
theorem ki_X4_branch : (.instanceMethod yX4_branch : Cond) ∈ gtbl := gt_of 473 (by decide +kernel) (by decide +kernel)
theorem ks_X4_branch : (.selects RX4 yX4_branch yX4_branch : Cond) ∈ gtbl := gt_of 8 (by decide +kernel) (by decide +kernel)
theorem kc_X4_branch : (.code yX4_branch cX4_branch 2 none : Cond) ∈ gtbl := gt_of 474 (by decide +kernel) (by decide +kernel)
theorem ki_X4_branchFar : (.instanceMethod yX4_branchFar : Cond) ∈ gtbl := gt_of 551 (by decide +kernel) (by decide +kernel)
theorem ks_X4_branchFar : (.selects RX4 yX4_branchFar yX4_branchFar : Cond) ∈ gtbl := gt_of 23 (by decide +kernel) (by decide +kernel)
theorem kc_X4_branchFar : (.code yX4_branchFar cX4_branchFar 2 none : Cond) ∈ gtbl := gt_of 552 (by decide +kernel) (by decide +kernel)
theorem ki_X4_calculate : (.instanceMethod yX4_calculate : Cond) ∈ gtbl := gt_of 564 (by decide +kernel) (by decide +kernel)
theorem ks_X4_calculate : (.selects RX4 yX4_calculate yX4_calculate : Cond) ∈ gtbl := gt_of 25 (by decide +kernel) (by decide +kernel)
theorem kc_X4_calculate : (.code yX4_calculate cX4_calculate 2 none : Cond) ∈ gtbl := gt_of 565 (by decide +kernel) (by decide +kernel)
theorem ki_X4_change : (.instanceMethod yX4_change : Cond) ∈ gtbl := gt_of 419 (by decide +kernel) (by decide +kernel)
theorem ks_X4_change : (.selects RX4 yX4_change yX4_change : Cond) ∈ gtbl := gt_of 420 (by decide +kernel) (by decide +kernel)
theorem kc_X4_change : (.code yX4_change cX4_change 3 none : Cond) ∈ gtbl := gt_of 421 (by decide +kernel) (by decide +kernel)
theorem ki_X4_combine : (.instanceMethod yX4_combine : Cond) ∈ gtbl := gt_of 535 (by decide +kernel) (by decide +kernel)
theorem ks_X4_combine : (.selects RX4 yX4_combine yX4_combine : Cond) ∈ gtbl := gt_of 19 (by decide +kernel) (by decide +kernel)
theorem kc_X4_combine : (.code yX4_combine cX4_combine 5 none : Cond) ∈ gtbl := gt_of 536 (by decide +kernel) (by decide +kernel)
theorem ki_X4_control : (.instanceMethod yX4_control : Cond) ∈ gtbl := gt_of 511 (by decide +kernel) (by decide +kernel)
theorem ks_X4_control : (.selects RX4 yX4_control yX4_control : Cond) ∈ gtbl := gt_of 13 (by decide +kernel) (by decide +kernel)
theorem kc_X4_control : (.code yX4_control cX4_control 2 none : Cond) ∈ gtbl := gt_of 512 (by decide +kernel) (by decide +kernel)
theorem ki_X4_execute : (.instanceMethod yX4_execute : Cond) ∈ gtbl := gt_of 457 (by decide +kernel) (by decide +kernel)
theorem ks_X4_execute : (.selects RX4 yX4_execute yX4_execute : Cond) ∈ gtbl := gt_of 4 (by decide +kernel) (by decide +kernel)
theorem kc_X4_execute : (.code yX4_execute cX4_execute 3 none : Cond) ∈ gtbl := gt_of 458 (by decide +kernel) (by decide +kernel)
theorem ki_X4_goFar : (.instanceMethod yX4_goFar : Cond) ∈ gtbl := gt_of 547 (by decide +kernel) (by decide +kernel)
theorem ks_X4_goFar : (.selects RX4 yX4_goFar yX4_goFar : Cond) ∈ gtbl := gt_of 22 (by decide +kernel) (by decide +kernel)
theorem kc_X4_goFar : (.code yX4_goFar cX4_goFar 2 none : Cond) ∈ gtbl := gt_of 548 (by decide +kernel) (by decide +kernel)
theorem ki_X4_grow : (.instanceMethod yX4_grow : Cond) ∈ gtbl := gt_of 469 (by decide +kernel) (by decide +kernel)
theorem ks_X4_grow : (.selects RX4 yX4_grow yX4_grow : Cond) ∈ gtbl := gt_of 7 (by decide +kernel) (by decide +kernel)
theorem kc_X4_grow : (.code yX4_grow cX4_grow 3 none : Cond) ∈ gtbl := gt_of 470 (by decide +kernel) (by decide +kernel)
theorem ki_X4_holds : (.instanceMethod yX4_holds : Cond) ∈ gtbl := gt_of 477 (by decide +kernel) (by decide +kernel)
theorem ks_X4_holds : (.selects RX4 yX4_holds yX4_holds : Cond) ∈ gtbl := gt_of 9 (by decide +kernel) (by decide +kernel)
theorem kc_X4_holds : (.code yX4_holds cX4_holds 3 (some .boolean) : Cond) ∈ gtbl := gt_of 478 (by decide +kernel) (by decide +kernel)
theorem ki_X4_init : (.instanceMethod yX4_init : Cond) ∈ gtbl := gt_of 190 (by decide +kernel) (by decide +kernel)
theorem kc_X4_init : (.code yX4_init cX4_init 4 none : Cond) ∈ gtbl := gt_of 191 (by decide +kernel) (by decide +kernel)
theorem ki_X4_interrupt : (.instanceMethod yX4_interrupt : Cond) ∈ gtbl := gt_of 622 (by decide +kernel) (by decide +kernel)
theorem ks_X4_interrupt : (.selects RX4 yX4_interrupt yX4_interrupt : Cond) ∈ gtbl := gt_of 623 (by decide +kernel) (by decide +kernel)
theorem kc_X4_interrupt : (.code yX4_interrupt cX4_interrupt 1 none : Cond) ∈ gtbl := gt_of 624 (by decide +kernel) (by decide +kernel)
theorem ki_X4_loadOrIdle : (.instanceMethod yX4_loadOrIdle : Cond) ∈ gtbl := gt_of 461 (by decide +kernel) (by decide +kernel)
theorem ks_X4_loadOrIdle : (.selects RX4 yX4_loadOrIdle yX4_loadOrIdle : Cond) ∈ gtbl := gt_of 5 (by decide +kernel) (by decide +kernel)
theorem kc_X4_loadOrIdle : (.code yX4_loadOrIdle cX4_loadOrIdle 2 none : Cond) ∈ gtbl := gt_of 462 (by decide +kernel) (by decide +kernel)
theorem ki_X4_mark : (.instanceMethod yX4_mark : Cond) ∈ gtbl := gt_of 523 (by decide +kernel) (by decide +kernel)
theorem ks_X4_mark : (.selects RX4 yX4_mark yX4_mark : Cond) ∈ gtbl := gt_of 16 (by decide +kernel) (by decide +kernel)
theorem kc_X4_mark : (.code yX4_mark cX4_mark 1 none : Cond) ∈ gtbl := gt_of 524 (by decide +kernel) (by decide +kernel)
theorem kt_X4_mostOf : (.static yX4_mostOf : Cond) ∈ gtbl := gt_of 414 (by decide +kernel) (by decide +kernel)
theorem kc_X4_mostOf : (.code yX4_mostOf cX4_mostOf 1 (some .int) : Cond) ∈ gtbl := gt_of 415 (by decide +kernel) (by decide +kernel)
theorem ki_X4_operand : (.instanceMethod yX4_operand : Cond) ∈ gtbl := gt_of 531 (by decide +kernel) (by decide +kernel)
theorem ks_X4_operand : (.selects RX4 yX4_operand yX4_operand : Cond) ∈ gtbl := gt_of 18 (by decide +kernel) (by decide +kernel)
theorem kc_X4_operand : (.code yX4_operand cX4_operand 2 (some .int) : Cond) ∈ gtbl := gt_of 532 (by decide +kernel) (by decide +kernel)
theorem ki_X4_output : (.instanceMethod yX4_output : Cond) ∈ gtbl := gt_of 499 (by decide +kernel) (by decide +kernel)
theorem ks_X4_output : (.selects RX4 yX4_output yX4_output : Cond) ∈ gtbl := gt_of 12 (by decide +kernel) (by decide +kernel)
theorem kc_X4_output : (.code yX4_output cX4_output 3 none : Cond) ∈ gtbl := gt_of 500 (by decide +kernel) (by decide +kernel)
theorem ki_X4_part : (.instanceMethod yX4_part : Cond) ∈ gtbl := gt_of 398 (by decide +kernel) (by decide +kernel)
theorem ks_X4_part : (.selects RX4 yX4_part yX4_part : Cond) ∈ gtbl := gt_of 399 (by decide +kernel) (by decide +kernel)
theorem kc_X4_part : (.code yX4_part cX4_part 2 (some .int) : Cond) ∈ gtbl := gt_of 400 (by decide +kernel) (by decide +kernel)
theorem ki_X4_putAt : (.instanceMethod yX4_putAt : Cond) ∈ gtbl := gt_of 490 (by decide +kernel) (by decide +kernel)
theorem ks_X4_putAt : (.selects RX4 yX4_putAt yX4_putAt : Cond) ∈ gtbl := gt_of 10 (by decide +kernel) (by decide +kernel)
theorem kc_X4_putAt : (.code yX4_putAt cX4_putAt 3 none : Cond) ∈ gtbl := gt_of 491 (by decide +kernel) (by decide +kernel)
theorem ki_X4_putRegister : (.instanceMethod yX4_putRegister : Cond) ∈ gtbl := gt_of 424 (by decide +kernel) (by decide +kernel)
theorem ks_X4_putRegister : (.selects RX4 yX4_putRegister yX4_putRegister : Cond) ∈ gtbl := gt_of 2 (by decide +kernel) (by decide +kernel)
theorem kc_X4_putRegister : (.code yX4_putRegister cX4_putRegister 3 none : Cond) ∈ gtbl := gt_of 425 (by decide +kernel) (by decide +kernel)
theorem ki_X4_register : (.instanceMethod yX4_register : Cond) ∈ gtbl := gt_of 403 (by decide +kernel) (by decide +kernel)
theorem ks_X4_register : (.selects RX4 yX4_register yX4_register : Cond) ∈ gtbl := gt_of 1 (by decide +kernel) (by decide +kernel)
theorem kc_X4_register : (.code yX4_register cX4_register 2 (some .int) : Cond) ∈ gtbl := gt_of 404 (by decide +kernel) (by decide +kernel)
theorem ki_X4_resume : (.instanceMethod yX4_resume : Cond) ∈ gtbl := gt_of 515 (by decide +kernel) (by decide +kernel)
theorem ks_X4_resume : (.selects RX4 yX4_resume yX4_resume : Cond) ∈ gtbl := gt_of 14 (by decide +kernel) (by decide +kernel)
theorem kc_X4_resume : (.code yX4_resume cX4_resume 3 none : Cond) ∈ gtbl := gt_of 516 (by decide +kernel) (by decide +kernel)
theorem ki_X4_shiftLeft : (.instanceMethod yX4_shiftLeft : Cond) ∈ gtbl := gt_of 527 (by decide +kernel) (by decide +kernel)
theorem ks_X4_shiftLeft : (.selects RX4 yX4_shiftLeft yX4_shiftLeft : Cond) ∈ gtbl := gt_of 17 (by decide +kernel) (by decide +kernel)
theorem kc_X4_shiftLeft : (.code yX4_shiftLeft cX4_shiftLeft 3 none : Cond) ∈ gtbl := gt_of 528 (by decide +kernel) (by decide +kernel)
theorem ki_X4_shiftRight : (.instanceMethod yX4_shiftRight : Cond) ∈ gtbl := gt_of 519 (by decide +kernel) (by decide +kernel)
theorem ks_X4_shiftRight : (.selects RX4 yX4_shiftRight yX4_shiftRight : Cond) ∈ gtbl := gt_of 15 (by decide +kernel) (by decide +kernel)
theorem kc_X4_shiftRight : (.code yX4_shiftRight cX4_shiftRight 3 none : Cond) ∈ gtbl := gt_of 520 (by decide +kernel) (by decide +kernel)
theorem ki_X4_skips : (.instanceMethod yX4_skips : Cond) ∈ gtbl := gt_of 560 (by decide +kernel) (by decide +kernel)
theorem ks_X4_skips : (.selects RX4 yX4_skips yX4_skips : Cond) ∈ gtbl := gt_of 24 (by decide +kernel) (by decide +kernel)
theorem kc_X4_skips : (.code yX4_skips cX4_skips 2 (some .boolean) : Cond) ∈ gtbl := gt_of 561 (by decide +kernel) (by decide +kernel)
theorem ki_X4_subtract : (.instanceMethod yX4_subtract : Cond) ∈ gtbl := gt_of 543 (by decide +kernel) (by decide +kernel)
theorem ks_X4_subtract : (.selects RX4 yX4_subtract yX4_subtract : Cond) ∈ gtbl := gt_of 21 (by decide +kernel) (by decide +kernel)
theorem kc_X4_subtract : (.code yX4_subtract cX4_subtract 5 none : Cond) ∈ gtbl := gt_of 544 (by decide +kernel) (by decide +kernel)
theorem ki_X4_take : (.instanceMethod yX4_take : Cond) ∈ gtbl := gt_of 452 (by decide +kernel) (by decide +kernel)
theorem ks_X4_take : (.selects RX4 yX4_take yX4_take : Cond) ∈ gtbl := gt_of 3 (by decide +kernel) (by decide +kernel)
theorem kc_X4_take : (.code yX4_take cX4_take 3 (some .int) : Cond) ∈ gtbl := gt_of 453 (by decide +kernel) (by decide +kernel)
theorem ki_X4_takeByte : (.instanceMethod yX4_takeByte : Cond) ∈ gtbl := gt_of 595 (by decide +kernel) (by decide +kernel)
theorem ks_X4_takeByte : (.selects RX4 yX4_takeByte yX4_takeByte : Cond) ∈ gtbl := gt_of 596 (by decide +kernel) (by decide +kernel)
theorem kc_X4_takeByte : (.code yX4_takeByte cX4_takeByte 1 (some .int) : Cond) ∈ gtbl := gt_of 597 (by decide +kernel) (by decide +kernel)
theorem ki_X4_transfer : (.instanceMethod yX4_transfer : Cond) ∈ gtbl := gt_of 495 (by decide +kernel) (by decide +kernel)
theorem ks_X4_transfer : (.selects RX4 yX4_transfer yX4_transfer : Cond) ∈ gtbl := gt_of 11 (by decide +kernel) (by decide +kernel)
theorem kc_X4_transfer : (.code yX4_transfer cX4_transfer 2 none : Cond) ∈ gtbl := gt_of 496 (by decide +kernel) (by decide +kernel)
theorem ki_X4_wake : (.instanceMethod yX4_wake : Cond) ∈ gtbl := gt_of 610 (by decide +kernel) (by decide +kernel)
theorem ks_X4_wake : (.selects RX4 yX4_wake yX4_wake : Cond) ∈ gtbl := gt_of 611 (by decide +kernel) (by decide +kernel)
theorem kc_X4_wake : (.code yX4_wake cX4_wake 1 none : Cond) ∈ gtbl := gt_of 612 (by decide +kernel) (by decide +kernel)
theorem ki_X5_delay : (.instanceMethod yX5_delay : Cond) ∈ gtbl := gt_of 770 (by decide +kernel) (by decide +kernel)
theorem ks_X5_delay : (.selects RX5 yX5_delay yX5_delay : Cond) ∈ gtbl := gt_of 771 (by decide +kernel) (by decide +kernel)
theorem kc_X5_delay : (.code yX5_delay cX5_delay 1 (some .int) : Cond) ∈ gtbl := gt_of 772 (by decide +kernel) (by decide +kernel)
theorem ki_X5_fall : (.instanceMethod yX5_fall : Cond) ∈ gtbl := gt_of 575 (by decide +kernel) (by decide +kernel)
theorem ks_X5_fall : (.selects RX5 yX5_fall yX5_fall : Cond) ∈ gtbl := gt_of 576 (by decide +kernel) (by decide +kernel)
theorem kc_X5_fall : (.code yX5_fall cX5_fall 1 none : Cond) ∈ gtbl := gt_of 577 (by decide +kernel) (by decide +kernel)
theorem ki_X5_init : (.instanceMethod yX5_init : Cond) ∈ gtbl := gt_of 146 (by decide +kernel) (by decide +kernel)
theorem kc_X5_init : (.code yX5_init cX5_init 1 none : Cond) ∈ gtbl := gt_of 147 (by decide +kernel) (by decide +kernel)
theorem ki_X5_setDelay : (.instanceMethod yX5_setDelay : Cond) ∈ gtbl := gt_of 782 (by decide +kernel) (by decide +kernel)
theorem ks_X5_setDelay : (.selects RX5 yX5_setDelay yX5_setDelay : Cond) ∈ gtbl := gt_of 783 (by decide +kernel) (by decide +kernel)
theorem kc_X5_setDelay : (.code yX5_setDelay cX5_setDelay 2 none : Cond) ∈ gtbl := gt_of 784 (by decide +kernel) (by decide +kernel)
theorem ki_X5_setTone : (.instanceMethod yX5_setTone : Cond) ∈ gtbl := gt_of 786 (by decide +kernel) (by decide +kernel)
theorem ks_X5_setTone : (.selects RX5 yX5_setTone yX5_setTone : Cond) ∈ gtbl := gt_of 787 (by decide +kernel) (by decide +kernel)
theorem kc_X5_setTone : (.code yX5_setTone cX5_setTone 2 none : Cond) ∈ gtbl := gt_of 788 (by decide +kernel) (by decide +kernel)
theorem ki_X5_tone : (.instanceMethod yX5_tone : Cond) ∈ gtbl := gt_of 831 (by decide +kernel) (by decide +kernel)
theorem ks_X5_tone : (.selects RX5 yX5_tone yX5_tone : Cond) ∈ gtbl := gt_of 832 (by decide +kernel) (by decide +kernel)
theorem kc_X5_tone : (.code yX5_tone cX5_tone 1 (some .int) : Cond) ∈ gtbl := gt_of 833 (by decide +kernel) (by decide +kernel)
theorem ki_X6_chip : (.instanceMethod yX6_chip : Cond) ∈ gtbl := gt_of 666 (by decide +kernel) (by decide +kernel)
theorem ks_X6_chip : (.selects RX6 yX6_chip yX6_chip : Cond) ∈ gtbl := gt_of 667 (by decide +kernel) (by decide +kernel)
theorem kc_X6_chip : (.code yX6_chip cX6_chip 4 (some .int) : Cond) ∈ gtbl := gt_of 668 (by decide +kernel) (by decide +kernel)
theorem ki_X6_cpu : (.instanceMethod yX6_cpu : Cond) ∈ gtbl := gt_of 378 (by decide +kernel) (by decide +kernel)
theorem ks_X6_cpu : (.selects RX6 yX6_cpu yX6_cpu : Cond) ∈ gtbl := gt_of 379 (by decide +kernel) (by decide +kernel)
theorem kc_X6_cpu : (.code yX6_cpu cX6_cpu 2 (some .int) : Cond) ∈ gtbl := gt_of 380 (by decide +kernel) (by decide +kernel)
theorem ki_X6_fetchRow : (.instanceMethod yX6_fetchRow : Cond) ∈ gtbl := gt_of 592 (by decide +kernel) (by decide +kernel)
theorem ks_X6_fetchRow : (.selects RX6 yX6_fetchRow yX6_fetchRow : Cond) ∈ gtbl := gt_of 29 (by decide +kernel) (by decide +kernel)
theorem kc_X6_fetchRow : (.code yX6_fetchRow cX6_fetchRow 2 none : Cond) ∈ gtbl := gt_of 593 (by decide +kernel) (by decide +kernel)
theorem ki_X6_init : (.instanceMethod yX6_init : Cond) ∈ gtbl := gt_of 113 (by decide +kernel) (by decide +kernel)
theorem kc_X6_init : (.code yX6_init cX6_init 1 none : Cond) ∈ gtbl := gt_of 114 (by decide +kernel) (by decide +kernel)
theorem ki_X6_key : (.instanceMethod yX6_key : Cond) ∈ gtbl := gt_of 430 (by decide +kernel) (by decide +kernel)
theorem ks_X6_key : (.selects RX6 yX6_key yX6_key : Cond) ∈ gtbl := gt_of 431 (by decide +kernel) (by decide +kernel)
theorem kc_X6_key : (.code yX6_key cX6_key 3 none : Cond) ∈ gtbl := gt_of 432 (by decide +kernel) (by decide +kernel)
theorem ki_X6_letVideoAct : (.instanceMethod yX6_letVideoAct : Cond) ∈ gtbl := gt_of 580 (by decide +kernel) (by decide +kernel)
theorem ks_X6_letVideoAct : (.selects RX6 yX6_letVideoAct yX6_letVideoAct : Cond) ∈ gtbl := gt_of 27 (by decide +kernel) (by decide +kernel)
theorem kc_X6_letVideoAct : (.code yX6_letVideoAct cX6_letVideoAct 1 (some .int) : Cond) ∈ gtbl := gt_of 581 (by decide +kernel) (by decide +kernel)
theorem ki_X6_peek : (.instanceMethod yX6_peek : Cond) ∈ gtbl := gt_of 284 (by decide +kernel) (by decide +kernel)
theorem ks_X6_peek : (.selects RX6 yX6_peek yX6_peek : Cond) ∈ gtbl := gt_of 285 (by decide +kernel) (by decide +kernel)
theorem kc_X6_peek : (.code yX6_peek cX6_peek 2 (some .int) : Cond) ∈ gtbl := gt_of 286 (by decide +kernel) (by decide +kernel)
theorem ki_X6_poke : (.instanceMethod yX6_poke : Cond) ∈ gtbl := gt_of 296 (by decide +kernel) (by decide +kernel)
theorem ks_X6_poke : (.selects RX6 yX6_poke yX6_poke : Cond) ∈ gtbl := gt_of 297 (by decide +kernel) (by decide +kernel)
theorem kc_X6_poke : (.code yX6_poke cX6_poke 3 none : Cond) ∈ gtbl := gt_of 298 (by decide +kernel) (by decide +kernel)
theorem ki_X6_run : (.instanceMethod yX6_run : Cond) ∈ gtbl := gt_of 442 (by decide +kernel) (by decide +kernel)
theorem ks_X6_run : (.selects RX6 yX6_run yX6_run : Cond) ∈ gtbl := gt_of 443 (by decide +kernel) (by decide +kernel)
theorem kc_X6_run : (.code yX6_run cX6_run 5 (some .int) : Cond) ∈ gtbl := gt_of 444 (by decide +kernel) (by decide +kernel)
theorem ki_X6_set : (.instanceMethod yX6_set : Cond) ∈ gtbl := gt_of 409 (by decide +kernel) (by decide +kernel)
theorem ks_X6_set : (.selects RX6 yX6_set yX6_set : Cond) ∈ gtbl := gt_of 410 (by decide +kernel) (by decide +kernel)
theorem kc_X6_set : (.code yX6_set cX6_set 3 none : Cond) ∈ gtbl := gt_of 411 (by decide +kernel) (by decide +kernel)
theorem ki_X6_shown : (.instanceMethod yX6_shown : Cond) ∈ gtbl := gt_of 651 (by decide +kernel) (by decide +kernel)
theorem ks_X6_shown : (.selects RX6 yX6_shown yX6_shown : Cond) ∈ gtbl := gt_of 652 (by decide +kernel) (by decide +kernel)
theorem kc_X6_shown : (.code yX6_shown cX6_shown 3 (some .int) : Cond) ∈ gtbl := gt_of 653 (by decide +kernel) (by decide +kernel)
theorem ki_X6_start : (.instanceMethod yX6_start : Cond) ∈ gtbl := gt_of 842 (by decide +kernel) (by decide +kernel)
theorem ks_X6_start : (.selects RX6 yX6_start yX6_start : Cond) ∈ gtbl := gt_of 843 (by decide +kernel) (by decide +kernel)
theorem kc_X6_start : (.code yX6_start cX6_start 2 none : Cond) ∈ gtbl := gt_of 844 (by decide +kernel) (by decide +kernel)
theorem ki_X6_v : (.instanceMethod yX6_v : Cond) ∈ gtbl := gt_of 825 (by decide +kernel) (by decide +kernel)
theorem ks_X6_v : (.selects RX6 yX6_v yX6_v : Cond) ∈ gtbl := gt_of 826 (by decide +kernel) (by decide +kernel)
theorem kc_X6_v : (.code yX6_v cX6_v 2 (some .int) : Cond) ∈ gtbl := gt_of 827 (by decide +kernel) (by decide +kernel)
theorem ki_X6_video : (.instanceMethod yX6_video : Cond) ∈ gtbl := gt_of 634 (by decide +kernel) (by decide +kernel)
theorem ks_X6_video : (.selects RX6 yX6_video yX6_video : Cond) ∈ gtbl := gt_of 635 (by decide +kernel) (by decide +kernel)
theorem kc_X6_video : (.code yX6_video cX6_video 2 (some .int) : Cond) ∈ gtbl := gt_of 636 (by decide +kernel) (by decide +kernel)
theorem ki_X7_behindOne : (.instanceMethod yX7_behindOne : Cond) ∈ gtbl := gt_of 1039 (by decide +kernel) (by decide +kernel)
theorem ks_X7_behindOne : (.selects RX7 yX7_behindOne yX7_behindOne : Cond) ∈ gtbl := gt_of 80 (by decide +kernel) (by decide +kernel)
theorem kc_X7_behindOne : (.code yX7_behindOne cX7_behindOne 2 (some .int) : Cond) ∈ gtbl := gt_of 1040 (by decide +kernel) (by decide +kernel)
theorem ki_X7_branch : (.instanceMethod yX7_branch : Cond) ∈ gtbl := gt_of 954 (by decide +kernel) (by decide +kernel)
theorem ks_X7_branch : (.selects RX7 yX7_branch yX7_branch : Cond) ∈ gtbl := gt_of 59 (by decide +kernel) (by decide +kernel)
theorem kc_X7_branch : (.code yX7_branch cX7_branch 3 none : Cond) ∈ gtbl := gt_of 955 (by decide +kernel) (by decide +kernel)
theorem ki_X7_byteAt : (.instanceMethod yX7_byteAt : Cond) ∈ gtbl := gt_of 945 (by decide +kernel) (by decide +kernel)
theorem ks_X7_byteAt : (.selects RX7 yX7_byteAt yX7_byteAt : Cond) ∈ gtbl := gt_of 57 (by decide +kernel) (by decide +kernel)
theorem kc_X7_byteAt : (.code yX7_byteAt cX7_byteAt 2 (some .int) : Cond) ∈ gtbl := gt_of 946 (by decide +kernel) (by decide +kernel)
theorem ki_X7_call : (.instanceMethod yX7_call : Cond) ∈ gtbl := gt_of 1071 (by decide +kernel) (by decide +kernel)
theorem ks_X7_call : (.selects RX7 yX7_call yX7_call : Cond) ∈ gtbl := gt_of 84 (by decide +kernel) (by decide +kernel)
theorem kc_X7_call : (.code yX7_call cX7_call 2 (some .int) : Cond) ∈ gtbl := gt_of 1072 (by decide +kernel) (by decide +kernel)
theorem ki_X7_carries : (.instanceMethod yX7_carries : Cond) ∈ gtbl := gt_of 999 (by decide +kernel) (by decide +kernel)
theorem ks_X7_carries : (.selects RX7 yX7_carries yX7_carries : Cond) ∈ gtbl := gt_of 70 (by decide +kernel) (by decide +kernel)
theorem kc_X7_carries : (.code yX7_carries cX7_carries 3 none : Cond) ∈ gtbl := gt_of 1000 (by decide +kernel) (by decide +kernel)
theorem ki_X7_chip : (.instanceMethod yX7_chip : Cond) ∈ gtbl := gt_of 1054 (by decide +kernel) (by decide +kernel)
theorem ks_X7_chip : (.selects RX7 yX7_chip yX7_chip : Cond) ∈ gtbl := gt_of 1055 (by decide +kernel) (by decide +kernel)
theorem kc_X7_chip : (.code yX7_chip cX7_chip 4 (some .int) : Cond) ∈ gtbl := gt_of 1056 (by decide +kernel) (by decide +kernel)
theorem ki_X7_comeBack : (.instanceMethod yX7_comeBack : Cond) ∈ gtbl := gt_of 983 (by decide +kernel) (by decide +kernel)
theorem ks_X7_comeBack : (.selects RX7 yX7_comeBack yX7_comeBack : Cond) ∈ gtbl := gt_of 66 (by decide +kernel) (by decide +kernel)
theorem kc_X7_comeBack : (.code yX7_comeBack cX7_comeBack 3 none : Cond) ∈ gtbl := gt_of 984 (by decide +kernel) (by decide +kernel)
theorem ki_X7_compared : (.instanceMethod yX7_compared : Cond) ∈ gtbl := gt_of 1075 (by decide +kernel) (by decide +kernel)
theorem ks_X7_compared : (.selects RX7 yX7_compared yX7_compared : Cond) ∈ gtbl := gt_of 85 (by decide +kernel) (by decide +kernel)
theorem kc_X7_compared : (.code yX7_compared cX7_compared 5 (some .int) : Cond) ∈ gtbl := gt_of 1076 (by decide +kernel) (by decide +kernel)
theorem ki_X7_cpu : (.instanceMethod yX7_cpu : Cond) ∈ gtbl := gt_of 919 (by decide +kernel) (by decide +kernel)
theorem ks_X7_cpu : (.selects RX7 yX7_cpu yX7_cpu : Cond) ∈ gtbl := gt_of 920 (by decide +kernel) (by decide +kernel)
theorem kc_X7_cpu : (.code yX7_cpu cX7_cpu 2 (some .int) : Cond) ∈ gtbl := gt_of 921 (by decide +kernel) (by decide +kernel)
theorem ki_X7_cycle : (.instanceMethod yX7_cycle : Cond) ∈ gtbl := gt_of 1035 (by decide +kernel) (by decide +kernel)
theorem ks_X7_cycle : (.selects RX7 yX7_cycle yX7_cycle : Cond) ∈ gtbl := gt_of 79 (by decide +kernel) (by decide +kernel)
theorem kc_X7_cycle : (.code yX7_cycle cX7_cycle 1 none : Cond) ∈ gtbl := gt_of 1036 (by decide +kernel) (by decide +kernel)
theorem ki_X7_cycles : (.instanceMethod yX7_cycles : Cond) ∈ gtbl := gt_of 1031 (by decide +kernel) (by decide +kernel)
theorem ks_X7_cycles : (.selects RX7 yX7_cycles yX7_cycles : Cond) ∈ gtbl := gt_of 78 (by decide +kernel) (by decide +kernel)
theorem kc_X7_cycles : (.code yX7_cycles cX7_cycles 3 none : Cond) ∈ gtbl := gt_of 1032 (by decide +kernel) (by decide +kernel)
theorem ki_X7_draw : (.instanceMethod yX7_draw : Cond) ∈ gtbl := gt_of 1107 (by decide +kernel) (by decide +kernel)
theorem ks_X7_draw : (.selects RX7 yX7_draw yX7_draw : Cond) ∈ gtbl := gt_of 93 (by decide +kernel) (by decide +kernel)
theorem kc_X7_draw : (.code yX7_draw cX7_draw 12 none : Cond) ∈ gtbl := gt_of 1108 (by decide +kernel) (by decide +kernel)
theorem ki_X7_eight : (.instanceMethod yX7_eight : Cond) ∈ gtbl := gt_of 1079 (by decide +kernel) (by decide +kernel)
theorem ks_X7_eight : (.selects RX7 yX7_eight yX7_eight : Cond) ∈ gtbl := gt_of 86 (by decide +kernel) (by decide +kernel)
theorem kc_X7_eight : (.code yX7_eight cX7_eight 7 (some .int) : Cond) ∈ gtbl := gt_of 1080 (by decide +kernel) (by decide +kernel)
theorem ki_X7_fails : (.instanceMethod yX7_fails : Cond) ∈ gtbl := gt_of 912 (by decide +kernel) (by decide +kernel)
theorem ks_X7_fails : (.selects RX7 yX7_fails yX7_fails : Cond) ∈ gtbl := gt_of 53 (by decide +kernel) (by decide +kernel)
theorem kc_X7_fails : (.code yX7_fails cX7_fails 3 (some .boolean) : Cond) ∈ gtbl := gt_of 913 (by decide +kernel) (by decide +kernel)
theorem ki_X7_fifteen : (.instanceMethod yX7_fifteen : Cond) ∈ gtbl := gt_of 1087 (by decide +kernel) (by decide +kernel)
theorem ks_X7_fifteen : (.selects RX7 yX7_fifteen yX7_fifteen : Cond) ∈ gtbl := gt_of 88 (by decide +kernel) (by decide +kernel)
theorem kc_X7_fifteen : (.code yX7_fifteen cX7_fifteen 4 (some .int) : Cond) ∈ gtbl := gt_of 1088 (by decide +kernel) (by decide +kernel)
theorem ki_X7_goesOn : (.instanceMethod yX7_goesOn : Cond) ∈ gtbl := gt_of 1067 (by decide +kernel) (by decide +kernel)
theorem ks_X7_goesOn : (.selects RX7 yX7_goesOn yX7_goesOn : Cond) ∈ gtbl := gt_of 83 (by decide +kernel) (by decide +kernel)
theorem kc_X7_goesOn : (.code yX7_goesOn cX7_goesOn 2 none : Cond) ∈ gtbl := gt_of 1068 (by decide +kernel) (by decide +kernel)
theorem ki_X7_grow : (.instanceMethod yX7_grow : Cond) ∈ gtbl := gt_of 949 (by decide +kernel) (by decide +kernel)
theorem ks_X7_grow : (.selects RX7 yX7_grow yX7_grow : Cond) ∈ gtbl := gt_of 58 (by decide +kernel) (by decide +kernel)
theorem kc_X7_grow : (.code yX7_grow cX7_grow 3 none : Cond) ∈ gtbl := gt_of 950 (by decide +kernel) (by decide +kernel)
theorem ki_X7_init : (.instanceMethod yX7_init : Cond) ∈ gtbl := gt_of 853 (by decide +kernel) (by decide +kernel)
theorem kc_X7_init : (.code yX7_init cX7_init 1 none : Cond) ∈ gtbl := gt_of 854 (by decide +kernel) (by decide +kernel)
theorem ki_X7_instruction : (.instanceMethod yX7_instruction : Cond) ∈ gtbl := gt_of 933 (by decide +kernel) (by decide +kernel)
theorem ks_X7_instruction : (.selects RX7 yX7_instruction yX7_instruction : Cond) ∈ gtbl := gt_of 54 (by decide +kernel) (by decide +kernel)
theorem kc_X7_instruction : (.code yX7_instruction cX7_instruction 4 (some .int) : Cond) ∈ gtbl := gt_of 934 (by decide +kernel) (by decide +kernel)
theorem ki_X7_isLight : (.instanceMethod yX7_isLight : Cond) ∈ gtbl := gt_of 962 (by decide +kernel) (by decide +kernel)
theorem ks_X7_isLight : (.selects RX7 yX7_isLight yX7_isLight : Cond) ∈ gtbl := gt_of 61 (by decide +kernel) (by decide +kernel)
theorem kc_X7_isLight : (.code yX7_isLight cX7_isLight 1 (some .boolean) : Cond) ∈ gtbl := gt_of 963 (by decide +kernel) (by decide +kernel)
theorem ki_X7_isSo : (.instanceMethod yX7_isSo : Cond) ∈ gtbl := gt_of 958 (by decide +kernel) (by decide +kernel)
theorem ks_X7_isSo : (.selects RX7 yX7_isSo yX7_isSo : Cond) ∈ gtbl := gt_of 60 (by decide +kernel) (by decide +kernel)
theorem kc_X7_isSo : (.code yX7_isSo cX7_isSo 2 (some .boolean) : Cond) ∈ gtbl := gt_of 959 (by decide +kernel) (by decide +kernel)
theorem ki_X7_key : (.instanceMethod yX7_key : Cond) ∈ gtbl := gt_of 1050 (by decide +kernel) (by decide +kernel)
theorem ks_X7_key : (.selects RX7 yX7_key yX7_key : Cond) ∈ gtbl := gt_of 1051 (by decide +kernel) (by decide +kernel)
theorem kc_X7_key : (.code yX7_key cX7_key 3 none : Cond) ∈ gtbl := gt_of 1052 (by decide +kernel) (by decide +kernel)
theorem ki_X7_keyed : (.instanceMethod yX7_keyed : Cond) ∈ gtbl := gt_of 1083 (by decide +kernel) (by decide +kernel)
theorem ks_X7_keyed : (.selects RX7 yX7_keyed yX7_keyed : Cond) ∈ gtbl := gt_of 87 (by decide +kernel) (by decide +kernel)
theorem kc_X7_keyed : (.code yX7_keyed cX7_keyed 3 (some .int) : Cond) ∈ gtbl := gt_of 1084 (by decide +kernel) (by decide +kernel)
theorem ki_X7_leastKey : (.instanceMethod yX7_leastKey : Cond) ∈ gtbl := gt_of 1091 (by decide +kernel) (by decide +kernel)
theorem ks_X7_leastKey : (.selects RX7 yX7_leastKey yX7_leastKey : Cond) ∈ gtbl := gt_of 89 (by decide +kernel) (by decide +kernel)
theorem kc_X7_leastKey : (.code yX7_leastKey cX7_leastKey 2 (some .int) : Cond) ∈ gtbl := gt_of 1092 (by decide +kernel) (by decide +kernel)
theorem ki_X7_left : (.instanceMethod yX7_left : Cond) ∈ gtbl := gt_of 995 (by decide +kernel) (by decide +kernel)
theorem ks_X7_left : (.selects RX7 yX7_left yX7_left : Cond) ∈ gtbl := gt_of 69 (by decide +kernel) (by decide +kernel)
theorem kc_X7_left : (.code yX7_left cX7_left 3 none : Cond) ∈ gtbl := gt_of 996 (by decide +kernel) (by decide +kernel)
theorem ki_X7_less : (.instanceMethod yX7_less : Cond) ∈ gtbl := gt_of 1007 (by decide +kernel) (by decide +kernel)
theorem ks_X7_less : (.selects RX7 yX7_less yX7_less : Cond) ∈ gtbl := gt_of 72 (by decide +kernel) (by decide +kernel)
theorem kc_X7_less : (.code yX7_less cX7_less 5 none : Cond) ∈ gtbl := gt_of 1008 (by decide +kernel) (by decide +kernel)
theorem ki_X7_low : (.instanceMethod yX7_low : Cond) ∈ gtbl := gt_of 966 (by decide +kernel) (by decide +kernel)
theorem ks_X7_low : (.selects RX7 yX7_low yX7_low : Cond) ∈ gtbl := gt_of 62 (by decide +kernel) (by decide +kernel)
theorem kc_X7_low : (.code yX7_low cX7_low 3 none : Cond) ∈ gtbl := gt_of 967 (by decide +kernel) (by decide +kernel)
theorem ki_X7_m : (.instanceMethod yX7_m : Cond) ∈ gtbl := gt_of 941 (by decide +kernel) (by decide +kernel)
theorem ks_X7_m : (.selects RX7 yX7_m yX7_m : Cond) ∈ gtbl := gt_of 56 (by decide +kernel) (by decide +kernel)
theorem kc_X7_m : (.code yX7_m cX7_m 2 (some .int) : Cond) ∈ gtbl := gt_of 942 (by decide +kernel) (by decide +kernel)
theorem ki_X7_mark : (.instanceMethod yX7_mark : Cond) ∈ gtbl := gt_of 991 (by decide +kernel) (by decide +kernel)
theorem ks_X7_mark : (.selects RX7 yX7_mark yX7_mark : Cond) ∈ gtbl := gt_of 68 (by decide +kernel) (by decide +kernel)
theorem kc_X7_mark : (.code yX7_mark cX7_mark 1 none : Cond) ∈ gtbl := gt_of 992 (by decide +kernel) (by decide +kernel)
theorem ki_X7_moves : (.instanceMethod yX7_moves : Cond) ∈ gtbl := gt_of 1027 (by decide +kernel) (by decide +kernel)
theorem ks_X7_moves : (.selects RX7 yX7_moves yX7_moves : Cond) ∈ gtbl := gt_of 77 (by decide +kernel) (by decide +kernel)
theorem kc_X7_moves : (.code yX7_moves cX7_moves 3 none : Cond) ∈ gtbl := gt_of 1028 (by decide +kernel) (by decide +kernel)
theorem ki_X7_next : (.instanceMethod yX7_next : Cond) ∈ gtbl := gt_of 937 (by decide +kernel) (by decide +kernel)
theorem ks_X7_next : (.selects RX7 yX7_next yX7_next : Cond) ∈ gtbl := gt_of 55 (by decide +kernel) (by decide +kernel)
theorem kc_X7_next : (.code yX7_next cX7_next 2 (some .int) : Cond) ∈ gtbl := gt_of 938 (by decide +kernel) (by decide +kernel)
theorem kt_X7_out : (.static yX7_out : Cond) ∈ gtbl := gt_of 908 (by decide +kernel) (by decide +kernel)
theorem kc_X7_out : (.code yX7_out cX7_out 2 (some .boolean) : Cond) ∈ gtbl := gt_of 909 (by decide +kernel) (by decide +kernel)
theorem ki_X7_peek : (.instanceMethod yX7_peek : Cond) ∈ gtbl := gt_of 915 (by decide +kernel) (by decide +kernel)
theorem ks_X7_peek : (.selects RX7 yX7_peek yX7_peek : Cond) ∈ gtbl := gt_of 916 (by decide +kernel) (by decide +kernel)
theorem kc_X7_peek : (.code yX7_peek cX7_peek 2 (some .int) : Cond) ∈ gtbl := gt_of 917 (by decide +kernel) (by decide +kernel)
theorem ki_X7_poke : (.instanceMethod yX7_poke : Cond) ∈ gtbl := gt_of 904 (by decide +kernel) (by decide +kernel)
theorem ks_X7_poke : (.selects RX7 yX7_poke yX7_poke : Cond) ∈ gtbl := gt_of 905 (by decide +kernel) (by decide +kernel)
theorem kc_X7_poke : (.code yX7_poke cX7_poke 3 none : Cond) ∈ gtbl := gt_of 906 (by decide +kernel) (by decide +kernel)
theorem ki_X7_port : (.instanceMethod yX7_port : Cond) ∈ gtbl := gt_of 971 (by decide +kernel) (by decide +kernel)
theorem ks_X7_port : (.selects RX7 yX7_port yX7_port : Cond) ∈ gtbl := gt_of 63 (by decide +kernel) (by decide +kernel)
theorem kc_X7_port : (.code yX7_port cX7_port 2 none : Cond) ∈ gtbl := gt_of 972 (by decide +kernel) (by decide +kernel)
theorem ki_X7_random : (.instanceMethod yX7_random : Cond) ∈ gtbl := gt_of 1103 (by decide +kernel) (by decide +kernel)
theorem ks_X7_random : (.selects RX7 yX7_random yX7_random : Cond) ∈ gtbl := gt_of 92 (by decide +kernel) (by decide +kernel)
theorem kc_X7_random : (.code yX7_random cX7_random 3 (some .int) : Cond) ∈ gtbl := gt_of 1104 (by decide +kernel) (by decide +kernel)
theorem ki_X7_reckon : (.instanceMethod yX7_reckon : Cond) ∈ gtbl := gt_of 1019 (by decide +kernel) (by decide +kernel)
theorem ks_X7_reckon : (.selects RX7 yX7_reckon yX7_reckon : Cond) ∈ gtbl := gt_of 75 (by decide +kernel) (by decide +kernel)
theorem kc_X7_reckon : (.code yX7_reckon cX7_reckon 3 none : Cond) ∈ gtbl := gt_of 1020 (by decide +kernel) (by decide +kernel)
theorem ki_X7_right : (.instanceMethod yX7_right : Cond) ∈ gtbl := gt_of 987 (by decide +kernel) (by decide +kernel)
theorem ks_X7_right : (.selects RX7 yX7_right yX7_right : Cond) ∈ gtbl := gt_of 67 (by decide +kernel) (by decide +kernel)
theorem kc_X7_right : (.code yX7_right cX7_right 3 none : Cond) ∈ gtbl := gt_of 988 (by decide +kernel) (by decide +kernel)
theorem ki_X7_rows : (.instanceMethod yX7_rows : Cond) ∈ gtbl := gt_of 1095 (by decide +kernel) (by decide +kernel)
theorem ks_X7_rows : (.selects RX7 yX7_rows yX7_rows : Cond) ∈ gtbl := gt_of 90 (by decide +kernel) (by decide +kernel)
theorem kc_X7_rows : (.code yX7_rows cX7_rows 4 none : Cond) ∈ gtbl := gt_of 1096 (by decide +kernel) (by decide +kernel)
theorem ki_X7_run : (.instanceMethod yX7_run : Cond) ∈ gtbl := gt_of 928 (by decide +kernel) (by decide +kernel)
theorem ks_X7_run : (.selects RX7 yX7_run yX7_run : Cond) ∈ gtbl := gt_of 929 (by decide +kernel) (by decide +kernel)
theorem kc_X7_run : (.code yX7_run cX7_run 5 (some .int) : Cond) ∈ gtbl := gt_of 930 (by decide +kernel) (by decide +kernel)
theorem ki_X7_set : (.instanceMethod yX7_set : Cond) ∈ gtbl := gt_of 923 (by decide +kernel) (by decide +kernel)
theorem ks_X7_set : (.selects RX7 yX7_set yX7_set : Cond) ∈ gtbl := gt_of 924 (by decide +kernel) (by decide +kernel)
theorem kc_X7_set : (.code yX7_set cX7_set 4 none : Cond) ∈ gtbl := gt_of 925 (by decide +kernel) (by decide +kernel)
theorem ki_X7_seven : (.instanceMethod yX7_seven : Cond) ∈ gtbl := gt_of 979 (by decide +kernel) (by decide +kernel)
theorem ks_X7_seven : (.selects RX7 yX7_seven yX7_seven : Cond) ∈ gtbl := gt_of 65 (by decide +kernel) (by decide +kernel)
theorem kc_X7_seven : (.code yX7_seven cX7_seven 2 none : Cond) ∈ gtbl := gt_of 980 (by decide +kernel) (by decide +kernel)
theorem ki_X7_shown : (.instanceMethod yX7_shown : Cond) ∈ gtbl := gt_of 1046 (by decide +kernel) (by decide +kernel)
theorem ks_X7_shown : (.selects RX7 yX7_shown yX7_shown : Cond) ∈ gtbl := gt_of 1047 (by decide +kernel) (by decide +kernel)
theorem kc_X7_shown : (.code yX7_shown cX7_shown 3 (some .int) : Cond) ∈ gtbl := gt_of 1048 (by decide +kernel) (by decide +kernel)
theorem ki_X7_simple : (.instanceMethod yX7_simple : Cond) ∈ gtbl := gt_of 1099 (by decide +kernel) (by decide +kernel)
theorem ks_X7_simple : (.selects RX7 yX7_simple yX7_simple : Cond) ∈ gtbl := gt_of 91 (by decide +kernel) (by decide +kernel)
theorem kc_X7_simple : (.code yX7_simple cX7_simple 4 none : Cond) ∈ gtbl := gt_of 1100 (by decide +kernel) (by decide +kernel)
theorem ki_X7_skips : (.instanceMethod yX7_skips : Cond) ∈ gtbl := gt_of 1015 (by decide +kernel) (by decide +kernel)
theorem ks_X7_skips : (.selects RX7 yX7_skips yX7_skips : Cond) ∈ gtbl := gt_of 74 (by decide +kernel) (by decide +kernel)
theorem kc_X7_skips : (.code yX7_skips cX7_skips 2 (some .boolean) : Cond) ∈ gtbl := gt_of 1016 (by decide +kernel) (by decide +kernel)
theorem ki_X7_start : (.instanceMethod yX7_start : Cond) ∈ gtbl := gt_of 1114 (by decide +kernel) (by decide +kernel)
theorem ks_X7_start : (.selects RX7 yX7_start yX7_start : Cond) ∈ gtbl := gt_of 1115 (by decide +kernel) (by decide +kernel)
theorem kc_X7_start : (.code yX7_start cX7_start 2 none : Cond) ∈ gtbl := gt_of 1116 (by decide +kernel) (by decide +kernel)
theorem ki_X7_step : (.instanceMethod yX7_step : Cond) ∈ gtbl := gt_of 1059 (by decide +kernel) (by decide +kernel)
theorem ks_X7_step : (.selects RX7 yX7_step yX7_step : Cond) ∈ gtbl := gt_of 81 (by decide +kernel) (by decide +kernel)
theorem kc_X7_step : (.code yX7_step cX7_step 7 (some .int) : Cond) ∈ gtbl := gt_of 1060 (by decide +kernel) (by decide +kernel)
theorem ki_X7_store : (.instanceMethod yX7_store : Cond) ∈ gtbl := gt_of 975 (by decide +kernel) (by decide +kernel)
theorem ks_X7_store : (.selects RX7 yX7_store yX7_store : Cond) ∈ gtbl := gt_of 64 (by decide +kernel) (by decide +kernel)
theorem kc_X7_store : (.code yX7_store cX7_store 3 none : Cond) ∈ gtbl := gt_of 976 (by decide +kernel) (by decide +kernel)
theorem ki_X7_sum : (.instanceMethod yX7_sum : Cond) ∈ gtbl := gt_of 1023 (by decide +kernel) (by decide +kernel)
theorem ks_X7_sum : (.selects RX7 yX7_sum yX7_sum : Cond) ∈ gtbl := gt_of 76 (by decide +kernel) (by decide +kernel)
theorem kc_X7_sum : (.code yX7_sum cX7_sum 3 none : Cond) ∈ gtbl := gt_of 1024 (by decide +kernel) (by decide +kernel)
theorem ki_X7_sumOn : (.instanceMethod yX7_sumOn : Cond) ∈ gtbl := gt_of 1003 (by decide +kernel) (by decide +kernel)
theorem ks_X7_sumOn : (.selects RX7 yX7_sumOn yX7_sumOn : Cond) ∈ gtbl := gt_of 71 (by decide +kernel) (by decide +kernel)
theorem kc_X7_sumOn : (.code yX7_sumOn cX7_sumOn 3 none : Cond) ∈ gtbl := gt_of 1004 (by decide +kernel) (by decide +kernel)
theorem ki_X7_thrown : (.instanceMethod yX7_thrown : Cond) ∈ gtbl := gt_of 900 (by decide +kernel) (by decide +kernel)
theorem ks_X7_thrown : (.selects RX7 yX7_thrown yX7_thrown : Cond) ∈ gtbl := gt_of 901 (by decide +kernel) (by decide +kernel)
theorem kc_X7_thrown : (.code yX7_thrown cX7_thrown 1 (some .int) : Cond) ∈ gtbl := gt_of 902 (by decide +kernel) (by decide +kernel)
theorem ki_X7_v : (.instanceMethod yX7_v : Cond) ∈ gtbl := gt_of 1110 (by decide +kernel) (by decide +kernel)
theorem ks_X7_v : (.selects RX7 yX7_v yX7_v : Cond) ∈ gtbl := gt_of 1111 (by decide +kernel) (by decide +kernel)
theorem kc_X7_v : (.code yX7_v cX7_v 2 (some .int) : Cond) ∈ gtbl := gt_of 1112 (by decide +kernel) (by decide +kernel)
theorem ki_X7_video : (.instanceMethod yX7_video : Cond) ∈ gtbl := gt_of 1042 (by decide +kernel) (by decide +kernel)
theorem ks_X7_video : (.selects RX7 yX7_video yX7_video : Cond) ∈ gtbl := gt_of 1043 (by decide +kernel) (by decide +kernel)
theorem kc_X7_video : (.code yX7_video cX7_video 2 (some .int) : Cond) ∈ gtbl := gt_of 1044 (by decide +kernel) (by decide +kernel)
theorem ki_X7_wide : (.instanceMethod yX7_wide : Cond) ∈ gtbl := gt_of 1011 (by decide +kernel) (by decide +kernel)
theorem ks_X7_wide : (.selects RX7 yX7_wide yX7_wide : Cond) ∈ gtbl := gt_of 73 (by decide +kernel) (by decide +kernel)
theorem kc_X7_wide : (.code yX7_wide cX7_wide 3 none : Cond) ∈ gtbl := gt_of 1012 (by decide +kernel) (by decide +kernel)
theorem ki_X7_zero : (.instanceMethod yX7_zero : Cond) ∈ gtbl := gt_of 1063 (by decide +kernel) (by decide +kernel)
theorem ks_X7_zero : (.selects RX7 yX7_zero yX7_zero : Cond) ∈ gtbl := gt_of 82 (by decide +kernel) (by decide +kernel)
theorem kc_X7_zero : (.code yX7_zero cX7_zero 3 (some .int) : Cond) ∈ gtbl := gt_of 1064 (by decide +kernel) (by decide +kernel)
theorem kn_L : (.initialized RL : Cond) ∈ gtbl := gt_of 94 (by decide +kernel) (by decide +kernel)
theorem kn_X0 : (.initialized RX0 : Cond) ∈ gtbl := gt_of 97 (by decide +kernel) (by decide +kernel)
theorem kz_X0 : (.instantiable RX0 2 : Cond) ∈ gtbl := gt_of 130 (by decide +kernel) (by decide +kernel)
theorem kn_X1 : (.initialized RX1 : Cond) ∈ gtbl := gt_of 101 (by decide +kernel) (by decide +kernel)
theorem kz_X1 : (.instantiable RX1 9 : Cond) ∈ gtbl := gt_of 231 (by decide +kernel) (by decide +kernel)
theorem kn_X2 : (.initialized RX2 : Cond) ∈ gtbl := gt_of 96 (by decide +kernel) (by decide +kernel)
theorem kz_X2 : (.instantiable RX2 1 : Cond) ∈ gtbl := gt_of 119 (by decide +kernel) (by decide +kernel)
theorem kn_X3 : (.initialized RX3 : Cond) ∈ gtbl := gt_of 99 (by decide +kernel) (by decide +kernel)
theorem kz_X3 : (.instantiable RX3 8 : Cond) ∈ gtbl := gt_of 157 (by decide +kernel) (by decide +kernel)
theorem kn_X4 : (.initialized RX4 : Cond) ∈ gtbl := gt_of 100 (by decide +kernel) (by decide +kernel)
theorem kz_X4 : (.instantiable RX4 12 : Cond) ∈ gtbl := gt_of 188 (by decide +kernel) (by decide +kernel)
theorem kn_X5 : (.initialized RX5 : Cond) ∈ gtbl := gt_of 98 (by decide +kernel) (by decide +kernel)
theorem kz_X5 : (.instantiable RX5 2 : Cond) ∈ gtbl := gt_of 144 (by decide +kernel) (by decide +kernel)
theorem kn_X6 : (.initialized RX6 : Cond) ∈ gtbl := gt_of 95 (by decide +kernel) (by decide +kernel)
theorem kz_X6 : (.instantiable RX6 6 : Cond) ∈ gtbl := gt_of 111 (by decide +kernel) (by decide +kernel)
theorem kn_X7 : (.initialized RX7 : Cond) ∈ gtbl := gt_of 102 (by decide +kernel) (by decide +kernel)
theorem kz_X7 : (.instantiable RX7 14 : Cond) ∈ gtbl := gt_of 851 (by decide +kernel) (by decide +kernel)
theorem kk_L_13 : (.classLink RL 13 "java/lang/IllegalArgumentException" : Cond) ∈ gtbl := gt_of 294 (by decide +kernel) (by decide +kernel)
theorem kk_L_19 : (.classLink RL 19 "java/util/NoSuchElementException" : Cond) ∈ gtbl := gt_of 376 (by decide +kernel) (by decide +kernel)
theorem kk_L_41 : (.classLink RL 41 "java/lang/UnsupportedOperationException" : Cond) ∈ gtbl := gt_of 663 (by decide +kernel) (by decide +kernel)
theorem kk_L_43 : (.classLink RL 43 "java/lang/IllegalStateException" : Cond) ∈ gtbl := gt_of 664 (by decide +kernel) (by decide +kernel)
theorem kk_L_53 : (.classLink RL 53 RX7 : Cond) ∈ gtbl := gt_of 850 (by decide +kernel) (by decide +kernel)
theorem kk_L_8 : (.classLink RL 8 RX6 : Cond) ∈ gtbl := gt_of 110 (by decide +kernel) (by decide +kernel)
theorem kk_X6_130 : (.classLink RX6 130 "java/lang/UnsupportedOperationException" : Cond) ∈ gtbl := gt_of 789 (by decide +kernel) (by decide +kernel)
theorem kk_X6_135 : (.classLink RX6 135 "java/lang/IllegalStateException" : Cond) ∈ gtbl := gt_of 805 (by decide +kernel) (by decide +kernel)
theorem kk_X6_16 : (.classLink RX6 16 RX0 : Cond) ∈ gtbl := gt_of 129 (by decide +kernel) (by decide +kernel)
theorem kk_X6_23 : (.classLink RX6 23 RX5 : Cond) ∈ gtbl := gt_of 143 (by decide +kernel) (by decide +kernel)
theorem kk_X6_30 : (.classLink RX6 30 RX3 : Cond) ∈ gtbl := gt_of 156 (by decide +kernel) (by decide +kernel)
theorem kk_X6_39 : (.classLink RX6 39 RX4 : Cond) ∈ gtbl := gt_of 187 (by decide +kernel) (by decide +kernel)
theorem kk_X6_48 : (.classLink RX6 48 RX1 : Cond) ∈ gtbl := gt_of 230 (by decide +kernel) (by decide +kernel)
theorem kk_X6_57 : (.classLink RX6 57 "java/lang/IllegalArgumentException" : Cond) ∈ gtbl := gt_of 299 (by decide +kernel) (by decide +kernel)
theorem kk_X6_7 : (.classLink RX6 7 RX2 : Cond) ∈ gtbl := gt_of 118 (by decide +kernel) (by decide +kernel)
theorem kk_X6_74 : (.classLink RX6 74 "java/util/NoSuchElementException" : Cond) ∈ gtbl := gt_of 381 (by decide +kernel) (by decide +kernel)
theorem ka_boolean : (.arrayClass .boolean : Cond) ∈ gtbl := gt_of 142 (by decide +kernel) (by decide +kernel)
theorem ka_int : (.arrayClass .int : Cond) ∈ gtbl := gt_of 128 (by decide +kernel) (by decide +kernel)
theorem ka_long : (.arrayClass .long : Cond) ∈ gtbl := gt_of 1117 (by decide +kernel) (by decide +kernel)
theorem kO_i : (.instanceMethod objectInit : Cond) ∈ gtbl := gt_of 116 (by decide +kernel) (by decide +kernel)
theorem inG0 : ∀ w ∈ u_ws RX0 TX0 2, w ∈ gtbl := by decide +kernel
theorem inG1 : ∀ w ∈ u_ws RX1 TX1 9, w ∈ gtbl := by decide +kernel
theorem inG2 : ∀ w ∈ u_ws RX2 TX2 1, w ∈ gtbl := by decide +kernel
theorem inG3 : ∀ w ∈ u_ws RX3 TX3 8, w ∈ gtbl := by decide +kernel
theorem inG4 : ∀ w ∈ u_ws RX4 TX4 12, w ∈ gtbl := by decide +kernel
theorem inG5 : ∀ w ∈ u_ws RX5 TX5 2, w ∈ gtbl := by decide +kernel
theorem inG6 : ∀ w ∈ u_ws RX6 TX6 6, w ∈ gtbl := by decide +kernel
theorem inG7 : ∀ w ∈ u_ws RX7 TX7 14, w ∈ gtbl := by decide +kernel
end
section
theorem kd_X4_55 : (.constant RX4 55 65535 : Cond) ∈ gtbl := gt_of 416 (by decide +kernel) (by decide +kernel)
theorem kd_X4_96 : (.constant RX4 96 65280 : Cond) ∈ gtbl := gt_of 487 (by decide +kernel) (by decide +kernel)
theorem kd_X7_41 : (.constant RX7 41 65536 : Cond) ∈ gtbl := gt_of 926 (by decide +kernel) (by decide +kernel)
theorem kd_X7_42 : (.constant RX7 42 65535 : Cond) ∈ gtbl := gt_of 951 (by decide +kernel) (by decide +kernel)
theorem kd_X7_54 : (.constant RX7 54 65280 : Cond) ∈ gtbl := gt_of 968 (by decide +kernel) (by decide +kernel)
end
section
/-! rows over a world that is a function of one value: the same cells at the same addresses throughout -/
def g_bA (n : Nat) (x : Nat → Nat) : Nat → Prop := fun q => ∃ i, i < n ∧ q = x i
def g_inj (n : Nat) (x : Nat → Nat) : Prop := ∀ i j, i < n → j < n → x i = x j → i = j
theorem g_D {ws : va_W} {n : Nat} {x : Nat → Nat} (h : ws.map Prod.fst = (List.range n).map x) (hi : g_inj n x) : va_D (g_bA n x) ws := by
  have key : ∀ (k : Nat) (q : Nat × va_E), ws[k]? = some q → k < n ∧ q.1 = x k := by
    intro k q hk
    have h1 : (ws.map Prod.fst)[k]? = some q.1 := by rw [List.getElem?_map, hk]; rfl
    rw [h, List.getElem?_map] at h1
    cases h2 : (List.range n)[k]? with
    | none => rw [h2] at h1; cases h1
    | some j =>
      rw [h2] at h1
      have h3 := List.getElem?_eq_some_iff.mp h2
      obtain ⟨h4, h5⟩ := h3
      have h6 : k < n := by simpa using h4
      have h7 : j = k := by rw [← h5]; simp
      subst h7
      exact ⟨h6, (Option.some.inj h1).symm⟩
  refine ⟨fun i j p q hp hq hpq => ?_, fun k q hk => ⟨k, (key k q hk).1, (key k q hk).2⟩⟩
  obtain ⟨a1, a2⟩ := key i p hp
  obtain ⟨b1, b2⟩ := key j q hq
  exact hi i j a1 b1 (by rw [← a2, ← b2]; exact hpq)
def g_Pc (D : va_G) (cl : List vw_C) (tys : List (ClassId × FieldType)) {S : Type} (w : S → va_W) (u : S) (av : List Value) : Array Value → State → Prop := va_Pc av (fun U => va_P D cl (w u) U.heap ∧ va_K D cl tys U)
theorem g_blind {D : va_G} {cl : List vw_C} {tys : List (ClassId × FieldType)} {S : Type} {w : S → va_W} {u : S} {av : List Value} : FrameBlind (g_Pc D cl tys w u av) := fun a U g mk q => ⟨q.1, q.2.1, va_K.moved (u := U) (U := U.calling g mk a) (Vm.Alike.refl U.vm) q.2.2⟩
/-- a method that answers an int: what it answers, and the value that its world is of then -/
def g_Mi (l : Launch) (y : MethodName) (cw : Cond) (rm : Room) (D : va_G) (cl : List vw_C) (tys : List (ClassId × FieldType)) {S : Type} (w : S → va_W) (A : Nat → Prop) (u : S) (av : List Value) (r : Int32) (v : S) : Prop :=
  Met l y (cw :: gtbl) rm (g_Pc D cl tys w u av) (va_Qi (fun r1 v1 => r1 = r ∧ v1 = v) (fun v1 t => va_P D cl (w v1) t.heap) A) 0 0 A
def g_Mv (l : Launch) (y : MethodName) (cw : Cond) (rm : Room) (D : va_G) (cl : List vw_C) (tys : List (ClassId × FieldType)) {S : Type} (w : S → va_W) (A : Nat → Prop) (u : S) (av : List Value) (v : S) : Prop :=
  Met l y (cw :: gtbl) rm (g_Pc D cl tys w u av) (va_Qv (fun v1 => v1 = v) (fun v1 t => va_P D cl (w v1) t.heap) A) 0 0 A
/-- the words of a call's site: all of them tables' words -/
def g_site (own C : String) (index : Nat) (y : MethodName) (bytes : ByteArray) (maxL : Nat) (ret : Option FieldType) (n : Nat) : Prop :=
  .methodLink own index y ∈ gtbl ∧ .instanceMethod y ∈ gtbl ∧ .selects C y y ∈ gtbl ∧ .initialized C ∈ gtbl ∧ .code y bytes maxL ret ∈ gtbl ∧
  (y.cls = C ∧ y.cls ≠ "java/lang/invoke/MethodHandle" ∧ y.cls ≠ "java/lang/invoke/VarHandle" ∧ (parseMethodDescriptor y.desc).map (fun d => d.parameters.length) = some n)
def g_siteS (own : String) (index : Nat) (y : MethodName) (bytes : ByteArray) (maxL : Nat) (ret : Option FieldType) (n : Nat) : Prop :=
  .methodLink own index y ∈ gtbl ∧ .static y ∈ gtbl ∧ .initialized y.cls ∈ gtbl ∧ .code y bytes maxL ret ∈ gtbl ∧
  (y.cls ≠ "java/lang/invoke/MethodHandle" ∧ y.cls ≠ "java/lang/invoke/VarHandle" ∧ (parseMethodDescriptor y.desc).map (fun d => d.parameters.length) = some n)
section GR
variable {p : Program} {l : Launch} {e : Env} {R : Room} {s : State} {m : MethodId} {args : Array Value} {below : List Frame} {meth : Method} {c : Code} {H : Heap} {locs : List Loc} {cells slots : Nat} {Q : State → Prop}
variable {S : Type} {D : va_G} {cl : List vw_C} {tys : List (ClassId × FieldType)} {w : S → va_W} {A : Nat → Prop} {u : S}
variable {cc bytes : ByteArray} {nL maxL index n : Nat} {own C : String} {y : MethodName} {ret : Option FieldType} {rm : Room} {pc b : Nat} {ls : Array Slot} {As rest st0 : List Value}
theorem g_cw (hg : ∀ w ∈ gtbl, w.before args s = true) (h : g_site own C index y bytes maxL ret n) (hrc : rm.cells = 0) (hrs : rm.slots = 0) (hR : rm.frames + 1 ≤ R.frames ∧ 8 + (maxL + 11) + rm.locals ≤ R.locals) :
    CallW R s args own C index y bytes maxL ret (.code y bytes maxL ret :: gtbl) rm 0 0 n := by
  obtain ⟨h1, h2, h3, h4, h5, h6⟩ := h
  refine cwV n hg (gt_goodIn (fun _ h => h) (fun q hq => ?_)) rfl hrc hrs h6 hR
  rcases List.mem_append.mp hq with h | h
  · simp only [List.mem_cons, List.not_mem_nil, or_false] at h
    rcases h with rfl | rfl | rfl | rfl
    · exact h1
    · exact h2
    · exact h3
    · exact h4
  · rcases List.mem_cons.mp h with rfl | h
    · exact h5
    · exact h
theorem g_cwS (hg : ∀ w ∈ gtbl, w.before args s = true) (h : g_siteS own index y bytes maxL ret n) (hrc : rm.cells = 0) (hrs : rm.slots = 0) (hR : rm.frames + 1 ≤ R.frames ∧ 8 + (maxL + 11) + rm.locals ≤ R.locals) :
    CallB R s args own index y bytes maxL ret (.code y bytes maxL ret :: gtbl) rm 0 0 n ∧ (Cond.static y).before args s = true := by
  obtain ⟨h1, h2, h3, h4, h6⟩ := h
  refine ⟨callB_of n hg (gt_goodIn (fun _ h => h) (fun q hq => ?_)) rfl hrc hrs (hg _ h3) (hg _ h1) h6 hR, hg _ h2⟩
  rcases List.mem_cons.mp hq with rfl | h
  · exact h4
  · exact h
theorem g_Vi {r : Int32} {v : S} (hx : p.tables.exec = Jvm.exec) (hb : c.code = cc) (hml : c.maxLocals = nL) (hown : s.vm.findClass own = some m.cls) (hg : ∀ w ∈ gtbl, w.before args s = true) (hM : g_Mi l y (.code y bytes maxL ret) rm D cl tys w A u (.ref b :: As) r v) (hs : g_site own C index y bytes maxL ret n)
    (hrc : rm.cells = 0) (hrs : rm.slots = 0) (hR : rm.frames + 1 ≤ R.frames ∧ 8 + (maxL + 11) + rm.locals ≤ R.locals) (hK : va_K D cl tys s) (hP : va_P D cl (w u) H) (hS : va_S A s.heap H locs) {q0 ci N : Nat} {T : u_T} {fs : List Value} (he : (w u)[q0]? = some (b, .inr (ci, fs))) (hc : cl[ci]? = some (C, T, N))
    (hn : As.length = n) (hsize : ls.size = nL) (hst : st0 = As.reverse ++ .ref b :: rest) (hW : (rest.map fun v => v.category).sum ≤ 8) (hdg : decode cc pc = .ok (.invokevirtual index, 3)) (hf : cells ≤ R.cells ∧ slots ≤ R.slots)
    (kk : ∀ (H1 : Heap) (locs1 : List Loc), va_P D cl (w v) H1 → va_S A s.heap H1 locs1 → W p l e R s m args below meth c H1 locs1 cells slots Q (F0 m (pc + 3) ls (.int r :: rest))) : W p l e R s m args below meth c H locs cells slots Q (F0 m pc ls st0) := by
  refine va_calli (A0 := A) (H0 := s.heap) (va_runV (As := As) (rest := rest) ⟨hx, hb, hml, hown, hg⟩ hM (g_cw hg hs hrc hrs hR) ⟨g_blind, va_recv hK hP hc he, fun U hU hW' => ⟨rfl, by rw [hU]; exact hP, va_K.moved hW'.alike hK⟩⟩ rfl hn hsize hst (lv_room hW) hdg hf) hS (fun q _ h => h) (fun q h => h) (fun r1 v1 t H1 locs1 ht hvm hw hB _ _ hS1 => ?_)
  obtain ⟨rfl, rfl⟩ := hw
  rw [ht] at hB
  exact kk H1 locs1 hB hS1
theorem g_Vv {v : S} (hx : p.tables.exec = Jvm.exec) (hb : c.code = cc) (hml : c.maxLocals = nL) (hown : s.vm.findClass own = some m.cls) (hg : ∀ w ∈ gtbl, w.before args s = true) (hM : g_Mv l y (.code y bytes maxL ret) rm D cl tys w A u (.ref b :: As) v) (hs : g_site own C index y bytes maxL ret n)
    (hrc : rm.cells = 0) (hrs : rm.slots = 0) (hR : rm.frames + 1 ≤ R.frames ∧ 8 + (maxL + 11) + rm.locals ≤ R.locals) (hK : va_K D cl tys s) (hP : va_P D cl (w u) H) (hS : va_S A s.heap H locs) {q0 ci N : Nat} {T : u_T} {fs : List Value} (he : (w u)[q0]? = some (b, .inr (ci, fs))) (hc : cl[ci]? = some (C, T, N))
    (hn : As.length = n) (hsize : ls.size = nL) (hst : st0 = As.reverse ++ .ref b :: rest) (hW : (rest.map fun v => v.category).sum ≤ 8) (hdg : decode cc pc = .ok (.invokevirtual index, 3)) (hf : cells ≤ R.cells ∧ slots ≤ R.slots)
    (kk : ∀ (H1 : Heap) (locs1 : List Loc), va_P D cl (w v) H1 → va_S A s.heap H1 locs1 → W p l e R s m args below meth c H1 locs1 cells slots Q (F0 m (pc + 3) ls rest)) : W p l e R s m args below meth c H locs cells slots Q (F0 m pc ls st0) := by
  refine va_callv (A0 := A) (H0 := s.heap) (va_runV (As := As) (rest := rest) ⟨hx, hb, hml, hown, hg⟩ hM (g_cw hg hs hrc hrs hR) ⟨g_blind, va_recv hK hP hc he, fun U hU hW' => ⟨rfl, by rw [hU]; exact hP, va_K.moved hW'.alike hK⟩⟩ rfl hn hsize hst (lv_room hW) hdg hf) hS (fun q _ h => h) (fun q h => h) (fun v1 t H1 locs1 ht hvm hw hB _ _ hS1 => ?_)
  obtain rfl := hw
  rw [ht] at hB
  exact kk H1 locs1 hB hS1
theorem g_Si {r : Int32} {v : S} (hx : p.tables.exec = Jvm.exec) (hb : c.code = cc) (hml : c.maxLocals = nL) (hown : s.vm.findClass own = some m.cls) (hg : ∀ w ∈ gtbl, w.before args s = true) (hM : g_Mi l y (.code y bytes maxL ret) rm D cl tys w A u As r v) (hs : g_siteS own index y bytes maxL ret n)
    (hrc : rm.cells = 0) (hrs : rm.slots = 0) (hR : rm.frames + 1 ≤ R.frames ∧ 8 + (maxL + 11) + rm.locals ≤ R.locals) (hK : va_K D cl tys s) (hP : va_P D cl (w u) H) (hS : va_S A s.heap H locs)
    (hn : As.length = n) (hsize : ls.size = nL) (hst : st0 = As.reverse ++ rest) (hW : (rest.map fun v => v.category).sum ≤ 8) (hdg : decode cc pc = .ok (.invokestatic index, 3)) (hf : cells ≤ R.cells ∧ slots ≤ R.slots)
    (kk : ∀ (H1 : Heap) (locs1 : List Loc), va_P D cl (w v) H1 → va_S A s.heap H1 locs1 → W p l e R s m args below meth c H1 locs1 cells slots Q (F0 m (pc + 3) ls (.int r :: rest))) : W p l e R s m args below meth c H locs cells slots Q (F0 m pc ls st0) := by
  refine va_calli (A0 := A) (H0 := s.heap) (va_runS (As := As) (rest := rest) ⟨hx, hb, hml, hown, hg⟩ hM (g_cwS hg hs hrc hrs hR) ⟨g_blind, fun U hU hW' => ⟨rfl, by rw [hU]; exact hP, va_K.moved hW'.alike hK⟩⟩ rfl hn hsize hst (lv_room hW) hdg hf) hS (fun q _ h => h) (fun q h => h) (fun r1 v1 t H1 locs1 ht hvm hw hB _ _ hS1 => ?_)
  obtain ⟨rfl, rfl⟩ := hw
  rw [ht] at hB
  exact kk H1 locs1 hB hS1
/-- a return: the answer and the world's value as the contract has them -/
theorem g_iret {r r1 : Int32} {v : S} (hx : p.tables.exec = Jvm.exec) (hb : c.code = cc) (hr : meth.sig.returnType = some .int) (hlocks : meth.locks = false) (hP : va_P D cl (w u) H) (hS : va_S A s.heap H locs) (hdg : decode cc pc = .ok (.ireturn, 1)) (h1 : r1 = r) (h2 : u = v) :
    W p l e R s m args below meth c H locs 0 0 (MQ below (va_Qi (fun r1 v1 => r1 = r ∧ v1 = v) (fun v1 t => va_P D cl (w v1) t.heap) A) args s 0 0 A) (F0 m pc ls [.int r1]) :=
  W.iret hx hb hr (fun t ht hW => ⟨⟨r1, u, rfl, ⟨h1, h2⟩, by show va_P D cl (w u) t.heap; rw [ht]; exact hP⟩, hS.F ht⟩) hS.2.2 hdg hlocks
theorem g_zret {r r1 : Int32} {v : S} (hx : p.tables.exec = Jvm.exec) (hb : c.code = cc) (hr : meth.sig.returnType = some .boolean) (hlocks : meth.locks = false) (hP : va_P D cl (w u) H) (hS : va_S A s.heap H locs) (hdg : decode cc pc = .ok (.ireturn, 1)) (hn : narrow .boolean (.int r1) = .int r1) (h1 : r1 = r) (h2 : u = v) :
    W p l e R s m args below meth c H locs 0 0 (MQ below (va_Qi (fun r1 v1 => r1 = r ∧ v1 = v) (fun v1 t => va_P D cl (w v1) t.heap) A) args s 0 0 A) (F0 m pc ls [.int r1]) :=
  W.zret hx hb hr hn (fun t ht hW => ⟨⟨r1, u, rfl, ⟨h1, h2⟩, by show va_P D cl (w u) t.heap; rw [ht]; exact hP⟩, hS.F ht⟩) hS.2.2 hdg hlocks
theorem g_vret {v : S} (hx : p.tables.exec = Jvm.exec) (hb : c.code = cc) (hr : meth.sig.returnType = none) (hlocks : meth.locks = false) (hP : va_P D cl (w u) H) (hS : va_S A s.heap H locs) (hdg : decode cc pc = .ok (.return_, 1)) (h2 : u = v) :
    W p l e R s m args below meth c H locs 0 0 (MQ below (va_Qv (fun v1 => v1 = v) (fun v1 t => va_P D cl (w v1) t.heap) A) args s 0 0 A) (F0 m pc ls []) :=
  W.vret hx hb hr (fun t ht hW => ⟨⟨u, rfl, h2, by show va_P D cl (w u) t.heap; rw [ht]; exact hP⟩, hS.F ht⟩) hS.2.2 hdg hlocks
/-- a boolean answer of which nothing is known: its lowest bit -/
theorem g_zretN {r : Int32} {r1 : Int32} {v : S} (hx : p.tables.exec = Jvm.exec) (hb : c.code = cc) (hr : meth.sig.returnType = some .boolean) (hlocks : meth.locks = false) (hP : va_P D cl (w u) H) (hS : va_S A s.heap H locs) (hdg : decode cc pc = .ok (.ireturn, 1)) (h1 : vp_nar .boolean r1 = r) (h2 : u = v) :
    W p l e R s m args below meth c H locs 0 0 (MQ below (va_Qi (fun r1 v1 => r1 = r ∧ v1 = v) (fun v1 t => va_P D cl (w v1) t.heap) A) args s 0 0 A) (F0 m pc ls [.int r1]) := by
  intro T hT X
  have hnr : narrow .boolean (.int r1) = .int (vp_nar .boolean r1) := rfl
  obtain ⟨fs, hret, hrun, hended, hW, hframe⟩ := X.leave (v := some (.int (vp_nar .boolean r1))) (hlocks := hlocks) (fun h => by rw [hr] at h; cases h)
  have hmeth' : T.vm.method? m = some meth := X.method'
  refine ⟨T.setFrames fs, ?_, .returned (some (.int (vp_nar .boolean r1))), hrun, hended, ⟨⟨vp_nar .boolean r1, u, rfl, ⟨h1, h2⟩, by show va_P D cl (w u) T.heap; rw [hT]; exact hP⟩, hS.F hT⟩, locs, ⟨⟨_, rfl⟩, hW, hframe⟩, hS.2.2⟩
  jvm_step X.here [X.here.top, hx, hb, hdg, hmeth', hr, hnr]
  (try refine ⟨rfl, ?_⟩); (try refine ⟨rfl, ?_⟩)
  first | (intro acts; rw [hret _ acts rfl rfl rfl]) | rw [hret _ _ rfl rfl rfl]
  exact Steps.refl _
end GR
end
section
abbrev BS : Type := ((Nat → Int32)) × ((Nat → Int32) × Int32) × (Int32 × Int32) × ((Nat → Int32) × Int32 × Int32 × Int32 × Int32 × Int32 × Int32) × ((Nat → Int32) × Int32 × Int32 × Int32 × Int32 × Int32 × Int32 × Int32 × Int32) × ((Nat → Int32) × (Nat → Int32) × Int32 × Int32 × Int32 × Int32)
def bq_mem (u : BS) : (Nat → Int32) := u.1
def bq_keys (u : BS) : (Nat → Int32) := u.2.1.1
def bq_asked (u : BS) : Int32 := u.2.1.2
def bq_delay (u : BS) : Int32 := u.2.2.1.1
def bq_tone (u : BS) : Int32 := u.2.2.1.2
def bq_screen (u : BS) : (Nat → Int32) := u.2.2.2.1.1
def bq_on (u : BS) : Int32 := u.2.2.2.1.2.1
def bq_line (u : BS) : Int32 := u.2.2.2.1.2.2.1
def bq_place (u : BS) : Int32 := u.2.2.2.1.2.2.2.1
def bq_frames (u : BS) : Int32 := u.2.2.2.1.2.2.2.2.1
def bq_fetched (u : BS) : Int32 := u.2.2.2.1.2.2.2.2.2.1
def bq_intr (u : BS) : Int32 := u.2.2.2.1.2.2.2.2.2.2
def bq_regs (u : BS) : (Nat → Int32) := u.2.2.2.2.1.1
def bq_d (u : BS) : Int32 := u.2.2.2.2.1.2.1
def bq_df (u : BS) : Int32 := u.2.2.2.2.1.2.2.1
def bq_p (u : BS) : Int32 := u.2.2.2.2.1.2.2.2.1
def bq_x (u : BS) : Int32 := u.2.2.2.2.1.2.2.2.2.1
def bq_t (u : BS) : Int32 := u.2.2.2.2.1.2.2.2.2.2.1
def bq_ie (u : BS) : Int32 := u.2.2.2.2.1.2.2.2.2.2.2.1
def bq_q (u : BS) : Int32 := u.2.2.2.2.1.2.2.2.2.2.2.2.1
def bq_idle (u : BS) : Int32 := u.2.2.2.2.1.2.2.2.2.2.2.2.2
def bq_vars (u : BS) : (Nat → Int32) := u.2.2.2.2.2.1
def bq_stk (u : BS) : (Nat → Int32) := u.2.2.2.2.2.2.1
def bq_depth (u : BS) : Int32 := u.2.2.2.2.2.2.2.1
def bq_index (u : BS) : Int32 := u.2.2.2.2.2.2.2.2.1
def bq_pc (u : BS) : Int32 := u.2.2.2.2.2.2.2.2.2.1
def bq_random (u : BS) : Int32 := u.2.2.2.2.2.2.2.2.2.2
def bs_mem (u : BS) (z : (Nat → Int32)) : BS := (z, u.2.1, u.2.2.1, u.2.2.2.1, u.2.2.2.2.1, u.2.2.2.2.2)
def bs_keys (u : BS) (z : (Nat → Int32)) : BS := (u.1, (z, u.2.1.2), u.2.2.1, u.2.2.2.1, u.2.2.2.2.1, u.2.2.2.2.2)
def bs_asked (u : BS) (z : Int32) : BS := (u.1, (u.2.1.1, z), u.2.2.1, u.2.2.2.1, u.2.2.2.2.1, u.2.2.2.2.2)
def bs_delay (u : BS) (z : Int32) : BS := (u.1, u.2.1, (z, u.2.2.1.2), u.2.2.2.1, u.2.2.2.2.1, u.2.2.2.2.2)
def bs_tone (u : BS) (z : Int32) : BS := (u.1, u.2.1, (u.2.2.1.1, z), u.2.2.2.1, u.2.2.2.2.1, u.2.2.2.2.2)
def bs_screen (u : BS) (z : (Nat → Int32)) : BS := (u.1, u.2.1, u.2.2.1, (z, u.2.2.2.1.2.1, u.2.2.2.1.2.2.1, u.2.2.2.1.2.2.2.1, u.2.2.2.1.2.2.2.2.1, u.2.2.2.1.2.2.2.2.2.1, u.2.2.2.1.2.2.2.2.2.2), u.2.2.2.2.1, u.2.2.2.2.2)
def bs_on (u : BS) (z : Int32) : BS := (u.1, u.2.1, u.2.2.1, (u.2.2.2.1.1, z, u.2.2.2.1.2.2.1, u.2.2.2.1.2.2.2.1, u.2.2.2.1.2.2.2.2.1, u.2.2.2.1.2.2.2.2.2.1, u.2.2.2.1.2.2.2.2.2.2), u.2.2.2.2.1, u.2.2.2.2.2)
def bs_line (u : BS) (z : Int32) : BS := (u.1, u.2.1, u.2.2.1, (u.2.2.2.1.1, u.2.2.2.1.2.1, z, u.2.2.2.1.2.2.2.1, u.2.2.2.1.2.2.2.2.1, u.2.2.2.1.2.2.2.2.2.1, u.2.2.2.1.2.2.2.2.2.2), u.2.2.2.2.1, u.2.2.2.2.2)
def bs_place (u : BS) (z : Int32) : BS := (u.1, u.2.1, u.2.2.1, (u.2.2.2.1.1, u.2.2.2.1.2.1, u.2.2.2.1.2.2.1, z, u.2.2.2.1.2.2.2.2.1, u.2.2.2.1.2.2.2.2.2.1, u.2.2.2.1.2.2.2.2.2.2), u.2.2.2.2.1, u.2.2.2.2.2)
def bs_frames (u : BS) (z : Int32) : BS := (u.1, u.2.1, u.2.2.1, (u.2.2.2.1.1, u.2.2.2.1.2.1, u.2.2.2.1.2.2.1, u.2.2.2.1.2.2.2.1, z, u.2.2.2.1.2.2.2.2.2.1, u.2.2.2.1.2.2.2.2.2.2), u.2.2.2.2.1, u.2.2.2.2.2)
def bs_fetched (u : BS) (z : Int32) : BS := (u.1, u.2.1, u.2.2.1, (u.2.2.2.1.1, u.2.2.2.1.2.1, u.2.2.2.1.2.2.1, u.2.2.2.1.2.2.2.1, u.2.2.2.1.2.2.2.2.1, z, u.2.2.2.1.2.2.2.2.2.2), u.2.2.2.2.1, u.2.2.2.2.2)
def bs_intr (u : BS) (z : Int32) : BS := (u.1, u.2.1, u.2.2.1, (u.2.2.2.1.1, u.2.2.2.1.2.1, u.2.2.2.1.2.2.1, u.2.2.2.1.2.2.2.1, u.2.2.2.1.2.2.2.2.1, u.2.2.2.1.2.2.2.2.2.1, z), u.2.2.2.2.1, u.2.2.2.2.2)
def bs_regs (u : BS) (z : (Nat → Int32)) : BS := (u.1, u.2.1, u.2.2.1, u.2.2.2.1, (z, u.2.2.2.2.1.2.1, u.2.2.2.2.1.2.2.1, u.2.2.2.2.1.2.2.2.1, u.2.2.2.2.1.2.2.2.2.1, u.2.2.2.2.1.2.2.2.2.2.1, u.2.2.2.2.1.2.2.2.2.2.2.1, u.2.2.2.2.1.2.2.2.2.2.2.2.1, u.2.2.2.2.1.2.2.2.2.2.2.2.2), u.2.2.2.2.2)
def bs_d (u : BS) (z : Int32) : BS := (u.1, u.2.1, u.2.2.1, u.2.2.2.1, (u.2.2.2.2.1.1, z, u.2.2.2.2.1.2.2.1, u.2.2.2.2.1.2.2.2.1, u.2.2.2.2.1.2.2.2.2.1, u.2.2.2.2.1.2.2.2.2.2.1, u.2.2.2.2.1.2.2.2.2.2.2.1, u.2.2.2.2.1.2.2.2.2.2.2.2.1, u.2.2.2.2.1.2.2.2.2.2.2.2.2), u.2.2.2.2.2)
def bs_df (u : BS) (z : Int32) : BS := (u.1, u.2.1, u.2.2.1, u.2.2.2.1, (u.2.2.2.2.1.1, u.2.2.2.2.1.2.1, z, u.2.2.2.2.1.2.2.2.1, u.2.2.2.2.1.2.2.2.2.1, u.2.2.2.2.1.2.2.2.2.2.1, u.2.2.2.2.1.2.2.2.2.2.2.1, u.2.2.2.2.1.2.2.2.2.2.2.2.1, u.2.2.2.2.1.2.2.2.2.2.2.2.2), u.2.2.2.2.2)
def bs_p (u : BS) (z : Int32) : BS := (u.1, u.2.1, u.2.2.1, u.2.2.2.1, (u.2.2.2.2.1.1, u.2.2.2.2.1.2.1, u.2.2.2.2.1.2.2.1, z, u.2.2.2.2.1.2.2.2.2.1, u.2.2.2.2.1.2.2.2.2.2.1, u.2.2.2.2.1.2.2.2.2.2.2.1, u.2.2.2.2.1.2.2.2.2.2.2.2.1, u.2.2.2.2.1.2.2.2.2.2.2.2.2), u.2.2.2.2.2)
def bs_x (u : BS) (z : Int32) : BS := (u.1, u.2.1, u.2.2.1, u.2.2.2.1, (u.2.2.2.2.1.1, u.2.2.2.2.1.2.1, u.2.2.2.2.1.2.2.1, u.2.2.2.2.1.2.2.2.1, z, u.2.2.2.2.1.2.2.2.2.2.1, u.2.2.2.2.1.2.2.2.2.2.2.1, u.2.2.2.2.1.2.2.2.2.2.2.2.1, u.2.2.2.2.1.2.2.2.2.2.2.2.2), u.2.2.2.2.2)
def bs_t (u : BS) (z : Int32) : BS := (u.1, u.2.1, u.2.2.1, u.2.2.2.1, (u.2.2.2.2.1.1, u.2.2.2.2.1.2.1, u.2.2.2.2.1.2.2.1, u.2.2.2.2.1.2.2.2.1, u.2.2.2.2.1.2.2.2.2.1, z, u.2.2.2.2.1.2.2.2.2.2.2.1, u.2.2.2.2.1.2.2.2.2.2.2.2.1, u.2.2.2.2.1.2.2.2.2.2.2.2.2), u.2.2.2.2.2)
def bs_ie (u : BS) (z : Int32) : BS := (u.1, u.2.1, u.2.2.1, u.2.2.2.1, (u.2.2.2.2.1.1, u.2.2.2.2.1.2.1, u.2.2.2.2.1.2.2.1, u.2.2.2.2.1.2.2.2.1, u.2.2.2.2.1.2.2.2.2.1, u.2.2.2.2.1.2.2.2.2.2.1, z, u.2.2.2.2.1.2.2.2.2.2.2.2.1, u.2.2.2.2.1.2.2.2.2.2.2.2.2), u.2.2.2.2.2)
def bs_q (u : BS) (z : Int32) : BS := (u.1, u.2.1, u.2.2.1, u.2.2.2.1, (u.2.2.2.2.1.1, u.2.2.2.2.1.2.1, u.2.2.2.2.1.2.2.1, u.2.2.2.2.1.2.2.2.1, u.2.2.2.2.1.2.2.2.2.1, u.2.2.2.2.1.2.2.2.2.2.1, u.2.2.2.2.1.2.2.2.2.2.2.1, z, u.2.2.2.2.1.2.2.2.2.2.2.2.2), u.2.2.2.2.2)
def bs_idle (u : BS) (z : Int32) : BS := (u.1, u.2.1, u.2.2.1, u.2.2.2.1, (u.2.2.2.2.1.1, u.2.2.2.2.1.2.1, u.2.2.2.2.1.2.2.1, u.2.2.2.2.1.2.2.2.1, u.2.2.2.2.1.2.2.2.2.1, u.2.2.2.2.1.2.2.2.2.2.1, u.2.2.2.2.1.2.2.2.2.2.2.1, u.2.2.2.2.1.2.2.2.2.2.2.2.1, z), u.2.2.2.2.2)
def bs_vars (u : BS) (z : (Nat → Int32)) : BS := (u.1, u.2.1, u.2.2.1, u.2.2.2.1, u.2.2.2.2.1, (z, u.2.2.2.2.2.2.1, u.2.2.2.2.2.2.2.1, u.2.2.2.2.2.2.2.2.1, u.2.2.2.2.2.2.2.2.2.1, u.2.2.2.2.2.2.2.2.2.2))
def bs_stk (u : BS) (z : (Nat → Int32)) : BS := (u.1, u.2.1, u.2.2.1, u.2.2.2.1, u.2.2.2.2.1, (u.2.2.2.2.2.1, z, u.2.2.2.2.2.2.2.1, u.2.2.2.2.2.2.2.2.1, u.2.2.2.2.2.2.2.2.2.1, u.2.2.2.2.2.2.2.2.2.2))
def bs_depth (u : BS) (z : Int32) : BS := (u.1, u.2.1, u.2.2.1, u.2.2.2.1, u.2.2.2.2.1, (u.2.2.2.2.2.1, u.2.2.2.2.2.2.1, z, u.2.2.2.2.2.2.2.2.1, u.2.2.2.2.2.2.2.2.2.1, u.2.2.2.2.2.2.2.2.2.2))
def bs_index (u : BS) (z : Int32) : BS := (u.1, u.2.1, u.2.2.1, u.2.2.2.1, u.2.2.2.2.1, (u.2.2.2.2.2.1, u.2.2.2.2.2.2.1, u.2.2.2.2.2.2.2.1, z, u.2.2.2.2.2.2.2.2.2.1, u.2.2.2.2.2.2.2.2.2.2))
def bs_pc (u : BS) (z : Int32) : BS := (u.1, u.2.1, u.2.2.1, u.2.2.2.1, u.2.2.2.2.1, (u.2.2.2.2.2.1, u.2.2.2.2.2.2.1, u.2.2.2.2.2.2.2.1, u.2.2.2.2.2.2.2.2.1, z, u.2.2.2.2.2.2.2.2.2.2))
def bs_random (u : BS) (z : Int32) : BS := (u.1, u.2.1, u.2.2.1, u.2.2.2.1, u.2.2.2.2.1, (u.2.2.2.2.2.1, u.2.2.2.2.2.2.1, u.2.2.2.2.2.2.2.1, u.2.2.2.2.2.2.2.2.1, u.2.2.2.2.2.2.2.2.2.1, z))
def wB (x : Nat → Nat) (cI cZ : ClassId) (u : BS) : va_W := [(x 0, .inr (6, [.ref (x 1), .ref (x 3), .ref (x 5), .ref (x 6), .ref (x 8), .ref (x 10)])), (x 1, .inr (2, [.ref (x 2)])), (x 2, .inl (cI, 2048, .inl (bq_mem u))), (x 3, .inr (0, [.ref (x 4), .int (bq_asked u)])), (x 4, .inl (cZ, 16, .inl (bq_keys u))), (x 5, .inr (5, [.int (bq_delay u), .int (bq_tone u)])), (x 6, .inr (3, [.ref (x 5), .ref (x 7), .int (bq_on u), .int (bq_line u), .int (bq_place u), .int (bq_frames u), .int (bq_fetched u), .int (bq_intr u)])), (x 7, .inl (cI, 1024, .inl (bq_screen u))), (x 8, .inr (4, [.ref (x 1), .ref (x 3), .ref (x 6), .ref (x 9), .int (bq_d u), .int (bq_df u), .int (bq_p u), .int (bq_x u), .int (bq_t u), .int (bq_ie u), .int (bq_q u), .int (bq_idle u)])), (x 9, .inl (cI, 16, .inl (bq_regs u))), (x 10, .inr (1, [.ref (x 1), .ref (x 3), .ref (x 5), .ref (x 11), .ref (x 12), .int (bq_depth u), .int (bq_index u), .int (bq_pc u), .int (bq_random u)])), (x 11, .inl (cI, 16, .inl (bq_vars u))), (x 12, .inl (cI, 12, .inl (bq_stk u)))]
theorem wB_D {x : Nat → Nat} {cI cZ : ClassId} (h : g_inj 13 x) (u : BS) : va_D (g_bA 13 x) (wB x cI cZ u) := g_D rfl h
abbrev MS : Type := (Int32) × ((Nat → Int32) × (Nat → Int32) × (Nat → Int32) × (Nat → Int32) × (Nat → Int32) × (Nat → Int32)) × (Int32 × Int32 × Int32 × Int32 × Int32 × Int32 × Int32)
def mq_thrown (u : MS) : Int32 := u.1
def mq_mem (u : MS) : (Nat → Int32) := u.2.1.1
def mq_s (u : MS) : (Nat → Int32) := u.2.1.2.1
def mq_v (u : MS) : (Nat → Int32) := u.2.1.2.2.1
def mq_back (u : MS) : (Nat → Int32) := u.2.1.2.2.2.1
def mq_down (u : MS) : (Nat → Int32) := u.2.1.2.2.2.2.1
def mq_shown (u : MS) : (Nat → Int32) := u.2.1.2.2.2.2.2
def mq_on (u : MS) : Int32 := u.2.2.1
def mq_line (u : MS) : Int32 := u.2.2.2.1
def mq_place (u : MS) : Int32 := u.2.2.2.2.1
def mq_frames (u : MS) : Int32 := u.2.2.2.2.2.1
def mq_fetched (u : MS) : Int32 := u.2.2.2.2.2.2.1
def mq_intr (u : MS) : Int32 := u.2.2.2.2.2.2.2.1
def mq_latch (u : MS) : Int32 := u.2.2.2.2.2.2.2.2
def ms_thrown (u : MS) (z : Int32) : MS := (z, u.2.1, u.2.2)
def ms_mem (u : MS) (z : (Nat → Int32)) : MS := (u.1, (z, u.2.1.2.1, u.2.1.2.2.1, u.2.1.2.2.2.1, u.2.1.2.2.2.2.1, u.2.1.2.2.2.2.2), u.2.2)
def ms_s (u : MS) (z : (Nat → Int32)) : MS := (u.1, (u.2.1.1, z, u.2.1.2.2.1, u.2.1.2.2.2.1, u.2.1.2.2.2.2.1, u.2.1.2.2.2.2.2), u.2.2)
def ms_v (u : MS) (z : (Nat → Int32)) : MS := (u.1, (u.2.1.1, u.2.1.2.1, z, u.2.1.2.2.2.1, u.2.1.2.2.2.2.1, u.2.1.2.2.2.2.2), u.2.2)
def ms_back (u : MS) (z : (Nat → Int32)) : MS := (u.1, (u.2.1.1, u.2.1.2.1, u.2.1.2.2.1, z, u.2.1.2.2.2.2.1, u.2.1.2.2.2.2.2), u.2.2)
def ms_down (u : MS) (z : (Nat → Int32)) : MS := (u.1, (u.2.1.1, u.2.1.2.1, u.2.1.2.2.1, u.2.1.2.2.2.1, z, u.2.1.2.2.2.2.2), u.2.2)
def ms_shown (u : MS) (z : (Nat → Int32)) : MS := (u.1, (u.2.1.1, u.2.1.2.1, u.2.1.2.2.1, u.2.1.2.2.2.1, u.2.1.2.2.2.2.1, z), u.2.2)
def ms_on (u : MS) (z : Int32) : MS := (u.1, u.2.1, (z, u.2.2.2.1, u.2.2.2.2.1, u.2.2.2.2.2.1, u.2.2.2.2.2.2.1, u.2.2.2.2.2.2.2.1, u.2.2.2.2.2.2.2.2))
def ms_line (u : MS) (z : Int32) : MS := (u.1, u.2.1, (u.2.2.1, z, u.2.2.2.2.1, u.2.2.2.2.2.1, u.2.2.2.2.2.2.1, u.2.2.2.2.2.2.2.1, u.2.2.2.2.2.2.2.2))
def ms_place (u : MS) (z : Int32) : MS := (u.1, u.2.1, (u.2.2.1, u.2.2.2.1, z, u.2.2.2.2.2.1, u.2.2.2.2.2.2.1, u.2.2.2.2.2.2.2.1, u.2.2.2.2.2.2.2.2))
def ms_frames (u : MS) (z : Int32) : MS := (u.1, u.2.1, (u.2.2.1, u.2.2.2.1, u.2.2.2.2.1, z, u.2.2.2.2.2.2.1, u.2.2.2.2.2.2.2.1, u.2.2.2.2.2.2.2.2))
def ms_fetched (u : MS) (z : Int32) : MS := (u.1, u.2.1, (u.2.2.1, u.2.2.2.1, u.2.2.2.2.1, u.2.2.2.2.2.1, z, u.2.2.2.2.2.2.2.1, u.2.2.2.2.2.2.2.2))
def ms_intr (u : MS) (z : Int32) : MS := (u.1, u.2.1, (u.2.2.1, u.2.2.2.1, u.2.2.2.2.1, u.2.2.2.2.2.1, u.2.2.2.2.2.2.1, z, u.2.2.2.2.2.2.2.2))
def ms_latch (u : MS) (z : Int32) : MS := (u.1, u.2.1, (u.2.2.1, u.2.2.2.1, u.2.2.2.2.1, u.2.2.2.2.2.1, u.2.2.2.2.2.2.1, u.2.2.2.2.2.2.2.1, z))
def wM (x : Nat → Nat) (cI cZ : ClassId) (u : MS) : va_W := [(x 0, .inr (7, [.int (mq_thrown u), .ref (x 1), .ref (x 2), .ref (x 3), .ref (x 4), .ref (x 5), .int (mq_on u), .int (mq_line u), .int (mq_place u), .int (mq_frames u), .int (mq_fetched u), .int (mq_intr u), .int (mq_latch u), .ref (x 6)])), (x 1, .inl (cI, 2048, .inl (mq_mem u))), (x 2, .inl (cI, 24, .inl (mq_s u))), (x 3, .inl (cI, 22, .inl (mq_v u))), (x 4, .inl (cI, 12, .inl (mq_back u))), (x 5, .inl (cZ, 16, .inl (mq_down u))), (x 6, .inl (cI, 1024, .inl (mq_shown u)))]
theorem wM_D {x : Nat → Nat} {cI cZ : ClassId} (h : g_inj 7 x) (u : MS) : va_D (g_bA 7 x) (wM x cI cZ u) := g_D rfl h
abbrev tysW (cI cZ : ClassId) : List (ClassId × FieldType) := [(cI, .int), (cZ, .boolean)]
section ROWS
variable {p : Program} {l : Launch} {e : Env} {R : Room} {s : State} {m : MethodId} {args : Array Value} {below : List Frame} {meth : Method} {c : Code} {H : Heap} {locs : List Loc} {cells slots : Nat} {Q : State → Prop}
variable {dC : Nat → ClassId} {dI : Nat → Nat → Nat} {cI cZ : ClassId} {x : Nat → Nat} {cc : ByteArray} {pc : Nat} {ls : Array Slot} {rest : List Value}
theorem ge_X6_memory {own : String} {index : Nat} {u : BS} (hx : p.tables.exec = Jvm.exec) (hb : c.code = cc) (hg : ∀ w ∈ gtbl, w.before args s = true) (hown : s.vm.findClass own = some m.cls) (hl : Cond.fieldLink own index "VipBoard" "memory" "LVipBoard$Memory;" ∈ gtbl) (hK : va_K (dC, dI) vwCl (tysW cI cZ) s) (hP : va_P (dC, dI) vwCl (wB x cI cZ u) H) (hdg : decode cc pc = .ok (.getfield index, 3)) (kk : W p l e R s m args below meth c H locs cells slots Q (F0 m (pc + 3) ls (.ref (x 1) :: rest))) : W p l e R s m args below meth c H locs cells slots Q (F0 m pc ls (.ref (x 0) :: rest)) :=
  va_get (D := (dC, dI)) (ci := 6) (C := RX6) (T := TX6) (N := 6) hx hb hg inG6 hown hK hP 0 rfl rfl 0 (by decide) (hg _ hl) (fun _ h9 => h9) rfl hdg kk
theorem ge_X6_keys {own : String} {index : Nat} {u : BS} (hx : p.tables.exec = Jvm.exec) (hb : c.code = cc) (hg : ∀ w ∈ gtbl, w.before args s = true) (hown : s.vm.findClass own = some m.cls) (hl : Cond.fieldLink own index "VipBoard" "keys" "LVipBoard$Keys;" ∈ gtbl) (hK : va_K (dC, dI) vwCl (tysW cI cZ) s) (hP : va_P (dC, dI) vwCl (wB x cI cZ u) H) (hdg : decode cc pc = .ok (.getfield index, 3)) (kk : W p l e R s m args below meth c H locs cells slots Q (F0 m (pc + 3) ls (.ref (x 3) :: rest))) : W p l e R s m args below meth c H locs cells slots Q (F0 m pc ls (.ref (x 0) :: rest)) :=
  va_get (D := (dC, dI)) (ci := 6) (C := RX6) (T := TX6) (N := 6) hx hb hg inG6 hown hK hP 0 rfl rfl 1 (by decide) (hg _ hl) (fun _ h9 => h9) rfl hdg kk
theorem ge_X6_timers {own : String} {index : Nat} {u : BS} (hx : p.tables.exec = Jvm.exec) (hb : c.code = cc) (hg : ∀ w ∈ gtbl, w.before args s = true) (hown : s.vm.findClass own = some m.cls) (hl : Cond.fieldLink own index "VipBoard" "timers" "LVipBoard$Timers;" ∈ gtbl) (hK : va_K (dC, dI) vwCl (tysW cI cZ) s) (hP : va_P (dC, dI) vwCl (wB x cI cZ u) H) (hdg : decode cc pc = .ok (.getfield index, 3)) (kk : W p l e R s m args below meth c H locs cells slots Q (F0 m (pc + 3) ls (.ref (x 5) :: rest))) : W p l e R s m args below meth c H locs cells slots Q (F0 m pc ls (.ref (x 0) :: rest)) :=
  va_get (D := (dC, dI)) (ci := 6) (C := RX6) (T := TX6) (N := 6) hx hb hg inG6 hown hK hP 0 rfl rfl 2 (by decide) (hg _ hl) (fun _ h9 => h9) rfl hdg kk
theorem ge_X6_picture {own : String} {index : Nat} {u : BS} (hx : p.tables.exec = Jvm.exec) (hb : c.code = cc) (hg : ∀ w ∈ gtbl, w.before args s = true) (hown : s.vm.findClass own = some m.cls) (hl : Cond.fieldLink own index "VipBoard" "picture" "LVipBoard$Picture;" ∈ gtbl) (hK : va_K (dC, dI) vwCl (tysW cI cZ) s) (hP : va_P (dC, dI) vwCl (wB x cI cZ u) H) (hdg : decode cc pc = .ok (.getfield index, 3)) (kk : W p l e R s m args below meth c H locs cells slots Q (F0 m (pc + 3) ls (.ref (x 6) :: rest))) : W p l e R s m args below meth c H locs cells slots Q (F0 m pc ls (.ref (x 0) :: rest)) :=
  va_get (D := (dC, dI)) (ci := 6) (C := RX6) (T := TX6) (N := 6) hx hb hg inG6 hown hK hP 0 rfl rfl 3 (by decide) (hg _ hl) (fun _ h9 => h9) rfl hdg kk
theorem ge_X6_processor {own : String} {index : Nat} {u : BS} (hx : p.tables.exec = Jvm.exec) (hb : c.code = cc) (hg : ∀ w ∈ gtbl, w.before args s = true) (hown : s.vm.findClass own = some m.cls) (hl : Cond.fieldLink own index "VipBoard" "processor" "LVipBoard$Processor;" ∈ gtbl) (hK : va_K (dC, dI) vwCl (tysW cI cZ) s) (hP : va_P (dC, dI) vwCl (wB x cI cZ u) H) (hdg : decode cc pc = .ok (.getfield index, 3)) (kk : W p l e R s m args below meth c H locs cells slots Q (F0 m (pc + 3) ls (.ref (x 8) :: rest))) : W p l e R s m args below meth c H locs cells slots Q (F0 m pc ls (.ref (x 0) :: rest)) :=
  va_get (D := (dC, dI)) (ci := 6) (C := RX6) (T := TX6) (N := 6) hx hb hg inG6 hown hK hP 0 rfl rfl 4 (by decide) (hg _ hl) (fun _ h9 => h9) rfl hdg kk
theorem ge_X6_language {own : String} {index : Nat} {u : BS} (hx : p.tables.exec = Jvm.exec) (hb : c.code = cc) (hg : ∀ w ∈ gtbl, w.before args s = true) (hown : s.vm.findClass own = some m.cls) (hl : Cond.fieldLink own index "VipBoard" "language" "LVipBoard$Language;" ∈ gtbl) (hK : va_K (dC, dI) vwCl (tysW cI cZ) s) (hP : va_P (dC, dI) vwCl (wB x cI cZ u) H) (hdg : decode cc pc = .ok (.getfield index, 3)) (kk : W p l e R s m args below meth c H locs cells slots Q (F0 m (pc + 3) ls (.ref (x 10) :: rest))) : W p l e R s m args below meth c H locs cells slots Q (F0 m pc ls (.ref (x 0) :: rest)) :=
  va_get (D := (dC, dI)) (ci := 6) (C := RX6) (T := TX6) (N := 6) hx hb hg inG6 hown hK hP 0 rfl rfl 5 (by decide) (hg _ hl) (fun _ h9 => h9) rfl hdg kk
theorem ge_X2_bytes {own : String} {index : Nat} {u : BS} (hx : p.tables.exec = Jvm.exec) (hb : c.code = cc) (hg : ∀ w ∈ gtbl, w.before args s = true) (hown : s.vm.findClass own = some m.cls) (hl : Cond.fieldLink own index "VipBoard$Memory" "bytes" "[I" ∈ gtbl) (hK : va_K (dC, dI) vwCl (tysW cI cZ) s) (hP : va_P (dC, dI) vwCl (wB x cI cZ u) H) (hdg : decode cc pc = .ok (.getfield index, 3)) (kk : W p l e R s m args below meth c H locs cells slots Q (F0 m (pc + 3) ls (.ref (x 2) :: rest))) : W p l e R s m args below meth c H locs cells slots Q (F0 m pc ls (.ref (x 1) :: rest)) :=
  va_get (D := (dC, dI)) (ci := 2) (C := RX2) (T := TX2) (N := 1) hx hb hg inG2 hown hK hP 1 rfl rfl 0 (by decide) (hg _ hl) (fun _ h9 => h9) rfl hdg kk
theorem bl_mem {u : BS} {i : Int32} (hx : p.tables.exec = Jvm.exec) (hb : c.code = cc) (hK : va_K (dC, dI) vwCl (tysW cI cZ) s) (hP : va_P (dC, dI) vwCl (wB x cI cZ u) H) (hin : vp_in i 2048) (hdg : decode cc pc = .ok (.iaload, 1)) (kk : W p l e R s m args below meth c H locs cells slots Q (F0 m (pc + 1) ls (.int (bq_mem u i.toNatClampNeg) :: rest))) : W p l e R s m args below meth c H locs cells slots Q (F0 m pc ls (.int i :: .ref (x 2) :: rest)) :=
  va_iald (D := (dC, dI)) hx hb hK hP 2 0 rfl rfl hin hdg kk
theorem ba_mem {u : BS} {i z : Int32} (hi : g_inj 13 x) (hx : p.tables.exec = Jvm.exec) (hb : c.code = cc) (hK : va_K (dC, dI) vwCl (tysW cI cZ) s) (hP : va_P (dC, dI) vwCl (wB x cI cZ u) H) (hS : va_S (g_bA 13 x) s.heap H locs) (hin : vp_in i 2048) (hdg : decode cc pc = .ok (.iastore, 1)) (kk : ∀ (H : Heap) (locs : List Loc), va_P (dC, dI) vwCl (wB x cI cZ (bs_mem u (upd (bq_mem u) i.toNatClampNeg z))) H → va_S (g_bA 13 x) s.heap H locs → W p l e R s m args below meth c H locs cells slots Q (F0 m (pc + 1) ls rest)) : W p l e R s m args below meth c H locs cells slots Q (F0 m pc ls (.int z :: .int i :: .ref (x 2) :: rest)) :=
  va_iast (D := (dC, dI)) hx hb hK hP (wB_D hi u) hS 2 0 rfl rfl hin hdg (fun H1 locs1 hP1 _ hS1 => kk H1 locs1 hP1 hS1)
theorem ge_X0_down {own : String} {index : Nat} {u : BS} (hx : p.tables.exec = Jvm.exec) (hb : c.code = cc) (hg : ∀ w ∈ gtbl, w.before args s = true) (hown : s.vm.findClass own = some m.cls) (hl : Cond.fieldLink own index "VipBoard$Keys" "down" "[Z" ∈ gtbl) (hK : va_K (dC, dI) vwCl (tysW cI cZ) s) (hP : va_P (dC, dI) vwCl (wB x cI cZ u) H) (hdg : decode cc pc = .ok (.getfield index, 3)) (kk : W p l e R s m args below meth c H locs cells slots Q (F0 m (pc + 3) ls (.ref (x 4) :: rest))) : W p l e R s m args below meth c H locs cells slots Q (F0 m pc ls (.ref (x 3) :: rest)) :=
  va_get (D := (dC, dI)) (ci := 0) (C := RX0) (T := TX0) (N := 2) hx hb hg inG0 hown hK hP 3 rfl rfl 0 (by decide) (hg _ hl) (fun _ h9 => h9) rfl hdg kk
theorem ge_X0_asked {own : String} {index : Nat} {u : BS} (hx : p.tables.exec = Jvm.exec) (hb : c.code = cc) (hg : ∀ w ∈ gtbl, w.before args s = true) (hown : s.vm.findClass own = some m.cls) (hl : Cond.fieldLink own index "VipBoard$Keys" "asked" "I" ∈ gtbl) (hK : va_K (dC, dI) vwCl (tysW cI cZ) s) (hP : va_P (dC, dI) vwCl (wB x cI cZ u) H) (hdg : decode cc pc = .ok (.getfield index, 3)) (kk : W p l e R s m args below meth c H locs cells slots Q (F0 m (pc + 3) ls (.int (bq_asked u) :: rest))) : W p l e R s m args below meth c H locs cells slots Q (F0 m pc ls (.ref (x 3) :: rest)) :=
  va_get (D := (dC, dI)) (ci := 0) (C := RX0) (T := TX0) (N := 2) hx hb hg inG0 hown hK hP 3 rfl rfl 1 (by decide) (hg _ hl) (fun _ h9 => h9) rfl hdg kk
theorem pu_X0_asked {own : String} {index : Nat} {u : BS} {z : Int32} (hi : g_inj 13 x) (hx : p.tables.exec = Jvm.exec) (hb : c.code = cc) (hg : ∀ w ∈ gtbl, w.before args s = true) (hown : s.vm.findClass own = some m.cls) (hl : Cond.fieldLink own index "VipBoard$Keys" "asked" "I" ∈ gtbl) (hK : va_K (dC, dI) vwCl (tysW cI cZ) s) (hP : va_P (dC, dI) vwCl (wB x cI cZ u) H) (hS : va_S (g_bA 13 x) s.heap H locs) (hdg : decode cc pc = .ok (.putfield index, 3)) (kk : ∀ (H : Heap) (locs : List Loc), va_P (dC, dI) vwCl (wB x cI cZ (bs_asked u z)) H → va_S (g_bA 13 x) s.heap H locs → W p l e R s m args below meth c H locs cells slots Q (F0 m (pc + 3) ls rest)) : W p l e R s m args below meth c H locs cells slots Q (F0 m pc ls (.int z :: .ref (x 3) :: rest)) :=
  va_put (D := (dC, dI)) (ci := 0) (ty := .int) (C := RX0) (T := TX0) (N := 2) hx hb hg inG0 tyX0 tyX0_ok nmX0 hown hK hP (wB_D hi u) hS 3 rfl rfl 1 (by decide) (hg _ hl) (fun _ h9 => h9) rfl (by decide +kernel) rfl rfl (Nat.le_of_ble_eq_true rfl) hdg (fun H1 locs1 hP1 _ hS1 => kk H1 locs1 hP1 hS1)
theorem bl_keys {u : BS} {i : Int32} (hx : p.tables.exec = Jvm.exec) (hb : c.code = cc) (hK : va_K (dC, dI) vwCl (tysW cI cZ) s) (hP : va_P (dC, dI) vwCl (wB x cI cZ u) H) (hin : vp_in i 16) (hdg : decode cc pc = .ok (.baload, 1)) (kk : W p l e R s m args below meth c H locs cells slots Q (F0 m (pc + 1) ls (.int (bq_keys u i.toNatClampNeg) :: rest))) : W p l e R s m args below meth c H locs cells slots Q (F0 m pc ls (.int i :: .ref (x 4) :: rest)) :=
  va_zald (D := (dC, dI)) hx hb hK hP 4 1 rfl rfl hin hdg kk
theorem ba_keys {u : BS} {i z : Int32} (hi : g_inj 13 x) (hx : p.tables.exec = Jvm.exec) (hb : c.code = cc) (hK : va_K (dC, dI) vwCl (tysW cI cZ) s) (hP : va_P (dC, dI) vwCl (wB x cI cZ u) H) (hS : va_S (g_bA 13 x) s.heap H locs) (hin : vp_in i 16) (hdg : decode cc pc = .ok (.bastore, 1)) (kk : ∀ (H : Heap) (locs : List Loc), va_P (dC, dI) vwCl (wB x cI cZ (bs_keys u (upd (bq_keys u) i.toNatClampNeg (vp_nar .boolean z)))) H → va_S (g_bA 13 x) s.heap H locs → W p l e R s m args below meth c H locs cells slots Q (F0 m (pc + 1) ls rest)) : W p l e R s m args below meth c H locs cells slots Q (F0 m pc ls (.int z :: .int i :: .ref (x 4) :: rest)) :=
  va_zast (D := (dC, dI)) hx hb hK hP (wB_D hi u) hS 4 1 rfl rfl hin hdg (fun H1 locs1 hP1 _ hS1 => kk H1 locs1 hP1 hS1)
theorem ge_X5_delay {own : String} {index : Nat} {u : BS} (hx : p.tables.exec = Jvm.exec) (hb : c.code = cc) (hg : ∀ w ∈ gtbl, w.before args s = true) (hown : s.vm.findClass own = some m.cls) (hl : Cond.fieldLink own index "VipBoard$Timers" "delay" "I" ∈ gtbl) (hK : va_K (dC, dI) vwCl (tysW cI cZ) s) (hP : va_P (dC, dI) vwCl (wB x cI cZ u) H) (hdg : decode cc pc = .ok (.getfield index, 3)) (kk : W p l e R s m args below meth c H locs cells slots Q (F0 m (pc + 3) ls (.int (bq_delay u) :: rest))) : W p l e R s m args below meth c H locs cells slots Q (F0 m pc ls (.ref (x 5) :: rest)) :=
  va_get (D := (dC, dI)) (ci := 5) (C := RX5) (T := TX5) (N := 2) hx hb hg inG5 hown hK hP 5 rfl rfl 0 (by decide) (hg _ hl) (fun _ h9 => h9) rfl hdg kk
theorem pu_X5_delay {own : String} {index : Nat} {u : BS} {z : Int32} (hi : g_inj 13 x) (hx : p.tables.exec = Jvm.exec) (hb : c.code = cc) (hg : ∀ w ∈ gtbl, w.before args s = true) (hown : s.vm.findClass own = some m.cls) (hl : Cond.fieldLink own index "VipBoard$Timers" "delay" "I" ∈ gtbl) (hK : va_K (dC, dI) vwCl (tysW cI cZ) s) (hP : va_P (dC, dI) vwCl (wB x cI cZ u) H) (hS : va_S (g_bA 13 x) s.heap H locs) (hdg : decode cc pc = .ok (.putfield index, 3)) (kk : ∀ (H : Heap) (locs : List Loc), va_P (dC, dI) vwCl (wB x cI cZ (bs_delay u z)) H → va_S (g_bA 13 x) s.heap H locs → W p l e R s m args below meth c H locs cells slots Q (F0 m (pc + 3) ls rest)) : W p l e R s m args below meth c H locs cells slots Q (F0 m pc ls (.int z :: .ref (x 5) :: rest)) :=
  va_put (D := (dC, dI)) (ci := 5) (ty := .int) (C := RX5) (T := TX5) (N := 2) hx hb hg inG5 tyX5 tyX5_ok nmX5 hown hK hP (wB_D hi u) hS 5 rfl rfl 0 (by decide) (hg _ hl) (fun _ h9 => h9) rfl (by decide +kernel) rfl rfl (Nat.le_of_ble_eq_true rfl) hdg (fun H1 locs1 hP1 _ hS1 => kk H1 locs1 hP1 hS1)
theorem ge_X5_tone {own : String} {index : Nat} {u : BS} (hx : p.tables.exec = Jvm.exec) (hb : c.code = cc) (hg : ∀ w ∈ gtbl, w.before args s = true) (hown : s.vm.findClass own = some m.cls) (hl : Cond.fieldLink own index "VipBoard$Timers" "tone" "I" ∈ gtbl) (hK : va_K (dC, dI) vwCl (tysW cI cZ) s) (hP : va_P (dC, dI) vwCl (wB x cI cZ u) H) (hdg : decode cc pc = .ok (.getfield index, 3)) (kk : W p l e R s m args below meth c H locs cells slots Q (F0 m (pc + 3) ls (.int (bq_tone u) :: rest))) : W p l e R s m args below meth c H locs cells slots Q (F0 m pc ls (.ref (x 5) :: rest)) :=
  va_get (D := (dC, dI)) (ci := 5) (C := RX5) (T := TX5) (N := 2) hx hb hg inG5 hown hK hP 5 rfl rfl 1 (by decide) (hg _ hl) (fun _ h9 => h9) rfl hdg kk
theorem pu_X5_tone {own : String} {index : Nat} {u : BS} {z : Int32} (hi : g_inj 13 x) (hx : p.tables.exec = Jvm.exec) (hb : c.code = cc) (hg : ∀ w ∈ gtbl, w.before args s = true) (hown : s.vm.findClass own = some m.cls) (hl : Cond.fieldLink own index "VipBoard$Timers" "tone" "I" ∈ gtbl) (hK : va_K (dC, dI) vwCl (tysW cI cZ) s) (hP : va_P (dC, dI) vwCl (wB x cI cZ u) H) (hS : va_S (g_bA 13 x) s.heap H locs) (hdg : decode cc pc = .ok (.putfield index, 3)) (kk : ∀ (H : Heap) (locs : List Loc), va_P (dC, dI) vwCl (wB x cI cZ (bs_tone u z)) H → va_S (g_bA 13 x) s.heap H locs → W p l e R s m args below meth c H locs cells slots Q (F0 m (pc + 3) ls rest)) : W p l e R s m args below meth c H locs cells slots Q (F0 m pc ls (.int z :: .ref (x 5) :: rest)) :=
  va_put (D := (dC, dI)) (ci := 5) (ty := .int) (C := RX5) (T := TX5) (N := 2) hx hb hg inG5 tyX5 tyX5_ok nmX5 hown hK hP (wB_D hi u) hS 5 rfl rfl 1 (by decide) (hg _ hl) (fun _ h9 => h9) rfl (by decide +kernel) rfl rfl (Nat.le_of_ble_eq_true rfl) hdg (fun H1 locs1 hP1 _ hS1 => kk H1 locs1 hP1 hS1)
theorem ge_X3_timers {own : String} {index : Nat} {u : BS} (hx : p.tables.exec = Jvm.exec) (hb : c.code = cc) (hg : ∀ w ∈ gtbl, w.before args s = true) (hown : s.vm.findClass own = some m.cls) (hl : Cond.fieldLink own index "VipBoard$Picture" "timers" "LVipBoard$Timers;" ∈ gtbl) (hK : va_K (dC, dI) vwCl (tysW cI cZ) s) (hP : va_P (dC, dI) vwCl (wB x cI cZ u) H) (hdg : decode cc pc = .ok (.getfield index, 3)) (kk : W p l e R s m args below meth c H locs cells slots Q (F0 m (pc + 3) ls (.ref (x 5) :: rest))) : W p l e R s m args below meth c H locs cells slots Q (F0 m pc ls (.ref (x 6) :: rest)) :=
  va_get (D := (dC, dI)) (ci := 3) (C := RX3) (T := TX3) (N := 8) hx hb hg inG3 hown hK hP 6 rfl rfl 0 (by decide) (hg _ hl) (fun _ h9 => h9) rfl hdg kk
theorem ge_X3_screen {own : String} {index : Nat} {u : BS} (hx : p.tables.exec = Jvm.exec) (hb : c.code = cc) (hg : ∀ w ∈ gtbl, w.before args s = true) (hown : s.vm.findClass own = some m.cls) (hl : Cond.fieldLink own index "VipBoard$Picture" "screen" "[I" ∈ gtbl) (hK : va_K (dC, dI) vwCl (tysW cI cZ) s) (hP : va_P (dC, dI) vwCl (wB x cI cZ u) H) (hdg : decode cc pc = .ok (.getfield index, 3)) (kk : W p l e R s m args below meth c H locs cells slots Q (F0 m (pc + 3) ls (.ref (x 7) :: rest))) : W p l e R s m args below meth c H locs cells slots Q (F0 m pc ls (.ref (x 6) :: rest)) :=
  va_get (D := (dC, dI)) (ci := 3) (C := RX3) (T := TX3) (N := 8) hx hb hg inG3 hown hK hP 6 rfl rfl 1 (by decide) (hg _ hl) (fun _ h9 => h9) rfl hdg kk
theorem ge_X3_on {own : String} {index : Nat} {u : BS} (hx : p.tables.exec = Jvm.exec) (hb : c.code = cc) (hg : ∀ w ∈ gtbl, w.before args s = true) (hown : s.vm.findClass own = some m.cls) (hl : Cond.fieldLink own index "VipBoard$Picture" "on" "Z" ∈ gtbl) (hK : va_K (dC, dI) vwCl (tysW cI cZ) s) (hP : va_P (dC, dI) vwCl (wB x cI cZ u) H) (hdg : decode cc pc = .ok (.getfield index, 3)) (kk : W p l e R s m args below meth c H locs cells slots Q (F0 m (pc + 3) ls (.int (bq_on u) :: rest))) : W p l e R s m args below meth c H locs cells slots Q (F0 m pc ls (.ref (x 6) :: rest)) :=
  va_get (D := (dC, dI)) (ci := 3) (C := RX3) (T := TX3) (N := 8) hx hb hg inG3 hown hK hP 6 rfl rfl 2 (by decide) (hg _ hl) (fun _ h9 => h9) rfl hdg kk
theorem pu_X3_on {own : String} {index : Nat} {u : BS} {z : Int32} (hi : g_inj 13 x) (hx : p.tables.exec = Jvm.exec) (hb : c.code = cc) (hg : ∀ w ∈ gtbl, w.before args s = true) (hown : s.vm.findClass own = some m.cls) (hl : Cond.fieldLink own index "VipBoard$Picture" "on" "Z" ∈ gtbl) (hK : va_K (dC, dI) vwCl (tysW cI cZ) s) (hP : va_P (dC, dI) vwCl (wB x cI cZ u) H) (hS : va_S (g_bA 13 x) s.heap H locs) (hz : narrow .boolean (.int z) = .int z) (hzf : fits .boolean (.int z) = true) (hdg : decode cc pc = .ok (.putfield index, 3)) (kk : ∀ (H : Heap) (locs : List Loc), va_P (dC, dI) vwCl (wB x cI cZ (bs_on u z)) H → va_S (g_bA 13 x) s.heap H locs → W p l e R s m args below meth c H locs cells slots Q (F0 m (pc + 3) ls rest)) : W p l e R s m args below meth c H locs cells slots Q (F0 m pc ls (.int z :: .ref (x 6) :: rest)) :=
  va_put (D := (dC, dI)) (ci := 3) (ty := .boolean) (C := RX3) (T := TX3) (N := 8) hx hb hg inG3 tyX3 tyX3_ok nmX3 hown hK hP (wB_D hi u) hS 6 rfl rfl 2 (by decide) (hg _ hl) (fun _ h9 => h9) rfl (by decide +kernel) hz hzf (Nat.le_of_ble_eq_true rfl) hdg (fun H1 locs1 hP1 _ hS1 => kk H1 locs1 hP1 hS1)
theorem ge_X3_line {own : String} {index : Nat} {u : BS} (hx : p.tables.exec = Jvm.exec) (hb : c.code = cc) (hg : ∀ w ∈ gtbl, w.before args s = true) (hown : s.vm.findClass own = some m.cls) (hl : Cond.fieldLink own index "VipBoard$Picture" "line" "I" ∈ gtbl) (hK : va_K (dC, dI) vwCl (tysW cI cZ) s) (hP : va_P (dC, dI) vwCl (wB x cI cZ u) H) (hdg : decode cc pc = .ok (.getfield index, 3)) (kk : W p l e R s m args below meth c H locs cells slots Q (F0 m (pc + 3) ls (.int (bq_line u) :: rest))) : W p l e R s m args below meth c H locs cells slots Q (F0 m pc ls (.ref (x 6) :: rest)) :=
  va_get (D := (dC, dI)) (ci := 3) (C := RX3) (T := TX3) (N := 8) hx hb hg inG3 hown hK hP 6 rfl rfl 3 (by decide) (hg _ hl) (fun _ h9 => h9) rfl hdg kk
theorem pu_X3_line {own : String} {index : Nat} {u : BS} {z : Int32} (hi : g_inj 13 x) (hx : p.tables.exec = Jvm.exec) (hb : c.code = cc) (hg : ∀ w ∈ gtbl, w.before args s = true) (hown : s.vm.findClass own = some m.cls) (hl : Cond.fieldLink own index "VipBoard$Picture" "line" "I" ∈ gtbl) (hK : va_K (dC, dI) vwCl (tysW cI cZ) s) (hP : va_P (dC, dI) vwCl (wB x cI cZ u) H) (hS : va_S (g_bA 13 x) s.heap H locs) (hdg : decode cc pc = .ok (.putfield index, 3)) (kk : ∀ (H : Heap) (locs : List Loc), va_P (dC, dI) vwCl (wB x cI cZ (bs_line u z)) H → va_S (g_bA 13 x) s.heap H locs → W p l e R s m args below meth c H locs cells slots Q (F0 m (pc + 3) ls rest)) : W p l e R s m args below meth c H locs cells slots Q (F0 m pc ls (.int z :: .ref (x 6) :: rest)) :=
  va_put (D := (dC, dI)) (ci := 3) (ty := .int) (C := RX3) (T := TX3) (N := 8) hx hb hg inG3 tyX3 tyX3_ok nmX3 hown hK hP (wB_D hi u) hS 6 rfl rfl 3 (by decide) (hg _ hl) (fun _ h9 => h9) rfl (by decide +kernel) rfl rfl (Nat.le_of_ble_eq_true rfl) hdg (fun H1 locs1 hP1 _ hS1 => kk H1 locs1 hP1 hS1)
theorem ge_X3_place {own : String} {index : Nat} {u : BS} (hx : p.tables.exec = Jvm.exec) (hb : c.code = cc) (hg : ∀ w ∈ gtbl, w.before args s = true) (hown : s.vm.findClass own = some m.cls) (hl : Cond.fieldLink own index "VipBoard$Picture" "place" "I" ∈ gtbl) (hK : va_K (dC, dI) vwCl (tysW cI cZ) s) (hP : va_P (dC, dI) vwCl (wB x cI cZ u) H) (hdg : decode cc pc = .ok (.getfield index, 3)) (kk : W p l e R s m args below meth c H locs cells slots Q (F0 m (pc + 3) ls (.int (bq_place u) :: rest))) : W p l e R s m args below meth c H locs cells slots Q (F0 m pc ls (.ref (x 6) :: rest)) :=
  va_get (D := (dC, dI)) (ci := 3) (C := RX3) (T := TX3) (N := 8) hx hb hg inG3 hown hK hP 6 rfl rfl 4 (by decide) (hg _ hl) (fun _ h9 => h9) rfl hdg kk
theorem pu_X3_place {own : String} {index : Nat} {u : BS} {z : Int32} (hi : g_inj 13 x) (hx : p.tables.exec = Jvm.exec) (hb : c.code = cc) (hg : ∀ w ∈ gtbl, w.before args s = true) (hown : s.vm.findClass own = some m.cls) (hl : Cond.fieldLink own index "VipBoard$Picture" "place" "I" ∈ gtbl) (hK : va_K (dC, dI) vwCl (tysW cI cZ) s) (hP : va_P (dC, dI) vwCl (wB x cI cZ u) H) (hS : va_S (g_bA 13 x) s.heap H locs) (hdg : decode cc pc = .ok (.putfield index, 3)) (kk : ∀ (H : Heap) (locs : List Loc), va_P (dC, dI) vwCl (wB x cI cZ (bs_place u z)) H → va_S (g_bA 13 x) s.heap H locs → W p l e R s m args below meth c H locs cells slots Q (F0 m (pc + 3) ls rest)) : W p l e R s m args below meth c H locs cells slots Q (F0 m pc ls (.int z :: .ref (x 6) :: rest)) :=
  va_put (D := (dC, dI)) (ci := 3) (ty := .int) (C := RX3) (T := TX3) (N := 8) hx hb hg inG3 tyX3 tyX3_ok nmX3 hown hK hP (wB_D hi u) hS 6 rfl rfl 4 (by decide) (hg _ hl) (fun _ h9 => h9) rfl (by decide +kernel) rfl rfl (Nat.le_of_ble_eq_true rfl) hdg (fun H1 locs1 hP1 _ hS1 => kk H1 locs1 hP1 hS1)
theorem ge_X3_frames {own : String} {index : Nat} {u : BS} (hx : p.tables.exec = Jvm.exec) (hb : c.code = cc) (hg : ∀ w ∈ gtbl, w.before args s = true) (hown : s.vm.findClass own = some m.cls) (hl : Cond.fieldLink own index "VipBoard$Picture" "frames" "I" ∈ gtbl) (hK : va_K (dC, dI) vwCl (tysW cI cZ) s) (hP : va_P (dC, dI) vwCl (wB x cI cZ u) H) (hdg : decode cc pc = .ok (.getfield index, 3)) (kk : W p l e R s m args below meth c H locs cells slots Q (F0 m (pc + 3) ls (.int (bq_frames u) :: rest))) : W p l e R s m args below meth c H locs cells slots Q (F0 m pc ls (.ref (x 6) :: rest)) :=
  va_get (D := (dC, dI)) (ci := 3) (C := RX3) (T := TX3) (N := 8) hx hb hg inG3 hown hK hP 6 rfl rfl 5 (by decide) (hg _ hl) (fun _ h9 => h9) rfl hdg kk
theorem pu_X3_frames {own : String} {index : Nat} {u : BS} {z : Int32} (hi : g_inj 13 x) (hx : p.tables.exec = Jvm.exec) (hb : c.code = cc) (hg : ∀ w ∈ gtbl, w.before args s = true) (hown : s.vm.findClass own = some m.cls) (hl : Cond.fieldLink own index "VipBoard$Picture" "frames" "I" ∈ gtbl) (hK : va_K (dC, dI) vwCl (tysW cI cZ) s) (hP : va_P (dC, dI) vwCl (wB x cI cZ u) H) (hS : va_S (g_bA 13 x) s.heap H locs) (hdg : decode cc pc = .ok (.putfield index, 3)) (kk : ∀ (H : Heap) (locs : List Loc), va_P (dC, dI) vwCl (wB x cI cZ (bs_frames u z)) H → va_S (g_bA 13 x) s.heap H locs → W p l e R s m args below meth c H locs cells slots Q (F0 m (pc + 3) ls rest)) : W p l e R s m args below meth c H locs cells slots Q (F0 m pc ls (.int z :: .ref (x 6) :: rest)) :=
  va_put (D := (dC, dI)) (ci := 3) (ty := .int) (C := RX3) (T := TX3) (N := 8) hx hb hg inG3 tyX3 tyX3_ok nmX3 hown hK hP (wB_D hi u) hS 6 rfl rfl 5 (by decide) (hg _ hl) (fun _ h9 => h9) rfl (by decide +kernel) rfl rfl (Nat.le_of_ble_eq_true rfl) hdg (fun H1 locs1 hP1 _ hS1 => kk H1 locs1 hP1 hS1)
theorem ge_X3_fetched {own : String} {index : Nat} {u : BS} (hx : p.tables.exec = Jvm.exec) (hb : c.code = cc) (hg : ∀ w ∈ gtbl, w.before args s = true) (hown : s.vm.findClass own = some m.cls) (hl : Cond.fieldLink own index "VipBoard$Picture" "fetched" "Z" ∈ gtbl) (hK : va_K (dC, dI) vwCl (tysW cI cZ) s) (hP : va_P (dC, dI) vwCl (wB x cI cZ u) H) (hdg : decode cc pc = .ok (.getfield index, 3)) (kk : W p l e R s m args below meth c H locs cells slots Q (F0 m (pc + 3) ls (.int (bq_fetched u) :: rest))) : W p l e R s m args below meth c H locs cells slots Q (F0 m pc ls (.ref (x 6) :: rest)) :=
  va_get (D := (dC, dI)) (ci := 3) (C := RX3) (T := TX3) (N := 8) hx hb hg inG3 hown hK hP 6 rfl rfl 6 (by decide) (hg _ hl) (fun _ h9 => h9) rfl hdg kk
theorem pu_X3_fetched {own : String} {index : Nat} {u : BS} {z : Int32} (hi : g_inj 13 x) (hx : p.tables.exec = Jvm.exec) (hb : c.code = cc) (hg : ∀ w ∈ gtbl, w.before args s = true) (hown : s.vm.findClass own = some m.cls) (hl : Cond.fieldLink own index "VipBoard$Picture" "fetched" "Z" ∈ gtbl) (hK : va_K (dC, dI) vwCl (tysW cI cZ) s) (hP : va_P (dC, dI) vwCl (wB x cI cZ u) H) (hS : va_S (g_bA 13 x) s.heap H locs) (hz : narrow .boolean (.int z) = .int z) (hzf : fits .boolean (.int z) = true) (hdg : decode cc pc = .ok (.putfield index, 3)) (kk : ∀ (H : Heap) (locs : List Loc), va_P (dC, dI) vwCl (wB x cI cZ (bs_fetched u z)) H → va_S (g_bA 13 x) s.heap H locs → W p l e R s m args below meth c H locs cells slots Q (F0 m (pc + 3) ls rest)) : W p l e R s m args below meth c H locs cells slots Q (F0 m pc ls (.int z :: .ref (x 6) :: rest)) :=
  va_put (D := (dC, dI)) (ci := 3) (ty := .boolean) (C := RX3) (T := TX3) (N := 8) hx hb hg inG3 tyX3 tyX3_ok nmX3 hown hK hP (wB_D hi u) hS 6 rfl rfl 6 (by decide) (hg _ hl) (fun _ h9 => h9) rfl (by decide +kernel) hz hzf (Nat.le_of_ble_eq_true rfl) hdg (fun H1 locs1 hP1 _ hS1 => kk H1 locs1 hP1 hS1)
theorem ge_X3_interrupted {own : String} {index : Nat} {u : BS} (hx : p.tables.exec = Jvm.exec) (hb : c.code = cc) (hg : ∀ w ∈ gtbl, w.before args s = true) (hown : s.vm.findClass own = some m.cls) (hl : Cond.fieldLink own index "VipBoard$Picture" "interrupted" "Z" ∈ gtbl) (hK : va_K (dC, dI) vwCl (tysW cI cZ) s) (hP : va_P (dC, dI) vwCl (wB x cI cZ u) H) (hdg : decode cc pc = .ok (.getfield index, 3)) (kk : W p l e R s m args below meth c H locs cells slots Q (F0 m (pc + 3) ls (.int (bq_intr u) :: rest))) : W p l e R s m args below meth c H locs cells slots Q (F0 m pc ls (.ref (x 6) :: rest)) :=
  va_get (D := (dC, dI)) (ci := 3) (C := RX3) (T := TX3) (N := 8) hx hb hg inG3 hown hK hP 6 rfl rfl 7 (by decide) (hg _ hl) (fun _ h9 => h9) rfl hdg kk
theorem pu_X3_interrupted {own : String} {index : Nat} {u : BS} {z : Int32} (hi : g_inj 13 x) (hx : p.tables.exec = Jvm.exec) (hb : c.code = cc) (hg : ∀ w ∈ gtbl, w.before args s = true) (hown : s.vm.findClass own = some m.cls) (hl : Cond.fieldLink own index "VipBoard$Picture" "interrupted" "Z" ∈ gtbl) (hK : va_K (dC, dI) vwCl (tysW cI cZ) s) (hP : va_P (dC, dI) vwCl (wB x cI cZ u) H) (hS : va_S (g_bA 13 x) s.heap H locs) (hz : narrow .boolean (.int z) = .int z) (hzf : fits .boolean (.int z) = true) (hdg : decode cc pc = .ok (.putfield index, 3)) (kk : ∀ (H : Heap) (locs : List Loc), va_P (dC, dI) vwCl (wB x cI cZ (bs_intr u z)) H → va_S (g_bA 13 x) s.heap H locs → W p l e R s m args below meth c H locs cells slots Q (F0 m (pc + 3) ls rest)) : W p l e R s m args below meth c H locs cells slots Q (F0 m pc ls (.int z :: .ref (x 6) :: rest)) :=
  va_put (D := (dC, dI)) (ci := 3) (ty := .boolean) (C := RX3) (T := TX3) (N := 8) hx hb hg inG3 tyX3 tyX3_ok nmX3 hown hK hP (wB_D hi u) hS 6 rfl rfl 7 (by decide) (hg _ hl) (fun _ h9 => h9) rfl (by decide +kernel) hz hzf (Nat.le_of_ble_eq_true rfl) hdg (fun H1 locs1 hP1 _ hS1 => kk H1 locs1 hP1 hS1)
theorem bl_screen {u : BS} {i : Int32} (hx : p.tables.exec = Jvm.exec) (hb : c.code = cc) (hK : va_K (dC, dI) vwCl (tysW cI cZ) s) (hP : va_P (dC, dI) vwCl (wB x cI cZ u) H) (hin : vp_in i 1024) (hdg : decode cc pc = .ok (.iaload, 1)) (kk : W p l e R s m args below meth c H locs cells slots Q (F0 m (pc + 1) ls (.int (bq_screen u i.toNatClampNeg) :: rest))) : W p l e R s m args below meth c H locs cells slots Q (F0 m pc ls (.int i :: .ref (x 7) :: rest)) :=
  va_iald (D := (dC, dI)) hx hb hK hP 7 0 rfl rfl hin hdg kk
theorem ba_screen {u : BS} {i z : Int32} (hi : g_inj 13 x) (hx : p.tables.exec = Jvm.exec) (hb : c.code = cc) (hK : va_K (dC, dI) vwCl (tysW cI cZ) s) (hP : va_P (dC, dI) vwCl (wB x cI cZ u) H) (hS : va_S (g_bA 13 x) s.heap H locs) (hin : vp_in i 1024) (hdg : decode cc pc = .ok (.iastore, 1)) (kk : ∀ (H : Heap) (locs : List Loc), va_P (dC, dI) vwCl (wB x cI cZ (bs_screen u (upd (bq_screen u) i.toNatClampNeg z))) H → va_S (g_bA 13 x) s.heap H locs → W p l e R s m args below meth c H locs cells slots Q (F0 m (pc + 1) ls rest)) : W p l e R s m args below meth c H locs cells slots Q (F0 m pc ls (.int z :: .int i :: .ref (x 7) :: rest)) :=
  va_iast (D := (dC, dI)) hx hb hK hP (wB_D hi u) hS 7 0 rfl rfl hin hdg (fun H1 locs1 hP1 _ hS1 => kk H1 locs1 hP1 hS1)
theorem ge_X4_memory {own : String} {index : Nat} {u : BS} (hx : p.tables.exec = Jvm.exec) (hb : c.code = cc) (hg : ∀ w ∈ gtbl, w.before args s = true) (hown : s.vm.findClass own = some m.cls) (hl : Cond.fieldLink own index "VipBoard$Processor" "memory" "LVipBoard$Memory;" ∈ gtbl) (hK : va_K (dC, dI) vwCl (tysW cI cZ) s) (hP : va_P (dC, dI) vwCl (wB x cI cZ u) H) (hdg : decode cc pc = .ok (.getfield index, 3)) (kk : W p l e R s m args below meth c H locs cells slots Q (F0 m (pc + 3) ls (.ref (x 1) :: rest))) : W p l e R s m args below meth c H locs cells slots Q (F0 m pc ls (.ref (x 8) :: rest)) :=
  va_get (D := (dC, dI)) (ci := 4) (C := RX4) (T := TX4) (N := 12) hx hb hg inG4 hown hK hP 8 rfl rfl 0 (by decide) (hg _ hl) (fun _ h9 => h9) rfl hdg kk
theorem ge_X4_keys {own : String} {index : Nat} {u : BS} (hx : p.tables.exec = Jvm.exec) (hb : c.code = cc) (hg : ∀ w ∈ gtbl, w.before args s = true) (hown : s.vm.findClass own = some m.cls) (hl : Cond.fieldLink own index "VipBoard$Processor" "keys" "LVipBoard$Keys;" ∈ gtbl) (hK : va_K (dC, dI) vwCl (tysW cI cZ) s) (hP : va_P (dC, dI) vwCl (wB x cI cZ u) H) (hdg : decode cc pc = .ok (.getfield index, 3)) (kk : W p l e R s m args below meth c H locs cells slots Q (F0 m (pc + 3) ls (.ref (x 3) :: rest))) : W p l e R s m args below meth c H locs cells slots Q (F0 m pc ls (.ref (x 8) :: rest)) :=
  va_get (D := (dC, dI)) (ci := 4) (C := RX4) (T := TX4) (N := 12) hx hb hg inG4 hown hK hP 8 rfl rfl 1 (by decide) (hg _ hl) (fun _ h9 => h9) rfl hdg kk
theorem ge_X4_picture {own : String} {index : Nat} {u : BS} (hx : p.tables.exec = Jvm.exec) (hb : c.code = cc) (hg : ∀ w ∈ gtbl, w.before args s = true) (hown : s.vm.findClass own = some m.cls) (hl : Cond.fieldLink own index "VipBoard$Processor" "picture" "LVipBoard$Picture;" ∈ gtbl) (hK : va_K (dC, dI) vwCl (tysW cI cZ) s) (hP : va_P (dC, dI) vwCl (wB x cI cZ u) H) (hdg : decode cc pc = .ok (.getfield index, 3)) (kk : W p l e R s m args below meth c H locs cells slots Q (F0 m (pc + 3) ls (.ref (x 6) :: rest))) : W p l e R s m args below meth c H locs cells slots Q (F0 m pc ls (.ref (x 8) :: rest)) :=
  va_get (D := (dC, dI)) (ci := 4) (C := RX4) (T := TX4) (N := 12) hx hb hg inG4 hown hK hP 8 rfl rfl 2 (by decide) (hg _ hl) (fun _ h9 => h9) rfl hdg kk
theorem ge_X4_registers {own : String} {index : Nat} {u : BS} (hx : p.tables.exec = Jvm.exec) (hb : c.code = cc) (hg : ∀ w ∈ gtbl, w.before args s = true) (hown : s.vm.findClass own = some m.cls) (hl : Cond.fieldLink own index "VipBoard$Processor" "registers" "[I" ∈ gtbl) (hK : va_K (dC, dI) vwCl (tysW cI cZ) s) (hP : va_P (dC, dI) vwCl (wB x cI cZ u) H) (hdg : decode cc pc = .ok (.getfield index, 3)) (kk : W p l e R s m args below meth c H locs cells slots Q (F0 m (pc + 3) ls (.ref (x 9) :: rest))) : W p l e R s m args below meth c H locs cells slots Q (F0 m pc ls (.ref (x 8) :: rest)) :=
  va_get (D := (dC, dI)) (ci := 4) (C := RX4) (T := TX4) (N := 12) hx hb hg inG4 hown hK hP 8 rfl rfl 3 (by decide) (hg _ hl) (fun _ h9 => h9) rfl hdg kk
theorem ge_X4_d {own : String} {index : Nat} {u : BS} (hx : p.tables.exec = Jvm.exec) (hb : c.code = cc) (hg : ∀ w ∈ gtbl, w.before args s = true) (hown : s.vm.findClass own = some m.cls) (hl : Cond.fieldLink own index "VipBoard$Processor" "d" "I" ∈ gtbl) (hK : va_K (dC, dI) vwCl (tysW cI cZ) s) (hP : va_P (dC, dI) vwCl (wB x cI cZ u) H) (hdg : decode cc pc = .ok (.getfield index, 3)) (kk : W p l e R s m args below meth c H locs cells slots Q (F0 m (pc + 3) ls (.int (bq_d u) :: rest))) : W p l e R s m args below meth c H locs cells slots Q (F0 m pc ls (.ref (x 8) :: rest)) :=
  va_get (D := (dC, dI)) (ci := 4) (C := RX4) (T := TX4) (N := 12) hx hb hg inG4 hown hK hP 8 rfl rfl 4 (by decide) (hg _ hl) (fun _ h9 => h9) rfl hdg kk
theorem pu_X4_d {own : String} {index : Nat} {u : BS} {z : Int32} (hi : g_inj 13 x) (hx : p.tables.exec = Jvm.exec) (hb : c.code = cc) (hg : ∀ w ∈ gtbl, w.before args s = true) (hown : s.vm.findClass own = some m.cls) (hl : Cond.fieldLink own index "VipBoard$Processor" "d" "I" ∈ gtbl) (hK : va_K (dC, dI) vwCl (tysW cI cZ) s) (hP : va_P (dC, dI) vwCl (wB x cI cZ u) H) (hS : va_S (g_bA 13 x) s.heap H locs) (hdg : decode cc pc = .ok (.putfield index, 3)) (kk : ∀ (H : Heap) (locs : List Loc), va_P (dC, dI) vwCl (wB x cI cZ (bs_d u z)) H → va_S (g_bA 13 x) s.heap H locs → W p l e R s m args below meth c H locs cells slots Q (F0 m (pc + 3) ls rest)) : W p l e R s m args below meth c H locs cells slots Q (F0 m pc ls (.int z :: .ref (x 8) :: rest)) :=
  va_put (D := (dC, dI)) (ci := 4) (ty := .int) (C := RX4) (T := TX4) (N := 12) hx hb hg inG4 tyX4 tyX4_ok nmX4 hown hK hP (wB_D hi u) hS 8 rfl rfl 4 (by decide) (hg _ hl) (fun _ h9 => h9) rfl (by decide +kernel) rfl rfl (Nat.le_of_ble_eq_true rfl) hdg (fun H1 locs1 hP1 _ hS1 => kk H1 locs1 hP1 hS1)
theorem ge_X4_df {own : String} {index : Nat} {u : BS} (hx : p.tables.exec = Jvm.exec) (hb : c.code = cc) (hg : ∀ w ∈ gtbl, w.before args s = true) (hown : s.vm.findClass own = some m.cls) (hl : Cond.fieldLink own index "VipBoard$Processor" "df" "I" ∈ gtbl) (hK : va_K (dC, dI) vwCl (tysW cI cZ) s) (hP : va_P (dC, dI) vwCl (wB x cI cZ u) H) (hdg : decode cc pc = .ok (.getfield index, 3)) (kk : W p l e R s m args below meth c H locs cells slots Q (F0 m (pc + 3) ls (.int (bq_df u) :: rest))) : W p l e R s m args below meth c H locs cells slots Q (F0 m pc ls (.ref (x 8) :: rest)) :=
  va_get (D := (dC, dI)) (ci := 4) (C := RX4) (T := TX4) (N := 12) hx hb hg inG4 hown hK hP 8 rfl rfl 5 (by decide) (hg _ hl) (fun _ h9 => h9) rfl hdg kk
theorem pu_X4_df {own : String} {index : Nat} {u : BS} {z : Int32} (hi : g_inj 13 x) (hx : p.tables.exec = Jvm.exec) (hb : c.code = cc) (hg : ∀ w ∈ gtbl, w.before args s = true) (hown : s.vm.findClass own = some m.cls) (hl : Cond.fieldLink own index "VipBoard$Processor" "df" "I" ∈ gtbl) (hK : va_K (dC, dI) vwCl (tysW cI cZ) s) (hP : va_P (dC, dI) vwCl (wB x cI cZ u) H) (hS : va_S (g_bA 13 x) s.heap H locs) (hdg : decode cc pc = .ok (.putfield index, 3)) (kk : ∀ (H : Heap) (locs : List Loc), va_P (dC, dI) vwCl (wB x cI cZ (bs_df u z)) H → va_S (g_bA 13 x) s.heap H locs → W p l e R s m args below meth c H locs cells slots Q (F0 m (pc + 3) ls rest)) : W p l e R s m args below meth c H locs cells slots Q (F0 m pc ls (.int z :: .ref (x 8) :: rest)) :=
  va_put (D := (dC, dI)) (ci := 4) (ty := .int) (C := RX4) (T := TX4) (N := 12) hx hb hg inG4 tyX4 tyX4_ok nmX4 hown hK hP (wB_D hi u) hS 8 rfl rfl 5 (by decide) (hg _ hl) (fun _ h9 => h9) rfl (by decide +kernel) rfl rfl (Nat.le_of_ble_eq_true rfl) hdg (fun H1 locs1 hP1 _ hS1 => kk H1 locs1 hP1 hS1)
theorem ge_X4_p {own : String} {index : Nat} {u : BS} (hx : p.tables.exec = Jvm.exec) (hb : c.code = cc) (hg : ∀ w ∈ gtbl, w.before args s = true) (hown : s.vm.findClass own = some m.cls) (hl : Cond.fieldLink own index "VipBoard$Processor" "p" "I" ∈ gtbl) (hK : va_K (dC, dI) vwCl (tysW cI cZ) s) (hP : va_P (dC, dI) vwCl (wB x cI cZ u) H) (hdg : decode cc pc = .ok (.getfield index, 3)) (kk : W p l e R s m args below meth c H locs cells slots Q (F0 m (pc + 3) ls (.int (bq_p u) :: rest))) : W p l e R s m args below meth c H locs cells slots Q (F0 m pc ls (.ref (x 8) :: rest)) :=
  va_get (D := (dC, dI)) (ci := 4) (C := RX4) (T := TX4) (N := 12) hx hb hg inG4 hown hK hP 8 rfl rfl 6 (by decide) (hg _ hl) (fun _ h9 => h9) rfl hdg kk
theorem pu_X4_p {own : String} {index : Nat} {u : BS} {z : Int32} (hi : g_inj 13 x) (hx : p.tables.exec = Jvm.exec) (hb : c.code = cc) (hg : ∀ w ∈ gtbl, w.before args s = true) (hown : s.vm.findClass own = some m.cls) (hl : Cond.fieldLink own index "VipBoard$Processor" "p" "I" ∈ gtbl) (hK : va_K (dC, dI) vwCl (tysW cI cZ) s) (hP : va_P (dC, dI) vwCl (wB x cI cZ u) H) (hS : va_S (g_bA 13 x) s.heap H locs) (hdg : decode cc pc = .ok (.putfield index, 3)) (kk : ∀ (H : Heap) (locs : List Loc), va_P (dC, dI) vwCl (wB x cI cZ (bs_p u z)) H → va_S (g_bA 13 x) s.heap H locs → W p l e R s m args below meth c H locs cells slots Q (F0 m (pc + 3) ls rest)) : W p l e R s m args below meth c H locs cells slots Q (F0 m pc ls (.int z :: .ref (x 8) :: rest)) :=
  va_put (D := (dC, dI)) (ci := 4) (ty := .int) (C := RX4) (T := TX4) (N := 12) hx hb hg inG4 tyX4 tyX4_ok nmX4 hown hK hP (wB_D hi u) hS 8 rfl rfl 6 (by decide) (hg _ hl) (fun _ h9 => h9) rfl (by decide +kernel) rfl rfl (Nat.le_of_ble_eq_true rfl) hdg (fun H1 locs1 hP1 _ hS1 => kk H1 locs1 hP1 hS1)
theorem ge_X4_x {own : String} {index : Nat} {u : BS} (hx : p.tables.exec = Jvm.exec) (hb : c.code = cc) (hg : ∀ w ∈ gtbl, w.before args s = true) (hown : s.vm.findClass own = some m.cls) (hl : Cond.fieldLink own index "VipBoard$Processor" "x" "I" ∈ gtbl) (hK : va_K (dC, dI) vwCl (tysW cI cZ) s) (hP : va_P (dC, dI) vwCl (wB x cI cZ u) H) (hdg : decode cc pc = .ok (.getfield index, 3)) (kk : W p l e R s m args below meth c H locs cells slots Q (F0 m (pc + 3) ls (.int (bq_x u) :: rest))) : W p l e R s m args below meth c H locs cells slots Q (F0 m pc ls (.ref (x 8) :: rest)) :=
  va_get (D := (dC, dI)) (ci := 4) (C := RX4) (T := TX4) (N := 12) hx hb hg inG4 hown hK hP 8 rfl rfl 7 (by decide) (hg _ hl) (fun _ h9 => h9) rfl hdg kk
theorem pu_X4_x {own : String} {index : Nat} {u : BS} {z : Int32} (hi : g_inj 13 x) (hx : p.tables.exec = Jvm.exec) (hb : c.code = cc) (hg : ∀ w ∈ gtbl, w.before args s = true) (hown : s.vm.findClass own = some m.cls) (hl : Cond.fieldLink own index "VipBoard$Processor" "x" "I" ∈ gtbl) (hK : va_K (dC, dI) vwCl (tysW cI cZ) s) (hP : va_P (dC, dI) vwCl (wB x cI cZ u) H) (hS : va_S (g_bA 13 x) s.heap H locs) (hdg : decode cc pc = .ok (.putfield index, 3)) (kk : ∀ (H : Heap) (locs : List Loc), va_P (dC, dI) vwCl (wB x cI cZ (bs_x u z)) H → va_S (g_bA 13 x) s.heap H locs → W p l e R s m args below meth c H locs cells slots Q (F0 m (pc + 3) ls rest)) : W p l e R s m args below meth c H locs cells slots Q (F0 m pc ls (.int z :: .ref (x 8) :: rest)) :=
  va_put (D := (dC, dI)) (ci := 4) (ty := .int) (C := RX4) (T := TX4) (N := 12) hx hb hg inG4 tyX4 tyX4_ok nmX4 hown hK hP (wB_D hi u) hS 8 rfl rfl 7 (by decide) (hg _ hl) (fun _ h9 => h9) rfl (by decide +kernel) rfl rfl (Nat.le_of_ble_eq_true rfl) hdg (fun H1 locs1 hP1 _ hS1 => kk H1 locs1 hP1 hS1)
theorem ge_X4_t {own : String} {index : Nat} {u : BS} (hx : p.tables.exec = Jvm.exec) (hb : c.code = cc) (hg : ∀ w ∈ gtbl, w.before args s = true) (hown : s.vm.findClass own = some m.cls) (hl : Cond.fieldLink own index "VipBoard$Processor" "t" "I" ∈ gtbl) (hK : va_K (dC, dI) vwCl (tysW cI cZ) s) (hP : va_P (dC, dI) vwCl (wB x cI cZ u) H) (hdg : decode cc pc = .ok (.getfield index, 3)) (kk : W p l e R s m args below meth c H locs cells slots Q (F0 m (pc + 3) ls (.int (bq_t u) :: rest))) : W p l e R s m args below meth c H locs cells slots Q (F0 m pc ls (.ref (x 8) :: rest)) :=
  va_get (D := (dC, dI)) (ci := 4) (C := RX4) (T := TX4) (N := 12) hx hb hg inG4 hown hK hP 8 rfl rfl 8 (by decide) (hg _ hl) (fun _ h9 => h9) rfl hdg kk
theorem pu_X4_t {own : String} {index : Nat} {u : BS} {z : Int32} (hi : g_inj 13 x) (hx : p.tables.exec = Jvm.exec) (hb : c.code = cc) (hg : ∀ w ∈ gtbl, w.before args s = true) (hown : s.vm.findClass own = some m.cls) (hl : Cond.fieldLink own index "VipBoard$Processor" "t" "I" ∈ gtbl) (hK : va_K (dC, dI) vwCl (tysW cI cZ) s) (hP : va_P (dC, dI) vwCl (wB x cI cZ u) H) (hS : va_S (g_bA 13 x) s.heap H locs) (hdg : decode cc pc = .ok (.putfield index, 3)) (kk : ∀ (H : Heap) (locs : List Loc), va_P (dC, dI) vwCl (wB x cI cZ (bs_t u z)) H → va_S (g_bA 13 x) s.heap H locs → W p l e R s m args below meth c H locs cells slots Q (F0 m (pc + 3) ls rest)) : W p l e R s m args below meth c H locs cells slots Q (F0 m pc ls (.int z :: .ref (x 8) :: rest)) :=
  va_put (D := (dC, dI)) (ci := 4) (ty := .int) (C := RX4) (T := TX4) (N := 12) hx hb hg inG4 tyX4 tyX4_ok nmX4 hown hK hP (wB_D hi u) hS 8 rfl rfl 8 (by decide) (hg _ hl) (fun _ h9 => h9) rfl (by decide +kernel) rfl rfl (Nat.le_of_ble_eq_true rfl) hdg (fun H1 locs1 hP1 _ hS1 => kk H1 locs1 hP1 hS1)
theorem ge_X4_ie {own : String} {index : Nat} {u : BS} (hx : p.tables.exec = Jvm.exec) (hb : c.code = cc) (hg : ∀ w ∈ gtbl, w.before args s = true) (hown : s.vm.findClass own = some m.cls) (hl : Cond.fieldLink own index "VipBoard$Processor" "ie" "I" ∈ gtbl) (hK : va_K (dC, dI) vwCl (tysW cI cZ) s) (hP : va_P (dC, dI) vwCl (wB x cI cZ u) H) (hdg : decode cc pc = .ok (.getfield index, 3)) (kk : W p l e R s m args below meth c H locs cells slots Q (F0 m (pc + 3) ls (.int (bq_ie u) :: rest))) : W p l e R s m args below meth c H locs cells slots Q (F0 m pc ls (.ref (x 8) :: rest)) :=
  va_get (D := (dC, dI)) (ci := 4) (C := RX4) (T := TX4) (N := 12) hx hb hg inG4 hown hK hP 8 rfl rfl 9 (by decide) (hg _ hl) (fun _ h9 => h9) rfl hdg kk
theorem pu_X4_ie {own : String} {index : Nat} {u : BS} {z : Int32} (hi : g_inj 13 x) (hx : p.tables.exec = Jvm.exec) (hb : c.code = cc) (hg : ∀ w ∈ gtbl, w.before args s = true) (hown : s.vm.findClass own = some m.cls) (hl : Cond.fieldLink own index "VipBoard$Processor" "ie" "I" ∈ gtbl) (hK : va_K (dC, dI) vwCl (tysW cI cZ) s) (hP : va_P (dC, dI) vwCl (wB x cI cZ u) H) (hS : va_S (g_bA 13 x) s.heap H locs) (hdg : decode cc pc = .ok (.putfield index, 3)) (kk : ∀ (H : Heap) (locs : List Loc), va_P (dC, dI) vwCl (wB x cI cZ (bs_ie u z)) H → va_S (g_bA 13 x) s.heap H locs → W p l e R s m args below meth c H locs cells slots Q (F0 m (pc + 3) ls rest)) : W p l e R s m args below meth c H locs cells slots Q (F0 m pc ls (.int z :: .ref (x 8) :: rest)) :=
  va_put (D := (dC, dI)) (ci := 4) (ty := .int) (C := RX4) (T := TX4) (N := 12) hx hb hg inG4 tyX4 tyX4_ok nmX4 hown hK hP (wB_D hi u) hS 8 rfl rfl 9 (by decide) (hg _ hl) (fun _ h9 => h9) rfl (by decide +kernel) rfl rfl (Nat.le_of_ble_eq_true rfl) hdg (fun H1 locs1 hP1 _ hS1 => kk H1 locs1 hP1 hS1)
theorem ge_X4_q {own : String} {index : Nat} {u : BS} (hx : p.tables.exec = Jvm.exec) (hb : c.code = cc) (hg : ∀ w ∈ gtbl, w.before args s = true) (hown : s.vm.findClass own = some m.cls) (hl : Cond.fieldLink own index "VipBoard$Processor" "q" "I" ∈ gtbl) (hK : va_K (dC, dI) vwCl (tysW cI cZ) s) (hP : va_P (dC, dI) vwCl (wB x cI cZ u) H) (hdg : decode cc pc = .ok (.getfield index, 3)) (kk : W p l e R s m args below meth c H locs cells slots Q (F0 m (pc + 3) ls (.int (bq_q u) :: rest))) : W p l e R s m args below meth c H locs cells slots Q (F0 m pc ls (.ref (x 8) :: rest)) :=
  va_get (D := (dC, dI)) (ci := 4) (C := RX4) (T := TX4) (N := 12) hx hb hg inG4 hown hK hP 8 rfl rfl 10 (by decide) (hg _ hl) (fun _ h9 => h9) rfl hdg kk
theorem pu_X4_q {own : String} {index : Nat} {u : BS} {z : Int32} (hi : g_inj 13 x) (hx : p.tables.exec = Jvm.exec) (hb : c.code = cc) (hg : ∀ w ∈ gtbl, w.before args s = true) (hown : s.vm.findClass own = some m.cls) (hl : Cond.fieldLink own index "VipBoard$Processor" "q" "I" ∈ gtbl) (hK : va_K (dC, dI) vwCl (tysW cI cZ) s) (hP : va_P (dC, dI) vwCl (wB x cI cZ u) H) (hS : va_S (g_bA 13 x) s.heap H locs) (hdg : decode cc pc = .ok (.putfield index, 3)) (kk : ∀ (H : Heap) (locs : List Loc), va_P (dC, dI) vwCl (wB x cI cZ (bs_q u z)) H → va_S (g_bA 13 x) s.heap H locs → W p l e R s m args below meth c H locs cells slots Q (F0 m (pc + 3) ls rest)) : W p l e R s m args below meth c H locs cells slots Q (F0 m pc ls (.int z :: .ref (x 8) :: rest)) :=
  va_put (D := (dC, dI)) (ci := 4) (ty := .int) (C := RX4) (T := TX4) (N := 12) hx hb hg inG4 tyX4 tyX4_ok nmX4 hown hK hP (wB_D hi u) hS 8 rfl rfl 10 (by decide) (hg _ hl) (fun _ h9 => h9) rfl (by decide +kernel) rfl rfl (Nat.le_of_ble_eq_true rfl) hdg (fun H1 locs1 hP1 _ hS1 => kk H1 locs1 hP1 hS1)
theorem ge_X4_idle {own : String} {index : Nat} {u : BS} (hx : p.tables.exec = Jvm.exec) (hb : c.code = cc) (hg : ∀ w ∈ gtbl, w.before args s = true) (hown : s.vm.findClass own = some m.cls) (hl : Cond.fieldLink own index "VipBoard$Processor" "idle" "Z" ∈ gtbl) (hK : va_K (dC, dI) vwCl (tysW cI cZ) s) (hP : va_P (dC, dI) vwCl (wB x cI cZ u) H) (hdg : decode cc pc = .ok (.getfield index, 3)) (kk : W p l e R s m args below meth c H locs cells slots Q (F0 m (pc + 3) ls (.int (bq_idle u) :: rest))) : W p l e R s m args below meth c H locs cells slots Q (F0 m pc ls (.ref (x 8) :: rest)) :=
  va_get (D := (dC, dI)) (ci := 4) (C := RX4) (T := TX4) (N := 12) hx hb hg inG4 hown hK hP 8 rfl rfl 11 (by decide) (hg _ hl) (fun _ h9 => h9) rfl hdg kk
theorem pu_X4_idle {own : String} {index : Nat} {u : BS} {z : Int32} (hi : g_inj 13 x) (hx : p.tables.exec = Jvm.exec) (hb : c.code = cc) (hg : ∀ w ∈ gtbl, w.before args s = true) (hown : s.vm.findClass own = some m.cls) (hl : Cond.fieldLink own index "VipBoard$Processor" "idle" "Z" ∈ gtbl) (hK : va_K (dC, dI) vwCl (tysW cI cZ) s) (hP : va_P (dC, dI) vwCl (wB x cI cZ u) H) (hS : va_S (g_bA 13 x) s.heap H locs) (hz : narrow .boolean (.int z) = .int z) (hzf : fits .boolean (.int z) = true) (hdg : decode cc pc = .ok (.putfield index, 3)) (kk : ∀ (H : Heap) (locs : List Loc), va_P (dC, dI) vwCl (wB x cI cZ (bs_idle u z)) H → va_S (g_bA 13 x) s.heap H locs → W p l e R s m args below meth c H locs cells slots Q (F0 m (pc + 3) ls rest)) : W p l e R s m args below meth c H locs cells slots Q (F0 m pc ls (.int z :: .ref (x 8) :: rest)) :=
  va_put (D := (dC, dI)) (ci := 4) (ty := .boolean) (C := RX4) (T := TX4) (N := 12) hx hb hg inG4 tyX4 tyX4_ok nmX4 hown hK hP (wB_D hi u) hS 8 rfl rfl 11 (by decide) (hg _ hl) (fun _ h9 => h9) rfl (by decide +kernel) hz hzf (Nat.le_of_ble_eq_true rfl) hdg (fun H1 locs1 hP1 _ hS1 => kk H1 locs1 hP1 hS1)
theorem bl_regs {u : BS} {i : Int32} (hx : p.tables.exec = Jvm.exec) (hb : c.code = cc) (hK : va_K (dC, dI) vwCl (tysW cI cZ) s) (hP : va_P (dC, dI) vwCl (wB x cI cZ u) H) (hin : vp_in i 16) (hdg : decode cc pc = .ok (.iaload, 1)) (kk : W p l e R s m args below meth c H locs cells slots Q (F0 m (pc + 1) ls (.int (bq_regs u i.toNatClampNeg) :: rest))) : W p l e R s m args below meth c H locs cells slots Q (F0 m pc ls (.int i :: .ref (x 9) :: rest)) :=
  va_iald (D := (dC, dI)) hx hb hK hP 9 0 rfl rfl hin hdg kk
theorem ba_regs {u : BS} {i z : Int32} (hi : g_inj 13 x) (hx : p.tables.exec = Jvm.exec) (hb : c.code = cc) (hK : va_K (dC, dI) vwCl (tysW cI cZ) s) (hP : va_P (dC, dI) vwCl (wB x cI cZ u) H) (hS : va_S (g_bA 13 x) s.heap H locs) (hin : vp_in i 16) (hdg : decode cc pc = .ok (.iastore, 1)) (kk : ∀ (H : Heap) (locs : List Loc), va_P (dC, dI) vwCl (wB x cI cZ (bs_regs u (upd (bq_regs u) i.toNatClampNeg z))) H → va_S (g_bA 13 x) s.heap H locs → W p l e R s m args below meth c H locs cells slots Q (F0 m (pc + 1) ls rest)) : W p l e R s m args below meth c H locs cells slots Q (F0 m pc ls (.int z :: .int i :: .ref (x 9) :: rest)) :=
  va_iast (D := (dC, dI)) hx hb hK hP (wB_D hi u) hS 9 0 rfl rfl hin hdg (fun H1 locs1 hP1 _ hS1 => kk H1 locs1 hP1 hS1)
theorem ge_X1_memory {own : String} {index : Nat} {u : BS} (hx : p.tables.exec = Jvm.exec) (hb : c.code = cc) (hg : ∀ w ∈ gtbl, w.before args s = true) (hown : s.vm.findClass own = some m.cls) (hl : Cond.fieldLink own index "VipBoard$Language" "memory" "LVipBoard$Memory;" ∈ gtbl) (hK : va_K (dC, dI) vwCl (tysW cI cZ) s) (hP : va_P (dC, dI) vwCl (wB x cI cZ u) H) (hdg : decode cc pc = .ok (.getfield index, 3)) (kk : W p l e R s m args below meth c H locs cells slots Q (F0 m (pc + 3) ls (.ref (x 1) :: rest))) : W p l e R s m args below meth c H locs cells slots Q (F0 m pc ls (.ref (x 10) :: rest)) :=
  va_get (D := (dC, dI)) (ci := 1) (C := RX1) (T := TX1) (N := 9) hx hb hg inG1 hown hK hP 10 rfl rfl 0 (by decide) (hg _ hl) (fun _ h9 => h9) rfl hdg kk
theorem ge_X1_keys {own : String} {index : Nat} {u : BS} (hx : p.tables.exec = Jvm.exec) (hb : c.code = cc) (hg : ∀ w ∈ gtbl, w.before args s = true) (hown : s.vm.findClass own = some m.cls) (hl : Cond.fieldLink own index "VipBoard$Language" "keys" "LVipBoard$Keys;" ∈ gtbl) (hK : va_K (dC, dI) vwCl (tysW cI cZ) s) (hP : va_P (dC, dI) vwCl (wB x cI cZ u) H) (hdg : decode cc pc = .ok (.getfield index, 3)) (kk : W p l e R s m args below meth c H locs cells slots Q (F0 m (pc + 3) ls (.ref (x 3) :: rest))) : W p l e R s m args below meth c H locs cells slots Q (F0 m pc ls (.ref (x 10) :: rest)) :=
  va_get (D := (dC, dI)) (ci := 1) (C := RX1) (T := TX1) (N := 9) hx hb hg inG1 hown hK hP 10 rfl rfl 1 (by decide) (hg _ hl) (fun _ h9 => h9) rfl hdg kk
theorem ge_X1_timers {own : String} {index : Nat} {u : BS} (hx : p.tables.exec = Jvm.exec) (hb : c.code = cc) (hg : ∀ w ∈ gtbl, w.before args s = true) (hown : s.vm.findClass own = some m.cls) (hl : Cond.fieldLink own index "VipBoard$Language" "timers" "LVipBoard$Timers;" ∈ gtbl) (hK : va_K (dC, dI) vwCl (tysW cI cZ) s) (hP : va_P (dC, dI) vwCl (wB x cI cZ u) H) (hdg : decode cc pc = .ok (.getfield index, 3)) (kk : W p l e R s m args below meth c H locs cells slots Q (F0 m (pc + 3) ls (.ref (x 5) :: rest))) : W p l e R s m args below meth c H locs cells slots Q (F0 m pc ls (.ref (x 10) :: rest)) :=
  va_get (D := (dC, dI)) (ci := 1) (C := RX1) (T := TX1) (N := 9) hx hb hg inG1 hown hK hP 10 rfl rfl 2 (by decide) (hg _ hl) (fun _ h9 => h9) rfl hdg kk
theorem ge_X1_variables {own : String} {index : Nat} {u : BS} (hx : p.tables.exec = Jvm.exec) (hb : c.code = cc) (hg : ∀ w ∈ gtbl, w.before args s = true) (hown : s.vm.findClass own = some m.cls) (hl : Cond.fieldLink own index "VipBoard$Language" "variables" "[I" ∈ gtbl) (hK : va_K (dC, dI) vwCl (tysW cI cZ) s) (hP : va_P (dC, dI) vwCl (wB x cI cZ u) H) (hdg : decode cc pc = .ok (.getfield index, 3)) (kk : W p l e R s m args below meth c H locs cells slots Q (F0 m (pc + 3) ls (.ref (x 11) :: rest))) : W p l e R s m args below meth c H locs cells slots Q (F0 m pc ls (.ref (x 10) :: rest)) :=
  va_get (D := (dC, dI)) (ci := 1) (C := RX1) (T := TX1) (N := 9) hx hb hg inG1 hown hK hP 10 rfl rfl 3 (by decide) (hg _ hl) (fun _ h9 => h9) rfl hdg kk
theorem ge_X1_stack {own : String} {index : Nat} {u : BS} (hx : p.tables.exec = Jvm.exec) (hb : c.code = cc) (hg : ∀ w ∈ gtbl, w.before args s = true) (hown : s.vm.findClass own = some m.cls) (hl : Cond.fieldLink own index "VipBoard$Language" "stack" "[I" ∈ gtbl) (hK : va_K (dC, dI) vwCl (tysW cI cZ) s) (hP : va_P (dC, dI) vwCl (wB x cI cZ u) H) (hdg : decode cc pc = .ok (.getfield index, 3)) (kk : W p l e R s m args below meth c H locs cells slots Q (F0 m (pc + 3) ls (.ref (x 12) :: rest))) : W p l e R s m args below meth c H locs cells slots Q (F0 m pc ls (.ref (x 10) :: rest)) :=
  va_get (D := (dC, dI)) (ci := 1) (C := RX1) (T := TX1) (N := 9) hx hb hg inG1 hown hK hP 10 rfl rfl 4 (by decide) (hg _ hl) (fun _ h9 => h9) rfl hdg kk
theorem ge_X1_depth {own : String} {index : Nat} {u : BS} (hx : p.tables.exec = Jvm.exec) (hb : c.code = cc) (hg : ∀ w ∈ gtbl, w.before args s = true) (hown : s.vm.findClass own = some m.cls) (hl : Cond.fieldLink own index "VipBoard$Language" "depth" "I" ∈ gtbl) (hK : va_K (dC, dI) vwCl (tysW cI cZ) s) (hP : va_P (dC, dI) vwCl (wB x cI cZ u) H) (hdg : decode cc pc = .ok (.getfield index, 3)) (kk : W p l e R s m args below meth c H locs cells slots Q (F0 m (pc + 3) ls (.int (bq_depth u) :: rest))) : W p l e R s m args below meth c H locs cells slots Q (F0 m pc ls (.ref (x 10) :: rest)) :=
  va_get (D := (dC, dI)) (ci := 1) (C := RX1) (T := TX1) (N := 9) hx hb hg inG1 hown hK hP 10 rfl rfl 5 (by decide) (hg _ hl) (fun _ h9 => h9) rfl hdg kk
theorem pu_X1_depth {own : String} {index : Nat} {u : BS} {z : Int32} (hi : g_inj 13 x) (hx : p.tables.exec = Jvm.exec) (hb : c.code = cc) (hg : ∀ w ∈ gtbl, w.before args s = true) (hown : s.vm.findClass own = some m.cls) (hl : Cond.fieldLink own index "VipBoard$Language" "depth" "I" ∈ gtbl) (hK : va_K (dC, dI) vwCl (tysW cI cZ) s) (hP : va_P (dC, dI) vwCl (wB x cI cZ u) H) (hS : va_S (g_bA 13 x) s.heap H locs) (hdg : decode cc pc = .ok (.putfield index, 3)) (kk : ∀ (H : Heap) (locs : List Loc), va_P (dC, dI) vwCl (wB x cI cZ (bs_depth u z)) H → va_S (g_bA 13 x) s.heap H locs → W p l e R s m args below meth c H locs cells slots Q (F0 m (pc + 3) ls rest)) : W p l e R s m args below meth c H locs cells slots Q (F0 m pc ls (.int z :: .ref (x 10) :: rest)) :=
  va_put (D := (dC, dI)) (ci := 1) (ty := .int) (C := RX1) (T := TX1) (N := 9) hx hb hg inG1 tyX1 tyX1_ok nmX1 hown hK hP (wB_D hi u) hS 10 rfl rfl 5 (by decide) (hg _ hl) (fun _ h9 => h9) rfl (by decide +kernel) rfl rfl (Nat.le_of_ble_eq_true rfl) hdg (fun H1 locs1 hP1 _ hS1 => kk H1 locs1 hP1 hS1)
theorem ge_X1_index {own : String} {index : Nat} {u : BS} (hx : p.tables.exec = Jvm.exec) (hb : c.code = cc) (hg : ∀ w ∈ gtbl, w.before args s = true) (hown : s.vm.findClass own = some m.cls) (hl : Cond.fieldLink own index "VipBoard$Language" "index" "I" ∈ gtbl) (hK : va_K (dC, dI) vwCl (tysW cI cZ) s) (hP : va_P (dC, dI) vwCl (wB x cI cZ u) H) (hdg : decode cc pc = .ok (.getfield index, 3)) (kk : W p l e R s m args below meth c H locs cells slots Q (F0 m (pc + 3) ls (.int (bq_index u) :: rest))) : W p l e R s m args below meth c H locs cells slots Q (F0 m pc ls (.ref (x 10) :: rest)) :=
  va_get (D := (dC, dI)) (ci := 1) (C := RX1) (T := TX1) (N := 9) hx hb hg inG1 hown hK hP 10 rfl rfl 6 (by decide) (hg _ hl) (fun _ h9 => h9) rfl hdg kk
theorem pu_X1_index {own : String} {index : Nat} {u : BS} {z : Int32} (hi : g_inj 13 x) (hx : p.tables.exec = Jvm.exec) (hb : c.code = cc) (hg : ∀ w ∈ gtbl, w.before args s = true) (hown : s.vm.findClass own = some m.cls) (hl : Cond.fieldLink own index "VipBoard$Language" "index" "I" ∈ gtbl) (hK : va_K (dC, dI) vwCl (tysW cI cZ) s) (hP : va_P (dC, dI) vwCl (wB x cI cZ u) H) (hS : va_S (g_bA 13 x) s.heap H locs) (hdg : decode cc pc = .ok (.putfield index, 3)) (kk : ∀ (H : Heap) (locs : List Loc), va_P (dC, dI) vwCl (wB x cI cZ (bs_index u z)) H → va_S (g_bA 13 x) s.heap H locs → W p l e R s m args below meth c H locs cells slots Q (F0 m (pc + 3) ls rest)) : W p l e R s m args below meth c H locs cells slots Q (F0 m pc ls (.int z :: .ref (x 10) :: rest)) :=
  va_put (D := (dC, dI)) (ci := 1) (ty := .int) (C := RX1) (T := TX1) (N := 9) hx hb hg inG1 tyX1 tyX1_ok nmX1 hown hK hP (wB_D hi u) hS 10 rfl rfl 6 (by decide) (hg _ hl) (fun _ h9 => h9) rfl (by decide +kernel) rfl rfl (Nat.le_of_ble_eq_true rfl) hdg (fun H1 locs1 hP1 _ hS1 => kk H1 locs1 hP1 hS1)
theorem ge_X1_pc {own : String} {index : Nat} {u : BS} (hx : p.tables.exec = Jvm.exec) (hb : c.code = cc) (hg : ∀ w ∈ gtbl, w.before args s = true) (hown : s.vm.findClass own = some m.cls) (hl : Cond.fieldLink own index "VipBoard$Language" "pc" "I" ∈ gtbl) (hK : va_K (dC, dI) vwCl (tysW cI cZ) s) (hP : va_P (dC, dI) vwCl (wB x cI cZ u) H) (hdg : decode cc pc = .ok (.getfield index, 3)) (kk : W p l e R s m args below meth c H locs cells slots Q (F0 m (pc + 3) ls (.int (bq_pc u) :: rest))) : W p l e R s m args below meth c H locs cells slots Q (F0 m pc ls (.ref (x 10) :: rest)) :=
  va_get (D := (dC, dI)) (ci := 1) (C := RX1) (T := TX1) (N := 9) hx hb hg inG1 hown hK hP 10 rfl rfl 7 (by decide) (hg _ hl) (fun _ h9 => h9) rfl hdg kk
theorem pu_X1_pc {own : String} {index : Nat} {u : BS} {z : Int32} (hi : g_inj 13 x) (hx : p.tables.exec = Jvm.exec) (hb : c.code = cc) (hg : ∀ w ∈ gtbl, w.before args s = true) (hown : s.vm.findClass own = some m.cls) (hl : Cond.fieldLink own index "VipBoard$Language" "pc" "I" ∈ gtbl) (hK : va_K (dC, dI) vwCl (tysW cI cZ) s) (hP : va_P (dC, dI) vwCl (wB x cI cZ u) H) (hS : va_S (g_bA 13 x) s.heap H locs) (hdg : decode cc pc = .ok (.putfield index, 3)) (kk : ∀ (H : Heap) (locs : List Loc), va_P (dC, dI) vwCl (wB x cI cZ (bs_pc u z)) H → va_S (g_bA 13 x) s.heap H locs → W p l e R s m args below meth c H locs cells slots Q (F0 m (pc + 3) ls rest)) : W p l e R s m args below meth c H locs cells slots Q (F0 m pc ls (.int z :: .ref (x 10) :: rest)) :=
  va_put (D := (dC, dI)) (ci := 1) (ty := .int) (C := RX1) (T := TX1) (N := 9) hx hb hg inG1 tyX1 tyX1_ok nmX1 hown hK hP (wB_D hi u) hS 10 rfl rfl 7 (by decide) (hg _ hl) (fun _ h9 => h9) rfl (by decide +kernel) rfl rfl (Nat.le_of_ble_eq_true rfl) hdg (fun H1 locs1 hP1 _ hS1 => kk H1 locs1 hP1 hS1)
theorem ge_X1_random {own : String} {index : Nat} {u : BS} (hx : p.tables.exec = Jvm.exec) (hb : c.code = cc) (hg : ∀ w ∈ gtbl, w.before args s = true) (hown : s.vm.findClass own = some m.cls) (hl : Cond.fieldLink own index "VipBoard$Language" "random" "I" ∈ gtbl) (hK : va_K (dC, dI) vwCl (tysW cI cZ) s) (hP : va_P (dC, dI) vwCl (wB x cI cZ u) H) (hdg : decode cc pc = .ok (.getfield index, 3)) (kk : W p l e R s m args below meth c H locs cells slots Q (F0 m (pc + 3) ls (.int (bq_random u) :: rest))) : W p l e R s m args below meth c H locs cells slots Q (F0 m pc ls (.ref (x 10) :: rest)) :=
  va_get (D := (dC, dI)) (ci := 1) (C := RX1) (T := TX1) (N := 9) hx hb hg inG1 hown hK hP 10 rfl rfl 8 (by decide) (hg _ hl) (fun _ h9 => h9) rfl hdg kk
theorem pu_X1_random {own : String} {index : Nat} {u : BS} {z : Int32} (hi : g_inj 13 x) (hx : p.tables.exec = Jvm.exec) (hb : c.code = cc) (hg : ∀ w ∈ gtbl, w.before args s = true) (hown : s.vm.findClass own = some m.cls) (hl : Cond.fieldLink own index "VipBoard$Language" "random" "I" ∈ gtbl) (hK : va_K (dC, dI) vwCl (tysW cI cZ) s) (hP : va_P (dC, dI) vwCl (wB x cI cZ u) H) (hS : va_S (g_bA 13 x) s.heap H locs) (hdg : decode cc pc = .ok (.putfield index, 3)) (kk : ∀ (H : Heap) (locs : List Loc), va_P (dC, dI) vwCl (wB x cI cZ (bs_random u z)) H → va_S (g_bA 13 x) s.heap H locs → W p l e R s m args below meth c H locs cells slots Q (F0 m (pc + 3) ls rest)) : W p l e R s m args below meth c H locs cells slots Q (F0 m pc ls (.int z :: .ref (x 10) :: rest)) :=
  va_put (D := (dC, dI)) (ci := 1) (ty := .int) (C := RX1) (T := TX1) (N := 9) hx hb hg inG1 tyX1 tyX1_ok nmX1 hown hK hP (wB_D hi u) hS 10 rfl rfl 8 (by decide) (hg _ hl) (fun _ h9 => h9) rfl (by decide +kernel) rfl rfl (Nat.le_of_ble_eq_true rfl) hdg (fun H1 locs1 hP1 _ hS1 => kk H1 locs1 hP1 hS1)
theorem bl_vars {u : BS} {i : Int32} (hx : p.tables.exec = Jvm.exec) (hb : c.code = cc) (hK : va_K (dC, dI) vwCl (tysW cI cZ) s) (hP : va_P (dC, dI) vwCl (wB x cI cZ u) H) (hin : vp_in i 16) (hdg : decode cc pc = .ok (.iaload, 1)) (kk : W p l e R s m args below meth c H locs cells slots Q (F0 m (pc + 1) ls (.int (bq_vars u i.toNatClampNeg) :: rest))) : W p l e R s m args below meth c H locs cells slots Q (F0 m pc ls (.int i :: .ref (x 11) :: rest)) :=
  va_iald (D := (dC, dI)) hx hb hK hP 11 0 rfl rfl hin hdg kk
theorem ba_vars {u : BS} {i z : Int32} (hi : g_inj 13 x) (hx : p.tables.exec = Jvm.exec) (hb : c.code = cc) (hK : va_K (dC, dI) vwCl (tysW cI cZ) s) (hP : va_P (dC, dI) vwCl (wB x cI cZ u) H) (hS : va_S (g_bA 13 x) s.heap H locs) (hin : vp_in i 16) (hdg : decode cc pc = .ok (.iastore, 1)) (kk : ∀ (H : Heap) (locs : List Loc), va_P (dC, dI) vwCl (wB x cI cZ (bs_vars u (upd (bq_vars u) i.toNatClampNeg z))) H → va_S (g_bA 13 x) s.heap H locs → W p l e R s m args below meth c H locs cells slots Q (F0 m (pc + 1) ls rest)) : W p l e R s m args below meth c H locs cells slots Q (F0 m pc ls (.int z :: .int i :: .ref (x 11) :: rest)) :=
  va_iast (D := (dC, dI)) hx hb hK hP (wB_D hi u) hS 11 0 rfl rfl hin hdg (fun H1 locs1 hP1 _ hS1 => kk H1 locs1 hP1 hS1)
theorem bl_stk {u : BS} {i : Int32} (hx : p.tables.exec = Jvm.exec) (hb : c.code = cc) (hK : va_K (dC, dI) vwCl (tysW cI cZ) s) (hP : va_P (dC, dI) vwCl (wB x cI cZ u) H) (hin : vp_in i 12) (hdg : decode cc pc = .ok (.iaload, 1)) (kk : W p l e R s m args below meth c H locs cells slots Q (F0 m (pc + 1) ls (.int (bq_stk u i.toNatClampNeg) :: rest))) : W p l e R s m args below meth c H locs cells slots Q (F0 m pc ls (.int i :: .ref (x 12) :: rest)) :=
  va_iald (D := (dC, dI)) hx hb hK hP 12 0 rfl rfl hin hdg kk
theorem ba_stk {u : BS} {i z : Int32} (hi : g_inj 13 x) (hx : p.tables.exec = Jvm.exec) (hb : c.code = cc) (hK : va_K (dC, dI) vwCl (tysW cI cZ) s) (hP : va_P (dC, dI) vwCl (wB x cI cZ u) H) (hS : va_S (g_bA 13 x) s.heap H locs) (hin : vp_in i 12) (hdg : decode cc pc = .ok (.iastore, 1)) (kk : ∀ (H : Heap) (locs : List Loc), va_P (dC, dI) vwCl (wB x cI cZ (bs_stk u (upd (bq_stk u) i.toNatClampNeg z))) H → va_S (g_bA 13 x) s.heap H locs → W p l e R s m args below meth c H locs cells slots Q (F0 m (pc + 1) ls rest)) : W p l e R s m args below meth c H locs cells slots Q (F0 m pc ls (.int z :: .int i :: .ref (x 12) :: rest)) :=
  va_iast (D := (dC, dI)) hx hb hK hP (wB_D hi u) hS 12 0 rfl rfl hin hdg (fun H1 locs1 hP1 _ hS1 => kk H1 locs1 hP1 hS1)
theorem ge_X7_thrown {own : String} {index : Nat} {u : MS} (hx : p.tables.exec = Jvm.exec) (hb : c.code = cc) (hg : ∀ w ∈ gtbl, w.before args s = true) (hown : s.vm.findClass own = some m.cls) (hl : Cond.fieldLink own index "VipBoardModel" "thrown" "I" ∈ gtbl) (hK : va_K (dC, dI) vwCl (tysW cI cZ) s) (hP : va_P (dC, dI) vwCl (wM x cI cZ u) H) (hdg : decode cc pc = .ok (.getfield index, 3)) (kk : W p l e R s m args below meth c H locs cells slots Q (F0 m (pc + 3) ls (.int (mq_thrown u) :: rest))) : W p l e R s m args below meth c H locs cells slots Q (F0 m pc ls (.ref (x 0) :: rest)) :=
  va_get (D := (dC, dI)) (ci := 7) (C := RX7) (T := TX7) (N := 14) hx hb hg inG7 hown hK hP 0 rfl rfl 0 (by decide) (hg _ hl) (fun _ h9 => h9) rfl hdg kk
theorem pu_X7_thrown {own : String} {index : Nat} {u : MS} {z : Int32} (hi : g_inj 7 x) (hx : p.tables.exec = Jvm.exec) (hb : c.code = cc) (hg : ∀ w ∈ gtbl, w.before args s = true) (hown : s.vm.findClass own = some m.cls) (hl : Cond.fieldLink own index "VipBoardModel" "thrown" "I" ∈ gtbl) (hK : va_K (dC, dI) vwCl (tysW cI cZ) s) (hP : va_P (dC, dI) vwCl (wM x cI cZ u) H) (hS : va_S (g_bA 7 x) s.heap H locs) (hdg : decode cc pc = .ok (.putfield index, 3)) (kk : ∀ (H : Heap) (locs : List Loc), va_P (dC, dI) vwCl (wM x cI cZ (ms_thrown u z)) H → va_S (g_bA 7 x) s.heap H locs → W p l e R s m args below meth c H locs cells slots Q (F0 m (pc + 3) ls rest)) : W p l e R s m args below meth c H locs cells slots Q (F0 m pc ls (.int z :: .ref (x 0) :: rest)) :=
  va_put (D := (dC, dI)) (ci := 7) (ty := .int) (C := RX7) (T := TX7) (N := 14) hx hb hg inG7 tyX7 tyX7_ok nmX7 hown hK hP (wM_D hi u) hS 0 rfl rfl 0 (by decide) (hg _ hl) (fun _ h9 => h9) rfl (by decide +kernel) rfl rfl (Nat.le_of_ble_eq_true rfl) hdg (fun H1 locs1 hP1 _ hS1 => kk H1 locs1 hP1 hS1)
theorem ge_X7_memory {own : String} {index : Nat} {u : MS} (hx : p.tables.exec = Jvm.exec) (hb : c.code = cc) (hg : ∀ w ∈ gtbl, w.before args s = true) (hown : s.vm.findClass own = some m.cls) (hl : Cond.fieldLink own index "VipBoardModel" "memory" "[I" ∈ gtbl) (hK : va_K (dC, dI) vwCl (tysW cI cZ) s) (hP : va_P (dC, dI) vwCl (wM x cI cZ u) H) (hdg : decode cc pc = .ok (.getfield index, 3)) (kk : W p l e R s m args below meth c H locs cells slots Q (F0 m (pc + 3) ls (.ref (x 1) :: rest))) : W p l e R s m args below meth c H locs cells slots Q (F0 m pc ls (.ref (x 0) :: rest)) :=
  va_get (D := (dC, dI)) (ci := 7) (C := RX7) (T := TX7) (N := 14) hx hb hg inG7 hown hK hP 0 rfl rfl 1 (by decide) (hg _ hl) (fun _ h9 => h9) rfl hdg kk
theorem ge_X7_s {own : String} {index : Nat} {u : MS} (hx : p.tables.exec = Jvm.exec) (hb : c.code = cc) (hg : ∀ w ∈ gtbl, w.before args s = true) (hown : s.vm.findClass own = some m.cls) (hl : Cond.fieldLink own index "VipBoardModel" "s" "[I" ∈ gtbl) (hK : va_K (dC, dI) vwCl (tysW cI cZ) s) (hP : va_P (dC, dI) vwCl (wM x cI cZ u) H) (hdg : decode cc pc = .ok (.getfield index, 3)) (kk : W p l e R s m args below meth c H locs cells slots Q (F0 m (pc + 3) ls (.ref (x 2) :: rest))) : W p l e R s m args below meth c H locs cells slots Q (F0 m pc ls (.ref (x 0) :: rest)) :=
  va_get (D := (dC, dI)) (ci := 7) (C := RX7) (T := TX7) (N := 14) hx hb hg inG7 hown hK hP 0 rfl rfl 2 (by decide) (hg _ hl) (fun _ h9 => h9) rfl hdg kk
theorem ge_X7_v {own : String} {index : Nat} {u : MS} (hx : p.tables.exec = Jvm.exec) (hb : c.code = cc) (hg : ∀ w ∈ gtbl, w.before args s = true) (hown : s.vm.findClass own = some m.cls) (hl : Cond.fieldLink own index "VipBoardModel" "v" "[I" ∈ gtbl) (hK : va_K (dC, dI) vwCl (tysW cI cZ) s) (hP : va_P (dC, dI) vwCl (wM x cI cZ u) H) (hdg : decode cc pc = .ok (.getfield index, 3)) (kk : W p l e R s m args below meth c H locs cells slots Q (F0 m (pc + 3) ls (.ref (x 3) :: rest))) : W p l e R s m args below meth c H locs cells slots Q (F0 m pc ls (.ref (x 0) :: rest)) :=
  va_get (D := (dC, dI)) (ci := 7) (C := RX7) (T := TX7) (N := 14) hx hb hg inG7 hown hK hP 0 rfl rfl 3 (by decide) (hg _ hl) (fun _ h9 => h9) rfl hdg kk
theorem ge_X7_back {own : String} {index : Nat} {u : MS} (hx : p.tables.exec = Jvm.exec) (hb : c.code = cc) (hg : ∀ w ∈ gtbl, w.before args s = true) (hown : s.vm.findClass own = some m.cls) (hl : Cond.fieldLink own index "VipBoardModel" "back" "[I" ∈ gtbl) (hK : va_K (dC, dI) vwCl (tysW cI cZ) s) (hP : va_P (dC, dI) vwCl (wM x cI cZ u) H) (hdg : decode cc pc = .ok (.getfield index, 3)) (kk : W p l e R s m args below meth c H locs cells slots Q (F0 m (pc + 3) ls (.ref (x 4) :: rest))) : W p l e R s m args below meth c H locs cells slots Q (F0 m pc ls (.ref (x 0) :: rest)) :=
  va_get (D := (dC, dI)) (ci := 7) (C := RX7) (T := TX7) (N := 14) hx hb hg inG7 hown hK hP 0 rfl rfl 4 (by decide) (hg _ hl) (fun _ h9 => h9) rfl hdg kk
theorem ge_X7_down {own : String} {index : Nat} {u : MS} (hx : p.tables.exec = Jvm.exec) (hb : c.code = cc) (hg : ∀ w ∈ gtbl, w.before args s = true) (hown : s.vm.findClass own = some m.cls) (hl : Cond.fieldLink own index "VipBoardModel" "down" "[Z" ∈ gtbl) (hK : va_K (dC, dI) vwCl (tysW cI cZ) s) (hP : va_P (dC, dI) vwCl (wM x cI cZ u) H) (hdg : decode cc pc = .ok (.getfield index, 3)) (kk : W p l e R s m args below meth c H locs cells slots Q (F0 m (pc + 3) ls (.ref (x 5) :: rest))) : W p l e R s m args below meth c H locs cells slots Q (F0 m pc ls (.ref (x 0) :: rest)) :=
  va_get (D := (dC, dI)) (ci := 7) (C := RX7) (T := TX7) (N := 14) hx hb hg inG7 hown hK hP 0 rfl rfl 5 (by decide) (hg _ hl) (fun _ h9 => h9) rfl hdg kk
theorem ge_X7_on {own : String} {index : Nat} {u : MS} (hx : p.tables.exec = Jvm.exec) (hb : c.code = cc) (hg : ∀ w ∈ gtbl, w.before args s = true) (hown : s.vm.findClass own = some m.cls) (hl : Cond.fieldLink own index "VipBoardModel" "on" "Z" ∈ gtbl) (hK : va_K (dC, dI) vwCl (tysW cI cZ) s) (hP : va_P (dC, dI) vwCl (wM x cI cZ u) H) (hdg : decode cc pc = .ok (.getfield index, 3)) (kk : W p l e R s m args below meth c H locs cells slots Q (F0 m (pc + 3) ls (.int (mq_on u) :: rest))) : W p l e R s m args below meth c H locs cells slots Q (F0 m pc ls (.ref (x 0) :: rest)) :=
  va_get (D := (dC, dI)) (ci := 7) (C := RX7) (T := TX7) (N := 14) hx hb hg inG7 hown hK hP 0 rfl rfl 6 (by decide) (hg _ hl) (fun _ h9 => h9) rfl hdg kk
theorem pu_X7_on {own : String} {index : Nat} {u : MS} {z : Int32} (hi : g_inj 7 x) (hx : p.tables.exec = Jvm.exec) (hb : c.code = cc) (hg : ∀ w ∈ gtbl, w.before args s = true) (hown : s.vm.findClass own = some m.cls) (hl : Cond.fieldLink own index "VipBoardModel" "on" "Z" ∈ gtbl) (hK : va_K (dC, dI) vwCl (tysW cI cZ) s) (hP : va_P (dC, dI) vwCl (wM x cI cZ u) H) (hS : va_S (g_bA 7 x) s.heap H locs) (hz : narrow .boolean (.int z) = .int z) (hzf : fits .boolean (.int z) = true) (hdg : decode cc pc = .ok (.putfield index, 3)) (kk : ∀ (H : Heap) (locs : List Loc), va_P (dC, dI) vwCl (wM x cI cZ (ms_on u z)) H → va_S (g_bA 7 x) s.heap H locs → W p l e R s m args below meth c H locs cells slots Q (F0 m (pc + 3) ls rest)) : W p l e R s m args below meth c H locs cells slots Q (F0 m pc ls (.int z :: .ref (x 0) :: rest)) :=
  va_put (D := (dC, dI)) (ci := 7) (ty := .boolean) (C := RX7) (T := TX7) (N := 14) hx hb hg inG7 tyX7 tyX7_ok nmX7 hown hK hP (wM_D hi u) hS 0 rfl rfl 6 (by decide) (hg _ hl) (fun _ h9 => h9) rfl (by decide +kernel) hz hzf (Nat.le_of_ble_eq_true rfl) hdg (fun H1 locs1 hP1 _ hS1 => kk H1 locs1 hP1 hS1)
theorem ge_X7_line {own : String} {index : Nat} {u : MS} (hx : p.tables.exec = Jvm.exec) (hb : c.code = cc) (hg : ∀ w ∈ gtbl, w.before args s = true) (hown : s.vm.findClass own = some m.cls) (hl : Cond.fieldLink own index "VipBoardModel" "line" "I" ∈ gtbl) (hK : va_K (dC, dI) vwCl (tysW cI cZ) s) (hP : va_P (dC, dI) vwCl (wM x cI cZ u) H) (hdg : decode cc pc = .ok (.getfield index, 3)) (kk : W p l e R s m args below meth c H locs cells slots Q (F0 m (pc + 3) ls (.int (mq_line u) :: rest))) : W p l e R s m args below meth c H locs cells slots Q (F0 m pc ls (.ref (x 0) :: rest)) :=
  va_get (D := (dC, dI)) (ci := 7) (C := RX7) (T := TX7) (N := 14) hx hb hg inG7 hown hK hP 0 rfl rfl 7 (by decide) (hg _ hl) (fun _ h9 => h9) rfl hdg kk
theorem pu_X7_line {own : String} {index : Nat} {u : MS} {z : Int32} (hi : g_inj 7 x) (hx : p.tables.exec = Jvm.exec) (hb : c.code = cc) (hg : ∀ w ∈ gtbl, w.before args s = true) (hown : s.vm.findClass own = some m.cls) (hl : Cond.fieldLink own index "VipBoardModel" "line" "I" ∈ gtbl) (hK : va_K (dC, dI) vwCl (tysW cI cZ) s) (hP : va_P (dC, dI) vwCl (wM x cI cZ u) H) (hS : va_S (g_bA 7 x) s.heap H locs) (hdg : decode cc pc = .ok (.putfield index, 3)) (kk : ∀ (H : Heap) (locs : List Loc), va_P (dC, dI) vwCl (wM x cI cZ (ms_line u z)) H → va_S (g_bA 7 x) s.heap H locs → W p l e R s m args below meth c H locs cells slots Q (F0 m (pc + 3) ls rest)) : W p l e R s m args below meth c H locs cells slots Q (F0 m pc ls (.int z :: .ref (x 0) :: rest)) :=
  va_put (D := (dC, dI)) (ci := 7) (ty := .int) (C := RX7) (T := TX7) (N := 14) hx hb hg inG7 tyX7 tyX7_ok nmX7 hown hK hP (wM_D hi u) hS 0 rfl rfl 7 (by decide) (hg _ hl) (fun _ h9 => h9) rfl (by decide +kernel) rfl rfl (Nat.le_of_ble_eq_true rfl) hdg (fun H1 locs1 hP1 _ hS1 => kk H1 locs1 hP1 hS1)
theorem ge_X7_place {own : String} {index : Nat} {u : MS} (hx : p.tables.exec = Jvm.exec) (hb : c.code = cc) (hg : ∀ w ∈ gtbl, w.before args s = true) (hown : s.vm.findClass own = some m.cls) (hl : Cond.fieldLink own index "VipBoardModel" "place" "I" ∈ gtbl) (hK : va_K (dC, dI) vwCl (tysW cI cZ) s) (hP : va_P (dC, dI) vwCl (wM x cI cZ u) H) (hdg : decode cc pc = .ok (.getfield index, 3)) (kk : W p l e R s m args below meth c H locs cells slots Q (F0 m (pc + 3) ls (.int (mq_place u) :: rest))) : W p l e R s m args below meth c H locs cells slots Q (F0 m pc ls (.ref (x 0) :: rest)) :=
  va_get (D := (dC, dI)) (ci := 7) (C := RX7) (T := TX7) (N := 14) hx hb hg inG7 hown hK hP 0 rfl rfl 8 (by decide) (hg _ hl) (fun _ h9 => h9) rfl hdg kk
theorem pu_X7_place {own : String} {index : Nat} {u : MS} {z : Int32} (hi : g_inj 7 x) (hx : p.tables.exec = Jvm.exec) (hb : c.code = cc) (hg : ∀ w ∈ gtbl, w.before args s = true) (hown : s.vm.findClass own = some m.cls) (hl : Cond.fieldLink own index "VipBoardModel" "place" "I" ∈ gtbl) (hK : va_K (dC, dI) vwCl (tysW cI cZ) s) (hP : va_P (dC, dI) vwCl (wM x cI cZ u) H) (hS : va_S (g_bA 7 x) s.heap H locs) (hdg : decode cc pc = .ok (.putfield index, 3)) (kk : ∀ (H : Heap) (locs : List Loc), va_P (dC, dI) vwCl (wM x cI cZ (ms_place u z)) H → va_S (g_bA 7 x) s.heap H locs → W p l e R s m args below meth c H locs cells slots Q (F0 m (pc + 3) ls rest)) : W p l e R s m args below meth c H locs cells slots Q (F0 m pc ls (.int z :: .ref (x 0) :: rest)) :=
  va_put (D := (dC, dI)) (ci := 7) (ty := .int) (C := RX7) (T := TX7) (N := 14) hx hb hg inG7 tyX7 tyX7_ok nmX7 hown hK hP (wM_D hi u) hS 0 rfl rfl 8 (by decide) (hg _ hl) (fun _ h9 => h9) rfl (by decide +kernel) rfl rfl (Nat.le_of_ble_eq_true rfl) hdg (fun H1 locs1 hP1 _ hS1 => kk H1 locs1 hP1 hS1)
theorem ge_X7_frames {own : String} {index : Nat} {u : MS} (hx : p.tables.exec = Jvm.exec) (hb : c.code = cc) (hg : ∀ w ∈ gtbl, w.before args s = true) (hown : s.vm.findClass own = some m.cls) (hl : Cond.fieldLink own index "VipBoardModel" "frames" "I" ∈ gtbl) (hK : va_K (dC, dI) vwCl (tysW cI cZ) s) (hP : va_P (dC, dI) vwCl (wM x cI cZ u) H) (hdg : decode cc pc = .ok (.getfield index, 3)) (kk : W p l e R s m args below meth c H locs cells slots Q (F0 m (pc + 3) ls (.int (mq_frames u) :: rest))) : W p l e R s m args below meth c H locs cells slots Q (F0 m pc ls (.ref (x 0) :: rest)) :=
  va_get (D := (dC, dI)) (ci := 7) (C := RX7) (T := TX7) (N := 14) hx hb hg inG7 hown hK hP 0 rfl rfl 9 (by decide) (hg _ hl) (fun _ h9 => h9) rfl hdg kk
theorem pu_X7_frames {own : String} {index : Nat} {u : MS} {z : Int32} (hi : g_inj 7 x) (hx : p.tables.exec = Jvm.exec) (hb : c.code = cc) (hg : ∀ w ∈ gtbl, w.before args s = true) (hown : s.vm.findClass own = some m.cls) (hl : Cond.fieldLink own index "VipBoardModel" "frames" "I" ∈ gtbl) (hK : va_K (dC, dI) vwCl (tysW cI cZ) s) (hP : va_P (dC, dI) vwCl (wM x cI cZ u) H) (hS : va_S (g_bA 7 x) s.heap H locs) (hdg : decode cc pc = .ok (.putfield index, 3)) (kk : ∀ (H : Heap) (locs : List Loc), va_P (dC, dI) vwCl (wM x cI cZ (ms_frames u z)) H → va_S (g_bA 7 x) s.heap H locs → W p l e R s m args below meth c H locs cells slots Q (F0 m (pc + 3) ls rest)) : W p l e R s m args below meth c H locs cells slots Q (F0 m pc ls (.int z :: .ref (x 0) :: rest)) :=
  va_put (D := (dC, dI)) (ci := 7) (ty := .int) (C := RX7) (T := TX7) (N := 14) hx hb hg inG7 tyX7 tyX7_ok nmX7 hown hK hP (wM_D hi u) hS 0 rfl rfl 9 (by decide) (hg _ hl) (fun _ h9 => h9) rfl (by decide +kernel) rfl rfl (Nat.le_of_ble_eq_true rfl) hdg (fun H1 locs1 hP1 _ hS1 => kk H1 locs1 hP1 hS1)
theorem ge_X7_fetched {own : String} {index : Nat} {u : MS} (hx : p.tables.exec = Jvm.exec) (hb : c.code = cc) (hg : ∀ w ∈ gtbl, w.before args s = true) (hown : s.vm.findClass own = some m.cls) (hl : Cond.fieldLink own index "VipBoardModel" "fetched" "Z" ∈ gtbl) (hK : va_K (dC, dI) vwCl (tysW cI cZ) s) (hP : va_P (dC, dI) vwCl (wM x cI cZ u) H) (hdg : decode cc pc = .ok (.getfield index, 3)) (kk : W p l e R s m args below meth c H locs cells slots Q (F0 m (pc + 3) ls (.int (mq_fetched u) :: rest))) : W p l e R s m args below meth c H locs cells slots Q (F0 m pc ls (.ref (x 0) :: rest)) :=
  va_get (D := (dC, dI)) (ci := 7) (C := RX7) (T := TX7) (N := 14) hx hb hg inG7 hown hK hP 0 rfl rfl 10 (by decide) (hg _ hl) (fun _ h9 => h9) rfl hdg kk
theorem pu_X7_fetched {own : String} {index : Nat} {u : MS} {z : Int32} (hi : g_inj 7 x) (hx : p.tables.exec = Jvm.exec) (hb : c.code = cc) (hg : ∀ w ∈ gtbl, w.before args s = true) (hown : s.vm.findClass own = some m.cls) (hl : Cond.fieldLink own index "VipBoardModel" "fetched" "Z" ∈ gtbl) (hK : va_K (dC, dI) vwCl (tysW cI cZ) s) (hP : va_P (dC, dI) vwCl (wM x cI cZ u) H) (hS : va_S (g_bA 7 x) s.heap H locs) (hz : narrow .boolean (.int z) = .int z) (hzf : fits .boolean (.int z) = true) (hdg : decode cc pc = .ok (.putfield index, 3)) (kk : ∀ (H : Heap) (locs : List Loc), va_P (dC, dI) vwCl (wM x cI cZ (ms_fetched u z)) H → va_S (g_bA 7 x) s.heap H locs → W p l e R s m args below meth c H locs cells slots Q (F0 m (pc + 3) ls rest)) : W p l e R s m args below meth c H locs cells slots Q (F0 m pc ls (.int z :: .ref (x 0) :: rest)) :=
  va_put (D := (dC, dI)) (ci := 7) (ty := .boolean) (C := RX7) (T := TX7) (N := 14) hx hb hg inG7 tyX7 tyX7_ok nmX7 hown hK hP (wM_D hi u) hS 0 rfl rfl 10 (by decide) (hg _ hl) (fun _ h9 => h9) rfl (by decide +kernel) hz hzf (Nat.le_of_ble_eq_true rfl) hdg (fun H1 locs1 hP1 _ hS1 => kk H1 locs1 hP1 hS1)
theorem ge_X7_interrupted {own : String} {index : Nat} {u : MS} (hx : p.tables.exec = Jvm.exec) (hb : c.code = cc) (hg : ∀ w ∈ gtbl, w.before args s = true) (hown : s.vm.findClass own = some m.cls) (hl : Cond.fieldLink own index "VipBoardModel" "interrupted" "Z" ∈ gtbl) (hK : va_K (dC, dI) vwCl (tysW cI cZ) s) (hP : va_P (dC, dI) vwCl (wM x cI cZ u) H) (hdg : decode cc pc = .ok (.getfield index, 3)) (kk : W p l e R s m args below meth c H locs cells slots Q (F0 m (pc + 3) ls (.int (mq_intr u) :: rest))) : W p l e R s m args below meth c H locs cells slots Q (F0 m pc ls (.ref (x 0) :: rest)) :=
  va_get (D := (dC, dI)) (ci := 7) (C := RX7) (T := TX7) (N := 14) hx hb hg inG7 hown hK hP 0 rfl rfl 11 (by decide) (hg _ hl) (fun _ h9 => h9) rfl hdg kk
theorem pu_X7_interrupted {own : String} {index : Nat} {u : MS} {z : Int32} (hi : g_inj 7 x) (hx : p.tables.exec = Jvm.exec) (hb : c.code = cc) (hg : ∀ w ∈ gtbl, w.before args s = true) (hown : s.vm.findClass own = some m.cls) (hl : Cond.fieldLink own index "VipBoardModel" "interrupted" "Z" ∈ gtbl) (hK : va_K (dC, dI) vwCl (tysW cI cZ) s) (hP : va_P (dC, dI) vwCl (wM x cI cZ u) H) (hS : va_S (g_bA 7 x) s.heap H locs) (hz : narrow .boolean (.int z) = .int z) (hzf : fits .boolean (.int z) = true) (hdg : decode cc pc = .ok (.putfield index, 3)) (kk : ∀ (H : Heap) (locs : List Loc), va_P (dC, dI) vwCl (wM x cI cZ (ms_intr u z)) H → va_S (g_bA 7 x) s.heap H locs → W p l e R s m args below meth c H locs cells slots Q (F0 m (pc + 3) ls rest)) : W p l e R s m args below meth c H locs cells slots Q (F0 m pc ls (.int z :: .ref (x 0) :: rest)) :=
  va_put (D := (dC, dI)) (ci := 7) (ty := .boolean) (C := RX7) (T := TX7) (N := 14) hx hb hg inG7 tyX7 tyX7_ok nmX7 hown hK hP (wM_D hi u) hS 0 rfl rfl 11 (by decide) (hg _ hl) (fun _ h9 => h9) rfl (by decide +kernel) hz hzf (Nat.le_of_ble_eq_true rfl) hdg (fun H1 locs1 hP1 _ hS1 => kk H1 locs1 hP1 hS1)
theorem ge_X7_latch {own : String} {index : Nat} {u : MS} (hx : p.tables.exec = Jvm.exec) (hb : c.code = cc) (hg : ∀ w ∈ gtbl, w.before args s = true) (hown : s.vm.findClass own = some m.cls) (hl : Cond.fieldLink own index "VipBoardModel" "latch" "I" ∈ gtbl) (hK : va_K (dC, dI) vwCl (tysW cI cZ) s) (hP : va_P (dC, dI) vwCl (wM x cI cZ u) H) (hdg : decode cc pc = .ok (.getfield index, 3)) (kk : W p l e R s m args below meth c H locs cells slots Q (F0 m (pc + 3) ls (.int (mq_latch u) :: rest))) : W p l e R s m args below meth c H locs cells slots Q (F0 m pc ls (.ref (x 0) :: rest)) :=
  va_get (D := (dC, dI)) (ci := 7) (C := RX7) (T := TX7) (N := 14) hx hb hg inG7 hown hK hP 0 rfl rfl 12 (by decide) (hg _ hl) (fun _ h9 => h9) rfl hdg kk
theorem pu_X7_latch {own : String} {index : Nat} {u : MS} {z : Int32} (hi : g_inj 7 x) (hx : p.tables.exec = Jvm.exec) (hb : c.code = cc) (hg : ∀ w ∈ gtbl, w.before args s = true) (hown : s.vm.findClass own = some m.cls) (hl : Cond.fieldLink own index "VipBoardModel" "latch" "I" ∈ gtbl) (hK : va_K (dC, dI) vwCl (tysW cI cZ) s) (hP : va_P (dC, dI) vwCl (wM x cI cZ u) H) (hS : va_S (g_bA 7 x) s.heap H locs) (hdg : decode cc pc = .ok (.putfield index, 3)) (kk : ∀ (H : Heap) (locs : List Loc), va_P (dC, dI) vwCl (wM x cI cZ (ms_latch u z)) H → va_S (g_bA 7 x) s.heap H locs → W p l e R s m args below meth c H locs cells slots Q (F0 m (pc + 3) ls rest)) : W p l e R s m args below meth c H locs cells slots Q (F0 m pc ls (.int z :: .ref (x 0) :: rest)) :=
  va_put (D := (dC, dI)) (ci := 7) (ty := .int) (C := RX7) (T := TX7) (N := 14) hx hb hg inG7 tyX7 tyX7_ok nmX7 hown hK hP (wM_D hi u) hS 0 rfl rfl 12 (by decide) (hg _ hl) (fun _ h9 => h9) rfl (by decide +kernel) rfl rfl (Nat.le_of_ble_eq_true rfl) hdg (fun H1 locs1 hP1 _ hS1 => kk H1 locs1 hP1 hS1)
theorem ge_X7_shown {own : String} {index : Nat} {u : MS} (hx : p.tables.exec = Jvm.exec) (hb : c.code = cc) (hg : ∀ w ∈ gtbl, w.before args s = true) (hown : s.vm.findClass own = some m.cls) (hl : Cond.fieldLink own index "VipBoardModel" "shown" "[I" ∈ gtbl) (hK : va_K (dC, dI) vwCl (tysW cI cZ) s) (hP : va_P (dC, dI) vwCl (wM x cI cZ u) H) (hdg : decode cc pc = .ok (.getfield index, 3)) (kk : W p l e R s m args below meth c H locs cells slots Q (F0 m (pc + 3) ls (.ref (x 6) :: rest))) : W p l e R s m args below meth c H locs cells slots Q (F0 m pc ls (.ref (x 0) :: rest)) :=
  va_get (D := (dC, dI)) (ci := 7) (C := RX7) (T := TX7) (N := 14) hx hb hg inG7 hown hK hP 0 rfl rfl 13 (by decide) (hg _ hl) (fun _ h9 => h9) rfl hdg kk
theorem ml_mem {u : MS} {i : Int32} (hx : p.tables.exec = Jvm.exec) (hb : c.code = cc) (hK : va_K (dC, dI) vwCl (tysW cI cZ) s) (hP : va_P (dC, dI) vwCl (wM x cI cZ u) H) (hin : vp_in i 2048) (hdg : decode cc pc = .ok (.iaload, 1)) (kk : W p l e R s m args below meth c H locs cells slots Q (F0 m (pc + 1) ls (.int (mq_mem u i.toNatClampNeg) :: rest))) : W p l e R s m args below meth c H locs cells slots Q (F0 m pc ls (.int i :: .ref (x 1) :: rest)) :=
  va_iald (D := (dC, dI)) hx hb hK hP 1 0 rfl rfl hin hdg kk
theorem ma_mem {u : MS} {i z : Int32} (hi : g_inj 7 x) (hx : p.tables.exec = Jvm.exec) (hb : c.code = cc) (hK : va_K (dC, dI) vwCl (tysW cI cZ) s) (hP : va_P (dC, dI) vwCl (wM x cI cZ u) H) (hS : va_S (g_bA 7 x) s.heap H locs) (hin : vp_in i 2048) (hdg : decode cc pc = .ok (.iastore, 1)) (kk : ∀ (H : Heap) (locs : List Loc), va_P (dC, dI) vwCl (wM x cI cZ (ms_mem u (upd (mq_mem u) i.toNatClampNeg z))) H → va_S (g_bA 7 x) s.heap H locs → W p l e R s m args below meth c H locs cells slots Q (F0 m (pc + 1) ls rest)) : W p l e R s m args below meth c H locs cells slots Q (F0 m pc ls (.int z :: .int i :: .ref (x 1) :: rest)) :=
  va_iast (D := (dC, dI)) hx hb hK hP (wM_D hi u) hS 1 0 rfl rfl hin hdg (fun H1 locs1 hP1 _ hS1 => kk H1 locs1 hP1 hS1)
theorem ml_s {u : MS} {i : Int32} (hx : p.tables.exec = Jvm.exec) (hb : c.code = cc) (hK : va_K (dC, dI) vwCl (tysW cI cZ) s) (hP : va_P (dC, dI) vwCl (wM x cI cZ u) H) (hin : vp_in i 24) (hdg : decode cc pc = .ok (.iaload, 1)) (kk : W p l e R s m args below meth c H locs cells slots Q (F0 m (pc + 1) ls (.int (mq_s u i.toNatClampNeg) :: rest))) : W p l e R s m args below meth c H locs cells slots Q (F0 m pc ls (.int i :: .ref (x 2) :: rest)) :=
  va_iald (D := (dC, dI)) hx hb hK hP 2 0 rfl rfl hin hdg kk
theorem ma_s {u : MS} {i z : Int32} (hi : g_inj 7 x) (hx : p.tables.exec = Jvm.exec) (hb : c.code = cc) (hK : va_K (dC, dI) vwCl (tysW cI cZ) s) (hP : va_P (dC, dI) vwCl (wM x cI cZ u) H) (hS : va_S (g_bA 7 x) s.heap H locs) (hin : vp_in i 24) (hdg : decode cc pc = .ok (.iastore, 1)) (kk : ∀ (H : Heap) (locs : List Loc), va_P (dC, dI) vwCl (wM x cI cZ (ms_s u (upd (mq_s u) i.toNatClampNeg z))) H → va_S (g_bA 7 x) s.heap H locs → W p l e R s m args below meth c H locs cells slots Q (F0 m (pc + 1) ls rest)) : W p l e R s m args below meth c H locs cells slots Q (F0 m pc ls (.int z :: .int i :: .ref (x 2) :: rest)) :=
  va_iast (D := (dC, dI)) hx hb hK hP (wM_D hi u) hS 2 0 rfl rfl hin hdg (fun H1 locs1 hP1 _ hS1 => kk H1 locs1 hP1 hS1)
theorem ml_v {u : MS} {i : Int32} (hx : p.tables.exec = Jvm.exec) (hb : c.code = cc) (hK : va_K (dC, dI) vwCl (tysW cI cZ) s) (hP : va_P (dC, dI) vwCl (wM x cI cZ u) H) (hin : vp_in i 22) (hdg : decode cc pc = .ok (.iaload, 1)) (kk : W p l e R s m args below meth c H locs cells slots Q (F0 m (pc + 1) ls (.int (mq_v u i.toNatClampNeg) :: rest))) : W p l e R s m args below meth c H locs cells slots Q (F0 m pc ls (.int i :: .ref (x 3) :: rest)) :=
  va_iald (D := (dC, dI)) hx hb hK hP 3 0 rfl rfl hin hdg kk
theorem ma_v {u : MS} {i z : Int32} (hi : g_inj 7 x) (hx : p.tables.exec = Jvm.exec) (hb : c.code = cc) (hK : va_K (dC, dI) vwCl (tysW cI cZ) s) (hP : va_P (dC, dI) vwCl (wM x cI cZ u) H) (hS : va_S (g_bA 7 x) s.heap H locs) (hin : vp_in i 22) (hdg : decode cc pc = .ok (.iastore, 1)) (kk : ∀ (H : Heap) (locs : List Loc), va_P (dC, dI) vwCl (wM x cI cZ (ms_v u (upd (mq_v u) i.toNatClampNeg z))) H → va_S (g_bA 7 x) s.heap H locs → W p l e R s m args below meth c H locs cells slots Q (F0 m (pc + 1) ls rest)) : W p l e R s m args below meth c H locs cells slots Q (F0 m pc ls (.int z :: .int i :: .ref (x 3) :: rest)) :=
  va_iast (D := (dC, dI)) hx hb hK hP (wM_D hi u) hS 3 0 rfl rfl hin hdg (fun H1 locs1 hP1 _ hS1 => kk H1 locs1 hP1 hS1)
theorem ml_back {u : MS} {i : Int32} (hx : p.tables.exec = Jvm.exec) (hb : c.code = cc) (hK : va_K (dC, dI) vwCl (tysW cI cZ) s) (hP : va_P (dC, dI) vwCl (wM x cI cZ u) H) (hin : vp_in i 12) (hdg : decode cc pc = .ok (.iaload, 1)) (kk : W p l e R s m args below meth c H locs cells slots Q (F0 m (pc + 1) ls (.int (mq_back u i.toNatClampNeg) :: rest))) : W p l e R s m args below meth c H locs cells slots Q (F0 m pc ls (.int i :: .ref (x 4) :: rest)) :=
  va_iald (D := (dC, dI)) hx hb hK hP 4 0 rfl rfl hin hdg kk
theorem ma_back {u : MS} {i z : Int32} (hi : g_inj 7 x) (hx : p.tables.exec = Jvm.exec) (hb : c.code = cc) (hK : va_K (dC, dI) vwCl (tysW cI cZ) s) (hP : va_P (dC, dI) vwCl (wM x cI cZ u) H) (hS : va_S (g_bA 7 x) s.heap H locs) (hin : vp_in i 12) (hdg : decode cc pc = .ok (.iastore, 1)) (kk : ∀ (H : Heap) (locs : List Loc), va_P (dC, dI) vwCl (wM x cI cZ (ms_back u (upd (mq_back u) i.toNatClampNeg z))) H → va_S (g_bA 7 x) s.heap H locs → W p l e R s m args below meth c H locs cells slots Q (F0 m (pc + 1) ls rest)) : W p l e R s m args below meth c H locs cells slots Q (F0 m pc ls (.int z :: .int i :: .ref (x 4) :: rest)) :=
  va_iast (D := (dC, dI)) hx hb hK hP (wM_D hi u) hS 4 0 rfl rfl hin hdg (fun H1 locs1 hP1 _ hS1 => kk H1 locs1 hP1 hS1)
theorem ml_down {u : MS} {i : Int32} (hx : p.tables.exec = Jvm.exec) (hb : c.code = cc) (hK : va_K (dC, dI) vwCl (tysW cI cZ) s) (hP : va_P (dC, dI) vwCl (wM x cI cZ u) H) (hin : vp_in i 16) (hdg : decode cc pc = .ok (.baload, 1)) (kk : W p l e R s m args below meth c H locs cells slots Q (F0 m (pc + 1) ls (.int (mq_down u i.toNatClampNeg) :: rest))) : W p l e R s m args below meth c H locs cells slots Q (F0 m pc ls (.int i :: .ref (x 5) :: rest)) :=
  va_zald (D := (dC, dI)) hx hb hK hP 5 1 rfl rfl hin hdg kk
theorem ma_down {u : MS} {i z : Int32} (hi : g_inj 7 x) (hx : p.tables.exec = Jvm.exec) (hb : c.code = cc) (hK : va_K (dC, dI) vwCl (tysW cI cZ) s) (hP : va_P (dC, dI) vwCl (wM x cI cZ u) H) (hS : va_S (g_bA 7 x) s.heap H locs) (hin : vp_in i 16) (hdg : decode cc pc = .ok (.bastore, 1)) (kk : ∀ (H : Heap) (locs : List Loc), va_P (dC, dI) vwCl (wM x cI cZ (ms_down u (upd (mq_down u) i.toNatClampNeg (vp_nar .boolean z)))) H → va_S (g_bA 7 x) s.heap H locs → W p l e R s m args below meth c H locs cells slots Q (F0 m (pc + 1) ls rest)) : W p l e R s m args below meth c H locs cells slots Q (F0 m pc ls (.int z :: .int i :: .ref (x 5) :: rest)) :=
  va_zast (D := (dC, dI)) hx hb hK hP (wM_D hi u) hS 5 1 rfl rfl hin hdg (fun H1 locs1 hP1 _ hS1 => kk H1 locs1 hP1 hS1)
theorem ml_shown {u : MS} {i : Int32} (hx : p.tables.exec = Jvm.exec) (hb : c.code = cc) (hK : va_K (dC, dI) vwCl (tysW cI cZ) s) (hP : va_P (dC, dI) vwCl (wM x cI cZ u) H) (hin : vp_in i 1024) (hdg : decode cc pc = .ok (.iaload, 1)) (kk : W p l e R s m args below meth c H locs cells slots Q (F0 m (pc + 1) ls (.int (mq_shown u i.toNatClampNeg) :: rest))) : W p l e R s m args below meth c H locs cells slots Q (F0 m pc ls (.int i :: .ref (x 6) :: rest)) :=
  va_iald (D := (dC, dI)) hx hb hK hP 6 0 rfl rfl hin hdg kk
theorem ma_shown {u : MS} {i z : Int32} (hi : g_inj 7 x) (hx : p.tables.exec = Jvm.exec) (hb : c.code = cc) (hK : va_K (dC, dI) vwCl (tysW cI cZ) s) (hP : va_P (dC, dI) vwCl (wM x cI cZ u) H) (hS : va_S (g_bA 7 x) s.heap H locs) (hin : vp_in i 1024) (hdg : decode cc pc = .ok (.iastore, 1)) (kk : ∀ (H : Heap) (locs : List Loc), va_P (dC, dI) vwCl (wM x cI cZ (ms_shown u (upd (mq_shown u) i.toNatClampNeg z))) H → va_S (g_bA 7 x) s.heap H locs → W p l e R s m args below meth c H locs cells slots Q (F0 m (pc + 1) ls rest)) : W p l e R s m args below meth c H locs cells slots Q (F0 m pc ls (.int z :: .int i :: .ref (x 6) :: rest)) :=
  va_iast (D := (dC, dI)) hx hb hK hP (wM_D hi u) hS 6 0 rfl rfl hin hdg (fun H1 locs1 hP1 _ hS1 => kk H1 locs1 hP1 hS1)
end ROWS
end
section
section SW
variable {p : Program} {l : Launch} {e : Env} {R : Room} {s : State} {m : MethodId} {args : Array Value} {below : List Frame} {meth : Method} {c : Code} {H : Heap} {locs : List Loc} {cells slots : Nat} {Q : State → Prop}
variable {cc : ByteArray} {pc : Nat} {ls : Array Slot} {rest : List Value}
theorem sw_case {x : Int32} (v : Int32) (a : x = v → W p l e R s m args below meth c H locs cells slots Q (F0 m pc ls (.int x :: rest))) (b : ¬ x = v → W p l e R s m args below meth c H locs cells slots Q (F0 m pc ls (.int x :: rest))) : W p l e R s m args below meth c H locs cells slots Q (F0 m pc ls (.int x :: rest)) := by
  by_cases h : x = v
  · exact a h
  · exact b h
theorem sw_in {dflt lo hi : Int} {offs : Array Int} {len : Nat} {x : Int32} {off : Int} {tgt : Nat} (v : Int32) (hx : p.tables.exec = Jvm.exec) (hb : c.code = cc) (hdg : decode cc pc = .ok (.tableswitch dflt lo hi offs, len)) (hv : x = v)
    (h : (¬ v.toInt < lo) ∧ (¬ hi < v.toInt) ∧ offs[(v.toInt - lo).toNat]? = some off) (ht : (pc : Int) + off = (tgt : Int)) (k : W p l e R s m args below meth c H locs cells slots Q (F0 m tgt ls rest)) : W p l e R s m args below meth c H locs cells slots Q (F0 m pc ls (.int x :: rest)) := by
  subst hv
  exact lv_tableIn hx hb hdg h.1 h.2.1 h.2.2 ht k
theorem sw_def {dflt lo hi : Int} {offs : Array Int} {len : Nat} {x : Int32} {tgt : Nat} (hd : List Int32) (hx : p.tables.exec = Jvm.exec) (hb : c.code = cc) (hdg : decode cc pc = .ok (.tableswitch dflt lo hi offs, len)) (hne : ∀ v ∈ hd, ¬ x = v)
    (hall : ∀ j, j < (hi - lo + 1).toNat → Int32.ofInt (lo + (j : Int)) ∈ hd ∨ offs[j]? = some dflt) (ht : (pc : Int) + dflt = (tgt : Int)) (k : W p l e R s m args below meth c H locs cells slots Q (F0 m tgt ls rest)) : W p l e R s m args below meth c H locs cells slots Q (F0 m pc ls (.int x :: rest)) := by
  by_cases h : x.toInt < lo ∨ hi < x.toInt
  · exact lv_tableOut hx hb hdg h ht k
  · have h1 : ¬ x.toInt < lo := fun z => h (Or.inl z)
    have h2 : ¬ hi < x.toInt := fun z => h (Or.inr z)
    have h3 : (lo + ((x.toInt - lo).toNat : Int)) = x.toInt := by omega
    rcases hall (x.toInt - lo).toNat (by omega) with h4 | h4
    · rw [h3, Int32.ofInt_toInt] at h4
      exact absurd rfl (hne x h4)
    · exact lv_tableIn hx hb hdg h1 h2 h4 ht k
theorem sw_lin {dflt : Int} {ps : Array (Int × Int)} {len : Nat} {x : Int32} {off : Int} {tgt : Nat} (v : Int32) (hx : p.tables.exec = Jvm.exec) (hb : c.code = cc) (hdg : decode cc pc = .ok (.lookupswitch dflt ps, len)) (hv : x = v)
    (h : (ps.toList.zip (ps.toList.drop 1)).all (fun (a, next) => a.1 < next.1) = true ∧ Op.lookupswitch.offset ps.toList dflt v.toInt = off) (ht : (pc : Int) + off = (tgt : Int)) (k : W p l e R s m args below meth c H locs cells slots Q (F0 m tgt ls rest)) : W p l e R s m args below meth c H locs cells slots Q (F0 m pc ls (.int x :: rest)) := by
  subst hv
  exact lv_lookup hx hb hdg h.1 h.2 ht k
theorem sw_off {ls : List (Int × Int)} {dflt : Int} {x : Int32} (h : ∀ q ∈ ls, ¬ x = Int32.ofInt q.1 ∨ ¬ x.toInt = q.1) : Op.lookupswitch.offset ls dflt x.toInt = dflt := by
  induction ls with
  | nil => rfl
  | cons a t ih =>
    obtain ⟨a1, a2⟩ := a
    rw [Op.lookupswitch.offset_cons, if_neg ?_]
    · exact ih (fun q hq => h q (List.mem_cons_of_mem _ hq))
    · intro e1
      rcases h (a1, a2) List.mem_cons_self with h1 | h1
      · exact h1 (by show x = Int32.ofInt a1; rw [e1, Int32.ofInt_toInt])
      · exact h1 e1.symm
theorem sw_ldf {dflt : Int} {ps : Array (Int × Int)} {len : Nat} {x : Int32} {tgt : Nat} (hd : List Int32) (hx : p.tables.exec = Jvm.exec) (hb : c.code = cc) (hdg : decode cc pc = .ok (.lookupswitch dflt ps, len)) (hne : ∀ v ∈ hd, ¬ x = v)
    (h : (ps.toList.zip (ps.toList.drop 1)).all (fun (a, next) => a.1 < next.1) = true ∧ ∀ q ∈ ps.toList, Int32.ofInt q.1 ∈ hd) (ht : (pc : Int) + dflt = (tgt : Int)) (k : W p l e R s m args below meth c H locs cells slots Q (F0 m tgt ls rest)) : W p l e R s m args below meth c H locs cells slots Q (F0 m pc ls (.int x :: rest)) :=
  lv_lookup hx hb hdg h.1 (sw_off (fun q hq => Or.inl (hne _ (h.2 q hq)))) ht k
end SW
end
section
theorem cs_L_100 : g_site RL RX7 100 yX7_start cX7_start 2 none 1 := ⟨km_L_100, ki_X7_start, ks_X7_start, kn_X7, kc_X7_start, by decide⟩
theorem cs_L_15 : g_site RL RX6 15 yX6_cpu cX6_cpu 2 (some .int) 1 := ⟨km_L_15, ki_X6_cpu, ks_X6_cpu, kn_X6, kc_X6_cpu, by decide⟩
theorem cs_L_21 : g_site RL RX6 21 yX6_set cX6_set 3 none 2 := ⟨km_L_21, ki_X6_set, ks_X6_set, kn_X6, kc_X6_set, by decide⟩
theorem cs_L_24 : g_site RL RX6 24 yX6_key cX6_key 3 none 2 := ⟨km_L_24, ki_X6_key, ks_X6_key, kn_X6, kc_X6_key, by decide⟩
theorem cs_L_28 : g_site RL RX6 28 yX6_run cX6_run 5 (some .int) 1 := ⟨km_L_28, ki_X6_run, ks_X6_run, kn_X6, kc_X6_run, by decide⟩
theorem cs_L_31 : g_site RL RX6 31 yX6_video cX6_video 2 (some .int) 1 := ⟨km_L_31, ki_X6_video, ks_X6_video, kn_X6, kc_X6_video, by decide⟩
theorem cs_L_34 : g_site RL RX6 34 yX6_shown cX6_shown 3 (some .int) 2 := ⟨km_L_34, ki_X6_shown, ks_X6_shown, kn_X6, kc_X6_shown, by decide⟩
theorem cs_L_38 : g_site RL RX6 38 yX6_chip cX6_chip 4 (some .int) 1 := ⟨km_L_38, ki_X6_chip, ks_X6_chip, kn_X6, kc_X6_chip, by decide⟩
theorem cs_L_45 : g_site RL RX6 45 yX6_v cX6_v 2 (some .int) 1 := ⟨km_L_45, ki_X6_v, ks_X6_v, kn_X6, kc_X6_v, by decide⟩
theorem cs_L_48 : g_site RL RX6 48 yX6_start cX6_start 2 none 1 := ⟨km_L_48, ki_X6_start, ks_X6_start, kn_X6, kc_X6_start, by decide⟩
theorem cs_L_61 : g_site RL RX7 61 yX7_poke cX7_poke 3 none 2 := ⟨km_L_61, ki_X7_poke, ks_X7_poke, kn_X7, kc_X7_poke, by decide⟩
theorem cs_L_62 : g_site RL RX7 62 yX7_thrown cX7_thrown 1 (some .int) 0 := ⟨km_L_62, ki_X7_thrown, ks_X7_thrown, kn_X7, kc_X7_thrown, by decide⟩
theorem cs_L_66 : g_site RL RX6 66 yX6_peek cX6_peek 2 (some .int) 1 := ⟨km_L_66, ki_X6_peek, ks_X6_peek, kn_X6, kc_X6_peek, by decide⟩
theorem cs_L_69 : g_site RL RX7 69 yX7_peek cX7_peek 2 (some .int) 1 := ⟨km_L_69, ki_X7_peek, ks_X7_peek, kn_X7, kc_X7_peek, by decide⟩
theorem cs_L_7 : g_site RL RX6 7 yX6_poke cX6_poke 3 none 2 := ⟨km_L_7, ki_X6_poke, ks_X6_poke, kn_X6, kc_X6_poke, by decide⟩
theorem cs_L_73 : g_site RL RX7 73 yX7_cpu cX7_cpu 2 (some .int) 1 := ⟨km_L_73, ki_X7_cpu, ks_X7_cpu, kn_X7, kc_X7_cpu, by decide⟩
theorem cs_L_76 : g_site RL RX7 76 yX7_set cX7_set 4 none 2 := ⟨km_L_76, ki_X7_set, ks_X7_set, kn_X7, kc_X7_set, by decide⟩
theorem cs_L_80 : g_site RL RX7 80 yX7_key cX7_key 3 none 2 := ⟨km_L_80, ki_X7_key, ks_X7_key, kn_X7, kc_X7_key, by decide⟩
theorem cs_L_83 : g_site RL RX7 83 yX7_run cX7_run 5 (some .int) 1 := ⟨km_L_83, ki_X7_run, ks_X7_run, kn_X7, kc_X7_run, by decide⟩
theorem cs_L_86 : g_site RL RX7 86 yX7_video cX7_video 2 (some .int) 1 := ⟨km_L_86, ki_X7_video, ks_X7_video, kn_X7, kc_X7_video, by decide⟩
theorem cs_L_90 : g_site RL RX7 90 yX7_shown cX7_shown 3 (some .int) 2 := ⟨km_L_90, ki_X7_shown, ks_X7_shown, kn_X7, kc_X7_shown, by decide⟩
theorem cs_L_93 : g_site RL RX7 93 yX7_chip cX7_chip 4 (some .int) 1 := ⟨km_L_93, ki_X7_chip, ks_X7_chip, kn_X7, kc_X7_chip, by decide⟩
theorem cs_L_96 : g_site RL RX7 96 yX7_v cX7_v 2 (some .int) 1 := ⟨km_L_96, ki_X7_v, ks_X7_v, kn_X7, kc_X7_v, by decide⟩
theorem cs_X1_102 : g_site RX1 RX1 102 yX1_clear cX1_clear 2 none 0 := ⟨km_X1_102, ki_X1_clear, ks_X1_clear, kn_X1, kc_X1_clear, by decide⟩
theorem cs_X1_105 : g_site RX1 RX1 105 yX1_leave cX1_leave 1 (some .int) 0 := ⟨km_X1_105, ki_X1_leave, ks_X1_leave, kn_X1, kc_X1_leave, by decide⟩
theorem cs_X1_109 : g_site RX1 RX2 109 yX2_write cX2_write 3 none 2 := ⟨km_X1_109, ki_X2_write, ks_X2_write, kn_X2, kc_X2_write, by decide⟩
theorem cs_X1_112 : g_site RX1 RX1 112 yX1_putWithFlag cX1_putWithFlag 4 (some .int) 3 := ⟨km_X1_112, ki_X1_putWithFlag, ks_X1_putWithFlag, kn_X1, kc_X1_putWithFlag, by decide⟩
theorem cs_X1_116 : g_site RX1 RX5 116 yX5_delay cX5_delay 1 (some .int) 0 := ⟨km_X1_116, ki_X5_delay, ks_X5_delay, kn_X5, kc_X5_delay, by decide⟩
theorem cs_X1_121 : g_site RX1 RX1 121 yX1_takeKey cX1_takeKey 3 (some .int) 1 := ⟨km_X1_121, ki_X1_takeKey, ks_X1_takeKey, kn_X1, kc_X1_takeKey, by decide⟩
theorem cs_X1_124 : g_site RX1 RX5 124 yX5_setDelay cX5_setDelay 2 none 1 := ⟨km_X1_124, ki_X5_setDelay, ks_X5_setDelay, kn_X5, kc_X5_setDelay, by decide⟩
theorem cs_X1_127 : g_site RX1 RX5 127 yX5_setTone cX5_setTone 2 none 1 := ⟨km_X1_127, ki_X5_setTone, ks_X5_setTone, kn_X5, kc_X5_setTone, by decide⟩
theorem cs_X1_130 : g_site RX1 RX0 130 yX0_least cX0_least 2 (some .int) 0 := ⟨km_X1_130, ki_X0_least, ks_X0_least, kn_X0, kc_X0_least, by decide⟩
theorem cs_X1_133 : g_site RX1 RX1 133 yX1_putDigits cX1_putDigits 2 none 1 := ⟨km_X1_133, ki_X1_putDigits, ks_X1_putDigits, kn_X1, kc_X1_putDigits, by decide⟩
theorem cs_X1_136 : g_site RX1 RX1 136 yX1_saveVariables cX1_saveVariables 3 none 1 := ⟨km_X1_136, ki_X1_saveVariables, ks_X1_saveVariables, kn_X1, kc_X1_saveVariables, by decide⟩
theorem cs_X1_139 : g_site RX1 RX1 139 yX1_loadVariables cX1_loadVariables 3 none 1 := ⟨km_X1_139, ki_X1_loadVariables, ks_X1_loadVariables, kn_X1, kc_X1_loadVariables, by decide⟩
theorem cs_X1_142 : g_site RX1 RX2 142 yX2_read cX2_read 2 (some .int) 1 := ⟨km_X1_142, ki_X2_read, ks_X2_read, kn_X2, kc_X2_read, by decide⟩
theorem cs_X1_145 : g_site RX1 RX1 145 yX1_drawByte cX1_drawByte 7 (some .boolean) 3 := ⟨km_X1_145, ki_X1_drawByte, ks_X1_drawByte, kn_X1, kc_X1_drawByte, by decide⟩
theorem cs_X1_149 : g_site RX1 RX1 149 yX1_flip cX1_flip 4 (some .boolean) 2 := ⟨km_X1_149, ki_X1_flip, ks_X1_flip, kn_X1, kc_X1_flip, by decide⟩
theorem cs_X1_41 : g_site RX1 RX1 41 yX1_variable cX1_variable 2 (some .int) 1 := ⟨km_X1_41, ki_X1_variable, ks_X1_variable, kn_X1, kc_X1_variable, by decide⟩
theorem cs_X1_45 : g_site RX1 RX2 45 yX2_pair cX2_pair 2 (some .int) 1 := ⟨km_X1_45, ki_X2_pair, ks_X2_pair, kn_X2, kc_X2_pair, by decide⟩
theorem cs_X1_50 : g_site RX1 RX1 50 yX1_jump cX1_jump 2 none 1 := ⟨km_X1_50, ki_X1_jump, ks_X1_jump, kn_X1, kc_X1_jump, by decide⟩
theorem cs_X1_54 : g_site RX1 RX1 54 yX1_execute cX1_execute 5 (some .int) 1 := ⟨km_X1_54, ki_X1_execute, ks_X1_execute, kn_X1, kc_X1_execute, by decide⟩
theorem cs_X1_57 : g_site RX1 RX1 57 yX1_clearOrLeave cX1_clearOrLeave 2 (some .int) 1 := ⟨km_X1_57, ki_X1_clearOrLeave, ks_X1_clearOrLeave, kn_X1, kc_X1_clearOrLeave, by decide⟩
theorem cs_X1_60 : g_site RX1 RX1 60 yX1_enter cX1_enter 2 (some .int) 1 := ⟨km_X1_60, ki_X1_enter, ks_X1_enter, kn_X1, kc_X1_enter, by decide⟩
theorem cs_X1_63 : g_site RX1 RX1 63 yX1_skipIf cX1_skipIf 2 (some .int) 1 := ⟨km_X1_63, ki_X1_skipIf, ks_X1_skipIf, kn_X1, kc_X1_skipIf, by decide⟩
theorem cs_X1_67 : g_site RX1 RX1 67 yX1_compare cX1_compare 3 (some .int) 2 := ⟨km_X1_67, ki_X1_compare, ks_X1_compare, kn_X1, kc_X1_compare, by decide⟩
theorem cs_X1_71 : g_site RX1 RX1 71 yX1_putVariable cX1_putVariable 3 none 2 := ⟨km_X1_71, ki_X1_putVariable, ks_X1_putVariable, kn_X1, kc_X1_putVariable, by decide⟩
theorem cs_X1_75 : g_site RX1 RX1 75 yX1_combine cX1_combine 5 (some .int) 3 := ⟨km_X1_75, ki_X1_combine, ks_X1_combine, kn_X1, kc_X1_combine, by decide⟩
theorem cs_X1_79 : g_site RX1 RX1 79 yX1_putIndex cX1_putIndex 2 none 1 := ⟨km_X1_79, ki_X1_putIndex, ks_X1_putIndex, kn_X1, kc_X1_putIndex, by decide⟩
theorem cs_X1_82 : g_site RX1 RX1 82 yX1_draw cX1_draw 8 none 3 := ⟨km_X1_82, ki_X1_draw, ks_X1_draw, kn_X1, kc_X1_draw, by decide⟩
theorem cs_X1_86 : g_site RX1 RX0 86 yX0_isDown cX0_isDown 2 (some .boolean) 1 := ⟨km_X1_86, ki_X0_isDown, ks_X0_isDown, kn_X0, kc_X0_isDown, by decide⟩
theorem cs_X1_92 : g_site RX1 RX1 92 yX1_skipByKey cX1_skipByKey 3 (some .int) 2 := ⟨km_X1_92, ki_X1_skipByKey, ks_X1_skipByKey, kn_X1, kc_X1_skipByKey, by decide⟩
theorem cs_X1_95 : g_site RX1 RX1 95 yX1_executeStore cX1_executeStore 3 (some .int) 2 := ⟨km_X1_95, ki_X1_executeStore, ks_X1_executeStore, kn_X1, kc_X1_executeStore, by decide⟩
theorem cs_X1_99 : g_site RX1 RX1 99 yX1_executeSystem cX1_executeSystem 3 (some .int) 2 := ⟨km_X1_99, ki_X1_executeSystem, ks_X1_executeSystem, kn_X1, kc_X1_executeSystem, by decide⟩
theorem cs_X2_13 : g_site RX2 RX2 13 yX2_read cX2_read 2 (some .int) 1 := ⟨km_X2_13, ki_X2_read, ks_X2_read, kn_X2, kc_X2_read, by decide⟩
theorem cs_X3_31 : g_site RX3 RX3 31 yX3_flag cX3_flag 1 (some .boolean) 0 := ⟨km_X3_31, ki_X3_flag, ks_X3_flag, kn_X3, kc_X3_flag, by decide⟩
theorem cs_X3_35 : g_site RX3 RX3 35 yX3_endLine cX3_endLine 1 none 0 := ⟨km_X3_35, ki_X3_endLine, ks_X3_endLine, kn_X3, kc_X3_endLine, by decide⟩
theorem cs_X3_44 : g_site RX3 RX5 44 yX5_fall cX5_fall 1 none 0 := ⟨km_X3_44, ki_X5_fall, ks_X5_fall, kn_X5, kc_X5_fall, by decide⟩
theorem cs_X3_49 : g_site RX3 RX3 49 yX3_isShownLine cX3_isShownLine 1 (some .boolean) 0 := ⟨km_X3_49, ki_X3_isShownLine, ks_X3_isShownLine, kn_X3, kc_X3_isShownLine, by decide⟩
theorem cs_X3_52 : g_siteS RX3 52 yX3_spot cX3_spot 2 (some .int) 2 := ⟨km_X3_52, kt_X3_spot, kn_X3, kc_X3_spot, by decide⟩
theorem cs_X4_100 : g_site RX4 RX4 100 yX4_calculate cX4_calculate 2 none 1 := ⟨km_X4_100, ki_X4_calculate, ks_X4_calculate, kn_X4, kc_X4_calculate, by decide⟩
theorem cs_X4_103 : g_site RX4 RX4 103 yX4_at cX4_at 2 (some .int) 1 := ⟨km_X4_103, ki_X4_at, ks_X4_at, kn_X4, kc_X4_at, by decide⟩
theorem cs_X4_106 : g_site RX4 RX4 106 yX4_holds cX4_holds 3 (some .boolean) 1 := ⟨km_X4_106, ki_X4_holds, ks_X4_holds, kn_X4, kc_X4_holds, by decide⟩
theorem cs_X4_110 : g_site RX4 RX3 110 yX3_flag cX3_flag 1 (some .boolean) 0 := ⟨km_X4_110, ki_X3_flag, ks_X3_flag, kn_X3, kc_X3_flag, by decide⟩
theorem cs_X4_116 : g_site RX4 RX0 116 yX0_askedIsDown cX0_askedIsDown 1 (some .boolean) 0 := ⟨km_X4_116, ki_X0_askedIsDown, ks_X0_askedIsDown, kn_X0, kc_X0_askedIsDown, by decide⟩
theorem cs_X4_121 : g_site RX4 RX4 121 yX4_output cX4_output 3 none 2 := ⟨km_X4_121, ki_X4_output, ks_X4_output, kn_X4, kc_X4_output, by decide⟩
theorem cs_X4_124 : g_site RX4 RX3 124 yX3_switchTo cX3_switchTo 2 none 1 := ⟨km_X4_124, ki_X3_switchTo, ks_X3_switchTo, kn_X3, kc_X3_switchTo, by decide⟩
theorem cs_X4_128 : g_site RX4 RX0 128 yX0_ask cX0_ask 2 none 1 := ⟨km_X4_128, ki_X0_ask, ks_X0_ask, kn_X0, kc_X0_ask, by decide⟩
theorem cs_X4_131 : g_site RX4 RX4 131 yX4_resume cX4_resume 3 none 1 := ⟨km_X4_131, ki_X4_resume, ks_X4_resume, kn_X4, kc_X4_resume, by decide⟩
theorem cs_X4_134 : g_site RX4 RX4 134 yX4_shiftRight cX4_shiftRight 3 none 1 := ⟨km_X4_134, ki_X4_shiftRight, ks_X4_shiftRight, kn_X4, kc_X4_shiftRight, by decide⟩
theorem cs_X4_137 : g_site RX4 RX4 137 yX4_mark cX4_mark 1 none 0 := ⟨km_X4_137, ki_X4_mark, ks_X4_mark, kn_X4, kc_X4_mark, by decide⟩
theorem cs_X4_140 : g_site RX4 RX4 140 yX4_shiftLeft cX4_shiftLeft 3 none 1 := ⟨km_X4_140, ki_X4_shiftLeft, ks_X4_shiftLeft, kn_X4, kc_X4_shiftLeft, by decide⟩
theorem cs_X4_143 : g_site RX4 RX4 143 yX4_operand cX4_operand 2 (some .int) 1 := ⟨km_X4_143, ki_X4_operand, ks_X4_operand, kn_X4, kc_X4_operand, by decide⟩
theorem cs_X4_146 : g_site RX4 RX4 146 yX4_combine cX4_combine 5 none 4 := ⟨km_X4_146, ki_X4_combine, ks_X4_combine, kn_X4, kc_X4_combine, by decide⟩
theorem cs_X4_150 : g_site RX4 RX4 150 yX4_branchFar cX4_branchFar 2 none 1 := ⟨km_X4_150, ki_X4_branchFar, ks_X4_branchFar, kn_X4, kc_X4_branchFar, by decide⟩
theorem cs_X4_153 : g_site RX4 RX4 153 yX4_skips cX4_skips 2 (some .boolean) 1 := ⟨km_X4_153, ki_X4_skips, ks_X4_skips, kn_X4, kc_X4_skips, by decide⟩
theorem cs_X4_156 : g_site RX4 RX2 156 yX2_pair cX2_pair 2 (some .int) 1 := ⟨km_X4_156, ki_X2_pair, ks_X2_pair, kn_X2, kc_X2_pair, by decide⟩
theorem cs_X4_159 : g_site RX4 RX4 159 yX4_add cX4_add 4 none 2 := ⟨km_X4_159, ki_X4_add, ks_X4_add, kn_X4, kc_X4_add, by decide⟩
theorem cs_X4_162 : g_site RX4 RX4 162 yX4_subtract cX4_subtract 5 none 3 := ⟨km_X4_162, ki_X4_subtract, ks_X4_subtract, kn_X4, kc_X4_subtract, by decide⟩
theorem cs_X4_51 : g_site RX4 RX4 51 yX4_register cX4_register 2 (some .int) 1 := ⟨km_X4_51, ki_X4_register, ks_X4_register, kn_X4, kc_X4_register, by decide⟩
theorem cs_X4_56 : g_site RX4 RX4 56 yX4_putRegister cX4_putRegister 3 none 2 := ⟨km_X4_56, ki_X4_putRegister, ks_X4_putRegister, kn_X4, kc_X4_putRegister, by decide⟩
theorem cs_X4_60 : g_site RX4 RX4 60 yX4_wake cX4_wake 1 none 0 := ⟨km_X4_60, ki_X4_wake, ks_X4_wake, kn_X4, kc_X4_wake, by decide⟩
theorem cs_X4_63 : g_site RX4 RX4 63 yX4_take cX4_take 3 (some .int) 1 := ⟨km_X4_63, ki_X4_take, ks_X4_take, kn_X4, kc_X4_take, by decide⟩
theorem cs_X4_66 : g_site RX4 RX4 66 yX4_execute cX4_execute 3 none 2 := ⟨km_X4_66, ki_X4_execute, ks_X4_execute, kn_X4, kc_X4_execute, by decide⟩
theorem cs_X4_69 : g_site RX4 RX2 69 yX2_read cX2_read 2 (some .int) 1 := ⟨km_X4_69, ki_X2_read, ks_X2_read, kn_X2, kc_X2_read, by decide⟩
theorem cs_X4_74 : g_site RX4 RX2 74 yX2_write cX2_write 3 none 2 := ⟨km_X4_74, ki_X2_write, ks_X2_write, kn_X2, kc_X2_write, by decide⟩
theorem cs_X4_77 : g_site RX4 RX4 77 yX4_loadOrIdle cX4_loadOrIdle 2 none 1 := ⟨km_X4_77, ki_X4_loadOrIdle, ks_X4_loadOrIdle, kn_X4, kc_X4_loadOrIdle, by decide⟩
theorem cs_X4_81 : g_site RX4 RX4 81 yX4_grow cX4_grow 3 none 2 := ⟨km_X4_81, ki_X4_grow, ks_X4_grow, kn_X4, kc_X4_grow, by decide⟩
theorem cs_X4_84 : g_site RX4 RX4 84 yX4_branch cX4_branch 2 none 1 := ⟨km_X4_84, ki_X4_branch, ks_X4_branch, kn_X4, kc_X4_branch, by decide⟩
theorem cs_X4_87 : g_site RX4 RX4 87 yX4_putAt cX4_putAt 3 none 2 := ⟨km_X4_87, ki_X4_putAt, ks_X4_putAt, kn_X4, kc_X4_putAt, by decide⟩
theorem cs_X4_90 : g_site RX4 RX4 90 yX4_transfer cX4_transfer 2 none 1 := ⟨km_X4_90, ki_X4_transfer, ks_X4_transfer, kn_X4, kc_X4_transfer, by decide⟩
theorem cs_X4_93 : g_site RX4 RX4 93 yX4_control cX4_control 2 none 1 := ⟨km_X4_93, ki_X4_control, ks_X4_control, kn_X4, kc_X4_control, by decide⟩
theorem cs_X4_97 : g_site RX4 RX4 97 yX4_goFar cX4_goFar 2 none 1 := ⟨km_X4_97, ki_X4_goFar, ks_X4_goFar, kn_X4, kc_X4_goFar, by decide⟩
theorem cs_X6_100 : g_site RX6 RX4 100 yX4_act cX4_act 2 (some .int) 0 := ⟨km_X6_100, ki_X4_act, ks_X4_act, kn_X4, kc_X4_act, by decide⟩
theorem cs_X6_104 : g_site RX6 RX3 104 yX3_pass cX3_pass 2 none 1 := ⟨km_X6_104, ki_X3_pass, ks_X3_pass, kn_X3, kc_X3_pass, by decide⟩
theorem cs_X6_108 : g_site RX6 RX6 108 yX6_letVideoAct cX6_letVideoAct 1 (some .int) 0 := ⟨km_X6_108, ki_X6_letVideoAct, ks_X6_letVideoAct, kn_X6, kc_X6_letVideoAct, by decide⟩
theorem cs_X6_113 : g_site RX6 RX0 113 yX0_asked cX0_asked 1 (some .int) 0 := ⟨km_X6_113, ki_X0_asked, ks_X0_asked, kn_X0, kc_X0_asked, by decide⟩
theorem cs_X6_116 : g_site RX6 RX3 116 yX3_part cX3_part 2 (some .int) 1 := ⟨km_X6_116, ki_X3_part, ks_X3_part, kn_X3, kc_X3_part, by decide⟩
theorem cs_X6_121 : g_site RX6 RX3 121 yX3_fetchedByte cX3_fetchedByte 3 (some .int) 2 := ⟨km_X6_121, ki_X3_fetchedByte, ks_X3_fetchedByte, kn_X3, kc_X3_fetchedByte, by decide⟩
theorem cs_X6_127 : g_site RX6 RX1 127 yX1_step cX1_step 4 (some .int) 0 := ⟨km_X6_127, ki_X1_step, ks_X1_step, kn_X1, kc_X1_step, by decide⟩
theorem cs_X6_142 : g_site RX6 RX5 142 yX5_delay cX5_delay 1 (some .int) 0 := ⟨km_X6_142, ki_X5_delay, ks_X5_delay, kn_X5, kc_X5_delay, by decide⟩
theorem cs_X6_145 : g_site RX6 RX5 145 yX5_tone cX5_tone 1 (some .int) 0 := ⟨km_X6_145, ki_X5_tone, ks_X5_tone, kn_X5, kc_X5_tone, by decide⟩
theorem cs_X6_148 : g_site RX6 RX1 148 yX1_part cX1_part 2 (some .int) 1 := ⟨km_X6_148, ki_X1_part, ks_X1_part, kn_X1, kc_X1_part, by decide⟩
theorem cs_X6_151 : g_site RX6 RX1 151 yX1_restart cX1_restart 2 none 1 := ⟨km_X6_151, ki_X1_restart, ks_X1_restart, kn_X1, kc_X1_restart, by decide⟩
theorem cs_X6_154 : g_site RX6 RX3 154 yX3_rowIsDue cX3_rowIsDue 1 (some .boolean) 0 := ⟨km_X6_154, ki_X3_rowIsDue, ks_X3_rowIsDue, kn_X3, kc_X3_rowIsDue, by decide⟩
theorem cs_X6_158 : g_site RX6 RX6 158 yX6_fetchRow cX6_fetchRow 2 none 0 := ⟨km_X6_158, ki_X6_fetchRow, ks_X6_fetchRow, kn_X6, kc_X6_fetchRow, by decide⟩
theorem cs_X6_161 : g_site RX6 RX3 161 yX3_interruptIsDue cX3_interruptIsDue 1 (some .boolean) 0 := ⟨km_X6_161, ki_X3_interruptIsDue, ks_X3_interruptIsDue, kn_X3, kc_X3_interruptIsDue, by decide⟩
theorem cs_X6_164 : g_site RX6 RX4 164 yX4_allowsInterrupt cX4_allowsInterrupt 1 (some .boolean) 0 := ⟨km_X6_164, ki_X4_allowsInterrupt, ks_X4_allowsInterrupt, kn_X4, kc_X4_allowsInterrupt, by decide⟩
theorem cs_X6_167 : g_site RX6 RX4 167 yX4_interrupt cX4_interrupt 1 none 0 := ⟨km_X6_167, ki_X4_interrupt, ks_X4_interrupt, kn_X4, kc_X4_interrupt, by decide⟩
theorem cs_X6_170 : g_site RX6 RX3 170 yX3_noteInterrupt cX3_noteInterrupt 1 none 0 := ⟨km_X6_170, ki_X3_noteInterrupt, ks_X3_noteInterrupt, kn_X3, kc_X3_noteInterrupt, by decide⟩
theorem cs_X6_173 : g_site RX6 RX4 173 yX4_takeByte cX4_takeByte 1 (some .int) 0 := ⟨km_X6_173, ki_X4_takeByte, ks_X4_takeByte, kn_X4, kc_X4_takeByte, by decide⟩
theorem cs_X6_176 : g_site RX6 RX3 176 yX3_keep cX3_keep 3 none 2 := ⟨km_X6_176, ki_X3_keep, ks_X3_keep, kn_X3, kc_X3_keep, by decide⟩
theorem cs_X6_179 : g_site RX6 RX3 179 yX3_noteFetch cX3_noteFetch 1 none 0 := ⟨km_X6_179, ki_X3_noteFetch, ks_X3_noteFetch, kn_X3, kc_X3_noteFetch, by decide⟩
theorem cs_X6_182 : g_site RX6 RX4 182 yX4_wake cX4_wake 1 none 0 := ⟨km_X6_182, ki_X4_wake, ks_X4_wake, kn_X4, kc_X4_wake, by decide⟩
theorem cs_X6_66 : g_site RX6 RX2 66 yX2_write cX2_write 3 none 2 := ⟨km_X6_66, ki_X2_write, ks_X2_write, kn_X2, kc_X2_write, by decide⟩
theorem cs_X6_70 : g_site RX6 RX2 70 yX2_read cX2_read 2 (some .int) 1 := ⟨km_X6_70, ki_X2_read, ks_X2_read, kn_X2, kc_X2_read, by decide⟩
theorem cs_X6_79 : g_site RX6 RX4 79 yX4_part cX4_part 2 (some .int) 1 := ⟨km_X6_79, ki_X4_part, ks_X4_part, kn_X4, kc_X4_part, by decide⟩
theorem cs_X6_84 : g_siteS RX6 84 yX4_mostOf cX4_mostOf 1 (some .int) 1 := ⟨km_X6_84, kt_X4_mostOf, kn_X4, kc_X4_mostOf, by decide⟩
theorem cs_X6_89 : g_site RX6 RX4 89 yX4_change cX4_change 3 none 2 := ⟨km_X6_89, ki_X4_change, ks_X4_change, kn_X4, kc_X4_change, by decide⟩
theorem cs_X6_94 : g_site RX6 RX0 94 yX0_move cX0_move 3 none 2 := ⟨km_X6_94, ki_X0_move, ks_X0_move, kn_X0, kc_X0_move, by decide⟩
theorem cs_X7_102 : g_site RX7 RX7 102 yX7_sumOn cX7_sumOn 3 none 1 := ⟨km_X7_102, ki_X7_sumOn, ks_X7_sumOn, kn_X7, kc_X7_sumOn, by decide⟩
theorem cs_X7_105 : g_site RX7 RX7 105 yX7_less cX7_less 5 none 3 := ⟨km_X7_105, ki_X7_less, ks_X7_less, kn_X7, kc_X7_less, by decide⟩
theorem cs_X7_109 : g_site RX7 RX7 109 yX7_sum cX7_sum 3 none 2 := ⟨km_X7_109, ki_X7_sum, ks_X7_sum, kn_X7, kc_X7_sum, by decide⟩
theorem cs_X7_112 : g_site RX7 RX7 112 yX7_branch cX7_branch 3 none 1 := ⟨km_X7_112, ki_X7_branch, ks_X7_branch, kn_X7, kc_X7_branch, by decide⟩
theorem cs_X7_115 : g_site RX7 RX7 115 yX7_port cX7_port 2 none 1 := ⟨km_X7_115, ki_X7_port, ks_X7_port, kn_X7, kc_X7_port, by decide⟩
theorem cs_X7_118 : g_site RX7 RX7 118 yX7_seven cX7_seven 2 none 1 := ⟨km_X7_118, ki_X7_seven, ks_X7_seven, kn_X7, kc_X7_seven, by decide⟩
theorem cs_X7_121 : g_site RX7 RX7 121 yX7_wide cX7_wide 3 none 1 := ⟨km_X7_121, ki_X7_wide, ks_X7_wide, kn_X7, kc_X7_wide, by decide⟩
theorem cs_X7_124 : g_site RX7 RX7 124 yX7_reckon cX7_reckon 3 none 1 := ⟨km_X7_124, ki_X7_reckon, ks_X7_reckon, kn_X7, kc_X7_reckon, by decide⟩
theorem cs_X7_127 : g_site RX7 RX7 127 yX7_moves cX7_moves 3 none 2 := ⟨km_X7_127, ki_X7_moves, ks_X7_moves, kn_X7, kc_X7_moves, by decide⟩
theorem cs_X7_142 : g_site RX7 RX7 142 yX7_cycle cX7_cycle 1 none 0 := ⟨km_X7_142, ki_X7_cycle, ks_X7_cycle, kn_X7, kc_X7_cycle, by decide⟩
theorem cs_X7_145 : g_site RX7 RX7 145 yX7_instruction cX7_instruction 4 (some .int) 0 := ⟨km_X7_145, ki_X7_instruction, ks_X7_instruction, kn_X7, kc_X7_instruction, by decide⟩
theorem cs_X7_148 : g_site RX7 RX7 148 yX7_cycles cX7_cycles 3 none 1 := ⟨km_X7_148, ki_X7_cycles, ks_X7_cycles, kn_X7, kc_X7_cycles, by decide⟩
theorem cs_X7_151 : g_site RX7 RX7 151 yX7_behindOne cX7_behindOne 2 (some .int) 0 := ⟨km_X7_151, ki_X7_behindOne, ks_X7_behindOne, kn_X7, kc_X7_behindOne, by decide⟩
theorem cs_X7_154 : g_site RX7 RX7 154 yX7_goesOn cX7_goesOn 2 none 1 := ⟨km_X7_154, ki_X7_goesOn, ks_X7_goesOn, kn_X7, kc_X7_goesOn, by decide⟩
theorem cs_X7_158 : g_site RX7 RX7 158 yX7_leastKey cX7_leastKey 2 (some .int) 0 := ⟨km_X7_158, ki_X7_leastKey, ks_X7_leastKey, kn_X7, kc_X7_leastKey, by decide⟩
theorem cs_X7_161 : g_site RX7 RX7 161 yX7_rows cX7_rows 4 none 2 := ⟨km_X7_161, ki_X7_rows, ks_X7_rows, kn_X7, kc_X7_rows, by decide⟩
theorem cs_X7_165 : g_site RX7 RX7 165 yX7_zero cX7_zero 3 (some .int) 1 := ⟨km_X7_165, ki_X7_zero, ks_X7_zero, kn_X7, kc_X7_zero, by decide⟩
theorem cs_X7_168 : g_site RX7 RX7 168 yX7_call cX7_call 2 (some .int) 1 := ⟨km_X7_168, ki_X7_call, ks_X7_call, kn_X7, kc_X7_call, by decide⟩
theorem cs_X7_171 : g_site RX7 RX7 171 yX7_compared cX7_compared 5 (some .int) 4 := ⟨km_X7_171, ki_X7_compared, ks_X7_compared, kn_X7, kc_X7_compared, by decide⟩
theorem cs_X7_175 : g_site RX7 RX7 175 yX7_eight cX7_eight 7 (some .int) 3 := ⟨km_X7_175, ki_X7_eight, ks_X7_eight, kn_X7, kc_X7_eight, by decide⟩
theorem cs_X7_179 : g_site RX7 RX7 179 yX7_keyed cX7_keyed 3 (some .int) 2 := ⟨km_X7_179, ki_X7_keyed, ks_X7_keyed, kn_X7, kc_X7_keyed, by decide⟩
theorem cs_X7_183 : g_site RX7 RX7 183 yX7_fifteen cX7_fifteen 4 (some .int) 2 := ⟨km_X7_183, ki_X7_fifteen, ks_X7_fifteen, kn_X7, kc_X7_fifteen, by decide⟩
theorem cs_X7_186 : g_site RX7 RX7 186 yX7_simple cX7_simple 4 none 1 := ⟨km_X7_186, ki_X7_simple, ks_X7_simple, kn_X7, kc_X7_simple, by decide⟩
theorem cs_X7_189 : g_site RX7 RX7 189 yX7_random cX7_random 3 (some .int) 2 := ⟨km_X7_189, ki_X7_random, ks_X7_random, kn_X7, kc_X7_random, by decide⟩
theorem cs_X7_192 : g_site RX7 RX7 192 yX7_draw cX7_draw 12 none 3 := ⟨km_X7_192, ki_X7_draw, ks_X7_draw, kn_X7, kc_X7_draw, by decide⟩
theorem cs_X7_195 : g_site RX7 RX7 195 yX7_step cX7_step 7 (some .int) 0 := ⟨km_X7_195, ki_X7_step, ks_X7_step, kn_X7, kc_X7_step, by decide⟩
theorem cs_X7_33 : g_siteS RX7 33 yX7_out cX7_out 2 (some .boolean) 2 := ⟨km_X7_33, kt_X7_out, kn_X7, kc_X7_out, by decide⟩
theorem cs_X7_37 : g_site RX7 RX7 37 yX7_fails cX7_fails 3 (some .boolean) 2 := ⟨km_X7_37, ki_X7_fails, ks_X7_fails, kn_X7, kc_X7_fails, by decide⟩
theorem cs_X7_43 : g_site RX7 RX7 43 yX7_byteAt cX7_byteAt 2 (some .int) 1 := ⟨km_X7_43, ki_X7_byteAt, ks_X7_byteAt, kn_X7, kc_X7_byteAt, by decide⟩
theorem cs_X7_47 : g_site RX7 RX7 47 yX7_m cX7_m 2 (some .int) 1 := ⟨km_X7_47, ki_X7_m, ks_X7_m, kn_X7, kc_X7_m, by decide⟩
theorem cs_X7_50 : g_site RX7 RX7 50 yX7_grow cX7_grow 3 none 2 := ⟨km_X7_50, ki_X7_grow, ks_X7_grow, kn_X7, kc_X7_grow, by decide⟩
theorem cs_X7_62 : g_site RX7 RX7 62 yX7_isLight cX7_isLight 1 (some .boolean) 0 := ⟨km_X7_62, ki_X7_isLight, ks_X7_isLight, kn_X7, kc_X7_isLight, by decide⟩
theorem cs_X7_69 : g_site RX7 RX7 69 yX7_isSo cX7_isSo 2 (some .boolean) 1 := ⟨km_X7_69, ki_X7_isSo, ks_X7_isSo, kn_X7, kc_X7_isSo, by decide⟩
theorem cs_X7_73 : g_site RX7 RX7 73 yX7_low cX7_low 3 none 2 := ⟨km_X7_73, ki_X7_low, ks_X7_low, kn_X7, kc_X7_low, by decide⟩
theorem cs_X7_76 : g_site RX7 RX7 76 yX7_skips cX7_skips 2 (some .boolean) 1 := ⟨km_X7_76, ki_X7_skips, ks_X7_skips, kn_X7, kc_X7_skips, by decide⟩
theorem cs_X7_79 : g_site RX7 RX7 79 yX7_store cX7_store 3 none 2 := ⟨km_X7_79, ki_X7_store, ks_X7_store, kn_X7, kc_X7_store, by decide⟩
theorem cs_X7_82 : g_site RX7 RX7 82 yX7_comeBack cX7_comeBack 3 none 1 := ⟨km_X7_82, ki_X7_comeBack, ks_X7_comeBack, kn_X7, kc_X7_comeBack, by decide⟩
theorem cs_X7_86 : g_site RX7 RX7 86 yX7_right cX7_right 3 none 1 := ⟨km_X7_86, ki_X7_right, ks_X7_right, kn_X7, kc_X7_right, by decide⟩
theorem cs_X7_89 : g_site RX7 RX7 89 yX7_mark cX7_mark 1 none 0 := ⟨km_X7_89, ki_X7_mark, ks_X7_mark, kn_X7, kc_X7_mark, by decide⟩
theorem cs_X7_92 : g_site RX7 RX7 92 yX7_left cX7_left 3 none 1 := ⟨km_X7_92, ki_X7_left, ks_X7_left, kn_X7, kc_X7_left, by decide⟩
theorem cs_X7_95 : g_site RX7 RX7 95 yX7_next cX7_next 2 (some .int) 0 := ⟨km_X7_95, ki_X7_next, ks_X7_next, kn_X7, kc_X7_next, by decide⟩
theorem cs_X7_99 : g_site RX7 RX7 99 yX7_carries cX7_carries 3 none 2 := ⟨km_X7_99, ki_X7_carries, ks_X7_carries, kn_X7, kc_X7_carries, by decide⟩
end
section
def f_X2_read (u : BS) (p0 : Int32) : Int32 :=
  (bq_mem u ((p0 &&& 2047)).toNatClampNeg)
set_option maxHeartbeats 4000000 in
set_option maxRecDepth 100000 in
theorem c_X2_read (l : Launch) (dC : Nat → ClassId) (dI : Nat → Nat → Nat) (cI cZ : ClassId) (x : Nat → Nat) (hi : g_inj 13 x) (u : BS) (p0 : Int32) : g_Mi l yX2_read (.code yX2_read cX2_read 2 (some .int)) { frames := 0, cells := 0, slots := 0, locals := 0 } (dC, dI) vwCl (tysW cI cZ) (wB x cI cZ) (g_bA 13 x) u [.ref (x 1), .int p0] (f_X2_read u p0) u := by
  refine Met.ofW (cc := cX2_read) (maxL := 2) (ret := (some .int)) (by decide) rfl ?_
  intro p e s m args below meth c s₁ B hml hv
  obtain ⟨rfl, hP, hK⟩ := hv
  have hx := B.exec
  have hb := B.bytes
  have hr := B.returns
  have hts := atoms_spec (ws := .code yX2_read cX2_read 2 (some .int) :: gtbl) B.pre
  have hg : ∀ w ∈ gtbl, w.before _ s = true := fun w h => hts w (List.mem_cons_of_mem _ h)
  have hown : s.vm.findClass RX2 = some m.cls := findClass_of_methodNamed B.named
  have hlocks := B.notSynchronized
  have hS : va_S (g_bA 13 x) s.heap s.heap [] := va_S.rf
  have hl := lv_entry ([.ref (x 1), .int p0]) (n := 2) (Nat.le_of_ble_eq_true rfl)
  rw [lg_entry_eq]
  generalize (lg_sl ([.ref (x 1), .int p0]) ++ List.replicate (2 - (lg_sl ([.ref (x 1), .int p0])).length) Slot.unset).toArray = ls at hl ⊢
  have hl : lv_has ls 2 [(0, .ref (x 1)), (1, .int p0)] := hl
  obtain ⟨F, hF⟩ : ∃ F, f_X2_read u p0 = F := ⟨_, rfl⟩
  rw [hF]
  refine lv_aload_n hx hb dX2_read_0 rfl (lv_at hl 0 rfl) ?_
  refine ge_X2_bytes hx hb hg hown kf_X2_9 hK hP dX2_read_1 ?_
  refine lv_iload_n hx hb dX2_read_4 rfl (lv_at hl 1 rfl) ?_
  refine lv_sipush (v := 2047) hx hb dX2_read_5 (by decide) ?_
  refine lv_iand hx hb dX2_read_8 ?_
  refine bl_mem hx hb hK hP (pk_andIn _ 11 rfl (by decide)) dX2_read_9 ?_
  exact g_iret hx hb hr hlocks hP hS dX2_read_10 hF rfl
def f_X2_write (u : BS) (p0 : Int32) (p1 : Int32) : BS :=
  let u1 : BS := bs_mem u (upd (bq_mem u) ((p0 &&& 2047)).toNatClampNeg (p1 &&& 255))
  u1
set_option maxHeartbeats 4000000 in
set_option maxRecDepth 100000 in
theorem c_X2_write (l : Launch) (dC : Nat → ClassId) (dI : Nat → Nat → Nat) (cI cZ : ClassId) (x : Nat → Nat) (hi : g_inj 13 x) (u : BS) (p0 : Int32) (p1 : Int32) : g_Mv l yX2_write (.code yX2_write cX2_write 3 none) { frames := 0, cells := 0, slots := 0, locals := 0 } (dC, dI) vwCl (tysW cI cZ) (wB x cI cZ) (g_bA 13 x) u [.ref (x 1), .int p0, .int p1] (f_X2_write u p0 p1) := by
  refine Met.ofW (cc := cX2_write) (maxL := 3) (ret := none) (by decide) rfl ?_
  intro p e s m args below meth c s₁ B hml hv
  obtain ⟨rfl, hP, hK⟩ := hv
  have hx := B.exec
  have hb := B.bytes
  have hr := B.returns
  have hts := atoms_spec (ws := .code yX2_write cX2_write 3 none :: gtbl) B.pre
  have hg : ∀ w ∈ gtbl, w.before _ s = true := fun w h => hts w (List.mem_cons_of_mem _ h)
  have hown : s.vm.findClass RX2 = some m.cls := findClass_of_methodNamed B.named
  have hlocks := B.notSynchronized
  have hS : va_S (g_bA 13 x) s.heap s.heap [] := va_S.rf
  have hl := lv_entry ([.ref (x 1), .int p0, .int p1]) (n := 3) (Nat.le_of_ble_eq_true rfl)
  rw [lg_entry_eq]
  generalize (lg_sl ([.ref (x 1), .int p0, .int p1]) ++ List.replicate (3 - (lg_sl ([.ref (x 1), .int p0, .int p1])).length) Slot.unset).toArray = ls at hl ⊢
  have hl : lv_has ls 3 [(0, .ref (x 1)), (1, .int p0), (2, .int p1)] := hl
  obtain ⟨F, hF⟩ : ∃ F, f_X2_write u p0 p1 = F := ⟨_, rfl⟩
  rw [hF]
  refine lv_aload_n hx hb dX2_write_0 rfl (lv_at hl 0 rfl) ?_
  refine ge_X2_bytes hx hb hg hown kf_X2_9 hK hP dX2_write_1 ?_
  refine lv_iload_n hx hb dX2_write_4 rfl (lv_at hl 1 rfl) ?_
  refine lv_sipush (v := 2047) hx hb dX2_write_5 (by decide) ?_
  refine lv_iand hx hb dX2_write_8 ?_
  refine lv_iload_n hx hb dX2_write_9 rfl (lv_at hl 2 rfl) ?_
  refine lv_sipush (v := 255) hx hb dX2_write_10 (by decide) ?_
  refine lv_iand hx hb dX2_write_13 ?_
  refine ba_mem hi hx hb hK hP hS (pk_andIn _ 11 rfl (by decide)) dX2_write_14 (fun H locs hP hS => ?_)
  exact g_vret hx hb hr hlocks hP hS dX2_write_15 hF
def f_X2_pair (u : BS) (p0 : Int32) : Int32 :=
  (((f_X2_read u p0) * 256) + (f_X2_read u (p0 + 1)))
set_option maxHeartbeats 4000000 in
set_option maxRecDepth 100000 in
theorem c_X2_pair (l : Launch) (dC : Nat → ClassId) (dI : Nat → Nat → Nat) (cI cZ : ClassId) (x : Nat → Nat) (hi : g_inj 13 x) (u : BS) (p0 : Int32) : g_Mi l yX2_pair (.code yX2_pair cX2_pair 2 (some .int)) { frames := 1, cells := 0, slots := 0, locals := 21 } (dC, dI) vwCl (tysW cI cZ) (wB x cI cZ) (g_bA 13 x) u [.ref (x 1), .int p0] (f_X2_pair u p0) u := by
  refine Met.ofW (cc := cX2_pair) (maxL := 2) (ret := (some .int)) (by decide) rfl ?_
  intro p e s m args below meth c s₁ B hml hv
  obtain ⟨rfl, hP, hK⟩ := hv
  have hx := B.exec
  have hb := B.bytes
  have hr := B.returns
  have hts := atoms_spec (ws := .code yX2_pair cX2_pair 2 (some .int) :: gtbl) B.pre
  have hg : ∀ w ∈ gtbl, w.before _ s = true := fun w h => hts w (List.mem_cons_of_mem _ h)
  have hown : s.vm.findClass RX2 = some m.cls := findClass_of_methodNamed B.named
  have hlocks := B.notSynchronized
  have hS : va_S (g_bA 13 x) s.heap s.heap [] := va_S.rf
  have hl := lv_entry ([.ref (x 1), .int p0]) (n := 2) (Nat.le_of_ble_eq_true rfl)
  rw [lg_entry_eq]
  generalize (lg_sl ([.ref (x 1), .int p0]) ++ List.replicate (2 - (lg_sl ([.ref (x 1), .int p0])).length) Slot.unset).toArray = ls at hl ⊢
  have hl : lv_has ls 2 [(0, .ref (x 1)), (1, .int p0)] := hl
  obtain ⟨F, hF⟩ : ∃ F, f_X2_pair u p0 = F := ⟨_, rfl⟩
  rw [hF]
  refine lv_aload_n hx hb dX2_pair_0 rfl (lv_at hl 0 rfl) ?_
  refine lv_iload_n hx hb dX2_pair_1 rfl (lv_at hl 1 rfl) ?_
  refine g_Vi hx hb hml hown hg (c_X2_read l dC dI cI cZ x hi _ _) cs_X2_13 rfl rfl ⟨Nat.le_of_ble_eq_true rfl, Nat.le_of_ble_eq_true rfl⟩ hK hP hS (q0 := 1) rfl rfl rfl hl.1 rfl (Nat.le_of_ble_eq_true rfl) dX2_pair_2 ⟨Nat.zero_le _, Nat.zero_le _⟩ (fun H locs hP hS => ?_)
  refine lv_sipush (v := 256) hx hb dX2_pair_5 (by decide) ?_
  refine lv_imul hx hb dX2_pair_8 ?_
  refine lv_aload_n hx hb dX2_pair_9 rfl (lv_at hl 0 rfl) ?_
  refine lv_iload_n hx hb dX2_pair_10 rfl (lv_at hl 1 rfl) ?_
  refine lv_iconst (v := 1) hx hb dX2_pair_11 (by decide) ?_
  refine lv_iadd hx hb dX2_pair_12 ?_
  refine g_Vi hx hb hml hown hg (c_X2_read l dC dI cI cZ x hi _ _) cs_X2_13 rfl rfl ⟨Nat.le_of_ble_eq_true rfl, Nat.le_of_ble_eq_true rfl⟩ hK hP hS (q0 := 1) rfl rfl rfl hl.1 rfl (Nat.le_of_ble_eq_true rfl) dX2_pair_13 ⟨Nat.zero_le _, Nat.zero_le _⟩ (fun H locs hP hS => ?_)
  refine lv_iadd hx hb dX2_pair_16 ?_
  exact g_iret hx hb hr hlocks hP hS dX2_pair_17 hF rfl
end
