section
/-- a private method of a class that the tables say can be made, by its rows of tables_1 -/
def lw_okq (q : MethodName × Nat) : Prop := (q.1.cls ≠ "java/lang/invoke/MethodHandle" ∧ q.1.cls ≠ "java/lang/invoke/VarHandle") ∧ Cond.instantiable q.1.cls q.2 ∈ tables_1 ∧ Cond.privateMethod q.1 ∈ tables_1 ∧ Cond.instanceMethod q.1 ∈ tables_1
theorem lw_p0 : lw_okq (⟨"BatonKernel", "isProcess", "(I)Z"⟩, 9) := ⟨⟨by decide +kernel, by decide +kernel⟩, List.mem_of_getElem? (i := 10) (by decide +kernel), List.mem_of_getElem? (i := 211) (by decide +kernel), List.mem_of_getElem? (i := 212) (by decide +kernel)⟩
theorem lw_p1 : lw_okq (⟨"BatonKernel", "serve", "(I)V"⟩, 9) := ⟨⟨by decide +kernel, by decide +kernel⟩, List.mem_of_getElem? (i := 10) (by decide +kernel), List.mem_of_getElem? (i := 233) (by decide +kernel), List.mem_of_getElem? (i := 234) (by decide +kernel)⟩
theorem lw_p2 : lw_okq (⟨"BatonKernel", "give", "(LBatonKernel$Proc;II)V"⟩, 9) := ⟨⟨by decide +kernel, by decide +kernel⟩, List.mem_of_getElem? (i := 10) (by decide +kernel), List.mem_of_getElem? (i := 245) (by decide +kernel), List.mem_of_getElem? (i := 246) (by decide +kernel)⟩
theorem lw_p3 : lw_okq (⟨"BatonKernel", "enter", "(LBatonKernel$Proc;II)V"⟩, 9) := ⟨⟨by decide +kernel, by decide +kernel⟩, List.mem_of_getElem? (i := 10) (by decide +kernel), List.mem_of_getElem? (i := 253) (by decide +kernel), List.mem_of_getElem? (i := 254) (by decide +kernel)⟩
theorem lw_p4 : lw_okq (⟨"BatonKernel", "lineOf", "(LBatonKernel$Proc;)I"⟩, 9) := ⟨⟨by decide +kernel, by decide +kernel⟩, List.mem_of_getElem? (i := 10) (by decide +kernel), List.mem_of_getElem? (i := 273) (by decide +kernel), List.mem_of_getElem? (i := 274) (by decide +kernel)⟩
theorem lw_p5 : lw_okq (⟨"BatonKernel", "leave", "(LBatonKernel$Proc;)V"⟩, 9) := ⟨⟨by decide +kernel, by decide +kernel⟩, List.mem_of_getElem? (i := 10) (by decide +kernel), List.mem_of_getElem? (i := 281) (by decide +kernel), List.mem_of_getElem? (i := 282) (by decide +kernel)⟩
theorem lw_p6 : lw_okq (⟨"BatonKernel", "giveBack", "(LBatonKernel$Proc;II)V"⟩, 9) := ⟨⟨by decide +kernel, by decide +kernel⟩, List.mem_of_getElem? (i := 10) (by decide +kernel), List.mem_of_getElem? (i := 293) (by decide +kernel), List.mem_of_getElem? (i := 294) (by decide +kernel)⟩
theorem lw_p7 : lw_okq (⟨"BatonKernel", "takeBack", "(LBatonKernel$Proc;II)V"⟩, 9) := ⟨⟨by decide +kernel, by decide +kernel⟩, List.mem_of_getElem? (i := 10) (by decide +kernel), List.mem_of_getElem? (i := 300) (by decide +kernel), List.mem_of_getElem? (i := 301) (by decide +kernel)⟩
theorem lw_p8 : lw_okq (⟨"BatonKernel", "firstEntry", "()I"⟩, 9) := ⟨⟨by decide +kernel, by decide +kernel⟩, List.mem_of_getElem? (i := 10) (by decide +kernel), List.mem_of_getElem? (i := 309) (by decide +kernel), List.mem_of_getElem? (i := 310) (by decide +kernel)⟩
theorem lw_p9 : lw_okq (⟨"BatonKernel", "begin", "(LBatonKernel$Proc;)V"⟩, 9) := ⟨⟨by decide +kernel, by decide +kernel⟩, List.mem_of_getElem? (i := 10) (by decide +kernel), List.mem_of_getElem? (i := 317) (by decide +kernel), List.mem_of_getElem? (i := 318) (by decide +kernel)⟩
theorem lw_p10 : lw_okq (⟨"BatonKernel", "moveClock", "(J)V"⟩, 9) := ⟨⟨by decide +kernel, by decide +kernel⟩, List.mem_of_getElem? (i := 10) (by decide +kernel), List.mem_of_getElem? (i := 321) (by decide +kernel), List.mem_of_getElem? (i := 322) (by decide +kernel)⟩
theorem lw_p11 : lw_okq (⟨"BatonKernel", "doTurn", "(LBatonKernel$Proc;)V"⟩, 9) := ⟨⟨by decide +kernel, by decide +kernel⟩, List.mem_of_getElem? (i := 10) (by decide +kernel), List.mem_of_getElem? (i := 330) (by decide +kernel), List.mem_of_getElem? (i := 331) (by decide +kernel)⟩
theorem lw_p12 : lw_okq (⟨"BatonKernel", "perform", "(LBatonKernel$Proc;)Z"⟩, 9) := ⟨⟨by decide +kernel, by decide +kernel⟩, List.mem_of_getElem? (i := 10) (by decide +kernel), List.mem_of_getElem? (i := 334) (by decide +kernel), List.mem_of_getElem? (i := 335) (by decide +kernel)⟩
theorem lw_p13 : lw_okq (⟨"BatonKernel", "seizeFree", "(LBatonKernel$Proc;)Z"⟩, 9) := ⟨⟨by decide +kernel, by decide +kernel⟩, List.mem_of_getElem? (i := 10) (by decide +kernel), List.mem_of_getElem? (i := 338) (by decide +kernel), List.mem_of_getElem? (i := 339) (by decide +kernel)⟩
theorem lw_p14 : lw_okq (⟨"BatonKernel", "countBefore", "(II)I"⟩, 9) := ⟨⟨by decide +kernel, by decide +kernel⟩, List.mem_of_getElem? (i := 10) (by decide +kernel), List.mem_of_getElem? (i := 342) (by decide +kernel), List.mem_of_getElem? (i := 343) (by decide +kernel)⟩
theorem lw_p15 : lw_okq (⟨"BatonKernel", "seizeByForce", "(LBatonKernel$Proc;)Z"⟩, 9) := ⟨⟨by decide +kernel, by decide +kernel⟩, List.mem_of_getElem? (i := 10) (by decide +kernel), List.mem_of_getElem? (i := 346) (by decide +kernel), List.mem_of_getElem? (i := 347) (by decide +kernel)⟩
def lw_privs_1 : List (MethodName × Nat) := [(⟨"BatonKernel", "isProcess", "(I)Z"⟩, 9), (⟨"BatonKernel", "serve", "(I)V"⟩, 9), (⟨"BatonKernel", "give", "(LBatonKernel$Proc;II)V"⟩, 9), (⟨"BatonKernel", "enter", "(LBatonKernel$Proc;II)V"⟩, 9), (⟨"BatonKernel", "lineOf", "(LBatonKernel$Proc;)I"⟩, 9), (⟨"BatonKernel", "leave", "(LBatonKernel$Proc;)V"⟩, 9), (⟨"BatonKernel", "giveBack", "(LBatonKernel$Proc;II)V"⟩, 9), (⟨"BatonKernel", "takeBack", "(LBatonKernel$Proc;II)V"⟩, 9), (⟨"BatonKernel", "firstEntry", "()I"⟩, 9), (⟨"BatonKernel", "begin", "(LBatonKernel$Proc;)V"⟩, 9), (⟨"BatonKernel", "moveClock", "(J)V"⟩, 9), (⟨"BatonKernel", "doTurn", "(LBatonKernel$Proc;)V"⟩, 9), (⟨"BatonKernel", "perform", "(LBatonKernel$Proc;)Z"⟩, 9), (⟨"BatonKernel", "seizeFree", "(LBatonKernel$Proc;)Z"⟩, 9), (⟨"BatonKernel", "countBefore", "(II)I"⟩, 9), (⟨"BatonKernel", "seizeByForce", "(LBatonKernel$Proc;)Z"⟩, 9)]
theorem lw_r1 : ∀ q ∈ lw_privs_1, lw_okq q := List.forall_mem_cons.mpr ⟨lw_p0, List.forall_mem_cons.mpr ⟨lw_p1, List.forall_mem_cons.mpr ⟨lw_p2, List.forall_mem_cons.mpr ⟨lw_p3, List.forall_mem_cons.mpr ⟨lw_p4, List.forall_mem_cons.mpr ⟨lw_p5, List.forall_mem_cons.mpr ⟨lw_p6, List.forall_mem_cons.mpr ⟨lw_p7, List.forall_mem_cons.mpr ⟨lw_p8, List.forall_mem_cons.mpr ⟨lw_p9, List.forall_mem_cons.mpr ⟨lw_p10, List.forall_mem_cons.mpr ⟨lw_p11, List.forall_mem_cons.mpr ⟨lw_p12, List.forall_mem_cons.mpr ⟨lw_p13, List.forall_mem_cons.mpr ⟨lw_p14, List.forall_mem_cons.mpr ⟨lw_p15, fun _ h => absurd h List.not_mem_nil⟩⟩⟩⟩⟩⟩⟩⟩⟩⟩⟩⟩⟩⟩⟩⟩
theorem lw_p16 : lw_okq (⟨"BatonKernel", "withinReach", "(LBatonKernel$Proc;I)I"⟩, 9) := ⟨⟨by decide +kernel, by decide +kernel⟩, List.mem_of_getElem? (i := 10) (by decide +kernel), List.mem_of_getElem? (i := 350) (by decide +kernel), List.mem_of_getElem? (i := 351) (by decide +kernel)⟩
theorem lw_p17 : lw_okq (⟨"BatonKernel", "takeFromLosers", "(LBatonKernel$Proc;II)I"⟩, 9) := ⟨⟨by decide +kernel, by decide +kernel⟩, List.mem_of_getElem? (i := 10) (by decide +kernel), List.mem_of_getElem? (i := 354) (by decide +kernel), List.mem_of_getElem? (i := 355) (by decide +kernel)⟩
theorem lw_p18 : lw_okq (⟨"BatonKernel", "nextLoser", "(LBatonKernel$Proc;I)I"⟩, 9) := ⟨⟨by decide +kernel, by decide +kernel⟩, List.mem_of_getElem? (i := 10) (by decide +kernel), List.mem_of_getElem? (i := 358) (by decide +kernel), List.mem_of_getElem? (i := 359) (by decide +kernel)⟩
theorem lw_p19 : lw_okq (⟨"BatonKernel", "standInLine", "(LBatonKernel$Proc;)Z"⟩, 9) := ⟨⟨by decide +kernel, by decide +kernel⟩, List.mem_of_getElem? (i := 10) (by decide +kernel), List.mem_of_getElem? (i := 363) (by decide +kernel), List.mem_of_getElem? (i := 364) (by decide +kernel)⟩
theorem lw_p20 : lw_okq (⟨"BatonKernel", "meetCondition", "(LBatonKernel$Proc;)Z"⟩, 9) := ⟨⟨by decide +kernel, by decide +kernel⟩, List.mem_of_getElem? (i := 10) (by decide +kernel), List.mem_of_getElem? (i := 371) (by decide +kernel), List.mem_of_getElem? (i := 372) (by decide +kernel)⟩
theorem lw_p21 : lw_okq (⟨"BatonKernel", "waitForCondition", "(LBatonKernel$Proc;)Z"⟩, 9) := ⟨⟨by decide +kernel, by decide +kernel⟩, List.mem_of_getElem? (i := 10) (by decide +kernel), List.mem_of_getElem? (i := 383) (by decide +kernel), List.mem_of_getElem? (i := 384) (by decide +kernel)⟩
theorem lw_p22 : lw_okq (⟨"BatonKernel", "goOverConditions", "()V"⟩, 9) := ⟨⟨by decide +kernel, by decide +kernel⟩, List.mem_of_getElem? (i := 10) (by decide +kernel), List.mem_of_getElem? (i := 393) (by decide +kernel), List.mem_of_getElem? (i := 394) (by decide +kernel)⟩
theorem lw_p23 : lw_okq (⟨"BatonKernelModel", "none", "(I)Z"⟩, 27) := ⟨⟨by decide +kernel, by decide +kernel⟩, List.mem_of_getElem? (i := 450) (by decide +kernel), List.mem_of_getElem? (i := 548) (by decide +kernel), List.mem_of_getElem? (i := 549) (by decide +kernel)⟩
theorem lw_p24 : lw_okq (⟨"BatonKernelModel", "within", "(III)Z"⟩, 27) := ⟨⟨by decide +kernel, by decide +kernel⟩, List.mem_of_getElem? (i := 450) (by decide +kernel), List.mem_of_getElem? (i := 552) (by decide +kernel), List.mem_of_getElem? (i := 553) (by decide +kernel)⟩
theorem lw_p25 : lw_okq (⟨"BatonKernelModel", "fits", "(III)Z"⟩, 27) := ⟨⟨by decide +kernel, by decide +kernel⟩, List.mem_of_getElem? (i := 450) (by decide +kernel), List.mem_of_getElem? (i := 556) (by decide +kernel), List.mem_of_getElem? (i := 557) (by decide +kernel)⟩
theorem lw_p26 : lw_okq (⟨"BatonKernelModel", "seized", "(I)I"⟩, 27) := ⟨⟨by decide +kernel, by decide +kernel⟩, List.mem_of_getElem? (i := 450) (by decide +kernel), List.mem_of_getElem? (i := 565) (by decide +kernel), List.mem_of_getElem? (i := 566) (by decide +kernel)⟩
theorem lw_p27 : lw_okq (⟨"BatonKernelModel", "serve", "(I)V"⟩, 27) := ⟨⟨by decide +kernel, by decide +kernel⟩, List.mem_of_getElem? (i := 450) (by decide +kernel), List.mem_of_getElem? (i := 569) (by decide +kernel), List.mem_of_getElem? (i := 570) (by decide +kernel)⟩
theorem lw_p28 : lw_okq (⟨"BatonKernelModel", "head", "(I)I"⟩, 27) := ⟨⟨by decide +kernel, by decide +kernel⟩, List.mem_of_getElem? (i := 450) (by decide +kernel), List.mem_of_getElem? (i := 573) (by decide +kernel), List.mem_of_getElem? (i := 574) (by decide +kernel)⟩
theorem lw_p29 : lw_okq (⟨"BatonKernelModel", "done", "(I)I"⟩, 27) := ⟨⟨by decide +kernel, by decide +kernel⟩, List.mem_of_getElem? (i := 450) (by decide +kernel), List.mem_of_getElem? (i := 577) (by decide +kernel), List.mem_of_getElem? (i := 578) (by decide +kernel)⟩
theorem lw_p30 : lw_okq (⟨"BatonKernelModel", "rest", "(I)I"⟩, 27) := ⟨⟨by decide +kernel, by decide +kernel⟩, List.mem_of_getElem? (i := 450) (by decide +kernel), List.mem_of_getElem? (i := 581) (by decide +kernel), List.mem_of_getElem? (i := 582) (by decide +kernel)⟩
theorem lw_p31 : lw_okq (⟨"BatonKernelModel", "enter", "(IIJ)V"⟩, 27) := ⟨⟨by decide +kernel, by decide +kernel⟩, List.mem_of_getElem? (i := 450) (by decide +kernel), List.mem_of_getElem? (i := 585) (by decide +kernel), List.mem_of_getElem? (i := 586) (by decide +kernel)⟩
def lw_privs_2 : List (MethodName × Nat) := [(⟨"BatonKernel", "withinReach", "(LBatonKernel$Proc;I)I"⟩, 9), (⟨"BatonKernel", "takeFromLosers", "(LBatonKernel$Proc;II)I"⟩, 9), (⟨"BatonKernel", "nextLoser", "(LBatonKernel$Proc;I)I"⟩, 9), (⟨"BatonKernel", "standInLine", "(LBatonKernel$Proc;)Z"⟩, 9), (⟨"BatonKernel", "meetCondition", "(LBatonKernel$Proc;)Z"⟩, 9), (⟨"BatonKernel", "waitForCondition", "(LBatonKernel$Proc;)Z"⟩, 9), (⟨"BatonKernel", "goOverConditions", "()V"⟩, 9), (⟨"BatonKernelModel", "none", "(I)Z"⟩, 27), (⟨"BatonKernelModel", "within", "(III)Z"⟩, 27), (⟨"BatonKernelModel", "fits", "(III)Z"⟩, 27), (⟨"BatonKernelModel", "seized", "(I)I"⟩, 27), (⟨"BatonKernelModel", "serve", "(I)V"⟩, 27), (⟨"BatonKernelModel", "head", "(I)I"⟩, 27), (⟨"BatonKernelModel", "done", "(I)I"⟩, 27), (⟨"BatonKernelModel", "rest", "(I)I"⟩, 27), (⟨"BatonKernelModel", "enter", "(IIJ)V"⟩, 27)]
theorem lw_r2 : ∀ q ∈ lw_privs_2, lw_okq q := List.forall_mem_cons.mpr ⟨lw_p16, List.forall_mem_cons.mpr ⟨lw_p17, List.forall_mem_cons.mpr ⟨lw_p18, List.forall_mem_cons.mpr ⟨lw_p19, List.forall_mem_cons.mpr ⟨lw_p20, List.forall_mem_cons.mpr ⟨lw_p21, List.forall_mem_cons.mpr ⟨lw_p22, List.forall_mem_cons.mpr ⟨lw_p23, List.forall_mem_cons.mpr ⟨lw_p24, List.forall_mem_cons.mpr ⟨lw_p25, List.forall_mem_cons.mpr ⟨lw_p26, List.forall_mem_cons.mpr ⟨lw_p27, List.forall_mem_cons.mpr ⟨lw_p28, List.forall_mem_cons.mpr ⟨lw_p29, List.forall_mem_cons.mpr ⟨lw_p30, List.forall_mem_cons.mpr ⟨lw_p31, fun _ h => absurd h List.not_mem_nil⟩⟩⟩⟩⟩⟩⟩⟩⟩⟩⟩⟩⟩⟩⟩⟩
theorem lw_p32 : lw_okq (⟨"BatonKernelModel", "first", "()I"⟩, 27) := ⟨⟨by decide +kernel, by decide +kernel⟩, List.mem_of_getElem? (i := 450) (by decide +kernel), List.mem_of_getElem? (i := 598) (by decide +kernel), List.mem_of_getElem? (i := 599) (by decide +kernel)⟩
theorem lw_p33 : lw_okq (⟨"BatonKernelModel", "sooner", "(II)Z"⟩, 27) := ⟨⟨by decide +kernel, by decide +kernel⟩, List.mem_of_getElem? (i := 450) (by decide +kernel), List.mem_of_getElem? (i := 602) (by decide +kernel), List.mem_of_getElem? (i := 603) (by decide +kernel)⟩
theorem lw_p34 : lw_okq (⟨"BatonKernelModel", "event", "(I)V"⟩, 27) := ⟨⟨by decide +kernel, by decide +kernel⟩, List.mem_of_getElem? (i := 450) (by decide +kernel), List.mem_of_getElem? (i := 606) (by decide +kernel), List.mem_of_getElem? (i := 607) (by decide +kernel)⟩
theorem lw_p35 : lw_okq (⟨"BatonKernelModel", "advance", "(J)V"⟩, 27) := ⟨⟨by decide +kernel, by decide +kernel⟩, List.mem_of_getElem? (i := 450) (by decide +kernel), List.mem_of_getElem? (i := 610) (by decide +kernel), List.mem_of_getElem? (i := 611) (by decide +kernel)⟩
theorem lw_p36 : lw_okq (⟨"BatonKernelModel", "turn", "(I)V"⟩, 27) := ⟨⟨by decide +kernel, by decide +kernel⟩, List.mem_of_getElem? (i := 450) (by decide +kernel), List.mem_of_getElem? (i := 614) (by decide +kernel), List.mem_of_getElem? (i := 615) (by decide +kernel)⟩
theorem lw_p37 : lw_okq (⟨"BatonKernelModel", "perform", "(II)Z"⟩, 27) := ⟨⟨by decide +kernel, by decide +kernel⟩, List.mem_of_getElem? (i := 450) (by decide +kernel), List.mem_of_getElem? (i := 618) (by decide +kernel), List.mem_of_getElem? (i := 619) (by decide +kernel)⟩
theorem lw_p38 : lw_okq (⟨"BatonKernelModel", "seize", "(III)Z"⟩, 27) := ⟨⟨by decide +kernel, by decide +kernel⟩, List.mem_of_getElem? (i := 450) (by decide +kernel), List.mem_of_getElem? (i := 622) (by decide +kernel), List.mem_of_getElem? (i := 623) (by decide +kernel)⟩
theorem lw_p39 : lw_okq (⟨"BatonKernelModel", "reach", "(II)I"⟩, 27) := ⟨⟨by decide +kernel, by decide +kernel⟩, List.mem_of_getElem? (i := 450) (by decide +kernel), List.mem_of_getElem? (i := 626) (by decide +kernel), List.mem_of_getElem? (i := 627) (by decide +kernel)⟩
theorem lw_p40 : lw_okq (⟨"BatonKernelModel", "preempt", "(III)V"⟩, 27) := ⟨⟨by decide +kernel, by decide +kernel⟩, List.mem_of_getElem? (i := 450) (by decide +kernel), List.mem_of_getElem? (i := 630) (by decide +kernel), List.mem_of_getElem? (i := 631) (by decide +kernel)⟩
theorem lw_p41 : lw_okq (⟨"BatonKernelModel", "victim", "(II)I"⟩, 27) := ⟨⟨by decide +kernel, by decide +kernel⟩, List.mem_of_getElem? (i := 450) (by decide +kernel), List.mem_of_getElem? (i := 634) (by decide +kernel), List.mem_of_getElem? (i := 635) (by decide +kernel)⟩
theorem lw_p42 : lw_okq (⟨"BatonKernelModel", "release", "(III)V"⟩, 27) := ⟨⟨by decide +kernel, by decide +kernel⟩, List.mem_of_getElem? (i := 450) (by decide +kernel), List.mem_of_getElem? (i := 642) (by decide +kernel), List.mem_of_getElem? (i := 643) (by decide +kernel)⟩
theorem lw_p43 : lw_okq (⟨"BatonKernelModel", "holds", "(I)Z"⟩, 27) := ⟨⟨by decide +kernel, by decide +kernel⟩, List.mem_of_getElem? (i := 450) (by decide +kernel), List.mem_of_getElem? (i := 654) (by decide +kernel), List.mem_of_getElem? (i := 655) (by decide +kernel)⟩
theorem lw_p44 : lw_okq (⟨"BatonKernelModel", "pour", "(I)V"⟩, 27) := ⟨⟨by decide +kernel, by decide +kernel⟩, List.mem_of_getElem? (i := 450) (by decide +kernel), List.mem_of_getElem? (i := 658) (by decide +kernel), List.mem_of_getElem? (i := 659) (by decide +kernel)⟩
theorem lw_p45 : lw_okq (⟨"BatonKernelModel", "goOver", "()V"⟩, 27) := ⟨⟨by decide +kernel, by decide +kernel⟩, List.mem_of_getElem? (i := 450) (by decide +kernel), List.mem_of_getElem? (i := 662) (by decide +kernel), List.mem_of_getElem? (i := 663) (by decide +kernel)⟩
def lw_privs_3 : List (MethodName × Nat) := [(⟨"BatonKernelModel", "first", "()I"⟩, 27), (⟨"BatonKernelModel", "sooner", "(II)Z"⟩, 27), (⟨"BatonKernelModel", "event", "(I)V"⟩, 27), (⟨"BatonKernelModel", "advance", "(J)V"⟩, 27), (⟨"BatonKernelModel", "turn", "(I)V"⟩, 27), (⟨"BatonKernelModel", "perform", "(II)Z"⟩, 27), (⟨"BatonKernelModel", "seize", "(III)Z"⟩, 27), (⟨"BatonKernelModel", "reach", "(II)I"⟩, 27), (⟨"BatonKernelModel", "preempt", "(III)V"⟩, 27), (⟨"BatonKernelModel", "victim", "(II)I"⟩, 27), (⟨"BatonKernelModel", "release", "(III)V"⟩, 27), (⟨"BatonKernelModel", "holds", "(I)Z"⟩, 27), (⟨"BatonKernelModel", "pour", "(I)V"⟩, 27), (⟨"BatonKernelModel", "goOver", "()V"⟩, 27)]
theorem lw_r3 : ∀ q ∈ lw_privs_3, lw_okq q := List.forall_mem_cons.mpr ⟨lw_p32, List.forall_mem_cons.mpr ⟨lw_p33, List.forall_mem_cons.mpr ⟨lw_p34, List.forall_mem_cons.mpr ⟨lw_p35, List.forall_mem_cons.mpr ⟨lw_p36, List.forall_mem_cons.mpr ⟨lw_p37, List.forall_mem_cons.mpr ⟨lw_p38, List.forall_mem_cons.mpr ⟨lw_p39, List.forall_mem_cons.mpr ⟨lw_p40, List.forall_mem_cons.mpr ⟨lw_p41, List.forall_mem_cons.mpr ⟨lw_p42, List.forall_mem_cons.mpr ⟨lw_p43, List.forall_mem_cons.mpr ⟨lw_p44, List.forall_mem_cons.mpr ⟨lw_p45, fun _ h => absurd h List.not_mem_nil⟩⟩⟩⟩⟩⟩⟩⟩⟩⟩⟩⟩⟩⟩
def lw_privs : List (MethodName × Nat) := lw_privs_1 ++ (lw_privs_2 ++ (lw_privs_3))
def lw_tbl : List Cond := k2_sels lw_privs ++ tables_1
theorem lw_privs_ok : ∀ q ∈ lw_privs, lw_okq q := by
  show ∀ q ∈ lw_privs_1 ++ (lw_privs_2 ++ (lw_privs_3)), lw_okq q
  exact List.forall_mem_append.mpr ⟨lw_r1, List.forall_mem_append.mpr ⟨lw_r2, lw_r3⟩⟩
-- ===== end of PART A; then your names; then what follows =====
end
section
/-! Words for pure functions that mirror the code: guards, names, binds; and their one use in a walk. -/
def gd {α : Type} (b : Bool) (x : Option α) : Option α := if b = true then x else none
theorem gd_some {α : Type} {b : Bool} {x : Option α} {r : α} (h : gd b x = some r) : b = true ∧ x = some r := by
  unfold gd at h
  split at h
  · rename_i hb
    exact ⟨hb, h⟩
  · cases h
theorem gd_true {α : Type} {x : Option α} : gd true x = x := rfl
theorem gd_of {α : Type} {b : Bool} {x : Option α} (h : b = true) : gd b x = x := by rw [h]; rfl
/-- an index within n places -/
def inb (i : Int32) (n : Nat) : Bool := decide (¬ (i < 0 ∨ n ≤ i.toNatClampNeg))
theorem inb_in {i : Int32} {n : Nat} (h : inb i n = true) : vp_in i n := show ¬ (i < 0 ∨ n ≤ i.toNatClampNeg) from of_decide_eq_true h
theorem inb_lt {i : Int32} {n : Nat} (h : inb i n = true) : i.toNatClampNeg < n := by
  have h1 := of_decide_eq_true h
  omega
theorem inb_nI {k n : Nat} (h : k < n) (hn : n < 2 ^ 31) : inb (nI k) n = true := decide_eq_true (nI_in h hn)
/-- a truth value as an int -/
def bz (x : Int32) : Bool := decide (x = 0 ∨ x = 1)
theorem bz_nar {x : Int32} (h : bz x = true) : narrow .boolean (.int x) = .int x := by
  rcases of_decide_eq_true h with e | e <;> subst e <;> rfl
theorem bz_fit {x : Int32} (h : bz x = true) : fits .boolean (.int x) = true := by
  rcases of_decide_eq_true h with e | e <;> subst e <;> rfl
theorem bz_vp {x : Int32} (h : bz x = true) : vp_nar .boolean x = x := by
  rcases of_decide_eq_true h with e | e <;> subst e <;> rfl
/-- a name for a value -/
def lx {α β : Type} (v : α) (f : α → β) : β := f v
theorem lx_at {α β : Type} {v : α} {f : α → β} {r : β} (h : lx v f = r) (y : α) (e : y = v) : f y = r := by
  subst e
  exact h
theorem lx_ex {α β : Type} {v : α} {f : α → β} {r : β} (h : lx v f = r) : ∃ y, y = v ∧ f y = r := ⟨v, rfl, h⟩
def bd {α β : Type} (x : Option α) (f : α → Option β) : Option β := match x with
  | none => none
  | some a => f a
theorem bd_some {α β : Type} {x : Option α} {f : α → Option β} {r : β} (h : bd x f = some r) : ∃ a, x = some a ∧ f a = some r := by
  cases x with
  | none => cases h
  | some a => exact ⟨a, rfl, h⟩
theorem bd_of {α β : Type} {x : Option α} {f : α → Option β} {a : α} (h : x = some a) : bd x f = f a := by rw [h]; rfl
theorem ie_t {c : Prop} [Decidable c] {α : Type} {a b r : α} (h : (if c then a else b) = r) (hc : c) : a = r := by
  rw [if_pos hc] at h
  exact h
theorem ie_f {c : Prop} [Decidable c] {α : Type} {a b r : α} (h : (if c then a else b) = r) (hc : ¬ c) : b = r := by
  rw [if_neg hc] at h
  exact h
/-- a pure state: numbers and long numbers by kind, object and element -/
abbrev kS : Type := (Nat → Nat → Nat → Int32) × (Nat → Nat → Nat → Int64)
def gI (s : kS) (k j i : Nat) : Int32 := s.1 k j i
def gL (s : kS) (k j i : Nat) : Int64 := s.2 k j i
def sI (s : kS) (k j i : Nat) (v : Int32) : kS := (fun a b c => if a = k ∧ b = j ∧ c = i then v else s.1 a b c, s.2)
def sL (s : kS) (k j i : Nat) (v : Int64) : kS := (s.1, fun a b c => if a = k ∧ b = j ∧ c = i then v else s.2 a b c)
theorem gI_sI (s : kS) (k j i : Nat) (v : Int32) (a b c : Nat) : gI (sI s k j i v) a b c = if a = k ∧ b = j ∧ c = i then v else gI s a b c := rfl
theorem gL_sL (s : kS) (k j i : Nat) (v : Int64) (a b c : Nat) : gL (sL s k j i v) a b c = if a = k ∧ b = j ∧ c = i then v else gL s a b c := rfl
theorem gI_sL (s : kS) (k j i : Nat) (v : Int64) (a b c : Nat) : gI (sL s k j i v) a b c = gI s a b c := rfl
theorem gL_sI (s : kS) (k j i : Nat) (v : Int32) (a b c : Nat) : gL (sI s k j i v) a b c = gL s a b c := rfl
theorem gI_self (s : kS) (k j i : Nat) (v : Int32) : gI (sI s k j i v) k j i = v := by rw [gI_sI, if_pos ⟨rfl, rfl, rfl⟩]
theorem gL_self (s : kS) (k j i : Nat) (v : Int64) : gL (sL s k j i v) k j i = v := by rw [gL_sL, if_pos ⟨rfl, rfl, rfl⟩]
theorem gI_kind (s : kS) {k j i : Nat} {v : Int32} {a b c : Nat} (h : a ≠ k) : gI (sI s k j i v) a b c = gI s a b c := by rw [gI_sI, if_neg (fun q => h q.1)]
theorem gL_kind (s : kS) {k j i : Nat} {v : Int64} {a b c : Nat} (h : a ≠ k) : gL (sL s k j i v) a b c = gL s a b c := by rw [gL_sL, if_neg (fun q => h q.1)]
/-- a world: cells by family and number, at addresses by family and number -/
def wmap (cs : List (Nat × Nat)) (aa : Nat → Nat → Nat) (ce : Nat → Nat → va_E) : va_W := cs.map (fun x => (aa x.1 x.2, ce x.1 x.2))
theorem wmap_at {cs : List (Nat × Nat)} {aa : Nat → Nat → Nat} {ce : Nat → Nat → va_E} {k f n : Nat} (h : cs[k]? = some (f, n)) : (wmap cs aa ce)[k]? = some (aa f n, ce f n) := by
  unfold wmap
  rw [List.getElem?_map, h]
  rfl
theorem wmap_of {cs : List (Nat × Nat)} {aa : Nat → Nat → Nat} {ce : Nat → Nat → va_E} {k : Nat} {q : Nat × va_E} (h : (wmap cs aa ce)[k]? = some q) : ∃ f n, cs[k]? = some (f, n) ∧ q = (aa f n, ce f n) := by
  unfold wmap at h
  rw [List.getElem?_map] at h
  cases e : cs[k]? with
  | none => rw [e] at h; cases h
  | some x =>
    rw [e] at h
    obtain ⟨f, n⟩ := x
    exact ⟨f, n, rfl, (Option.some.inj h).symm⟩
theorem wmap_set {cs : List (Nat × Nat)} {aa : Nat → Nat → Nat} {ce ce' : Nat → Nat → va_E} {k f n : Nat} {e : va_E} (hn : cs.Nodup) (h : cs[k]? = some (f, n)) (h1 : ce' f n = e) (h2 : ∀ f' n' : Nat, ¬ (f' = f ∧ n' = n) → ce' f' n' = ce f' n') : (wmap cs aa ce).set k (aa f n, e) = wmap cs aa ce' := by
  apply List.ext_getElem?
  intro i
  by_cases hi : i = k
  · subst hi
    have hlt : i < (wmap cs aa ce).length := by
      unfold wmap
      rw [List.length_map]
      exact (List.getElem?_eq_some_iff.mp h).1
    rw [List.getElem?_set_self hlt, wmap_at h, h1]
  · rw [List.getElem?_set_ne (Ne.symm hi)]
    unfold wmap
    rw [List.getElem?_map, List.getElem?_map]
    cases e : cs[i]? with
    | none => rfl
    | some x =>
      obtain ⟨f', n'⟩ := x
      have hne : ¬ (f' = f ∧ n' = n) := by
        rintro ⟨rfl, rfl⟩
        obtain ⟨a1, b1⟩ := List.getElem?_eq_some_iff.mp h
        obtain ⟨a2, b2⟩ := List.getElem?_eq_some_iff.mp e
        rcases Nat.lt_or_gt_of_ne hi with z | z
        · exact (List.pairwise_iff_getElem.mp hn i k a2 a1 z) (b2.trans b1.symm)
        · exact (List.pairwise_iff_getElem.mp hn k i a1 a2 z) (b1.trans b2.symm)
      show some (aa f' n', ce f' n') = some (aa f' n', ce' f' n')
      rw [h2 f' n' hne]
/-- the addresses of a world's cells -/
def wA (cs : List (Nat × Nat)) (aa : Nat → Nat → Nat) : Nat → Prop := fun a => ∃ (k f n : Nat), cs[k]? = some (f, n) ∧ a = aa f n
def wJ (cs : List (Nat × Nat)) (aa : Nat → Nat → Nat) : Prop := ∀ (k k' f n f' n' : Nat), cs[k]? = some (f, n) → cs[k']? = some (f', n') → aa f n = aa f' n' → k = k'
theorem wmap_D {cs : List (Nat × Nat)} {aa : Nat → Nat → Nat} {ce : Nat → Nat → va_E} (hJ : wJ cs aa) : va_D (wA cs aa) (wmap cs aa ce) := by
  refine ⟨fun i j p q hp hq e => ?_, fun k q hq => ?_⟩
  · obtain ⟨f, n, h1, rfl⟩ := wmap_of hp
    obtain ⟨f', n', h2, rfl⟩ := wmap_of hq
    exact hJ i j f n f' n' h1 h2 e
  · obtain ⟨f, n, h1, rfl⟩ := wmap_of hq
    exact ⟨k, f, n, h1, rfl⟩
theorem ii_p1 (x : Int32) : x + Int32.ofInt 1 = x + 1 := rfl
theorem ii_m1 (x : Int32) : x + Int32.ofInt (-1) = x + (-1) := rfl
theorem ii_p5 (x : Int32) : x + Int32.ofInt 5 = x + 5 := rfl
end
section
abbrev bR_K : String := "BatonKernel"
def bT_K : u_T := fun k => match k with
  | 0 => ("BatonKernel", "procs", "[LBatonKernel$Proc;", true)
  | 1 => ("BatonKernel", "resources", "[LBatonKernel$Resource;", true)
  | 2 => ("BatonKernel", "tanks", "[LBatonKernel$Tank;", true)
  | 3 => ("BatonKernel", "conditions", "LBatonKernel$Line;", true)
  | 4 => ("BatonKernel", "trace", "LBatonKernel$Trace;", true)
  | 5 => ("BatonKernel", "losers", "[I", true)
  | 6 => ("BatonKernel", "made", "I", false)
  | 7 => ("BatonKernel", "clock", "J", false)
  | _ => ("BatonKernel", "entries", "J", false)
def bty_K : Nat → FieldType := fun k => match k with
  | 0 => .array (.object "BatonKernel$Proc")
  | 1 => .array (.object "BatonKernel$Resource")
  | 2 => .array (.object "BatonKernel$Tank")
  | 3 => .object "BatonKernel$Line"
  | 4 => .object "BatonKernel$Trace"
  | 5 => .array .int
  | 6 => .int
  | 7 => .long
  | _ => .long
theorem bn_K : ∀ a, a < 9 → ∀ b, b < 9 → a ≠ b → (bT_K a).2.1 ≠ (bT_K b).2.1 := by decide +kernel
theorem bo_K : ∀ k, k < 9 → parseFieldDescriptor (bT_K k).2.2.1 = some (bty_K k) := by decide +kernel
theorem bcl_K (k : Nat) : (bT_K k).1 = bR_K := by unfold bT_K; split <;> rfl
abbrev bc_K_init : ByteArray := prog_1_method_1_code
abbrev by_K_init : MethodName := ⟨bR_K, "<init>", "()V"⟩
abbrev brm_K_init : Room := { frames := 3, cells := 0, slots := 0, locals := 61 }
theorem bh_K_init : by_K_init.cls = bR_K ∧ by_K_init.cls ≠ "java/lang/invoke/MethodHandle" ∧ by_K_init.cls ≠ "java/lang/invoke/VarHandle" ∧ (parseMethodDescriptor by_K_init.desc).map (fun d => d.parameters.length) = some 0 := by decide +kernel
abbrev bc_K_process : ByteArray := prog_1_method_2_code
abbrev by_K_process : MethodName := ⟨bR_K, "process", "(III)I"⟩
abbrev brm_K_process : Room := { frames := 1, cells := 0, slots := 0, locals := 22 }
theorem bh_K_process : by_K_process.cls = bR_K ∧ by_K_process.cls ≠ "java/lang/invoke/MethodHandle" ∧ by_K_process.cls ≠ "java/lang/invoke/VarHandle" ∧ (parseMethodDescriptor by_K_process.desc).map (fun d => d.parameters.length) = some 3 := by decide +kernel
abbrev bc_K_instruct : ByteArray := prog_1_method_3_code
abbrev by_K_instruct : MethodName := ⟨bR_K, "instruct", "(IIII)Z"⟩
abbrev brm_K_instruct : Room := { frames := 3, cells := 0, slots := 0, locals := 64 }
theorem bh_K_instruct : by_K_instruct.cls = bR_K ∧ by_K_instruct.cls ≠ "java/lang/invoke/MethodHandle" ∧ by_K_instruct.cls ≠ "java/lang/invoke/VarHandle" ∧ (parseMethodDescriptor by_K_instruct.desc).map (fun d => d.parameters.length) = some 4 := by decide +kernel
abbrev bc_K_resource : ByteArray := prog_1_method_4_code
abbrev by_K_resource : MethodName := ⟨bR_K, "resource", "(IIZ)Z"⟩
abbrev brm_K_resource : Room := { frames := 2, cells := 0, slots := 0, locals := 47 }
theorem bh_K_resource : by_K_resource.cls = bR_K ∧ by_K_resource.cls ≠ "java/lang/invoke/MethodHandle" ∧ by_K_resource.cls ≠ "java/lang/invoke/VarHandle" ∧ (parseMethodDescriptor by_K_resource.desc).map (fun d => d.parameters.length) = some 3 := by decide +kernel
abbrev bc_K_tank : ByteArray := prog_1_method_5_code
abbrev by_K_tank : MethodName := ⟨bR_K, "tank", "(III)Z"⟩
abbrev brm_K_tank : Room := { frames := 2, cells := 0, slots := 0, locals := 42 }
theorem bh_K_tank : by_K_tank.cls = bR_K ∧ by_K_tank.cls ≠ "java/lang/invoke/MethodHandle" ∧ by_K_tank.cls ≠ "java/lang/invoke/VarHandle" ∧ (parseMethodDescriptor by_K_tank.desc).map (fun d => d.parameters.length) = some 3 := by decide +kernel
abbrev bc_K_activate : ByteArray := prog_1_method_6_code
abbrev by_K_activate : MethodName := ⟨bR_K, "activate", "(II)Z"⟩
abbrev brm_K_activate : Room := { frames := 1, cells := 0, slots := 0, locals := 23 }
theorem bh_K_activate : by_K_activate.cls = bR_K ∧ by_K_activate.cls ≠ "java/lang/invoke/MethodHandle" ∧ by_K_activate.cls ≠ "java/lang/invoke/VarHandle" ∧ (parseMethodDescriptor by_K_activate.desc).map (fun d => d.parameters.length) = some 2 := by decide +kernel
abbrev bc_K_interrupt : ByteArray := prog_1_method_7_code
abbrev by_K_interrupt : MethodName := ⟨bR_K, "interrupt", "(I)Z"⟩
abbrev brm_K_interrupt : Room := { frames := 2, cells := 0, slots := 0, locals := 47 }
theorem bh_K_interrupt : by_K_interrupt.cls = bR_K ∧ by_K_interrupt.cls ≠ "java/lang/invoke/MethodHandle" ∧ by_K_interrupt.cls ≠ "java/lang/invoke/VarHandle" ∧ (parseMethodDescriptor by_K_interrupt.desc).map (fun d => d.parameters.length) = some 1 := by decide +kernel
abbrev bc_K_kill : ByteArray := prog_1_method_8_code
abbrev by_K_kill : MethodName := ⟨bR_K, "kill", "(I)Z"⟩
abbrev brm_K_kill : Room := { frames := 3, cells := 0, slots := 0, locals := 70 }
theorem bh_K_kill : by_K_kill.cls = bR_K ∧ by_K_kill.cls ≠ "java/lang/invoke/MethodHandle" ∧ by_K_kill.cls ≠ "java/lang/invoke/VarHandle" ∧ (parseMethodDescriptor by_K_kill.desc).map (fun d => d.parameters.length) = some 1 := by decide +kernel
abbrev bc_K_run : ByteArray := prog_1_method_9_code
abbrev by_K_run : MethodName := ⟨bR_K, "run", "(IJ)I"⟩
abbrev brm_K_run : Room := { frames := 6, cells := 0, slots := 0, locals := 140 }
theorem bh_K_run : by_K_run.cls = bR_K ∧ by_K_run.cls ≠ "java/lang/invoke/MethodHandle" ∧ by_K_run.cls ≠ "java/lang/invoke/VarHandle" ∧ (parseMethodDescriptor by_K_run.desc).map (fun d => d.parameters.length) = some 2 := by decide +kernel
abbrev bc_K_now : ByteArray := prog_1_method_10_code
abbrev by_K_now : MethodName := ⟨bR_K, "now", "()J"⟩
abbrev brm_K_now : Room := { frames := 0, cells := 0, slots := 0, locals := 0 }
theorem bh_K_now : by_K_now.cls = bR_K ∧ by_K_now.cls ≠ "java/lang/invoke/MethodHandle" ∧ by_K_now.cls ≠ "java/lang/invoke/VarHandle" ∧ (parseMethodDescriptor by_K_now.desc).map (fun d => d.parameters.length) = some 0 := by decide +kernel
abbrev bc_K_next : ByteArray := prog_1_method_11_code
abbrev by_K_next : MethodName := ⟨bR_K, "next", "()J"⟩
abbrev brm_K_next : Room := { frames := 2, cells := 0, slots := 0, locals := 43 }
theorem bh_K_next : by_K_next.cls = bR_K ∧ by_K_next.cls ≠ "java/lang/invoke/MethodHandle" ∧ by_K_next.cls ≠ "java/lang/invoke/VarHandle" ∧ (parseMethodDescriptor by_K_next.desc).map (fun d => d.parameters.length) = some 0 := by decide +kernel
abbrev bc_K_state : ByteArray := prog_1_method_12_code
abbrev by_K_state : MethodName := ⟨bR_K, "state", "(I)I"⟩
abbrev brm_K_state : Room := { frames := 1, cells := 0, slots := 0, locals := 21 }
theorem bh_K_state : by_K_state.cls = bR_K ∧ by_K_state.cls ≠ "java/lang/invoke/MethodHandle" ∧ by_K_state.cls ≠ "java/lang/invoke/VarHandle" ∧ (parseMethodDescriptor by_K_state.desc).map (fun d => d.parameters.length) = some 1 := by decide +kernel
abbrev bc_K_place : ByteArray := prog_1_method_13_code
abbrev by_K_place : MethodName := ⟨bR_K, "place", "(I)I"⟩
abbrev brm_K_place : Room := { frames := 1, cells := 0, slots := 0, locals := 21 }
theorem bh_K_place : by_K_place.cls = bR_K ∧ by_K_place.cls ≠ "java/lang/invoke/MethodHandle" ∧ by_K_place.cls ≠ "java/lang/invoke/VarHandle" ∧ (parseMethodDescriptor by_K_place.desc).map (fun d => d.parameters.length) = some 1 := by decide +kernel
abbrev bc_K_held : ByteArray := prog_1_method_14_code
abbrev by_K_held : MethodName := ⟨bR_K, "held", "(II)I"⟩
abbrev brm_K_held : Room := { frames := 2, cells := 0, slots := 0, locals := 42 }
theorem bh_K_held : by_K_held.cls = bR_K ∧ by_K_held.cls ≠ "java/lang/invoke/MethodHandle" ∧ by_K_held.cls ≠ "java/lang/invoke/VarHandle" ∧ (parseMethodDescriptor by_K_held.desc).map (fun d => d.parameters.length) = some 2 := by decide +kernel
abbrev bc_K_free : ByteArray := prog_1_method_15_code
abbrev by_K_free : MethodName := ⟨bR_K, "free", "(I)I"⟩
abbrev brm_K_free : Room := { frames := 2, cells := 0, slots := 0, locals := 42 }
theorem bh_K_free : by_K_free.cls = bR_K ∧ by_K_free.cls ≠ "java/lang/invoke/MethodHandle" ∧ by_K_free.cls ≠ "java/lang/invoke/VarHandle" ∧ (parseMethodDescriptor by_K_free.desc).map (fun d => d.parameters.length) = some 1 := by decide +kernel
abbrev bc_K_waiting : ByteArray := prog_1_method_16_code
abbrev by_K_waiting : MethodName := ⟨bR_K, "waiting", "(I)I"⟩
abbrev brm_K_waiting : Room := { frames := 2, cells := 0, slots := 0, locals := 42 }
theorem bh_K_waiting : by_K_waiting.cls = bR_K ∧ by_K_waiting.cls ≠ "java/lang/invoke/MethodHandle" ∧ by_K_waiting.cls ≠ "java/lang/invoke/VarHandle" ∧ (parseMethodDescriptor by_K_waiting.desc).map (fun d => d.parameters.length) = some 1 := by decide +kernel
abbrev bc_K_area : ByteArray := prog_1_method_17_code
abbrev by_K_area : MethodName := ⟨bR_K, "area", "(I)J"⟩
abbrev brm_K_area : Room := { frames := 2, cells := 0, slots := 0, locals := 42 }
theorem bh_K_area : by_K_area.cls = bR_K ∧ by_K_area.cls ≠ "java/lang/invoke/MethodHandle" ∧ by_K_area.cls ≠ "java/lang/invoke/VarHandle" ∧ (parseMethodDescriptor by_K_area.desc).map (fun d => d.parameters.length) = some 1 := by decide +kernel
abbrev bc_K_waited : ByteArray := prog_1_method_18_code
abbrev by_K_waited : MethodName := ⟨bR_K, "waited", "(I)J"⟩
abbrev brm_K_waited : Room := { frames := 2, cells := 0, slots := 0, locals := 42 }
theorem bh_K_waited : by_K_waited.cls = bR_K ∧ by_K_waited.cls ≠ "java/lang/invoke/MethodHandle" ∧ by_K_waited.cls ≠ "java/lang/invoke/VarHandle" ∧ (parseMethodDescriptor by_K_waited.desc).map (fun d => d.parameters.length) = some 1 := by decide +kernel
abbrev bc_K_level : ByteArray := prog_1_method_19_code
abbrev by_K_level : MethodName := ⟨bR_K, "level", "(I)I"⟩
abbrev brm_K_level : Room := { frames := 2, cells := 0, slots := 0, locals := 42 }
theorem bh_K_level : by_K_level.cls = bR_K ∧ by_K_level.cls ≠ "java/lang/invoke/MethodHandle" ∧ by_K_level.cls ≠ "java/lang/invoke/VarHandle" ∧ (parseMethodDescriptor by_K_level.desc).map (fun d => d.parameters.length) = some 1 := by decide +kernel
abbrev bc_K_stuck : ByteArray := prog_1_method_20_code
abbrev by_K_stuck : MethodName := ⟨bR_K, "stuck", "()Z"⟩
abbrev brm_K_stuck : Room := { frames := 2, cells := 0, slots := 0, locals := 43 }
theorem bh_K_stuck : by_K_stuck.cls = bR_K ∧ by_K_stuck.cls ≠ "java/lang/invoke/MethodHandle" ∧ by_K_stuck.cls ≠ "java/lang/invoke/VarHandle" ∧ (parseMethodDescriptor by_K_stuck.desc).map (fun d => d.parameters.length) = some 0 := by decide +kernel
abbrev bc_K_traced : ByteArray := prog_1_method_21_code
abbrev by_K_traced : MethodName := ⟨bR_K, "traced", "(I)I"⟩
abbrev brm_K_traced : Room := { frames := 1, cells := 0, slots := 0, locals := 21 }
theorem bh_K_traced : by_K_traced.cls = bR_K ∧ by_K_traced.cls ≠ "java/lang/invoke/MethodHandle" ∧ by_K_traced.cls ≠ "java/lang/invoke/VarHandle" ∧ (parseMethodDescriptor by_K_traced.desc).map (fun d => d.parameters.length) = some 1 := by decide +kernel
abbrev bc_K_isWithin : ByteArray := prog_1_method_22_code
abbrev by_K_isWithin : MethodName := ⟨bR_K, "isWithin", "(III)Z"⟩
abbrev brm_K_isWithin : Room := { frames := 0, cells := 0, slots := 0, locals := 0 }
theorem bh_K_isWithin : by_K_isWithin.cls = bR_K ∧ by_K_isWithin.cls ≠ "java/lang/invoke/MethodHandle" ∧ by_K_isWithin.cls ≠ "java/lang/invoke/VarHandle" ∧ (parseMethodDescriptor by_K_isWithin.desc).map (fun d => d.parameters.length) = some 3 := by decide +kernel
abbrev bc_K_isResource : ByteArray := prog_1_method_23_code
abbrev by_K_isResource : MethodName := ⟨bR_K, "isResource", "(I)Z"⟩
abbrev brm_K_isResource : Room := { frames := 1, cells := 0, slots := 0, locals := 22 }
theorem bh_K_isResource : by_K_isResource.cls = bR_K ∧ by_K_isResource.cls ≠ "java/lang/invoke/MethodHandle" ∧ by_K_isResource.cls ≠ "java/lang/invoke/VarHandle" ∧ (parseMethodDescriptor by_K_isResource.desc).map (fun d => d.parameters.length) = some 1 := by decide +kernel
abbrev bc_K_isTank : ByteArray := prog_1_method_24_code
abbrev by_K_isTank : MethodName := ⟨bR_K, "isTank", "(I)Z"⟩
abbrev brm_K_isTank : Room := { frames := 1, cells := 0, slots := 0, locals := 22 }
theorem bh_K_isTank : by_K_isTank.cls = bR_K ∧ by_K_isTank.cls ≠ "java/lang/invoke/MethodHandle" ∧ by_K_isTank.cls ≠ "java/lang/invoke/VarHandle" ∧ (parseMethodDescriptor by_K_isTank.desc).map (fun d => d.parameters.length) = some 1 := by decide +kernel
abbrev bc_K_isProcess : ByteArray := prog_1_method_25_code
abbrev by_K_isProcess : MethodName := ⟨bR_K, "isProcess", "(I)Z"⟩
abbrev brm_K_isProcess : Room := { frames := 0, cells := 0, slots := 0, locals := 0 }
theorem bh_K_isProcess : by_K_isProcess.cls = bR_K ∧ by_K_isProcess.cls ≠ "java/lang/invoke/MethodHandle" ∧ by_K_isProcess.cls ≠ "java/lang/invoke/VarHandle" ∧ (parseMethodDescriptor by_K_isProcess.desc).map (fun d => d.parameters.length) = some 1 := by decide +kernel
abbrev bc_K_isInstruction : ByteArray := prog_1_method_26_code
abbrev by_K_isInstruction : MethodName := ⟨bR_K, "isInstruction", "(III)Z"⟩
abbrev brm_K_isInstruction : Room := { frames := 2, cells := 0, slots := 0, locals := 42 }
theorem bh_K_isInstruction : by_K_isInstruction.cls = bR_K ∧ by_K_isInstruction.cls ≠ "java/lang/invoke/MethodHandle" ∧ by_K_isInstruction.cls ≠ "java/lang/invoke/VarHandle" ∧ (parseMethodDescriptor by_K_isInstruction.desc).map (fun d => d.parameters.length) = some 3 := by decide +kernel
abbrev bc_K_moveClock : ByteArray := prog_1_method_27_code
abbrev by_K_moveClock : MethodName := ⟨bR_K, "moveClock", "(J)V"⟩
abbrev brm_K_moveClock : Room := { frames := 0, cells := 0, slots := 0, locals := 0 }
theorem bh_K_moveClock : by_K_moveClock.cls = bR_K ∧ by_K_moveClock.cls ≠ "java/lang/invoke/MethodHandle" ∧ by_K_moveClock.cls ≠ "java/lang/invoke/VarHandle" ∧ (parseMethodDescriptor by_K_moveClock.desc).map (fun d => d.parameters.length) = some 1 := by decide +kernel
abbrev bc_K_enter : ByteArray := prog_1_method_28_code
abbrev by_K_enter : MethodName := ⟨bR_K, "enter", "(LBatonKernel$Proc;II)V"⟩
abbrev brm_K_enter : Room := { frames := 0, cells := 0, slots := 0, locals := 0 }
theorem bh_K_enter : by_K_enter.cls = bR_K ∧ by_K_enter.cls ≠ "java/lang/invoke/MethodHandle" ∧ by_K_enter.cls ≠ "java/lang/invoke/VarHandle" ∧ (parseMethodDescriptor by_K_enter.desc).map (fun d => d.parameters.length) = some 3 := by decide +kernel
abbrev bc_K_firstEntry : ByteArray := prog_1_method_29_code
abbrev by_K_firstEntry : MethodName := ⟨bR_K, "firstEntry", "()I"⟩
abbrev brm_K_firstEntry : Room := { frames := 1, cells := 0, slots := 0, locals := 21 }
theorem bh_K_firstEntry : by_K_firstEntry.cls = bR_K ∧ by_K_firstEntry.cls ≠ "java/lang/invoke/MethodHandle" ∧ by_K_firstEntry.cls ≠ "java/lang/invoke/VarHandle" ∧ (parseMethodDescriptor by_K_firstEntry.desc).map (fun d => d.parameters.length) = some 0 := by decide +kernel
abbrev bc_K_begin : ByteArray := prog_1_method_30_code
abbrev by_K_begin : MethodName := ⟨bR_K, "begin", "(LBatonKernel$Proc;)V"⟩
abbrev brm_K_begin : Room := { frames := 2, cells := 0, slots := 0, locals := 42 }
theorem bh_K_begin : by_K_begin.cls = bR_K ∧ by_K_begin.cls ≠ "java/lang/invoke/MethodHandle" ∧ by_K_begin.cls ≠ "java/lang/invoke/VarHandle" ∧ (parseMethodDescriptor by_K_begin.desc).map (fun d => d.parameters.length) = some 1 := by decide +kernel
abbrev bc_K_doTurn : ByteArray := prog_1_method_31_code
abbrev by_K_doTurn : MethodName := ⟨bR_K, "doTurn", "(LBatonKernel$Proc;)V"⟩
abbrev brm_K_doTurn : Room := { frames := 5, cells := 0, slots := 0, locals := 117 }
theorem bh_K_doTurn : by_K_doTurn.cls = bR_K ∧ by_K_doTurn.cls ≠ "java/lang/invoke/MethodHandle" ∧ by_K_doTurn.cls ≠ "java/lang/invoke/VarHandle" ∧ (parseMethodDescriptor by_K_doTurn.desc).map (fun d => d.parameters.length) = some 1 := by decide +kernel
abbrev bc_K_perform : ByteArray := prog_1_method_32_code
abbrev by_K_perform : MethodName := ⟨bR_K, "perform", "(LBatonKernel$Proc;)Z"⟩
abbrev brm_K_perform : Room := { frames := 4, cells := 0, slots := 0, locals := 95 }
theorem bh_K_perform : by_K_perform.cls = bR_K ∧ by_K_perform.cls ≠ "java/lang/invoke/MethodHandle" ∧ by_K_perform.cls ≠ "java/lang/invoke/VarHandle" ∧ (parseMethodDescriptor by_K_perform.desc).map (fun d => d.parameters.length) = some 1 := by decide +kernel
abbrev bc_K_countBefore : ByteArray := prog_1_method_33_code
abbrev by_K_countBefore : MethodName := ⟨bR_K, "countBefore", "(II)I"⟩
abbrev brm_K_countBefore : Room := { frames := 0, cells := 0, slots := 0, locals := 0 }
theorem bh_K_countBefore : by_K_countBefore.cls = bR_K ∧ by_K_countBefore.cls ≠ "java/lang/invoke/MethodHandle" ∧ by_K_countBefore.cls ≠ "java/lang/invoke/VarHandle" ∧ (parseMethodDescriptor by_K_countBefore.desc).map (fun d => d.parameters.length) = some 2 := by decide +kernel
abbrev bc_K_seizeFree : ByteArray := prog_1_method_34_code
abbrev by_K_seizeFree : MethodName := ⟨bR_K, "seizeFree", "(LBatonKernel$Proc;)Z"⟩
abbrev brm_K_seizeFree : Room := { frames := 1, cells := 0, slots := 0, locals := 24 }
theorem bh_K_seizeFree : by_K_seizeFree.cls = bR_K ∧ by_K_seizeFree.cls ≠ "java/lang/invoke/MethodHandle" ∧ by_K_seizeFree.cls ≠ "java/lang/invoke/VarHandle" ∧ (parseMethodDescriptor by_K_seizeFree.desc).map (fun d => d.parameters.length) = some 1 := by decide +kernel
abbrev bc_K_seizeByForce : ByteArray := prog_1_method_35_code
abbrev by_K_seizeByForce : MethodName := ⟨bR_K, "seizeByForce", "(LBatonKernel$Proc;)Z"⟩
abbrev brm_K_seizeByForce : Room := { frames := 3, cells := 0, slots := 0, locals := 70 }
theorem bh_K_seizeByForce : by_K_seizeByForce.cls = bR_K ∧ by_K_seizeByForce.cls ≠ "java/lang/invoke/MethodHandle" ∧ by_K_seizeByForce.cls ≠ "java/lang/invoke/VarHandle" ∧ (parseMethodDescriptor by_K_seizeByForce.desc).map (fun d => d.parameters.length) = some 1 := by decide +kernel
abbrev bc_K_standInLine : ByteArray := prog_1_method_36_code
abbrev by_K_standInLine : MethodName := ⟨bR_K, "standInLine", "(LBatonKernel$Proc;)Z"⟩
abbrev brm_K_standInLine : Room := { frames := 1, cells := 0, slots := 0, locals := 24 }
theorem bh_K_standInLine : by_K_standInLine.cls = bR_K ∧ by_K_standInLine.cls ≠ "java/lang/invoke/MethodHandle" ∧ by_K_standInLine.cls ≠ "java/lang/invoke/VarHandle" ∧ (parseMethodDescriptor by_K_standInLine.desc).map (fun d => d.parameters.length) = some 1 := by decide +kernel
abbrev bc_K_withinReach : ByteArray := prog_1_method_37_code
abbrev by_K_withinReach : MethodName := ⟨bR_K, "withinReach", "(LBatonKernel$Proc;I)I"⟩
abbrev brm_K_withinReach : Room := { frames := 1, cells := 0, slots := 0, locals := 20 }
theorem bh_K_withinReach : by_K_withinReach.cls = bR_K ∧ by_K_withinReach.cls ≠ "java/lang/invoke/MethodHandle" ∧ by_K_withinReach.cls ≠ "java/lang/invoke/VarHandle" ∧ (parseMethodDescriptor by_K_withinReach.desc).map (fun d => d.parameters.length) = some 2 := by decide +kernel
abbrev bc_K_takeFromLosers : ByteArray := prog_1_method_38_code
abbrev by_K_takeFromLosers : MethodName := ⟨bR_K, "takeFromLosers", "(LBatonKernel$Proc;II)I"⟩
abbrev brm_K_takeFromLosers : Room := { frames := 1, cells := 0, slots := 0, locals := 25 }
theorem bh_K_takeFromLosers : by_K_takeFromLosers.cls = bR_K ∧ by_K_takeFromLosers.cls ≠ "java/lang/invoke/MethodHandle" ∧ by_K_takeFromLosers.cls ≠ "java/lang/invoke/VarHandle" ∧ (parseMethodDescriptor by_K_takeFromLosers.desc).map (fun d => d.parameters.length) = some 3 := by decide +kernel
abbrev bc_K_nextLoser : ByteArray := prog_1_method_39_code
abbrev by_K_nextLoser : MethodName := ⟨bR_K, "nextLoser", "(LBatonKernel$Proc;I)I"⟩
abbrev brm_K_nextLoser : Room := { frames := 0, cells := 0, slots := 0, locals := 0 }
theorem bh_K_nextLoser : by_K_nextLoser.cls = bR_K ∧ by_K_nextLoser.cls ≠ "java/lang/invoke/MethodHandle" ∧ by_K_nextLoser.cls ≠ "java/lang/invoke/VarHandle" ∧ (parseMethodDescriptor by_K_nextLoser.desc).map (fun d => d.parameters.length) = some 2 := by decide +kernel
abbrev bc_K_give : ByteArray := prog_1_method_40_code
abbrev by_K_give : MethodName := ⟨bR_K, "give", "(LBatonKernel$Proc;II)V"⟩
abbrev brm_K_give : Room := { frames := 0, cells := 0, slots := 0, locals := 0 }
theorem bh_K_give : by_K_give.cls = bR_K ∧ by_K_give.cls ≠ "java/lang/invoke/MethodHandle" ∧ by_K_give.cls ≠ "java/lang/invoke/VarHandle" ∧ (parseMethodDescriptor by_K_give.desc).map (fun d => d.parameters.length) = some 3 := by decide +kernel
abbrev bc_K_takeBack : ByteArray := prog_1_method_41_code
abbrev by_K_takeBack : MethodName := ⟨bR_K, "takeBack", "(LBatonKernel$Proc;II)V"⟩
abbrev brm_K_takeBack : Room := { frames := 0, cells := 0, slots := 0, locals := 0 }
theorem bh_K_takeBack : by_K_takeBack.cls = bR_K ∧ by_K_takeBack.cls ≠ "java/lang/invoke/MethodHandle" ∧ by_K_takeBack.cls ≠ "java/lang/invoke/VarHandle" ∧ (parseMethodDescriptor by_K_takeBack.desc).map (fun d => d.parameters.length) = some 3 := by decide +kernel
abbrev bc_K_giveBack : ByteArray := prog_1_method_42_code
abbrev by_K_giveBack : MethodName := ⟨bR_K, "giveBack", "(LBatonKernel$Proc;II)V"⟩
abbrev brm_K_giveBack : Room := { frames := 2, cells := 0, slots := 0, locals := 47 }
theorem bh_K_giveBack : by_K_giveBack.cls = bR_K ∧ by_K_giveBack.cls ≠ "java/lang/invoke/MethodHandle" ∧ by_K_giveBack.cls ≠ "java/lang/invoke/VarHandle" ∧ (parseMethodDescriptor by_K_giveBack.desc).map (fun d => d.parameters.length) = some 3 := by decide +kernel
abbrev bc_K_serve : ByteArray := prog_1_method_43_code
abbrev by_K_serve : MethodName := ⟨bR_K, "serve", "(I)V"⟩
abbrev brm_K_serve : Room := { frames := 1, cells := 0, slots := 0, locals := 23 }
theorem bh_K_serve : by_K_serve.cls = bR_K ∧ by_K_serve.cls ≠ "java/lang/invoke/MethodHandle" ∧ by_K_serve.cls ≠ "java/lang/invoke/VarHandle" ∧ (parseMethodDescriptor by_K_serve.desc).map (fun d => d.parameters.length) = some 1 := by decide +kernel
abbrev bc_K_meetCondition : ByteArray := prog_1_method_44_code
abbrev by_K_meetCondition : MethodName := ⟨bR_K, "meetCondition", "(LBatonKernel$Proc;)Z"⟩
abbrev brm_K_meetCondition : Room := { frames := 1, cells := 0, slots := 0, locals := 21 }
theorem bh_K_meetCondition : by_K_meetCondition.cls = bR_K ∧ by_K_meetCondition.cls ≠ "java/lang/invoke/MethodHandle" ∧ by_K_meetCondition.cls ≠ "java/lang/invoke/VarHandle" ∧ (parseMethodDescriptor by_K_meetCondition.desc).map (fun d => d.parameters.length) = some 1 := by decide +kernel
abbrev bc_K_waitForCondition : ByteArray := prog_1_method_45_code
abbrev by_K_waitForCondition : MethodName := ⟨bR_K, "waitForCondition", "(LBatonKernel$Proc;)Z"⟩
abbrev brm_K_waitForCondition : Room := { frames := 1, cells := 0, slots := 0, locals := 23 }
theorem bh_K_waitForCondition : by_K_waitForCondition.cls = bR_K ∧ by_K_waitForCondition.cls ≠ "java/lang/invoke/MethodHandle" ∧ by_K_waitForCondition.cls ≠ "java/lang/invoke/VarHandle" ∧ (parseMethodDescriptor by_K_waitForCondition.desc).map (fun d => d.parameters.length) = some 1 := by decide +kernel
abbrev bc_K_goOverConditions : ByteArray := prog_1_method_46_code
abbrev by_K_goOverConditions : MethodName := ⟨bR_K, "goOverConditions", "()V"⟩
abbrev brm_K_goOverConditions : Room := { frames := 2, cells := 0, slots := 0, locals := 43 }
theorem bh_K_goOverConditions : by_K_goOverConditions.cls = bR_K ∧ by_K_goOverConditions.cls ≠ "java/lang/invoke/MethodHandle" ∧ by_K_goOverConditions.cls ≠ "java/lang/invoke/VarHandle" ∧ (parseMethodDescriptor by_K_goOverConditions.desc).map (fun d => d.parameters.length) = some 0 := by decide +kernel
abbrev bc_K_lineOf : ByteArray := prog_1_method_47_code
abbrev by_K_lineOf : MethodName := ⟨bR_K, "lineOf", "(LBatonKernel$Proc;)I"⟩
abbrev brm_K_lineOf : Room := { frames := 1, cells := 0, slots := 0, locals := 20 }
theorem bh_K_lineOf : by_K_lineOf.cls = bR_K ∧ by_K_lineOf.cls ≠ "java/lang/invoke/MethodHandle" ∧ by_K_lineOf.cls ≠ "java/lang/invoke/VarHandle" ∧ (parseMethodDescriptor by_K_lineOf.desc).map (fun d => d.parameters.length) = some 1 := by decide +kernel
abbrev bc_K_leave : ByteArray := prog_1_method_48_code
abbrev by_K_leave : MethodName := ⟨bR_K, "leave", "(LBatonKernel$Proc;)V"⟩
abbrev brm_K_leave : Room := { frames := 1, cells := 0, slots := 0, locals := 23 }
theorem bh_K_leave : by_K_leave.cls = bR_K ∧ by_K_leave.cls ≠ "java/lang/invoke/MethodHandle" ∧ by_K_leave.cls ≠ "java/lang/invoke/VarHandle" ∧ (parseMethodDescriptor by_K_leave.desc).map (fun d => d.parameters.length) = some 1 := by decide +kernel
abbrev bR_M : String := "BatonKernelModel"
def bT_M : u_T := fun k => match k with
  | 0 => ("BatonKernelModel", "count", "I", false)
  | 1 => ("BatonKernelModel", "order", "I", false)
  | 2 => ("BatonKernelModel", "coming", "I", false)
  | 3 => ("BatonKernelModel", "events", "I", false)
  | 4 => ("BatonKernelModel", "clock", "J", false)
  | 5 => ("BatonKernelModel", "priority", "[I", false)
  | 6 => ("BatonKernelModel", "rounds", "[I", false)
  | 7 => ("BatonKernelModel", "handler", "[I", false)
  | 8 => ("BatonKernelModel", "length", "[I", false)
  | 9 => ("BatonKernelModel", "spot", "[I", false)
  | 10 => ("BatonKernelModel", "mode", "[I", false)
  | 11 => ("BatonKernelModel", "time", "[J", false)
  | 12 => ("BatonKernelModel", "entry", "[I", false)
  | 13 => ("BatonKernelModel", "came", "[I", false)
  | 14 => ("BatonKernelModel", "since", "[J", false)
  | 15 => ("BatonKernelModel", "op", "[I", false)
  | 16 => ("BatonKernelModel", "argA", "[I", false)
  | 17 => ("BatonKernelModel", "argB", "[I", false)
  | 18 => ("BatonKernelModel", "has", "[I", false)
  | 19 => ("BatonKernelModel", "units", "[I", false)
  | 20 => ("BatonKernelModel", "strong", "[Z", false)
  | 21 => ("BatonKernelModel", "sum", "[J", false)
  | 22 => ("BatonKernelModel", "lined", "[J", false)
  | 23 => ("BatonKernelModel", "most", "[I", false)
  | 24 => ("BatonKernelModel", "full", "[I", false)
  | 25 => ("BatonKernelModel", "lost", "[I", false)
  | _ => ("BatonKernelModel", "trace", "[I", false)
def bty_M : Nat → FieldType := fun k => match k with
  | 0 => .int
  | 1 => .int
  | 2 => .int
  | 3 => .int
  | 4 => .long
  | 5 => .array .int
  | 6 => .array .int
  | 7 => .array .int
  | 8 => .array .int
  | 9 => .array .int
  | 10 => .array .int
  | 11 => .array .long
  | 12 => .array .int
  | 13 => .array .int
  | 14 => .array .long
  | 15 => .array .int
  | 16 => .array .int
  | 17 => .array .int
  | 18 => .array .int
  | 19 => .array .int
  | 20 => .array .boolean
  | 21 => .array .long
  | 22 => .array .long
  | 23 => .array .int
  | 24 => .array .int
  | 25 => .array .int
  | _ => .array .int
theorem bn_M : ∀ a, a < 27 → ∀ b, b < 27 → a ≠ b → (bT_M a).2.1 ≠ (bT_M b).2.1 := by decide +kernel
theorem bo_M : ∀ k, k < 27 → parseFieldDescriptor (bT_M k).2.2.1 = some (bty_M k) := by decide +kernel
theorem bcl_M (k : Nat) : (bT_M k).1 = bR_M := by unfold bT_M; split <;> rfl
abbrev bc_M_init : ByteArray := prog_8_method_1_code
abbrev by_M_init : MethodName := ⟨bR_M, "<init>", "()V"⟩
abbrev brm_M_init : Room := { frames := 1, cells := 0, slots := 0, locals := 21 }
theorem bh_M_init : by_M_init.cls = bR_M ∧ by_M_init.cls ≠ "java/lang/invoke/MethodHandle" ∧ by_M_init.cls ≠ "java/lang/invoke/VarHandle" ∧ (parseMethodDescriptor by_M_init.desc).map (fun d => d.parameters.length) = some 0 := by decide +kernel
abbrev bc_M_process : ByteArray := prog_8_method_2_code
abbrev by_M_process : MethodName := ⟨bR_M, "process", "(III)I"⟩
abbrev brm_M_process : Room := { frames := 0, cells := 0, slots := 0, locals := 0 }
theorem bh_M_process : by_M_process.cls = bR_M ∧ by_M_process.cls ≠ "java/lang/invoke/MethodHandle" ∧ by_M_process.cls ≠ "java/lang/invoke/VarHandle" ∧ (parseMethodDescriptor by_M_process.desc).map (fun d => d.parameters.length) = some 3 := by decide +kernel
abbrev bc_M_within : ByteArray := prog_8_method_3_code
abbrev by_M_within : MethodName := ⟨bR_M, "within", "(III)Z"⟩
abbrev brm_M_within : Room := { frames := 0, cells := 0, slots := 0, locals := 0 }
theorem bh_M_within : by_M_within.cls = bR_M ∧ by_M_within.cls ≠ "java/lang/invoke/MethodHandle" ∧ by_M_within.cls ≠ "java/lang/invoke/VarHandle" ∧ (parseMethodDescriptor by_M_within.desc).map (fun d => d.parameters.length) = some 3 := by decide +kernel
abbrev bc_M_fits : ByteArray := prog_8_method_4_code
abbrev by_M_fits : MethodName := ⟨bR_M, "fits", "(III)Z"⟩
abbrev brm_M_fits : Room := { frames := 1, cells := 0, slots := 0, locals := 23 }
theorem bh_M_fits : by_M_fits.cls = bR_M ∧ by_M_fits.cls ≠ "java/lang/invoke/MethodHandle" ∧ by_M_fits.cls ≠ "java/lang/invoke/VarHandle" ∧ (parseMethodDescriptor by_M_fits.desc).map (fun d => d.parameters.length) = some 3 := by decide +kernel
abbrev bc_M_none : ByteArray := prog_8_method_5_code
abbrev by_M_none : MethodName := ⟨bR_M, "none", "(I)Z"⟩
abbrev brm_M_none : Room := { frames := 0, cells := 0, slots := 0, locals := 0 }
theorem bh_M_none : by_M_none.cls = bR_M ∧ by_M_none.cls ≠ "java/lang/invoke/MethodHandle" ∧ by_M_none.cls ≠ "java/lang/invoke/VarHandle" ∧ (parseMethodDescriptor by_M_none.desc).map (fun d => d.parameters.length) = some 1 := by decide +kernel
abbrev bc_M_instruct : ByteArray := prog_8_method_6_code
abbrev by_M_instruct : MethodName := ⟨bR_M, "instruct", "(IIII)Z"⟩
abbrev brm_M_instruct : Room := { frames := 2, cells := 0, slots := 0, locals := 46 }
theorem bh_M_instruct : by_M_instruct.cls = bR_M ∧ by_M_instruct.cls ≠ "java/lang/invoke/MethodHandle" ∧ by_M_instruct.cls ≠ "java/lang/invoke/VarHandle" ∧ (parseMethodDescriptor by_M_instruct.desc).map (fun d => d.parameters.length) = some 4 := by decide +kernel
abbrev bc_M_resource : ByteArray := prog_8_method_7_code
abbrev by_M_resource : MethodName := ⟨bR_M, "resource", "(IIZ)Z"⟩
abbrev brm_M_resource : Room := { frames := 3, cells := 0, slots := 0, locals := 67 }
theorem bh_M_resource : by_M_resource.cls = bR_M ∧ by_M_resource.cls ≠ "java/lang/invoke/MethodHandle" ∧ by_M_resource.cls ≠ "java/lang/invoke/VarHandle" ∧ (parseMethodDescriptor by_M_resource.desc).map (fun d => d.parameters.length) = some 3 := by decide +kernel
abbrev bc_M_tank : ByteArray := prog_8_method_8_code
abbrev by_M_tank : MethodName := ⟨bR_M, "tank", "(III)Z"⟩
abbrev brm_M_tank : Room := { frames := 1, cells := 0, slots := 0, locals := 23 }
theorem bh_M_tank : by_M_tank.cls = bR_M ∧ by_M_tank.cls ≠ "java/lang/invoke/MethodHandle" ∧ by_M_tank.cls ≠ "java/lang/invoke/VarHandle" ∧ (parseMethodDescriptor by_M_tank.desc).map (fun d => d.parameters.length) = some 3 := by decide +kernel
abbrev bc_M_enter : ByteArray := prog_8_method_9_code
abbrev by_M_enter : MethodName := ⟨bR_M, "enter", "(IIJ)V"⟩
abbrev brm_M_enter : Room := { frames := 0, cells := 0, slots := 0, locals := 0 }
theorem bh_M_enter : by_M_enter.cls = bR_M ∧ by_M_enter.cls ≠ "java/lang/invoke/MethodHandle" ∧ by_M_enter.cls ≠ "java/lang/invoke/VarHandle" ∧ (parseMethodDescriptor by_M_enter.desc).map (fun d => d.parameters.length) = some 3 := by decide +kernel
abbrev bc_M_sooner : ByteArray := prog_8_method_10_code
abbrev by_M_sooner : MethodName := ⟨bR_M, "sooner", "(II)Z"⟩
abbrev brm_M_sooner : Room := { frames := 0, cells := 0, slots := 0, locals := 0 }
theorem bh_M_sooner : by_M_sooner.cls = bR_M ∧ by_M_sooner.cls ≠ "java/lang/invoke/MethodHandle" ∧ by_M_sooner.cls ≠ "java/lang/invoke/VarHandle" ∧ (parseMethodDescriptor by_M_sooner.desc).map (fun d => d.parameters.length) = some 2 := by decide +kernel
abbrev bc_M_first : ByteArray := prog_8_method_11_code
abbrev by_M_first : MethodName := ⟨bR_M, "first", "()I"⟩
abbrev brm_M_first : Room := { frames := 1, cells := 0, slots := 0, locals := 22 }
theorem bh_M_first : by_M_first.cls = bR_M ∧ by_M_first.cls ≠ "java/lang/invoke/MethodHandle" ∧ by_M_first.cls ≠ "java/lang/invoke/VarHandle" ∧ (parseMethodDescriptor by_M_first.desc).map (fun d => d.parameters.length) = some 0 := by decide +kernel
abbrev bc_M_seized : ByteArray := prog_8_method_12_code
abbrev by_M_seized : MethodName := ⟨bR_M, "seized", "(I)I"⟩
abbrev brm_M_seized : Room := { frames := 0, cells := 0, slots := 0, locals := 0 }
theorem bh_M_seized : by_M_seized.cls = bR_M ∧ by_M_seized.cls ≠ "java/lang/invoke/MethodHandle" ∧ by_M_seized.cls ≠ "java/lang/invoke/VarHandle" ∧ (parseMethodDescriptor by_M_seized.desc).map (fun d => d.parameters.length) = some 1 := by decide +kernel
abbrev bc_M_rest : ByteArray := prog_8_method_13_code
abbrev by_M_rest : MethodName := ⟨bR_M, "rest", "(I)I"⟩
abbrev brm_M_rest : Room := { frames := 1, cells := 0, slots := 0, locals := 23 }
theorem bh_M_rest : by_M_rest.cls = bR_M ∧ by_M_rest.cls ≠ "java/lang/invoke/MethodHandle" ∧ by_M_rest.cls ≠ "java/lang/invoke/VarHandle" ∧ (parseMethodDescriptor by_M_rest.desc).map (fun d => d.parameters.length) = some 1 := by decide +kernel
abbrev bc_M_done : ByteArray := prog_8_method_14_code
abbrev by_M_done : MethodName := ⟨bR_M, "done", "(I)I"⟩
abbrev brm_M_done : Room := { frames := 0, cells := 0, slots := 0, locals := 0 }
theorem bh_M_done : by_M_done.cls = bR_M ∧ by_M_done.cls ≠ "java/lang/invoke/MethodHandle" ∧ by_M_done.cls ≠ "java/lang/invoke/VarHandle" ∧ (parseMethodDescriptor by_M_done.desc).map (fun d => d.parameters.length) = some 1 := by decide +kernel
abbrev bc_M_head : ByteArray := prog_8_method_15_code
abbrev by_M_head : MethodName := ⟨bR_M, "head", "(I)I"⟩
abbrev brm_M_head : Room := { frames := 1, cells := 0, slots := 0, locals := 21 }
theorem bh_M_head : by_M_head.cls = bR_M ∧ by_M_head.cls ≠ "java/lang/invoke/MethodHandle" ∧ by_M_head.cls ≠ "java/lang/invoke/VarHandle" ∧ (parseMethodDescriptor by_M_head.desc).map (fun d => d.parameters.length) = some 1 := by decide +kernel
abbrev bc_M_serve : ByteArray := prog_8_method_16_code
abbrev by_M_serve : MethodName := ⟨bR_M, "serve", "(I)V"⟩
abbrev brm_M_serve : Room := { frames := 2, cells := 0, slots := 0, locals := 44 }
theorem bh_M_serve : by_M_serve.cls = bR_M ∧ by_M_serve.cls ≠ "java/lang/invoke/MethodHandle" ∧ by_M_serve.cls ≠ "java/lang/invoke/VarHandle" ∧ (parseMethodDescriptor by_M_serve.desc).map (fun d => d.parameters.length) = some 1 := by decide +kernel
abbrev bc_M_seize : ByteArray := prog_8_method_17_code
abbrev by_M_seize : MethodName := ⟨bR_M, "seize", "(III)Z"⟩
abbrev brm_M_seize : Room := { frames := 5, cells := 0, slots := 0, locals := 115 }
theorem bh_M_seize : by_M_seize.cls = bR_M ∧ by_M_seize.cls ≠ "java/lang/invoke/MethodHandle" ∧ by_M_seize.cls ≠ "java/lang/invoke/VarHandle" ∧ (parseMethodDescriptor by_M_seize.desc).map (fun d => d.parameters.length) = some 3 := by decide +kernel
abbrev bc_M_reach : ByteArray := prog_8_method_18_code
abbrev by_M_reach : MethodName := ⟨bR_M, "reach", "(II)I"⟩
abbrev brm_M_reach : Room := { frames := 2, cells := 0, slots := 0, locals := 44 }
theorem bh_M_reach : by_M_reach.cls = bR_M ∧ by_M_reach.cls ≠ "java/lang/invoke/MethodHandle" ∧ by_M_reach.cls ≠ "java/lang/invoke/VarHandle" ∧ (parseMethodDescriptor by_M_reach.desc).map (fun d => d.parameters.length) = some 2 := by decide +kernel
abbrev bc_M_victim : ByteArray := prog_8_method_19_code
abbrev by_M_victim : MethodName := ⟨bR_M, "victim", "(II)I"⟩
abbrev brm_M_victim : Room := { frames := 0, cells := 0, slots := 0, locals := 0 }
theorem bh_M_victim : by_M_victim.cls = bR_M ∧ by_M_victim.cls ≠ "java/lang/invoke/MethodHandle" ∧ by_M_victim.cls ≠ "java/lang/invoke/VarHandle" ∧ (parseMethodDescriptor by_M_victim.desc).map (fun d => d.parameters.length) = some 2 := by decide +kernel
abbrev bc_M_preempt : ByteArray := prog_8_method_20_code
abbrev by_M_preempt : MethodName := ⟨bR_M, "preempt", "(III)V"⟩
abbrev brm_M_preempt : Room := { frames := 4, cells := 0, slots := 0, locals := 89 }
theorem bh_M_preempt : by_M_preempt.cls = bR_M ∧ by_M_preempt.cls ≠ "java/lang/invoke/MethodHandle" ∧ by_M_preempt.cls ≠ "java/lang/invoke/VarHandle" ∧ (parseMethodDescriptor by_M_preempt.desc).map (fun d => d.parameters.length) = some 3 := by decide +kernel
abbrev bc_M_release : ByteArray := prog_8_method_21_code
abbrev by_M_release : MethodName := ⟨bR_M, "release", "(III)V"⟩
abbrev brm_M_release : Room := { frames := 3, cells := 0, slots := 0, locals := 67 }
theorem bh_M_release : by_M_release.cls = bR_M ∧ by_M_release.cls ≠ "java/lang/invoke/MethodHandle" ∧ by_M_release.cls ≠ "java/lang/invoke/VarHandle" ∧ (parseMethodDescriptor by_M_release.desc).map (fun d => d.parameters.length) = some 3 := by decide +kernel
abbrev bc_M_holds : ByteArray := prog_8_method_22_code
abbrev by_M_holds : MethodName := ⟨bR_M, "holds", "(I)Z"⟩
abbrev brm_M_holds : Room := { frames := 0, cells := 0, slots := 0, locals := 0 }
theorem bh_M_holds : by_M_holds.cls = bR_M ∧ by_M_holds.cls ≠ "java/lang/invoke/MethodHandle" ∧ by_M_holds.cls ≠ "java/lang/invoke/VarHandle" ∧ (parseMethodDescriptor by_M_holds.desc).map (fun d => d.parameters.length) = some 1 := by decide +kernel
abbrev bc_M_pour : ByteArray := prog_8_method_23_code
abbrev by_M_pour : MethodName := ⟨bR_M, "pour", "(I)V"⟩
abbrev brm_M_pour : Room := { frames := 0, cells := 0, slots := 0, locals := 0 }
theorem bh_M_pour : by_M_pour.cls = bR_M ∧ by_M_pour.cls ≠ "java/lang/invoke/MethodHandle" ∧ by_M_pour.cls ≠ "java/lang/invoke/VarHandle" ∧ (parseMethodDescriptor by_M_pour.desc).map (fun d => d.parameters.length) = some 1 := by decide +kernel
abbrev bc_M_goOver : ByteArray := prog_8_method_24_code
abbrev by_M_goOver : MethodName := ⟨bR_M, "goOver", "()V"⟩
abbrev brm_M_goOver : Room := { frames := 1, cells := 0, slots := 0, locals := 24 }
theorem bh_M_goOver : by_M_goOver.cls = bR_M ∧ by_M_goOver.cls ≠ "java/lang/invoke/MethodHandle" ∧ by_M_goOver.cls ≠ "java/lang/invoke/VarHandle" ∧ (parseMethodDescriptor by_M_goOver.desc).map (fun d => d.parameters.length) = some 0 := by decide +kernel
abbrev bc_M_perform : ByteArray := prog_8_method_25_code
abbrev by_M_perform : MethodName := ⟨bR_M, "perform", "(II)Z"⟩
abbrev brm_M_perform : Room := { frames := 6, cells := 0, slots := 0, locals := 140 }
theorem bh_M_perform : by_M_perform.cls = bR_M ∧ by_M_perform.cls ≠ "java/lang/invoke/MethodHandle" ∧ by_M_perform.cls ≠ "java/lang/invoke/VarHandle" ∧ (parseMethodDescriptor by_M_perform.desc).map (fun d => d.parameters.length) = some 2 := by decide +kernel
abbrev bc_M_turn : ByteArray := prog_8_method_26_code
abbrev by_M_turn : MethodName := ⟨bR_M, "turn", "(I)V"⟩
abbrev brm_M_turn : Room := { frames := 7, cells := 0, slots := 0, locals := 163 }
theorem bh_M_turn : by_M_turn.cls = bR_M ∧ by_M_turn.cls ≠ "java/lang/invoke/MethodHandle" ∧ by_M_turn.cls ≠ "java/lang/invoke/VarHandle" ∧ (parseMethodDescriptor by_M_turn.desc).map (fun d => d.parameters.length) = some 1 := by decide +kernel
abbrev bc_M_advance : ByteArray := prog_8_method_27_code
abbrev by_M_advance : MethodName := ⟨bR_M, "advance", "(J)V"⟩
abbrev brm_M_advance : Room := { frames := 1, cells := 0, slots := 0, locals := 23 }
theorem bh_M_advance : by_M_advance.cls = bR_M ∧ by_M_advance.cls ≠ "java/lang/invoke/MethodHandle" ∧ by_M_advance.cls ≠ "java/lang/invoke/VarHandle" ∧ (parseMethodDescriptor by_M_advance.desc).map (fun d => d.parameters.length) = some 1 := by decide +kernel
abbrev bc_M_event : ByteArray := prog_8_method_28_code
abbrev by_M_event : MethodName := ⟨bR_M, "event", "(I)V"⟩
abbrev brm_M_event : Room := { frames := 8, cells := 0, slots := 0, locals := 185 }
theorem bh_M_event : by_M_event.cls = bR_M ∧ by_M_event.cls ≠ "java/lang/invoke/MethodHandle" ∧ by_M_event.cls ≠ "java/lang/invoke/VarHandle" ∧ (parseMethodDescriptor by_M_event.desc).map (fun d => d.parameters.length) = some 1 := by decide +kernel
abbrev bc_M_run : ByteArray := prog_8_method_29_code
abbrev by_M_run : MethodName := ⟨bR_M, "run", "(IJ)I"⟩
abbrev brm_M_run : Room := { frames := 9, cells := 0, slots := 0, locals := 207 }
theorem bh_M_run : by_M_run.cls = bR_M ∧ by_M_run.cls ≠ "java/lang/invoke/MethodHandle" ∧ by_M_run.cls ≠ "java/lang/invoke/VarHandle" ∧ (parseMethodDescriptor by_M_run.desc).map (fun d => d.parameters.length) = some 2 := by decide +kernel
abbrev bc_M_activate : ByteArray := prog_8_method_30_code
abbrev by_M_activate : MethodName := ⟨bR_M, "activate", "(II)Z"⟩
abbrev brm_M_activate : Room := { frames := 1, cells := 0, slots := 0, locals := 24 }
theorem bh_M_activate : by_M_activate.cls = bR_M ∧ by_M_activate.cls ≠ "java/lang/invoke/MethodHandle" ∧ by_M_activate.cls ≠ "java/lang/invoke/VarHandle" ∧ (parseMethodDescriptor by_M_activate.desc).map (fun d => d.parameters.length) = some 2 := by decide +kernel
abbrev bc_M_interrupt : ByteArray := prog_8_method_31_code
abbrev by_M_interrupt : MethodName := ⟨bR_M, "interrupt", "(I)Z"⟩
abbrev brm_M_interrupt : Room := { frames := 3, cells := 0, slots := 0, locals := 67 }
theorem bh_M_interrupt : by_M_interrupt.cls = bR_M ∧ by_M_interrupt.cls ≠ "java/lang/invoke/MethodHandle" ∧ by_M_interrupt.cls ≠ "java/lang/invoke/VarHandle" ∧ (parseMethodDescriptor by_M_interrupt.desc).map (fun d => d.parameters.length) = some 1 := by decide +kernel
abbrev bc_M_kill : ByteArray := prog_8_method_32_code
abbrev by_M_kill : MethodName := ⟨bR_M, "kill", "(I)Z"⟩
abbrev brm_M_kill : Room := { frames := 4, cells := 0, slots := 0, locals := 91 }
theorem bh_M_kill : by_M_kill.cls = bR_M ∧ by_M_kill.cls ≠ "java/lang/invoke/MethodHandle" ∧ by_M_kill.cls ≠ "java/lang/invoke/VarHandle" ∧ (parseMethodDescriptor by_M_kill.desc).map (fun d => d.parameters.length) = some 1 := by decide +kernel
abbrev bc_M_now : ByteArray := prog_8_method_33_code
abbrev by_M_now : MethodName := ⟨bR_M, "now", "()J"⟩
abbrev brm_M_now : Room := { frames := 0, cells := 0, slots := 0, locals := 0 }
theorem bh_M_now : by_M_now.cls = bR_M ∧ by_M_now.cls ≠ "java/lang/invoke/MethodHandle" ∧ by_M_now.cls ≠ "java/lang/invoke/VarHandle" ∧ (parseMethodDescriptor by_M_now.desc).map (fun d => d.parameters.length) = some 0 := by decide +kernel
abbrev bc_M_next : ByteArray := prog_8_method_34_code
abbrev by_M_next : MethodName := ⟨bR_M, "next", "()J"⟩
abbrev brm_M_next : Room := { frames := 2, cells := 0, slots := 0, locals := 44 }
theorem bh_M_next : by_M_next.cls = bR_M ∧ by_M_next.cls ≠ "java/lang/invoke/MethodHandle" ∧ by_M_next.cls ≠ "java/lang/invoke/VarHandle" ∧ (parseMethodDescriptor by_M_next.desc).map (fun d => d.parameters.length) = some 0 := by decide +kernel
abbrev bc_M_state : ByteArray := prog_8_method_35_code
abbrev by_M_state : MethodName := ⟨bR_M, "state", "(I)I"⟩
abbrev brm_M_state : Room := { frames := 1, cells := 0, slots := 0, locals := 21 }
theorem bh_M_state : by_M_state.cls = bR_M ∧ by_M_state.cls ≠ "java/lang/invoke/MethodHandle" ∧ by_M_state.cls ≠ "java/lang/invoke/VarHandle" ∧ (parseMethodDescriptor by_M_state.desc).map (fun d => d.parameters.length) = some 1 := by decide +kernel
abbrev bc_M_place : ByteArray := prog_8_method_36_code
abbrev by_M_place : MethodName := ⟨bR_M, "place", "(I)I"⟩
abbrev brm_M_place : Room := { frames := 1, cells := 0, slots := 0, locals := 21 }
theorem bh_M_place : by_M_place.cls = bR_M ∧ by_M_place.cls ≠ "java/lang/invoke/MethodHandle" ∧ by_M_place.cls ≠ "java/lang/invoke/VarHandle" ∧ (parseMethodDescriptor by_M_place.desc).map (fun d => d.parameters.length) = some 1 := by decide +kernel
abbrev bc_M_held : ByteArray := prog_8_method_37_code
abbrev by_M_held : MethodName := ⟨bR_M, "held", "(II)I"⟩
abbrev brm_M_held : Room := { frames := 1, cells := 0, slots := 0, locals := 23 }
theorem bh_M_held : by_M_held.cls = bR_M ∧ by_M_held.cls ≠ "java/lang/invoke/MethodHandle" ∧ by_M_held.cls ≠ "java/lang/invoke/VarHandle" ∧ (parseMethodDescriptor by_M_held.desc).map (fun d => d.parameters.length) = some 2 := by decide +kernel
abbrev bc_M_free : ByteArray := prog_8_method_38_code
abbrev by_M_free : MethodName := ⟨bR_M, "free", "(I)I"⟩
abbrev brm_M_free : Room := { frames := 2, cells := 0, slots := 0, locals := 44 }
theorem bh_M_free : by_M_free.cls = bR_M ∧ by_M_free.cls ≠ "java/lang/invoke/MethodHandle" ∧ by_M_free.cls ≠ "java/lang/invoke/VarHandle" ∧ (parseMethodDescriptor by_M_free.desc).map (fun d => d.parameters.length) = some 1 := by decide +kernel
abbrev bc_M_waiting : ByteArray := prog_8_method_39_code
abbrev by_M_waiting : MethodName := ⟨bR_M, "waiting", "(I)I"⟩
abbrev brm_M_waiting : Room := { frames := 1, cells := 0, slots := 0, locals := 23 }
theorem bh_M_waiting : by_M_waiting.cls = bR_M ∧ by_M_waiting.cls ≠ "java/lang/invoke/MethodHandle" ∧ by_M_waiting.cls ≠ "java/lang/invoke/VarHandle" ∧ (parseMethodDescriptor by_M_waiting.desc).map (fun d => d.parameters.length) = some 1 := by decide +kernel
abbrev bc_M_area : ByteArray := prog_8_method_40_code
abbrev by_M_area : MethodName := ⟨bR_M, "area", "(I)J"⟩
abbrev brm_M_area : Room := { frames := 1, cells := 0, slots := 0, locals := 23 }
theorem bh_M_area : by_M_area.cls = bR_M ∧ by_M_area.cls ≠ "java/lang/invoke/MethodHandle" ∧ by_M_area.cls ≠ "java/lang/invoke/VarHandle" ∧ (parseMethodDescriptor by_M_area.desc).map (fun d => d.parameters.length) = some 1 := by decide +kernel
abbrev bc_M_waited : ByteArray := prog_8_method_41_code
abbrev by_M_waited : MethodName := ⟨bR_M, "waited", "(I)J"⟩
abbrev brm_M_waited : Room := { frames := 1, cells := 0, slots := 0, locals := 23 }
theorem bh_M_waited : by_M_waited.cls = bR_M ∧ by_M_waited.cls ≠ "java/lang/invoke/MethodHandle" ∧ by_M_waited.cls ≠ "java/lang/invoke/VarHandle" ∧ (parseMethodDescriptor by_M_waited.desc).map (fun d => d.parameters.length) = some 1 := by decide +kernel
abbrev bc_M_level : ByteArray := prog_8_method_42_code
abbrev by_M_level : MethodName := ⟨bR_M, "level", "(I)I"⟩
abbrev brm_M_level : Room := { frames := 1, cells := 0, slots := 0, locals := 23 }
theorem bh_M_level : by_M_level.cls = bR_M ∧ by_M_level.cls ≠ "java/lang/invoke/MethodHandle" ∧ by_M_level.cls ≠ "java/lang/invoke/VarHandle" ∧ (parseMethodDescriptor by_M_level.desc).map (fun d => d.parameters.length) = some 1 := by decide +kernel
abbrev bc_M_stuck : ByteArray := prog_8_method_43_code
abbrev by_M_stuck : MethodName := ⟨bR_M, "stuck", "()Z"⟩
abbrev brm_M_stuck : Room := { frames := 2, cells := 0, slots := 0, locals := 44 }
theorem bh_M_stuck : by_M_stuck.cls = bR_M ∧ by_M_stuck.cls ≠ "java/lang/invoke/MethodHandle" ∧ by_M_stuck.cls ≠ "java/lang/invoke/VarHandle" ∧ (parseMethodDescriptor by_M_stuck.desc).map (fun d => d.parameters.length) = some 0 := by decide +kernel
abbrev bc_M_traced : ByteArray := prog_8_method_44_code
abbrev by_M_traced : MethodName := ⟨bR_M, "traced", "(I)I"⟩
abbrev brm_M_traced : Room := { frames := 1, cells := 0, slots := 0, locals := 23 }
theorem bh_M_traced : by_M_traced.cls = bR_M ∧ by_M_traced.cls ≠ "java/lang/invoke/MethodHandle" ∧ by_M_traced.cls ≠ "java/lang/invoke/VarHandle" ∧ (parseMethodDescriptor by_M_traced.desc).map (fun d => d.parameters.length) = some 1 := by decide +kernel
abbrev bR_L : String := "BatonKernel$Line"
def bT_L : u_T := fun k => match k with
  | 0 => ("BatonKernel$Line", "members", "[I", true)
  | _ => ("BatonKernel$Line", "size", "I", false)
def bty_L : Nat → FieldType := fun k => match k with
  | 0 => .array .int
  | _ => .int
theorem bn_L : ∀ a, a < 2 → ∀ b, b < 2 → a ≠ b → (bT_L a).2.1 ≠ (bT_L b).2.1 := by decide +kernel
theorem bo_L : ∀ k, k < 2 → parseFieldDescriptor (bT_L k).2.2.1 = some (bty_L k) := by decide +kernel
theorem bcl_L (k : Nat) : (bT_L k).1 = bR_L := by unfold bT_L; split <;> rfl
abbrev bc_L_init : ByteArray := prog_2_method_1_code
abbrev by_L_init : MethodName := ⟨bR_L, "<init>", "()V"⟩
abbrev brm_L_init : Room := { frames := 1, cells := 0, slots := 0, locals := 21 }
theorem bh_L_init : by_L_init.cls = bR_L ∧ by_L_init.cls ≠ "java/lang/invoke/MethodHandle" ∧ by_L_init.cls ≠ "java/lang/invoke/VarHandle" ∧ (parseMethodDescriptor by_L_init.desc).map (fun d => d.parameters.length) = some 0 := by decide +kernel
abbrev bc_L_insert : ByteArray := prog_2_method_2_code
abbrev by_L_insert : MethodName := ⟨bR_L, "insert", "(II)V"⟩
abbrev brm_L_insert : Room := { frames := 0, cells := 0, slots := 0, locals := 0 }
theorem bh_L_insert : by_L_insert.cls = bR_L ∧ by_L_insert.cls ≠ "java/lang/invoke/MethodHandle" ∧ by_L_insert.cls ≠ "java/lang/invoke/VarHandle" ∧ (parseMethodDescriptor by_L_insert.desc).map (fun d => d.parameters.length) = some 2 := by decide +kernel
abbrev bc_L_drop : ByteArray := prog_2_method_3_code
abbrev by_L_drop : MethodName := ⟨bR_L, "drop", "(I)V"⟩
abbrev brm_L_drop : Room := { frames := 0, cells := 0, slots := 0, locals := 0 }
theorem bh_L_drop : by_L_drop.cls = bR_L ∧ by_L_drop.cls ≠ "java/lang/invoke/MethodHandle" ∧ by_L_drop.cls ≠ "java/lang/invoke/VarHandle" ∧ (parseMethodDescriptor by_L_drop.desc).map (fun d => d.parameters.length) = some 1 := by decide +kernel
abbrev bR_P : String := "BatonKernel$Proc"
def bT_P : u_T := fun k => match k with
  | 0 => ("BatonKernel$Proc", "number", "I", true)
  | 1 => ("BatonKernel$Proc", "ops", "[I", true)
  | 2 => ("BatonKernel$Proc", "as", "[I", true)
  | 3 => ("BatonKernel$Proc", "bs", "[I", true)
  | 4 => ("BatonKernel$Proc", "units", "[I", true)
  | 5 => ("BatonKernel$Proc", "length", "I", false)
  | 6 => ("BatonKernel$Proc", "priority", "I", false)
  | 7 => ("BatonKernel$Proc", "roundsLeft", "I", false)
  | 8 => ("BatonKernel$Proc", "handler", "I", false)
  | 9 => ("BatonKernel$Proc", "state", "I", false)
  | 10 => ("BatonKernel$Proc", "place", "I", false)
  | 11 => ("BatonKernel$Proc", "doing", "I", false)
  | 12 => ("BatonKernel$Proc", "listed", "Z", false)
  | 13 => ("BatonKernel$Proc", "time", "J", false)
  | 14 => ("BatonKernel$Proc", "entry", "J", false)
  | _ => ("BatonKernel$Proc", "since", "J", false)
def bty_P : Nat → FieldType := fun k => match k with
  | 0 => .int
  | 1 => .array .int
  | 2 => .array .int
  | 3 => .array .int
  | 4 => .array .int
  | 5 => .int
  | 6 => .int
  | 7 => .int
  | 8 => .int
  | 9 => .int
  | 10 => .int
  | 11 => .int
  | 12 => .boolean
  | 13 => .long
  | 14 => .long
  | _ => .long
theorem bn_P : ∀ a, a < 16 → ∀ b, b < 16 → a ≠ b → (bT_P a).2.1 ≠ (bT_P b).2.1 := by decide +kernel
theorem bo_P : ∀ k, k < 16 → parseFieldDescriptor (bT_P k).2.2.1 = some (bty_P k) := by decide +kernel
theorem bcl_P (k : Nat) : (bT_P k).1 = bR_P := by unfold bT_P; split <;> rfl
abbrev bc_P_init : ByteArray := prog_3_method_1_code
abbrev by_P_init : MethodName := ⟨bR_P, "<init>", "(I)V"⟩
abbrev brm_P_init : Room := { frames := 1, cells := 0, slots := 0, locals := 21 }
theorem bh_P_init : by_P_init.cls = bR_P ∧ by_P_init.cls ≠ "java/lang/invoke/MethodHandle" ∧ by_P_init.cls ≠ "java/lang/invoke/VarHandle" ∧ (parseMethodDescriptor by_P_init.desc).map (fun d => d.parameters.length) = some 1 := by decide +kernel
abbrev bc_P_append : ByteArray := prog_3_method_2_code
abbrev by_P_append : MethodName := ⟨bR_P, "append", "(III)V"⟩
abbrev brm_P_append : Room := { frames := 0, cells := 0, slots := 0, locals := 0 }
theorem bh_P_append : by_P_append.cls = bR_P ∧ by_P_append.cls ≠ "java/lang/invoke/MethodHandle" ∧ by_P_append.cls ≠ "java/lang/invoke/VarHandle" ∧ (parseMethodDescriptor by_P_append.desc).map (fun d => d.parameters.length) = some 3 := by decide +kernel
abbrev bc_P_firstOperand : ByteArray := prog_3_method_3_code
abbrev by_P_firstOperand : MethodName := ⟨bR_P, "firstOperand", "()I"⟩
abbrev brm_P_firstOperand : Room := { frames := 0, cells := 0, slots := 0, locals := 0 }
theorem bh_P_firstOperand : by_P_firstOperand.cls = bR_P ∧ by_P_firstOperand.cls ≠ "java/lang/invoke/MethodHandle" ∧ by_P_firstOperand.cls ≠ "java/lang/invoke/VarHandle" ∧ (parseMethodDescriptor by_P_firstOperand.desc).map (fun d => d.parameters.length) = some 0 := by decide +kernel
abbrev bc_P_secondOperand : ByteArray := prog_3_method_4_code
abbrev by_P_secondOperand : MethodName := ⟨bR_P, "secondOperand", "()I"⟩
abbrev brm_P_secondOperand : Room := { frames := 0, cells := 0, slots := 0, locals := 0 }
theorem bh_P_secondOperand : by_P_secondOperand.cls = bR_P ∧ by_P_secondOperand.cls ≠ "java/lang/invoke/MethodHandle" ∧ by_P_secondOperand.cls ≠ "java/lang/invoke/VarHandle" ∧ (parseMethodDescriptor by_P_secondOperand.desc).map (fun d => d.parameters.length) = some 0 := by decide +kernel
abbrev bc_P_isOver : ByteArray := prog_3_method_5_code
abbrev by_P_isOver : MethodName := ⟨bR_P, "isOver", "()Z"⟩
abbrev brm_P_isOver : Room := { frames := 0, cells := 0, slots := 0, locals := 0 }
theorem bh_P_isOver : by_P_isOver.cls = bR_P ∧ by_P_isOver.cls ≠ "java/lang/invoke/MethodHandle" ∧ by_P_isOver.cls ≠ "java/lang/invoke/VarHandle" ∧ (parseMethodDescriptor by_P_isOver.desc).map (fun d => d.parameters.length) = some 0 := by decide +kernel
abbrev bc_P_isBreakable : ByteArray := prog_3_method_6_code
abbrev by_P_isBreakable : MethodName := ⟨bR_P, "isBreakable", "()Z"⟩
abbrev brm_P_isBreakable : Room := { frames := 0, cells := 0, slots := 0, locals := 0 }
theorem bh_P_isBreakable : by_P_isBreakable.cls = bR_P ∧ by_P_isBreakable.cls ≠ "java/lang/invoke/MethodHandle" ∧ by_P_isBreakable.cls ≠ "java/lang/invoke/VarHandle" ∧ (parseMethodDescriptor by_P_isBreakable.desc).map (fun d => d.parameters.length) = some 0 := by decide +kernel
abbrev bc_P_isBefore : ByteArray := prog_3_method_7_code
abbrev by_P_isBefore : MethodName := ⟨bR_P, "isBefore", "(LBatonKernel$Proc;)Z"⟩
abbrev brm_P_isBefore : Room := { frames := 0, cells := 0, slots := 0, locals := 0 }
theorem bh_P_isBefore : by_P_isBefore.cls = bR_P ∧ by_P_isBefore.cls ≠ "java/lang/invoke/MethodHandle" ∧ by_P_isBefore.cls ≠ "java/lang/invoke/VarHandle" ∧ (parseMethodDescriptor by_P_isBefore.desc).map (fun d => d.parameters.length) = some 1 := by decide +kernel
abbrev bc_P_beginRound : ByteArray := prog_3_method_8_code
abbrev by_P_beginRound : MethodName := ⟨bR_P, "beginRound", "()Z"⟩
abbrev brm_P_beginRound : Room := { frames := 0, cells := 0, slots := 0, locals := 0 }
theorem bh_P_beginRound : by_P_beginRound.cls = bR_P ∧ by_P_beginRound.cls ≠ "java/lang/invoke/MethodHandle" ∧ by_P_beginRound.cls ≠ "java/lang/invoke/VarHandle" ∧ (parseMethodDescriptor by_P_beginRound.desc).map (fun d => d.parameters.length) = some 0 := by decide +kernel
abbrev bR_E : String := "BatonKernel$Resource"
def bT_E : u_T := fun k => match k with
  | 0 => ("BatonKernel$Resource", "line", "LBatonKernel$Line;", true)
  | 1 => ("BatonKernel$Resource", "capacity", "I", false)
  | 2 => ("BatonKernel$Resource", "seized", "I", false)
  | 3 => ("BatonKernel$Resource", "preempts", "Z", false)
  | 4 => ("BatonKernel$Resource", "area", "J", false)
  | _ => ("BatonKernel$Resource", "waited", "J", false)
def bty_E : Nat → FieldType := fun k => match k with
  | 0 => .object "BatonKernel$Line"
  | 1 => .int
  | 2 => .int
  | 3 => .boolean
  | 4 => .long
  | _ => .long
theorem bn_E : ∀ a, a < 6 → ∀ b, b < 6 → a ≠ b → (bT_E a).2.1 ≠ (bT_E b).2.1 := by decide +kernel
theorem bo_E : ∀ k, k < 6 → parseFieldDescriptor (bT_E k).2.2.1 = some (bty_E k) := by decide +kernel
theorem bcl_E (k : Nat) : (bT_E k).1 = bR_E := by unfold bT_E; split <;> rfl
abbrev bc_E_init : ByteArray := prog_4_method_1_code
abbrev by_E_init : MethodName := ⟨bR_E, "<init>", "()V"⟩
abbrev brm_E_init : Room := { frames := 2, cells := 0, slots := 0, locals := 41 }
theorem bh_E_init : by_E_init.cls = bR_E ∧ by_E_init.cls ≠ "java/lang/invoke/MethodHandle" ∧ by_E_init.cls ≠ "java/lang/invoke/VarHandle" ∧ (parseMethodDescriptor by_E_init.desc).map (fun d => d.parameters.length) = some 0 := by decide +kernel
abbrev bc_E_unseized : ByteArray := prog_4_method_2_code
abbrev by_E_unseized : MethodName := ⟨bR_E, "unseized", "()I"⟩
abbrev brm_E_unseized : Room := { frames := 0, cells := 0, slots := 0, locals := 0 }
theorem bh_E_unseized : by_E_unseized.cls = bR_E ∧ by_E_unseized.cls ≠ "java/lang/invoke/MethodHandle" ∧ by_E_unseized.cls ≠ "java/lang/invoke/VarHandle" ∧ (parseMethodDescriptor by_E_unseized.desc).map (fun d => d.parameters.length) = some 0 := by decide +kernel
abbrev bR_T : String := "BatonKernel$Tank"
def bT_T : u_T := fun k => match k with
  | 0 => ("BatonKernel$Tank", "capacity", "I", false)
  | _ => ("BatonKernel$Tank", "level", "I", false)
def bty_T : Nat → FieldType := fun k => match k with
  | 0 => .int
  | _ => .int
theorem bn_T : ∀ a, a < 2 → ∀ b, b < 2 → a ≠ b → (bT_T a).2.1 ≠ (bT_T b).2.1 := by decide +kernel
theorem bo_T : ∀ k, k < 2 → parseFieldDescriptor (bT_T k).2.2.1 = some (bty_T k) := by decide +kernel
theorem bcl_T (k : Nat) : (bT_T k).1 = bR_T := by unfold bT_T; split <;> rfl
abbrev bc_T_init : ByteArray := prog_5_method_1_code
abbrev by_T_init : MethodName := ⟨bR_T, "<init>", "()V"⟩
abbrev brm_T_init : Room := { frames := 1, cells := 0, slots := 0, locals := 21 }
theorem bh_T_init : by_T_init.cls = bR_T ∧ by_T_init.cls ≠ "java/lang/invoke/MethodHandle" ∧ by_T_init.cls ≠ "java/lang/invoke/VarHandle" ∧ (parseMethodDescriptor by_T_init.desc).map (fun d => d.parameters.length) = some 0 := by decide +kernel
abbrev bc_T_put : ByteArray := prog_5_method_2_code
abbrev by_T_put : MethodName := ⟨bR_T, "put", "(I)Z"⟩
abbrev brm_T_put : Room := { frames := 0, cells := 0, slots := 0, locals := 0 }
theorem bh_T_put : by_T_put.cls = bR_T ∧ by_T_put.cls ≠ "java/lang/invoke/MethodHandle" ∧ by_T_put.cls ≠ "java/lang/invoke/VarHandle" ∧ (parseMethodDescriptor by_T_put.desc).map (fun d => d.parameters.length) = some 1 := by decide +kernel
abbrev bc_T_take : ByteArray := prog_5_method_3_code
abbrev by_T_take : MethodName := ⟨bR_T, "take", "(I)Z"⟩
abbrev brm_T_take : Room := { frames := 0, cells := 0, slots := 0, locals := 0 }
theorem bh_T_take : by_T_take.cls = bR_T ∧ by_T_take.cls ≠ "java/lang/invoke/MethodHandle" ∧ by_T_take.cls ≠ "java/lang/invoke/VarHandle" ∧ (parseMethodDescriptor by_T_take.desc).map (fun d => d.parameters.length) = some 1 := by decide +kernel
abbrev bR_C : String := "BatonKernel$Trace"
def bT_C : u_T := fun k => match k with
  | 0 => ("BatonKernel$Trace", "rows", "[I", true)
  | 1 => ("BatonKernel$Trace", "latest", "I", false)
  | _ => ("BatonKernel$Trace", "size", "I", false)
def bty_C : Nat → FieldType := fun k => match k with
  | 0 => .array .int
  | 1 => .int
  | _ => .int
theorem bn_C : ∀ a, a < 3 → ∀ b, b < 3 → a ≠ b → (bT_C a).2.1 ≠ (bT_C b).2.1 := by decide +kernel
theorem bo_C : ∀ k, k < 3 → parseFieldDescriptor (bT_C k).2.2.1 = some (bty_C k) := by decide +kernel
theorem bcl_C (k : Nat) : (bT_C k).1 = bR_C := by unfold bT_C; split <;> rfl
abbrev bc_C_init : ByteArray := prog_6_method_1_code
abbrev by_C_init : MethodName := ⟨bR_C, "<init>", "()V"⟩
abbrev brm_C_init : Room := { frames := 1, cells := 0, slots := 0, locals := 21 }
theorem bh_C_init : by_C_init.cls = bR_C ∧ by_C_init.cls ≠ "java/lang/invoke/MethodHandle" ∧ by_C_init.cls ≠ "java/lang/invoke/VarHandle" ∧ (parseMethodDescriptor by_C_init.desc).map (fun d => d.parameters.length) = some 0 := by decide +kernel
abbrev bc_C_add : ByteArray := prog_6_method_2_code
abbrev by_C_add : MethodName := ⟨bR_C, "add", "(I)V"⟩
abbrev brm_C_add : Room := { frames := 1, cells := 0, slots := 0, locals := 21 }
theorem bh_C_add : by_C_add.cls = bR_C ∧ by_C_add.cls ≠ "java/lang/invoke/MethodHandle" ∧ by_C_add.cls ≠ "java/lang/invoke/VarHandle" ∧ (parseMethodDescriptor by_C_add.desc).map (fun d => d.parameters.length) = some 1 := by decide +kernel
abbrev bc_C_before : ByteArray := prog_6_method_3_code
abbrev by_C_before : MethodName := ⟨bR_C, "before", "(I)I"⟩
abbrev brm_C_before : Room := { frames := 0, cells := 0, slots := 0, locals := 0 }
theorem bh_C_before : by_C_before.cls = bR_C ∧ by_C_before.cls ≠ "java/lang/invoke/MethodHandle" ∧ by_C_before.cls ≠ "java/lang/invoke/VarHandle" ∧ (parseMethodDescriptor by_C_before.desc).map (fun d => d.parameters.length) = some 1 := by decide +kernel
abbrev bR_W : String := "BatonKernelLaw"
end
section
theorem lw_in1 {w : Cond} (h : w ∈ tables_1_1) : w ∈ lw_tbl := List.mem_append_right _ (List.mem_append_left _ h)
theorem lw_in2 {w : Cond} (h : w ∈ tables_1_2) : w ∈ lw_tbl := List.mem_append_right _ (List.mem_append_right _ (List.mem_append_left _ h))
theorem lw_in3 {w : Cond} (h : w ∈ tables_1_3) : w ∈ lw_tbl := List.mem_append_right _ (List.mem_append_right _ (List.mem_append_right _ h))
theorem lw_sel {q : MethodName × Nat} (h : q ∈ lw_privs) : Cond.selects q.1.cls q.1 q.1 ∈ lw_tbl := List.mem_append_left _ (List.mem_map.mpr ⟨q, h, rfl⟩)
def lw_g : List Cond := lw_tbl.filter goodWord
theorem lw_gd {w : Cond} (h : w ∈ lw_tbl) (hg : goodWord w = true) : w ∈ lw_g := List.mem_filter.mpr ⟨h, hg⟩
theorem lw_gt {w : Cond} (h : w ∈ lw_g) : w ∈ lw_tbl := (List.mem_filter.mp h).1
theorem lw_good : ∀ w ∈ lw_g, goodWord w = true := fun w h => (List.mem_filter.mp h).2
theorem gi_in {y : MethodName} {bs : ByteArray} {n : Nat} {ret : Option FieldType} (h : Cond.code y bs n ret ∈ lw_g) : GoodIn lw_g (.code y bs n ret :: lw_g) := fun w hw => (List.mem_cons.mp hw).elim (fun e => ⟨e ▸ h, good_of_word (lw_good w (e ▸ h))⟩) (fun h9 => ⟨h9, good_of_word (lw_good w h9)⟩)
theorem gv_in {own C : String} {idx : Nat} {y : MethodName} {bs : ByteArray} {n : Nat} {ret : Option FieldType} (h1 : Cond.methodLink own idx y ∈ lw_g) (h2 : Cond.instanceMethod y ∈ lw_g) (h3 : Cond.selects C y y ∈ lw_g) (h4 : Cond.initialized C ∈ lw_g) (h5 : Cond.code y bs n ret ∈ lw_g) : GoodIn lw_g (wsV own idx C y (.code y bs n ret :: lw_g)) := by
  intro w hw
  rcases List.mem_append.mp hw with h | h
  · have hm : w ∈ lw_g := by
      simp only [List.mem_cons, List.not_mem_nil, or_false] at h
      rcases h with rfl | rfl | rfl | rfl
      · exact h1
      · exact h2
      · exact h3
      · exact h4
    exact ⟨hm, good_of_word (lw_good w hm)⟩
  · exact gi_in h5 w h
theorem gs_in {own : String} {idx : Nat} {y : MethodName} {bs : ByteArray} {n : Nat} {ret : Option FieldType} (h1 : Cond.methodLink own idx y ∈ lw_g) (h2 : Cond.static y ∈ lw_g) (h3 : Cond.initialized own ∈ lw_g) (h5 : Cond.code y bs n ret ∈ lw_g) : GoodIn lw_g (wsS own idx y (.code y bs n ret :: lw_g)) := by
  intro w hw
  rcases List.mem_append.mp hw with h | h
  · have hm : w ∈ lw_g := by
      simp only [List.mem_cons, List.not_mem_nil, or_false] at h
      rcases h with rfl | rfl | rfl
      · exact h1
      · exact h2
      · exact h3
    exact ⟨hm, good_of_word (lw_good w hm)⟩
  · exact gi_in h5 w h
theorem tw_1_1 : (Jvm.Cond.initialized "BatonKernel") ∈ lw_g := lw_gd (lw_in1 (List.mem_of_getElem? (i := 1) (by decide +kernel))) rfl
theorem tw_1_2 : (Jvm.Cond.initialized "BatonKernel$Line") ∈ lw_g := lw_gd (lw_in1 (List.mem_of_getElem? (i := 2) (by decide +kernel))) rfl
theorem tw_1_3 : (Jvm.Cond.initialized "BatonKernel$Trace") ∈ lw_g := lw_gd (lw_in1 (List.mem_of_getElem? (i := 3) (by decide +kernel))) rfl
theorem tw_1_4 : (Jvm.Cond.initialized "BatonKernel$Proc") ∈ lw_g := lw_gd (lw_in1 (List.mem_of_getElem? (i := 4) (by decide +kernel))) rfl
theorem tw_1_5 : (Jvm.Cond.initialized "BatonKernel$Resource") ∈ lw_g := lw_gd (lw_in1 (List.mem_of_getElem? (i := 5) (by decide +kernel))) rfl
theorem tw_1_6 : (Jvm.Cond.initialized "BatonKernel$Tank") ∈ lw_g := lw_gd (lw_in1 (List.mem_of_getElem? (i := 6) (by decide +kernel))) rfl
theorem tw_1_7 : (Jvm.Cond.initialized "BatonKernelModel") ∈ lw_g := lw_gd (lw_in1 (List.mem_of_getElem? (i := 7) (by decide +kernel))) rfl
theorem tw_1_8 : (Jvm.Cond.initialized "java/lang/Math") ∈ lw_g := lw_gd (lw_in1 (List.mem_of_getElem? (i := 8) (by decide +kernel))) rfl
theorem tw_1_29 : (Jvm.Cond.fieldLink "BatonKernel$Line" (9 : Nat) "BatonKernel$Line" "members" "[I") ∈ lw_g := lw_gd (lw_in1 (List.mem_of_getElem? (i := 29) (by decide +kernel))) rfl
theorem tw_1_30 : (Jvm.Cond.fieldLink "BatonKernel" (251 : Nat) "BatonKernel$Line" "members" "[I") ∈ lw_g := lw_gd (lw_in1 (List.mem_of_getElem? (i := 30) (by decide +kernel))) rfl
theorem tw_1_31 : (Jvm.Cond.fieldLink "BatonKernel$Line" (15 : Nat) "BatonKernel$Line" "size" "I") ∈ lw_g := lw_gd (lw_in1 (List.mem_of_getElem? (i := 31) (by decide +kernel))) rfl
theorem tw_1_32 : (Jvm.Cond.fieldLink "BatonKernel" (182 : Nat) "BatonKernel$Line" "size" "I") ∈ lw_g := lw_gd (lw_in1 (List.mem_of_getElem? (i := 32) (by decide +kernel))) rfl
theorem tw_1_33 : (Jvm.Cond.laysFinal "BatonKernel$Line" "BatonKernel$Line" "members" "[I") ∈ lw_g := lw_gd (lw_in1 (List.mem_of_getElem? (i := 33) (by decide +kernel))) rfl
theorem tw_1_35 : (Jvm.Cond.lays "BatonKernel$Line" "BatonKernel$Line" "size" "I") ∈ lw_g := lw_gd (lw_in1 (List.mem_of_getElem? (i := 35) (by decide +kernel))) rfl
theorem tw_1_45 : (Jvm.Cond.fieldLink "BatonKernel$Trace" (9 : Nat) "BatonKernel$Trace" "rows" "[I") ∈ lw_g := lw_gd (lw_in1 (List.mem_of_getElem? (i := 45) (by decide +kernel))) rfl
theorem tw_1_46 : (Jvm.Cond.fieldLink "BatonKernel$Trace" (15 : Nat) "BatonKernel$Trace" "latest" "I") ∈ lw_g := lw_gd (lw_in1 (List.mem_of_getElem? (i := 46) (by decide +kernel))) rfl
theorem tw_1_47 : (Jvm.Cond.fieldLink "BatonKernel$Trace" (19 : Nat) "BatonKernel$Trace" "size" "I") ∈ lw_g := lw_gd (lw_in1 (List.mem_of_getElem? (i := 47) (by decide +kernel))) rfl
theorem tw_1_48 : (Jvm.Cond.laysFinal "BatonKernel$Trace" "BatonKernel$Trace" "rows" "[I") ∈ lw_g := lw_gd (lw_in1 (List.mem_of_getElem? (i := 48) (by decide +kernel))) rfl
theorem tw_1_50 : (Jvm.Cond.lays "BatonKernel$Trace" "BatonKernel$Trace" "latest" "I") ∈ lw_g := lw_gd (lw_in1 (List.mem_of_getElem? (i := 50) (by decide +kernel))) rfl
theorem tw_1_52 : (Jvm.Cond.lays "BatonKernel$Trace" "BatonKernel$Trace" "size" "I") ∈ lw_g := lw_gd (lw_in1 (List.mem_of_getElem? (i := 52) (by decide +kernel))) rfl
theorem tw_1_61 : (Jvm.Cond.fieldLink "BatonKernel" (74 : Nat) "BatonKernel$Proc" "number" "I") ∈ lw_g := lw_gd (lw_in1 (List.mem_of_getElem? (i := 61) (by decide +kernel))) rfl
theorem tw_1_62 : (Jvm.Cond.fieldLink "BatonKernel$Proc" (9 : Nat) "BatonKernel$Proc" "ops" "[I") ∈ lw_g := lw_gd (lw_in1 (List.mem_of_getElem? (i := 62) (by decide +kernel))) rfl
theorem tw_1_63 : (Jvm.Cond.fieldLink "BatonKernel" (140 : Nat) "BatonKernel$Proc" "ops" "[I") ∈ lw_g := lw_gd (lw_in1 (List.mem_of_getElem? (i := 63) (by decide +kernel))) rfl
theorem tw_1_64 : (Jvm.Cond.fieldLink "BatonKernel$Proc" (15 : Nat) "BatonKernel$Proc" "as" "[I") ∈ lw_g := lw_gd (lw_in1 (List.mem_of_getElem? (i := 64) (by decide +kernel))) rfl
theorem tw_1_65 : (Jvm.Cond.fieldLink "BatonKernel" (143 : Nat) "BatonKernel$Proc" "as" "[I") ∈ lw_g := lw_gd (lw_in1 (List.mem_of_getElem? (i := 65) (by decide +kernel))) rfl
theorem tw_1_66 : (Jvm.Cond.fieldLink "BatonKernel$Proc" (18 : Nat) "BatonKernel$Proc" "bs" "[I") ∈ lw_g := lw_gd (lw_in1 (List.mem_of_getElem? (i := 66) (by decide +kernel))) rfl
theorem tw_1_67 : (Jvm.Cond.fieldLink "BatonKernel" (146 : Nat) "BatonKernel$Proc" "bs" "[I") ∈ lw_g := lw_gd (lw_in1 (List.mem_of_getElem? (i := 67) (by decide +kernel))) rfl
theorem tw_1_69 : (Jvm.Cond.fieldLink "BatonKernel" (176 : Nat) "BatonKernel$Proc" "units" "[I") ∈ lw_g := lw_gd (lw_in1 (List.mem_of_getElem? (i := 69) (by decide +kernel))) rfl
theorem tw_1_70 : (Jvm.Cond.fieldLink "BatonKernel$Proc" (24 : Nat) "BatonKernel$Proc" "length" "I") ∈ lw_g := lw_gd (lw_in1 (List.mem_of_getElem? (i := 70) (by decide +kernel))) rfl
theorem tw_1_71 : (Jvm.Cond.fieldLink "BatonKernel" (87 : Nat) "BatonKernel$Proc" "length" "I") ∈ lw_g := lw_gd (lw_in1 (List.mem_of_getElem? (i := 71) (by decide +kernel))) rfl
theorem tw_1_72 : (Jvm.Cond.fieldLink "BatonKernel$Proc" (28 : Nat) "BatonKernel$Proc" "priority" "I") ∈ lw_g := lw_gd (lw_in1 (List.mem_of_getElem? (i := 72) (by decide +kernel))) rfl
theorem tw_1_73 : (Jvm.Cond.fieldLink "BatonKernel" (65 : Nat) "BatonKernel$Proc" "priority" "I") ∈ lw_g := lw_gd (lw_in1 (List.mem_of_getElem? (i := 73) (by decide +kernel))) rfl
theorem tw_1_74 : (Jvm.Cond.fieldLink "BatonKernel$Proc" (31 : Nat) "BatonKernel$Proc" "roundsLeft" "I") ∈ lw_g := lw_gd (lw_in1 (List.mem_of_getElem? (i := 74) (by decide +kernel))) rfl
theorem tw_1_75 : (Jvm.Cond.fieldLink "BatonKernel" (68 : Nat) "BatonKernel$Proc" "roundsLeft" "I") ∈ lw_g := lw_gd (lw_in1 (List.mem_of_getElem? (i := 75) (by decide +kernel))) rfl
theorem tw_1_77 : (Jvm.Cond.fieldLink "BatonKernel" (71 : Nat) "BatonKernel$Proc" "handler" "I") ∈ lw_g := lw_gd (lw_in1 (List.mem_of_getElem? (i := 77) (by decide +kernel))) rfl
theorem tw_1_78 : (Jvm.Cond.fieldLink "BatonKernel$Proc" (37 : Nat) "BatonKernel$Proc" "state" "I") ∈ lw_g := lw_gd (lw_in1 (List.mem_of_getElem? (i := 78) (by decide +kernel))) rfl
theorem tw_1_79 : (Jvm.Cond.fieldLink "BatonKernel" (84 : Nat) "BatonKernel$Proc" "state" "I") ∈ lw_g := lw_gd (lw_in1 (List.mem_of_getElem? (i := 79) (by decide +kernel))) rfl
theorem tw_1_80 : (Jvm.Cond.fieldLink "BatonKernel$Proc" (40 : Nat) "BatonKernel$Proc" "place" "I") ∈ lw_g := lw_gd (lw_in1 (List.mem_of_getElem? (i := 80) (by decide +kernel))) rfl
theorem tw_1_81 : (Jvm.Cond.fieldLink "BatonKernel" (134 : Nat) "BatonKernel$Proc" "place" "I") ∈ lw_g := lw_gd (lw_in1 (List.mem_of_getElem? (i := 81) (by decide +kernel))) rfl
theorem tw_1_82 : (Jvm.Cond.fieldLink "BatonKernel$Proc" (43 : Nat) "BatonKernel$Proc" "doing" "I") ∈ lw_g := lw_gd (lw_in1 (List.mem_of_getElem? (i := 82) (by decide +kernel))) rfl
theorem tw_1_83 : (Jvm.Cond.fieldLink "BatonKernel" (217 : Nat) "BatonKernel$Proc" "doing" "I") ∈ lw_g := lw_gd (lw_in1 (List.mem_of_getElem? (i := 83) (by decide +kernel))) rfl
theorem tw_1_85 : (Jvm.Cond.fieldLink "BatonKernel" (198 : Nat) "BatonKernel$Proc" "listed" "Z") ∈ lw_g := lw_gd (lw_in1 (List.mem_of_getElem? (i := 85) (by decide +kernel))) rfl
theorem tw_1_86 : (Jvm.Cond.fieldLink "BatonKernel$Proc" (50 : Nat) "BatonKernel$Proc" "time" "J") ∈ lw_g := lw_gd (lw_in1 (List.mem_of_getElem? (i := 86) (by decide +kernel))) rfl
theorem tw_1_87 : (Jvm.Cond.fieldLink "BatonKernel" (158 : Nat) "BatonKernel$Proc" "time" "J") ∈ lw_g := lw_gd (lw_in1 (List.mem_of_getElem? (i := 87) (by decide +kernel))) rfl
theorem tw_1_88 : (Jvm.Cond.fieldLink "BatonKernel$Proc" (54 : Nat) "BatonKernel$Proc" "entry" "J") ∈ lw_g := lw_gd (lw_in1 (List.mem_of_getElem? (i := 88) (by decide +kernel))) rfl
theorem tw_1_89 : (Jvm.Cond.fieldLink "BatonKernel" (201 : Nat) "BatonKernel$Proc" "entry" "J") ∈ lw_g := lw_gd (lw_in1 (List.mem_of_getElem? (i := 89) (by decide +kernel))) rfl
theorem tw_1_91 : (Jvm.Cond.fieldLink "BatonKernel" (273 : Nat) "BatonKernel$Proc" "since" "J") ∈ lw_g := lw_gd (lw_in1 (List.mem_of_getElem? (i := 91) (by decide +kernel))) rfl
theorem tw_1_92 : (Jvm.Cond.laysFinal "BatonKernel$Proc" "BatonKernel$Proc" "number" "I") ∈ lw_g := lw_gd (lw_in1 (List.mem_of_getElem? (i := 92) (by decide +kernel))) rfl
theorem tw_1_94 : (Jvm.Cond.laysFinal "BatonKernel$Proc" "BatonKernel$Proc" "ops" "[I") ∈ lw_g := lw_gd (lw_in1 (List.mem_of_getElem? (i := 94) (by decide +kernel))) rfl
theorem tw_1_96 : (Jvm.Cond.laysFinal "BatonKernel$Proc" "BatonKernel$Proc" "as" "[I") ∈ lw_g := lw_gd (lw_in1 (List.mem_of_getElem? (i := 96) (by decide +kernel))) rfl
theorem tw_1_98 : (Jvm.Cond.laysFinal "BatonKernel$Proc" "BatonKernel$Proc" "bs" "[I") ∈ lw_g := lw_gd (lw_in1 (List.mem_of_getElem? (i := 98) (by decide +kernel))) rfl
theorem tw_1_100 : (Jvm.Cond.laysFinal "BatonKernel$Proc" "BatonKernel$Proc" "units" "[I") ∈ lw_g := lw_gd (lw_in1 (List.mem_of_getElem? (i := 100) (by decide +kernel))) rfl
theorem tw_1_102 : (Jvm.Cond.lays "BatonKernel$Proc" "BatonKernel$Proc" "length" "I") ∈ lw_g := lw_gd (lw_in1 (List.mem_of_getElem? (i := 102) (by decide +kernel))) rfl
theorem tw_1_104 : (Jvm.Cond.lays "BatonKernel$Proc" "BatonKernel$Proc" "priority" "I") ∈ lw_g := lw_gd (lw_in1 (List.mem_of_getElem? (i := 104) (by decide +kernel))) rfl
theorem tw_1_106 : (Jvm.Cond.lays "BatonKernel$Proc" "BatonKernel$Proc" "roundsLeft" "I") ∈ lw_g := lw_gd (lw_in1 (List.mem_of_getElem? (i := 106) (by decide +kernel))) rfl
theorem tw_1_108 : (Jvm.Cond.lays "BatonKernel$Proc" "BatonKernel$Proc" "handler" "I") ∈ lw_g := lw_gd (lw_in1 (List.mem_of_getElem? (i := 108) (by decide +kernel))) rfl
theorem tw_1_110 : (Jvm.Cond.lays "BatonKernel$Proc" "BatonKernel$Proc" "state" "I") ∈ lw_g := lw_gd (lw_in1 (List.mem_of_getElem? (i := 110) (by decide +kernel))) rfl
theorem tw_1_112 : (Jvm.Cond.lays "BatonKernel$Proc" "BatonKernel$Proc" "place" "I") ∈ lw_g := lw_gd (lw_in1 (List.mem_of_getElem? (i := 112) (by decide +kernel))) rfl
theorem tw_1_114 : (Jvm.Cond.lays "BatonKernel$Proc" "BatonKernel$Proc" "doing" "I") ∈ lw_g := lw_gd (lw_in1 (List.mem_of_getElem? (i := 114) (by decide +kernel))) rfl
theorem tw_1_116 : (Jvm.Cond.lays "BatonKernel$Proc" "BatonKernel$Proc" "listed" "Z") ∈ lw_g := lw_gd (lw_in1 (List.mem_of_getElem? (i := 116) (by decide +kernel))) rfl
theorem tw_1_118 : (Jvm.Cond.lays "BatonKernel$Proc" "BatonKernel$Proc" "time" "J") ∈ lw_g := lw_gd (lw_in1 (List.mem_of_getElem? (i := 118) (by decide +kernel))) rfl
theorem tw_1_120 : (Jvm.Cond.lays "BatonKernel$Proc" "BatonKernel$Proc" "entry" "J") ∈ lw_g := lw_gd (lw_in1 (List.mem_of_getElem? (i := 120) (by decide +kernel))) rfl
theorem tw_1_122 : (Jvm.Cond.lays "BatonKernel$Proc" "BatonKernel$Proc" "since" "J") ∈ lw_g := lw_gd (lw_in1 (List.mem_of_getElem? (i := 122) (by decide +kernel))) rfl
theorem tw_1_133 : (Jvm.Cond.fieldLink "BatonKernel" (185 : Nat) "BatonKernel$Resource" "line" "LBatonKernel$Line;") ∈ lw_g := lw_gd (lw_in1 (List.mem_of_getElem? (i := 133) (by decide +kernel))) rfl
theorem tw_1_134 : (Jvm.Cond.fieldLink "BatonKernel$Resource" (16 : Nat) "BatonKernel$Resource" "capacity" "I") ∈ lw_g := lw_gd (lw_in1 (List.mem_of_getElem? (i := 134) (by decide +kernel))) rfl
theorem tw_1_135 : (Jvm.Cond.fieldLink "BatonKernel" (100 : Nat) "BatonKernel$Resource" "capacity" "I") ∈ lw_g := lw_gd (lw_in1 (List.mem_of_getElem? (i := 135) (by decide +kernel))) rfl
theorem tw_1_136 : (Jvm.Cond.fieldLink "BatonKernel$Resource" (20 : Nat) "BatonKernel$Resource" "seized" "I") ∈ lw_g := lw_gd (lw_in1 (List.mem_of_getElem? (i := 136) (by decide +kernel))) rfl
theorem tw_1_137 : (Jvm.Cond.fieldLink "BatonKernel" (97 : Nat) "BatonKernel$Resource" "seized" "I") ∈ lw_g := lw_gd (lw_in1 (List.mem_of_getElem? (i := 137) (by decide +kernel))) rfl
theorem tw_1_139 : (Jvm.Cond.fieldLink "BatonKernel" (103 : Nat) "BatonKernel$Resource" "preempts" "Z") ∈ lw_g := lw_gd (lw_in1 (List.mem_of_getElem? (i := 139) (by decide +kernel))) rfl
theorem tw_1_141 : (Jvm.Cond.fieldLink "BatonKernel" (188 : Nat) "BatonKernel$Resource" "area" "J") ∈ lw_g := lw_gd (lw_in1 (List.mem_of_getElem? (i := 141) (by decide +kernel))) rfl
theorem tw_1_143 : (Jvm.Cond.fieldLink "BatonKernel" (191 : Nat) "BatonKernel$Resource" "waited" "J") ∈ lw_g := lw_gd (lw_in1 (List.mem_of_getElem? (i := 143) (by decide +kernel))) rfl
theorem tw_1_144 : (Jvm.Cond.laysFinal "BatonKernel$Resource" "BatonKernel$Resource" "line" "LBatonKernel$Line;") ∈ lw_g := lw_gd (lw_in1 (List.mem_of_getElem? (i := 144) (by decide +kernel))) rfl
theorem tw_1_146 : (Jvm.Cond.lays "BatonKernel$Resource" "BatonKernel$Resource" "capacity" "I") ∈ lw_g := lw_gd (lw_in1 (List.mem_of_getElem? (i := 146) (by decide +kernel))) rfl
theorem tw_1_148 : (Jvm.Cond.lays "BatonKernel$Resource" "BatonKernel$Resource" "seized" "I") ∈ lw_g := lw_gd (lw_in1 (List.mem_of_getElem? (i := 148) (by decide +kernel))) rfl
theorem tw_1_150 : (Jvm.Cond.lays "BatonKernel$Resource" "BatonKernel$Resource" "preempts" "Z") ∈ lw_g := lw_gd (lw_in1 (List.mem_of_getElem? (i := 150) (by decide +kernel))) rfl
theorem tw_1_152 : (Jvm.Cond.lays "BatonKernel$Resource" "BatonKernel$Resource" "area" "J") ∈ lw_g := lw_gd (lw_in1 (List.mem_of_getElem? (i := 152) (by decide +kernel))) rfl
theorem tw_1_154 : (Jvm.Cond.lays "BatonKernel$Resource" "BatonKernel$Resource" "waited" "J") ∈ lw_g := lw_gd (lw_in1 (List.mem_of_getElem? (i := 154) (by decide +kernel))) rfl
theorem tw_1_162 : (Jvm.Cond.fieldLink "BatonKernel$Tank" (9 : Nat) "BatonKernel$Tank" "capacity" "I") ∈ lw_g := lw_gd (lw_in1 (List.mem_of_getElem? (i := 162) (by decide +kernel))) rfl
theorem tw_1_163 : (Jvm.Cond.fieldLink "BatonKernel" (113 : Nat) "BatonKernel$Tank" "capacity" "I") ∈ lw_g := lw_gd (lw_in1 (List.mem_of_getElem? (i := 163) (by decide +kernel))) rfl
theorem tw_1_164 : (Jvm.Cond.fieldLink "BatonKernel$Tank" (15 : Nat) "BatonKernel$Tank" "level" "I") ∈ lw_g := lw_gd (lw_in1 (List.mem_of_getElem? (i := 164) (by decide +kernel))) rfl
theorem tw_1_165 : (Jvm.Cond.fieldLink "BatonKernel" (114 : Nat) "BatonKernel$Tank" "level" "I") ∈ lw_g := lw_gd (lw_in1 (List.mem_of_getElem? (i := 165) (by decide +kernel))) rfl
theorem tw_1_166 : (Jvm.Cond.lays "BatonKernel$Tank" "BatonKernel$Tank" "capacity" "I") ∈ lw_g := lw_gd (lw_in1 (List.mem_of_getElem? (i := 166) (by decide +kernel))) rfl
theorem tw_1_168 : (Jvm.Cond.lays "BatonKernel$Tank" "BatonKernel$Tank" "level" "I") ∈ lw_g := lw_gd (lw_in1 (List.mem_of_getElem? (i := 168) (by decide +kernel))) rfl
theorem tw_1_171 : (Jvm.Cond.fieldLink "BatonKernel" (11 : Nat) "BatonKernel" "procs" "[LBatonKernel$Proc;") ∈ lw_g := lw_gd (lw_in1 (List.mem_of_getElem? (i := 171) (by decide +kernel))) rfl
theorem tw_1_172 : (Jvm.Cond.fieldLink "BatonKernel" (17 : Nat) "BatonKernel" "resources" "[LBatonKernel$Resource;") ∈ lw_g := lw_gd (lw_in1 (List.mem_of_getElem? (i := 172) (by decide +kernel))) rfl
theorem tw_1_173 : (Jvm.Cond.fieldLink "BatonKernel" (23 : Nat) "BatonKernel" "tanks" "[LBatonKernel$Tank;") ∈ lw_g := lw_gd (lw_in1 (List.mem_of_getElem? (i := 173) (by decide +kernel))) rfl
theorem tw_1_174 : (Jvm.Cond.fieldLink "BatonKernel" (30 : Nat) "BatonKernel" "conditions" "LBatonKernel$Line;") ∈ lw_g := lw_gd (lw_in1 (List.mem_of_getElem? (i := 174) (by decide +kernel))) rfl
theorem tw_1_175 : (Jvm.Cond.fieldLink "BatonKernel" (37 : Nat) "BatonKernel" "trace" "LBatonKernel$Trace;") ∈ lw_g := lw_gd (lw_in1 (List.mem_of_getElem? (i := 175) (by decide +kernel))) rfl
theorem tw_1_176 : (Jvm.Cond.fieldLink "BatonKernel" (41 : Nat) "BatonKernel" "losers" "[I") ∈ lw_g := lw_gd (lw_in1 (List.mem_of_getElem? (i := 176) (by decide +kernel))) rfl
theorem tw_1_177 : (Jvm.Cond.fieldLink "BatonKernel" (45 : Nat) "BatonKernel" "made" "I") ∈ lw_g := lw_gd (lw_in1 (List.mem_of_getElem? (i := 177) (by decide +kernel))) rfl
theorem tw_1_178 : (Jvm.Cond.fieldLink "BatonKernel" (49 : Nat) "BatonKernel" "clock" "J") ∈ lw_g := lw_gd (lw_in1 (List.mem_of_getElem? (i := 178) (by decide +kernel))) rfl
theorem tw_1_179 : (Jvm.Cond.fieldLink "BatonKernel" (53 : Nat) "BatonKernel" "entries" "J") ∈ lw_g := lw_gd (lw_in1 (List.mem_of_getElem? (i := 179) (by decide +kernel))) rfl
theorem tw_1_180 : (Jvm.Cond.laysFinal "BatonKernel" "BatonKernel" "procs" "[LBatonKernel$Proc;") ∈ lw_g := lw_gd (lw_in1 (List.mem_of_getElem? (i := 180) (by decide +kernel))) rfl
theorem tw_1_182 : (Jvm.Cond.laysFinal "BatonKernel" "BatonKernel" "resources" "[LBatonKernel$Resource;") ∈ lw_g := lw_gd (lw_in1 (List.mem_of_getElem? (i := 182) (by decide +kernel))) rfl
theorem tw_1_184 : (Jvm.Cond.laysFinal "BatonKernel" "BatonKernel" "tanks" "[LBatonKernel$Tank;") ∈ lw_g := lw_gd (lw_in1 (List.mem_of_getElem? (i := 184) (by decide +kernel))) rfl
theorem tw_1_186 : (Jvm.Cond.laysFinal "BatonKernel" "BatonKernel" "conditions" "LBatonKernel$Line;") ∈ lw_g := lw_gd (lw_in1 (List.mem_of_getElem? (i := 186) (by decide +kernel))) rfl
theorem tw_1_188 : (Jvm.Cond.laysFinal "BatonKernel" "BatonKernel" "trace" "LBatonKernel$Trace;") ∈ lw_g := lw_gd (lw_in1 (List.mem_of_getElem? (i := 188) (by decide +kernel))) rfl
theorem tw_1_190 : (Jvm.Cond.laysFinal "BatonKernel" "BatonKernel" "losers" "[I") ∈ lw_g := lw_gd (lw_in1 (List.mem_of_getElem? (i := 190) (by decide +kernel))) rfl
theorem tw_1_192 : (Jvm.Cond.lays "BatonKernel" "BatonKernel" "made" "I") ∈ lw_g := lw_gd (lw_in1 (List.mem_of_getElem? (i := 192) (by decide +kernel))) rfl
theorem tw_1_194 : (Jvm.Cond.lays "BatonKernel" "BatonKernel" "clock" "J") ∈ lw_g := lw_gd (lw_in1 (List.mem_of_getElem? (i := 194) (by decide +kernel))) rfl
theorem tw_1_196 : (Jvm.Cond.lays "BatonKernel" "BatonKernel" "entries" "J") ∈ lw_g := lw_gd (lw_in1 (List.mem_of_getElem? (i := 196) (by decide +kernel))) rfl
theorem tw_1_203 : (Jvm.Cond.methodLink "BatonKernel" (61 : Nat) ({ cls := "BatonKernel", name := "isWithin", desc := "(III)Z" } : Jvm.MethodName)) ∈ lw_g := lw_gd (lw_in1 (List.mem_of_getElem? (i := 203) (by decide +kernel))) rfl
theorem tw_1_204 : (Jvm.Cond.static ({ cls := "BatonKernel", name := "isWithin", desc := "(III)Z" } : Jvm.MethodName)) ∈ lw_g := lw_gd (lw_in1 (List.mem_of_getElem? (i := 204) (by decide +kernel))) rfl
theorem tw_1_210 : (Jvm.Cond.methodLink "BatonKernel" (77 : Nat) ({ cls := "BatonKernel", name := "isProcess", desc := "(I)Z" } : Jvm.MethodName)) ∈ lw_g := lw_gd (lw_in1 (List.mem_of_getElem? (i := 210) (by decide +kernel))) rfl
theorem tw_1_212 : (Jvm.Cond.instanceMethod ({ cls := "BatonKernel", name := "isProcess", desc := "(I)Z" } : Jvm.MethodName)) ∈ lw_g := lw_gd (lw_in1 (List.mem_of_getElem? (i := 212) (by decide +kernel))) rfl
theorem tw_1_214 : (Jvm.Cond.methodLink "BatonKernel" (81 : Nat) ({ cls := "BatonKernel", name := "isInstruction", desc := "(III)Z" } : Jvm.MethodName)) ∈ lw_g := lw_gd (lw_in1 (List.mem_of_getElem? (i := 214) (by decide +kernel))) rfl
theorem tw_1_215 : (Jvm.Cond.static ({ cls := "BatonKernel", name := "isInstruction", desc := "(III)Z" } : Jvm.MethodName)) ∈ lw_g := lw_gd (lw_in1 (List.mem_of_getElem? (i := 215) (by decide +kernel))) rfl
theorem tw_1_217 : (Jvm.Cond.constant "BatonKernel" (117 : Nat) (1000000 : Int32)) ∈ lw_g := lw_gd (lw_in1 (List.mem_of_getElem? (i := 217) (by decide +kernel))) rfl
theorem tw_1_218 : (Jvm.Cond.methodLink "BatonKernel" (94 : Nat) ({ cls := "BatonKernel", name := "isResource", desc := "(I)Z" } : Jvm.MethodName)) ∈ lw_g := lw_gd (lw_in1 (List.mem_of_getElem? (i := 218) (by decide +kernel))) rfl
theorem tw_1_219 : (Jvm.Cond.static ({ cls := "BatonKernel", name := "isResource", desc := "(I)Z" } : Jvm.MethodName)) ∈ lw_g := lw_gd (lw_in1 (List.mem_of_getElem? (i := 219) (by decide +kernel))) rfl
theorem tw_1_221 : (Jvm.Cond.methodLink "BatonKernel" (110 : Nat) ({ cls := "BatonKernel", name := "isTank", desc := "(I)Z" } : Jvm.MethodName)) ∈ lw_g := lw_gd (lw_in1 (List.mem_of_getElem? (i := 221) (by decide +kernel))) rfl
theorem tw_1_222 : (Jvm.Cond.static ({ cls := "BatonKernel", name := "isTank", desc := "(I)Z" } : Jvm.MethodName)) ∈ lw_g := lw_gd (lw_in1 (List.mem_of_getElem? (i := 222) (by decide +kernel))) rfl
theorem tw_1_224 : (Jvm.Cond.methodLink "BatonKernel" (90 : Nat) ({ cls := "BatonKernel$Proc", name := "append", desc := "(III)V" } : Jvm.MethodName)) ∈ lw_g := lw_gd (lw_in1 (List.mem_of_getElem? (i := 224) (by decide +kernel))) rfl
theorem tw_1_225 : (Jvm.Cond.instanceMethod ({ cls := "BatonKernel$Proc", name := "append", desc := "(III)V" } : Jvm.MethodName)) ∈ lw_g := lw_gd (lw_in1 (List.mem_of_getElem? (i := 225) (by decide +kernel))) rfl
theorem tw_1_226 : (Jvm.Cond.selects "BatonKernel$Proc" ({ cls := "BatonKernel$Proc", name := "append", desc := "(III)V" } : Jvm.MethodName) ({ cls := "BatonKernel$Proc", name := "append", desc := "(III)V" } : Jvm.MethodName)) ∈ lw_g := lw_gd (lw_in1 (List.mem_of_getElem? (i := 226) (by decide +kernel))) rfl
theorem tw_1_232 : (Jvm.Cond.methodLink "BatonKernel" (107 : Nat) ({ cls := "BatonKernel", name := "serve", desc := "(I)V" } : Jvm.MethodName)) ∈ lw_g := lw_gd (lw_in1 (List.mem_of_getElem? (i := 232) (by decide +kernel))) rfl
theorem tw_1_234 : (Jvm.Cond.instanceMethod ({ cls := "BatonKernel", name := "serve", desc := "(I)V" } : Jvm.MethodName)) ∈ lw_g := lw_gd (lw_in1 (List.mem_of_getElem? (i := 234) (by decide +kernel))) rfl
theorem tw_1_236 : (Jvm.Cond.methodLink "BatonKernel" (232 : Nat) ({ cls := "BatonKernel$Proc", name := "secondOperand", desc := "()I" } : Jvm.MethodName)) ∈ lw_g := lw_gd (lw_in1 (List.mem_of_getElem? (i := 236) (by decide +kernel))) rfl
theorem tw_1_237 : (Jvm.Cond.instanceMethod ({ cls := "BatonKernel$Proc", name := "secondOperand", desc := "()I" } : Jvm.MethodName)) ∈ lw_g := lw_gd (lw_in1 (List.mem_of_getElem? (i := 237) (by decide +kernel))) rfl
theorem tw_1_238 : (Jvm.Cond.selects "BatonKernel$Proc" ({ cls := "BatonKernel$Proc", name := "secondOperand", desc := "()I" } : Jvm.MethodName) ({ cls := "BatonKernel$Proc", name := "secondOperand", desc := "()I" } : Jvm.MethodName)) ∈ lw_g := lw_gd (lw_in1 (List.mem_of_getElem? (i := 238) (by decide +kernel))) rfl
theorem tw_2_0 : (Jvm.Cond.methodLink "BatonKernel" (179 : Nat) ({ cls := "BatonKernel$Resource", name := "unseized", desc := "()I" } : Jvm.MethodName)) ∈ lw_g := lw_gd (lw_in2 (List.mem_of_getElem? (i := 0) (by decide +kernel))) rfl
theorem tw_2_1 : (Jvm.Cond.instanceMethod ({ cls := "BatonKernel$Resource", name := "unseized", desc := "()I" } : Jvm.MethodName)) ∈ lw_g := lw_gd (lw_in2 (List.mem_of_getElem? (i := 1) (by decide +kernel))) rfl
theorem tw_2_2 : (Jvm.Cond.selects "BatonKernel$Resource" ({ cls := "BatonKernel$Resource", name := "unseized", desc := "()I" } : Jvm.MethodName) ({ cls := "BatonKernel$Resource", name := "unseized", desc := "()I" } : Jvm.MethodName)) ∈ lw_g := lw_gd (lw_in2 (List.mem_of_getElem? (i := 2) (by decide +kernel))) rfl
theorem tw_2_4 : (Jvm.Cond.methodLink "BatonKernel" (258 : Nat) ({ cls := "BatonKernel", name := "give", desc := "(LBatonKernel$Proc;II)V" } : Jvm.MethodName)) ∈ lw_g := lw_gd (lw_in2 (List.mem_of_getElem? (i := 4) (by decide +kernel))) rfl
theorem tw_2_6 : (Jvm.Cond.instanceMethod ({ cls := "BatonKernel", name := "give", desc := "(LBatonKernel$Proc;II)V" } : Jvm.MethodName)) ∈ lw_g := lw_gd (lw_in2 (List.mem_of_getElem? (i := 6) (by decide +kernel))) rfl
theorem tw_2_8 : (Jvm.Cond.methodLink "BatonKernel" (287 : Nat) ({ cls := "BatonKernel$Line", name := "drop", desc := "(I)V" } : Jvm.MethodName)) ∈ lw_g := lw_gd (lw_in2 (List.mem_of_getElem? (i := 8) (by decide +kernel))) rfl
theorem tw_2_9 : (Jvm.Cond.instanceMethod ({ cls := "BatonKernel$Line", name := "drop", desc := "(I)V" } : Jvm.MethodName)) ∈ lw_g := lw_gd (lw_in2 (List.mem_of_getElem? (i := 9) (by decide +kernel))) rfl
theorem tw_2_10 : (Jvm.Cond.selects "BatonKernel$Line" ({ cls := "BatonKernel$Line", name := "drop", desc := "(I)V" } : Jvm.MethodName) ({ cls := "BatonKernel$Line", name := "drop", desc := "(I)V" } : Jvm.MethodName)) ∈ lw_g := lw_gd (lw_in2 (List.mem_of_getElem? (i := 10) (by decide +kernel))) rfl
theorem tw_2_12 : (Jvm.Cond.methodLink "BatonKernel" (118 : Nat) ({ cls := "BatonKernel", name := "enter", desc := "(LBatonKernel$Proc;II)V" } : Jvm.MethodName)) ∈ lw_g := lw_gd (lw_in2 (List.mem_of_getElem? (i := 12) (by decide +kernel))) rfl
theorem tw_2_14 : (Jvm.Cond.instanceMethod ({ cls := "BatonKernel", name := "enter", desc := "(LBatonKernel$Proc;II)V" } : Jvm.MethodName)) ∈ lw_g := lw_gd (lw_in2 (List.mem_of_getElem? (i := 14) (by decide +kernel))) rfl
theorem tw_2_21 : (Jvm.Cond.instanceMethod ({ cls := "BatonKernel", name := "activate", desc := "(II)Z" } : Jvm.MethodName)) ∈ lw_g := lw_gd (lw_in2 (List.mem_of_getElem? (i := 21) (by decide +kernel))) rfl
theorem tw_2_22 : (Jvm.Cond.selects "BatonKernel" ({ cls := "BatonKernel", name := "activate", desc := "(II)Z" } : Jvm.MethodName) ({ cls := "BatonKernel", name := "activate", desc := "(II)Z" } : Jvm.MethodName)) ∈ lw_g := lw_gd (lw_in2 (List.mem_of_getElem? (i := 22) (by decide +kernel))) rfl
theorem tw_2_25 : (Jvm.Cond.instanceMethod ({ cls := "BatonKernel", name := "interrupt", desc := "(I)Z" } : Jvm.MethodName)) ∈ lw_g := lw_gd (lw_in2 (List.mem_of_getElem? (i := 25) (by decide +kernel))) rfl
theorem tw_2_26 : (Jvm.Cond.selects "BatonKernel" ({ cls := "BatonKernel", name := "interrupt", desc := "(I)Z" } : Jvm.MethodName) ({ cls := "BatonKernel", name := "interrupt", desc := "(I)Z" } : Jvm.MethodName)) ∈ lw_g := lw_gd (lw_in2 (List.mem_of_getElem? (i := 26) (by decide +kernel))) rfl
theorem tw_2_28 : (Jvm.Cond.methodLink "BatonKernel" (122 : Nat) ({ cls := "BatonKernel$Proc", name := "isBreakable", desc := "()Z" } : Jvm.MethodName)) ∈ lw_g := lw_gd (lw_in2 (List.mem_of_getElem? (i := 28) (by decide +kernel))) rfl
theorem tw_2_29 : (Jvm.Cond.instanceMethod ({ cls := "BatonKernel$Proc", name := "isBreakable", desc := "()Z" } : Jvm.MethodName)) ∈ lw_g := lw_gd (lw_in2 (List.mem_of_getElem? (i := 29) (by decide +kernel))) rfl
theorem tw_2_30 : (Jvm.Cond.selects "BatonKernel$Proc" ({ cls := "BatonKernel$Proc", name := "isBreakable", desc := "()Z" } : Jvm.MethodName) ({ cls := "BatonKernel$Proc", name := "isBreakable", desc := "()Z" } : Jvm.MethodName)) ∈ lw_g := lw_gd (lw_in2 (List.mem_of_getElem? (i := 30) (by decide +kernel))) rfl
theorem tw_2_32 : (Jvm.Cond.methodLink "BatonKernel" (126 : Nat) ({ cls := "BatonKernel", name := "lineOf", desc := "(LBatonKernel$Proc;)I" } : Jvm.MethodName)) ∈ lw_g := lw_gd (lw_in2 (List.mem_of_getElem? (i := 32) (by decide +kernel))) rfl
theorem tw_2_34 : (Jvm.Cond.instanceMethod ({ cls := "BatonKernel", name := "lineOf", desc := "(LBatonKernel$Proc;)I" } : Jvm.MethodName)) ∈ lw_g := lw_gd (lw_in2 (List.mem_of_getElem? (i := 34) (by decide +kernel))) rfl
theorem tw_2_36 : (Jvm.Cond.methodLink "BatonKernel" (220 : Nat) ({ cls := "BatonKernel$Proc", name := "firstOperand", desc := "()I" } : Jvm.MethodName)) ∈ lw_g := lw_gd (lw_in2 (List.mem_of_getElem? (i := 36) (by decide +kernel))) rfl
theorem tw_2_37 : (Jvm.Cond.instanceMethod ({ cls := "BatonKernel$Proc", name := "firstOperand", desc := "()I" } : Jvm.MethodName)) ∈ lw_g := lw_gd (lw_in2 (List.mem_of_getElem? (i := 37) (by decide +kernel))) rfl
theorem tw_2_38 : (Jvm.Cond.selects "BatonKernel$Proc" ({ cls := "BatonKernel$Proc", name := "firstOperand", desc := "()I" } : Jvm.MethodName) ({ cls := "BatonKernel$Proc", name := "firstOperand", desc := "()I" } : Jvm.MethodName)) ∈ lw_g := lw_gd (lw_in2 (List.mem_of_getElem? (i := 38) (by decide +kernel))) rfl
theorem tw_2_40 : (Jvm.Cond.methodLink "BatonKernel" (130 : Nat) ({ cls := "BatonKernel", name := "leave", desc := "(LBatonKernel$Proc;)V" } : Jvm.MethodName)) ∈ lw_g := lw_gd (lw_in2 (List.mem_of_getElem? (i := 40) (by decide +kernel))) rfl
theorem tw_2_42 : (Jvm.Cond.instanceMethod ({ cls := "BatonKernel", name := "leave", desc := "(LBatonKernel$Proc;)V" } : Jvm.MethodName)) ∈ lw_g := lw_gd (lw_in2 (List.mem_of_getElem? (i := 42) (by decide +kernel))) rfl
theorem tw_2_45 : (Jvm.Cond.instanceMethod ({ cls := "BatonKernel", name := "kill", desc := "(I)Z" } : Jvm.MethodName)) ∈ lw_g := lw_gd (lw_in2 (List.mem_of_getElem? (i := 45) (by decide +kernel))) rfl
theorem tw_2_46 : (Jvm.Cond.selects "BatonKernel" ({ cls := "BatonKernel", name := "kill", desc := "(I)Z" } : Jvm.MethodName) ({ cls := "BatonKernel", name := "kill", desc := "(I)Z" } : Jvm.MethodName)) ∈ lw_g := lw_gd (lw_in2 (List.mem_of_getElem? (i := 46) (by decide +kernel))) rfl
theorem tw_2_48 : (Jvm.Cond.methodLink "BatonKernel" (137 : Nat) ({ cls := "BatonKernel$Proc", name := "isOver", desc := "()Z" } : Jvm.MethodName)) ∈ lw_g := lw_gd (lw_in2 (List.mem_of_getElem? (i := 48) (by decide +kernel))) rfl
theorem tw_2_49 : (Jvm.Cond.instanceMethod ({ cls := "BatonKernel$Proc", name := "isOver", desc := "()Z" } : Jvm.MethodName)) ∈ lw_g := lw_gd (lw_in2 (List.mem_of_getElem? (i := 49) (by decide +kernel))) rfl
theorem tw_2_50 : (Jvm.Cond.selects "BatonKernel$Proc" ({ cls := "BatonKernel$Proc", name := "isOver", desc := "()Z" } : Jvm.MethodName) ({ cls := "BatonKernel$Proc", name := "isOver", desc := "()Z" } : Jvm.MethodName)) ∈ lw_g := lw_gd (lw_in2 (List.mem_of_getElem? (i := 50) (by decide +kernel))) rfl
theorem tw_2_52 : (Jvm.Cond.methodLink "BatonKernel" (149 : Nat) ({ cls := "BatonKernel", name := "giveBack", desc := "(LBatonKernel$Proc;II)V" } : Jvm.MethodName)) ∈ lw_g := lw_gd (lw_in2 (List.mem_of_getElem? (i := 52) (by decide +kernel))) rfl
theorem tw_2_54 : (Jvm.Cond.instanceMethod ({ cls := "BatonKernel", name := "giveBack", desc := "(LBatonKernel$Proc;II)V" } : Jvm.MethodName)) ∈ lw_g := lw_gd (lw_in2 (List.mem_of_getElem? (i := 54) (by decide +kernel))) rfl
theorem tw_2_56 : (Jvm.Cond.methodLink "BatonKernel" (282 : Nat) ({ cls := "java/lang/Math", name := "min", desc := "(II)I" } : Jvm.MethodName)) ∈ lw_g := lw_gd (lw_in2 (List.mem_of_getElem? (i := 56) (by decide +kernel))) rfl
theorem tw_2_57 : (Jvm.Cond.static ({ cls := "java/lang/Math", name := "min", desc := "(II)I" } : Jvm.MethodName)) ∈ lw_g := lw_gd (lw_in2 (List.mem_of_getElem? (i := 57) (by decide +kernel))) rfl
theorem tw_2_59 : (Jvm.Cond.methodLink "BatonKernel" (279 : Nat) ({ cls := "BatonKernel", name := "takeBack", desc := "(LBatonKernel$Proc;II)V" } : Jvm.MethodName)) ∈ lw_g := lw_gd (lw_in2 (List.mem_of_getElem? (i := 59) (by decide +kernel))) rfl
theorem tw_2_61 : (Jvm.Cond.instanceMethod ({ cls := "BatonKernel", name := "takeBack", desc := "(LBatonKernel$Proc;II)V" } : Jvm.MethodName)) ∈ lw_g := lw_gd (lw_in2 (List.mem_of_getElem? (i := 61) (by decide +kernel))) rfl
theorem tw_2_67 : (Jvm.Cond.constantLong "BatonKernel" (152 : Nat) (1000000000000 : Int64)) ∈ lw_g := lw_gd (lw_in2 (List.mem_of_getElem? (i := 67) (by decide +kernel))) rfl
theorem tw_2_68 : (Jvm.Cond.methodLink "BatonKernel" (154 : Nat) ({ cls := "BatonKernel", name := "firstEntry", desc := "()I" } : Jvm.MethodName)) ∈ lw_g := lw_gd (lw_in2 (List.mem_of_getElem? (i := 68) (by decide +kernel))) rfl
theorem tw_2_70 : (Jvm.Cond.instanceMethod ({ cls := "BatonKernel", name := "firstEntry", desc := "()I" } : Jvm.MethodName)) ∈ lw_g := lw_gd (lw_in2 (List.mem_of_getElem? (i := 70) (by decide +kernel))) rfl
theorem tw_2_72 : (Jvm.Cond.methodLink "BatonKernel" (204 : Nat) ({ cls := "BatonKernel$Proc", name := "isBefore", desc := "(LBatonKernel$Proc;)Z" } : Jvm.MethodName)) ∈ lw_g := lw_gd (lw_in2 (List.mem_of_getElem? (i := 72) (by decide +kernel))) rfl
theorem tw_2_73 : (Jvm.Cond.instanceMethod ({ cls := "BatonKernel$Proc", name := "isBefore", desc := "(LBatonKernel$Proc;)Z" } : Jvm.MethodName)) ∈ lw_g := lw_gd (lw_in2 (List.mem_of_getElem? (i := 73) (by decide +kernel))) rfl
theorem tw_2_74 : (Jvm.Cond.selects "BatonKernel$Proc" ({ cls := "BatonKernel$Proc", name := "isBefore", desc := "(LBatonKernel$Proc;)Z" } : Jvm.MethodName) ({ cls := "BatonKernel$Proc", name := "isBefore", desc := "(LBatonKernel$Proc;)Z" } : Jvm.MethodName)) ∈ lw_g := lw_gd (lw_in2 (List.mem_of_getElem? (i := 74) (by decide +kernel))) rfl
theorem tw_2_76 : (Jvm.Cond.methodLink "BatonKernel" (161 : Nat) ({ cls := "BatonKernel", name := "begin", desc := "(LBatonKernel$Proc;)V" } : Jvm.MethodName)) ∈ lw_g := lw_gd (lw_in2 (List.mem_of_getElem? (i := 76) (by decide +kernel))) rfl
theorem tw_2_78 : (Jvm.Cond.instanceMethod ({ cls := "BatonKernel", name := "begin", desc := "(LBatonKernel$Proc;)V" } : Jvm.MethodName)) ∈ lw_g := lw_gd (lw_in2 (List.mem_of_getElem? (i := 78) (by decide +kernel))) rfl
theorem tw_2_80 : (Jvm.Cond.methodLink "BatonKernel" (170 : Nat) ({ cls := "BatonKernel", name := "moveClock", desc := "(J)V" } : Jvm.MethodName)) ∈ lw_g := lw_gd (lw_in2 (List.mem_of_getElem? (i := 80) (by decide +kernel))) rfl
theorem tw_2_82 : (Jvm.Cond.instanceMethod ({ cls := "BatonKernel", name := "moveClock", desc := "(J)V" } : Jvm.MethodName)) ∈ lw_g := lw_gd (lw_in2 (List.mem_of_getElem? (i := 82) (by decide +kernel))) rfl
theorem tw_2_84 : (Jvm.Cond.methodLink "BatonKernel" (208 : Nat) ({ cls := "BatonKernel$Trace", name := "add", desc := "(I)V" } : Jvm.MethodName)) ∈ lw_g := lw_gd (lw_in2 (List.mem_of_getElem? (i := 84) (by decide +kernel))) rfl
theorem tw_2_85 : (Jvm.Cond.instanceMethod ({ cls := "BatonKernel$Trace", name := "add", desc := "(I)V" } : Jvm.MethodName)) ∈ lw_g := lw_gd (lw_in2 (List.mem_of_getElem? (i := 85) (by decide +kernel))) rfl
theorem tw_2_86 : (Jvm.Cond.selects "BatonKernel$Trace" ({ cls := "BatonKernel$Trace", name := "add", desc := "(I)V" } : Jvm.MethodName) ({ cls := "BatonKernel$Trace", name := "add", desc := "(I)V" } : Jvm.MethodName)) ∈ lw_g := lw_gd (lw_in2 (List.mem_of_getElem? (i := 86) (by decide +kernel))) rfl
theorem tw_2_88 : (Jvm.Cond.methodLink "BatonKernel$Trace" (22 : Nat) ({ cls := "java/lang/Math", name := "min", desc := "(II)I" } : Jvm.MethodName)) ∈ lw_g := lw_gd (lw_in2 (List.mem_of_getElem? (i := 88) (by decide +kernel))) rfl
theorem tw_2_89 : (Jvm.Cond.methodLink "BatonKernel" (164 : Nat) ({ cls := "BatonKernel", name := "doTurn", desc := "(LBatonKernel$Proc;)V" } : Jvm.MethodName)) ∈ lw_g := lw_gd (lw_in2 (List.mem_of_getElem? (i := 89) (by decide +kernel))) rfl
theorem tw_2_91 : (Jvm.Cond.instanceMethod ({ cls := "BatonKernel", name := "doTurn", desc := "(LBatonKernel$Proc;)V" } : Jvm.MethodName)) ∈ lw_g := lw_gd (lw_in2 (List.mem_of_getElem? (i := 91) (by decide +kernel))) rfl
theorem tw_2_93 : (Jvm.Cond.methodLink "BatonKernel" (211 : Nat) ({ cls := "BatonKernel", name := "perform", desc := "(LBatonKernel$Proc;)Z" } : Jvm.MethodName)) ∈ lw_g := lw_gd (lw_in2 (List.mem_of_getElem? (i := 93) (by decide +kernel))) rfl
theorem tw_2_95 : (Jvm.Cond.instanceMethod ({ cls := "BatonKernel", name := "perform", desc := "(LBatonKernel$Proc;)Z" } : Jvm.MethodName)) ∈ lw_g := lw_gd (lw_in2 (List.mem_of_getElem? (i := 95) (by decide +kernel))) rfl
theorem tw_2_97 : (Jvm.Cond.methodLink "BatonKernel" (223 : Nat) ({ cls := "BatonKernel", name := "seizeFree", desc := "(LBatonKernel$Proc;)Z" } : Jvm.MethodName)) ∈ lw_g := lw_gd (lw_in2 (List.mem_of_getElem? (i := 97) (by decide +kernel))) rfl
theorem tw_2_99 : (Jvm.Cond.instanceMethod ({ cls := "BatonKernel", name := "seizeFree", desc := "(LBatonKernel$Proc;)Z" } : Jvm.MethodName)) ∈ lw_g := lw_gd (lw_in2 (List.mem_of_getElem? (i := 99) (by decide +kernel))) rfl
theorem tw_2_101 : (Jvm.Cond.methodLink "BatonKernel" (254 : Nat) ({ cls := "BatonKernel", name := "countBefore", desc := "(II)I" } : Jvm.MethodName)) ∈ lw_g := lw_gd (lw_in2 (List.mem_of_getElem? (i := 101) (by decide +kernel))) rfl
theorem tw_2_103 : (Jvm.Cond.instanceMethod ({ cls := "BatonKernel", name := "countBefore", desc := "(II)I" } : Jvm.MethodName)) ∈ lw_g := lw_gd (lw_in2 (List.mem_of_getElem? (i := 103) (by decide +kernel))) rfl
theorem tw_2_105 : (Jvm.Cond.methodLink "BatonKernel" (226 : Nat) ({ cls := "BatonKernel", name := "seizeByForce", desc := "(LBatonKernel$Proc;)Z" } : Jvm.MethodName)) ∈ lw_g := lw_gd (lw_in2 (List.mem_of_getElem? (i := 105) (by decide +kernel))) rfl
theorem tw_2_107 : (Jvm.Cond.instanceMethod ({ cls := "BatonKernel", name := "seizeByForce", desc := "(LBatonKernel$Proc;)Z" } : Jvm.MethodName)) ∈ lw_g := lw_gd (lw_in2 (List.mem_of_getElem? (i := 107) (by decide +kernel))) rfl
theorem tw_2_109 : (Jvm.Cond.methodLink "BatonKernel" (261 : Nat) ({ cls := "BatonKernel", name := "withinReach", desc := "(LBatonKernel$Proc;I)I" } : Jvm.MethodName)) ∈ lw_g := lw_gd (lw_in2 (List.mem_of_getElem? (i := 109) (by decide +kernel))) rfl
theorem tw_2_111 : (Jvm.Cond.instanceMethod ({ cls := "BatonKernel", name := "withinReach", desc := "(LBatonKernel$Proc;I)I" } : Jvm.MethodName)) ∈ lw_g := lw_gd (lw_in2 (List.mem_of_getElem? (i := 111) (by decide +kernel))) rfl
theorem tw_2_113 : (Jvm.Cond.methodLink "BatonKernel" (265 : Nat) ({ cls := "BatonKernel", name := "takeFromLosers", desc := "(LBatonKernel$Proc;II)I" } : Jvm.MethodName)) ∈ lw_g := lw_gd (lw_in2 (List.mem_of_getElem? (i := 113) (by decide +kernel))) rfl
theorem tw_2_115 : (Jvm.Cond.instanceMethod ({ cls := "BatonKernel", name := "takeFromLosers", desc := "(LBatonKernel$Proc;II)I" } : Jvm.MethodName)) ∈ lw_g := lw_gd (lw_in2 (List.mem_of_getElem? (i := 115) (by decide +kernel))) rfl
theorem tw_2_117 : (Jvm.Cond.methodLink "BatonKernel" (276 : Nat) ({ cls := "BatonKernel", name := "nextLoser", desc := "(LBatonKernel$Proc;I)I" } : Jvm.MethodName)) ∈ lw_g := lw_gd (lw_in2 (List.mem_of_getElem? (i := 117) (by decide +kernel))) rfl
theorem tw_2_119 : (Jvm.Cond.instanceMethod ({ cls := "BatonKernel", name := "nextLoser", desc := "(LBatonKernel$Proc;I)I" } : Jvm.MethodName)) ∈ lw_g := lw_gd (lw_in2 (List.mem_of_getElem? (i := 119) (by decide +kernel))) rfl
theorem tw_2_121 : (Jvm.Cond.methodLink "BatonKernel" (245 : Nat) ({ cls := "BatonKernel", name := "interrupt", desc := "(I)Z" } : Jvm.MethodName)) ∈ lw_g := lw_gd (lw_in2 (List.mem_of_getElem? (i := 121) (by decide +kernel))) rfl
theorem tw_2_122 : (Jvm.Cond.methodLink "BatonKernel" (229 : Nat) ({ cls := "BatonKernel", name := "standInLine", desc := "(LBatonKernel$Proc;)Z" } : Jvm.MethodName)) ∈ lw_g := lw_gd (lw_in2 (List.mem_of_getElem? (i := 122) (by decide +kernel))) rfl
theorem tw_2_124 : (Jvm.Cond.instanceMethod ({ cls := "BatonKernel", name := "standInLine", desc := "(LBatonKernel$Proc;)Z" } : Jvm.MethodName)) ∈ lw_g := lw_gd (lw_in2 (List.mem_of_getElem? (i := 124) (by decide +kernel))) rfl
theorem tw_2_126 : (Jvm.Cond.methodLink "BatonKernel" (269 : Nat) ({ cls := "BatonKernel$Line", name := "insert", desc := "(II)V" } : Jvm.MethodName)) ∈ lw_g := lw_gd (lw_in2 (List.mem_of_getElem? (i := 126) (by decide +kernel))) rfl
theorem tw_2_127 : (Jvm.Cond.instanceMethod ({ cls := "BatonKernel$Line", name := "insert", desc := "(II)V" } : Jvm.MethodName)) ∈ lw_g := lw_gd (lw_in2 (List.mem_of_getElem? (i := 127) (by decide +kernel))) rfl
theorem tw_2_128 : (Jvm.Cond.selects "BatonKernel$Line" ({ cls := "BatonKernel$Line", name := "insert", desc := "(II)V" } : Jvm.MethodName) ({ cls := "BatonKernel$Line", name := "insert", desc := "(II)V" } : Jvm.MethodName)) ∈ lw_g := lw_gd (lw_in2 (List.mem_of_getElem? (i := 128) (by decide +kernel))) rfl
theorem tw_2_130 : (Jvm.Cond.methodLink "BatonKernel" (235 : Nat) ({ cls := "BatonKernel", name := "meetCondition", desc := "(LBatonKernel$Proc;)Z" } : Jvm.MethodName)) ∈ lw_g := lw_gd (lw_in2 (List.mem_of_getElem? (i := 130) (by decide +kernel))) rfl
theorem tw_2_132 : (Jvm.Cond.instanceMethod ({ cls := "BatonKernel", name := "meetCondition", desc := "(LBatonKernel$Proc;)Z" } : Jvm.MethodName)) ∈ lw_g := lw_gd (lw_in2 (List.mem_of_getElem? (i := 132) (by decide +kernel))) rfl
theorem tw_2_134 : (Jvm.Cond.methodLink "BatonKernel" (290 : Nat) ({ cls := "BatonKernel$Tank", name := "put", desc := "(I)Z" } : Jvm.MethodName)) ∈ lw_g := lw_gd (lw_in2 (List.mem_of_getElem? (i := 134) (by decide +kernel))) rfl
theorem tw_2_135 : (Jvm.Cond.instanceMethod ({ cls := "BatonKernel$Tank", name := "put", desc := "(I)Z" } : Jvm.MethodName)) ∈ lw_g := lw_gd (lw_in2 (List.mem_of_getElem? (i := 135) (by decide +kernel))) rfl
theorem tw_2_136 : (Jvm.Cond.selects "BatonKernel$Tank" ({ cls := "BatonKernel$Tank", name := "put", desc := "(I)Z" } : Jvm.MethodName) ({ cls := "BatonKernel$Tank", name := "put", desc := "(I)Z" } : Jvm.MethodName)) ∈ lw_g := lw_gd (lw_in2 (List.mem_of_getElem? (i := 136) (by decide +kernel))) rfl
theorem tw_2_138 : (Jvm.Cond.methodLink "BatonKernel" (293 : Nat) ({ cls := "BatonKernel$Tank", name := "take", desc := "(I)Z" } : Jvm.MethodName)) ∈ lw_g := lw_gd (lw_in2 (List.mem_of_getElem? (i := 138) (by decide +kernel))) rfl
theorem tw_2_139 : (Jvm.Cond.instanceMethod ({ cls := "BatonKernel$Tank", name := "take", desc := "(I)Z" } : Jvm.MethodName)) ∈ lw_g := lw_gd (lw_in2 (List.mem_of_getElem? (i := 139) (by decide +kernel))) rfl
theorem tw_2_140 : (Jvm.Cond.selects "BatonKernel$Tank" ({ cls := "BatonKernel$Tank", name := "take", desc := "(I)Z" } : Jvm.MethodName) ({ cls := "BatonKernel$Tank", name := "take", desc := "(I)Z" } : Jvm.MethodName)) ∈ lw_g := lw_gd (lw_in2 (List.mem_of_getElem? (i := 140) (by decide +kernel))) rfl
theorem tw_2_142 : (Jvm.Cond.methodLink "BatonKernel" (238 : Nat) ({ cls := "BatonKernel", name := "waitForCondition", desc := "(LBatonKernel$Proc;)Z" } : Jvm.MethodName)) ∈ lw_g := lw_gd (lw_in2 (List.mem_of_getElem? (i := 142) (by decide +kernel))) rfl
theorem tw_2_144 : (Jvm.Cond.instanceMethod ({ cls := "BatonKernel", name := "waitForCondition", desc := "(LBatonKernel$Proc;)Z" } : Jvm.MethodName)) ∈ lw_g := lw_gd (lw_in2 (List.mem_of_getElem? (i := 144) (by decide +kernel))) rfl
theorem tw_2_146 : (Jvm.Cond.methodLink "BatonKernel" (241 : Nat) ({ cls := "BatonKernel", name := "activate", desc := "(II)Z" } : Jvm.MethodName)) ∈ lw_g := lw_gd (lw_in2 (List.mem_of_getElem? (i := 146) (by decide +kernel))) rfl
theorem tw_2_147 : (Jvm.Cond.methodLink "BatonKernel" (248 : Nat) ({ cls := "BatonKernel", name := "kill", desc := "(I)Z" } : Jvm.MethodName)) ∈ lw_g := lw_gd (lw_in2 (List.mem_of_getElem? (i := 147) (by decide +kernel))) rfl
theorem tw_2_148 : (Jvm.Cond.methodLink "BatonKernel" (214 : Nat) ({ cls := "BatonKernel$Proc", name := "beginRound", desc := "()Z" } : Jvm.MethodName)) ∈ lw_g := lw_gd (lw_in2 (List.mem_of_getElem? (i := 148) (by decide +kernel))) rfl
theorem tw_2_149 : (Jvm.Cond.instanceMethod ({ cls := "BatonKernel$Proc", name := "beginRound", desc := "()Z" } : Jvm.MethodName)) ∈ lw_g := lw_gd (lw_in2 (List.mem_of_getElem? (i := 149) (by decide +kernel))) rfl
theorem tw_2_150 : (Jvm.Cond.selects "BatonKernel$Proc" ({ cls := "BatonKernel$Proc", name := "beginRound", desc := "()Z" } : Jvm.MethodName) ({ cls := "BatonKernel$Proc", name := "beginRound", desc := "()Z" } : Jvm.MethodName)) ∈ lw_g := lw_gd (lw_in2 (List.mem_of_getElem? (i := 150) (by decide +kernel))) rfl
theorem tw_2_152 : (Jvm.Cond.methodLink "BatonKernel" (167 : Nat) ({ cls := "BatonKernel", name := "goOverConditions", desc := "()V" } : Jvm.MethodName)) ∈ lw_g := lw_gd (lw_in2 (List.mem_of_getElem? (i := 152) (by decide +kernel))) rfl
theorem tw_2_154 : (Jvm.Cond.instanceMethod ({ cls := "BatonKernel", name := "goOverConditions", desc := "()V" } : Jvm.MethodName)) ∈ lw_g := lw_gd (lw_in2 (List.mem_of_getElem? (i := 154) (by decide +kernel))) rfl
theorem tw_2_164 : (Jvm.Cond.constantLong "BatonKernel" (174 : Nat) (-1 : Int64)) ∈ lw_g := lw_gd (lw_in2 (List.mem_of_getElem? (i := 164) (by decide +kernel))) rfl
theorem tw_2_205 : (Jvm.Cond.methodLink "BatonKernel" (194 : Nat) ({ cls := "BatonKernel$Trace", name := "before", desc := "(I)I" } : Jvm.MethodName)) ∈ lw_g := lw_gd (lw_in2 (List.mem_of_getElem? (i := 205) (by decide +kernel))) rfl
theorem tw_2_206 : (Jvm.Cond.instanceMethod ({ cls := "BatonKernel$Trace", name := "before", desc := "(I)I" } : Jvm.MethodName)) ∈ lw_g := lw_gd (lw_in2 (List.mem_of_getElem? (i := 206) (by decide +kernel))) rfl
theorem tw_2_207 : (Jvm.Cond.selects "BatonKernel$Trace" ({ cls := "BatonKernel$Trace", name := "before", desc := "(I)I" } : Jvm.MethodName) ({ cls := "BatonKernel$Trace", name := "before", desc := "(I)I" } : Jvm.MethodName)) ∈ lw_g := lw_gd (lw_in2 (List.mem_of_getElem? (i := 207) (by decide +kernel))) rfl
theorem tw_2_215 : (Jvm.Cond.fieldLink "BatonKernelModel" (78 : Nat) "BatonKernelModel" "count" "I") ∈ lw_g := lw_gd (lw_in2 (List.mem_of_getElem? (i := 215) (by decide +kernel))) rfl
theorem tw_2_216 : (Jvm.Cond.fieldLink "BatonKernelModel" (102 : Nat) "BatonKernelModel" "order" "I") ∈ lw_g := lw_gd (lw_in2 (List.mem_of_getElem? (i := 216) (by decide +kernel))) rfl
theorem tw_2_217 : (Jvm.Cond.fieldLink "BatonKernelModel" (134 : Nat) "BatonKernelModel" "coming" "I") ∈ lw_g := lw_gd (lw_in2 (List.mem_of_getElem? (i := 217) (by decide +kernel))) rfl
theorem tw_2_218 : (Jvm.Cond.fieldLink "BatonKernelModel" (168 : Nat) "BatonKernelModel" "events" "I") ∈ lw_g := lw_gd (lw_in2 (List.mem_of_getElem? (i := 218) (by decide +kernel))) rfl
theorem tw_2_219 : (Jvm.Cond.fieldLink "BatonKernelModel" (118 : Nat) "BatonKernelModel" "clock" "J") ∈ lw_g := lw_gd (lw_in2 (List.mem_of_getElem? (i := 219) (by decide +kernel))) rfl
theorem tw_2_220 : (Jvm.Cond.fieldLink "BatonKernelModel" (7 : Nat) "BatonKernelModel" "priority" "[I") ∈ lw_g := lw_gd (lw_in2 (List.mem_of_getElem? (i := 220) (by decide +kernel))) rfl
theorem tw_2_221 : (Jvm.Cond.fieldLink "BatonKernelModel" (13 : Nat) "BatonKernelModel" "rounds" "[I") ∈ lw_g := lw_gd (lw_in2 (List.mem_of_getElem? (i := 221) (by decide +kernel))) rfl
theorem tw_2_222 : (Jvm.Cond.fieldLink "BatonKernelModel" (16 : Nat) "BatonKernelModel" "handler" "[I") ∈ lw_g := lw_gd (lw_in2 (List.mem_of_getElem? (i := 222) (by decide +kernel))) rfl
theorem tw_2_223 : (Jvm.Cond.fieldLink "BatonKernelModel" (19 : Nat) "BatonKernelModel" "length" "[I") ∈ lw_g := lw_gd (lw_in2 (List.mem_of_getElem? (i := 223) (by decide +kernel))) rfl
theorem tw_2_224 : (Jvm.Cond.fieldLink "BatonKernelModel" (22 : Nat) "BatonKernelModel" "spot" "[I") ∈ lw_g := lw_gd (lw_in2 (List.mem_of_getElem? (i := 224) (by decide +kernel))) rfl
theorem tw_2_225 : (Jvm.Cond.fieldLink "BatonKernelModel" (25 : Nat) "BatonKernelModel" "mode" "[I") ∈ lw_g := lw_gd (lw_in2 (List.mem_of_getElem? (i := 225) (by decide +kernel))) rfl
theorem tw_2_226 : (Jvm.Cond.fieldLink "BatonKernelModel" (28 : Nat) "BatonKernelModel" "time" "[J") ∈ lw_g := lw_gd (lw_in2 (List.mem_of_getElem? (i := 226) (by decide +kernel))) rfl
theorem tw_2_227 : (Jvm.Cond.fieldLink "BatonKernelModel" (32 : Nat) "BatonKernelModel" "entry" "[I") ∈ lw_g := lw_gd (lw_in2 (List.mem_of_getElem? (i := 227) (by decide +kernel))) rfl
theorem tw_2_228 : (Jvm.Cond.fieldLink "BatonKernelModel" (35 : Nat) "BatonKernelModel" "came" "[I") ∈ lw_g := lw_gd (lw_in2 (List.mem_of_getElem? (i := 228) (by decide +kernel))) rfl
theorem tw_2_229 : (Jvm.Cond.fieldLink "BatonKernelModel" (38 : Nat) "BatonKernelModel" "since" "[J") ∈ lw_g := lw_gd (lw_in2 (List.mem_of_getElem? (i := 229) (by decide +kernel))) rfl
theorem tw_2_230 : (Jvm.Cond.fieldLink "BatonKernelModel" (41 : Nat) "BatonKernelModel" "op" "[I") ∈ lw_g := lw_gd (lw_in2 (List.mem_of_getElem? (i := 230) (by decide +kernel))) rfl
theorem tw_2_231 : (Jvm.Cond.fieldLink "BatonKernelModel" (44 : Nat) "BatonKernelModel" "argA" "[I") ∈ lw_g := lw_gd (lw_in2 (List.mem_of_getElem? (i := 231) (by decide +kernel))) rfl
theorem tw_2_232 : (Jvm.Cond.fieldLink "BatonKernelModel" (47 : Nat) "BatonKernelModel" "argB" "[I") ∈ lw_g := lw_gd (lw_in2 (List.mem_of_getElem? (i := 232) (by decide +kernel))) rfl
theorem tw_2_233 : (Jvm.Cond.fieldLink "BatonKernelModel" (50 : Nat) "BatonKernelModel" "has" "[I") ∈ lw_g := lw_gd (lw_in2 (List.mem_of_getElem? (i := 233) (by decide +kernel))) rfl
theorem tw_2_234 : (Jvm.Cond.fieldLink "BatonKernelModel" (53 : Nat) "BatonKernelModel" "units" "[I") ∈ lw_g := lw_gd (lw_in2 (List.mem_of_getElem? (i := 234) (by decide +kernel))) rfl
theorem tw_2_235 : (Jvm.Cond.fieldLink "BatonKernelModel" (56 : Nat) "BatonKernelModel" "strong" "[Z") ∈ lw_g := lw_gd (lw_in2 (List.mem_of_getElem? (i := 235) (by decide +kernel))) rfl
theorem tw_2_236 : (Jvm.Cond.fieldLink "BatonKernelModel" (60 : Nat) "BatonKernelModel" "sum" "[J") ∈ lw_g := lw_gd (lw_in2 (List.mem_of_getElem? (i := 236) (by decide +kernel))) rfl
theorem tw_2_237 : (Jvm.Cond.fieldLink "BatonKernelModel" (63 : Nat) "BatonKernelModel" "lined" "[J") ∈ lw_g := lw_gd (lw_in2 (List.mem_of_getElem? (i := 237) (by decide +kernel))) rfl
theorem tw_2_238 : (Jvm.Cond.fieldLink "BatonKernelModel" (66 : Nat) "BatonKernelModel" "most" "[I") ∈ lw_g := lw_gd (lw_in2 (List.mem_of_getElem? (i := 238) (by decide +kernel))) rfl
theorem tw_2_239 : (Jvm.Cond.fieldLink "BatonKernelModel" (69 : Nat) "BatonKernelModel" "full" "[I") ∈ lw_g := lw_gd (lw_in2 (List.mem_of_getElem? (i := 239) (by decide +kernel))) rfl
theorem tw_3_0 : (Jvm.Cond.fieldLink "BatonKernelModel" (72 : Nat) "BatonKernelModel" "lost" "[I") ∈ lw_g := lw_gd (lw_in3 (List.mem_of_getElem? (i := 0) (by decide +kernel))) rfl
theorem tw_3_1 : (Jvm.Cond.fieldLink "BatonKernelModel" (75 : Nat) "BatonKernelModel" "trace" "[I") ∈ lw_g := lw_gd (lw_in3 (List.mem_of_getElem? (i := 1) (by decide +kernel))) rfl
theorem tw_3_2 : (Jvm.Cond.lays "BatonKernelModel" "BatonKernelModel" "count" "I") ∈ lw_g := lw_gd (lw_in3 (List.mem_of_getElem? (i := 2) (by decide +kernel))) rfl
theorem tw_3_4 : (Jvm.Cond.lays "BatonKernelModel" "BatonKernelModel" "order" "I") ∈ lw_g := lw_gd (lw_in3 (List.mem_of_getElem? (i := 4) (by decide +kernel))) rfl
theorem tw_3_6 : (Jvm.Cond.lays "BatonKernelModel" "BatonKernelModel" "coming" "I") ∈ lw_g := lw_gd (lw_in3 (List.mem_of_getElem? (i := 6) (by decide +kernel))) rfl
theorem tw_3_8 : (Jvm.Cond.lays "BatonKernelModel" "BatonKernelModel" "events" "I") ∈ lw_g := lw_gd (lw_in3 (List.mem_of_getElem? (i := 8) (by decide +kernel))) rfl
theorem tw_3_10 : (Jvm.Cond.lays "BatonKernelModel" "BatonKernelModel" "clock" "J") ∈ lw_g := lw_gd (lw_in3 (List.mem_of_getElem? (i := 10) (by decide +kernel))) rfl
theorem tw_3_12 : (Jvm.Cond.lays "BatonKernelModel" "BatonKernelModel" "priority" "[I") ∈ lw_g := lw_gd (lw_in3 (List.mem_of_getElem? (i := 12) (by decide +kernel))) rfl
theorem tw_3_14 : (Jvm.Cond.lays "BatonKernelModel" "BatonKernelModel" "rounds" "[I") ∈ lw_g := lw_gd (lw_in3 (List.mem_of_getElem? (i := 14) (by decide +kernel))) rfl
theorem tw_3_16 : (Jvm.Cond.lays "BatonKernelModel" "BatonKernelModel" "handler" "[I") ∈ lw_g := lw_gd (lw_in3 (List.mem_of_getElem? (i := 16) (by decide +kernel))) rfl
theorem tw_3_18 : (Jvm.Cond.lays "BatonKernelModel" "BatonKernelModel" "length" "[I") ∈ lw_g := lw_gd (lw_in3 (List.mem_of_getElem? (i := 18) (by decide +kernel))) rfl
theorem tw_3_20 : (Jvm.Cond.lays "BatonKernelModel" "BatonKernelModel" "spot" "[I") ∈ lw_g := lw_gd (lw_in3 (List.mem_of_getElem? (i := 20) (by decide +kernel))) rfl
theorem tw_3_22 : (Jvm.Cond.lays "BatonKernelModel" "BatonKernelModel" "mode" "[I") ∈ lw_g := lw_gd (lw_in3 (List.mem_of_getElem? (i := 22) (by decide +kernel))) rfl
theorem tw_3_24 : (Jvm.Cond.lays "BatonKernelModel" "BatonKernelModel" "time" "[J") ∈ lw_g := lw_gd (lw_in3 (List.mem_of_getElem? (i := 24) (by decide +kernel))) rfl
theorem tw_3_26 : (Jvm.Cond.lays "BatonKernelModel" "BatonKernelModel" "entry" "[I") ∈ lw_g := lw_gd (lw_in3 (List.mem_of_getElem? (i := 26) (by decide +kernel))) rfl
theorem tw_3_28 : (Jvm.Cond.lays "BatonKernelModel" "BatonKernelModel" "came" "[I") ∈ lw_g := lw_gd (lw_in3 (List.mem_of_getElem? (i := 28) (by decide +kernel))) rfl
theorem tw_3_30 : (Jvm.Cond.lays "BatonKernelModel" "BatonKernelModel" "since" "[J") ∈ lw_g := lw_gd (lw_in3 (List.mem_of_getElem? (i := 30) (by decide +kernel))) rfl
theorem tw_3_32 : (Jvm.Cond.lays "BatonKernelModel" "BatonKernelModel" "op" "[I") ∈ lw_g := lw_gd (lw_in3 (List.mem_of_getElem? (i := 32) (by decide +kernel))) rfl
theorem tw_3_34 : (Jvm.Cond.lays "BatonKernelModel" "BatonKernelModel" "argA" "[I") ∈ lw_g := lw_gd (lw_in3 (List.mem_of_getElem? (i := 34) (by decide +kernel))) rfl
theorem tw_3_36 : (Jvm.Cond.lays "BatonKernelModel" "BatonKernelModel" "argB" "[I") ∈ lw_g := lw_gd (lw_in3 (List.mem_of_getElem? (i := 36) (by decide +kernel))) rfl
theorem tw_3_38 : (Jvm.Cond.lays "BatonKernelModel" "BatonKernelModel" "has" "[I") ∈ lw_g := lw_gd (lw_in3 (List.mem_of_getElem? (i := 38) (by decide +kernel))) rfl
theorem tw_3_40 : (Jvm.Cond.lays "BatonKernelModel" "BatonKernelModel" "units" "[I") ∈ lw_g := lw_gd (lw_in3 (List.mem_of_getElem? (i := 40) (by decide +kernel))) rfl
theorem tw_3_42 : (Jvm.Cond.lays "BatonKernelModel" "BatonKernelModel" "strong" "[Z") ∈ lw_g := lw_gd (lw_in3 (List.mem_of_getElem? (i := 42) (by decide +kernel))) rfl
theorem tw_3_44 : (Jvm.Cond.lays "BatonKernelModel" "BatonKernelModel" "sum" "[J") ∈ lw_g := lw_gd (lw_in3 (List.mem_of_getElem? (i := 44) (by decide +kernel))) rfl
theorem tw_3_46 : (Jvm.Cond.lays "BatonKernelModel" "BatonKernelModel" "lined" "[J") ∈ lw_g := lw_gd (lw_in3 (List.mem_of_getElem? (i := 46) (by decide +kernel))) rfl
theorem tw_3_48 : (Jvm.Cond.lays "BatonKernelModel" "BatonKernelModel" "most" "[I") ∈ lw_g := lw_gd (lw_in3 (List.mem_of_getElem? (i := 48) (by decide +kernel))) rfl
theorem tw_3_50 : (Jvm.Cond.lays "BatonKernelModel" "BatonKernelModel" "full" "[I") ∈ lw_g := lw_gd (lw_in3 (List.mem_of_getElem? (i := 50) (by decide +kernel))) rfl
theorem tw_3_52 : (Jvm.Cond.lays "BatonKernelModel" "BatonKernelModel" "lost" "[I") ∈ lw_g := lw_gd (lw_in3 (List.mem_of_getElem? (i := 52) (by decide +kernel))) rfl
theorem tw_3_54 : (Jvm.Cond.lays "BatonKernelModel" "BatonKernelModel" "trace" "[I") ∈ lw_g := lw_gd (lw_in3 (List.mem_of_getElem? (i := 54) (by decide +kernel))) rfl
theorem tw_3_67 : (Jvm.Cond.methodLink "BatonKernelModel" (87 : Nat) ({ cls := "BatonKernelModel", name := "none", desc := "(I)Z" } : Jvm.MethodName)) ∈ lw_g := lw_gd (lw_in3 (List.mem_of_getElem? (i := 67) (by decide +kernel))) rfl
theorem tw_3_69 : (Jvm.Cond.instanceMethod ({ cls := "BatonKernelModel", name := "none", desc := "(I)Z" } : Jvm.MethodName)) ∈ lw_g := lw_gd (lw_in3 (List.mem_of_getElem? (i := 69) (by decide +kernel))) rfl
theorem tw_3_71 : (Jvm.Cond.methodLink "BatonKernelModel" (83 : Nat) ({ cls := "BatonKernelModel", name := "within", desc := "(III)Z" } : Jvm.MethodName)) ∈ lw_g := lw_gd (lw_in3 (List.mem_of_getElem? (i := 71) (by decide +kernel))) rfl
theorem tw_3_73 : (Jvm.Cond.instanceMethod ({ cls := "BatonKernelModel", name := "within", desc := "(III)Z" } : Jvm.MethodName)) ∈ lw_g := lw_gd (lw_in3 (List.mem_of_getElem? (i := 73) (by decide +kernel))) rfl
theorem tw_3_75 : (Jvm.Cond.methodLink "BatonKernelModel" (91 : Nat) ({ cls := "BatonKernelModel", name := "fits", desc := "(III)Z" } : Jvm.MethodName)) ∈ lw_g := lw_gd (lw_in3 (List.mem_of_getElem? (i := 75) (by decide +kernel))) rfl
theorem tw_3_77 : (Jvm.Cond.instanceMethod ({ cls := "BatonKernelModel", name := "fits", desc := "(III)Z" } : Jvm.MethodName)) ∈ lw_g := lw_gd (lw_in3 (List.mem_of_getElem? (i := 77) (by decide +kernel))) rfl
theorem tw_3_79 : (Jvm.Cond.constant "BatonKernelModel" (82 : Nat) (1000000 : Int32)) ∈ lw_g := lw_gd (lw_in3 (List.mem_of_getElem? (i := 79) (by decide +kernel))) rfl
theorem tw_3_84 : (Jvm.Cond.methodLink "BatonKernelModel" (94 : Nat) ({ cls := "BatonKernelModel", name := "seized", desc := "(I)I" } : Jvm.MethodName)) ∈ lw_g := lw_gd (lw_in3 (List.mem_of_getElem? (i := 84) (by decide +kernel))) rfl
theorem tw_3_86 : (Jvm.Cond.instanceMethod ({ cls := "BatonKernelModel", name := "seized", desc := "(I)I" } : Jvm.MethodName)) ∈ lw_g := lw_gd (lw_in3 (List.mem_of_getElem? (i := 86) (by decide +kernel))) rfl
theorem tw_3_88 : (Jvm.Cond.methodLink "BatonKernelModel" (98 : Nat) ({ cls := "BatonKernelModel", name := "serve", desc := "(I)V" } : Jvm.MethodName)) ∈ lw_g := lw_gd (lw_in3 (List.mem_of_getElem? (i := 88) (by decide +kernel))) rfl
theorem tw_3_90 : (Jvm.Cond.instanceMethod ({ cls := "BatonKernelModel", name := "serve", desc := "(I)V" } : Jvm.MethodName)) ∈ lw_g := lw_gd (lw_in3 (List.mem_of_getElem? (i := 90) (by decide +kernel))) rfl
theorem tw_3_92 : (Jvm.Cond.methodLink "BatonKernelModel" (112 : Nat) ({ cls := "BatonKernelModel", name := "head", desc := "(I)I" } : Jvm.MethodName)) ∈ lw_g := lw_gd (lw_in3 (List.mem_of_getElem? (i := 92) (by decide +kernel))) rfl
theorem tw_3_94 : (Jvm.Cond.instanceMethod ({ cls := "BatonKernelModel", name := "head", desc := "(I)I" } : Jvm.MethodName)) ∈ lw_g := lw_gd (lw_in3 (List.mem_of_getElem? (i := 94) (by decide +kernel))) rfl
theorem tw_3_96 : (Jvm.Cond.methodLink "BatonKernelModel" (109 : Nat) ({ cls := "BatonKernelModel", name := "done", desc := "(I)I" } : Jvm.MethodName)) ∈ lw_g := lw_gd (lw_in3 (List.mem_of_getElem? (i := 96) (by decide +kernel))) rfl
theorem tw_3_98 : (Jvm.Cond.instanceMethod ({ cls := "BatonKernelModel", name := "done", desc := "(I)I" } : Jvm.MethodName)) ∈ lw_g := lw_gd (lw_in3 (List.mem_of_getElem? (i := 98) (by decide +kernel))) rfl
theorem tw_3_100 : (Jvm.Cond.methodLink "BatonKernelModel" (115 : Nat) ({ cls := "BatonKernelModel", name := "rest", desc := "(I)I" } : Jvm.MethodName)) ∈ lw_g := lw_gd (lw_in3 (List.mem_of_getElem? (i := 100) (by decide +kernel))) rfl
theorem tw_3_102 : (Jvm.Cond.instanceMethod ({ cls := "BatonKernelModel", name := "rest", desc := "(I)I" } : Jvm.MethodName)) ∈ lw_g := lw_gd (lw_in3 (List.mem_of_getElem? (i := 102) (by decide +kernel))) rfl
theorem tw_3_104 : (Jvm.Cond.methodLink "BatonKernelModel" (122 : Nat) ({ cls := "BatonKernelModel", name := "enter", desc := "(IIJ)V" } : Jvm.MethodName)) ∈ lw_g := lw_gd (lw_in3 (List.mem_of_getElem? (i := 104) (by decide +kernel))) rfl
theorem tw_3_106 : (Jvm.Cond.instanceMethod ({ cls := "BatonKernelModel", name := "enter", desc := "(IIJ)V" } : Jvm.MethodName)) ∈ lw_g := lw_gd (lw_in3 (List.mem_of_getElem? (i := 106) (by decide +kernel))) rfl
theorem tw_3_116 : (Jvm.Cond.constantLong "BatonKernelModel" (177 : Nat) (1000000000000 : Int64)) ∈ lw_g := lw_gd (lw_in3 (List.mem_of_getElem? (i := 116) (by decide +kernel))) rfl
theorem tw_3_117 : (Jvm.Cond.methodLink "BatonKernelModel" (179 : Nat) ({ cls := "BatonKernelModel", name := "first", desc := "()I" } : Jvm.MethodName)) ∈ lw_g := lw_gd (lw_in3 (List.mem_of_getElem? (i := 117) (by decide +kernel))) rfl
theorem tw_3_119 : (Jvm.Cond.instanceMethod ({ cls := "BatonKernelModel", name := "first", desc := "()I" } : Jvm.MethodName)) ∈ lw_g := lw_gd (lw_in3 (List.mem_of_getElem? (i := 119) (by decide +kernel))) rfl
theorem tw_3_121 : (Jvm.Cond.methodLink "BatonKernelModel" (105 : Nat) ({ cls := "BatonKernelModel", name := "sooner", desc := "(II)Z" } : Jvm.MethodName)) ∈ lw_g := lw_gd (lw_in3 (List.mem_of_getElem? (i := 121) (by decide +kernel))) rfl
theorem tw_3_123 : (Jvm.Cond.instanceMethod ({ cls := "BatonKernelModel", name := "sooner", desc := "(II)Z" } : Jvm.MethodName)) ∈ lw_g := lw_gd (lw_in3 (List.mem_of_getElem? (i := 123) (by decide +kernel))) rfl
theorem tw_3_125 : (Jvm.Cond.methodLink "BatonKernelModel" (183 : Nat) ({ cls := "BatonKernelModel", name := "event", desc := "(I)V" } : Jvm.MethodName)) ∈ lw_g := lw_gd (lw_in3 (List.mem_of_getElem? (i := 125) (by decide +kernel))) rfl
theorem tw_3_127 : (Jvm.Cond.instanceMethod ({ cls := "BatonKernelModel", name := "event", desc := "(I)V" } : Jvm.MethodName)) ∈ lw_g := lw_gd (lw_in3 (List.mem_of_getElem? (i := 127) (by decide +kernel))) rfl
theorem tw_3_129 : (Jvm.Cond.methodLink "BatonKernelModel" (164 : Nat) ({ cls := "BatonKernelModel", name := "advance", desc := "(J)V" } : Jvm.MethodName)) ∈ lw_g := lw_gd (lw_in3 (List.mem_of_getElem? (i := 129) (by decide +kernel))) rfl
theorem tw_3_131 : (Jvm.Cond.instanceMethod ({ cls := "BatonKernelModel", name := "advance", desc := "(J)V" } : Jvm.MethodName)) ∈ lw_g := lw_gd (lw_in3 (List.mem_of_getElem? (i := 131) (by decide +kernel))) rfl
theorem tw_3_133 : (Jvm.Cond.methodLink "BatonKernelModel" (171 : Nat) ({ cls := "BatonKernelModel", name := "turn", desc := "(I)V" } : Jvm.MethodName)) ∈ lw_g := lw_gd (lw_in3 (List.mem_of_getElem? (i := 133) (by decide +kernel))) rfl
theorem tw_3_135 : (Jvm.Cond.instanceMethod ({ cls := "BatonKernelModel", name := "turn", desc := "(I)V" } : Jvm.MethodName)) ∈ lw_g := lw_gd (lw_in3 (List.mem_of_getElem? (i := 135) (by decide +kernel))) rfl
theorem tw_3_137 : (Jvm.Cond.methodLink "BatonKernelModel" (161 : Nat) ({ cls := "BatonKernelModel", name := "perform", desc := "(II)Z" } : Jvm.MethodName)) ∈ lw_g := lw_gd (lw_in3 (List.mem_of_getElem? (i := 137) (by decide +kernel))) rfl
theorem tw_3_139 : (Jvm.Cond.instanceMethod ({ cls := "BatonKernelModel", name := "perform", desc := "(II)Z" } : Jvm.MethodName)) ∈ lw_g := lw_gd (lw_in3 (List.mem_of_getElem? (i := 139) (by decide +kernel))) rfl
theorem tw_3_141 : (Jvm.Cond.methodLink "BatonKernelModel" (149 : Nat) ({ cls := "BatonKernelModel", name := "seize", desc := "(III)Z" } : Jvm.MethodName)) ∈ lw_g := lw_gd (lw_in3 (List.mem_of_getElem? (i := 141) (by decide +kernel))) rfl
theorem tw_3_143 : (Jvm.Cond.instanceMethod ({ cls := "BatonKernelModel", name := "seize", desc := "(III)Z" } : Jvm.MethodName)) ∈ lw_g := lw_gd (lw_in3 (List.mem_of_getElem? (i := 143) (by decide +kernel))) rfl
theorem tw_3_145 : (Jvm.Cond.methodLink "BatonKernelModel" (126 : Nat) ({ cls := "BatonKernelModel", name := "reach", desc := "(II)I" } : Jvm.MethodName)) ∈ lw_g := lw_gd (lw_in3 (List.mem_of_getElem? (i := 145) (by decide +kernel))) rfl
theorem tw_3_147 : (Jvm.Cond.instanceMethod ({ cls := "BatonKernelModel", name := "reach", desc := "(II)I" } : Jvm.MethodName)) ∈ lw_g := lw_gd (lw_in3 (List.mem_of_getElem? (i := 147) (by decide +kernel))) rfl
theorem tw_3_149 : (Jvm.Cond.methodLink "BatonKernelModel" (130 : Nat) ({ cls := "BatonKernelModel", name := "preempt", desc := "(III)V" } : Jvm.MethodName)) ∈ lw_g := lw_gd (lw_in3 (List.mem_of_getElem? (i := 149) (by decide +kernel))) rfl
theorem tw_3_151 : (Jvm.Cond.instanceMethod ({ cls := "BatonKernelModel", name := "preempt", desc := "(III)V" } : Jvm.MethodName)) ∈ lw_g := lw_gd (lw_in3 (List.mem_of_getElem? (i := 151) (by decide +kernel))) rfl
theorem tw_3_153 : (Jvm.Cond.methodLink "BatonKernelModel" (137 : Nat) ({ cls := "BatonKernelModel", name := "victim", desc := "(II)I" } : Jvm.MethodName)) ∈ lw_g := lw_gd (lw_in3 (List.mem_of_getElem? (i := 153) (by decide +kernel))) rfl
theorem tw_3_155 : (Jvm.Cond.instanceMethod ({ cls := "BatonKernelModel", name := "victim", desc := "(II)I" } : Jvm.MethodName)) ∈ lw_g := lw_gd (lw_in3 (List.mem_of_getElem? (i := 155) (by decide +kernel))) rfl
theorem tw_3_157 : (Jvm.Cond.methodLink "BatonKernelModel" (140 : Nat) ({ cls := "BatonKernelModel", name := "interrupt", desc := "(I)Z" } : Jvm.MethodName)) ∈ lw_g := lw_gd (lw_in3 (List.mem_of_getElem? (i := 157) (by decide +kernel))) rfl
theorem tw_3_158 : (Jvm.Cond.instanceMethod ({ cls := "BatonKernelModel", name := "interrupt", desc := "(I)Z" } : Jvm.MethodName)) ∈ lw_g := lw_gd (lw_in3 (List.mem_of_getElem? (i := 158) (by decide +kernel))) rfl
theorem tw_3_159 : (Jvm.Cond.selects "BatonKernelModel" ({ cls := "BatonKernelModel", name := "interrupt", desc := "(I)Z" } : Jvm.MethodName) ({ cls := "BatonKernelModel", name := "interrupt", desc := "(I)Z" } : Jvm.MethodName)) ∈ lw_g := lw_gd (lw_in3 (List.mem_of_getElem? (i := 159) (by decide +kernel))) rfl
theorem tw_3_161 : (Jvm.Cond.methodLink "BatonKernelModel" (152 : Nat) ({ cls := "BatonKernelModel", name := "release", desc := "(III)V" } : Jvm.MethodName)) ∈ lw_g := lw_gd (lw_in3 (List.mem_of_getElem? (i := 161) (by decide +kernel))) rfl
theorem tw_3_163 : (Jvm.Cond.instanceMethod ({ cls := "BatonKernelModel", name := "release", desc := "(III)V" } : Jvm.MethodName)) ∈ lw_g := lw_gd (lw_in3 (List.mem_of_getElem? (i := 163) (by decide +kernel))) rfl
theorem tw_3_165 : (Jvm.Cond.methodLink "BatonKernelModel" (155 : Nat) ({ cls := "BatonKernelModel", name := "activate", desc := "(II)Z" } : Jvm.MethodName)) ∈ lw_g := lw_gd (lw_in3 (List.mem_of_getElem? (i := 165) (by decide +kernel))) rfl
theorem tw_3_166 : (Jvm.Cond.instanceMethod ({ cls := "BatonKernelModel", name := "activate", desc := "(II)Z" } : Jvm.MethodName)) ∈ lw_g := lw_gd (lw_in3 (List.mem_of_getElem? (i := 166) (by decide +kernel))) rfl
theorem tw_3_167 : (Jvm.Cond.selects "BatonKernelModel" ({ cls := "BatonKernelModel", name := "activate", desc := "(II)Z" } : Jvm.MethodName) ({ cls := "BatonKernelModel", name := "activate", desc := "(II)Z" } : Jvm.MethodName)) ∈ lw_g := lw_gd (lw_in3 (List.mem_of_getElem? (i := 167) (by decide +kernel))) rfl
theorem tw_3_169 : (Jvm.Cond.methodLink "BatonKernelModel" (158 : Nat) ({ cls := "BatonKernelModel", name := "kill", desc := "(I)Z" } : Jvm.MethodName)) ∈ lw_g := lw_gd (lw_in3 (List.mem_of_getElem? (i := 169) (by decide +kernel))) rfl
theorem tw_3_170 : (Jvm.Cond.instanceMethod ({ cls := "BatonKernelModel", name := "kill", desc := "(I)Z" } : Jvm.MethodName)) ∈ lw_g := lw_gd (lw_in3 (List.mem_of_getElem? (i := 170) (by decide +kernel))) rfl
theorem tw_3_171 : (Jvm.Cond.selects "BatonKernelModel" ({ cls := "BatonKernelModel", name := "kill", desc := "(I)Z" } : Jvm.MethodName) ({ cls := "BatonKernelModel", name := "kill", desc := "(I)Z" } : Jvm.MethodName)) ∈ lw_g := lw_gd (lw_in3 (List.mem_of_getElem? (i := 171) (by decide +kernel))) rfl
theorem tw_3_173 : (Jvm.Cond.methodLink "BatonKernelModel" (143 : Nat) ({ cls := "BatonKernelModel", name := "holds", desc := "(I)Z" } : Jvm.MethodName)) ∈ lw_g := lw_gd (lw_in3 (List.mem_of_getElem? (i := 173) (by decide +kernel))) rfl
theorem tw_3_175 : (Jvm.Cond.instanceMethod ({ cls := "BatonKernelModel", name := "holds", desc := "(I)Z" } : Jvm.MethodName)) ∈ lw_g := lw_gd (lw_in3 (List.mem_of_getElem? (i := 175) (by decide +kernel))) rfl
theorem tw_3_177 : (Jvm.Cond.methodLink "BatonKernelModel" (146 : Nat) ({ cls := "BatonKernelModel", name := "pour", desc := "(I)V" } : Jvm.MethodName)) ∈ lw_g := lw_gd (lw_in3 (List.mem_of_getElem? (i := 177) (by decide +kernel))) rfl
theorem tw_3_179 : (Jvm.Cond.instanceMethod ({ cls := "BatonKernelModel", name := "pour", desc := "(I)V" } : Jvm.MethodName)) ∈ lw_g := lw_gd (lw_in3 (List.mem_of_getElem? (i := 179) (by decide +kernel))) rfl
theorem tw_3_181 : (Jvm.Cond.methodLink "BatonKernelModel" (174 : Nat) ({ cls := "BatonKernelModel", name := "goOver", desc := "()V" } : Jvm.MethodName)) ∈ lw_g := lw_gd (lw_in3 (List.mem_of_getElem? (i := 181) (by decide +kernel))) rfl
theorem tw_3_183 : (Jvm.Cond.instanceMethod ({ cls := "BatonKernelModel", name := "goOver", desc := "()V" } : Jvm.MethodName)) ∈ lw_g := lw_gd (lw_in3 (List.mem_of_getElem? (i := 183) (by decide +kernel))) rfl
theorem tw_3_196 : (Jvm.Cond.constantLong "BatonKernelModel" (186 : Nat) (-1 : Int64)) ∈ lw_g := lw_gd (lw_in3 (List.mem_of_getElem? (i := 196) (by decide +kernel))) rfl
set_option maxRecDepth 20000 in
theorem tc_K_init : Cond.code by_K_init bc_K_init 2 none ∈ lw_g := lw_gd (lw_in1 (List.mem_of_getElem? (i := 13) rfl)) rfl
set_option maxRecDepth 20000 in
theorem tc_K_process : Cond.code by_K_process bc_K_process 5 (some .int) ∈ lw_g := lw_gd (lw_in1 (List.mem_of_getElem? (i := 202) rfl)) rfl
set_option maxRecDepth 20000 in
theorem tc_K_instruct : Cond.code by_K_instruct bc_K_instruct 6 (some .boolean) ∈ lw_g := lw_gd (lw_in1 (List.mem_of_getElem? (i := 209) rfl)) rfl
set_option maxRecDepth 20000 in
theorem tc_K_resource : Cond.code by_K_resource bc_K_resource 4 (some .boolean) ∈ lw_g := lw_gd (lw_in1 (List.mem_of_getElem? (i := 231) rfl)) rfl
set_option maxRecDepth 20000 in
theorem tc_K_tank : Cond.code by_K_tank bc_K_tank 4 (some .boolean) ∈ lw_g := lw_gd (lw_in2 (List.mem_of_getElem? (i := 19) rfl)) rfl
set_option maxRecDepth 20000 in
theorem tc_K_activate : Cond.code by_K_activate bc_K_activate 4 (some .boolean) ∈ lw_g := lw_gd (lw_in2 (List.mem_of_getElem? (i := 23) rfl)) rfl
set_option maxRecDepth 20000 in
theorem tc_K_interrupt : Cond.code by_K_interrupt bc_K_interrupt 4 (some .boolean) ∈ lw_g := lw_gd (lw_in2 (List.mem_of_getElem? (i := 27) rfl)) rfl
set_option maxRecDepth 20000 in
theorem tc_K_kill : Cond.code by_K_kill bc_K_kill 5 (some .boolean) ∈ lw_g := lw_gd (lw_in2 (List.mem_of_getElem? (i := 47) rfl)) rfl
set_option maxRecDepth 20000 in
theorem tc_K_run : Cond.code by_K_run bc_K_run 6 (some .int) ∈ lw_g := lw_gd (lw_in2 (List.mem_of_getElem? (i := 66) rfl)) rfl
set_option maxRecDepth 20000 in
theorem tc_K_now : Cond.code by_K_now bc_K_now 1 (some .long) ∈ lw_g := lw_gd (lw_in2 (List.mem_of_getElem? (i := 159) rfl)) rfl
set_option maxRecDepth 20000 in
theorem tc_K_next : Cond.code by_K_next bc_K_next 2 (some .long) ∈ lw_g := lw_gd (lw_in2 (List.mem_of_getElem? (i := 163) rfl)) rfl
set_option maxRecDepth 20000 in
theorem tc_K_state : Cond.code by_K_state bc_K_state 2 (some .int) ∈ lw_g := lw_gd (lw_in2 (List.mem_of_getElem? (i := 168) rfl)) rfl
set_option maxRecDepth 20000 in
theorem tc_K_place : Cond.code by_K_place bc_K_place 2 (some .int) ∈ lw_g := lw_gd (lw_in2 (List.mem_of_getElem? (i := 172) rfl)) rfl
set_option maxRecDepth 20000 in
theorem tc_K_held : Cond.code by_K_held bc_K_held 3 (some .int) ∈ lw_g := lw_gd (lw_in2 (List.mem_of_getElem? (i := 176) rfl)) rfl
set_option maxRecDepth 20000 in
theorem tc_K_free : Cond.code by_K_free bc_K_free 2 (some .int) ∈ lw_g := lw_gd (lw_in2 (List.mem_of_getElem? (i := 180) rfl)) rfl
set_option maxRecDepth 20000 in
theorem tc_K_waiting : Cond.code by_K_waiting bc_K_waiting 2 (some .int) ∈ lw_g := lw_gd (lw_in2 (List.mem_of_getElem? (i := 184) rfl)) rfl
set_option maxRecDepth 20000 in
theorem tc_K_area : Cond.code by_K_area bc_K_area 2 (some .long) ∈ lw_g := lw_gd (lw_in2 (List.mem_of_getElem? (i := 188) rfl)) rfl
set_option maxRecDepth 20000 in
theorem tc_K_waited : Cond.code by_K_waited bc_K_waited 2 (some .long) ∈ lw_g := lw_gd (lw_in2 (List.mem_of_getElem? (i := 192) rfl)) rfl
set_option maxRecDepth 20000 in
theorem tc_K_level : Cond.code by_K_level bc_K_level 2 (some .int) ∈ lw_g := lw_gd (lw_in2 (List.mem_of_getElem? (i := 196) rfl)) rfl
set_option maxRecDepth 20000 in
theorem tc_K_stuck : Cond.code by_K_stuck bc_K_stuck 3 (some .boolean) ∈ lw_g := lw_gd (lw_in2 (List.mem_of_getElem? (i := 200) rfl)) rfl
set_option maxRecDepth 20000 in
theorem tc_K_traced : Cond.code by_K_traced bc_K_traced 2 (some .int) ∈ lw_g := lw_gd (lw_in2 (List.mem_of_getElem? (i := 204) rfl)) rfl
set_option maxRecDepth 20000 in
theorem tc_K_isWithin : Cond.code by_K_isWithin bc_K_isWithin 3 (some .boolean) ∈ lw_g := lw_gd (lw_in1 (List.mem_of_getElem? (i := 205) rfl)) rfl
set_option maxRecDepth 20000 in
theorem tc_K_isResource : Cond.code by_K_isResource bc_K_isResource 1 (some .boolean) ∈ lw_g := lw_gd (lw_in1 (List.mem_of_getElem? (i := 220) rfl)) rfl
set_option maxRecDepth 20000 in
theorem tc_K_isTank : Cond.code by_K_isTank bc_K_isTank 1 (some .boolean) ∈ lw_g := lw_gd (lw_in1 (List.mem_of_getElem? (i := 223) rfl)) rfl
set_option maxRecDepth 20000 in
theorem tc_K_isProcess : Cond.code by_K_isProcess bc_K_isProcess 2 (some .boolean) ∈ lw_g := lw_gd (lw_in1 (List.mem_of_getElem? (i := 213) rfl)) rfl
theorem ts_K_isProcess : Cond.selects bR_K by_K_isProcess by_K_isProcess ∈ lw_g := lw_gd (lw_sel (q := (by_K_isProcess, 9)) (by decide +kernel)) rfl
set_option maxRecDepth 20000 in
theorem tc_K_isInstruction : Cond.code by_K_isInstruction bc_K_isInstruction 3 (some .boolean) ∈ lw_g := lw_gd (lw_in1 (List.mem_of_getElem? (i := 216) rfl)) rfl
set_option maxRecDepth 20000 in
theorem tc_K_moveClock : Cond.code by_K_moveClock bc_K_moveClock 4 none ∈ lw_g := lw_gd (lw_in2 (List.mem_of_getElem? (i := 83) rfl)) rfl
theorem ts_K_moveClock : Cond.selects bR_K by_K_moveClock by_K_moveClock ∈ lw_g := lw_gd (lw_sel (q := (by_K_moveClock, 9)) (by decide +kernel)) rfl
set_option maxRecDepth 20000 in
theorem tc_K_enter : Cond.code by_K_enter bc_K_enter 4 none ∈ lw_g := lw_gd (lw_in2 (List.mem_of_getElem? (i := 15) rfl)) rfl
theorem ts_K_enter : Cond.selects bR_K by_K_enter by_K_enter ∈ lw_g := lw_gd (lw_sel (q := (by_K_enter, 9)) (by decide +kernel)) rfl
set_option maxRecDepth 20000 in
theorem tc_K_firstEntry : Cond.code by_K_firstEntry bc_K_firstEntry 3 (some .int) ∈ lw_g := lw_gd (lw_in2 (List.mem_of_getElem? (i := 71) rfl)) rfl
theorem ts_K_firstEntry : Cond.selects bR_K by_K_firstEntry by_K_firstEntry ∈ lw_g := lw_gd (lw_sel (q := (by_K_firstEntry, 9)) (by decide +kernel)) rfl
set_option maxRecDepth 20000 in
theorem tc_K_begin : Cond.code by_K_begin bc_K_begin 2 none ∈ lw_g := lw_gd (lw_in2 (List.mem_of_getElem? (i := 79) rfl)) rfl
theorem ts_K_begin : Cond.selects bR_K by_K_begin by_K_begin ∈ lw_g := lw_gd (lw_sel (q := (by_K_begin, 9)) (by decide +kernel)) rfl
set_option maxRecDepth 20000 in
theorem tc_K_doTurn : Cond.code by_K_doTurn bc_K_doTurn 4 none ∈ lw_g := lw_gd (lw_in2 (List.mem_of_getElem? (i := 92) rfl)) rfl
theorem ts_K_doTurn : Cond.selects bR_K by_K_doTurn by_K_doTurn ∈ lw_g := lw_gd (lw_sel (q := (by_K_doTurn, 9)) (by decide +kernel)) rfl
set_option maxRecDepth 20000 in
theorem tc_K_perform : Cond.code by_K_perform bc_K_perform 3 (some .boolean) ∈ lw_g := lw_gd (lw_in2 (List.mem_of_getElem? (i := 96) rfl)) rfl
theorem ts_K_perform : Cond.selects bR_K by_K_perform by_K_perform ∈ lw_g := lw_gd (lw_sel (q := (by_K_perform, 9)) (by decide +kernel)) rfl
set_option maxRecDepth 20000 in
theorem tc_K_countBefore : Cond.code by_K_countBefore bc_K_countBefore 5 (some .int) ∈ lw_g := lw_gd (lw_in2 (List.mem_of_getElem? (i := 104) rfl)) rfl
theorem ts_K_countBefore : Cond.selects bR_K by_K_countBefore by_K_countBefore ∈ lw_g := lw_gd (lw_sel (q := (by_K_countBefore, 9)) (by decide +kernel)) rfl
set_option maxRecDepth 20000 in
theorem tc_K_seizeFree : Cond.code by_K_seizeFree bc_K_seizeFree 4 (some .boolean) ∈ lw_g := lw_gd (lw_in2 (List.mem_of_getElem? (i := 100) rfl)) rfl
theorem ts_K_seizeFree : Cond.selects bR_K by_K_seizeFree by_K_seizeFree ∈ lw_g := lw_gd (lw_sel (q := (by_K_seizeFree, 9)) (by decide +kernel)) rfl
set_option maxRecDepth 20000 in
theorem tc_K_seizeByForce : Cond.code by_K_seizeByForce bc_K_seizeByForce 6 (some .boolean) ∈ lw_g := lw_gd (lw_in2 (List.mem_of_getElem? (i := 108) rfl)) rfl
theorem ts_K_seizeByForce : Cond.selects bR_K by_K_seizeByForce by_K_seizeByForce ∈ lw_g := lw_gd (lw_sel (q := (by_K_seizeByForce, 9)) (by decide +kernel)) rfl
set_option maxRecDepth 20000 in
theorem tc_K_standInLine : Cond.code by_K_standInLine bc_K_standInLine 3 (some .boolean) ∈ lw_g := lw_gd (lw_in2 (List.mem_of_getElem? (i := 125) rfl)) rfl
theorem ts_K_standInLine : Cond.selects bR_K by_K_standInLine by_K_standInLine ∈ lw_g := lw_gd (lw_sel (q := (by_K_standInLine, 9)) (by decide +kernel)) rfl
set_option maxRecDepth 20000 in
theorem tc_K_withinReach : Cond.code by_K_withinReach bc_K_withinReach 5 (some .int) ∈ lw_g := lw_gd (lw_in2 (List.mem_of_getElem? (i := 112) rfl)) rfl
theorem ts_K_withinReach : Cond.selects bR_K by_K_withinReach by_K_withinReach ∈ lw_g := lw_gd (lw_sel (q := (by_K_withinReach, 9)) (by decide +kernel)) rfl
set_option maxRecDepth 20000 in
theorem tc_K_takeFromLosers : Cond.code by_K_takeFromLosers bc_K_takeFromLosers 6 (some .int) ∈ lw_g := lw_gd (lw_in2 (List.mem_of_getElem? (i := 116) rfl)) rfl
theorem ts_K_takeFromLosers : Cond.selects bR_K by_K_takeFromLosers by_K_takeFromLosers ∈ lw_g := lw_gd (lw_sel (q := (by_K_takeFromLosers, 9)) (by decide +kernel)) rfl
set_option maxRecDepth 20000 in
theorem tc_K_nextLoser : Cond.code by_K_nextLoser bc_K_nextLoser 6 (some .int) ∈ lw_g := lw_gd (lw_in2 (List.mem_of_getElem? (i := 120) rfl)) rfl
theorem ts_K_nextLoser : Cond.selects bR_K by_K_nextLoser by_K_nextLoser ∈ lw_g := lw_gd (lw_sel (q := (by_K_nextLoser, 9)) (by decide +kernel)) rfl
set_option maxRecDepth 20000 in
theorem tc_K_give : Cond.code by_K_give bc_K_give 4 none ∈ lw_g := lw_gd (lw_in2 (List.mem_of_getElem? (i := 7) rfl)) rfl
theorem ts_K_give : Cond.selects bR_K by_K_give by_K_give ∈ lw_g := lw_gd (lw_sel (q := (by_K_give, 9)) (by decide +kernel)) rfl
set_option maxRecDepth 20000 in
theorem tc_K_takeBack : Cond.code by_K_takeBack bc_K_takeBack 4 none ∈ lw_g := lw_gd (lw_in2 (List.mem_of_getElem? (i := 62) rfl)) rfl
theorem ts_K_takeBack : Cond.selects bR_K by_K_takeBack by_K_takeBack ∈ lw_g := lw_gd (lw_sel (q := (by_K_takeBack, 9)) (by decide +kernel)) rfl
set_option maxRecDepth 20000 in
theorem tc_K_giveBack : Cond.code by_K_giveBack bc_K_giveBack 4 none ∈ lw_g := lw_gd (lw_in2 (List.mem_of_getElem? (i := 55) rfl)) rfl
theorem ts_K_giveBack : Cond.selects bR_K by_K_giveBack by_K_giveBack ∈ lw_g := lw_gd (lw_sel (q := (by_K_giveBack, 9)) (by decide +kernel)) rfl
set_option maxRecDepth 20000 in
theorem tc_K_serve : Cond.code by_K_serve bc_K_serve 5 none ∈ lw_g := lw_gd (lw_in1 (List.mem_of_getElem? (i := 235) rfl)) rfl
theorem ts_K_serve : Cond.selects bR_K by_K_serve by_K_serve ∈ lw_g := lw_gd (lw_sel (q := (by_K_serve, 9)) (by decide +kernel)) rfl
set_option maxRecDepth 20000 in
theorem tc_K_meetCondition : Cond.code by_K_meetCondition bc_K_meetCondition 3 (some .boolean) ∈ lw_g := lw_gd (lw_in2 (List.mem_of_getElem? (i := 133) rfl)) rfl
theorem ts_K_meetCondition : Cond.selects bR_K by_K_meetCondition by_K_meetCondition ∈ lw_g := lw_gd (lw_sel (q := (by_K_meetCondition, 9)) (by decide +kernel)) rfl
set_option maxRecDepth 20000 in
theorem tc_K_waitForCondition : Cond.code by_K_waitForCondition bc_K_waitForCondition 2 (some .boolean) ∈ lw_g := lw_gd (lw_in2 (List.mem_of_getElem? (i := 145) rfl)) rfl
theorem ts_K_waitForCondition : Cond.selects bR_K by_K_waitForCondition by_K_waitForCondition ∈ lw_g := lw_gd (lw_sel (q := (by_K_waitForCondition, 9)) (by decide +kernel)) rfl
set_option maxRecDepth 20000 in
theorem tc_K_goOverConditions : Cond.code by_K_goOverConditions bc_K_goOverConditions 4 none ∈ lw_g := lw_gd (lw_in2 (List.mem_of_getElem? (i := 155) rfl)) rfl
theorem ts_K_goOverConditions : Cond.selects bR_K by_K_goOverConditions by_K_goOverConditions ∈ lw_g := lw_gd (lw_sel (q := (by_K_goOverConditions, 9)) (by decide +kernel)) rfl
set_option maxRecDepth 20000 in
theorem tc_K_lineOf : Cond.code by_K_lineOf bc_K_lineOf 2 (some .int) ∈ lw_g := lw_gd (lw_in2 (List.mem_of_getElem? (i := 35) rfl)) rfl
theorem ts_K_lineOf : Cond.selects bR_K by_K_lineOf by_K_lineOf ∈ lw_g := lw_gd (lw_sel (q := (by_K_lineOf, 9)) (by decide +kernel)) rfl
set_option maxRecDepth 20000 in
theorem tc_K_leave : Cond.code by_K_leave bc_K_leave 2 none ∈ lw_g := lw_gd (lw_in2 (List.mem_of_getElem? (i := 43) rfl)) rfl
theorem ts_K_leave : Cond.selects bR_K by_K_leave by_K_leave ∈ lw_g := lw_gd (lw_sel (q := (by_K_leave, 9)) (by decide +kernel)) rfl
set_option maxRecDepth 20000 in
theorem tc_M_init : Cond.code by_M_init bc_M_init 2 none ∈ lw_g := lw_gd (lw_in2 (List.mem_of_getElem? (i := 213) rfl)) rfl
set_option maxRecDepth 20000 in
theorem tc_M_process : Cond.code by_M_process bc_M_process 4 (some .int) ∈ lw_g := lw_gd (lw_in3 (List.mem_of_getElem? (i := 62) rfl)) rfl
set_option maxRecDepth 20000 in
theorem tc_M_within : Cond.code by_M_within bc_M_within 4 (some .boolean) ∈ lw_g := lw_gd (lw_in3 (List.mem_of_getElem? (i := 74) rfl)) rfl
theorem ts_M_within : Cond.selects bR_M by_M_within by_M_within ∈ lw_g := lw_gd (lw_sel (q := (by_M_within, 27)) (by decide +kernel)) rfl
set_option maxRecDepth 20000 in
theorem tc_M_fits : Cond.code by_M_fits bc_M_fits 4 (some .boolean) ∈ lw_g := lw_gd (lw_in3 (List.mem_of_getElem? (i := 78) rfl)) rfl
theorem ts_M_fits : Cond.selects bR_M by_M_fits by_M_fits ∈ lw_g := lw_gd (lw_sel (q := (by_M_fits, 27)) (by decide +kernel)) rfl
set_option maxRecDepth 20000 in
theorem tc_M_none : Cond.code by_M_none bc_M_none 2 (some .boolean) ∈ lw_g := lw_gd (lw_in3 (List.mem_of_getElem? (i := 70) rfl)) rfl
theorem ts_M_none : Cond.selects bR_M by_M_none by_M_none ∈ lw_g := lw_gd (lw_sel (q := (by_M_none, 27)) (by decide +kernel)) rfl
set_option maxRecDepth 20000 in
theorem tc_M_instruct : Cond.code by_M_instruct bc_M_instruct 6 (some .boolean) ∈ lw_g := lw_gd (lw_in3 (List.mem_of_getElem? (i := 66) rfl)) rfl
set_option maxRecDepth 20000 in
theorem tc_M_resource : Cond.code by_M_resource bc_M_resource 4 (some .boolean) ∈ lw_g := lw_gd (lw_in3 (List.mem_of_getElem? (i := 83) rfl)) rfl
set_option maxRecDepth 20000 in
theorem tc_M_tank : Cond.code by_M_tank bc_M_tank 4 (some .boolean) ∈ lw_g := lw_gd (lw_in3 (List.mem_of_getElem? (i := 111) rfl)) rfl
set_option maxRecDepth 20000 in
theorem tc_M_enter : Cond.code by_M_enter bc_M_enter 5 none ∈ lw_g := lw_gd (lw_in3 (List.mem_of_getElem? (i := 107) rfl)) rfl
theorem ts_M_enter : Cond.selects bR_M by_M_enter by_M_enter ∈ lw_g := lw_gd (lw_sel (q := (by_M_enter, 27)) (by decide +kernel)) rfl
set_option maxRecDepth 20000 in
theorem tc_M_sooner : Cond.code by_M_sooner bc_M_sooner 3 (some .boolean) ∈ lw_g := lw_gd (lw_in3 (List.mem_of_getElem? (i := 124) rfl)) rfl
theorem ts_M_sooner : Cond.selects bR_M by_M_sooner by_M_sooner ∈ lw_g := lw_gd (lw_sel (q := (by_M_sooner, 27)) (by decide +kernel)) rfl
set_option maxRecDepth 20000 in
theorem tc_M_first : Cond.code by_M_first bc_M_first 3 (some .int) ∈ lw_g := lw_gd (lw_in3 (List.mem_of_getElem? (i := 120) rfl)) rfl
theorem ts_M_first : Cond.selects bR_M by_M_first by_M_first ∈ lw_g := lw_gd (lw_sel (q := (by_M_first, 27)) (by decide +kernel)) rfl
set_option maxRecDepth 20000 in
theorem tc_M_seized : Cond.code by_M_seized bc_M_seized 4 (some .int) ∈ lw_g := lw_gd (lw_in3 (List.mem_of_getElem? (i := 87) rfl)) rfl
theorem ts_M_seized : Cond.selects bR_M by_M_seized by_M_seized ∈ lw_g := lw_gd (lw_sel (q := (by_M_seized, 27)) (by decide +kernel)) rfl
set_option maxRecDepth 20000 in
theorem tc_M_rest : Cond.code by_M_rest bc_M_rest 2 (some .int) ∈ lw_g := lw_gd (lw_in3 (List.mem_of_getElem? (i := 103) rfl)) rfl
theorem ts_M_rest : Cond.selects bR_M by_M_rest by_M_rest ∈ lw_g := lw_gd (lw_sel (q := (by_M_rest, 27)) (by decide +kernel)) rfl
set_option maxRecDepth 20000 in
theorem tc_M_done : Cond.code by_M_done bc_M_done 2 (some .int) ∈ lw_g := lw_gd (lw_in3 (List.mem_of_getElem? (i := 99) rfl)) rfl
theorem ts_M_done : Cond.selects bR_M by_M_done by_M_done ∈ lw_g := lw_gd (lw_sel (q := (by_M_done, 27)) (by decide +kernel)) rfl
set_option maxRecDepth 20000 in
theorem tc_M_head : Cond.code by_M_head bc_M_head 4 (some .int) ∈ lw_g := lw_gd (lw_in3 (List.mem_of_getElem? (i := 95) rfl)) rfl
theorem ts_M_head : Cond.selects bR_M by_M_head by_M_head ∈ lw_g := lw_gd (lw_sel (q := (by_M_head, 27)) (by decide +kernel)) rfl
set_option maxRecDepth 20000 in
theorem tc_M_serve : Cond.code by_M_serve bc_M_serve 4 none ∈ lw_g := lw_gd (lw_in3 (List.mem_of_getElem? (i := 91) rfl)) rfl
theorem ts_M_serve : Cond.selects bR_M by_M_serve by_M_serve ∈ lw_g := lw_gd (lw_sel (q := (by_M_serve, 27)) (by decide +kernel)) rfl
set_option maxRecDepth 20000 in
theorem tc_M_seize : Cond.code by_M_seize bc_M_seize 6 (some .boolean) ∈ lw_g := lw_gd (lw_in3 (List.mem_of_getElem? (i := 144) rfl)) rfl
theorem ts_M_seize : Cond.selects bR_M by_M_seize by_M_seize ∈ lw_g := lw_gd (lw_sel (q := (by_M_seize, 27)) (by decide +kernel)) rfl
set_option maxRecDepth 20000 in
theorem tc_M_reach : Cond.code by_M_reach bc_M_reach 5 (some .int) ∈ lw_g := lw_gd (lw_in3 (List.mem_of_getElem? (i := 148) rfl)) rfl
theorem ts_M_reach : Cond.selects bR_M by_M_reach by_M_reach ∈ lw_g := lw_gd (lw_sel (q := (by_M_reach, 27)) (by decide +kernel)) rfl
set_option maxRecDepth 20000 in
theorem tc_M_victim : Cond.code by_M_victim bc_M_victim 5 (some .int) ∈ lw_g := lw_gd (lw_in3 (List.mem_of_getElem? (i := 156) rfl)) rfl
theorem ts_M_victim : Cond.selects bR_M by_M_victim by_M_victim ∈ lw_g := lw_gd (lw_sel (q := (by_M_victim, 27)) (by decide +kernel)) rfl
set_option maxRecDepth 20000 in
theorem tc_M_preempt : Cond.code by_M_preempt bc_M_preempt 7 none ∈ lw_g := lw_gd (lw_in3 (List.mem_of_getElem? (i := 152) rfl)) rfl
theorem ts_M_preempt : Cond.selects bR_M by_M_preempt by_M_preempt ∈ lw_g := lw_gd (lw_sel (q := (by_M_preempt, 27)) (by decide +kernel)) rfl
set_option maxRecDepth 20000 in
theorem tc_M_release : Cond.code by_M_release bc_M_release 5 none ∈ lw_g := lw_gd (lw_in3 (List.mem_of_getElem? (i := 164) rfl)) rfl
theorem ts_M_release : Cond.selects bR_M by_M_release by_M_release ∈ lw_g := lw_gd (lw_sel (q := (by_M_release, 27)) (by decide +kernel)) rfl
set_option maxRecDepth 20000 in
theorem tc_M_holds : Cond.code by_M_holds bc_M_holds 3 (some .boolean) ∈ lw_g := lw_gd (lw_in3 (List.mem_of_getElem? (i := 176) rfl)) rfl
theorem ts_M_holds : Cond.selects bR_M by_M_holds by_M_holds ∈ lw_g := lw_gd (lw_sel (q := (by_M_holds, 27)) (by decide +kernel)) rfl
set_option maxRecDepth 20000 in
theorem tc_M_pour : Cond.code by_M_pour bc_M_pour 2 none ∈ lw_g := lw_gd (lw_in3 (List.mem_of_getElem? (i := 180) rfl)) rfl
theorem ts_M_pour : Cond.selects bR_M by_M_pour by_M_pour ∈ lw_g := lw_gd (lw_sel (q := (by_M_pour, 27)) (by decide +kernel)) rfl
set_option maxRecDepth 20000 in
theorem tc_M_goOver : Cond.code by_M_goOver bc_M_goOver 5 none ∈ lw_g := lw_gd (lw_in3 (List.mem_of_getElem? (i := 184) rfl)) rfl
theorem ts_M_goOver : Cond.selects bR_M by_M_goOver by_M_goOver ∈ lw_g := lw_gd (lw_sel (q := (by_M_goOver, 27)) (by decide +kernel)) rfl
set_option maxRecDepth 20000 in
theorem tc_M_perform : Cond.code by_M_perform bc_M_perform 4 (some .boolean) ∈ lw_g := lw_gd (lw_in3 (List.mem_of_getElem? (i := 140) rfl)) rfl
theorem ts_M_perform : Cond.selects bR_M by_M_perform by_M_perform ∈ lw_g := lw_gd (lw_sel (q := (by_M_perform, 27)) (by decide +kernel)) rfl
set_option maxRecDepth 20000 in
theorem tc_M_turn : Cond.code by_M_turn bc_M_turn 3 none ∈ lw_g := lw_gd (lw_in3 (List.mem_of_getElem? (i := 136) rfl)) rfl
theorem ts_M_turn : Cond.selects bR_M by_M_turn by_M_turn ∈ lw_g := lw_gd (lw_sel (q := (by_M_turn, 27)) (by decide +kernel)) rfl
set_option maxRecDepth 20000 in
theorem tc_M_advance : Cond.code by_M_advance bc_M_advance 4 none ∈ lw_g := lw_gd (lw_in3 (List.mem_of_getElem? (i := 132) rfl)) rfl
theorem ts_M_advance : Cond.selects bR_M by_M_advance by_M_advance ∈ lw_g := lw_gd (lw_sel (q := (by_M_advance, 27)) (by decide +kernel)) rfl
set_option maxRecDepth 20000 in
theorem tc_M_event : Cond.code by_M_event bc_M_event 3 none ∈ lw_g := lw_gd (lw_in3 (List.mem_of_getElem? (i := 128) rfl)) rfl
theorem ts_M_event : Cond.selects bR_M by_M_event by_M_event ∈ lw_g := lw_gd (lw_sel (q := (by_M_event, 27)) (by decide +kernel)) rfl
set_option maxRecDepth 20000 in
theorem tc_M_run : Cond.code by_M_run bc_M_run 6 (some .int) ∈ lw_g := lw_gd (lw_in3 (List.mem_of_getElem? (i := 115) rfl)) rfl
set_option maxRecDepth 20000 in
theorem tc_M_activate : Cond.code by_M_activate bc_M_activate 3 (some .boolean) ∈ lw_g := lw_gd (lw_in3 (List.mem_of_getElem? (i := 168) rfl)) rfl
set_option maxRecDepth 20000 in
theorem tc_M_interrupt : Cond.code by_M_interrupt bc_M_interrupt 3 (some .boolean) ∈ lw_g := lw_gd (lw_in3 (List.mem_of_getElem? (i := 160) rfl)) rfl
set_option maxRecDepth 20000 in
theorem tc_M_kill : Cond.code by_M_kill bc_M_kill 4 (some .boolean) ∈ lw_g := lw_gd (lw_in3 (List.mem_of_getElem? (i := 172) rfl)) rfl
set_option maxRecDepth 20000 in
theorem tc_M_now : Cond.code by_M_now bc_M_now 1 (some .long) ∈ lw_g := lw_gd (lw_in3 (List.mem_of_getElem? (i := 191) rfl)) rfl
set_option maxRecDepth 20000 in
theorem tc_M_next : Cond.code by_M_next bc_M_next 2 (some .long) ∈ lw_g := lw_gd (lw_in3 (List.mem_of_getElem? (i := 195) rfl)) rfl
set_option maxRecDepth 20000 in
theorem tc_M_state : Cond.code by_M_state bc_M_state 2 (some .int) ∈ lw_g := lw_gd (lw_in3 (List.mem_of_getElem? (i := 200) rfl)) rfl
set_option maxRecDepth 20000 in
theorem tc_M_place : Cond.code by_M_place bc_M_place 2 (some .int) ∈ lw_g := lw_gd (lw_in3 (List.mem_of_getElem? (i := 204) rfl)) rfl
set_option maxRecDepth 20000 in
theorem tc_M_held : Cond.code by_M_held bc_M_held 3 (some .int) ∈ lw_g := lw_gd (lw_in3 (List.mem_of_getElem? (i := 208) rfl)) rfl
set_option maxRecDepth 20000 in
theorem tc_M_free : Cond.code by_M_free bc_M_free 2 (some .int) ∈ lw_g := lw_gd (lw_in3 (List.mem_of_getElem? (i := 212) rfl)) rfl
set_option maxRecDepth 20000 in
theorem tc_M_waiting : Cond.code by_M_waiting bc_M_waiting 5 (some .int) ∈ lw_g := lw_gd (lw_in3 (List.mem_of_getElem? (i := 216) rfl)) rfl
set_option maxRecDepth 20000 in
theorem tc_M_area : Cond.code by_M_area bc_M_area 2 (some .long) ∈ lw_g := lw_gd (lw_in3 (List.mem_of_getElem? (i := 220) rfl)) rfl
set_option maxRecDepth 20000 in
theorem tc_M_waited : Cond.code by_M_waited bc_M_waited 2 (some .long) ∈ lw_g := lw_gd (lw_in3 (List.mem_of_getElem? (i := 224) rfl)) rfl
set_option maxRecDepth 20000 in
theorem tc_M_level : Cond.code by_M_level bc_M_level 2 (some .int) ∈ lw_g := lw_gd (lw_in3 (List.mem_of_getElem? (i := 228) rfl)) rfl
set_option maxRecDepth 20000 in
theorem tc_M_stuck : Cond.code by_M_stuck bc_M_stuck 3 (some .boolean) ∈ lw_g := lw_gd (lw_in3 (List.mem_of_getElem? (i := 232) rfl)) rfl
set_option maxRecDepth 20000 in
theorem tc_M_traced : Cond.code by_M_traced bc_M_traced 2 (some .int) ∈ lw_g := lw_gd (lw_in3 (List.mem_of_getElem? (i := 236) rfl)) rfl
set_option maxRecDepth 20000 in
theorem tc_L_init : Cond.code by_L_init bc_L_init 1 none ∈ lw_g := lw_gd (lw_in1 (List.mem_of_getElem? (i := 27) rfl)) rfl
set_option maxRecDepth 20000 in
theorem tc_L_insert : Cond.code by_L_insert bc_L_insert 4 none ∈ lw_g := lw_gd (lw_in2 (List.mem_of_getElem? (i := 129) rfl)) rfl
set_option maxRecDepth 20000 in
theorem tc_L_drop : Cond.code by_L_drop bc_L_drop 4 none ∈ lw_g := lw_gd (lw_in2 (List.mem_of_getElem? (i := 11) rfl)) rfl
set_option maxRecDepth 20000 in
theorem tc_P_init : Cond.code by_P_init bc_P_init 2 none ∈ lw_g := lw_gd (lw_in1 (List.mem_of_getElem? (i := 58) rfl)) rfl
set_option maxRecDepth 20000 in
theorem tc_P_append : Cond.code by_P_append bc_P_append 4 none ∈ lw_g := lw_gd (lw_in1 (List.mem_of_getElem? (i := 227) rfl)) rfl
set_option maxRecDepth 20000 in
theorem tc_P_firstOperand : Cond.code by_P_firstOperand bc_P_firstOperand 1 (some .int) ∈ lw_g := lw_gd (lw_in2 (List.mem_of_getElem? (i := 39) rfl)) rfl
set_option maxRecDepth 20000 in
theorem tc_P_secondOperand : Cond.code by_P_secondOperand bc_P_secondOperand 1 (some .int) ∈ lw_g := lw_gd (lw_in1 (List.mem_of_getElem? (i := 239) rfl)) rfl
set_option maxRecDepth 20000 in
theorem tc_P_isOver : Cond.code by_P_isOver bc_P_isOver 1 (some .boolean) ∈ lw_g := lw_gd (lw_in2 (List.mem_of_getElem? (i := 51) rfl)) rfl
set_option maxRecDepth 20000 in
theorem tc_P_isBreakable : Cond.code by_P_isBreakable bc_P_isBreakable 1 (some .boolean) ∈ lw_g := lw_gd (lw_in2 (List.mem_of_getElem? (i := 31) rfl)) rfl
set_option maxRecDepth 20000 in
theorem tc_P_isBefore : Cond.code by_P_isBefore bc_P_isBefore 2 (some .boolean) ∈ lw_g := lw_gd (lw_in2 (List.mem_of_getElem? (i := 75) rfl)) rfl
set_option maxRecDepth 20000 in
theorem tc_P_beginRound : Cond.code by_P_beginRound bc_P_beginRound 1 (some .boolean) ∈ lw_g := lw_gd (lw_in2 (List.mem_of_getElem? (i := 151) rfl)) rfl
set_option maxRecDepth 20000 in
theorem tc_E_init : Cond.code by_E_init bc_E_init 1 none ∈ lw_g := lw_gd (lw_in1 (List.mem_of_getElem? (i := 128) rfl)) rfl
set_option maxRecDepth 20000 in
theorem tc_E_unseized : Cond.code by_E_unseized bc_E_unseized 1 (some .int) ∈ lw_g := lw_gd (lw_in2 (List.mem_of_getElem? (i := 3) rfl)) rfl
set_option maxRecDepth 20000 in
theorem tc_T_init : Cond.code by_T_init bc_T_init 1 none ∈ lw_g := lw_gd (lw_in1 (List.mem_of_getElem? (i := 160) rfl)) rfl
set_option maxRecDepth 20000 in
theorem tc_T_put : Cond.code by_T_put bc_T_put 2 (some .boolean) ∈ lw_g := lw_gd (lw_in2 (List.mem_of_getElem? (i := 137) rfl)) rfl
set_option maxRecDepth 20000 in
theorem tc_T_take : Cond.code by_T_take bc_T_take 2 (some .boolean) ∈ lw_g := lw_gd (lw_in2 (List.mem_of_getElem? (i := 141) rfl)) rfl
set_option maxRecDepth 20000 in
theorem tc_C_init : Cond.code by_C_init bc_C_init 1 none ∈ lw_g := lw_gd (lw_in1 (List.mem_of_getElem? (i := 43) rfl)) rfl
set_option maxRecDepth 20000 in
theorem tc_C_add : Cond.code by_C_add bc_C_add 2 none ∈ lw_g := lw_gd (lw_in2 (List.mem_of_getElem? (i := 87) rfl)) rfl
set_option maxRecDepth 20000 in
theorem tc_C_before : Cond.code by_C_before bc_C_before 2 (some .int) ∈ lw_g := lw_gd (lw_in2 (List.mem_of_getElem? (i := 208) rfl)) rfl
set_option maxRecDepth 20000 in
theorem tw_min : Cond.code Lib.Math.min.name Lib.Math.min.code 2 (some .int) ∈ lw_g := lw_gd (lw_in2 (List.mem_of_getElem? (i := 58) rfl)) rfl
theorem bin_K : ∀ w ∈ u_ws bR_K bT_K 9, w ∈ lw_g := fun w hw => by
  obtain ⟨k, hk, rfl⟩ := List.mem_map.mp hw
  have hk := List.mem_range.mp hk
  match k, hk with
  | 0, _ => exact tw_1_180
  | 1, _ => exact tw_1_182
  | 2, _ => exact tw_1_184
  | 3, _ => exact tw_1_186
  | 4, _ => exact tw_1_188
  | 5, _ => exact tw_1_190
  | 6, _ => exact tw_1_192
  | 7, _ => exact tw_1_194
  | 8, _ => exact tw_1_196
  | k + 9, hk => exact absurd hk (by omega)
theorem bin_M : ∀ w ∈ u_ws bR_M bT_M 27, w ∈ lw_g := fun w hw => by
  obtain ⟨k, hk, rfl⟩ := List.mem_map.mp hw
  have hk := List.mem_range.mp hk
  match k, hk with
  | 0, _ => exact tw_3_2
  | 1, _ => exact tw_3_4
  | 2, _ => exact tw_3_6
  | 3, _ => exact tw_3_8
  | 4, _ => exact tw_3_10
  | 5, _ => exact tw_3_12
  | 6, _ => exact tw_3_14
  | 7, _ => exact tw_3_16
  | 8, _ => exact tw_3_18
  | 9, _ => exact tw_3_20
  | 10, _ => exact tw_3_22
  | 11, _ => exact tw_3_24
  | 12, _ => exact tw_3_26
  | 13, _ => exact tw_3_28
  | 14, _ => exact tw_3_30
  | 15, _ => exact tw_3_32
  | 16, _ => exact tw_3_34
  | 17, _ => exact tw_3_36
  | 18, _ => exact tw_3_38
  | 19, _ => exact tw_3_40
  | 20, _ => exact tw_3_42
  | 21, _ => exact tw_3_44
  | 22, _ => exact tw_3_46
  | 23, _ => exact tw_3_48
  | 24, _ => exact tw_3_50
  | 25, _ => exact tw_3_52
  | 26, _ => exact tw_3_54
  | k + 27, hk => exact absurd hk (by omega)
theorem bin_L : ∀ w ∈ u_ws bR_L bT_L 2, w ∈ lw_g := fun w hw => by
  obtain ⟨k, hk, rfl⟩ := List.mem_map.mp hw
  have hk := List.mem_range.mp hk
  match k, hk with
  | 0, _ => exact tw_1_33
  | 1, _ => exact tw_1_35
  | k + 2, hk => exact absurd hk (by omega)
theorem bin_P : ∀ w ∈ u_ws bR_P bT_P 16, w ∈ lw_g := fun w hw => by
  obtain ⟨k, hk, rfl⟩ := List.mem_map.mp hw
  have hk := List.mem_range.mp hk
  match k, hk with
  | 0, _ => exact tw_1_92
  | 1, _ => exact tw_1_94
  | 2, _ => exact tw_1_96
  | 3, _ => exact tw_1_98
  | 4, _ => exact tw_1_100
  | 5, _ => exact tw_1_102
  | 6, _ => exact tw_1_104
  | 7, _ => exact tw_1_106
  | 8, _ => exact tw_1_108
  | 9, _ => exact tw_1_110
  | 10, _ => exact tw_1_112
  | 11, _ => exact tw_1_114
  | 12, _ => exact tw_1_116
  | 13, _ => exact tw_1_118
  | 14, _ => exact tw_1_120
  | 15, _ => exact tw_1_122
  | k + 16, hk => exact absurd hk (by omega)
theorem bin_E : ∀ w ∈ u_ws bR_E bT_E 6, w ∈ lw_g := fun w hw => by
  obtain ⟨k, hk, rfl⟩ := List.mem_map.mp hw
  have hk := List.mem_range.mp hk
  match k, hk with
  | 0, _ => exact tw_1_144
  | 1, _ => exact tw_1_146
  | 2, _ => exact tw_1_148
  | 3, _ => exact tw_1_150
  | 4, _ => exact tw_1_152
  | 5, _ => exact tw_1_154
  | k + 6, hk => exact absurd hk (by omega)
theorem bin_T : ∀ w ∈ u_ws bR_T bT_T 2, w ∈ lw_g := fun w hw => by
  obtain ⟨k, hk, rfl⟩ := List.mem_map.mp hw
  have hk := List.mem_range.mp hk
  match k, hk with
  | 0, _ => exact tw_1_166
  | 1, _ => exact tw_1_168
  | k + 2, hk => exact absurd hk (by omega)
theorem bin_C : ∀ w ∈ u_ws bR_C bT_C 3, w ∈ lw_g := fun w hw => by
  obtain ⟨k, hk, rfl⟩ := List.mem_map.mp hw
  have hk := List.mem_range.mp hk
  match k, hk with
  | 0, _ => exact tw_1_48
  | 1, _ => exact tw_1_50
  | 2, _ => exact tw_1_52
  | k + 3, hk => exact absurd hk (by omega)
end
